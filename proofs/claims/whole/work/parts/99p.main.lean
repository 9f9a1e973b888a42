/-! THE LAW, run -/
theorem dy_two : ∃ M1 M2, db_ev none 15000 35 dbm_0 0 (lv_args 0 [.ref 4]) [] dy_M0 = some (none, M1) ∧ M1.1 = 669 ∧ M1.2.1 = 9847 ∧ db_ev none 15000 35 dbm_206 0 (lv_args 0 [.ref 669]) [] (dy_N M1.2.2) = some (none, M2) ∧ dy_all (some (none, M2)) = true := by
  obtain ⟨M1, M2, e1, a1, a2, e2, h⟩ := dy_2_e dy_t
  have e2 : du_ev none 15000 35 dbm_206 0 (lv_args 0 [.ref 669]) [] (dy_N M1.2.2) = some (none, M2) := e2
  rw [du_ev_e] at e1 e2
  exact ⟨M1, M2, e1, a1, a2, e2, h⟩
theorem dy_nrm {X : db_X} {n d : Nat} {mr : db_MR} {pc : Nat} {lv lv1 : db_V} {st : List Value} {i : Instr} {ks : Option (List Nat)} {μ : db_H} {z} (hf : db_fi pc mr.2.2.2.2.2.1 = some (i, ks)) (hn : db_nrm lv ks = some lv1) (hn1 : db_nrm lv1 ks = some lv1) (h : db_ev X n d mr pc lv1 st μ = some z) : db_ev X n d mr pc lv st μ = some z := by
  cases n with
  | zero => simp [db_ev] at h
  | succ n =>
    rw [db_ev] at h ⊢
    simp only [hf, hn, hn1] at h ⊢
    exact h
theorem dy_main : db_Main := by
  intro L xs hL
  obtain ⟨M1, M2, e1, a1, a2, e2, ha⟩ := dy_two
  unfold dy_all at ha
  simp only [Bool.and_eq_true] at ha
  obtain ⟨b1, b2, b3, b4⟩ := ha
  have b1 := Nat.eq_of_beq_eq_true b1
  have b2 := Nat.eq_of_beq_eq_true b2
  have hI := dy_Inv b4
  have hH : dy_H (db_me (dy_ex M2)) M2 := ⟨b1.symm, b2.symm, fun i h1 h2 => by
    have h2 : i < 685 := h2
    have h3 := List.all_eq_true.mp b3 (i - 4) (List.mem_range.mpr (by omega))
    rw [show i - 4 + 4 = i by omega] at h3
    exact dy_ck_ok h3⟩
  obtain ⟨s', es⟩ := dx_law (xs := xs) hL 513 0 600 (dy_ex M2) (by omega) (by omega) (by omega) hI
  obtain ⟨n1, hn1⟩ := db_law_b18_ok (X := some (L, xs)) (d := 0) 601 (dy_ex M2) (nI 0) (true, s') es
  obtain ⟨⟨r1, m1, sl1, h1⟩, f1, g1, g2⟩ := dy_ev (X := none) (X' := some (L, xs)) (.inl rfl) 15000 35 dbm_0 0 (lv_args 0 [.ref 4]) [] dy_M0 dy_M0 ⟨rfl, rfl, fun _ _ _ => dy_E_r⟩ (none, M1) e1
  have g1 : none = r1 := g1
  subst g1
  have k1 : M1.1 = m1 := g2.1
  have k2 : M1.2.1 = sl1 := g2.2.1
  rw [a1] at k1
  rw [a2] at k2
  subst k1
  subst k2
  have hN : dy_H (dy_N M1.2.2) (dy_N h1) := (dy_up (m := 669) (sl := 9847) (N := 46) fun i i1 i2 => g2.2.2 i i1 (by show i < M1.1; rw [a1]; exact i2)).2
  obtain ⟨⟨r2, m2, sl2, h2⟩, f2, g3, g4⟩ := dy_ev (X := none) (X' := some (L, xs)) (.inl rfl) 15000 35 dbm_206 0 (lv_args 0 [.ref 669]) [] (dy_N M1.2.2) (dy_N h1) hN (none, M2) e2
  have g3 : none = r2 := g3
  subst g3
  have k3 : M2.1 = m2 := g4.1
  have k4 : M2.2.1 = sl2 := g4.2.1
  rw [b1] at k3
  rw [b2] at k4
  subst k3
  subst k4
  obtain ⟨⟨r3, ν3⟩, f3, g5, g6⟩ := dy_ev (X := some (L, xs)) (X' := some (L, xs)) (.inr rfl) n1 36 dbm_378 18 [(0, .ref 0), (1, .ref 4), (2, .ref 669), (3, .int (nI 0))] [] (db_me (dy_ex M2)) (685, 28467, h2) (dy_H_t hH g4) _ hn1
  have g5 : some (.int 1) = r3 := g5
  subst g5
  have f4 := dy_nrm (lv := [(3, .int (nI 0)), (2, .ref 669), (1, .ref 4), (0, .ref 0)]) (i := .iload_n 3) (ks := some [0, 1, 2, 3]) rfl rfl rfl f3
  obtain ⟨n5, f5⟩ := db_go_ev (k := 3) (c := (15, [(1, .ref 4), (0, .ref 0)], [.ref 669], (685, 28467, h2))) (c' := (18, [(3, .int (nI 0)), (2, .ref 669), (1, .ref 4), (0, .ref 0)], [], (685, 28467, h2))) rfl f4
  obtain ⟨n6, f6⟩ := dy_call (mr := dbm_378) (pc := 12) (lv := [(1, .ref 4), (0, .ref 0)]) (st := [.ref 669, .ref 669]) (i := .invokespecial 12) (ks := none) (rest := [.ref 669]) rfl rfl rfl rfl f2 f5
  obtain ⟨n7, f7⟩ := db_go_ev (k := 3) (c := (7, [(0, .ref 0)], [.ref 4], (669, 9847, h1))) (c' := (12, [(1, .ref 4), (0, .ref 0)], [.ref 669, .ref 669], dy_N h1)) rfl f6
  obtain ⟨n8, f8⟩ := dy_call (mr := dbm_378) (pc := 4) (lv := [(0, .ref 0)]) (st := [.ref 4, .ref 4]) (i := .invokespecial 9) (ks := none) (rest := [.ref 4]) rfl rfl rfl rfl f1 f7
  obtain ⟨n9, f9⟩ := db_go_ev (k := 2) (c := (0, [(0, .ref 0)], [], (4, 0, fun _ => .inr (0, [])))) (c' := (4, [(0, .ref 0)], [.ref 4, .ref 4], dy_M0)) rfl f8
  refine ⟨n9, 36, ν3, by omega, f9, ?_, ?_⟩
  · have : ν3.1 = 685 := g6.1.symm
    omega
  · have : ν3.2.1 = 28467 := g6.2.1.symm
    omega
