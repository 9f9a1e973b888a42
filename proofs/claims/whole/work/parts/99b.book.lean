/-! BOOK: the call, its end -/
section DVBE
variable {U : Nat} {a b a0 b0 a1 b1 s t z y : db_S} {x : Nat → Int32} {n n0 i k : Nat} {v u q p : Int32} {c : db_C} {w : Nat → Int64}
/-- the class takes its draft -/
theorem dv_take (y : db_S) : ∃ Z, (∀ v, ((db_f82_20_146 y).bind fun s7 => ((db_f85_80 s7).bind fun s9 => ((db_f86_83 s9).bind fun s11 => ((db_rI s11 21 (3 : Int32)).bind fun x12 => (db_bd (db_f87 s11 x12) fun q13 s14 => (some (q13, s14))))))) = some (v, db_uI Z 4 0 (nI 0)) ↔ v = Z.1 21 3) ∧ (∀ e j, dw_in e j → e ≠ 60 → e ≠ 63 → e < 59 → Z.1 (20 + e) j = y.1 (146 + e) j) ∧ (∀ j, j < 37 → Z.2 76 j = y.2 202 j) ∧ (∀ j, j < 12 → Z.1 81 j = nI 0) ∧ (∀ j, j < 4 → Z.1 82 j = nI 0) ∧ Z.1 80 2 = nI 0 ∧ Z.1 80 3 = nI 0 ∧ (Z.1 83 0 = nI 0 ∧ Z.1 83 1 = nI 0 ∧ Z.1 83 2 = nI 0) ∧ (∀ c, ¬ (20 ≤ c ∧ c ≤ 144) → Z.1 c = y.1 c) ∧ ∀ c, c ≠ 76 → Z.2 c = y.2 c := by
  obtain ⟨z1, e1, p1, p2, p3, p4, p5⟩ := dw_82_ok (a := 146) (d := 20) (s := y) (z := y) dw_pr_0 (.inr (by omega)) dw_Sh_146 dw_Sh_20
  have e1 : db_f82_20_146 y = some z1 := e1
  obtain ⟨z2, e2, f1, f2⟩ := db_2 (s := z1) (a := 81) (L := 12) (v := nI 0) rfl rfl rfl (by omega)
  obtain ⟨z3, e3, g1, g2⟩ := db_2 (s := z2) (a := 82) (L := 4) (v := nI 0) rfl rfl rfl (by omega)
  have hz3 : ∀ c, c ≠ 81 → c ≠ 82 → z3.1 c = z1.1 c := fun c c1 c2 => by rw [g1.1 c c2, f1.1 c c1]
  have hz32 : z3.2 = z1.2 := by rw [g1.2, f1.2]
  have hZ : ∀ c, c ≠ 80 → c ≠ 81 → c ≠ 82 → c ≠ 83 → (db_uI (db_uI (db_uI (db_uI (db_uI z3 80 2 (nI 0)) 80 3 (nI 0)) 83 0 (nI 0)) 83 1 (nI 0)) 83 2 (nI 0)).1 c = z1.1 c := fun c c1 c2 c3 c4 => by rw [db_uI_n c4, db_uI_n c4, db_uI_n c4, db_uI_n c1, db_uI_n c1, hz3 c c2 c3]
  have hZ2 : (db_uI (db_uI (db_uI (db_uI (db_uI z3 80 2 (nI 0)) 80 3 (nI 0)) 83 0 (nI 0)) 83 1 (nI 0)) 83 2 (nI 0)).2 = z1.2 := hz32
  refine ⟨db_uI (db_uI (db_uI (db_uI (db_uI z3 80 2 (nI 0)) 80 3 (nI 0)) 83 0 (nI 0)) 83 1 (nI 0)) 83 2 (nI 0), fun v => ?_, fun e j hj h60 h63 h59 => ?_, fun j hj => ?_, fun j hj => ?_, fun j hj => ?_, ?_, ?_, ⟨?_, ?_, ?_⟩, fun c hc => ?_, fun c hc => ?_⟩
  · rw [e1]
    unfold db_f85_80 db_f86_83
    simp (disch := omega) only [db_lit, eq_self, db_pI_e, db_pL_e, db_bind_some, db_bd_some, nI_add, pk_mul, nI_toInt, db_m1_t, dz_cn, Int.ofNat_le, Int.ofNat_lt, decide_true, decide_false, db_ct, db_cf, not_true_eq_false, not_false_eq_true, db_87e, db_37e, db_31e, db_28e, db_281e, db_211e, db_27, db_269w, db_litL, pk_lT, db_iL, db_p0_e, db_p0_n, db_p0_j, db_sub1, nI_eq, if_true, if_false, Bool.false_eq_true, Nat.one_ne_zero, e2, e3, db_g_21]
    rw [Option.some.injEq, Prod.mk.injEq]
    exact ⟨fun h => h.1.symm, fun h => ⟨h.symm, rfl⟩⟩
  · rw [hZ (20 + e) (by omega) (by omega) (by omega) (by omega)]
    by_cases e0 : e = 0
    · subst e0
      unfold dw_in at hj
      rcases (by omega : j = 13 ∨ j = 14 ∨ j = 18) with rfl | rfl | rfl
      · exact p4 0 (by omega)
      · exact p4 1 (by omega)
      · exact p4 2 (by omega)
    · exact p3 e j hj e0 h60 h63 h59
  · rw [hZ2]
    exact p5 (by omega) j hj
  · rw [db_uI_n (by decide), db_uI_n (by decide), db_uI_n (by decide), db_uI_n (by decide), db_uI_n (by decide), g1.1 81 (by decide)]
    exact f2 j hj
  · rw [db_uI_n (by decide), db_uI_n (by decide), db_uI_n (by decide), db_uI_n (by decide), db_uI_n (by decide)]
    exact g2 j hj
  · rw [db_uI_n (by decide), db_uI_n (by decide), db_uI_n (by decide), db_uI_j (by decide), db_uI_1]
  · rw [db_uI_n (by decide), db_uI_n (by decide), db_uI_n (by decide), db_uI_1]
  · rw [db_uI_j (by decide), db_uI_j (by decide), db_uI_1]
  · rw [db_uI_j (by decide), db_uI_1]
  · rw [db_uI_1]
  · rw [hZ c (by omega) (by omega) (by omega) (by omega)]
    exact p1 c (by omega)
  · rw [hZ2]
    exact p2 c hc
theorem db_k8 (hI : db_Inv U s) : dz_G U s (fun s => db_f44 s v) (fun s => db_f221 s v) := by
  obtain ⟨n0, hn0, h13, h669, hby⟩ := hI.2.2.2.1
  have hkw := hI.2.2.2.2.2.1
  cases hw : db_wi v ((0 : Nat) : Int) ((n0 : Nat) : Int) with
  | false =>
    refine db_Gn 5 hI ?_ fun s1 hS hA => ?_
    · unfold db_f44
      simp (disch := omega) only [db_lit, eq_self, db_pI_e, db_pL_e, db_bind_some, db_bd_some, nI_add, pk_mul, nI_toInt, db_m1_t, dz_cn, Int.ofNat_le, Int.ofNat_lt, decide_true, decide_false, db_ct, db_cf, not_true_eq_false, not_false_eq_true, db_87e, db_37e, db_31e, db_28e, db_281e, db_211e, db_27, db_269w, db_litL, pk_lT, db_iL, db_p0_e, db_p0_n, db_p0_j, db_sub1, nI_eq, if_true, if_false, Bool.false_eq_true, Nat.one_ne_zero, h13, hw]
    · have h8 : (db_p0 s1).1 669 8 = nI n0 := by rw [db_p0_j (by decide) (by decide), (hS.1 669 8 (by unfold db_ec; omega) (by omega)).1]; exact h669
      have e222 := dv_222f (s := db_p0 s1) (v := v) (M := 900) (by omega) h8 hn0 (by rw [hw, Bool.false_and])
      unfold db_f221
      simp (disch := omega) only [db_lit, eq_self, db_pI_e, db_pL_e, db_bind_some, db_bd_some, nI_add, pk_mul, nI_toInt, db_m1_t, dz_cn, Int.ofNat_le, Int.ofNat_lt, decide_true, decide_false, db_ct, db_cf, not_true_eq_false, not_false_eq_true, db_87e, db_37e, db_31e, db_28e, db_281e, db_211e, db_27, db_269w, db_litL, pk_lT, db_iL, db_p0_e, db_p0_n, db_p0_j, db_sub1, nI_eq, if_true, if_false, Bool.false_eq_true, Nat.one_ne_zero, e222]
  | true =>
    obtain ⟨n, hn, -, rfl⟩ := db_wi_t (by omega) (by decide) hw
    have hxs : ∀ j, j < n → s.1 14 j = s.1 14 j := fun _ _ => rfl
    have hxt : ∀ t : db_S, t.1 673 = s.1 673 → ∀ j, j < n0 → t.1 673 j = s.1 14 j ∧ -128 ≤ (s.1 14 j).toInt ∧ (s.1 14 j).toInt < 128 := fun t ht j hj => ⟨by rw [ht]; exact (hby j hj).1.symm, (hby j hj).2⟩
    obtain ⟨r, y, -, -, e45, -, hGa, -⟩ := dv_books (s := s) (t := s) (x := s.1 14) (n := n) hn0 (by omega) h669 (hxt s rfl) hxs hkw
    have hwi : db_wi (nI n) ((0 : Nat) : Int) ((n0 : Nat) : Int) = true := hw
    -- what both leave alone
    have hfin : ∀ (s1 z : db_S), (∀ c, c ≠ 4 → c ≠ 13 → ¬ (16 ≤ c ∧ c ≤ 19) → ¬ (20 ≤ c ∧ c ≤ 144) → ¬ (146 ≤ c ∧ c ≤ 270) → s1.1 c = s.1 c) → (∀ c, c ≠ 13 → ¬ (16 ≤ c ∧ c ≤ 19) → c ≠ 76 → ¬ (146 ≤ c ∧ c ≤ 270) → s1.2 c = s.2 c) → (∀ j, j ≠ 0 → s1.1 4 j = s.1 4 j) → s1.2 13 = s.2 13 → dv_Gb s1 z → ∀ a j, db_es a j → ¬ ((a = 4 ∧ j = 0) ∨ (a = 669 ∧ j = 0) ∨ (a = 13 ∧ j = 1) ∨ a = 14 ∨ (a = 669 ∧ j = 8) ∨ a = 673 ∨ (a = 13 ∧ (j = 2 ∨ j = 3)) ∨ (a = 669 ∧ (j = 10 ∨ j = 11)) ∨ (20 ≤ a ∧ a ≤ 144) ∨ (a = 674 ∧ j < 480) ∨ (a = 676 ∧ j < 37)) → z.1 a j = s.1 a j ∧ z.2 a j = s.2 a j := by
      intro s1 z k1 k2 k3 k4 ⟨q1, q2, q3, q4, q5, q6, q7⟩ a j he hne
      unfold db_es db_ec db_em at he
      by_cases h9 : a = 669
      · subst h9
        refine ⟨?_, ?_⟩
        · rw [q2 j (by omega) (by omega) (by omega) (by omega), k1 669 (by omega) (by omega) (by omega) (by omega) (by omega)]
        · rw [q3 j (by omega), k2 669 (by omega) (by omega) (by omega) (by omega)]
      · by_cases h4 : a = 674
        · subst h4
          refine ⟨?_, ?_⟩
          · rw [q4 j (by omega) (by omega), k1 674 (by omega) (by omega) (by omega) (by omega) (by omega)]
          · rw [q6, k2 674 (by omega) (by omega) (by omega) (by omega)]
        · by_cases h6 : a = 676
          · subst h6
            refine ⟨?_, ?_⟩
            · rw [q7, k1 676 (by omega) (by omega) (by omega) (by omega) (by omega)]
            · rw [q5 j (by omega) (by omega), k2 676 (by omega) (by omega) (by omega) (by omega)]
          · obtain ⟨c1, c2⟩ := q1 a h9 h4 h6
            rw [c1, c2]
            by_cases h40 : a = 4
            · subst h40
              exact ⟨k3 j (by omega), by rw [k2 4 (by omega) (by omega) (by omega) (by omega)]⟩
            · exact ⟨by rw [k1 a h40 (by omega) (by omega) (by omega) (by omega)], by rw [k2 a (by omega) (by omega) (by omega) (by omega)]⟩
    cases r with
    | false =>
      have e44 : db_f44 s (nI n) = some (-(nI 1), db_uI (db_uI y 13 1 (nI 0)) 4 0 (nI 10)) := by
        unfold db_f44
        simp (disch := omega) only [db_lit, eq_self, db_pI_e, db_pL_e, db_bind_some, db_bd_some, nI_add, pk_mul, nI_toInt, db_m1_t, dz_cn, Int.ofNat_le, Int.ofNat_lt, decide_true, decide_false, db_ct, db_cf, not_true_eq_false, not_false_eq_true, db_87e, db_37e, db_31e, db_28e, db_281e, db_211e, db_27, db_269w, db_litL, pk_lT, db_iL, db_p0_e, db_p0_n, db_p0_j, db_sub1, nI_eq, if_true, if_false, Bool.false_eq_true, Nat.one_ne_zero, h13, hwi, e45]
      have t8 : (db_uI (db_uI y 13 1 (nI 0)) 4 0 (nI 10)).1 669 8 = nI n0 := by rw [db_uI_n (by decide), db_uI_n (by decide), (hGa.1 669 (by decide) (by omega) (by omega)).1]; exact h669
      have t673 : (db_uI (db_uI y 13 1 (nI 0)) 4 0 (nI 10)).1 673 = s.1 673 := by rw [db_uI_n (by decide), db_uI_n (by decide), (hGa.1 673 (by decide) (by omega) (by omega)).1]
      obtain ⟨r, y', v', z, e45', e221, -, hGb, hz8, hf2, hf3, hor⟩ := dv_books (s := s) (t := db_uI (db_uI y 13 1 (nI 0)) 4 0 (nI 10)) (x := s.1 14) (n := n) hn0 (by omega) t8 (hxt _ t673) hxs hkw
      rw [e45] at e45'
      obtain ⟨hr, hy⟩ := Prod.mk.inj (Option.some.inj e45')
      subst hr
      subst hy
      rcases hor with ⟨h, -⟩ | ⟨-, rfl, g1, g2, g3⟩
      · cases h
      · refine ⟨-(nI 1), _, z, e44, e221, ?_⟩
        have hcl : ∀ c, c ≠ 669 → c ≠ 674 → c ≠ 676 → z.1 c = (db_uI (db_uI y 13 1 (nI 0)) 4 0 (nI 10)).1 c := fun c c1 c2 c3 => (hGb.1 c c1 c2 c3).1
        have hb := db_cur hI
        have ebk : db_bk z 0 = db_bk s 0 := by
          funext k
          unfold db_bk
          by_cases hk : k < 480
          · rw [if_pos hk, if_pos hk, show 480 * 0 + k = k by omega, g2 k hk, db_uI_n (by decide), db_uI_n (by decide), (hGa.1 674 (by decide) (by omega) (by omega)).1]
          · rw [if_neg hk, if_neg hk]
        have ebw : db_bw z 0 = db_bw s 0 := by
          funext k
          unfold db_bw
          by_cases hk : k < 37
          · rw [if_pos hk, if_pos hk, show 37 * 0 + k = k by omega, g3 k hk, db_uI_2, db_uI_2, (hGa.1 676 (by decide) (by omega) (by omega)).2]
          · rw [if_neg hk, if_neg hk]
        refine db_Inv_book hI (Nat.le_refl U) (hfin _ z (fun c c1 c2 c3 c4 c5 => ?_) (fun c c2 c3 c4 c5 => ?_) (fun j hj => ?_) ?_ hGb) ?_ ⟨0, by omega, ?_, hz8, fun k hk => absurd hk (by omega)⟩ ⟨?_, ?_⟩ ?_
        · rw [db_uI_n c1, db_uI_n c2, (hGa.1 c c2 c3 c5).1]
        · rw [db_uI_2, db_uI_2, (hGa.1 c c2 c3 c5).2]
        · rw [db_uI_j hj, db_uI_n (by decide), (hGa.1 4 (by decide) (by omega) (by omega)).1]
        · rw [db_uI_2, db_uI_2, hGa.2.2]
        · rw [hcl 4 (by decide) (by decide) (by decide), db_uI_1, g1]
        · rw [hcl 13 (by decide) (by decide) (by decide), db_uI_n (by decide), db_uI_1]
        · rw [hcl 13 (by decide) (by decide) (by decide), db_uI_n (by decide), db_uI_j (by decide)]; exact hf2
        · rw [hcl 13 (by decide) (by decide) (by decide), db_uI_n (by decide), db_uI_j (by decide)]; exact hf3
        · rw [ebk, ebw]
          refine db_B1_c (fun a q1 q2 q3 => ?_) ?_ hb
          · rw [hcl a (by omega) (by omega) (by omega), db_uI_n (by omega), db_uI_n (by omega), (hGa.1 a (by omega) (by omega) (by omega)).1]
          · rw [(hGb.1 (20 + 56) (by decide) (by decide) (by decide)).2, db_uI_2, db_uI_2, (hGa.1 (20 + 56) (by decide) (by omega) (by omega)).2]
    | true =>
      obtain ⟨Z, hZv, z1, z2, z3, z4, z5, z6, z7, z8, z9⟩ := dv_take (db_uI y 13 1 (nI 0))
      have e44 : db_f44 s (nI n) = some (Z.1 21 3, db_uI Z 4 0 (nI 0)) := by
        have := (hZv (Z.1 21 3)).mpr rfl
        unfold db_f44
        simp (disch := omega) only [db_lit, eq_self, db_pI_e, db_pL_e, db_bind_some, db_bd_some, nI_add, pk_mul, nI_toInt, db_m1_t, dz_cn, Int.ofNat_le, Int.ofNat_lt, decide_true, decide_false, db_ct, db_cf, not_true_eq_false, not_false_eq_true, db_87e, db_37e, db_31e, db_28e, db_281e, db_211e, db_27, db_269w, db_litL, pk_lT, db_iL, db_p0_e, db_p0_n, db_p0_j, db_sub1, nI_eq, if_true, if_false, Bool.false_eq_true, Nat.one_ne_zero, h13, hwi, e45] at this ⊢
        exact this
      have t8 : (db_uI Z 4 0 (nI 0)).1 669 8 = nI n0 := by rw [db_uI_n (by decide), z8 669 (by omega), db_uI_n (by decide), (hGa.1 669 (by decide) (by omega) (by omega)).1]; exact h669
      have t673 : (db_uI Z 4 0 (nI 0)).1 673 = s.1 673 := by rw [db_uI_n (by decide), z8 673 (by omega), db_uI_n (by decide), (hGa.1 673 (by decide) (by omega) (by omega)).1]
      obtain ⟨r, y', v', z, e45', e221, -, hGb, hz8, hf2, hf3, hor⟩ := dv_books (s := s) (t := db_uI Z 4 0 (nI 0)) (x := s.1 14) (n := n) hn0 (by omega) t8 (hxt _ t673) hxs hkw
      rw [e45] at e45'
      obtain ⟨hr, hy⟩ := Prod.mk.inj (Option.some.inj e45')
      subst hr
      subst hy
      rcases hor with ⟨-, g1, rfl, a', hD, hS⟩ | ⟨h, -⟩
      · have hcl : ∀ c, c ≠ 669 → c ≠ 674 → c ≠ 676 → z.1 c = (db_uI Z 4 0 (nI 0)).1 c := fun c c1 c2 c3 => (hGb.1 c c1 c2 c3).1
        have hB : db_B1 U 20 Z (db_bk z 0) (db_bw z 0) := dv_B1_of hD hS (fun e j h1 h2 h3 h4 => by rw [z1 e j h1 h2 h3 h4, db_uI_n (by omega)]) (fun j hj => by rw [z2 j hj, db_uI_2]) z3 z4 z5 z6 z7
        have ev : Z.1 21 3 = z.1 674 3 := by
          have h1 := hB.2.1.1 3 (by omega)
          have h2 : db_bk z 0 3 = z.1 674 3 := db_bk_0 (by omega)
          rw [← h2]
          exact h1
        rw [ev] at e44
        refine ⟨z.1 674 3, _, z, e44, e221, ?_⟩
        refine db_Inv_book hI (Nat.le_refl U) (hfin _ z (fun c c1 c2 c3 c4 c5 => ?_) (fun c c2 c3 c4 c5 => ?_) (fun j hj => ?_) ?_ hGb) ?_ ⟨0, by omega, ?_, hz8, fun k hk => absurd hk (by omega)⟩ ⟨?_, ?_⟩ ?_
        · rw [db_uI_n c1, z8 c c4, db_uI_n c2, (hGa.1 c c2 c3 c5).1]
        · rw [db_uI_2, z9 c c4, db_uI_2, (hGa.1 c c2 c3 c5).2]
        · rw [db_uI_j hj, z8 4 (by omega), db_uI_n (by decide), (hGa.1 4 (by decide) (by omega) (by omega)).1]
        · rw [db_uI_2, z9 13 (by omega), db_uI_2, hGa.2.2]
        · rw [hcl 4 (by decide) (by decide) (by decide), db_uI_1, g1]
        · rw [hcl 13 (by decide) (by decide) (by decide), db_uI_n (by decide), z8 13 (by omega), db_uI_1]
        · rw [hcl 13 (by decide) (by decide) (by decide), db_uI_n (by decide), z8 13 (by omega), db_uI_j (by decide)]; exact hf2
        · rw [hcl 13 (by decide) (by decide) (by decide), db_uI_n (by decide), z8 13 (by omega), db_uI_j (by decide)]; exact hf3
        · refine db_B1_c (fun a q1 q2 q3 => ?_) ?_ hB
          · rw [hcl a (by omega) (by omega) (by omega), db_uI_n (by omega)]
          · rw [(hGb.1 (20 + 56) (by decide) (by decide) (by decide)).2, db_uI_2]
      · cases h
end DVBE
