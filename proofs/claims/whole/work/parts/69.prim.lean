/-! LIVES: one thing done -/
def dw_nt (c : db_C) (g : Nat → Int32) (d p : Nat) (q : Int32) : Bool × db_C × (Nat → Int32) := if db_nok c d p q = true then (true, db_nx c d p q, db_cu (db_cu (db_cu g 1 (g 1 + nI 1)) 2 (g 2 + db_ng c d p q)) 3 (g 3 + nI (dz_nw c d p q))) else (false, c, g)
/-- what the step at place W does: done?, the book, the tallies, the seed -/
def dw_pm (W : Nat) (c : db_C) (g : Nat → Int32) (sd : Nat) : Bool × db_C × (Nat → Int32) × Nat :=
  if c W = nI 0 then ((dw_nt c g (db_n c (W + 1)) (db_n c (W + 2)) (c (W + 3))).1, (dw_nt c g (db_n c (W + 1)) (db_n c (W + 2)) (c (W + 3))).2.1, (dw_nt c g (db_n c (W + 1)) (db_n c (W + 2)) (c (W + 3))).2.2, sd)
  else if c W = nI 1 then (if db_n c 5 = 0 then (false, c, g, sd) else ((dw_nt c g (dw_dw c sd) (db_n c (W + 2)) (c (W + 3))).1, (dw_nt c g (dw_dw c sd) (db_n c (W + 2)) (c (W + 3))).2.1, (dw_nt c g (dw_dw c sd) (db_n c (W + 2)) (c (W + 3))).2.2, dw_sn sd))
  else if c W = nI 2 then (if bt (c 7) (db_n c (W + 1)) = true then (false, c, g, sd) else (true, db_cu c 7 (c 7 ||| db_b1 (db_n c (W + 1))), g, sd))
  else (decide (0 < (c (91 + db_n c (W + 1))).toInt), db_cu c (91 + db_n c (W + 1)) (nI 0), g, sd)
/-- a good book, wherever -/
def dw_gd (U : Nat) (c : db_C) : Prop := ∃ s w, db_B1 U 20 s c w
/-- what the reference's step leaves -/
def dw_Fr (s z : db_S) : Prop := (∀ j, j ≠ 29 → j ≠ 30 → j ≠ 31 → j ≠ 32 → j ≠ 42 → z.1 669 j = s.1 669 j) ∧ (∀ k, 480 ≤ k → z.1 674 k = s.1 674 k) ∧ (∀ a, a ≠ 669 → a ≠ 674 → a ≠ 677 → a ≠ 678 → a ≠ 679 → z.1 a = s.1 a) ∧ z.2 = s.2
theorem dw_Fr_r {s : db_S} : dw_Fr s s := ⟨fun _ _ _ _ _ _ => rfl, fun _ _ => rfl, fun _ _ _ _ _ _ => rfl, rfl⟩
theorem dw_Fr_t {s s1 s2 : db_S} (h : dw_Fr s s1) (k : dw_Fr s1 s2) : dw_Fr s s2 := ⟨fun j a b c d e => (k.1 j a b c d e).trans (h.1 j a b c d e), fun j a => (k.2.1 j a).trans (h.2.1 j a), fun j a b c d e => (k.2.2.1 j a b c d e).trans (h.2.2.1 j a b c d e), k.2.2.2.trans h.2.2.2⟩
theorem dw_Fd_Fr {s z : db_S} (h : db_Fd s z) : dw_Fr s z := ⟨fun j a b c d _ => h.1 j a b c d, h.2.1, h.2.2.1, h.2.2.2⟩
section DBPM
variable {U : Nat} {s : db_S} {c : db_C} {w : Nat → Int64} {x y z p q : Int32} {g : Nat → Int32}
theorem dw_nI_n {k n : Nat} (h : c k = nI n) (hn : n < 2 ^ 31) : db_n c k = n := by
  unfold db_n
  rw [h, nI_clamp hn]
theorem dw_gd_nt (h : dw_gd U c) (hU : U + 6 ≤ 1000000000) {d pp : Nat} (hd : d < db_n c 5) (hp : pp < db_n c 1) : dw_gd (U + 6) (dw_nt c g d pp q).2.1 := by
  obtain ⟨s, w, hB⟩ := h
  unfold dw_nt
  cases hok : db_nok c d pp q with
  | false => exact ⟨s, w, db_B1_mono (by omega) hB⟩
  | true =>
    rw [if_pos rfl]
    refine ⟨(fun a j => if a = 81 then db_nx c d pp q (91 + j) else if a = 82 then db_nx c d pp q (12 + j) else if a = 80 ∧ j = 3 then c 6 + nI 1 else s.1 a j, s.2), w, db_B1_nx hB hU hd hp hok (fun a a1 a2 a3 a4 a5 a6 => ?_) rfl (fun r hr => ?_) (fun p hp => ?_) ?_ ?_⟩
    · funext j
      show (if a = 81 then db_nx c d pp q (91 + j) else (if a = 82 then db_nx c d pp q (12 + j) else if a = 80 ∧ j = 3 then c 6 + nI 1 else s.1 a j)) = _
      rw [if_neg a5, if_neg a6, if_neg (by omega)]
    · show (if 81 = 81 then db_nx c d pp q (91 + r) else (if 81 = 82 then db_nx c d pp q (12 + r) else if 81 = 80 ∧ r = 3 then c 6 + nI 1 else s.1 81 r)) = _
      rw [if_pos rfl]
    · show (if 82 = 81 then db_nx c d pp q (91 + p) else (if 82 = 82 then db_nx c d pp q (12 + p) else if 82 = 80 ∧ p = 3 then c 6 + nI 1 else s.1 82 p)) = _
      rw [if_neg (by decide), if_pos rfl]
    · show (if 80 = 81 then db_nx c d pp q (91 + 2) else (if 80 = 82 then db_nx c d pp q (12 + 2) else if 80 = 80 ∧ 2 = 3 then c 6 + nI 1 else s.1 80 2)) = _
      rw [if_neg (by decide), if_neg (by decide), if_neg (by decide)]
      exact (db_802 hB.2.1).1
    · show (if 80 = 81 then db_nx c d pp q (91 + 3) else (if 80 = 82 then db_nx c d pp q (12 + 3) else if 80 = 80 ∧ 3 = 3 then c 6 + nI 1 else s.1 80 3)) = _
      rw [if_neg (by decide), if_neg (by decide), if_pos ⟨rfl, rfl⟩]
/-- a step's book is good again -/
theorem dw_gd_pm {R : Nat → Int32} {W sd : Nat} (h : dw_gd U c) (hU : U + 6 ≤ 1000000000) (hS : db_SR R c W) (hk : ∃ k, k ≤ 3 ∧ c W = nI k) : dw_gd (U + 6) (dw_pm W c g sd).2.1 := by
  obtain ⟨k, k6, e0, -, b0, b1, b2, -⟩ := hS
  obtain ⟨k', hk3, e0'⟩ := hk
  have hkk : k = k' := db_nI_inj (by omega) (by omega) (e0.symm.trans e0')
  subst hkk
  obtain ⟨s, w, hB⟩ := h
  have hO := hB.1
  have j1 := hO.1.2.1.2
  have j3 := hO.1.2.2.2.1.2
  have j5 := hO.1.2.2.2.2.2.2
  unfold dw_pm
  rw [e0]
  rcases (by omega : k = 0 ∨ k = 1 ∨ k = 2 ∨ k = 3) with rfl | rfl | rfl | rfl
  · obtain ⟨d, hd, ed, -⟩ := b0 rfl
    obtain ⟨⟨pp, hp, ep, -⟩, -⟩ := b1 (by omega)
    rw [if_pos rfl, dw_nI_n ed (by omega), dw_nI_n ep (by omega)]
    exact dw_gd_nt ⟨s, w, hB⟩ hU hd hp
  · obtain ⟨⟨pp, hp, ep, -⟩, -⟩ := b1 (by omega)
    rw [if_neg (by decide), if_pos rfl]
    by_cases h5 : db_n c 5 = 0
    · rw [if_pos h5]
      exact ⟨s, w, db_B1_mono (by omega) hB⟩
    · rw [if_neg h5, dw_nI_n ep (by omega)]
      exact dw_gd_nt ⟨s, w, hB⟩ hU (dw_dw_lt sd (by omega)) hp
  · obtain ⟨r, hr, er, -⟩ := b2 (.inl rfl)
    rw [if_neg (by decide), if_neg (by decide), if_pos rfl, dw_nI_n er (by omega)]
    by_cases hb : bt (c 7) r = true
    · rw [if_pos hb]
      exact ⟨s, w, db_B1_mono (by omega) hB⟩
    · rw [if_neg hb]
      obtain ⟨f, hf⟩ := hO.2.2.2.2.2.2.1
      exact ⟨_, w, db_B1_mono (by omega) (db_B1_7 hB ⟨_, by rw [hf]; exact db_mk_set hr (by omega)⟩)⟩
  · obtain ⟨r, hr, er, -⟩ := b2 (.inr rfl)
    rw [if_neg (by decide), if_neg (by decide), if_neg (by decide), dw_nI_n er (by omega)]
    have e0 : (nI 0).toInt = 0 := rfl
    exact ⟨_, w, db_B1_mono (by omega) (db_B1_91 hB hr (x := nI 0) (by omega) (by omega))⟩
/-- the reference does it -/
theorem dw_333 (hc : db_A s c) (hO : db_Ok U c) {d pp : Nat} (hd : d < db_n c 5) (hp : pp < db_n c 1) (hq : db_O q (db_n c 2)) (h2 : s.1 669 31 = g 2) (h3 : s.1 669 32 = g 3) : dz_T (db_f333 s (nI d) (nI pp) q) (fun z => z.1 = (dw_nt c g d pp q).1 ∧ db_A z.2 (dw_nt c g d pp q).2.1 ∧ z.2.1 669 31 = (dw_nt c g d pp q).2.2 2 ∧ z.2.1 669 32 = (dw_nt c g d pp q).2.2 3 ∧ db_Fd s z.2) := by
  refine db_T_mono (db_333 hc hO hd hp hq) fun z hz => ?_
  obtain ⟨t1, t2, t3, t4⟩ := hz
  unfold dw_nt
  cases hok : db_nok c d pp q with
  | false =>
    rw [hok] at t1
    obtain ⟨u1, u2, u3⟩ := t3 t1
    exact ⟨t1, u1, u2.trans h2, u3.trans h3, t2⟩
  | true =>
    rw [hok] at t1
    obtain ⟨u1, u2, u3⟩ := t4 t1
    rw [if_pos rfl]
    refine ⟨t1, u1, ?_, ?_, t2⟩
    · show _ = db_cu (db_cu (db_cu g 1 (g 1 + nI 1)) 2 (g 2 + db_ng c d pp q)) 3 (g 3 + nI (dz_nw c d pp q)) 2
      rw [db_cu_n (by decide), db_cu_1, u2, h2]
    · show _ = db_cu (db_cu (db_cu g 1 (g 1 + nI 1)) 2 (g 2 + db_ng c d pp q)) 3 (g 3 + nI (dz_nw c d pp q)) 3
      rw [db_cu_1, u3, h3]
theorem dw_370 {R : Nat → Int32} {W sd : Nat} (hc : db_A s c) (hO : db_Ok U c) (hW : W + 9 ≤ 480) (hS : db_SR R c W) (hk : ∃ k, k ≤ 3 ∧ c W = nI k) (hsd : sd < 65536) (h42 : s.1 669 42 = nI sd) (h2 : s.1 669 31 = g 2) (h3 : s.1 669 32 = g 3) : dz_T (db_f370 s (nI W)) (fun z => z.1 = (dw_pm W c g sd).1 ∧ db_A z.2 (dw_pm W c g sd).2.1 ∧ z.2.1 669 31 = (dw_pm W c g sd).2.2.1 2 ∧ z.2.1 669 32 = (dw_pm W c g sd).2.2.1 3 ∧ z.2.1 669 42 = nI (dw_pm W c g sd).2.2.2 ∧ dw_Fr s z.2) := by
  obtain ⟨k, k6, e0, -, b0, b1, b2, -⟩ := hS
  obtain ⟨k', hk3, e0'⟩ := hk
  have hkk : k = k' := db_nI_inj (by omega) (by omega) (e0.symm.trans e0')
  subst hkk
  have j1 := hO.1.2.1.2
  have j3 := hO.1.2.2.2.1.2
  have k5 := hO.1.2.2.2.2.2
  have j5 := k5.2
  unfold dw_pm db_f370
  rcases (by omega : k = 0 ∨ k = 1 ∨ k = 2 ∨ k = 3) with rfl | rfl | rfl | rfl
  · obtain ⟨d, hd, ed, -⟩ := b0 rfl
    obtain ⟨⟨pp, hp, ep, -⟩, hq, -⟩ := b1 (by omega)
    rw [if_pos e0, dw_nI_n ed (by omega), dw_nI_n ep (by omega)]
    simp (disch := omega) only [db_lit, eq_self, db_pI_e, db_pL_e, db_bind_some, db_bd_some, nI_add, pk_mul, nI_toInt, db_m1_t, dz_cn, Int.ofNat_le, Int.ofNat_lt, decide_true, decide_false, db_ct, db_cf, not_true_eq_false, not_false_eq_true, db_g_674, hc, e0, ed, ep]
    refine db_T_gd (dw_333 hc hO hd hp hq h2 h3) fun v z hz => ?_
    obtain ⟨t1, t2, t3, t4, t5⟩ := hz
    exact ⟨_, rfl, t1, t2, t3, t4, (t5.1 42 (by decide) (by decide) (by decide) (by decide)).trans h42, dw_Fd_Fr t5⟩
  · obtain ⟨⟨pp, hp, ep, -⟩, hq, -⟩ := b1 (by omega)
    rw [if_neg (by rw [e0]; decide), if_pos e0, dw_nI_n ep (by omega)]
    simp (disch := omega) only [db_lit, eq_self, db_pI_e, db_pL_e, db_bind_some, db_bd_some, nI_add, pk_mul, nI_toInt, db_m1_t, dz_cn, Int.ofNat_le, Int.ofNat_lt, decide_true, decide_false, db_ct, db_cf, not_true_eq_false, not_false_eq_true, db_87e, db_37e, db_31e, db_28e, db_281e, db_211e, db_27, db_269w, db_litL, pk_lT, db_iL, db_p0_e, db_p0_n, db_p0_j, db_sub1, nI_eq, if_true, if_false, Bool.false_eq_true, db_g_674, hc, e0, ep, (show ¬ 1 = 0 by omega)]
    by_cases h5 : db_n c 5 = 0
    · rw [if_pos h5]
      unfold db_f371
      have e5 : c 5 = nI 0 := by rw [k5.1, h5]
      simp (disch := omega) only [db_lit, eq_self, db_pI_e, db_pL_e, db_bind_some, db_bd_some, nI_add, pk_mul, nI_toInt, db_m1_t, dz_cn, Int.ofNat_le, Int.ofNat_lt, decide_true, decide_false, db_ct, db_cf, not_true_eq_false, not_false_eq_true, db_87e, db_37e, db_31e, db_28e, db_281e, db_211e, db_27, db_269w, db_litL, pk_lT, db_iL, db_p0_e, db_p0_n, db_p0_j, db_sub1, nI_eq, if_true, if_false, Bool.false_eq_true, db_g_674, hc, e5]
      exact ⟨_, rfl, rfl, hc, h2, h3, h42, dw_Fr_r⟩
    · rw [if_neg h5, dw_371 hc hO (by omega) hsd h42]
      have hc' : db_A (db_uI s 669 42 (nI (dw_sn sd))) c := db_A_e (db_uI_n (by decide)) hc
      refine db_T_gd (db_T_go (dw_333 hc' hO (dw_dw_lt sd (by omega)) hp hq (g := g) (by rw [db_uI_j (by decide)]; exact h2) (by rw [db_uI_j (by decide)]; exact h3)) fun z hz => db_T_some.mpr hz) fun v z hz => ?_
      obtain ⟨t1, t2, t3, t4, t5⟩ := hz
      refine ⟨_, rfl, t1, t2, t3, t4, ?_, dw_Fr_t ⟨fun j a b c d e => db_uI_j e, fun k hk => by rw [db_uI_n (by decide)], fun a a1 _ _ _ _ => db_uI_n a1, rfl⟩ (dw_Fd_Fr t5)⟩
      show z.1 669 42 = _
      rw [t5.1 42 (by decide) (by decide) (by decide) (by decide), db_uI_1]
  · obtain ⟨r, hr, er, -⟩ := b2 (.inl rfl)
    rw [if_neg (by rw [e0]; decide), if_neg (by rw [e0]; decide), if_pos e0, dw_nI_n er (by omega)]
    unfold db_f310
    simp (disch := omega) only [db_lit, eq_self, db_pI_e, db_pL_e, db_bind_some, db_bd_some, nI_add, pk_mul, nI_toInt, db_m1_t, dz_cn, Int.ofNat_le, Int.ofNat_lt, decide_true, decide_false, db_ct, db_cf, not_true_eq_false, not_false_eq_true, db_87e, db_37e, db_31e, db_28e, db_281e, db_211e, db_27, db_269w, db_litL, pk_lT, db_iL, db_p0_e, db_p0_n, db_p0_j, db_sub1, nI_eq, if_true, if_false, Bool.false_eq_true, db_g_674, hc, e0, er, (show ¬ 2 = 0 by omega), (show ¬ 2 = 1 by omega), db_287 (show r < 31 by omega)]
    cases hb : bt (c 7) r with
    | true =>
      simp (disch := omega) only [db_lit, eq_self, db_pI_e, db_pL_e, db_bind_some, db_bd_some, nI_add, pk_mul, nI_toInt, db_m1_t, dz_cn, Int.ofNat_le, Int.ofNat_lt, decide_true, decide_false, db_ct, db_cf, not_true_eq_false, not_false_eq_true, db_87e, db_37e, db_31e, db_28e, db_281e, db_211e, db_27, db_269w, db_litL, pk_lT, db_iL, db_p0_e, db_p0_n, db_p0_j, db_sub1, nI_eq, if_true, if_false, Bool.false_eq_true]
      exact ⟨_, rfl, rfl, hc, h2, h3, h42, dw_Fr_r⟩
    | false =>
      simp (disch := omega) only [db_lit, eq_self, db_pI_e, db_pL_e, db_bind_some, db_bd_some, nI_add, pk_mul, nI_toInt, db_m1_t, dz_cn, Int.ofNat_le, Int.ofNat_lt, decide_true, decide_false, db_ct, db_cf, not_true_eq_false, not_false_eq_true, db_87e, db_37e, db_31e, db_28e, db_281e, db_211e, db_27, db_269w, db_litL, pk_lT, db_iL, db_p0_e, db_p0_n, db_p0_j, db_sub1, nI_eq, if_true, if_false, Bool.false_eq_true, db_g_674, db_h_674, hc]
      refine ⟨_, rfl, rfl, fun k hk => ?_, ?_, ?_, ?_, ⟨fun j _ _ _ _ _ => ?_, fun k hk => ?_, fun a _ a4 _ _ _ => db_uI_n a4, rfl⟩⟩
      · show (db_uI s 674 7 _).1 674 k = db_cu c 7 _ k
        by_cases e : k = 7
        · subst e; rw [db_uI_1, db_cu_1]; rfl
        · rw [db_uI_j e, db_cu_n e]; exact hc k hk
      · show (db_uI s 674 7 _).1 669 31 = _
        rw [db_uI_n (by decide)]; exact h2
      · show (db_uI s 674 7 _).1 669 32 = _
        rw [db_uI_n (by decide)]; exact h3
      · show (db_uI s 674 7 _).1 669 42 = _
        rw [db_uI_n (by decide)]; exact h42
      · show (db_uI s 674 7 _).1 669 j = _
        rw [db_uI_n (by decide)]
      · show (db_uI s 674 7 _).1 674 k = _
        rw [db_uI_j (by omega)]
  · obtain ⟨r, hr, er, -⟩ := b2 (.inr rfl)
    rw [if_neg (by rw [e0]; decide), if_neg (by rw [e0]; decide), if_neg (by rw [e0]; decide), dw_nI_n er (by omega)]
    simp (disch := omega) only [db_lit, eq_self, db_pI_e, db_pL_e, db_bind_some, db_bd_some, nI_add, pk_mul, nI_toInt, db_m1_t, dz_cn, Int.ofNat_le, Int.ofNat_lt, decide_true, decide_false, db_ct, db_cf, not_true_eq_false, not_false_eq_true, db_87e, db_37e, db_31e, db_28e, db_281e, db_211e, db_27, db_269w, db_litL, pk_lT, db_iL, db_p0_e, db_p0_n, db_p0_j, db_sub1, nI_eq, if_true, if_false, Bool.false_eq_true, db_g_674, hc, e0, er, (show ¬ 3 = 0 by omega), (show ¬ 3 = 1 by omega), (show ¬ 3 = 2 by omega)]
    have hgo : ∀ b : Bool, dz_T (db_f370_b108 s (nI W) (if b then nI 1 else nI 0)) (fun z => z.1 = b ∧ db_A z.2 (db_cu c (91 + r) (nI 0)) ∧ z.2.1 669 31 = g 2 ∧ z.2.1 669 32 = g 3 ∧ z.2.1 669 42 = nI sd ∧ dw_Fr s z.2) := by
      intro b
      unfold db_f370_b108
      simp (disch := omega) only [db_lit, eq_self, db_pI_e, db_pL_e, db_bind_some, db_bd_some, nI_add, pk_mul, nI_toInt, db_m1_t, dz_cn, Int.ofNat_le, Int.ofNat_lt, decide_true, decide_false, db_ct, db_cf, not_true_eq_false, not_false_eq_true, db_87e, db_37e, db_31e, db_28e, db_281e, db_211e, db_27, db_269w, db_litL, pk_lT, db_iL, db_p0_e, db_p0_n, db_p0_j, db_sub1, nI_eq, if_true, if_false, Bool.false_eq_true, db_g_674, db_h_674, hc, er]
      have hfin : ∀ b : Bool, dz_T (some (b, db_uI s 674 (91 + r) (nI 0))) (fun z : Bool × db_S => z.1 = b ∧ db_A z.2 (db_cu c (91 + r) (nI 0)) ∧ z.2.1 669 31 = g 2 ∧ z.2.1 669 32 = g 3 ∧ z.2.1 669 42 = nI sd ∧ dw_Fr s z.2) := by
        intro b
        refine ⟨_, rfl, rfl, fun k hk => ?_, ?_, ?_, ?_, ⟨fun j _ _ _ _ _ => ?_, fun k hk => ?_, fun a _ a4 _ _ _ => db_uI_n a4, rfl⟩⟩
        · show (db_uI s 674 (91 + r) _).1 674 k = db_cu c (91 + r) _ k
          by_cases e : k = 91 + r
          · subst e; rw [db_uI_1, db_cu_1]
          · rw [db_uI_j e, db_cu_n e]; exact hc k hk
        · show (db_uI s 674 (91 + r) _).1 669 31 = _
          rw [db_uI_n (by decide)]; exact h2
        · show (db_uI s 674 (91 + r) _).1 669 32 = _
          rw [db_uI_n (by decide)]; exact h3
        · show (db_uI s 674 (91 + r) _).1 669 42 = _
          rw [db_uI_n (by decide)]; exact h42
        · show (db_uI s 674 (91 + r) _).1 669 j = _
          rw [db_uI_n (by decide)]
        · show (db_uI s 674 (91 + r) _).1 674 k = _
          rw [db_uI_j (by omega)]
      cases b with
      | true => exact hfin true
      | false => exact hfin false
    by_cases hx : (c (91 + r)).toInt ≤ 0
    · rw [decide_eq_true (show (c (91 + r)).toInt ≤ ((0 : Nat) : Int) from hx), db_ct, decide_eq_false (by omega)]
      exact hgo false
    · rw [decide_eq_false (show ¬ (c (91 + r)).toInt ≤ ((0 : Nat) : Int) from hx), db_cf, decide_eq_true (by omega)]
      exact hgo true
end DBPM
