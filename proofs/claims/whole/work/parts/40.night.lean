/-! NIGHTS, the reference's; the call -/
def db_Fd (s z : db_S) : Prop := (∀ j, j ≠ 29 → j ≠ 30 → j ≠ 31 → j ≠ 32 → z.1 669 j = s.1 669 j) ∧ (∀ k, 480 ≤ k → z.1 674 k = s.1 674 k) ∧ (∀ a, a ≠ 669 → a ≠ 674 → a ≠ 677 → a ≠ 678 → a ≠ 679 → z.1 a = s.1 a) ∧ z.2 = s.2
theorem db_Fd_r {s : db_S} : db_Fd s s := ⟨fun _ _ _ _ _ => rfl, fun _ _ => rfl, fun _ _ _ _ _ _ => rfl, rfl⟩
theorem db_Fd_t {s s1 s2 : db_S} (h : db_Fd s s1) (k : db_Fd s1 s2) : db_Fd s s2 := ⟨fun j a b c d => (k.1 j a b c d).trans (h.1 j a b c d), fun j a => (k.2.1 j a).trans (h.2.1 j a), fun j a b c d e => (k.2.2.1 j a b c d e).trans (h.2.2.1 j a b c d e), k.2.2.2.trans h.2.2.2⟩
theorem db_Fd_Eo {s z : db_S} (h : db_Fd s z) : db_Eo s z := fun a j ha hb => by
  refine ⟨?_, by rw [h.2.2.2]⟩
  unfold db_em at ha
  by_cases e : a = 669
  · subst e
    exact h.1 j (by omega) (by omega) (by omega) (by omega)
  · by_cases e4 : a = 674
    · subst e4
      exact h.2.1 j (by omega)
    · rw [h.2.2.1 a e e4 (by omega) (by omega) (by omega)]
section DBN2
variable {U : Nat} {s : db_S} {c : db_C} {w : Nat → Int64} {v x y z p q : Int32}
theorem db_333 (hc : db_A s c) (hO : db_Ok U c) {d pp : Nat} (hd : d < db_n c 5) (hp : pp < db_n c 1) (hq : db_O q (db_n c 2)) : dz_T (db_f333 s (nI d) (nI pp) q) (fun z => z.1 = db_nok c d pp q ∧ db_Fd s z.2 ∧ (z.1 = false → db_A z.2 c ∧ z.2.1 669 31 = s.1 669 31 ∧ z.2.1 669 32 = s.1 669 32) ∧ (z.1 = true → db_A z.2 (db_nx c d pp q) ∧ z.2.1 669 31 = s.1 669 31 + db_ng c d pp q ∧ z.2.1 669 32 = s.1 669 32 + nI (dz_nw c d pp q))) := by
  have j1 := hO.1.2.1.2
  have j3 := hO.1.2.2.2.1.2
  have j5 := hO.1.2.2.2.2.2.2
  have hL := (hO.2.2.2.1 d hd).1.1
  have hL6 := hL.2
  have hpO : db_O (nI pp) (db_n c 1) := .inr ⟨pp, hp, rfl⟩
  unfold db_f333
  refine db_T_gd (db_316 hc hO hd hpO hq) fun v s2 hv => ?_
  obtain ⟨v1, ⟨v2, v3, v4⟩, v5, v6⟩ := hv
  dsimp only at v1 v2 v3 v4 v5 v6
  subst v1
  have hc2 := db_A_e (v2 674 (by decide) (by decide) (by decide) (by decide)) hc
  simp (disch := omega) only [db_lit, eq_self, db_pI_e, db_pL_e, db_bind_some, db_bd_some, nI_add, pk_mul, nI_toInt, db_m1_t, dz_cn, Int.ofNat_le, Int.ofNat_lt, decide_true, decide_false, db_ct, db_cf, not_true_eq_false, not_false_eq_true, db_87e, db_37e, db_31e, db_28e, db_281e, db_211e, db_27, db_269w, db_litL, pk_lT, db_iL, db_p0_e, db_p0_n, db_p0_j, db_sub1, nI_eq, if_true, if_false, Bool.false_eq_true, db_g_674, hc2, db_m9999L]
  show dz_T (cond (db_nok c d pp q) _ _) _
  have hFd2 : db_Fd s s2 := ⟨fun j a b _ _ => v3 j a b, fun k _ => by rw [v2 674 (by decide) (by decide) (by decide) (by decide)], fun a a1 _ a3 a4 a5 => v2 a a1 a3 a4 a5, v4⟩
  cases hok : db_nok c d pp q with
  | false =>
    rw [db_cf, db_T_some]
    exact ⟨rfl, hFd2, fun _ => ⟨hc2, v3 31 (by decide) (by decide), v3 32 (by decide) (by decide)⟩, fun h => (nomatch h)⟩
  | true =>
    rw [db_ct]
    simp (disch := omega) only [db_lit, eq_self, db_pI_e, db_pL_e, db_bind_some, db_bd_some, nI_add, pk_mul, nI_toInt, db_m1_t, dz_cn, Int.ofNat_le, Int.ofNat_lt, decide_true, decide_false, db_ct, db_cf, not_true_eq_false, not_false_eq_true, db_87e, db_37e, db_31e, db_28e, db_281e, db_211e, db_27, db_269w, db_litL, pk_lT, db_iL, db_p0_e, db_p0_n, db_p0_j, db_sub1, nI_eq, if_true, if_false, Bool.false_eq_true, db_h_674, db_g_674, hc2]
    have main : ∀ g : Int32, g = db_ng c d pp q → dz_T (db_f333_b76 (db_uI (db_uI s2 674 (12 + pp) (c (12 + pp) + db_rq c d (nI pp) q)) 674 6 ((db_uI s2 674 (12 + pp) (c (12 + pp) + db_rq c d (nI pp) q)).1 674 6 + nI 1)) ((db_uI (db_uI s2 674 (12 + pp) (c (12 + pp) + db_rq c d (nI pp) q)) 674 6 ((db_uI s2 674 (12 + pp) (c (12 + pp) + db_rq c d (nI pp) q)).1 674 6 + nI 1)).1 669 31) g) (fun z => z.1 = true ∧ db_Fd s z.2 ∧ (z.1 = false → db_A z.2 c ∧ z.2.1 669 31 = s.1 669 31 ∧ z.2.1 669 32 = s.1 669 32) ∧ (z.1 = true → db_A z.2 (db_nx c d pp q) ∧ z.2.1 669 31 = s.1 669 31 + db_ng c d pp q ∧ z.2.1 669 32 = s.1 669 32 + nI (dz_nw c d pp q))) := by
      intro g hg
      have e6 : (db_uI s2 674 (12 + pp) (c (12 + pp) + db_rq c d (nI pp) q)).1 674 6 = c 6 := by rw [db_uI_j (by omega)]; exact hc2 6 (by omega)
      rw [e6]
      generalize hs3 : db_uI (db_uI s2 674 (12 + pp) (c (12 + pp) + db_rq c d (nI pp) q)) 674 6 (c 6 + nI 1) = s3
      have a3 : db_A s3 (db_cu (db_cu c (12 + pp) (c (12 + pp) + db_rq c d (nI pp) q)) 6 (c 6 + nI 1)) := by
        intro k hk
        rw [← hs3]
        by_cases ek : k = 6
        · subst ek; rw [db_uI_1, db_cu_1]
        · rw [db_uI_j ek, db_cu_n ek]
          by_cases ek2 : k = 12 + pp
          · subst ek2; rw [db_uI_1, db_cu_1]
          · rw [db_uI_j ek2, db_cu_n ek2]; exact hc2 k hk
      have f9 : s3.1 669 = s2.1 669 := by rw [← hs3, db_uI_n (by decide), db_uI_n (by decide)]
      have fn : ∀ a, a ≠ 674 → s3.1 a = s2.1 a := fun a ha => by rw [← hs3, db_uI_n ha, db_uI_n ha]
      have f4 : ∀ k, 480 ≤ k → s3.1 674 k = s2.1 674 k := fun k hk => by rw [← hs3, db_uI_j (by omega), db_uI_j (by omega)]
      have fl : s3.2 = s2.2 := by rw [← hs3, db_uI_2, db_uI_2]
      clear hs3
      unfold db_f333_b76
      simp (disch := omega) only [db_lit, eq_self, db_pI_e, db_pL_e, db_bind_some, db_bd_some, nI_add, pk_mul, nI_toInt, db_m1_t, dz_cn, Int.ofNat_le, Int.ofNat_lt, decide_true, decide_false, db_ct, db_cf, not_true_eq_false, not_false_eq_true, db_87e, db_37e, db_31e, db_28e, db_281e, db_211e, db_27, db_269w, db_litL, pk_lT, db_iL, db_p0_e, db_p0_n, db_p0_j, db_sub1, nI_eq, if_true, if_false, Bool.false_eq_true]
      have h334 := db_334 (s := db_uI s3 669 31 (s3.1 669 31 + g)) (c := c) (row := db_dr c d) (n := db_n c (127 + d)) (p := nI pp) (q := q) (cc := db_cu (db_cu c (12 + pp) (c (12 + pp) + db_rq c d (nI pp) q)) 6 (c 6 + nI 1)) (by omega) j3 (by rw [db_uI_j (by decide), f9, v5]) (fun i hi => by rw [db_uI_n (by decide), fn 679 (by decide)]; exact v6 i hi) (fun k hk => by rw [db_uI_n (by decide)]; exact a3 k hk)
      refine db_T_go h334 fun s5 hx => ?_
      obtain ⟨x1, x2, x3, x4, x5, x6⟩ := hx
      rw [db_T_some]
      refine ⟨rfl, ⟨fun j j29 j30 j31 j32 => ?_, fun k hk => ?_, fun a b1 b2 b3 b4 b5 => ?_, ?_⟩, fun h => (nomatch h), fun _ => ⟨x1, ?_, ?_⟩⟩
      · show s5.1 669 j = _
        rw [x3 j j32, db_uI_j j31, f9, v3 j j29 j30]
      · show s5.1 674 k = _
        rw [x4 k hk, db_uI_n (by decide), f4 k hk, v2 674 (by decide) (by decide) (by decide) (by decide)]
      · show s5.1 a = _
        rw [x5 a b1 b2, db_uI_n b1, fn a b2, v2 a b1 b3 b4 b5]
      · show s5.2 = _
        rw [x6, db_uI_2, fl, v4]
      · show s5.1 669 31 = _
        rw [x3 31 (by decide), db_uI_1, f9, v3 31 (by decide) (by decide), hg]
      · show s5.1 669 32 = _
        rw [x2, db_uI_j (by decide), f9, v3 32 (by decide) (by decide)]
        rfl
    by_cases e : (db_rq c d (nI pp) q).toInt ≤ ((0 : Nat) : Int)
    · rw [decide_eq_true e, db_ct]
      exact main (nI 0) (by unfold db_ng; rw [if_pos e])
    · rw [decide_eq_false e, db_cf]
      exact main (nI 1) (by unfold db_ng; rw [if_neg e])
theorem db_k30 (hI : db_Inv U s) (hU : U + 6 ≤ 1000000000) : ∃ v s1 s2, db_f136 s x p q = some (v, s1) ∧ db_f332 s1 x p q = some (v, s2) ∧ db_Inv (U + 6) s2 := by
  have hB := db_cur hI
  obtain ⟨hO, hR, -⟩ := db_cur hI
  have k1 := hO.1.2.1
  have k2 := hO.1.2.2.1
  have k5 := hO.1.2.2.2.2.2
  have j1 := k1.2
  have mono : ∀ {v s1 s2}, db_f136 s x p q = some (v, s1) → db_f332 s1 x p q = some (v, s2) → db_Inv U s2 → ∃ v s1 s2, db_f136 s x p q = some (v, s1) ∧ db_f332 s1 x p q = some (v, s2) ∧ db_Inv (U + 6) s2 := fun {v s1 s2} h1 h2 h3 => ⟨v, s1, s2, h1, h2, db_Inv_u h3 (by omega) (fun _ _ _ _ _ _ _ _ => ⟨rfl, rfl⟩) h3.1 (db_B1_mono (by omega) (db_cur h3))⟩
  cases h : (db_is x (db_n (db_bk s 0) 5) && (db_is p (db_n (db_bk s 0) 1) && db_im q (db_n (db_bk s 0) 2))) with
  | false =>
    obtain ⟨v, s1, s2, h1, h2, h3⟩ : dz_G U s (fun s => db_f136 s x p q) (fun s => db_f332 s x p q) := by
      refine db_Gn 2 hI ?_ fun s1 hS hA => ?_
      · unfold db_f136 db_f136_b15
        simp (disch := omega) only [db_lit, eq_self, db_pI_e, db_pL_e, db_bind_some, db_bd_some, nI_add, pk_mul, nI_toInt, db_m1_t, dz_cn, Int.ofNat_le, Int.ofNat_lt, decide_true, decide_false, db_ct, db_cf, not_true_eq_false, not_false_eq_true, db_87e, db_37e, db_31e, db_28e, db_281e, db_211e, db_27, db_269w, db_litL, pk_lT, db_iL, db_p0_e, db_p0_n, db_p0_j, db_sub1, nI_eq, if_true, if_false, Bool.false_eq_true, db_125 hR hO]
        rw [db_im_or (x := p)]
        by_cases e1 : p = -(nI 1)
        · rw [decide_eq_true e1, db_ct]
        · rw [decide_eq_false e1, db_cf, Bool.false_or, h, db_cf]
      · unfold db_f332 db_f332_b35
        simp (disch := omega) only [db_lit, eq_self, db_pI_e, db_pL_e, db_bind_some, db_bd_some, nI_add, pk_mul, nI_toInt, db_m1_t, dz_cn, Int.ofNat_le, Int.ofNat_lt, decide_true, decide_false, db_ct, db_cf, not_true_eq_false, not_false_eq_true, db_87e, db_37e, db_31e, db_28e, db_281e, db_211e, db_27, db_269w, db_litL, pk_lT, db_iL, db_p0_e, db_p0_n, db_p0_j, db_sub1, nI_eq, if_true, if_false, Bool.false_eq_true, db_297 (db_p0_A hA) k5, db_292 (db_p0_A hA) k1, db_315 (db_p0_A hA) k1 k2]
        rw [db_im_or (x := p)]
        cases h1 : db_is x (db_n (db_bk s 0) 5) <;> cases h2 : db_is p (db_n (db_bk s 0) 1) <;> cases h3 : db_im q (db_n (db_bk s 0) 2) <;> first | (simp only [Bool.or_false, Bool.or_true, Bool.and_false, db_ct, db_cf]; done) | rfl | (rw [h1, h2, h3] at h; cases h)
    exact mono h1 h2 h3
  | true =>
    have h' := h
    simp only [Bool.and_eq_true] at h'
    obtain ⟨hx, hpp, hqq⟩ := h'
    obtain ⟨d, hd, rfl⟩ := db_is_t hx
    obtain ⟨pp, hp, rfl⟩ := db_is_t hpp
    have hq := db_im_t hqq
    have him : db_im (nI pp) (db_n (db_bk s 0) 1) = true := by rw [db_im_or, hpp, Bool.or_true]
    obtain ⟨⟨b, s4⟩, e1, t1, t2, t3, t4⟩ := db_137 hB hU hd hp hq
    dsimp only at t1 t2 t3 t4
    have hA4 : db_A s4 (db_bk s 0) := db_A_e (t4 674 (by decide) (by decide) (by decide) (by decide) (by decide)) db_bk_A
    cases hok : db_nok (db_bk s 0) d pp q with
    | false =>
      rw [hok] at t1
      subst t1
      obtain ⟨u1, u2⟩ := t2 rfl
      have hA1 : db_A (db_p0 (db_uI s4 4 0 (nI 7))) (db_bk s 0) := db_p0_A (db_A_e (db_uI_n (by decide)) hA4)
      obtain ⟨⟨b, s5⟩, e2, w1, w2, w3, -⟩ := db_333 hA1 hO hd hp hq
      dsimp only at w1 w2 w3
      rw [hok] at w1
      subst w1
      obtain ⟨y1, -⟩ := w3 rfl
      refine ⟨-(nI 1), db_uI s4 4 0 (nI 7), db_uI s5 669 0 (nI 7), ?_, ?_, db_Inv_l hI (by omega) (db_Ec_Ed u1) rfl (db_B1_mono (Nat.le_add_right U 6) (db_B1_c (fun a q1 q2 q3 => funext fun j => (u1 a j (by unfold db_ec; omega)).1) (funext fun j => (u1 _ j (by unfold db_ec; omega)).2) hB)) (db_Fd_Eo w2) (.inr rfl) y1⟩
      · unfold db_f136
        simp (disch := omega) only [db_lit, eq_self, db_pI_e, db_pL_e, db_bind_some, db_bd_some, nI_add, pk_mul, nI_toInt, db_m1_t, dz_cn, Int.ofNat_le, Int.ofNat_lt, decide_true, decide_false, db_ct, db_cf, not_true_eq_false, not_false_eq_true, db_87e, db_37e, db_31e, db_28e, db_281e, db_211e, db_27, db_269w, db_litL, pk_lT, db_iL, db_p0_e, db_p0_n, db_p0_j, db_sub1, nI_eq, if_true, if_false, Bool.false_eq_true, db_m1_ne, db_125 hR hO, him, hx, hqq, Bool.and_self, e1]
      · unfold db_f332
        simp (disch := omega) only [db_lit, eq_self, db_pI_e, db_pL_e, db_bind_some, db_bd_some, nI_add, pk_mul, nI_toInt, db_m1_t, dz_cn, Int.ofNat_le, Int.ofNat_lt, decide_true, decide_false, db_ct, db_cf, not_true_eq_false, not_false_eq_true, db_87e, db_37e, db_31e, db_28e, db_281e, db_211e, db_27, db_269w, db_litL, pk_lT, db_iL, db_p0_e, db_p0_n, db_p0_j, db_sub1, nI_eq, if_true, if_false, Bool.false_eq_true]
        generalize db_p0 (db_uI s4 4 0 (nI 7)) = s6 at hA1 e2
        simp (disch := omega) only [db_lit, eq_self, db_pI_e, db_pL_e, db_bind_some, db_bd_some, nI_add, pk_mul, nI_toInt, db_m1_t, dz_cn, Int.ofNat_le, Int.ofNat_lt, decide_true, decide_false, db_ct, db_cf, not_true_eq_false, not_false_eq_true, db_87e, db_37e, db_31e, db_28e, db_281e, db_211e, db_27, db_269w, db_litL, pk_lT, db_iL, db_p0_e, db_p0_n, db_p0_j, db_sub1, nI_eq, if_true, if_false, Bool.false_eq_true, db_297 hA1 k5, db_292 hA1 k1, db_315 hA1 k1 k2, him, hx, hpp, hqq, Bool.and_self, e2]
    | true =>
      rw [hok] at t1
      subst t1
      obtain ⟨u1, u2, -⟩ := t3 rfl
      have hA1 : db_A (db_p0 (db_uI s4 4 0 (nI 0))) (db_bk s 0) := db_p0_A (db_A_e (db_uI_n (by decide)) hA4)
      obtain ⟨⟨b, s5⟩, e2, w1, w2, -, w3⟩ := db_333 hA1 hO hd hp hq
      dsimp only at w1 w2 w3
      rw [hok] at w1
      subst w1
      obtain ⟨y1, -⟩ := w3 rfl
      have e82 : s4.1 82 pp = db_nx (db_bk s 0) d pp q (12 + pp) := db_82 u1.2.1 (by
        have : db_n (db_nx (db_bk s 0) d pp q) 1 = db_n (db_bk s 0) 1 := by
          unfold db_n db_nx
          rw [db_we_n hO.1.2.2.2.1.2 (by omega), db_cu_n (by omega), db_cu_n (by omega)]
        rw [this]; exact hp)
      refine ⟨db_nx (db_bk s 0) d pp q (12 + pp), db_uI s4 4 0 (nI 0), s5, ?_, ?_, db_Inv_l hI (by omega) u2 rfl u1 (db_Fd_Eo w2) (.inl ⟨rfl, rfl⟩) y1⟩
      · unfold db_f136
        simp (disch := omega) only [db_lit, eq_self, db_pI_e, db_pL_e, db_bind_some, db_bd_some, nI_add, pk_mul, nI_toInt, db_m1_t, dz_cn, Int.ofNat_le, Int.ofNat_lt, decide_true, decide_false, db_ct, db_cf, not_true_eq_false, not_false_eq_true, db_87e, db_37e, db_31e, db_28e, db_281e, db_211e, db_27, db_269w, db_litL, pk_lT, db_iL, db_p0_e, db_p0_n, db_p0_j, db_sub1, nI_eq, if_true, if_false, Bool.false_eq_true, db_m1_ne, db_125 hR hO, him, hx, hqq, Bool.and_self, e1, db_g_82, e82]
      · unfold db_f332
        simp (disch := omega) only [db_lit, eq_self, db_pI_e, db_pL_e, db_bind_some, db_bd_some, nI_add, pk_mul, nI_toInt, db_m1_t, dz_cn, Int.ofNat_le, Int.ofNat_lt, decide_true, decide_false, db_ct, db_cf, not_true_eq_false, not_false_eq_true, db_87e, db_37e, db_31e, db_28e, db_281e, db_211e, db_27, db_269w, db_litL, pk_lT, db_iL, db_p0_e, db_p0_n, db_p0_j, db_sub1, nI_eq, if_true, if_false, Bool.false_eq_true]
        generalize db_p0 (db_uI s4 4 0 (nI 0)) = s6 at hA1 e2
        simp (disch := omega) only [db_lit, eq_self, db_pI_e, db_pL_e, db_bind_some, db_bd_some, nI_add, pk_mul, nI_toInt, db_m1_t, dz_cn, Int.ofNat_le, Int.ofNat_lt, decide_true, decide_false, db_ct, db_cf, not_true_eq_false, not_false_eq_true, db_87e, db_37e, db_31e, db_28e, db_281e, db_211e, db_27, db_269w, db_litL, pk_lT, db_iL, db_p0_e, db_p0_n, db_p0_j, db_sub1, nI_eq, if_true, if_false, Bool.false_eq_true, db_297 hA1 k5, db_292 hA1 k1, db_315 hA1 k1 k2, him, hx, hpp, hqq, Bool.and_self, e2, db_g_674, y1]
end DBN2
