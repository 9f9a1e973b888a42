/-! STEPS OF THE NIGHTS: the other words -/
section DVNS
variable {a b a1 b1 a0 b0 z : db_S} {x : Nat → Int32} {n i r m k : Nat} {v u : Int32}
/-- a rule -/
theorem dv_n77 (hr : r < 60) (hm : m < 30) (hL3 : dv_Lk_20 a1 b1 3) (hk : k = 2 ∨ k = 3) (hk1 : b1.1 674 (2121 + 9 * m) = nI k) (h : dv_CN x n r m a1 b1 i a b) (ha0 : a.1 (210 + r) 0 = nI (18 + k)) : dv_NE x n r m a1 b1 i (db_f93_b77 a (210 + r)) (db_f278_b91 b (nI (2121 + 9 * m))) := by
  unfold db_f93_b77 db_f278_b91
  obtain ⟨rr, a3, v3, b3, e3, e4, hh⟩ := dv_oName_20 (q := 3) (g := 3) (d := 210 + r) (f := 1) (by omega) rfl (by omega) (by omega) (dv_rr2 hr (by omega)).1 (dv_rr2 hr (by omega)).2 h.1 h.2.1 h.2.2.1 (dv_LkF (by omega) h.2.2.2.2.2.1 h.2.2.2.2.2.2.2.2.2 hL3)
  rcases hh with ⟨rfl, ⟨p, hp, rfl⟩, j1, j2, j3, j4, j5⟩ | ⟨rfl, rfl, j1, j2, j3⟩
  · have h3 := dv_CNw (v := nI p) (g := 1) (dv_CNf hr h j3 j4 j2 j5) (by omega)
    have hF := h3.2.2.2.2.2.2.2.2.2
    refine ⟨true, a3, _, ?_, ?_, .inl ⟨rfl, ⟨i + 1, by omega, h3⟩, k, by omega, ?_, ?_, fun h => absurd h (by omega), fun h => absurd h (by omega), fun _ => ⟨p, ?_, ?_, ?_⟩, fun h => absurd h (by omega), fun h => absurd h (by omega)⟩⟩
    · simp (disch := omega) only [db_lit, eq_self, db_pI_e, db_pL_e, db_bind_some, db_bd_some, nI_add, pk_mul, nI_toInt, db_m1_t, dz_cn, Int.ofNat_le, Int.ofNat_lt, decide_true, decide_false, db_ct, db_cf, not_true_eq_false, not_false_eq_true, db_87e, db_37e, db_31e, db_28e, db_281e, db_211e, db_27, db_269w, db_litL, pk_lT, db_iL, db_p0_e, db_p0_n, db_p0_j, db_sub1, nI_eq, if_true, if_false, Bool.false_eq_true, Nat.one_ne_zero, e3]
    · simp (disch := omega) only [db_lit, eq_self, db_pI_e, db_pL_e, db_bind_some, db_bd_some, nI_add, pk_mul, nI_toInt, db_m1_t, dz_cn, Int.ofNat_le, Int.ofNat_lt, decide_true, decide_false, db_ct, db_cf, not_true_eq_false, not_false_eq_true, db_87e, db_37e, db_31e, db_28e, db_281e, db_211e, db_27, db_269w, db_litL, pk_lT, db_iL, db_p0_e, db_p0_n, db_p0_j, db_sub1, nI_eq, if_true, if_false, Bool.false_eq_true, Nat.one_ne_zero, e4, db_h_674]
    · rw [dv_cc_40 hm, h3.2.2.2.2.2.2.1 _ (by omega)]; exact hk1
    · rw [j2.2.2.2 0 (by omega)]; exact ha0
    · rw [dv_cc_n (by omega), dv_n0F (by omega) hF, ← dv_n0F (by omega) h.2.2.2.2.2.2.2.2.2]; exact hp
    · rw [dv_cc_4 hm (by omega), db_uI_1]
    · exact j1
  · refine dv_NEf h (a2 := a3) (b2 := b3) ?_ ?_ j1 j2 j3 (dv_Bq_4 (j := 2121 + 9 * m + 1) (v := nI 0) dv_Bq_r (by omega))
    · simp (disch := omega) only [db_lit, eq_self, db_pI_e, db_pL_e, db_bind_some, db_bd_some, nI_add, pk_mul, nI_toInt, db_m1_t, dz_cn, Int.ofNat_le, Int.ofNat_lt, decide_true, decide_false, db_ct, db_cf, not_true_eq_false, not_false_eq_true, db_87e, db_37e, db_31e, db_28e, db_281e, db_211e, db_27, db_269w, db_litL, pk_lT, db_iL, db_p0_e, db_p0_n, db_p0_j, db_sub1, nI_eq, if_true, if_false, Bool.false_eq_true, Nat.one_ne_zero, e3]
    · simp (disch := omega) only [db_lit, eq_self, db_pI_e, db_pL_e, db_bind_some, db_bd_some, nI_add, pk_mul, nI_toInt, db_m1_t, dz_cn, Int.ofNat_le, Int.ofNat_lt, decide_true, decide_false, db_ct, db_cf, not_true_eq_false, not_false_eq_true, db_87e, db_37e, db_31e, db_28e, db_281e, db_211e, db_27, db_269w, db_litL, pk_lT, db_iL, db_p0_e, db_p0_n, db_p0_j, db_sub1, nI_eq, if_true, if_false, Bool.false_eq_true, Nat.one_ne_zero, e4, db_h_674]
/-- how often -/
theorem dv_nLoop (hr : r < 60) (hm : m < 30) (hk1 : b1.1 674 (2121 + 9 * m) = nI 5) (h : dv_CN x n r m a1 b1 i a b) (ha0 : a.1 (210 + r) 0 = nI (18 + 5)) : dv_NE x n r m a1 b1 i (db_bd (db_f73 a (nI 1) (nI 99) (210 + r) (nI 4)) fun q9 s10 => (some (q9, s10))) (db_bd (db_f268 b (nI 1) (nI 99)) fun q2 s3 => ((db_wI s3 674 (nI (2121 + 9 * m + 1)) q2).bind fun s4 => (some s4))) := by
  obtain ⟨rr, a3, v3, b3, e3, e4, hh⟩ := dv_oNum (lo := 1) (hi := 99) (d := 210 + r) (f := 4) (by omega) (by omega) (by omega) (dv_rr2 hr (by omega)).1 h.1 h.2.1 h.2.2.1
  rcases hh with ⟨rfl, ⟨p, p1, p2, rfl⟩, j1, j2, j3, j4, j5⟩ | ⟨rfl, rfl, j1, j2, j3⟩
  · have h3 := dv_CNw (v := nI p) (g := 1) (dv_CNf hr h j3 j4 j2 j5) (by omega)
    refine ⟨true, a3, _, ?_, ?_, .inl ⟨rfl, ⟨i + 1, by omega, h3⟩, 5, by omega, ?_, ?_, fun h => absurd h (by omega), fun h => absurd h (by omega), fun h => absurd h (by omega), fun h => absurd h (by omega), fun _ => ⟨p, p1, p2, ?_, ?_⟩⟩⟩
    · simp (disch := omega) only [db_lit, eq_self, db_pI_e, db_pL_e, db_bind_some, db_bd_some, nI_add, pk_mul, nI_toInt, db_m1_t, dz_cn, Int.ofNat_le, Int.ofNat_lt, decide_true, decide_false, db_ct, db_cf, not_true_eq_false, not_false_eq_true, db_87e, db_37e, db_31e, db_28e, db_281e, db_211e, db_27, db_269w, db_litL, pk_lT, db_iL, db_p0_e, db_p0_n, db_p0_j, db_sub1, nI_eq, if_true, if_false, Bool.false_eq_true, Nat.one_ne_zero, e3]
    · simp (disch := omega) only [db_lit, eq_self, db_pI_e, db_pL_e, db_bind_some, db_bd_some, nI_add, pk_mul, nI_toInt, db_m1_t, dz_cn, Int.ofNat_le, Int.ofNat_lt, decide_true, decide_false, db_ct, db_cf, not_true_eq_false, not_false_eq_true, db_87e, db_37e, db_31e, db_28e, db_281e, db_211e, db_27, db_269w, db_litL, pk_lT, db_iL, db_p0_e, db_p0_n, db_p0_j, db_sub1, nI_eq, if_true, if_false, Bool.false_eq_true, Nat.one_ne_zero, e4, db_h_674]
    · rw [dv_cc_40 hm, h3.2.2.2.2.2.2.1 _ (by omega)]; exact hk1
    · rw [j2.2.2.2 0 (by omega)]; exact ha0
    · rw [dv_cc_4 hm (by omega), db_uI_1]
    · exact j1
  · refine dv_NEf h (a2 := a3) (b2 := b3) ?_ ?_ j1 j2 j3 (dv_Bq_4 (j := 2121 + 9 * m + 1) (v := nI 0) dv_Bq_r (by omega))
    · simp (disch := omega) only [db_lit, eq_self, db_pI_e, db_pL_e, db_bind_some, db_bd_some, nI_add, pk_mul, nI_toInt, db_m1_t, dz_cn, Int.ofNat_le, Int.ofNat_lt, decide_true, decide_false, db_ct, db_cf, not_true_eq_false, not_false_eq_true, db_87e, db_37e, db_31e, db_28e, db_281e, db_211e, db_27, db_269w, db_litL, pk_lT, db_iL, db_p0_e, db_p0_n, db_p0_j, db_sub1, nI_eq, if_true, if_false, Bool.false_eq_true, Nat.one_ne_zero, e3]
    · simp (disch := omega) only [db_lit, eq_self, db_pI_e, db_pL_e, db_bind_some, db_bd_some, nI_add, pk_mul, nI_toInt, db_m1_t, dz_cn, Int.ofNat_le, Int.ofNat_lt, decide_true, decide_false, db_ct, db_cf, not_true_eq_false, not_false_eq_true, db_87e, db_37e, db_31e, db_28e, db_281e, db_211e, db_27, db_269w, db_litL, pk_lT, db_iL, db_p0_e, db_p0_n, db_p0_j, db_sub1, nI_eq, if_true, if_false, Bool.false_eq_true, Nat.one_ne_zero, e4, db_h_674]
/-- which of < = > -/
theorem dv_96 (hr : r < 60) (hC : dv_CT x n i a) : db_f96 a (210 + r) (nI 3) = if dv_kd x n i = 3 ∧ ¬ dv_V x n (dv_P x n i) = nI 59 then some (true, db_uI (db_uI a (210 + r) 3 (dv_V x n (dv_P x n i) - nI 61)) 13 9 (nI (i + 1))) else some (false, dv_fa x n i 2 a) := by
  have h4 : dv_kd x n i ≤ 4 := dv_K4
  unfold db_f96 db_f96_b27
  rw [hC.2.1]
  by_cases e : dv_kd x n i = 3
  · have g18 := dv_g18 hC (.inr e)
    by_cases e2 : dv_V x n (dv_P x n i) = nI 59
    · rw [if_neg (fun h => h.2 e2)]
      rw [e2] at g18
      simp (disch := omega) only [db_lit, eq_self, db_pI_e, db_pL_e, db_bind_some, db_bd_some, nI_add, pk_mul, nI_toInt, db_m1_t, dz_cn, Int.ofNat_le, Int.ofNat_lt, decide_true, decide_false, db_ct, db_cf, not_true_eq_false, not_false_eq_true, db_87e, db_37e, db_31e, db_28e, db_281e, db_211e, db_27, db_269w, db_litL, pk_lT, db_iL, db_p0_e, db_p0_n, db_p0_j, db_sub1, nI_eq, if_true, if_false, Bool.false_eq_true, Nat.one_ne_zero, dv_g16 hC, e, g18, dv_58 hC 2]
    · rw [if_pos ⟨e, e2⟩]
      have hC' : dv_CT x n i (db_uI a (210 + r) 3 (dv_V x n (dv_P x n i) - nI 61)) := dv_CT_u hC (by omega)
      simp (disch := omega) only [db_lit, eq_self, db_pI_e, db_pL_e, db_bind_some, db_bd_some, nI_add, pk_mul, nI_toInt, db_m1_t, dz_cn, Int.ofNat_le, Int.ofNat_lt, decide_true, decide_false, db_ct, db_cf, not_true_eq_false, not_false_eq_true, db_87e, db_37e, db_31e, db_28e, db_281e, db_211e, db_27, db_269w, db_litL, pk_lT, db_iL, db_p0_e, db_p0_n, db_p0_j, db_sub1, nI_eq, if_true, if_false, Bool.false_eq_true, Nat.one_ne_zero, dv_g16 hC, e, g18, e2, (dv_rr2 hr (show 3 < 6 by omega)).1, dv_60 hC' (show ¬ dv_kd x n i = 0 by omega)]
  · rw [if_neg (fun h => e h.1)]
    simp (disch := omega) only [db_lit, eq_self, db_pI_e, db_pL_e, db_bind_some, db_bd_some, nI_add, pk_mul, nI_toInt, db_m1_t, dz_cn, Int.ofNat_le, Int.ofNat_lt, decide_true, decide_false, db_ct, db_cf, not_true_eq_false, not_false_eq_true, db_87e, db_37e, db_31e, db_28e, db_281e, db_211e, db_27, db_269w, db_litL, pk_lT, db_iL, db_p0_e, db_p0_n, db_p0_j, db_sub1, nI_eq, if_true, if_false, Bool.false_eq_true, Nat.one_ne_zero, dv_g16 hC, e, dv_58 hC 2]
theorem dv_121b (hm : m < 30) {g : Int32} (h : dv_Bad b) : db_f279_b121 b (nI (2121 + 9 * m)) g = some (db_uI b 674 (2121 + 9 * m + 2) (nI 0)) := by
  unfold db_f279_b121
  simp (disch := omega) only [db_lit, eq_self, db_pI_e, db_pL_e, db_bind_some, db_bd_some, nI_add, pk_mul, nI_toInt, db_m1_t, dz_cn, Int.ofNat_le, Int.ofNat_lt, decide_true, decide_false, db_ct, db_cf, not_true_eq_false, not_false_eq_true, db_87e, db_37e, db_31e, db_28e, db_281e, db_211e, db_27, db_269w, db_litL, pk_lT, db_iL, db_p0_e, db_p0_n, db_p0_j, db_sub1, nI_eq, if_true, if_false, Bool.false_eq_true, Nat.one_ne_zero, dv_264b h, dv_267b h, db_h_674]
/-- a sum and what it is held against -/
theorem dv_nComp (hr : r < 60) (hm : m < 30) {p : Nat} (hp : p < db_n (db_bk b1 0) 1) (hk1 : b1.1 674 (2121 + 9 * m) = nI 4) (h : dv_CN x n r m a1 b1 i a b) (ha0 : a.1 (210 + r) 0 = nI (18 + 4)) (ha2 : a.1 (210 + r) 2 = nI p) (hb1 : b.1 674 (2121 + 9 * m + 1) = nI p) (hb6 : b.1 674 (2121 + 9 * m + 6) = nI 0) : dv_NE x n r m a1 b1 i (db_bd (db_f96 a (210 + r) (nI 3)) fun q7 s8 => (cond q7 (db_bd (db_f72 s8 (nI 9999) (210 + r) (nI 4)) fun q9 s10 => (cond q9 (some (true, s10)) (some (false, s10)))) (some (false, s8)))) (db_f279_b87 b (nI (2121 + 9 * m)) (nI (2121 + 9 * m + 7)) (if dv_kd x n i = 3 then dv_V x n (dv_P x n i) else nI 0)) := by
  have h1 := dv_CNw (v := if dv_kd x n i = 3 then dv_V x n (dv_P x n i) else nI 0) (g := 7) h (by omega)
  have e60 := dv_273 h1.2.1 (g := 60) (by decide)
  have e62 := dv_273 h1.2.1 (g := 62) (by decide)
  have e61 := dv_273 h1.2.1 (g := 61) (by decide)
  rw [dv_96 hr h.1]
  by_cases e : dv_kd x n i = 3 ∧ ¬ dv_V x n (dv_P x n i) = nI 59
  · have hV := dv_V3 (x := x) (n := n) (p := dv_P x n i) e.1
    rw [if_pos e.1] at h1 e60 e62 e61 ⊢
    rw [if_pos e]
    obtain ⟨b2, eb2, r2, f2⟩ := dv_264t h1.2.1 h1.2.2.1
    have hC2 : dv_CT x n (i + 1) (db_uI (db_uI a (210 + r) 3 (dv_V x n (dv_P x n i) - nI 61)) 13 9 (nI (i + 1))) := dv_CT_s (dv_CT_u h.1 (by omega)) (by omega)
    have hFr : dv_Fr (210 + r) 3 a (db_uI (db_uI a (210 + r) 3 (dv_V x n (dv_P x n i) - nI 61)) 13 9 (nI (i + 1))) := ⟨fun c c1 c2 => by rw [db_uI_n c2, db_uI_n c1], rfl, fun j hj => by rw [db_uI_j hj, db_uI_n (by omega)], fun j hj => by rw [db_uI_n (by omega), db_uI_j hj]⟩
    have h2 := dv_CNf hr h1 hC2 r2 hFr f2
    have e7 : b2.1 674 (2121 + 9 * m + 7) = dv_V x n (dv_P x n i) := by rw [(f2.1 674 (by decide)).1, db_uI_1]
    have e87 : ∀ fb, db_f279_b121 (db_uI b 674 (2121 + 9 * m + 7) (dv_V x n (dv_P x n i))) (nI (2121 + 9 * m)) (nI 1) = fb → db_f279_b87 b (nI (2121 + 9 * m)) (nI (2121 + 9 * m + 7)) (dv_V x n (dv_P x n i)) = fb := by
      intro fb hfb
      unfold db_f279_b87 db_f279_b116
      simp (disch := omega) only [db_lit, eq_self, db_pI_e, db_pL_e, db_bind_some, db_bd_some, nI_add, pk_mul, nI_toInt, db_m1_t, dz_cn, Int.ofNat_le, Int.ofNat_lt, decide_true, decide_false, db_ct, db_cf, not_true_eq_false, not_false_eq_true, db_87e, db_37e, db_31e, db_28e, db_281e, db_211e, db_27, db_269w, db_litL, pk_lT, db_iL, db_p0_e, db_p0_n, db_p0_j, db_sub1, nI_eq, if_true, if_false, Bool.false_eq_true, Nat.one_ne_zero, db_h_674, e60, e61, e62, e.1]
      rcases hV with hV | hV | hV | hV
      · exact absurd hV e.2
      · rw [hV] at hfb ⊢
        simp (disch := omega) only [db_lit, eq_self, db_pI_e, db_pL_e, db_bind_some, db_bd_some, nI_add, pk_mul, nI_toInt, db_m1_t, dz_cn, Int.ofNat_le, Int.ofNat_lt, decide_true, decide_false, db_ct, db_cf, not_true_eq_false, not_false_eq_true, db_87e, db_37e, db_31e, db_28e, db_281e, db_211e, db_27, db_269w, db_litL, pk_lT, db_iL, db_p0_e, db_p0_n, db_p0_j, db_sub1, nI_eq, if_true, if_false, Bool.false_eq_true, Nat.one_ne_zero]
        exact hfb
      · rw [hV] at hfb ⊢
        simp (disch := omega) only [db_lit, eq_self, db_pI_e, db_pL_e, db_bind_some, db_bd_some, nI_add, pk_mul, nI_toInt, db_m1_t, dz_cn, Int.ofNat_le, Int.ofNat_lt, decide_true, decide_false, db_ct, db_cf, not_true_eq_false, not_false_eq_true, db_87e, db_37e, db_31e, db_28e, db_281e, db_211e, db_27, db_269w, db_litL, pk_lT, db_iL, db_p0_e, db_p0_n, db_p0_j, db_sub1, nI_eq, if_true, if_false, Bool.false_eq_true, Nat.one_ne_zero, (show ¬ 61 = 60 by omega), (show ¬ 61 = 62 by omega)]
        exact hfb
      · rw [hV] at hfb ⊢
        simp (disch := omega) only [db_lit, eq_self, db_pI_e, db_pL_e, db_bind_some, db_bd_some, nI_add, pk_mul, nI_toInt, db_m1_t, dz_cn, Int.ofNat_le, Int.ofNat_lt, decide_true, decide_false, db_ct, db_cf, not_true_eq_false, not_false_eq_true, db_87e, db_37e, db_31e, db_28e, db_281e, db_211e, db_27, db_269w, db_litL, pk_lT, db_iL, db_p0_e, db_p0_n, db_p0_j, db_sub1, nI_eq, if_true, if_false, Bool.false_eq_true, Nat.one_ne_zero, (show ¬ 62 = 60 by omega)]
        exact hfb
    obtain ⟨rr, a3, v3, b3, e3, e4, hh⟩ := dv_oSig (hi := 9999) (d := 210 + r) (f := 4) (by omega) (by omega) (dv_rr2 hr (by omega)).1 (dv_rr2 hr (by omega)).2 h2.1 h2.2.1 h2.2.2.1
    have e121 : db_f279_b121 (db_uI b 674 (2121 + 9 * m + 7) (dv_V x n (dv_P x n i))) (nI (2121 + 9 * m)) (nI 1) = some (db_uI b3 674 (2121 + 9 * m + 2) v3) := by
      unfold db_f279_b121
      simp (disch := omega) only [db_lit, eq_self, db_pI_e, db_pL_e, db_bind_some, db_bd_some, nI_add, pk_mul, nI_toInt, db_m1_t, dz_cn, Int.ofNat_le, Int.ofNat_lt, decide_true, decide_false, db_ct, db_cf, not_true_eq_false, not_false_eq_true, db_87e, db_37e, db_31e, db_28e, db_281e, db_211e, db_27, db_269w, db_litL, pk_lT, db_iL, db_p0_e, db_p0_n, db_p0_j, db_sub1, nI_eq, if_true, if_false, Bool.false_eq_true, Nat.one_ne_zero, eb2, e4, db_h_674]
    rcases hh with ⟨rfl, hv, j1, j2, i1, hi1, j3, j4, j5⟩ | ⟨rfl, j1, j2, j3⟩
    · have h3 := dv_CNw (v := v3) (g := 2) (dv_CNf hr h2 j3 j4 j2 j5) (by omega)
      have hF := h3.2.2.2.2.2.2.2.2.2
      have hf : ∀ f, f ≠ 4 → f ≠ 3 → a3.1 (210 + r) f = a.1 (210 + r) f := fun f f4 f3 => by rw [j2.2.2.2 f f4, hFr.2.2.2 f f3]
      have hb : ∀ g, g < 9 → g ≠ 2 → g ≠ 7 → (db_uI b3 674 (2121 + 9 * m + 2) v3).1 674 (2121 + 9 * m + g) = b.1 674 (2121 + 9 * m + g) := fun g g9 g2 g7 => by rw [db_uI_j (by omega), (j5.1 674 (by decide)).1, (f2.1 674 (by decide)).1, db_uI_j (by omega)]
      refine ⟨true, a3, _, ?_, e87 _ e121, .inl ⟨rfl, ⟨i1, by omega, h3⟩, 4, by omega, ?_, ?_, fun h => absurd h (by omega), fun h => absurd h (by omega), fun h => absurd h (by omega), fun _ => .inr ⟨?_, ⟨p, ?_, ?_, ?_⟩, ?_, ?_, ?_⟩, fun h => absurd h (by omega)⟩⟩
      · simp (disch := omega) only [db_lit, eq_self, db_pI_e, db_pL_e, db_bind_some, db_bd_some, nI_add, pk_mul, nI_toInt, db_m1_t, dz_cn, Int.ofNat_le, Int.ofNat_lt, decide_true, decide_false, db_ct, db_cf, not_true_eq_false, not_false_eq_true, db_87e, db_37e, db_31e, db_28e, db_281e, db_211e, db_27, db_269w, db_litL, pk_lT, db_iL, db_p0_e, db_p0_n, db_p0_j, db_sub1, nI_eq, if_true, if_false, Bool.false_eq_true, Nat.one_ne_zero, e3]
      · rw [dv_cc_40 hm, h3.2.2.2.2.2.2.1 _ (by omega)]; exact hk1
      · rw [hf 0 (by omega) (by omega)]; exact ha0
      · rw [dv_cc_4 hm (by omega), hb 6 (by omega) (by omega) (by omega)]; exact hb6
      · rw [dv_cc_n (by omega), dv_n0F (by omega) hF]; exact hp
      · rw [dv_cc_4 hm (by omega), hb 1 (by omega) (by omega) (by omega)]; exact hb1
      · rw [hf 2 (by omega) (by omega)]; exact ha2
      · rw [dv_cc_4 hm (by omega), db_uI_1]; exact j1
      · rw [dv_cc_4 hm (by omega), db_uI_1]
        omega
      · have e3' : a3.1 (210 + r) 3 = dv_V x n (dv_P x n i) - nI 61 := by rw [j2.2.2.2 3 (by omega), db_uI_n (by omega), db_uI_1]
        have e7' : (db_uI b3 674 (2121 + 9 * m + 2) v3).1 674 (2121 + 9 * m + 7) = dv_V x n (dv_P x n i) := by rw [db_uI_j (by omega), (j5.1 674 (by decide)).1]; exact e7
        rw [dv_cc_4 hm (by omega), e7', e3']
        rcases hV with hV | hV | hV | hV
        · exact absurd hV e.2
        · rw [hV]; exact .inl ⟨rfl, by decide⟩
        · rw [hV]; exact .inr (.inl ⟨rfl, by decide⟩)
        · rw [hV]; exact .inr (.inr ⟨rfl, by decide⟩)
    · refine dv_NEf h2 (a2 := a3) (b2 := b3) ?_ (e87 _ e121) j1 j2 j3 (dv_Bq_4 (j := 2121 + 9 * m + 2) (v := v3) dv_Bq_r (by omega))
      simp (disch := omega) only [db_lit, eq_self, db_pI_e, db_pL_e, db_bind_some, db_bd_some, nI_add, pk_mul, nI_toInt, db_m1_t, dz_cn, Int.ofNat_le, Int.ofNat_lt, decide_true, decide_false, db_ct, db_cf, not_true_eq_false, not_false_eq_true, db_87e, db_37e, db_31e, db_28e, db_281e, db_211e, db_27, db_269w, db_litL, pk_lT, db_iL, db_p0_e, db_p0_n, db_p0_j, db_sub1, nI_eq, if_true, if_false, Bool.false_eq_true, Nat.one_ne_zero, e3]
  · rw [if_neg e]
    have hB := dv_fb_B (x := x) (n := n) (i := i) (b := db_uI b 674 (2121 + 9 * m + 7) (if dv_kd x n i = 3 then dv_V x n (dv_P x n i) else nI 0)) (f := 2) (by omega) (by omega)
    have e264 := dv_264f h1.2.1 h1.2.2.1
    have hno : ∀ g, g = 60 ∨ g = 61 ∨ g = 62 → (decide (dv_kd x n i = 3) && decide (dv_V x n (dv_P x n i) = nI g)) = false := by
      intro g hg
      by_cases e1 : dv_kd x n i = 3
      · have e2 : dv_V x n (dv_P x n i) = nI 59 := by
          by_cases e2 : dv_V x n (dv_P x n i) = nI 59
          · exact e2
          · exact absurd ⟨e1, e2⟩ e
        rw [e2, decide_eq_false (show ¬ nI 59 = nI g by rw [nI_eq (by omega) (by omega)]; omega), Bool.and_false]
      · rw [decide_eq_false e1, Bool.false_and]
    have e121 : db_f279_b121 (db_uI b 674 (2121 + 9 * m + 7) (if dv_kd x n i = 3 then dv_V x n (dv_P x n i) else nI 0)) (nI (2121 + 9 * m)) (nI 0) = some (db_uI (dv_fb x n i 2 (db_uI b 674 (2121 + 9 * m + 7) (if dv_kd x n i = 3 then dv_V x n (dv_P x n i) else nI 0))) 674 (2121 + 9 * m + 2) (nI 0)) := by
      unfold db_f279_b121
      simp (disch := omega) only [db_lit, eq_self, db_pI_e, db_pL_e, db_bind_some, db_bd_some, nI_add, pk_mul, nI_toInt, db_m1_t, dz_cn, Int.ofNat_le, Int.ofNat_lt, decide_true, decide_false, db_ct, db_cf, not_true_eq_false, not_false_eq_true, db_87e, db_37e, db_31e, db_28e, db_281e, db_211e, db_27, db_269w, db_litL, pk_lT, db_iL, db_p0_e, db_p0_n, db_p0_j, db_sub1, nI_eq, if_true, if_false, Bool.false_eq_true, Nat.one_ne_zero, e264, dv_267b hB, db_h_674]
    refine dv_NEf h1 (a2 := dv_fa x n i 2 a) (b2 := dv_fb x n i 2 (db_uI b 674 (2121 + 9 * m + 7) (if dv_kd x n i = 3 then dv_V x n (dv_P x n i) else nI 0))) rfl ?_ (dv_Fl_f (by omega) (by omega)) (dv_Fa_fa dv_Fa_r) (dv_Fb_fb dv_Fb_r) (dv_Bq_4 (j := 2121 + 9 * m + 2) (v := nI 0) dv_Bq_r (by omega))
    unfold db_f279_b87
    rw [db_h_674 (by omega), db_bind_some]
    rw [show (60 : Int32) = nI 60 from rfl, show (61 : Int32) = nI 61 from rfl, show (62 : Int32) = nI 62 from rfl, e60, e61, e62, hno 60 (by omega), hno 61 (by omega), hno 62 (by omega)]
    exact e121
/-- a test -/
theorem dv_nTest (hr : r < 60) (hm : m < 30) (hL1 : dv_Lk_20 a1 b1 1) (hL3 : dv_Lk_20 a1 b1 3) (hk1 : b1.1 674 (2121 + 9 * m) = nI 4) (h : dv_CN x n r m a1 b1 i a b) (ha0 : a.1 (210 + r) 0 = nI (18 + 4)) : dv_NE x n r m a1 b1 i (db_f95 a (210 + r)) (db_f279 b (nI (2121 + 9 * m))) := by
  have h66 := dv_66 h.1 (j := 27) (by decide)
  have hx := dv_x255 h.2.1
  unfold db_f95 db_f279
  by_cases e27 : dv_w x n i = nI 27
  · -- worn
    have hkd := dv_w_kd (by decide) e27
    rw [if_pos e27, decide_eq_true e27] at h66
    rw [e27, if_neg (by decide), if_pos rfl] at hx
    obtain ⟨b2, eb2, r2, f2⟩ := dv_264t h.2.1 h.2.2.1
    have h2 : dv_CN x n r m a1 b1 (i + 1) (db_uI a 13 9 (nI (i + 1))) b2 := dv_CNt hr h (dv_CT_s h.1 (by omega)) r2 f2
    have h3 := dv_CNw (v := nI 1) (g := 6) h2 (by omega)
    have hC3 : dv_CT x n (i + 1) (db_uI (db_uI a 13 9 (nI (i + 1))) (210 + r) 2 (-(nI 1))) := dv_CT_u h3.1 (by omega)
    have hFr : dv_Fr (210 + r) 2 (db_uI a 13 9 (nI (i + 1))) (db_uI (db_uI a 13 9 (nI (i + 1))) (210 + r) 2 (-(nI 1))) := ⟨fun c c1 c2 => db_uI_n c1, rfl, fun j hj => by rw [db_uI_n (by omega)], fun j hj => db_uI_j hj⟩
    have h4 := dv_CNf hr h3 hC3 h3.2.1 hFr dv_Fn_r
    obtain ⟨rr, a3, v3, b3, e3, e4, hh⟩ := dv_oName_20 (q := 3) (g := 3) (d := 210 + r) (f := 1) (by omega) rfl (by omega) (by omega) (dv_rr2 hr (by omega)).1 (dv_rr2 hr (by omega)).2 h4.1 h4.2.1 h4.2.2.1 (dv_LkF (by omega) h4.2.2.2.2.2.1 h4.2.2.2.2.2.2.2.2.2 hL3)
    unfold db_f279_b15 db_f279_b46
    rcases hh with ⟨rfl, ⟨p, hp, rfl⟩, j1, j2, j3, j4, j5⟩ | ⟨rfl, rfl, j1, j2, j3⟩
    · have h5 := dv_CNw (v := nI p) (g := 1) (dv_CNf hr h4 j3 j4 j2 j5) (by omega)
      have hF := h5.2.2.2.2.2.2.2.2.2
      have h012 := h5.2.2.1
      refine ⟨true, a3, _, ?_, ?_, .inl ⟨rfl, ⟨i + 1 + 1, by omega, h5⟩, 4, by omega, ?_, ?_, fun h => absurd h (by omega), fun h => absurd h (by omega), fun h => absurd h (by omega), fun _ => .inl ⟨?_, ?_, p, ?_, ?_, ?_⟩, fun h => absurd h (by omega)⟩⟩
      · simp (disch := omega) only [db_lit, eq_self, db_pI_e, db_pL_e, db_bind_some, db_bd_some, nI_add, pk_mul, nI_toInt, db_m1_t, dz_cn, Int.ofNat_le, Int.ofNat_lt, decide_true, decide_false, db_ct, db_cf, not_true_eq_false, not_false_eq_true, db_87e, db_37e, db_31e, db_28e, db_281e, db_211e, db_27, db_269w, db_litL, pk_lT, db_iL, db_p0_e, db_p0_n, db_p0_j, db_sub1, nI_eq, if_true, if_false, Bool.false_eq_true, Nat.one_ne_zero, h66, (dv_rr2 hr (show 2 < 6 by omega)).1, db_m1_l, e3]
      · simp (disch := omega) only [db_lit, eq_self, db_pI_e, db_pL_e, db_bind_some, db_bd_some, nI_add, pk_mul, nI_toInt, db_m1_t, dz_cn, Int.ofNat_le, Int.ofNat_lt, decide_true, decide_false, db_ct, db_cf, not_true_eq_false, not_false_eq_true, db_87e, db_37e, db_31e, db_28e, db_281e, db_211e, db_27, db_269w, db_litL, pk_lT, db_iL, db_p0_e, db_p0_n, db_p0_j, db_sub1, nI_eq, if_true, if_false, Bool.false_eq_true, Nat.one_ne_zero, hx, (show ¬ ((1 : Nat) : Int) < ((0 : Nat) : Int) by omega), eb2, db_h_674, e4, h012, Nat.lt_irrefl]
      · rw [dv_cc_40 hm, h5.2.2.2.2.2.2.1 _ (by omega)]; exact hk1
      · rw [j2.2.2.2 0 (by omega), db_uI_j (by omega), db_uI_n (by omega)]; exact ha0
      · rw [dv_cc_4 hm (by omega), db_uI_j (by omega), (j5.1 674 (by decide)).1, db_uI_1]
      · rw [j2.2.2.2 2 (by omega), db_uI_1]
      · rw [dv_cc_n (by omega), dv_n0F (by omega) hF, ← dv_n0F (by omega) h4.2.2.2.2.2.2.2.2.2]; exact hp
      · rw [dv_cc_4 hm (by omega), db_uI_1]
      · exact j1
    · obtain ⟨f, f1, f2', f3⟩ := j1.1
      have f4 : (db_uI b3 674 (2121 + 9 * m + 1) (nI 0)).1 669 12 = nI f := by rw [db_uI_n (by decide)]; exact f3
      refine dv_NEf h4 (a2 := a3) (b2 := b3) ?_ ?_ j1 j2 j3 (dv_Bq_4 (j := 2121 + 9 * m + 1) (v := nI 0) dv_Bq_r (by omega))
      · simp (disch := omega) only [db_lit, eq_self, db_pI_e, db_pL_e, db_bind_some, db_bd_some, nI_add, pk_mul, nI_toInt, db_m1_t, dz_cn, Int.ofNat_le, Int.ofNat_lt, decide_true, decide_false, db_ct, db_cf, not_true_eq_false, not_false_eq_true, db_87e, db_37e, db_31e, db_28e, db_281e, db_211e, db_27, db_269w, db_litL, pk_lT, db_iL, db_p0_e, db_p0_n, db_p0_j, db_sub1, nI_eq, if_true, if_false, Bool.false_eq_true, Nat.one_ne_zero, h66, (dv_rr2 hr (show 2 < 6 by omega)).1, db_m1_l, e3]
      · simp (disch := omega) only [db_lit, eq_self, db_pI_e, db_pL_e, db_bind_some, db_bd_some, nI_add, pk_mul, nI_toInt, db_m1_t, dz_cn, Int.ofNat_le, Int.ofNat_lt, decide_true, decide_false, db_ct, db_cf, not_true_eq_false, not_false_eq_true, db_87e, db_37e, db_31e, db_28e, db_281e, db_211e, db_27, db_269w, db_litL, pk_lT, db_iL, db_p0_e, db_p0_n, db_p0_j, db_sub1, nI_eq, if_true, if_false, Bool.false_eq_true, Nat.one_ne_zero, hx, (show ¬ ((1 : Nat) : Int) < ((0 : Nat) : Int) by omega), eb2, db_h_674, e4, f4, (show 0 < f by omega)]
  · rw [if_neg e27, decide_eq_false e27] at h66
    obtain ⟨rr, a2, b2, e1, e2, hh⟩ := dv_oTake (j := 26) h.1 h.2.1 h.2.2.1 (by omega)
    rcases hh with ⟨rfl, ea2, g3, g4, g5⟩ | ⟨rfl, g1, g2, g3⟩
    · -- a sum
      have e26 : dv_w x n i = nI 26 := by
        by_cases e26 : dv_w x n i = nI 26
        · exact e26
        · exfalso
          rw [decide_eq_false e26] at e2
          have := (dv_264f h.2.1 h.2.2.1).symm.trans e2
          have hB := dv_fb_B (x := x) (n := n) (i := i) (b := b) (f := 2) (by omega) (by omega)
          obtain ⟨f, f1, f2, f3⟩ := hB
          rw [Option.some.inj this, g5.2.1 12 (by omega), h.2.2.1, nI_eq (by omega) (by omega)] at f3
          omega
      rw [e26, if_pos rfl] at hx
      rw [decide_eq_true e26] at e2
      have e2 : db_f264 b (nI 1) = some b2 := e2
      have h2 : dv_CN x n r m a1 b1 (i + 1) a2 b2 := by rw [ea2] at g3 ⊢; exact dv_CNt hr h g3 g4 g5
      have h3 := dv_CNw (v := nI 0) (g := 6) h2 (by omega)
      obtain ⟨rr, a3, v3, b3, e3, e4, hh⟩ := dv_oName_20 (q := 1) (g := 1) (d := 210 + r) (f := 2) (by omega) rfl (by omega) (by omega) (dv_rr2 hr (by omega)).1 (dv_rr2 hr (by omega)).2 h3.1 h3.2.1 h3.2.2.1 (dv_LkF (by omega) h3.2.2.2.2.2.1 h3.2.2.2.2.2.2.2.2.2 hL1)
      unfold db_f279_b15 db_f279_b46
      rcases hh with ⟨rfl, ⟨p, hp, rfl⟩, j1, j2, j3, j4, j5⟩ | ⟨rfl, rfl, j1, j2, j3⟩
      · have h5 := dv_CNw (v := nI p) (g := 1) (dv_CNf hr h3 j3 j4 j2 j5) (by omega)
        have h012 := h5.2.2.1
        have hN := dv_nComp hr hm (p := p) (by rw [← dv_n0F (by omega) h3.2.2.2.2.2.2.2.2.2]; exact hp) hk1 h5 (by rw [j2.2.2.2 0 (by omega), ea2, db_uI_n (by omega)]; exact ha0) j1 db_uI_1 (by rw [db_uI_j (by omega), (j5.1 674 (by decide)).1, db_uI_1])
        have t14 := dv_14 h5.2.1
        have h4 : dv_kd x n (i + 1 + 1) ≤ 4 := dv_K4
        have eB : (cond (db_cnd .ne ((db_uI b3 674 (2121 + 9 * m + 1) (nI p)).1 669 14) (nI 3)) (db_f279_b87 (db_uI b3 674 (2121 + 9 * m + 1) (nI p)) (nI (2121 + 9 * m)) (nI (2121 + 9 * m + 7)) (nI 0)) (db_f279_b87 (db_uI b3 674 (2121 + 9 * m + 1) (nI p)) (nI (2121 + 9 * m)) (nI (2121 + 9 * m + 7)) ((db_uI b3 674 (2121 + 9 * m + 1) (nI p)).1 669 17))) = db_f279_b87 (db_uI b3 674 (2121 + 9 * m + 1) (nI p)) (nI (2121 + 9 * m)) (nI (2121 + 9 * m + 7)) (if dv_kd x n (i + 1 + 1) = 3 then dv_V x n (dv_P x n (i + 1 + 1)) else nI 0) := by
          rw [t14]
          by_cases e : dv_kd x n (i + 1 + 1) = 3
          · rw [dv_17 h5.2.1 (.inr e), if_pos e]
            simp (disch := omega) only [db_lit, eq_self, db_pI_e, db_pL_e, db_bind_some, db_bd_some, nI_add, pk_mul, nI_toInt, db_m1_t, dz_cn, Int.ofNat_le, Int.ofNat_lt, decide_true, decide_false, db_ct, db_cf, not_true_eq_false, not_false_eq_true, db_87e, db_37e, db_31e, db_28e, db_281e, db_211e, db_27, db_269w, db_litL, pk_lT, db_iL, db_p0_e, db_p0_n, db_p0_j, db_sub1, nI_eq, if_true, if_false, Bool.false_eq_true, Nat.one_ne_zero, e]
          · rw [if_neg e]
            simp (disch := omega) only [db_lit, eq_self, db_pI_e, db_pL_e, db_bind_some, db_bd_some, nI_add, pk_mul, nI_toInt, db_m1_t, dz_cn, Int.ofNat_le, Int.ofNat_lt, decide_true, decide_false, db_ct, db_cf, not_true_eq_false, not_false_eq_true, db_87e, db_37e, db_31e, db_28e, db_281e, db_211e, db_27, db_269w, db_litL, pk_lT, db_iL, db_p0_e, db_p0_n, db_p0_j, db_sub1, nI_eq, if_true, if_false, Bool.false_eq_true, Nat.one_ne_zero, e]
        obtain ⟨rr, aa, bb, q1, q2, q3⟩ := hN
        refine ⟨rr, aa, bb, ?_, ?_, ?_⟩
        · simp (disch := omega) only [db_lit, eq_self, db_pI_e, db_pL_e, db_bind_some, db_bd_some, nI_add, pk_mul, nI_toInt, db_m1_t, dz_cn, Int.ofNat_le, Int.ofNat_lt, decide_true, decide_false, db_ct, db_cf, not_true_eq_false, not_false_eq_true, db_87e, db_37e, db_31e, db_28e, db_281e, db_211e, db_27, db_269w, db_litL, pk_lT, db_iL, db_p0_e, db_p0_n, db_p0_j, db_sub1, nI_eq, if_true, if_false, Bool.false_eq_true, Nat.one_ne_zero, h66, e1, e3]
          exact q1
        · simp (disch := omega) only [db_lit, eq_self, db_pI_e, db_pL_e, db_bind_some, db_bd_some, nI_add, pk_mul, nI_toInt, db_m1_t, dz_cn, Int.ofNat_le, Int.ofNat_lt, decide_true, decide_false, db_ct, db_cf, not_true_eq_false, not_false_eq_true, db_87e, db_37e, db_31e, db_28e, db_281e, db_211e, db_27, db_269w, db_litL, pk_lT, db_iL, db_p0_e, db_p0_n, db_p0_j, db_sub1, nI_eq, if_true, if_false, Bool.false_eq_true, Nat.one_ne_zero, hx, (show ¬ ((0 : Nat) : Int) < ((0 : Nat) : Int) by omega), e2, db_h_674, e4, h012, Nat.lt_irrefl, (show ¬ 0 = 1 by omega)]
          refine Eq.trans ?_ (eB.trans q2)
          simp (disch := omega) only [db_lit, eq_self, db_pI_e, db_pL_e, db_bind_some, db_bd_some, nI_add, pk_mul, nI_toInt, db_m1_t, dz_cn, Int.ofNat_le, Int.ofNat_lt, decide_true, decide_false, db_ct, db_cf, not_true_eq_false, not_false_eq_true, db_87e, db_37e, db_31e, db_28e, db_281e, db_211e, db_27, db_269w, db_litL, pk_lT, db_iL, db_p0_e, db_p0_n, db_p0_j, db_sub1, nI_eq, if_true, if_false, Bool.false_eq_true, Nat.one_ne_zero]
        · rcases q3 with ⟨w1, ⟨i1, w2, w3⟩, w4⟩ | w
          · exact .inl ⟨w1, ⟨i1, by omega, w3⟩, w4⟩
          · exact .inr w
      · obtain ⟨f, f1, f2', f3⟩ := j1.1
        have f4 : (db_uI b3 674 (2121 + 9 * m + 1) (nI 0)).1 669 12 = nI f := by rw [db_uI_n (by decide)]; exact f3
        refine dv_NEf h3 (a2 := a3) (b2 := b3) ?_ ?_ j1 j2 j3 (dv_Bq_4 (j := 2121 + 9 * m + 1) (v := nI 0) dv_Bq_r (by omega))
        · simp (disch := omega) only [db_lit, eq_self, db_pI_e, db_pL_e, db_bind_some, db_bd_some, nI_add, pk_mul, nI_toInt, db_m1_t, dz_cn, Int.ofNat_le, Int.ofNat_lt, decide_true, decide_false, db_ct, db_cf, not_true_eq_false, not_false_eq_true, db_87e, db_37e, db_31e, db_28e, db_281e, db_211e, db_27, db_269w, db_litL, pk_lT, db_iL, db_p0_e, db_p0_n, db_p0_j, db_sub1, nI_eq, if_true, if_false, Bool.false_eq_true, Nat.one_ne_zero, h66, e1, e3]
        · simp (disch := omega) only [db_lit, eq_self, db_pI_e, db_pL_e, db_bind_some, db_bd_some, nI_add, pk_mul, nI_toInt, db_m1_t, dz_cn, Int.ofNat_le, Int.ofNat_lt, decide_true, decide_false, db_ct, db_cf, not_true_eq_false, not_false_eq_true, db_87e, db_37e, db_31e, db_28e, db_281e, db_211e, db_27, db_269w, db_litL, pk_lT, db_iL, db_p0_e, db_p0_n, db_p0_j, db_sub1, nI_eq, if_true, if_false, Bool.false_eq_true, Nat.one_ne_zero, hx, (show ¬ ((0 : Nat) : Int) < ((0 : Nat) : Int) by omega), e2, db_h_674, e4, f4, (show 0 < f by omega)]
    · have e26 : ¬ dv_w x n i = nI 26 := fun e26 => by
        rw [decide_eq_true e26] at e2
        obtain ⟨b2', eb2, r2, f2⟩ := dv_264t h.2.1 h.2.2.1
        have := eb2.symm.trans e2
        obtain ⟨f, f1, f2', f3⟩ := g1.1
        rw [← Option.some.inj this, f2.2.1 12 (by omega), h.2.2.1, nI_eq (by omega) (by omega)] at f3
        omega
      rw [if_neg e26, if_neg e27] at hx
      rw [decide_eq_false e26] at e2
      have e2 : db_f264 b (nI 0) = some b2 := e2
      have hq6 : dv_Bq b2 (db_uI b2 674 (2121 + 9 * m + 6) (-(nI 1))) := dv_Bq_4 dv_Bq_r (by omega)
      have hB6 := dv_Bad_q g1.1 hq6
      have hq1 : dv_Bq b2 (db_uI (db_uI b2 674 (2121 + 9 * m + 6) (-(nI 1))) 674 (2121 + 9 * m + 1) (nI 0)) := dv_Bq_4 hq6 (by omega)
      obtain ⟨f, f1, f2', f3⟩ := dv_Bad_q g1.1 hq1
      have hm0 : (-(nI 1) : Int32) = nI 0 ↔ False := ⟨fun h => by rw [db_m1_en (by omega)] at h; exact h, False.elim⟩
      unfold db_f279_b15 db_f279_b46
      refine dv_NEf h (a2 := a2) (b2 := b2) ?_ ?_ g1 g2 g3 hq1
      · simp (disch := omega) only [db_lit, eq_self, db_pI_e, db_pL_e, db_bind_some, db_bd_some, nI_add, pk_mul, nI_toInt, db_m1_t, dz_cn, Int.ofNat_le, Int.ofNat_lt, decide_true, decide_false, db_ct, db_cf, not_true_eq_false, not_false_eq_true, db_87e, db_37e, db_31e, db_28e, db_281e, db_211e, db_27, db_269w, db_litL, pk_lT, db_iL, db_p0_e, db_p0_n, db_p0_j, db_sub1, nI_eq, if_true, if_false, Bool.false_eq_true, Nat.one_ne_zero, h66, e1]
      · simp (disch := omega) only [db_lit, eq_self, db_pI_e, db_pL_e, db_bind_some, db_bd_some, nI_add, pk_mul, nI_toInt, db_m1_t, dz_cn, Int.ofNat_le, Int.ofNat_lt, decide_true, decide_false, db_ct, db_cf, not_true_eq_false, not_false_eq_true, db_87e, db_37e, db_31e, db_28e, db_281e, db_211e, db_27, db_269w, db_litL, pk_lT, db_iL, db_p0_e, db_p0_n, db_p0_j, db_sub1, nI_eq, if_true, if_false, Bool.false_eq_true, Nat.one_ne_zero, hx, (show ((-1 : Int) < ((0 : Nat) : Int)) by omega), e2, db_h_674, db_m1_l, hm0, dv_265b hB6, f3, (show 0 < f by omega)]
/-- what stands behind a step's word -/
theorem dv_rest (hr : r < 60) (hm : m < 30) (hk : k ≤ 6) (hL1 : dv_Lk_20 a1 b1 1) (hL2 : dv_Lk_20 a1 b1 2) (hL3 : dv_Lk_20 a1 b1 3) (hL5 : dv_Lk_20 a1 b1 5) (hk0 : a1.1 (210 + r) 0 = nI (18 + k)) (hk1 : b1.1 674 (2121 + 9 * m) = nI k) (h : dv_CN x n r m a1 b1 i a1 b1) : dv_NE x n r m a1 b1 i (db_f93 a1 (nI (18 + k)) (210 + r)) (db_f278 b1 (nI (2121 + 9 * m))) := by
  unfold db_f93 db_f278
  rcases (by omega : k = 0 ∨ k = 1 ∨ k = 2 ∨ k = 3 ∨ k = 4 ∨ k = 5 ∨ k = 6) with rfl | rfl | rfl | rfl | rfl | rfl | rfl
  · -- night
    obtain ⟨rr, a3, v3, b3, e3, e4, hh⟩ := dv_oName_20 (q := 5) (g := 4) (d := 210 + r) (f := 1) (by omega) rfl (by omega) (by omega) (dv_rr2 hr (by omega)).1 (dv_rr2 hr (by omega)).2 h.1 h.2.1 h.2.2.1 hL5
    unfold db_f278_b16
    rcases hh with ⟨rfl, ⟨p, hp, rfl⟩, j1, j2, j3, j4, j5⟩ | ⟨rfl, rfl, j1, j2, j3⟩
    · have h3 := dv_CNf hr h j3 j4 j2 j5
      obtain ⟨rr, aa, bb, q1, q2, q3⟩ := dv_sleep hr hm hL1 hL2 (k := 0) (by omega) hk0 hk1 h3 (by rw [j2.2.2.2 0 (by omega)]; exact hk0) (g := nI p) (fun _ => ⟨p, hp, rfl, j1⟩)
      refine ⟨rr, aa, bb, ?_, ?_, ?_⟩
      · simp (disch := omega) only [db_lit, eq_self, db_pI_e, db_pL_e, db_bind_some, db_bd_some, nI_add, pk_mul, nI_toInt, db_m1_t, dz_cn, Int.ofNat_le, Int.ofNat_lt, decide_true, decide_false, db_ct, db_cf, not_true_eq_false, not_false_eq_true, db_87e, db_37e, db_31e, db_28e, db_281e, db_211e, db_27, db_269w, db_litL, pk_lT, db_iL, db_p0_e, db_p0_n, db_p0_j, db_sub1, nI_eq, if_true, if_false, Bool.false_eq_true, Nat.one_ne_zero, e3, q1]
        cases rr <;> rfl
      · simp (disch := omega) only [db_lit, eq_self, db_pI_e, db_pL_e, db_bind_some, db_bd_some, nI_add, pk_mul, nI_toInt, db_m1_t, dz_cn, Int.ofNat_le, Int.ofNat_lt, decide_true, decide_false, db_ct, db_cf, not_true_eq_false, not_false_eq_true, db_87e, db_37e, db_31e, db_28e, db_281e, db_211e, db_27, db_269w, db_litL, pk_lT, db_iL, db_p0_e, db_p0_n, db_p0_j, db_sub1, nI_eq, if_true, if_false, Bool.false_eq_true, Nat.one_ne_zero, db_g_674, hk1, e4, q2]
      · rcases q3 with ⟨w1, ⟨i1, w2, w3⟩, w4⟩ | w
        · exact .inl ⟨w1, ⟨i1, by omega, w3⟩, w4⟩
        · exact .inr w
    · obtain ⟨z, ez, hz⟩ := dv_37b (g := nI 0) hm j1.1
      refine dv_NEf h (a2 := a3) (b2 := b3) ?_ ?_ j1 j2 j3 hz
      · simp (disch := omega) only [db_lit, eq_self, db_pI_e, db_pL_e, db_bind_some, db_bd_some, nI_add, pk_mul, nI_toInt, db_m1_t, dz_cn, Int.ofNat_le, Int.ofNat_lt, decide_true, decide_false, db_ct, db_cf, not_true_eq_false, not_false_eq_true, db_87e, db_37e, db_31e, db_28e, db_281e, db_211e, db_27, db_269w, db_litL, pk_lT, db_iL, db_p0_e, db_p0_n, db_p0_j, db_sub1, nI_eq, if_true, if_false, Bool.false_eq_true, Nat.one_ne_zero, e3]
      · simp (disch := omega) only [db_lit, eq_self, db_pI_e, db_pL_e, db_bind_some, db_bd_some, nI_add, pk_mul, nI_toInt, db_m1_t, dz_cn, Int.ofNat_le, Int.ofNat_lt, decide_true, decide_false, db_ct, db_cf, not_true_eq_false, not_false_eq_true, db_87e, db_37e, db_31e, db_28e, db_281e, db_211e, db_27, db_269w, db_litL, pk_lT, db_iL, db_p0_e, db_p0_n, db_p0_j, db_sub1, nI_eq, if_true, if_false, Bool.false_eq_true, Nat.one_ne_zero, db_g_674, hk1, e4, ez]
  · -- any
    obtain ⟨rr, aa, bb, q1, q2, q3⟩ := dv_sleep hr hm hL1 hL2 (k := 1) (by omega) hk0 hk1 h hk0 (g := -(nI 1)) (fun h => absurd h (by decide))
    unfold db_f278_b16
    refine ⟨rr, aa, bb, ?_, ?_, q3⟩
    · simp (disch := omega) only [db_lit, eq_self, db_pI_e, db_pL_e, db_bind_some, db_bd_some, nI_add, pk_mul, nI_toInt, db_m1_t, dz_cn, Int.ofNat_le, Int.ofNat_lt, decide_true, decide_false, db_ct, db_cf, not_true_eq_false, not_false_eq_true, db_87e, db_37e, db_31e, db_28e, db_281e, db_211e, db_27, db_269w, db_litL, pk_lT, db_iL, db_p0_e, db_p0_n, db_p0_j, db_sub1, nI_eq, if_true, if_false, Bool.false_eq_true, Nat.one_ne_zero, (show ¬ 18 + 1 = 18 by omega), q1]
    · simp (disch := omega) only [db_lit, eq_self, db_pI_e, db_pL_e, db_bind_some, db_bd_some, nI_add, pk_mul, nI_toInt, db_m1_t, dz_cn, Int.ofNat_le, Int.ofNat_lt, decide_true, decide_false, db_ct, db_cf, not_true_eq_false, not_false_eq_true, db_87e, db_37e, db_31e, db_28e, db_281e, db_211e, db_27, db_269w, db_litL, pk_lT, db_iL, db_p0_e, db_p0_n, db_p0_j, db_sub1, nI_eq, if_true, if_false, Bool.false_eq_true, Nat.one_ne_zero, db_g_674, hk1, db_m1_l, q2]
  · obtain ⟨rr, aa, bb, q1, q2, q3⟩ := dv_n77 hr hm hL3 (k := 2) (by omega) hk1 h hk0
    refine ⟨rr, aa, bb, ?_, ?_, q3⟩
    · simp (disch := omega) only [db_lit, eq_self, db_pI_e, db_pL_e, db_bind_some, db_bd_some, nI_add, pk_mul, nI_toInt, db_m1_t, dz_cn, Int.ofNat_le, Int.ofNat_lt, decide_true, decide_false, db_ct, db_cf, not_true_eq_false, not_false_eq_true, db_87e, db_37e, db_31e, db_28e, db_281e, db_211e, db_27, db_269w, db_litL, pk_lT, db_iL, db_p0_e, db_p0_n, db_p0_j, db_sub1, nI_eq, if_true, if_false, Bool.false_eq_true, Nat.one_ne_zero, (show ¬ 18 + 2 = 18 by omega), (show ¬ 18 + 2 = 19 by omega), q1]
    · simp (disch := omega) only [db_lit, eq_self, db_pI_e, db_pL_e, db_bind_some, db_bd_some, nI_add, pk_mul, nI_toInt, db_m1_t, dz_cn, Int.ofNat_le, Int.ofNat_lt, decide_true, decide_false, db_ct, db_cf, not_true_eq_false, not_false_eq_true, db_87e, db_37e, db_31e, db_28e, db_281e, db_211e, db_27, db_269w, db_litL, pk_lT, db_iL, db_p0_e, db_p0_n, db_p0_j, db_sub1, nI_eq, if_true, if_false, Bool.false_eq_true, Nat.one_ne_zero, db_g_674, hk1, (show ¬ 2 = 0 by omega), (show ¬ 2 = 1 by omega), q2]
  · obtain ⟨rr, aa, bb, q1, q2, q3⟩ := dv_n77 hr hm hL3 (k := 3) (by omega) hk1 h hk0
    refine ⟨rr, aa, bb, ?_, ?_, q3⟩
    · simp (disch := omega) only [db_lit, eq_self, db_pI_e, db_pL_e, db_bind_some, db_bd_some, nI_add, pk_mul, nI_toInt, db_m1_t, dz_cn, Int.ofNat_le, Int.ofNat_lt, decide_true, decide_false, db_ct, db_cf, not_true_eq_false, not_false_eq_true, db_87e, db_37e, db_31e, db_28e, db_281e, db_211e, db_27, db_269w, db_litL, pk_lT, db_iL, db_p0_e, db_p0_n, db_p0_j, db_sub1, nI_eq, if_true, if_false, Bool.false_eq_true, Nat.one_ne_zero, (show ¬ 18 + 3 = 18 by omega), (show ¬ 18 + 3 = 19 by omega), (show ¬ 18 + 3 = 20 by omega), q1]
    · simp (disch := omega) only [db_lit, eq_self, db_pI_e, db_pL_e, db_bind_some, db_bd_some, nI_add, pk_mul, nI_toInt, db_m1_t, dz_cn, Int.ofNat_le, Int.ofNat_lt, decide_true, decide_false, db_ct, db_cf, not_true_eq_false, not_false_eq_true, db_87e, db_37e, db_31e, db_28e, db_281e, db_211e, db_27, db_269w, db_litL, pk_lT, db_iL, db_p0_e, db_p0_n, db_p0_j, db_sub1, nI_eq, if_true, if_false, Bool.false_eq_true, Nat.one_ne_zero, db_g_674, hk1, (show ¬ 3 = 0 by omega), (show ¬ 3 = 1 by omega), (show ¬ 3 = 2 by omega), q2]
  · obtain ⟨rr, aa, bb, q1, q2, q3⟩ := dv_nTest hr hm hL1 hL3 hk1 h hk0
    refine ⟨rr, aa, bb, ?_, ?_, q3⟩
    · simp (disch := omega) only [db_lit, eq_self, db_pI_e, db_pL_e, db_bind_some, db_bd_some, nI_add, pk_mul, nI_toInt, db_m1_t, dz_cn, Int.ofNat_le, Int.ofNat_lt, decide_true, decide_false, db_ct, db_cf, not_true_eq_false, not_false_eq_true, db_87e, db_37e, db_31e, db_28e, db_281e, db_211e, db_27, db_269w, db_litL, pk_lT, db_iL, db_p0_e, db_p0_n, db_p0_j, db_sub1, nI_eq, if_true, if_false, Bool.false_eq_true, Nat.one_ne_zero, (show ¬ 18 + 4 = 18 by omega), (show ¬ 18 + 4 = 19 by omega), (show ¬ 18 + 4 = 20 by omega), (show ¬ 18 + 4 = 21 by omega), q1]
    · simp (disch := omega) only [db_lit, eq_self, db_pI_e, db_pL_e, db_bind_some, db_bd_some, nI_add, pk_mul, nI_toInt, db_m1_t, dz_cn, Int.ofNat_le, Int.ofNat_lt, decide_true, decide_false, db_ct, db_cf, not_true_eq_false, not_false_eq_true, db_87e, db_37e, db_31e, db_28e, db_281e, db_211e, db_27, db_269w, db_litL, pk_lT, db_iL, db_p0_e, db_p0_n, db_p0_j, db_sub1, nI_eq, if_true, if_false, Bool.false_eq_true, Nat.one_ne_zero, db_g_674, hk1, (show ¬ 4 = 0 by omega), (show ¬ 4 = 1 by omega), (show ¬ 4 = 2 by omega), (show ¬ 4 = 3 by omega), q2]
  · obtain ⟨rr, aa, bb, q1, q2, q3⟩ := dv_nLoop hr hm hk1 h hk0
    refine ⟨rr, aa, bb, ?_, ?_, q3⟩
    · simp (disch := omega) only [db_lit, eq_self, db_pI_e, db_pL_e, db_bind_some, db_bd_some, nI_add, pk_mul, nI_toInt, db_m1_t, dz_cn, Int.ofNat_le, Int.ofNat_lt, decide_true, decide_false, db_ct, db_cf, not_true_eq_false, not_false_eq_true, db_87e, db_37e, db_31e, db_28e, db_281e, db_211e, db_27, db_269w, db_litL, pk_lT, db_iL, db_p0_e, db_p0_n, db_p0_j, db_sub1, nI_eq, if_true, if_false, Bool.false_eq_true, Nat.one_ne_zero, (show ¬ 18 + 5 = 18 by omega), (show ¬ 18 + 5 = 19 by omega), (show ¬ 18 + 5 = 20 by omega), (show ¬ 18 + 5 = 21 by omega), (show ¬ 18 + 5 = 22 by omega)]
      exact q1
    · simp (disch := omega) only [db_lit, eq_self, db_pI_e, db_pL_e, db_bind_some, db_bd_some, nI_add, pk_mul, nI_toInt, db_m1_t, dz_cn, Int.ofNat_le, Int.ofNat_lt, decide_true, decide_false, db_ct, db_cf, not_true_eq_false, not_false_eq_true, db_87e, db_37e, db_31e, db_28e, db_281e, db_211e, db_27, db_269w, db_litL, pk_lT, db_iL, db_p0_e, db_p0_n, db_p0_j, db_sub1, nI_eq, if_true, if_false, Bool.false_eq_true, Nat.one_ne_zero, db_g_674, hk1, (show ¬ 5 = 0 by omega), (show ¬ 5 = 1 by omega), (show ¬ 5 = 2 by omega), (show ¬ 5 = 3 by omega), (show ¬ 5 = 4 by omega)]
      exact q2
  · refine ⟨true, a1, b1, ?_, ?_, .inl ⟨rfl, ⟨i, Nat.le_refl _, h⟩, 6, by omega, ?_, hk0, fun h => absurd h (by omega), fun h => absurd h (by omega), fun h => absurd h (by omega), fun h => absurd h (by omega), fun h => absurd h (by omega)⟩⟩
    · simp (disch := omega) only [db_lit, eq_self, db_pI_e, db_pL_e, db_bind_some, db_bd_some, nI_add, pk_mul, nI_toInt, db_m1_t, dz_cn, Int.ofNat_le, Int.ofNat_lt, decide_true, decide_false, db_ct, db_cf, not_true_eq_false, not_false_eq_true, db_87e, db_37e, db_31e, db_28e, db_281e, db_211e, db_27, db_269w, db_litL, pk_lT, db_iL, db_p0_e, db_p0_n, db_p0_j, db_sub1, nI_eq, if_true, if_false, Bool.false_eq_true, Nat.one_ne_zero, (show ¬ 18 + 6 = 18 by omega), (show ¬ 18 + 6 = 19 by omega), (show ¬ 18 + 6 = 20 by omega), (show ¬ 18 + 6 = 21 by omega), (show ¬ 18 + 6 = 22 by omega), (show ¬ 18 + 6 = 23 by omega)]
    · simp (disch := omega) only [db_lit, eq_self, db_pI_e, db_pL_e, db_bind_some, db_bd_some, nI_add, pk_mul, nI_toInt, db_m1_t, dz_cn, Int.ofNat_le, Int.ofNat_lt, decide_true, decide_false, db_ct, db_cf, not_true_eq_false, not_false_eq_true, db_87e, db_37e, db_31e, db_28e, db_281e, db_211e, db_27, db_269w, db_litL, pk_lT, db_iL, db_p0_e, db_p0_n, db_p0_j, db_sub1, nI_eq, if_true, if_false, Bool.false_eq_true, Nat.one_ne_zero, db_g_674, hk1, (show ¬ 6 = 0 by omega), (show ¬ 6 = 1 by omega), (show ¬ 6 = 2 by omega), (show ¬ 6 = 3 by omega), (show ¬ 6 = 4 by omega), (show ¬ 6 = 5 by omega)]
    · rw [dv_cc_40 hm]; exact hk1
end DVNS
