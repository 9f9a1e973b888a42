/-! NUMBERS, SIGNS -/
section DVNU
variable {a b : db_S} {x : Nat → Int32} {n i : Nat} {y : Int32} {l : Int64}
theorem dv_nu_lt {p : Nat} : ∀ k, (∀ j, j < k → dv_dg (x (p + j)) = true) → dv_nu x p k < 10 ^ k
  | 0, _ => by rw [dv_nu]; omega
  | k + 1, h => by
    have ih := dv_nu_lt k (fun j hj => h j (by omega))
    obtain ⟨c, c1, c2, hc⟩ := dv_dg_n (h k (by omega))
    rw [dv_nu, hc, nI_clamp (by omega), Nat.pow_succ]
    omega
theorem dv_V2 (hn : n ≤ 900) {p : Nat} (h : dv_K x n p = 2) : ∃ k, k < 10000 ∧ dv_V x n p = nI k := by
  unfold dv_K at h
  by_cases h0 : n ≤ p
  · rw [if_pos h0] at h; omega
  · rw [if_neg h0] at h
    by_cases h1 : dv_lt (x p) = true
    · rw [if_pos h1] at h; omega
    · rw [if_neg h1] at h
      by_cases h2 : dv_dg (x p) = true
      · rw [if_pos h2] at h
        by_cases h3 : dv_D x n p - p ≤ 4
        · refine ⟨dv_nu x p (min 4 (dv_D x n p - p)), ?_, ?_⟩
          · have hp := dv_nu_lt (x := x) (p := p) (min 4 (dv_D x n p - p)) (fun j hj => ((dv_D_sp (x := x) hn p).2.2.1 (p + j) (by omega) (by omega)).2)
            have h32 : 10 ^ (min 4 (dv_D x n p - p)) ≤ 10 ^ 4 := Nat.pow_le_pow_right (by decide) (by omega)
            omega
          · unfold dv_V
            rw [if_pos h2]
        · rw [if_neg h3] at h; omega
      · rw [if_neg h2] at h
        by_cases h3 : dv_sg (x p) = true
        · rw [if_pos h3] at h; omega
        · rw [if_neg h3] at h; omega
theorem dv_V3 {p : Nat} (h : dv_K x n p = 3) : dv_V x n p = nI 59 ∨ dv_V x n p = nI 60 ∨ dv_V x n p = nI 61 ∨ dv_V x n p = nI 62 := by
  unfold dv_K at h
  by_cases h0 : n ≤ p
  · rw [if_pos h0] at h; omega
  · rw [if_neg h0] at h
    by_cases h1 : dv_lt (x p) = true
    · rw [if_pos h1] at h; omega
    · rw [if_neg h1] at h
      by_cases h2 : dv_dg (x p) = true
      · rw [if_pos h2] at h
        by_cases h3 : dv_D x n p - p ≤ 4
        · rw [if_pos h3] at h; omega
        · rw [if_neg h3] at h; omega
      · rw [if_neg h2] at h
        by_cases h3 : dv_sg (x p) = true
        · unfold dv_V
          rw [if_neg h2]
          unfold dv_sg at h3
          simp only [Bool.or_eq_true, decide_eq_true_eq] at h3
          exact h3
        · rw [if_neg h3] at h; omega
theorem dv_wi_n {k lo hi : Nat} (hk : k < 2 ^ 31) : db_wi (nI k) ((lo : Nat) : Int) ((hi : Nat) : Int) = (decide (lo ≤ k) && decide (k ≤ hi)) := by
  unfold db_wi
  rw [nI_toInt hk]
  congr 1 <;> rw [decide_eq_decide] <;> omega
theorem dv_14 (h : dv_RT x n i b) : b.1 669 14 = nI (dv_kd x n i) := h.2.1
theorem dv_15 (h : dv_RT x n i b) : b.1 669 15 = nI (dv_P x n i) := h.2.2.1
theorem dv_17 (h : dv_RT x n i b) (hk : dv_kd x n i = 2 ∨ dv_kd x n i = 3) : b.1 669 17 = dv_V x n (dv_P x n i) := h.2.2.2.2.2 hk
/-- a number that must stand -/
theorem dv_oNum {lo hi d f : Nat} (hlo : lo < 2 ^ 30) (hhi : hi < 2 ^ 30) (hd : 146 ≤ d ∧ d ≤ 270) (hw : ∀ (s : db_S) (v : Int32), db_wI s d (nI f) v = some (db_uI s d f v)) (hC : dv_CT x n i a) (hR : dv_RT x n i b) (h0 : b.1 669 12 = nI 0) : ∃ r a1 v b1, db_f73 a (nI lo) (nI hi) d (nI f) = some (r, a1) ∧ db_f268 b (nI lo) (nI hi) = some (v, b1) ∧ ((r = true ∧ (∃ k, lo ≤ k ∧ k ≤ hi ∧ v = nI k) ∧ a1.1 d f = v ∧ dv_Fr d f a a1 ∧ dv_CT x n (i + 1) a1 ∧ dv_RT x n (i + 1) b1 ∧ dv_Fn b b1) ∨ (r = false ∧ v = nI 0 ∧ dv_Fl a1 b1 ∧ dv_Fa a a1 ∧ dv_Fb b b1)) := by
  have h4 : dv_kd x n i ≤ 4 := dv_K4
  have t14 := dv_14 hR
  unfold db_f73 db_f268
  rw [hC.2.1]
  by_cases e : dv_kd x n i = 2
  · obtain ⟨k, k1, k2⟩ := dv_V2 (x := x) (n := n) hC.1 (p := dv_P x n i) e
    have g18 := dv_g18 hC (.inl e)
    rw [k2] at g18
    have t17 := dv_17 hR (.inl e)
    rw [k2] at t17
    unfold db_f268_b19 db_f268_b50
    have hwi := dv_wi_n (k := k) (lo := lo) (hi := hi) (by omega)
    have f27 : ∀ s : db_S, db_f27 s (nI k) (nI lo) (nI hi) = some (decide (lo ≤ k) && decide (k ≤ hi)) := fun s => by rw [db_27, nI_toInt (by omega), nI_toInt (by omega), hwi]
    have f269 : ∀ s : db_S, db_f269 s (nI k).toInt64 (nI lo).toInt64 (nI hi).toInt64 = some (decide (lo ≤ k) && decide (k ≤ hi)) := fun s => by rw [db_269w, db_iL, db_iL, nI_toInt (by omega), nI_toInt (by omega), hwi]
    cases hin : (decide (lo ≤ k) && decide (k ≤ hi)) with
    | true =>
      have hin' := hin
      rw [Bool.and_eq_true, decide_eq_true_eq, decide_eq_true_eq] at hin'
      obtain ⟨b1, eb1, r1, r2⟩ := dv_nx hR
      have hC' : dv_CT x n i (db_uI a d f (nI k)) := dv_CT_u hC hd
      refine ⟨true, db_uI (db_uI a d f (nI k)) 13 9 (nI (i + 1)), nI k, b1, ?_, ?_, .inl ⟨rfl, ⟨k, hin'.1, hin'.2, rfl⟩, ?_, ⟨fun c h1 h2 => ?_, rfl, fun j hj => ?_, fun j hj => ?_⟩, dv_CT_s hC' (by omega), r1, r2⟩⟩
      · rw [dv_g16 hC, e]
        simp (disch := omega) only [db_lit, eq_self, db_pI_e, db_pL_e, db_bind_some, db_bd_some, nI_add, pk_mul, nI_toInt, db_m1_t, dz_cn, Int.ofNat_le, Int.ofNat_lt, decide_true, decide_false, db_ct, db_cf, not_true_eq_false, not_false_eq_true, g18, f27, hin, hw, dv_60 hC' (show ¬ dv_kd x n i = 0 by omega)]
      · rw [t14, e]
        simp (disch := omega) only [db_lit, eq_self, db_pI_e, db_pL_e, db_bind_some, db_bd_some, nI_add, pk_mul, nI_toInt, db_m1_t, dz_cn, Int.ofNat_le, Int.ofNat_lt, decide_true, decide_false, db_ct, db_cf, not_true_eq_false, not_false_eq_true, h0, t17, f269, hin, Nat.le_refl, eb1]
      · rw [db_uI_n (by omega), db_uI_1]
      · rw [db_uI_n h2, db_uI_n h1]
      · rw [db_uI_j hj, db_uI_n (by omega)]
      · rw [db_uI_n (by omega), db_uI_j hj]
    | false =>
      have e3 := dv_234i hR h0 (f := 4) (by omega)
      obtain ⟨q, q1, q2, q3⟩ := dv_fb_B (x := x) (n := n) (i := i) (b := b) (f := 4) (by omega) (by omega)
      refine ⟨false, dv_fa x n i 4 a, nI 0, dv_fb x n i 4 b, ?_, ?_, .inr ⟨rfl, rfl, dv_Fl_f (by omega) (by omega), dv_Fa_fa dv_Fa_r, dv_Fb_fb dv_Fb_r⟩⟩
      · rw [dv_g16 hC, e]
        simp (disch := omega) only [db_lit, eq_self, db_pI_e, db_pL_e, db_bind_some, db_bd_some, nI_add, pk_mul, nI_toInt, db_m1_t, dz_cn, Int.ofNat_le, Int.ofNat_lt, decide_true, decide_false, db_ct, db_cf, not_true_eq_false, not_false_eq_true, g18, f27, hin, dv_58 hC 4]
      · rw [t14, e]
        simp (disch := omega) only [db_lit, eq_self, db_pI_e, db_pL_e, db_bind_some, db_bd_some, nI_add, pk_mul, nI_toInt, db_m1_t, dz_cn, Int.ofNat_le, Int.ofNat_lt, decide_true, decide_false, db_ct, db_cf, not_true_eq_false, not_false_eq_true, h0, t17, f269, hin, e3, q3, (show ¬ q ≤ 0 by omega)]
  · obtain ⟨q, q1, q2, q3⟩ := dv_fb_B (x := x) (n := n) (i := i) (b := b) (f := 2) (by omega) (by omega)
    refine ⟨false, dv_fa x n i 2 a, nI 0, dv_fb x n i 2 b, ?_, ?_, .inr ⟨rfl, rfl, dv_Fl_f (by omega) (by omega), dv_Fa_fa dv_Fa_r, dv_Fb_fb dv_Fb_r⟩⟩
    · simp (disch := omega) only [db_lit, eq_self, db_pI_e, db_pL_e, db_bind_some, db_bd_some, nI_add, pk_mul, nI_toInt, db_m1_t, dz_cn, Int.ofNat_le, Int.ofNat_lt, decide_true, decide_false, db_ct, db_cf, not_true_eq_false, not_false_eq_true, db_87e, db_37e, db_31e, db_28e, db_281e, db_211e, db_27, db_269w, db_litL, pk_lT, db_iL, db_p0_e, db_p0_n, db_p0_j, db_sub1, nI_eq, if_true, if_false, Bool.false_eq_true, Nat.one_ne_zero, dv_g16 hC, e, dv_58 hC 2]
    · unfold db_f268_b19 db_f268_b50
      simp (disch := omega) only [db_lit, eq_self, db_pI_e, db_pL_e, db_bind_some, db_bd_some, nI_add, pk_mul, nI_toInt, db_m1_t, dz_cn, Int.ofNat_le, Int.ofNat_lt, decide_true, decide_false, db_ct, db_cf, not_true_eq_false, not_false_eq_true, db_87e, db_37e, db_31e, db_28e, db_281e, db_211e, db_27, db_269w, db_litL, pk_lT, db_iL, db_p0_e, db_p0_n, db_p0_j, db_sub1, nI_eq, if_true, if_false, Bool.false_eq_true, Nat.one_ne_zero, h0, t14, e, dv_257 hR h0, q3, (show ¬ q = 0 by omega), (show ¬ q ≤ 0 by omega)]
/-- likewise with less -/
theorem dv_oSig {hi d f : Nat} (hhi : hi < 2 ^ 30) (hd : 146 ≤ d ∧ d ≤ 270) (hw : ∀ (s : db_S) (v : Int32), db_wI s d (nI f) v = some (db_uI s d f v)) (hr : ∀ s : db_S, db_rI s d (nI f) = some (s.1 d f)) (hC : dv_CT x n i a) (hR : dv_RT x n i b) (h0 : b.1 669 12 = nI 0) : ∃ r a1 v b1, db_f72 a (nI hi) d (nI f) = some (r, a1) ∧ db_f267 b (nI hi) = some (v, b1) ∧ ((r = true ∧ (-(hi : Int) ≤ v.toInt ∧ v.toInt ≤ hi) ∧ a1.1 d f = v ∧ dv_Fr d f a a1 ∧ ∃ i1, i < i1 ∧ dv_CT x n i1 a1 ∧ dv_RT x n i1 b1 ∧ dv_Fn b b1) ∨ (r = false ∧ dv_Fl a1 b1 ∧ dv_Fa a a1 ∧ dv_Fb b b1)) := by
  unfold db_f72 db_f267
  have h66 := dv_66 hC (j := 10) (by decide)
  by_cases e : dv_w x n i = nI 10
  · rw [if_pos e, decide_eq_true e] at h66
    have hk := dv_w_kd (by decide) e
    have hC1 := dv_CT_s hC (show ¬ dv_kd x n i = 0 by omega)
    obtain ⟨b0, eb0, r1, r2⟩ := dv_nx hR
    have h0' : b0.1 669 12 = nI 0 := by rw [r2.2.1 12 (by omega)]; exact h0
    obtain ⟨r, a1, v, b1, e1, e2, h⟩ := dv_oNum (lo := 0) (hi := hi) (d := d) (f := f) (by omega) hhi hd hw hC1 r1 h0'
    unfold db_f267_b19 db_f267_b28
    have hx10 : db_f244 b = some true := by rw [dv_x10 hR, decide_eq_true e]
    rcases h with ⟨rfl, ⟨k, k1, k2, rfl⟩, g1, g2, g3, g4, g5⟩ | ⟨rfl, rfl, g1, g2, g3⟩
    · have hneg : (-(nI k)).toInt = -(k : Int) := by rw [fb_negI (by rw [nI_toInt (by omega)]; omega), nI_toInt (by omega)]
      refine ⟨true, db_uI a1 d f (-(nI k)), -(nI k), b1, ?_, ?_, .inl ⟨rfl, by rw [hneg]; omega, db_uI_1, ⟨fun c h1 h2 => ?_, ?_, fun j hj => ?_, fun j hj => ?_⟩, i + 1 + 1, by omega, dv_CT_u g3 hd, g4, dv_Fn_t r2 g5⟩⟩
      · unfold db_f72_b38
        simp (disch := omega) only [db_lit, eq_self, db_pI_e, db_pL_e, db_bind_some, db_bd_some, nI_add, pk_mul, nI_toInt, db_m1_t, dz_cn, Int.ofNat_le, Int.ofNat_lt, decide_true, decide_false, db_ct, db_cf, not_true_eq_false, not_false_eq_true, h66, e1, hr, g1, hw]
      · simp (disch := omega) only [db_lit, eq_self, db_pI_e, db_pL_e, db_bind_some, db_bd_some, nI_add, pk_mul, nI_toInt, db_m1_t, dz_cn, Int.ofNat_le, Int.ofNat_lt, decide_true, decide_false, db_ct, db_cf, not_true_eq_false, not_false_eq_true, db_87e, db_37e, db_31e, db_28e, db_281e, db_211e, db_27, db_269w, db_litL, pk_lT, db_iL, db_p0_e, db_p0_n, db_p0_j, db_sub1, nI_eq, if_true, if_false, Bool.false_eq_true, Nat.one_ne_zero, h0, hx10, eb0, e2]
      · rw [db_uI_n h1, g2.1 c h1 h2, db_uI_n h2]
      · rw [db_uI_2, g2.2.1]; rfl
      · rw [db_uI_n (by omega), g2.2.2.1 j hj, db_uI_j hj]
      · rw [db_uI_j hj, g2.2.2.2 j hj, db_uI_n (by omega)]
    · refine ⟨false, a1, -(nI 0), b1, ?_, ?_, .inr ⟨rfl, g1, dv_Fa_t (dv_Fa_u dv_Fa_r (.inr (by omega))) g2, dv_Fb_t (dv_Fb_n r2) g3⟩⟩
      · simp (disch := omega) only [db_lit, eq_self, db_pI_e, db_pL_e, db_bind_some, db_bd_some, nI_add, pk_mul, nI_toInt, db_m1_t, dz_cn, Int.ofNat_le, Int.ofNat_lt, decide_true, decide_false, db_ct, db_cf, not_true_eq_false, not_false_eq_true, h66, e1]
      · simp (disch := omega) only [db_lit, eq_self, db_pI_e, db_pL_e, db_bind_some, db_bd_some, nI_add, pk_mul, nI_toInt, db_m1_t, dz_cn, Int.ofNat_le, Int.ofNat_lt, decide_true, decide_false, db_ct, db_cf, not_true_eq_false, not_false_eq_true, db_87e, db_37e, db_31e, db_28e, db_281e, db_211e, db_27, db_269w, db_litL, pk_lT, db_iL, db_p0_e, db_p0_n, db_p0_j, db_sub1, nI_eq, if_true, if_false, Bool.false_eq_true, Nat.one_ne_zero, h0, hx10, eb0, e2]
  · rw [if_neg e, decide_eq_false e] at h66
    obtain ⟨r, a1, v, b1, e1, e2, h⟩ := dv_oNum (lo := 0) (hi := hi) (d := d) (f := f) (by omega) hhi hd hw hC hR h0
    unfold db_f267_b18 db_f267_b19 db_f267_b28
    have hx10 : db_f244 b = some false := by rw [dv_x10 hR, decide_eq_false e]
    rcases h with ⟨rfl, ⟨k, k1, k2, rfl⟩, g1, g2, g3, g4, g5⟩ | ⟨rfl, rfl, g1, g2, g3⟩
    · refine ⟨true, db_uI a1 d f (nI k), nI k, b1, ?_, ?_, .inl ⟨rfl, by rw [nI_toInt (by omega)]; omega, db_uI_1, ⟨fun c h1 h2 => ?_, ?_, fun j hj => ?_, fun j hj => ?_⟩, i + 1, by omega, dv_CT_u g3 hd, g4, g5⟩⟩
      · unfold db_f72_b38
        simp (disch := omega) only [db_lit, eq_self, db_pI_e, db_pL_e, db_bind_some, db_bd_some, nI_add, pk_mul, nI_toInt, db_m1_t, dz_cn, Int.ofNat_le, Int.ofNat_lt, decide_true, decide_false, db_ct, db_cf, not_true_eq_false, not_false_eq_true, h66, e1, hr, g1, hw]
      · simp (disch := omega) only [db_lit, eq_self, db_pI_e, db_pL_e, db_bind_some, db_bd_some, nI_add, pk_mul, nI_toInt, db_m1_t, dz_cn, Int.ofNat_le, Int.ofNat_lt, decide_true, decide_false, db_ct, db_cf, not_true_eq_false, not_false_eq_true, h0, hx10, e2]
      · rw [db_uI_n h1, g2.1 c h1 h2]
      · rw [db_uI_2, g2.2.1]
      · rw [db_uI_n (by omega), g2.2.2.1 j hj]
      · rw [db_uI_j hj, g2.2.2.2 j hj]
    · refine ⟨false, a1, nI 0, b1, ?_, ?_, .inr ⟨rfl, g1, g2, g3⟩⟩
      · simp (disch := omega) only [db_lit, eq_self, db_pI_e, db_pL_e, db_bind_some, db_bd_some, nI_add, pk_mul, nI_toInt, db_m1_t, dz_cn, Int.ofNat_le, Int.ofNat_lt, decide_true, decide_false, db_ct, db_cf, not_true_eq_false, not_false_eq_true, h66, e1]
      · simp (disch := omega) only [db_lit, eq_self, db_pI_e, db_pL_e, db_bind_some, db_bd_some, nI_add, pk_mul, nI_toInt, db_m1_t, dz_cn, Int.ofNat_le, Int.ofNat_lt, decide_true, decide_false, db_ct, db_cf, not_true_eq_false, not_false_eq_true, h0, hx10, e2]
theorem dv_268b {lo hi : Int32} (h : dv_Bad b) : db_f268 b lo hi = some (nI 0, b) := by
  obtain ⟨k, k1, k2, k3⟩ := h
  unfold db_f268 db_f268_b19 db_f268_b50
  simp (disch := omega) only [db_lit, eq_self, db_pI_e, db_pL_e, db_bind_some, db_bd_some, nI_add, pk_mul, nI_toInt, db_m1_t, dz_cn, Int.ofNat_le, Int.ofNat_lt, decide_true, decide_false, db_ct, db_cf, not_true_eq_false, not_false_eq_true, k3, (show ¬ k ≤ 0 by omega), db_T_none, nI_eq, (show ¬ k = 0 by omega)]
theorem dv_267b {hi : Int32} (h : dv_Bad b) : db_f267 b hi = some (nI 0, b) := by
  have h' := h
  obtain ⟨k, k1, k2, k3⟩ := h
  unfold db_f267 db_f267_b18 db_f267_b19 db_f267_b28
  simp (disch := omega) only [db_lit, eq_self, db_pI_e, db_pL_e, db_bind_some, db_bd_some, nI_add, pk_mul, nI_toInt, db_m1_t, dz_cn, Int.ofNat_le, Int.ofNat_lt, decide_true, decide_false, db_ct, db_cf, not_true_eq_false, not_false_eq_true, k3, nI_eq, (show ¬ k = 0 by omega), dv_268b h']
theorem dv_266b {blk g : Int32} (h : dv_Bad b) : db_f266 b blk g = some (nI 0, b) := by
  obtain ⟨k, k1, k2, k3⟩ := h
  unfold db_f266 db_f266_b18
  simp (disch := omega) only [db_lit, eq_self, db_pI_e, db_pL_e, db_bind_some, db_bd_some, nI_add, pk_mul, nI_toInt, db_m1_t, dz_cn, Int.ofNat_le, Int.ofNat_lt, decide_true, decide_false, db_ct, db_cf, not_true_eq_false, not_false_eq_true, k3, nI_eq, (show ¬ k = 0 by omega), (show ¬ k ≤ 0 by omega)]
theorem dv_265b {blk g : Int32} (h : dv_Bad b) : db_f265 b blk g = some (nI 0, b) := by
  unfold db_f265
  simp (disch := omega) only [db_lit, eq_self, db_pI_e, db_pL_e, db_bind_some, db_bd_some, nI_add, pk_mul, nI_toInt, db_m1_t, dz_cn, Int.ofNat_le, Int.ofNat_lt, decide_true, decide_false, db_ct, db_cf, not_true_eq_false, not_false_eq_true, dv_266b h, dv_264b h]
theorem dv_270b {p blk g : Int32} (h : dv_Bad b) : db_f270 b p blk g = some (-(nI 1), b) := by
  obtain ⟨k, k1, k2, k3⟩ := h
  unfold db_f270
  simp (disch := omega) only [db_lit, eq_self, db_pI_e, db_pL_e, db_bind_some, db_bd_some, nI_add, pk_mul, nI_toInt, db_m1_t, dz_cn, Int.ofNat_le, Int.ofNat_lt, decide_true, decide_false, db_ct, db_cf, not_true_eq_false, not_false_eq_true, k3, (show 0 < k by omega)]
/-- the sign that ends a part -/
theorem dv_273 (h : dv_RT x n i b) {g : Nat} (hg : g < 2 ^ 31) : db_f273 b (nI g) = some (decide (dv_kd x n i = 3) && decide (dv_V x n (dv_P x n i) = nI g)) := by
  have h4 : dv_kd x n i ≤ 4 := dv_K4
  have t14 := dv_14 h
  unfold db_f273
  by_cases e : dv_kd x n i = 3
  · have t17 := dv_17 h (.inr e)
    simp (disch := omega) only [db_lit, eq_self, db_pI_e, db_pL_e, db_bind_some, db_bd_some, nI_add, pk_mul, nI_toInt, db_m1_t, dz_cn, Int.ofNat_le, Int.ofNat_lt, decide_true, decide_false, db_ct, db_cf, not_true_eq_false, not_false_eq_true, db_87e, db_37e, db_31e, db_28e, db_281e, db_211e, db_27, db_269w, db_litL, pk_lT, db_iL, db_p0_e, db_p0_n, db_p0_j, db_sub1, nI_eq, if_true, if_false, Bool.false_eq_true, Nat.one_ne_zero, t14, e, t17]
    by_cases e2 : dv_V x n (dv_P x n i) = nI g
    · rw [decide_eq_true e2, decide_eq_false (fun h => h e2)]
      rfl
    · rw [decide_eq_false e2, decide_eq_true e2]
      rfl
  · simp (disch := omega) only [db_lit, eq_self, db_pI_e, db_pL_e, db_bind_some, db_bd_some, nI_add, pk_mul, nI_toInt, db_m1_t, dz_cn, Int.ofNat_le, Int.ofNat_lt, decide_true, decide_false, db_ct, db_cf, not_true_eq_false, not_false_eq_true, db_87e, db_37e, db_31e, db_28e, db_281e, db_211e, db_27, db_269w, db_litL, pk_lT, db_iL, db_p0_e, db_p0_n, db_p0_j, db_sub1, nI_eq, if_true, if_false, Bool.false_eq_true, Nat.one_ne_zero, t14, e]
    rfl
theorem dv_oStop (hC : dv_CT x n i a) (hR : dv_RT x n i b) (h0 : b.1 669 12 = nI 0) : ∃ r a1 b1, db_f79 a = some (r, a1) ∧ ((db_f273 b (nI 59)).bind fun q => db_f264 b (db_i q)) = some b1 ∧ ((r = true ∧ a1 = db_uI a 13 9 (nI (i + 1)) ∧ dv_CT x n (i + 1) a1 ∧ dv_RT x n (i + 1) b1 ∧ dv_Fn b b1) ∨ (r = false ∧ dv_Fl a1 b1 ∧ dv_Fa a a1 ∧ dv_Fb b b1)) := by
  have h4 : dv_kd x n i ≤ 4 := dv_K4
  have t14 := dv_14 hR
  rw [dv_273 hR (by decide), db_bind_some]
  unfold db_f79 db_f79_b27
  rw [hC.2.1]
  by_cases e : dv_kd x n i = 3
  · have g18 := dv_g18 hC (.inr e)
    by_cases e2 : dv_V x n (dv_P x n i) = nI 59
    · rw [e2] at g18
      obtain ⟨b1, e1, h1, h2⟩ := dv_264t hR h0
      refine ⟨true, _, b1, ?_, ?_, .inl ⟨rfl, rfl, dv_CT_s hC (by omega), h1, h2⟩⟩
      · simp (disch := omega) only [db_lit, eq_self, db_pI_e, db_pL_e, db_bind_some, db_bd_some, nI_add, pk_mul, nI_toInt, db_m1_t, dz_cn, Int.ofNat_le, Int.ofNat_lt, decide_true, decide_false, db_ct, db_cf, not_true_eq_false, not_false_eq_true, db_87e, db_37e, db_31e, db_28e, db_281e, db_211e, db_27, db_269w, db_litL, pk_lT, db_iL, db_p0_e, db_p0_n, db_p0_j, db_sub1, nI_eq, if_true, if_false, Bool.false_eq_true, Nat.one_ne_zero, dv_g16 hC, e, g18, dv_60 hC (show ¬ dv_kd x n i = 0 by omega)]
      · rw [decide_eq_true e, decide_eq_true e2]
        exact e1
    · refine ⟨false, dv_fa x n i 2 a, dv_fb x n i 2 b, ?_, ?_, .inr ⟨rfl, dv_Fl_f (f := 2) (by omega) (by omega), dv_Fa_fa dv_Fa_r, dv_Fb_fb dv_Fb_r⟩⟩
      · simp (disch := omega) only [db_lit, eq_self, db_pI_e, db_pL_e, db_bind_some, db_bd_some, nI_add, pk_mul, nI_toInt, db_m1_t, dz_cn, Int.ofNat_le, Int.ofNat_lt, decide_true, decide_false, db_ct, db_cf, not_true_eq_false, not_false_eq_true, db_87e, db_37e, db_31e, db_28e, db_281e, db_211e, db_27, db_269w, db_litL, pk_lT, db_iL, db_p0_e, db_p0_n, db_p0_j, db_sub1, nI_eq, if_true, if_false, Bool.false_eq_true, Nat.one_ne_zero, dv_g16 hC, e, g18, e2, dv_58 hC 2]
      · rw [decide_eq_true e, decide_eq_false e2]
        exact dv_264f hR h0
  · refine ⟨false, dv_fa x n i 2 a, dv_fb x n i 2 b, ?_, ?_, .inr ⟨rfl, dv_Fl_f (f := 2) (by omega) (by omega), dv_Fa_fa dv_Fa_r, dv_Fb_fb dv_Fb_r⟩⟩
    · simp (disch := omega) only [db_lit, eq_self, db_pI_e, db_pL_e, db_bind_some, db_bd_some, nI_add, pk_mul, nI_toInt, db_m1_t, dz_cn, Int.ofNat_le, Int.ofNat_lt, decide_true, decide_false, db_ct, db_cf, not_true_eq_false, not_false_eq_true, db_87e, db_37e, db_31e, db_28e, db_281e, db_211e, db_27, db_269w, db_litL, pk_lT, db_iL, db_p0_e, db_p0_n, db_p0_j, db_sub1, nI_eq, if_true, if_false, Bool.false_eq_true, Nat.one_ne_zero, dv_g16 hC, e, dv_58 hC 2]
    · rw [decide_eq_false e, Bool.false_and]
      exact dv_264f hR h0
theorem dv_273t : dz_T (db_f273 b y) (fun _ => True) := by
  unfold db_f273
  cases db_cnd .ne (b.1 669 14) 3
  · rw [db_cf]
    cases db_cnd .ne (b.1 669 17) y
    · exact ⟨_, rfl, trivial⟩
    · exact ⟨_, rfl, trivial⟩
  · exact ⟨_, rfl, trivial⟩
end DVNU
