/-! A ROW FROM A TRAY, A DREAM INTO A TRAY -/
section DBRR
variable {U : Nat} {s : db_S} {c : db_C} {w : Nat → Int64} {v x y z p q : Int32}
theorem db_clt {x a : Int64} : db_cnd .lt (lg_cmp x a) (0 : Int32) = decide (x.toInt < a.toInt) := by
  refine (db_cl_lt (x := x) (a := a)).trans ?_
  rw [decide_eq_decide, Int64.lt_iff_toInt_lt]
theorem db_t32 {x : Int64} {n : Nat} (h0 : 0 ≤ x.toInt) (h1 : x.toInt < n) (hn : n < 2 ^ 31) : ∃ g, g < n ∧ x.toInt32 = nI g := by
  refine ⟨x.toInt.toNat, by omega, ?_⟩
  rw [fa_eq, Int64.toInt_toInt32, fb_bmod (by omega) (by omega), nI_toInt (by omega)]
  omega
/-- a sign's number -/
def dw_sg (c : db_C) (x : Int64) : Prop := 0 ≤ x.toInt ∧ x.toInt < db_n c 0
/-- the class takes a row from a tray -/
theorem db_133 {t m : Nat} (hR : db_BR 20 s c w) (hO : db_Ok U c) (ht : t < 4) (hm : m ≤ 8) : dz_T (db_f133 s (7 + t) (nI m)) (fun z => db_F1 272 s z.2 ∧ ((z.1 = true ∧ (∀ j, j < m → dw_sg c (s.2 (7 + t) j)) ∧ ∀ j, j < m → z.2.1 272 j = (s.2 (7 + t) j).toInt32) ∨ (z.1 = false ∧ ∃ j, j < m ∧ ¬ dw_sg c (s.2 (7 + t) j)))) := by
  have h0 := hO.1.1
  have h0' := h0.2
  unfold db_f133
  simp (disch := omega) only [db_lit, eq_self, db_pI_e, db_pL_e, db_bind_some, db_bd_some, nI_add, pk_mul, nI_toInt, db_m1_t, dz_cn, Int.ofNat_le, Int.ofNat_lt, decide_true, decide_false, db_ct, db_cf, not_true_eq_false, not_false_eq_true]
  refine db_loop (L := fun m' a k => db_f133_b2 m' a (7 + t) (nI m) (nI k)) (N := m) (fun k a => db_F1 272 s a ∧ (∀ j, j < k → dw_sg c (s.2 (7 + t) j)) ∧ ∀ j, j < k → a.1 272 j = (s.2 (7 + t) j).toInt32) ?_ ?_ (n := db_FU) (by unfold db_FU; omega) ⟨db_F1_r, fun j hj => absurd hj (by omega), fun j hj => absurd hj (by omega)⟩
  · rintro m' a ⟨h1, h2, h3⟩
    show dz_T (db_f133_b2 (m' + 1) a (7 + t) (nI m) (nI m)) _
    rw [db_f133_b2]
    simp (disch := omega) only [db_lit, eq_self, db_pI_e, db_pL_e, db_bind_some, db_bd_some, nI_add, pk_mul, nI_toInt, db_m1_t, dz_cn, Int.ofNat_le, Int.ofNat_lt, decide_true, decide_false, db_ct, db_cf, not_true_eq_false, not_false_eq_true, Nat.le_refl]
    exact ⟨_, rfl, h1, .inl ⟨rfl, h2, h3⟩⟩
  · rintro m' k a hk ⟨h1, h2, h3⟩ hrec
    show dz_T (db_f133_b2 (m' + 1) a (7 + t) (nI m) (nI k)) _
    rw [db_f133_b2]
    have h7 : ¬ m ≤ k := by omega
    have e21 : a.1 21 0 = nI (db_n c 0) := by rw [h1.1 21 (by decide), db_21 hR (by decide)]; exact h0.1
    have e2 : a.2 (7 + t) k = s.2 (7 + t) k := by rw [h1.2]
    simp only [db_clt]
    simp (disch := omega) only [db_lit, eq_self, db_pI_e, db_pL_e, db_bind_some, db_bd_some, nI_add, pk_mul, nI_toInt, db_m1_t, dz_cn, Int.ofNat_le, Int.ofNat_lt, decide_true, decide_false, db_ct, db_cf, not_true_eq_false, not_false_eq_true, db_87e, db_37e, db_31e, db_28e, db_281e, db_211e, db_27, db_269w, db_litL, pk_lT, db_iL, db_p0_e, db_p0_n, db_p0_j, db_sub1, nI_eq, if_true, if_false, Bool.false_eq_true, h7, db_g_7, db_g_21, e21, e2, db_h_272]
    by_cases q1 : (s.2 (7 + t) k).toInt < ((0 : Nat) : Int)
    · simp (disch := omega) only [db_lit, eq_self, db_pI_e, db_pL_e, db_bind_some, db_bd_some, nI_add, pk_mul, nI_toInt, db_m1_t, dz_cn, Int.ofNat_le, Int.ofNat_lt, decide_true, decide_false, db_ct, db_cf, not_true_eq_false, not_false_eq_true, db_87e, db_37e, db_31e, db_28e, db_281e, db_211e, db_27, db_269w, db_litL, pk_lT, db_iL, db_p0_e, db_p0_n, db_p0_j, db_sub1, nI_eq, if_true, if_false, Bool.false_eq_true, q1]
      exact ⟨_, rfl, h1, .inr ⟨rfl, k, hk, fun hs => by have := hs.1; omega⟩⟩
    · by_cases q2 : (s.2 (7 + t) k).toInt < (db_n c 0 : Int)
      · simp (disch := omega) only [db_lit, eq_self, db_pI_e, db_pL_e, db_bind_some, db_bd_some, nI_add, pk_mul, nI_toInt, db_m1_t, dz_cn, Int.ofNat_le, Int.ofNat_lt, decide_true, decide_false, db_ct, db_cf, not_true_eq_false, not_false_eq_true, db_87e, db_37e, db_31e, db_28e, db_281e, db_211e, db_27, db_269w, db_litL, pk_lT, db_iL, db_p0_e, db_p0_n, db_p0_j, db_sub1, nI_eq, if_true, if_false, Bool.false_eq_true, q1, q2]
        refine hrec _ ⟨db_F1_u h1, fun j hj => ?_, fun j hj => ?_⟩
        · by_cases e : j = k
          · subst e; exact ⟨by omega, q2⟩
          · exact h2 j (by omega)
        · by_cases e : j = k
          · subst e; exact db_uI_1
          · rw [db_uI_j e]; exact h3 j (by omega)
      · simp (disch := omega) only [db_lit, eq_self, db_pI_e, db_pL_e, db_bind_some, db_bd_some, nI_add, pk_mul, nI_toInt, db_m1_t, dz_cn, Int.ofNat_le, Int.ofNat_lt, decide_true, decide_false, db_ct, db_cf, not_true_eq_false, not_false_eq_true, db_87e, db_37e, db_31e, db_28e, db_281e, db_211e, db_27, db_269w, db_litL, pk_lT, db_iL, db_p0_e, db_p0_n, db_p0_j, db_sub1, nI_eq, if_true, if_false, Bool.false_eq_true, q1, q2]
        exact ⟨_, rfl, h1, .inr ⟨rfl, k, hk, fun hs => q2 hs.2⟩⟩
theorem db_325 {v : Int64} (hc : db_A s c) (h0 : db_K c 0 10) : dz_T (db_f325 s v) (fun z => (z = true ∧ dw_sg c v) ∨ (z = false ∧ ¬ dw_sg c v)) := by
  have h0' := h0.2
  unfold db_f325
  simp (disch := omega) only [db_lit, eq_self, db_pI_e, db_pL_e, db_bind_some, db_bd_some, nI_add, pk_mul, nI_toInt, db_m1_t, dz_cn, Int.ofNat_le, Int.ofNat_lt, decide_true, decide_false, db_ct, db_cf, not_true_eq_false, not_false_eq_true, db_g_674, hc, h0.1]
  rw [db_269]
  refine ⟨_, rfl, ?_⟩
  rw [db_iL, db_sub1 (by omega), show (0 : Int64).toInt = 0 from rfl]
  unfold dw_sg
  by_cases h : 0 ≤ v.toInt ∧ v.toInt < db_n c 0
  · refine .inl ⟨?_, h⟩
    rw [decide_eq_true h.1, decide_eq_true (by omega)]
    rfl
  · refine .inr ⟨?_, h⟩
    rw [← Bool.decide_and, decide_eq_false (by omega)]
theorem db_132r {m : Nat} {r a : Nat → Int32} (h : ∀ k, k < m → r k = a k) : (if db_ow c p q then -(nI 1) else nI 1) * db_su c r m p q m = db_re c a m p q := by
  unfold db_re
  rw [db_su_row h (Nat.le_refl _)]
  cases db_ow c p q
  · exact Int32.one_mul _
  · show -(nI 1) * _ = -_
    rw [Int32.neg_mul]
    congr 1
    exact Int32.one_mul _
/-- the reference reads a row from a tray -/
theorem db_132m {t m : Nat} {W : Nat → Int64} (hc : db_A s c) (hO : db_Ok U c) (ht : t < 4) (hm : m ≤ 8) (hW : ∀ k, k < m → s.2 672 (60 * t + k) = W k) (hs : ∀ k, k < m → dw_sg c (W k)) (hp : db_O p (db_n c 1)) (hq : db_O q (db_n c 2)) (h29 : s.1 669 29 = nI m) : dz_T (db_f323_b132 db_FU s (nI t) (nI m) p q (nI 0)) (fun z => z.1 = db_re c (fun k => (W k).toInt32) m p q ∧ db_Em s z.2) := by
  obtain ⟨⟨-, k1, k2, k3, k4, k5⟩, -, -, hD, -⟩ := hO
  refine db_loop (L := fun m' a k => db_f323_b132 m' a (nI t) (nI m) p q (nI k)) (N := m) (fun k a => db_F1 678 s a ∧ ∀ j, j < k → a.1 678 j = (W j).toInt32) ?_ ?_ (n := db_FU) (by unfold db_FU; omega) ⟨db_F1_r, fun j hj => absurd hj (by omega)⟩
  · rintro m' a ⟨h1, h2⟩
    show dz_T (db_f323_b132 (m' + 1) a (nI t) (nI m) p q (nI m)) _
    rw [db_f323_b132]
    simp (disch := omega) only [db_lit, eq_self, db_pI_e, db_pL_e, db_bind_some, db_bd_some, nI_add, pk_mul, nI_toInt, db_m1_t, dz_cn, Int.ofNat_le, Int.ofNat_lt, decide_true, decide_false, db_ct, db_cf, not_true_eq_false, not_false_eq_true, Nat.le_refl]
    refine db_T_gd (db_283 (db_A_e (h1.1 674 (by decide)) hc) k4 k3) fun v s1 hv => ?_
    obtain ⟨hv, hF⟩ := hv
    dsimp only at hv
    subst hv
    have e4 : (db_uI s1 669 30 (db_fo c)).1 674 = s.1 674 := by rw [db_uI_n (by decide), hF.1 674 (by decide), h1.1 674 (by decide)]
    have e9 : (db_uI s1 669 30 (db_fo c)).1 669 29 = nI m := by rw [db_uI_j (by decide), hF.1 669 (by decide), h1.1 669 (by decide)]; exact h29
    have e8 : (db_uI s1 669 30 (db_fo c)).1 678 = a.1 678 := by rw [db_uI_n (by decide), hF.1 678 (by decide)]
    refine db_T_gd (db_318 (db_A_e e4 hc) e9 hm db_uI_1 k3 hp k1.2 hq k2.2) fun v s3 hv => ?_
    obtain ⟨q1, q2, -⟩ := hv
    refine ⟨_, rfl, ?_, ?_⟩
    · show v = _
      rw [show v = _ from q1, e8]
      exact db_re_row h2
    · exact db_Em_t (db_Em_uI (db_Em_t (db_F1_Em h1 (fun j => by unfold db_em; omega)) (db_F1_Em hF (fun j => by unfold db_em; omega))) (by unfold db_em; omega)) (db_F1_Em q2 (fun j => by unfold db_em; omega))
  · rintro m' k a hk ⟨h1, h2⟩ hrec
    show dz_T (db_f323_b132 (m' + 1) a (nI t) (nI m) p q (nI k)) _
    rw [db_f323_b132]
    have h7 : ¬ m ≤ k := by omega
    have e2 : a.2 672 (60 * t + k) = W k := by rw [h1.2, hW k hk]
    unfold db_f324
    simp (disch := omega) only [db_lit, eq_self, db_pI_e, db_pL_e, db_bind_some, db_bd_some, nI_add, pk_mul, nI_toInt, db_m1_t, dz_cn, Int.ofNat_le, Int.ofNat_lt, decide_true, decide_false, db_ct, db_cf, not_true_eq_false, not_false_eq_true, h7, db_g_672, e2, db_h_678]
    refine hrec _ ⟨db_F1_u h1, fun j hj => ?_⟩
    by_cases e : j = k
    · subst e; exact db_uI_1
    · rw [db_uI_j e]; exact h2 j (by omega)
theorem db_k27 (hI : db_Inv U s) (hU : U ≤ 1000000000) : dz_G U s (fun s => db_f132 s x y p q) (fun s => db_f323 s x y p q) := by
  obtain ⟨hO, hR, -⟩ := db_cur hI
  rcases db_tr3 hI x with ⟨h1, h2⟩ | ⟨t, ht, rfl, hw, ⟨h1, h2⟩ | ⟨n, hn, h12, h671, h11, ⟨k, hk, h670⟩, hp0⟩⟩
  · refine db_Gn 1 hI ?_ fun s1 hS hA => ?_
    · unfold db_f132 db_f132_b31 db_f132_b49 db_f132_b84
      simp (disch := omega) only [db_lit, eq_self, db_pI_e, db_pL_e, db_bind_some, db_bd_some, nI_add, pk_mul, nI_toInt, db_m1_t, dz_cn, Int.ofNat_le, Int.ofNat_lt, decide_true, decide_false, db_ct, db_cf, not_true_eq_false, not_false_eq_true, db_87e, db_37e, db_31e, db_28e, db_281e, db_211e, db_27, db_269w, db_litL, pk_lT, db_iL, db_p0_e, db_p0_n, db_p0_j, db_sub1, nI_eq, if_true, if_false, Bool.false_eq_true, db_33f h1, (show ¬ 1 = 0 by omega)]
    · unfold db_f323 db_f301
      simp (disch := omega) only [db_lit, eq_self, db_pI_e, db_pL_e, db_bind_some, db_bd_some, nI_add, pk_mul, nI_toInt, db_m1_t, dz_cn, Int.ofNat_le, Int.ofNat_lt, decide_true, decide_false, db_ct, db_cf, not_true_eq_false, not_false_eq_true, db_87e, db_37e, db_31e, db_28e, db_281e, db_211e, db_27, db_269w, db_litL, pk_lT, db_iL, db_p0_e, db_p0_n, db_p0_j, db_sub1, nI_eq, if_true, if_false, Bool.false_eq_true, h1]
  · refine db_Gn 3 hI ?_ fun s1 hS hA => ?_
    · unfold db_f132 db_f132_b31 db_f132_b49 db_f132_b84
      simp (disch := omega) only [db_lit, eq_self, db_pI_e, db_pL_e, db_bind_some, db_bd_some, nI_add, pk_mul, nI_toInt, db_m1_t, dz_cn, Int.ofNat_le, Int.ofNat_lt, decide_true, decide_false, db_ct, db_cf, not_true_eq_false, not_false_eq_true, db_87e, db_37e, db_31e, db_28e, db_281e, db_211e, db_27, db_269w, db_litL, pk_lT, db_iL, db_p0_e, db_p0_n, db_p0_j, db_sub1, nI_eq, if_true, if_false, Bool.false_eq_true, db_33c ht h1, (show ¬ 3 = 0 by omega)]
    · have e : s1.1 671 t = -(nI 1) := by rw [(hS.1 671 t (by unfold db_ec; omega) (by omega)).1]; exact h2
      have hm : ¬ ((0 : Nat) : Int) ≤ (-1 : Int) := by omega
      unfold db_f323 db_f301
      simp (disch := omega) only [db_lit, eq_self, db_pI_e, db_pL_e, db_bind_some, db_bd_some, nI_add, pk_mul, nI_toInt, db_m1_t, dz_cn, Int.ofNat_le, Int.ofNat_lt, decide_true, decide_false, db_ct, db_cf, not_true_eq_false, not_false_eq_true, db_87e, db_37e, db_31e, db_28e, db_281e, db_211e, db_27, db_269w, db_litL, pk_lT, db_iL, db_p0_e, db_p0_n, db_p0_j, db_sub1, nI_eq, if_true, if_false, Bool.false_eq_true, hw, db_g_671, e, hm]
  · have f33 := db_33o ht hn h12
    by_cases hy : y.toInt ≤ (n : Int)
    · cases hw8 : db_wi y ((1 : Nat) : Int) ((8 : Nat) : Int) with
      | false =>
        refine db_Gn 5 hI ?_ fun s1 hS hA => ?_
        · unfold db_f132 db_f132_b31 db_f132_b49 db_f132_b84
          simp (disch := omega) only [db_lit, eq_self, db_pI_e, db_pL_e, db_bind_some, db_bd_some, nI_add, pk_mul, nI_toInt, db_m1_t, dz_cn, Int.ofNat_le, Int.ofNat_lt, decide_true, decide_false, db_ct, db_cf, not_true_eq_false, not_false_eq_true, db_87e, db_37e, db_31e, db_28e, db_281e, db_211e, db_27, db_269w, db_litL, pk_lT, db_iL, db_p0_e, db_p0_n, db_p0_j, db_sub1, nI_eq, if_true, if_false, Bool.false_eq_true, f33, db_g_12, h12, hy, hw8, (show ¬ 5 = 0 by omega)]
        · have e : s1.1 671 t = nI n := by rw [(hS.1 671 t (by unfold db_ec; omega) (by omega)).1]; exact h671
          unfold db_f323 db_f301
          simp (disch := omega) only [db_lit, eq_self, db_pI_e, db_pL_e, db_bind_some, db_bd_some, nI_add, pk_mul, nI_toInt, db_m1_t, dz_cn, Int.ofNat_le, Int.ofNat_lt, decide_true, decide_false, db_ct, db_cf, not_true_eq_false, not_false_eq_true, db_87e, db_37e, db_31e, db_28e, db_281e, db_211e, db_27, db_269w, db_litL, pk_lT, db_iL, db_p0_e, db_p0_n, db_p0_j, db_sub1, nI_eq, if_true, if_false, Bool.false_eq_true, hw, db_g_671, e, Nat.zero_le, hy, hw8]
      | true =>
        obtain ⟨m, hm, hm1, rfl⟩ := db_wi_t (by decide) (by decide) hw8
        rw [nI_toInt (by omega)] at hy
        have hmn : m ≤ n := by omega
        have e671 : ∀ {st : Int32} {s1 : db_S}, db_Sc st s s1 → s1.1 671 t = nI n := fun hS => by rw [(hS.1 671 t (by unfold db_ec; omega) (by omega)).1]; exact h671
        cases hpq : (db_im p (db_n (db_bk s 0) 1) && db_im q (db_n (db_bk s 0) 2)) with
        | false =>
          refine db_Gn 2 hI ?_ fun s1 hS hA => ?_
          · unfold db_f132 db_f132_b31 db_f132_b49 db_f132_b81 db_f132_b84
            simp (disch := omega) only [db_lit, eq_self, db_pI_e, db_pL_e, db_bind_some, db_bd_some, nI_add, pk_mul, nI_toInt, db_m1_t, dz_cn, Int.ofNat_le, Int.ofNat_lt, decide_true, decide_false, db_ct, db_cf, not_true_eq_false, not_false_eq_true, db_87e, db_37e, db_31e, db_28e, db_281e, db_211e, db_27, db_269w, db_litL, pk_lT, db_iL, db_p0_e, db_p0_n, db_p0_j, db_sub1, nI_eq, if_true, if_false, Bool.false_eq_true, f33, db_g_12, h12, hmn, hw8, db_126 hR hO, hpq, (show ¬ 2 = 0 by omega)]
          · unfold db_f323 db_f301
            simp (disch := omega) only [db_lit, eq_self, db_pI_e, db_pL_e, db_bind_some, db_bd_some, nI_add, pk_mul, nI_toInt, db_m1_t, dz_cn, Int.ofNat_le, Int.ofNat_lt, decide_true, decide_false, db_ct, db_cf, not_true_eq_false, not_false_eq_true, db_87e, db_37e, db_31e, db_28e, db_281e, db_211e, db_27, db_269w, db_litL, pk_lT, db_iL, db_p0_e, db_p0_n, db_p0_j, db_sub1, nI_eq, if_true, if_false, Bool.false_eq_true, hw, db_g_671, e671 hS, Nat.zero_le, hmn, hw8, db_315 (db_p0_A hA) hO.1.2.1 hO.1.2.2.1, hpq]
        | true =>
          have hpq' : db_im p (db_n (db_bk s 0) 1) = true ∧ db_im q (db_n (db_bk s 0) 2) = true := by simpa using hpq
          have hp := db_im_t hpq'.1
          have hq := db_im_t hpq'.2
          have hmem : ∀ s1 : db_S, (∀ j, s1.2 672 j = s.2 672 j) → ∀ k, k < m → s1.2 672 (60 * t + k) = s.2 (7 + t) k := fun s1 h k hk => by rw [h]; exact (hp0 k (by omega)).symm
          by_cases hok : ∀ j, j < m → dw_sg (db_bk s 0) (s.2 (7 + t) j)
          · refine db_Gq (db_re (db_bk s 0) (fun k => (s.2 (7 + t) k).toInt32) m p q) (nI 0) hI ?_ fun s1 hS hA => ?_
            · unfold db_f132 db_f132_b31 db_f132_b49 db_f132_b81
              simp (disch := omega) only [db_lit, eq_self, db_pI_e, db_pL_e, db_bind_some, db_bd_some, nI_add, pk_mul, nI_toInt, db_m1_t, dz_cn, Int.ofNat_le, Int.ofNat_lt, decide_true, decide_false, db_ct, db_cf, not_true_eq_false, not_false_eq_true, db_87e, db_37e, db_31e, db_28e, db_281e, db_211e, db_27, db_269w, db_litL, pk_lT, db_iL, db_p0_e, db_p0_n, db_p0_j, db_sub1, nI_eq, if_true, if_false, Bool.false_eq_true, f33, db_g_12, h12, hmn, hw8, db_126 hR hO, hpq, db_q_6]
              refine db_T_gd (db_133 (m := m) hR hO ht (by omega)) fun v s2 hv => ?_
              obtain ⟨hF, ⟨hv, h3, h4⟩ | ⟨hv, j, hj, h3⟩⟩ := hv
              · dsimp only at hv h4
                subst hv
                have hB2 := db_BR_F1 hO (by omega) hF hR
                have hg : ∀ k, k < m → s2.1 272 k = nI ((s.2 (7 + t) k).toInt32).toNatClampNeg ∧ ((s.2 (7 + t) k).toInt32).toNatClampNeg < db_n (db_bk s 0) 0 := by
                  intro k hk
                  have h0 := hO.1.1.2
                  obtain ⟨g, hg, e⟩ := db_t32 (h3 k hk).1 (h3 k hk).2 (by omega)
                  rw [h4 k hk, e, nI_clamp (by omega)]
                  exact ⟨rfl, hg⟩
                unfold db_f132_b84
                simp (disch := omega) only [db_lit, eq_self, db_pI_e, db_pL_e, db_bind_some, db_bd_some, nI_add, pk_mul, nI_toInt, db_m1_t, dz_cn, Int.ofNat_le, Int.ofNat_lt, decide_true, decide_false, db_ct, db_cf, not_true_eq_false, not_false_eq_true, db_87e, db_37e, db_31e, db_28e, db_281e, db_211e, db_27, db_269w, db_litL, pk_lT, db_iL, db_p0_e, db_p0_n, db_p0_j, db_sub1, nI_eq, if_true, if_false, Bool.false_eq_true, db_128 hB2 hO hp hq, db_129 hB2 hO]
                refine db_T_gd (db_130 (p := p) (q := q) (a := 272) hB2 hO hU rfl (show m ≤ 8 by omega) (by decide) (by decide) (by omega) hg) fun v s3 hv => ?_
                obtain ⟨q1, q2, -⟩ := hv
                dsimp only at q1
                subst q1
                refine ⟨_, rfl, db_132r h4, db_Sc_u (db_Ec_t (db_F1_Ec hF (fun j => by unfold db_ec; omega)) (db_F1_Ec q2 (fun j => by unfold db_ec; omega)))⟩
              · exact absurd (hok j hj) h3
            · have hA' := db_p0_A hA
              have hme := hmem (db_p0 s1) (fun j => by rw [db_p0_2]; exact (hS.1 672 j (by unfold db_ec; omega) (by omega)).2)
              unfold db_f323 db_f301
              simp (disch := omega) only [db_lit, eq_self, db_pI_e, db_pL_e, db_bind_some, db_bd_some, nI_add, pk_mul, nI_toInt, db_m1_t, dz_cn, Int.ofNat_le, Int.ofNat_lt, decide_true, decide_false, db_ct, db_cf, not_true_eq_false, not_false_eq_true, db_87e, db_37e, db_31e, db_28e, db_281e, db_211e, db_27, db_269w, db_litL, pk_lT, db_iL, db_p0_e, db_p0_n, db_p0_j, db_sub1, nI_eq, if_true, if_false, Bool.false_eq_true, hw, db_g_671, e671 hS, Nat.zero_le, hmn, hw8, db_315 hA' hO.1.2.1 hO.1.2.2.1, hpq]
              have key : db_f323_b92 db_FU (db_p0 s1) (nI t) (nI m) p q (nI 0) = db_f323_b132 db_FU (db_uI (db_p0 s1) 669 29 (nI m)) (nI t) (nI m) p q (nI 0) := by
                refine db_fold (α := Unit) (L := fun m' _ k => db_f323_b92 m' (db_p0 s1) (nI t) (nI m) p q (nI k)) (N := m) (fun _ => ()) (fun m' => ?_) (fun m' k hk => ?_) (by unfold db_FU; omega)
                · show db_f323_b92 (m' + 1) (db_p0 s1) (nI t) (nI m) p q (nI m) = _
                  rw [db_f323_b92]
                  simp (disch := omega) only [db_lit, eq_self, db_pI_e, db_pL_e, db_bind_some, db_bd_some, nI_add, pk_mul, nI_toInt, db_m1_t, dz_cn, Int.ofNat_le, Int.ofNat_lt, decide_true, decide_false, db_ct, db_cf, not_true_eq_false, not_false_eq_true, Nat.le_refl]
                · show db_f323_b92 (m' + 1) (db_p0 s1) (nI t) (nI m) p q (nI k) = db_f323_b92 m' (db_p0 s1) (nI t) (nI m) p q (nI (k + 1))
                  rw [db_f323_b92]
                  have h7 : ¬ m ≤ k := by omega
                  obtain ⟨b, eb, hb⟩ := db_325 (v := s.2 (7 + t) k) hA' hO.1.1
                  have hb1 : b = true := by
                    rcases hb with hb | hb
                    · exact hb.1
                    · exact absurd (hok k hk) hb.2
                  subst hb1
                  unfold db_f324
                  simp (disch := omega) only [db_lit, eq_self, db_pI_e, db_pL_e, db_bind_some, db_bd_some, nI_add, pk_mul, nI_toInt, db_m1_t, dz_cn, Int.ofNat_le, Int.ofNat_lt, decide_true, decide_false, db_ct, db_cf, not_true_eq_false, not_false_eq_true, h7, db_g_672, hme k hk, eb]
              rw [key]
              have hA2 : db_A (db_uI (db_p0 s1) 669 29 (nI m)) (db_bk s 0) := db_A_e (by rw [db_uI_n (by decide)]) hA'
              refine db_T_mono (db_132m (W := fun k => s.2 (7 + t) k) hA2 hO ht (by omega) hme hok hp hq db_uI_1) fun z hz => ?_
              exact ⟨hz.1, db_Sm_0 (db_Em_t (db_Em_uI db_Em_r (by unfold db_em; omega)) hz.2)⟩
          · refine db_Gq (-(nI 1)) (nI 2) hI ?_ fun s1 hS hA => ?_
            · unfold db_f132 db_f132_b31 db_f132_b49 db_f132_b81
              simp (disch := omega) only [db_lit, eq_self, db_pI_e, db_pL_e, db_bind_some, db_bd_some, nI_add, pk_mul, nI_toInt, db_m1_t, dz_cn, Int.ofNat_le, Int.ofNat_lt, decide_true, decide_false, db_ct, db_cf, not_true_eq_false, not_false_eq_true, db_87e, db_37e, db_31e, db_28e, db_281e, db_211e, db_27, db_269w, db_litL, pk_lT, db_iL, db_p0_e, db_p0_n, db_p0_j, db_sub1, nI_eq, if_true, if_false, Bool.false_eq_true, f33, db_g_12, h12, hmn, hw8, db_126 hR hO, hpq, db_q_6]
              refine db_T_gd (db_133 (m := m) hR hO ht (by omega)) fun v s2 hv => ?_
              obtain ⟨hF, ⟨hv, h3, h4⟩ | ⟨hv, j, hj, h3⟩⟩ := hv
              · exact absurd h3 hok
              · dsimp only at hv
                subst hv
                unfold db_f132_b84
                simp (disch := omega) only [db_lit, eq_self, db_pI_e, db_pL_e, db_bind_some, db_bd_some, nI_add, pk_mul, nI_toInt, db_m1_t, dz_cn, Int.ofNat_le, Int.ofNat_lt, decide_true, decide_false, db_ct, db_cf, not_true_eq_false, not_false_eq_true, db_87e, db_37e, db_31e, db_28e, db_281e, db_211e, db_27, db_269w, db_litL, pk_lT, db_iL, db_p0_e, db_p0_n, db_p0_j, db_sub1, nI_eq, if_true, if_false, Bool.false_eq_true, (show ¬ 2 = 0 by omega)]
                exact ⟨_, rfl, rfl, db_Sc_u (db_F1_Ec hF (fun j => by unfold db_ec; omega))⟩
            · have hA' := db_p0_A hA
              have hme := hmem (db_p0 s1) (fun j => by rw [db_p0_2]; exact (hS.1 672 j (by unfold db_ec; omega) (by omega)).2)
              unfold db_f323 db_f301
              simp (disch := omega) only [db_lit, eq_self, db_pI_e, db_pL_e, db_bind_some, db_bd_some, nI_add, pk_mul, nI_toInt, db_m1_t, dz_cn, Int.ofNat_le, Int.ofNat_lt, decide_true, decide_false, db_ct, db_cf, not_true_eq_false, not_false_eq_true, db_87e, db_37e, db_31e, db_28e, db_281e, db_211e, db_27, db_269w, db_litL, pk_lT, db_iL, db_p0_e, db_p0_n, db_p0_j, db_sub1, nI_eq, if_true, if_false, Bool.false_eq_true, hw, db_g_671, e671 hS, Nat.zero_le, hmn, hw8, db_315 hA' hO.1.2.1 hO.1.2.2.1, hpq]
              refine db_loop (α := Unit) (L := fun m' _ k => db_f323_b92 m' (db_p0 s1) (nI t) (nI m) p q (nI k)) (N := m) (fun k _ => ∀ j, j < k → dw_sg (db_bk s 0) (s.2 (7 + t) j)) ?_ ?_ (n := db_FU) (a := ()) (by unfold db_FU; omega) (fun j hj => absurd hj (by omega))
              · rintro m' _ hall
                exact absurd hall hok
              · rintro m' k _ hk hall hrec
                show dz_T (db_f323_b92 (m' + 1) (db_p0 s1) (nI t) (nI m) p q (nI k)) _
                rw [db_f323_b92]
                have h7 : ¬ m ≤ k := by omega
                obtain ⟨b, eb, hb⟩ := db_325 (v := s.2 (7 + t) k) hA' hO.1.1
                unfold db_f324
                simp (disch := omega) only [db_lit, eq_self, db_pI_e, db_pL_e, db_bind_some, db_bd_some, nI_add, pk_mul, nI_toInt, db_m1_t, dz_cn, Int.ofNat_le, Int.ofNat_lt, decide_true, decide_false, db_ct, db_cf, not_true_eq_false, not_false_eq_true, db_87e, db_37e, db_31e, db_28e, db_281e, db_211e, db_27, db_269w, db_litL, pk_lT, db_iL, db_p0_e, db_p0_n, db_p0_j, db_sub1, nI_eq, if_true, if_false, Bool.false_eq_true, h7, db_g_672, hme k hk, eb]
                rcases hb with ⟨hb, hg⟩ | ⟨hb, hg⟩
                · subst hb
                  simp (disch := omega) only [db_lit, eq_self, db_pI_e, db_pL_e, db_bind_some, db_bd_some, nI_add, pk_mul, nI_toInt, db_m1_t, dz_cn, Int.ofNat_le, Int.ofNat_lt, decide_true, decide_false, db_ct, db_cf, not_true_eq_false, not_false_eq_true, db_87e, db_37e, db_31e, db_28e, db_281e, db_211e, db_27, db_269w, db_litL, pk_lT, db_iL, db_p0_e, db_p0_n, db_p0_j, db_sub1, nI_eq, if_true, if_false, Bool.false_eq_true]
                  refine hrec () fun j hj => ?_
                  by_cases e : j = k
                  · subst e; exact hg
                  · exact hall j (by omega)
                · subst hb
                  simp (disch := omega) only [db_lit, eq_self, db_pI_e, db_pL_e, db_bind_some, db_bd_some, nI_add, pk_mul, nI_toInt, db_m1_t, dz_cn, Int.ofNat_le, Int.ofNat_lt, decide_true, decide_false, db_ct, db_cf, not_true_eq_false, not_false_eq_true, db_87e, db_37e, db_31e, db_28e, db_281e, db_211e, db_27, db_269w, db_litL, pk_lT, db_iL, db_p0_e, db_p0_n, db_p0_j, db_sub1, nI_eq, if_true, if_false, Bool.false_eq_true]
                  exact ⟨_, rfl, rfl, db_Sm_u db_Em_r⟩
    · refine db_Gn 4 hI ?_ fun s1 hS hA => ?_
      · unfold db_f132 db_f132_b31 db_f132_b49 db_f132_b84
        simp (disch := omega) only [db_lit, eq_self, db_pI_e, db_pL_e, db_bind_some, db_bd_some, nI_add, pk_mul, nI_toInt, db_m1_t, dz_cn, Int.ofNat_le, Int.ofNat_lt, decide_true, decide_false, db_ct, db_cf, not_true_eq_false, not_false_eq_true, db_87e, db_37e, db_31e, db_28e, db_281e, db_211e, db_27, db_269w, db_litL, pk_lT, db_iL, db_p0_e, db_p0_n, db_p0_j, db_sub1, nI_eq, if_true, if_false, Bool.false_eq_true, f33, db_g_12, h12, hy, (show ¬ 4 = 0 by omega)]
      · have e : s1.1 671 t = nI n := by rw [(hS.1 671 t (by unfold db_ec; omega) (by omega)).1]; exact h671
        unfold db_f323 db_f301
        simp (disch := omega) only [db_lit, eq_self, db_pI_e, db_pL_e, db_bind_some, db_bd_some, nI_add, pk_mul, nI_toInt, db_m1_t, dz_cn, Int.ofNat_le, Int.ofNat_lt, decide_true, decide_false, db_ct, db_cf, not_true_eq_false, not_false_eq_true, db_87e, db_37e, db_31e, db_28e, db_281e, db_211e, db_27, db_269w, db_litL, pk_lT, db_iL, db_p0_e, db_p0_n, db_p0_j, db_sub1, nI_eq, if_true, if_false, Bool.false_eq_true, hw, db_g_671, e, Nat.zero_le, hy]
theorem db_cnvs : ∀ q, q < 4 → ∀ g, g < 10 → db_cnv (nI q) (nI g).toInt64 = (nI g).toInt64 := by decide
theorem db_k18 (hI : db_Inv U s) : dz_G U s (fun s => db_f110 s x y) (fun s => db_f300 s x y) := by
  obtain ⟨hO, hR, -⟩ := db_cur hI
  have hK5 := hO.1.2.2.2.2.2
  have hK8 := hK5.2
  rcases db_tr3 hI y with ⟨h1, h2⟩ | ⟨t, ht, rfl, hw, ⟨h1, h2⟩ | ⟨n, hn, h12, h671, h11, ⟨k, hk, h670⟩, hp⟩⟩
  · refine db_Gn 1 hI ?_ fun s1 hS hA => ?_
    · unfold db_f110 db_f110_b24 db_f110_b51
      simp (disch := omega) only [db_lit, eq_self, db_pI_e, db_pL_e, db_bind_some, db_bd_some, nI_add, pk_mul, nI_toInt, db_m1_t, dz_cn, Int.ofNat_le, Int.ofNat_lt, decide_true, decide_false, db_ct, db_cf, not_true_eq_false, not_false_eq_true, db_87e, db_37e, db_31e, db_28e, db_281e, db_211e, db_27, db_269w, db_litL, pk_lT, db_iL, db_p0_e, db_p0_n, db_p0_j, db_sub1, nI_eq, if_true, if_false, Bool.false_eq_true, db_33f h1, (show ¬ 1 = 0 by omega)]
    · unfold db_f300 db_f301
      simp (disch := omega) only [db_lit, eq_self, db_pI_e, db_pL_e, db_bind_some, db_bd_some, nI_add, pk_mul, nI_toInt, db_m1_t, dz_cn, Int.ofNat_le, Int.ofNat_lt, decide_true, decide_false, db_ct, db_cf, not_true_eq_false, not_false_eq_true, db_87e, db_37e, db_31e, db_28e, db_281e, db_211e, db_27, db_269w, db_litL, pk_lT, db_iL, db_p0_e, db_p0_n, db_p0_j, db_sub1, nI_eq, if_true, if_false, Bool.false_eq_true, h1]
  · refine db_Gn 3 hI ?_ fun s1 hS hA => ?_
    · unfold db_f110 db_f110_b24 db_f110_b51
      simp (disch := omega) only [db_lit, eq_self, db_pI_e, db_pL_e, db_bind_some, db_bd_some, nI_add, pk_mul, nI_toInt, db_m1_t, dz_cn, Int.ofNat_le, Int.ofNat_lt, decide_true, decide_false, db_ct, db_cf, not_true_eq_false, not_false_eq_true, db_87e, db_37e, db_31e, db_28e, db_281e, db_211e, db_27, db_269w, db_litL, pk_lT, db_iL, db_p0_e, db_p0_n, db_p0_j, db_sub1, nI_eq, if_true, if_false, Bool.false_eq_true, db_33c ht h1, (show ¬ 3 = 0 by omega)]
    · have e : s1.1 671 t = -(nI 1) := by rw [(hS.1 671 t (by unfold db_ec; omega) (by omega)).1]; exact h2
      have hm : ¬ ((0 : Nat) : Int) ≤ (-1 : Int) := by omega
      unfold db_f300 db_f301
      simp (disch := omega) only [db_lit, eq_self, db_pI_e, db_pL_e, db_bind_some, db_bd_some, nI_add, pk_mul, nI_toInt, db_m1_t, dz_cn, Int.ofNat_le, Int.ofNat_lt, decide_true, decide_false, db_ct, db_cf, not_true_eq_false, not_false_eq_true, db_87e, db_37e, db_31e, db_28e, db_281e, db_211e, db_27, db_269w, db_litL, pk_lT, db_iL, db_p0_e, db_p0_n, db_p0_j, db_sub1, nI_eq, if_true, if_false, Bool.false_eq_true, hw, db_g_671, e, hm]
  · have f33 := db_33o ht hn h12
    cases h : db_is x (db_n (db_bk s 0) 5) with
    | false =>
      refine db_Gn 2 hI ?_ fun s1 hS hA => ?_
      · unfold db_f110 db_f110_b24 db_f110_b51
        simp (disch := omega) only [db_lit, eq_self, db_pI_e, db_pL_e, db_bind_some, db_bd_some, nI_add, pk_mul, nI_toInt, db_m1_t, dz_cn, Int.ofNat_le, Int.ofNat_lt, decide_true, decide_false, db_ct, db_cf, not_true_eq_false, not_false_eq_true, db_87e, db_37e, db_31e, db_28e, db_281e, db_211e, db_27, db_269w, db_litL, pk_lT, db_iL, db_p0_e, db_p0_n, db_p0_j, db_sub1, nI_eq, if_true, if_false, Bool.false_eq_true, f33, db_103 hR hO, h, (show ¬ 2 = 0 by omega)]
      · have e : s1.1 671 t = nI n := by rw [(hS.1 671 t (by unfold db_ec; omega) (by omega)).1]; exact h671
        unfold db_f300 db_f301
        simp (disch := omega) only [db_lit, eq_self, db_pI_e, db_pL_e, db_bind_some, db_bd_some, nI_add, pk_mul, nI_toInt, db_m1_t, dz_cn, Int.ofNat_le, Int.ofNat_lt, decide_true, decide_false, db_ct, db_cf, not_true_eq_false, not_false_eq_true, db_87e, db_37e, db_31e, db_28e, db_281e, db_211e, db_27, db_269w, db_litL, pk_lT, db_iL, db_p0_e, db_p0_n, db_p0_j, db_sub1, nI_eq, if_true, if_false, Bool.false_eq_true, hw, db_g_671, e, Nat.zero_le, db_297 (db_p0_A hA) hK5, h]
    | true =>
      obtain ⟨d, hd, rfl⟩ := db_is_t h
      obtain ⟨a1, -, -, a4⟩ := db_59 hR hd
      obtain ⟨⟨hL, hL1⟩, hT, -⟩ := hO.2.2.2.1 d hd
      have hL6 := hL.2
      have hL0 := hL.1
      have hT2 := hO.1.1.2
      by_cases hle : db_n (db_bk s 0) (127 + d) ≤ n
      · refine db_GT (t := t) (n := n) (q := nI k) (W := fun p => if p < db_n (db_bk s 0) (127 + d) then (db_bk s 0 (151 + 6 * d + p)).toInt64 else s.2 (7 + t) p) (A := nI (db_n (db_bk s 0) (127 + d))) hI ht hn ⟨k, hk, rfl⟩ ?_ fun s1 hS hA => ?_
        · unfold db_f110 db_f110_b24 db_f110_b51
          simp (disch := omega) only [db_lit, eq_self, db_pI_e, db_pL_e, db_bind_some, db_bd_some, nI_add, pk_mul, nI_toInt, db_m1_t, dz_cn, Int.ofNat_le, Int.ofNat_lt, decide_true, decide_false, db_ct, db_cf, not_true_eq_false, not_false_eq_true, db_87e, db_37e, db_31e, db_28e, db_281e, db_211e, db_27, db_269w, db_litL, pk_lT, db_iL, db_p0_e, db_p0_n, db_p0_j, db_sub1, nI_eq, if_true, if_false, Bool.false_eq_true, f33, db_103 hR hO, h, db_g_59, a1, hL0, db_g_12, h12, hle]
          refine db_loop (L := fun m a k => db_f110_b64 m a (nI d) (nI t) (nI k)) (N := db_n (db_bk s 0) (127 + d)) (fun k a => a.1 = s.1 ∧ (∀ b, b ≠ 7 + t → a.2 b = s.2 b) ∧ ∀ p, a.2 (7 + t) p = if p < k then (db_bk s 0 (151 + 6 * d + p)).toInt64 else s.2 (7 + t) p) ?_ ?_ (n := db_FU) (by unfold db_FU; omega) ⟨rfl, fun b _ => rfl, fun p => by rw [if_neg (by omega)]⟩
          · rintro m a ⟨g1, g2, g3⟩
            show dz_T (db_f110_b64 (m + 1) a (nI d) (nI t) (nI (db_n (db_bk s 0) (127 + d)))) _
            rw [db_f110_b64]
            simp (disch := omega) only [db_lit, eq_self, db_pI_e, db_pL_e, db_bind_some, db_bd_some, nI_add, pk_mul, nI_toInt, db_m1_t, dz_cn, Int.ofNat_le, Int.ofNat_lt, decide_true, decide_false, db_ct, db_cf, not_true_eq_false, not_false_eq_true, db_87e, db_37e, db_31e, db_28e, db_281e, db_211e, db_27, db_269w, db_litL, pk_lT, db_iL, db_p0_e, db_p0_n, db_p0_j, db_sub1, nI_eq, if_true, if_false, Bool.false_eq_true, db_g_59, g1, a1, hL0, Nat.le_refl]
            exact ⟨_, rfl, rfl, a, rfl, fun b j _ _ => by rw [g1], by rw [g1]; exact h12, by rw [g1]; exact h11.trans h670, g2, fun p hp1 => g3 p⟩
          · rintro m j a hj ⟨g1, g2, g3⟩ hrec
            show dz_T (db_f110_b64 (m + 1) a (nI d) (nI t) (nI j)) _
            rw [db_f110_b64]
            have h7 : ¬ db_n (db_bk s 0) (127 + d) ≤ j := by omega
            obtain ⟨g, hg, eg⟩ := hT j hj
            have ev := a4 j hj
            simp (disch := omega) only [db_lit, eq_self, db_pI_e, db_pL_e, db_bind_some, db_bd_some, nI_add, pk_mul, nI_toInt, db_m1_t, dz_cn, Int.ofNat_le, Int.ofNat_lt, decide_true, decide_false, db_ct, db_cf, not_true_eq_false, not_false_eq_true, db_87e, db_37e, db_31e, db_28e, db_281e, db_211e, db_27, db_269w, db_litL, pk_lT, db_iL, db_p0_e, db_p0_n, db_p0_j, db_sub1, nI_eq, if_true, if_false, Bool.false_eq_true, db_g_59, g1, a1, hL0, h7, db_q_50, db_g_51, ev, db_35]
            refine hrec _ ⟨g1, fun b hb => by rw [db_uL_n hb]; exact g2 b hb, fun p => ?_⟩
            rw [eg, h11, h670, db_cnvs k hk g (by omega)]
            by_cases e : p = j
            · subst e
              rw [db_uL_1, if_pos (by omega), eg]
            · rw [db_uL_j e, g3 p]
              by_cases e2 : p < j
              · rw [if_pos e2, if_pos (by omega)]
              · rw [if_neg e2, if_neg (by omega)]
        · have e : s1.1 671 t = nI n := by rw [(hS 671 t (by omega)).1]; exact h671
          have e0 : s1.1 670 t = nI k := by rw [(hS 670 t (by omega)).1]; exact h670
          have hA' := db_p0_A hA
          unfold db_f300 db_f301
          simp (disch := omega) only [db_lit, eq_self, db_pI_e, db_pL_e, db_bind_some, db_bd_some, nI_add, pk_mul, nI_toInt, db_m1_t, dz_cn, Int.ofNat_le, Int.ofNat_lt, decide_true, decide_false, db_ct, db_cf, not_true_eq_false, not_false_eq_true, db_87e, db_37e, db_31e, db_28e, db_281e, db_211e, db_27, db_269w, db_litL, pk_lT, db_iL, db_p0_e, db_p0_n, db_p0_j, db_sub1, nI_eq, if_true, if_false, Bool.false_eq_true, hw, db_g_671, e, Nat.zero_le, db_297 hA' hK5, h, db_g_674, hA, hL0, hle]
          refine db_loop (L := fun m a k => db_f300_b79 m a (nI d) (nI t) (nI k)) (N := db_n (db_bk s 0) (127 + d)) (fun k a => a.1 = (db_p0 s1).1 ∧ (∀ b, b ≠ 672 → a.2 b = s1.2 b) ∧ (∀ j, ¬ (60 * t ≤ j ∧ j < 60 * t + 60) → a.2 672 j = s1.2 672 j) ∧ ∀ p, p < n → a.2 672 (60 * t + p) = if p < k then (db_bk s 0 (151 + 6 * d + p)).toInt64 else s.2 (7 + t) p) ?_ ?_ (n := db_FU) (by unfold db_FU; omega) ⟨rfl, fun b _ => rfl, fun j _ => rfl, fun p hp1 => by rw [if_neg (by omega), db_p0_2, (hS 672 _ (by omega)).2]; exact (hp p hp1).symm⟩
          · rintro m a ⟨g1, g2, g3, g4⟩
            show dz_T (db_f300_b79 (m + 1) a (nI d) (nI t) (nI (db_n (db_bk s 0) (127 + d)))) _
            rw [db_f300_b79]
            simp (disch := omega) only [db_lit, eq_self, db_pI_e, db_pL_e, db_bind_some, db_bd_some, nI_add, pk_mul, nI_toInt, db_m1_t, dz_cn, Int.ofNat_le, Int.ofNat_lt, decide_true, decide_false, db_ct, db_cf, not_true_eq_false, not_false_eq_true, db_87e, db_37e, db_31e, db_28e, db_281e, db_211e, db_27, db_269w, db_litL, pk_lT, db_iL, db_p0_e, db_p0_n, db_p0_j, db_sub1, nI_eq, if_true, if_false, Bool.false_eq_true, db_g_674, g1, hA, hL0, Nat.le_refl]
            refine ⟨_, rfl, rfl, fun b j n1 n2 n3 => ?_, ?_, ?_, ?_, g2, g3, g4⟩
            · rw [g1]
              by_cases hb : b = 669
              · subst hb; exact db_p0_j (by omega) (by omega)
              · rw [db_p0_n hb]
            · rw [g1]; exact db_p0_0
            · rw [g1, db_p0_n (by decide)]; exact e
            · rw [g1, db_p0_n (by decide)]; exact e0
          · rintro m j a hj ⟨g1, g2, g3, g4⟩ hrec
            show dz_T (db_f300_b79 (m + 1) a (nI d) (nI t) (nI j)) _
            rw [db_f300_b79]
            have h7 : ¬ db_n (db_bk s 0) (127 + d) ≤ j := by omega
            unfold db_f299
            simp (disch := omega) only [db_lit, eq_self, db_pI_e, db_pL_e, db_bind_some, db_bd_some, nI_add, pk_mul, nI_toInt, db_m1_t, dz_cn, Int.ofNat_le, Int.ofNat_lt, decide_true, decide_false, db_ct, db_cf, not_true_eq_false, not_false_eq_true, db_87e, db_37e, db_31e, db_28e, db_281e, db_211e, db_27, db_269w, db_litL, pk_lT, db_iL, db_p0_e, db_p0_n, db_p0_j, db_sub1, nI_eq, if_true, if_false, Bool.false_eq_true, db_g_674, g1, hA, hL0, h7, db_h_672]
            refine hrec _ ⟨g1, fun b hb => by rw [db_uL_n hb]; exact g2 b hb, fun x hx => ?_, fun p hp1 => ?_⟩
            · rw [db_uL_j (by omega)]; exact g3 x hx
            · by_cases e : p = j
              · subst e
                rw [db_uL_1, if_pos (by omega)]
              · rw [db_uL_j (by omega), g4 p hp1]
                by_cases e2 : p < j
                · rw [if_pos e2, if_pos (by omega)]
                · rw [if_neg e2, if_neg (by omega)]
      · refine db_Gn 4 hI ?_ fun s1 hS hA => ?_
        · unfold db_f110 db_f110_b24 db_f110_b51
          simp (disch := omega) only [db_lit, eq_self, db_pI_e, db_pL_e, db_bind_some, db_bd_some, nI_add, pk_mul, nI_toInt, db_m1_t, dz_cn, Int.ofNat_le, Int.ofNat_lt, decide_true, decide_false, db_ct, db_cf, not_true_eq_false, not_false_eq_true, db_87e, db_37e, db_31e, db_28e, db_281e, db_211e, db_27, db_269w, db_litL, pk_lT, db_iL, db_p0_e, db_p0_n, db_p0_j, db_sub1, nI_eq, if_true, if_false, Bool.false_eq_true, f33, db_103 hR hO, h, db_g_59, a1, hL0, db_g_12, h12, hle, (show ¬ 4 = 0 by omega)]
        · have e : s1.1 671 t = nI n := by rw [(hS.1 671 t (by unfold db_ec; omega) (by omega)).1]; exact h671
          unfold db_f300 db_f301
          simp (disch := omega) only [db_lit, eq_self, db_pI_e, db_pL_e, db_bind_some, db_bd_some, nI_add, pk_mul, nI_toInt, db_m1_t, dz_cn, Int.ofNat_le, Int.ofNat_lt, decide_true, decide_false, db_ct, db_cf, not_true_eq_false, not_false_eq_true, db_87e, db_37e, db_31e, db_28e, db_281e, db_211e, db_27, db_269w, db_litL, pk_lT, db_iL, db_p0_e, db_p0_n, db_p0_j, db_sub1, nI_eq, if_true, if_false, Bool.false_eq_true, hw, db_g_671, e, Nat.zero_le, db_297 (db_p0_A hA) hK5, h, db_g_674, hA, hL0, hle]
end DBRR
