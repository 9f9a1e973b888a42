/-! LIVES: conditions -/
/-- does the condition at place W hold -/
def dw_cd (c : db_C) (W : Nat) : Bool := if c (W + 6) = nI 1 then decide (db_wo c (db_n c (W + 1)) = nI 0) else if c (W + 7) = nI 60 then decide ((c (12 + db_n c (W + 1))).toInt < (c (W + 2)).toInt) else if c (W + 7) = nI 62 then decide ((c (W + 2)).toInt < (c (12 + db_n c (W + 1))).toInt) else decide (c (12 + db_n c (W + 1)) = c (W + 2))
section DBCD
variable {U : Nat} {s0 s : db_S} {c : db_C} {w : Nat → Int64} {x y z p q v : Int32} {g : Nat → Int32} {sd : Nat}
theorem dw_b31 (x : Int32) : bt x 31 = decide (x.toInt < 0) := by
  unfold bt
  show x.toBitVec.getLsbD 31 = decide (x.toBitVec.toInt < 0)
  rw [← BitVec.msb_eq_toInt, BitVec.msb_eq_getLsbD_last]
theorem dw_b1 : ∀ i, i < 32 → bt (nI 1) i = decide (i = 0) := by decide +kernel
theorem dw_199 (hv : v.toInt ≠ -2147483648) : db_f199 s v = some (if v.toInt < 0 then -(nI 1) else if v.toInt = 0 then nI 0 else nI 1) := by
  unfold db_f199
  congr 1
  refine b_ext fun i hi => ?_
  rw [b_or]
  have h1 : bt (v >>> ((31 : Int32) &&& 31)) i = decide (v.toInt < 0) := by
    refine (b_sshr 31 (by omega) v hi).trans ?_
    by_cases e : 31 + i < 32
    · rw [if_pos e, show 31 + i = 31 by omega, dw_b31]
    · rw [if_neg e, dw_b31]
  have h2 : bt ((Int32.toUInt32 (-v) >>> (Int32.toUInt32 (31 : Int32) &&& Int32.toUInt32 31)).toInt32) i = (decide (i = 0) && decide (0 < v.toInt)) := by
    refine (b_ushr 31 (by omega) (-v) i).trans ?_
    by_cases e : i = 0
    · subst e
      rw [Nat.add_zero, dw_b31, fb_negI hv, decide_eq_true (show 0 = 0 from rfl), Bool.true_and, decide_eq_decide]
      omega
    · rw [b_big (by omega), decide_eq_false e, Bool.false_and]
  rw [h1, h2]
  by_cases n0 : v.toInt < 0
  · rw [if_pos n0, decide_eq_true n0, Bool.true_or]
    exact (b_m1 i hi).symm
  · rw [if_neg n0, decide_eq_false n0, Bool.false_or]
    by_cases n1 : v.toInt = 0
    · rw [if_pos n1, decide_eq_false (show ¬ 0 < v.toInt by omega), Bool.and_false]
      exact (b_0 i).symm
    · rw [if_neg n1, decide_eq_true (show 0 < v.toInt by omega), Bool.and_true, dw_b1 i hi]
/-- the class asks -/
theorem dw_198 {a W : Nat} (hB : db_B1 U 20 s c w) (hU : U ≤ 1000000000) (ha : a < 60) (hS : db_SR (s.1 (85 + a)) c W) (hk : c W = nI 4) : db_f198 s (85 + a) = some (dw_cd c W) := by
  have hO := hB.1
  have hR := hB.2.1
  have j1 := hO.1.2.1.2
  have j3 := hO.1.2.2.2.1.2
  obtain ⟨k, k6, e0, r0, -, -, -, b4, -⟩ := hS
  have hk4 : k = 4 := db_nI_inj (by omega) (by omega) (e0.symm.trans hk)
  unfold db_f198 dw_cd
  rcases b4 hk4 with ⟨e6, r2, r, hr, er, rr⟩ | ⟨e6, ⟨pp, hp, ep, rp⟩, r4, hv, hop⟩
  · rw [if_pos e6, dw_nI_n er (by omega)]
    simp (disch := omega) only [db_lit, eq_self, db_pI_e, db_pL_e, db_bind_some, db_bd_some, nI_add, pk_mul, nI_toInt, db_m1_t, dz_cn, Int.ofNat_le, Int.ofNat_lt, decide_true, decide_false, db_ct, db_cf, not_true_eq_false, not_false_eq_true, db_g_85, r2, db_m1_l, rr, db_104 hR hO hU hr]
    by_cases h : db_wo c r = nI 0
    · simp (disch := omega) only [db_lit, eq_self, db_pI_e, db_pL_e, db_bind_some, db_bd_some, nI_add, pk_mul, nI_toInt, db_m1_t, dz_cn, Int.ofNat_le, Int.ofNat_lt, decide_true, decide_false, db_ct, db_cf, not_true_eq_false, not_false_eq_true, h]
    · simp (disch := omega) only [db_lit, eq_self, db_pI_e, db_pL_e, db_bind_some, db_bd_some, nI_add, pk_mul, nI_toInt, db_m1_t, dz_cn, Int.ofNat_le, Int.ofNat_lt, decide_true, decide_false, db_ct, db_cf, not_true_eq_false, not_false_eq_true, h]
  · rw [if_neg (by rw [e6]; decide), dw_nI_n ep (by omega)]
    have hne := db_m1_ne (k := pp) (by omega)
    have e82 := db_82 hR hp
    have hvp := (hO.2.2.2.2.1 pp hp).2
    have es : (c (12 + pp) - c (W + 2)).toInt = (c (12 + pp)).toInt - (c (W + 2)).toInt := fb_subI (by omega) (by omega)
    have f199 := dw_199 (s := s) (v := c (12 + pp) - c (W + 2)) (by rw [es]; omega)
    rw [es] at f199
    have hm10 : ¬ -(nI 1) = nI 0 := by decide
    have hm11 : ¬ -(nI 1) = nI 1 := by decide
    have h01 : ¬ nI 0 = nI 1 := by decide
    have h0m : ¬ nI 0 = -(nI 1) := by decide
    have h1m : ¬ nI 1 = -(nI 1) := by decide
    have h10 : ¬ nI 1 = nI 0 := by decide
    have h6160 : ¬ nI 61 = nI 60 := by decide
    have h6162 : ¬ nI 61 = nI 62 := by decide
    have h6260 : ¬ nI 62 = nI 60 := by decide
    have heq : c (12 + pp) = c (W + 2) ↔ (c (12 + pp)).toInt - (c (W + 2)).toInt = 0 := by rw [fa_eq]; omega
    simp (disch := omega) only [db_lit, eq_self, db_pI_e, db_pL_e, db_bind_some, db_bd_some, nI_add, pk_mul, nI_toInt, db_m1_t, dz_cn, Int.ofNat_le, Int.ofNat_lt, decide_true, decide_false, db_ct, db_cf, not_true_eq_false, not_false_eq_true, db_g_85, rp, hne, db_m1_l, db_g_82, e82, r4, f199]
    rcases hop with ⟨e7, r3⟩ | ⟨e7, r3⟩ | ⟨e7, r3⟩
    · rw [e7, if_pos rfl, r3]
      by_cases c1 : (c (12 + pp)).toInt - (c (W + 2)).toInt < 0
      · simp (disch := omega) only [db_lit, eq_self, db_pI_e, db_pL_e, db_bind_some, db_bd_some, nI_add, pk_mul, nI_toInt, db_m1_t, dz_cn, Int.ofNat_le, Int.ofNat_lt, decide_true, decide_false, db_ct, db_cf, not_true_eq_false, not_false_eq_true, c1, if_true]
        rw [decide_eq_true (show (c (12 + pp)).toInt < (c (W + 2)).toInt by omega)]
      · rw [if_neg c1, decide_eq_false (show ¬ (c (12 + pp)).toInt < (c (W + 2)).toInt by omega)]
        by_cases c2 : (c (12 + pp)).toInt - (c (W + 2)).toInt = 0
        · simp (disch := omega) only [db_lit, eq_self, db_pI_e, db_pL_e, db_bind_some, db_bd_some, nI_add, pk_mul, nI_toInt, db_m1_t, dz_cn, Int.ofNat_le, Int.ofNat_lt, decide_true, decide_false, db_ct, db_cf, not_true_eq_false, not_false_eq_true, c2, if_true, h0m]
        · simp (disch := omega) only [db_lit, eq_self, db_pI_e, db_pL_e, db_bind_some, db_bd_some, nI_add, pk_mul, nI_toInt, db_m1_t, dz_cn, Int.ofNat_le, Int.ofNat_lt, decide_true, decide_false, db_ct, db_cf, not_true_eq_false, not_false_eq_true, c2, if_false, h1m]
    · rw [e7, if_neg h6160, if_neg h6162, r3]
      by_cases c1 : (c (12 + pp)).toInt - (c (W + 2)).toInt < 0
      · simp (disch := omega) only [db_lit, eq_self, db_pI_e, db_pL_e, db_bind_some, db_bd_some, nI_add, pk_mul, nI_toInt, db_m1_t, dz_cn, Int.ofNat_le, Int.ofNat_lt, decide_true, decide_false, db_ct, db_cf, not_true_eq_false, not_false_eq_true, c1, if_true, hm10]
        rw [decide_eq_false (show ¬ c (12 + pp) = c (W + 2) by rw [heq]; omega)]
      · rw [if_neg c1]
        by_cases c2 : (c (12 + pp)).toInt - (c (W + 2)).toInt = 0
        · simp (disch := omega) only [db_lit, eq_self, db_pI_e, db_pL_e, db_bind_some, db_bd_some, nI_add, pk_mul, nI_toInt, db_m1_t, dz_cn, Int.ofNat_le, Int.ofNat_lt, decide_true, decide_false, db_ct, db_cf, not_true_eq_false, not_false_eq_true, c2, if_true]
          rw [decide_eq_true (heq.mpr c2)]
        · simp (disch := omega) only [db_lit, eq_self, db_pI_e, db_pL_e, db_bind_some, db_bd_some, nI_add, pk_mul, nI_toInt, db_m1_t, dz_cn, Int.ofNat_le, Int.ofNat_lt, decide_true, decide_false, db_ct, db_cf, not_true_eq_false, not_false_eq_true, c2, if_false, h10]
          rw [decide_eq_false (show ¬ c (12 + pp) = c (W + 2) by rw [heq]; exact c2)]
    · rw [e7, if_neg h6260, if_pos (rfl : nI 62 = nI 62), r3]
      by_cases c1 : (c (12 + pp)).toInt - (c (W + 2)).toInt < 0
      · simp (disch := omega) only [db_lit, eq_self, db_pI_e, db_pL_e, db_bind_some, db_bd_some, nI_add, pk_mul, nI_toInt, db_m1_t, dz_cn, Int.ofNat_le, Int.ofNat_lt, decide_true, decide_false, db_ct, db_cf, not_true_eq_false, not_false_eq_true, c1, if_true, hm11]
        rw [decide_eq_false (show ¬ (c (W + 2)).toInt < (c (12 + pp)).toInt by omega)]
      · rw [if_neg c1]
        by_cases c2 : (c (12 + pp)).toInt - (c (W + 2)).toInt = 0
        · simp (disch := omega) only [db_lit, eq_self, db_pI_e, db_pL_e, db_bind_some, db_bd_some, nI_add, pk_mul, nI_toInt, db_m1_t, dz_cn, Int.ofNat_le, Int.ofNat_lt, decide_true, decide_false, db_ct, db_cf, not_true_eq_false, not_false_eq_true, c2, if_true, h01]
          rw [decide_eq_false (show ¬ (c (W + 2)).toInt < (c (12 + pp)).toInt by omega)]
        · simp (disch := omega) only [db_lit, eq_self, db_pI_e, db_pL_e, db_bind_some, db_bd_some, nI_add, pk_mul, nI_toInt, db_m1_t, dz_cn, Int.ofNat_le, Int.ofNat_lt, decide_true, decide_false, db_ct, db_cf, not_true_eq_false, not_false_eq_true, c2, if_false]
          rw [decide_eq_true (show (c (W + 2)).toInt < (c (12 + pp)).toInt by omega)]
/-- the reference asks -/
theorem dw_373 {R : Nat → Int32} {W : Nat} (hc : db_A s c) (hO : db_Ok U c) (hW : W + 9 ≤ 480) (hS : db_SR R c W) (hk : c W = nI 4) : db_f373 s (nI W) = some (dw_cd c W) := by
  have j1 := hO.1.2.1.2
  have j3 := hO.1.2.2.2.1.2
  obtain ⟨k, k6, e0, r0, -, -, -, b4, -⟩ := hS
  have hk4 : k = 4 := db_nI_inj (by omega) (by omega) (e0.symm.trans hk)
  unfold db_f373 dw_cd
  rcases b4 hk4 with ⟨e6, r2, r, hr, er, rr⟩ | ⟨e6, ⟨pp, hp, ep, rp⟩, r4, hv, hop⟩
  · rw [if_pos e6, dw_nI_n er (by omega)]
    simp (disch := omega) only [db_lit, eq_self, db_pI_e, db_pL_e, db_bind_some, db_bd_some, nI_add, pk_mul, nI_toInt, db_m1_t, dz_cn, Int.ofNat_le, Int.ofNat_lt, decide_true, decide_false, db_ct, db_cf, not_true_eq_false, not_false_eq_true, db_g_674, hc, e6, er, db_290 hc (show r < 12 by omega)]
    by_cases h : db_wo c r = nI 0
    · simp (disch := omega) only [db_lit, eq_self, db_pI_e, db_pL_e, db_bind_some, db_bd_some, nI_add, pk_mul, nI_toInt, db_m1_t, dz_cn, Int.ofNat_le, Int.ofNat_lt, decide_true, decide_false, db_ct, db_cf, not_true_eq_false, not_false_eq_true, h]
    · simp (disch := omega) only [db_lit, eq_self, db_pI_e, db_pL_e, db_bind_some, db_bd_some, nI_add, pk_mul, nI_toInt, db_m1_t, dz_cn, Int.ofNat_le, Int.ofNat_lt, decide_true, decide_false, db_ct, db_cf, not_true_eq_false, not_false_eq_true, h]
  · rw [if_neg (by rw [e6]; decide), dw_nI_n ep (by omega)]
    have h01 : ¬ nI 0 = nI 1 := by decide
    rcases hop with ⟨e7, r3⟩ | ⟨e7, r3⟩ | ⟨e7, r3⟩
    · rw [e7, if_pos rfl]
      simp (disch := omega) only [db_lit, eq_self, db_pI_e, db_pL_e, db_bind_some, db_bd_some, nI_add, pk_mul, nI_toInt, db_m1_t, dz_cn, Int.ofNat_le, Int.ofNat_lt, decide_true, decide_false, db_ct, db_cf, not_true_eq_false, not_false_eq_true, db_87e, db_37e, db_31e, db_28e, db_281e, db_211e, db_27, db_269w, db_litL, pk_lT, db_iL, db_p0_e, db_p0_n, db_p0_j, db_sub1, nI_eq, if_true, if_false, Bool.false_eq_true, db_g_674, hc, e6, ep, e7, h01]
      by_cases c1 : (c (12 + pp)).toInt < (c (W + 2)).toInt
      · rw [decide_eq_true c1, decide_eq_false (by omega), db_cf]
      · rw [decide_eq_false c1, decide_eq_true (by omega), db_ct]
    · rw [e7, if_neg (by decide), if_neg (by decide)]
      simp (disch := omega) only [db_lit, eq_self, db_pI_e, db_pL_e, db_bind_some, db_bd_some, nI_add, pk_mul, nI_toInt, db_m1_t, dz_cn, Int.ofNat_le, Int.ofNat_lt, decide_true, decide_false, db_ct, db_cf, not_true_eq_false, not_false_eq_true, db_87e, db_37e, db_31e, db_28e, db_281e, db_211e, db_27, db_269w, db_litL, pk_lT, db_iL, db_p0_e, db_p0_n, db_p0_j, db_sub1, nI_eq, if_true, if_false, Bool.false_eq_true, db_g_674, hc, e6, ep, e7, h01, (show ¬ 61 = 60 by omega), (show ¬ 61 = 62 by omega)]
      by_cases c1 : c (12 + pp) = c (W + 2)
      · rw [decide_eq_true c1, decide_eq_false (fun h => h c1), db_cf]
      · rw [decide_eq_false c1, decide_eq_true c1, db_ct]
    · rw [e7, if_neg (by decide), if_pos rfl]
      simp (disch := omega) only [db_lit, eq_self, db_pI_e, db_pL_e, db_bind_some, db_bd_some, nI_add, pk_mul, nI_toInt, db_m1_t, dz_cn, Int.ofNat_le, Int.ofNat_lt, decide_true, decide_false, db_ct, db_cf, not_true_eq_false, not_false_eq_true, db_87e, db_37e, db_31e, db_28e, db_281e, db_211e, db_27, db_269w, db_litL, pk_lT, db_iL, db_p0_e, db_p0_n, db_p0_j, db_sub1, nI_eq, if_true, if_false, Bool.false_eq_true, db_g_674, hc, e6, ep, e7, h01, (show ¬ 62 = 60 by omega)]
      by_cases c1 : (c (W + 2)).toInt < (c (12 + pp)).toInt
      · rw [decide_eq_true c1, decide_eq_false (by omega), db_cf]
      · rw [decide_eq_false c1, decide_eq_true (by omega), db_ct]
end DBCD
