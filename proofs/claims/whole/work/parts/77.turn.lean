/-! LIVES: the class's turns -/
section DBTN
variable {s : db_S}
/-- the end of the plan -/
theorem dw_t_end {m n a v z : Nat} (hv : v < 1000000) (hz : s.1 83 2 = nI z) (hz2 : z ≤ 60) (ha : z ≤ a) (ha2 : a ≤ 61) : db_f194_b20 (m + 1) s (nI n) (nI a) (nI v) = some (nI n, s) := by
  rw [db_f194_b20]
  simp (disch := omega) only [db_lit, eq_self, db_pI_e, db_pL_e, db_bind_some, db_bd_some, nI_add, pk_mul, nI_toInt, db_m1_t, dz_cn, Int.ofNat_le, Int.ofNat_lt, decide_true, decide_false, db_ct, db_cf, not_true_eq_false, not_false_eq_true, (show ¬ 1000000 ≤ v by omega), hz, ha]
/-- a row that ends a body -/
theorem dw_t_25 {m n a v z : Nat} (hv : v < 1000000) (hz : s.1 83 2 = nI z) (hz2 : z ≤ 60) (ha : a < z) (h0 : s.1 (85 + a) 0 = nI 25) : db_f194_b20 (m + 1) s (nI n) (nI a) (nI v) = db_bd (db_f195 s (nI a)) fun q6 s7 => db_f194_b20 m s7 (nI n) q6 (nI (v + 1)) := by
  rw [db_f194_b20]
  unfold db_f194_b88
  simp (disch := omega) only [db_lit, eq_self, db_pI_e, db_pL_e, db_bind_some, db_bd_some, nI_add, pk_mul, nI_toInt, db_m1_t, dz_cn, Int.ofNat_le, Int.ofNat_lt, decide_true, decide_false, db_ct, db_cf, not_true_eq_false, not_false_eq_true, db_87e, db_37e, db_31e, db_28e, db_281e, db_211e, db_27, db_269w, db_litL, pk_lT, db_iL, db_p0_e, db_p0_n, db_p0_j, db_sub1, nI_eq, if_true, if_false, Bool.false_eq_true, (show ¬ 1000000 ≤ v by omega), hz, (show ¬ z ≤ a by omega), db_q_84, db_g_85, h0]
/-- a step -/
theorem dw_t_s {m n a v z k : Nat} (hv : v < 1000000) (hz : s.1 83 2 = nI z) (hz2 : z ≤ 60) (ha : a < z) (h0 : s.1 (85 + a) 0 = nI k) (hk : k < 25) (hn : n < 300) : db_f194_b20 (m + 1) s (nI n) (nI a) (nI v) = db_bd (db_f196 s (nI a)) fun q3 s4 => db_f194_b20 m s4 (nI (n + 1)) q3 (nI (v + 1)) := by
  rw [db_f194_b20]
  unfold db_f194_b88
  simp (disch := omega) only [db_lit, eq_self, db_pI_e, db_pL_e, db_bind_some, db_bd_some, nI_add, pk_mul, nI_toInt, db_m1_t, dz_cn, Int.ofNat_le, Int.ofNat_lt, decide_true, decide_false, db_ct, db_cf, not_true_eq_false, not_false_eq_true, db_87e, db_37e, db_31e, db_28e, db_281e, db_211e, db_27, db_269w, db_litL, pk_lT, db_iL, db_p0_e, db_p0_n, db_p0_j, db_sub1, nI_eq, if_true, if_false, Bool.false_eq_true, (show ¬ 1000000 ≤ v by omega), hz, (show ¬ z ≤ a by omega), db_q_84, db_g_85, h0, (show ¬ k = 25 by omega), (show ¬ n = 300 by omega)]
/-- cut short -/
theorem dw_t_c {m a v z k : Nat} (hv : v < 1000000) (hz : s.1 83 2 = nI z) (hz2 : z ≤ 60) (ha : a < z) (h0 : s.1 (85 + a) 0 = nI k) (hk : k < 25) : db_f194_b20 (m + 1) s (nI 300) (nI a) (nI v) = some (nI 300, db_uI s 286 4 (nI 1)) := by
  rw [db_f194_b20]
  unfold db_f194_b88
  simp (disch := omega) only [db_lit, eq_self, db_pI_e, db_pL_e, db_bind_some, db_bd_some, nI_add, pk_mul, nI_toInt, db_m1_t, dz_cn, Int.ofNat_le, Int.ofNat_lt, decide_true, decide_false, db_ct, db_cf, not_true_eq_false, not_false_eq_true, db_87e, db_37e, db_31e, db_28e, db_281e, db_211e, db_27, db_269w, db_litL, pk_lT, db_iL, db_p0_e, db_p0_n, db_p0_j, db_sub1, nI_eq, if_true, if_false, Bool.false_eq_true, (show ¬ 1000000 ≤ v by omega), hz, (show ¬ z ≤ a by omega), db_q_84, db_g_85, h0, (show ¬ k = 25 by omega), db_h_286]
end DBTN
