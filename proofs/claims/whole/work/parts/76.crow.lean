/-! LIVES: the class's rows of blocks -/
section DBCW
variable {U : Nat} {s0 s : db_S} {c : db_C} {w : Nat → Int64} {g : Nat → Int32} {sd : Nat}
/-- the end of a condition's body -/
theorem dw_195i {a e : Nat} (ha : a < 60) (he : e < 60) (h5 : s.1 (85 + e) 5 = nI a) (h0 : s.1 (85 + a) 0 = nI 22) : db_f195 s (nI e) = some (nI (e + 1), s) := by
  unfold db_f195
  simp (disch := omega) only [db_lit, eq_self, db_pI_e, db_pL_e, db_bind_some, db_bd_some, nI_add, pk_mul, nI_toInt, db_m1_t, dz_cn, Int.ofNat_le, Int.ofNat_lt, decide_true, decide_false, db_ct, db_cf, not_true_eq_false, not_false_eq_true, db_87e, db_37e, db_31e, db_28e, db_281e, db_211e, db_27, db_269w, db_litL, pk_lT, db_iL, db_p0_e, db_p0_n, db_p0_j, db_sub1, nI_eq, if_true, if_false, Bool.false_eq_true, db_q_84, db_g_85, h5, h0, (show ¬ 22 = 23 by omega)]
/-- the end of a repeated body -/
theorem dw_195r {a e l : Nat} (ha : a < 60) (he : e < 60) (h5 : s.1 (85 + e) 5 = nI a) (h0 : s.1 (85 + a) 0 = nI 23) (hl : s.1 290 a = nI (l + 1)) (hl2 : l ≤ 99) : db_f195 s (nI e) = some (if l = 0 then nI (e + 1) else nI (a + 1), db_uI s 290 a (nI l)) := by
  have e1 : (db_uI s 290 a (nI l)).1 290 a = nI l := db_uI_1
  unfold db_f195
  simp (disch := omega) only [db_lit, eq_self, db_pI_e, db_pL_e, db_bind_some, db_bd_some, nI_add, pk_mul, nI_toInt, db_m1_t, dz_cn, Int.ofNat_le, Int.ofNat_lt, decide_true, decide_false, db_ct, db_cf, not_true_eq_false, not_false_eq_true, db_87e, db_37e, db_31e, db_28e, db_281e, db_211e, db_27, db_269w, db_litL, pk_lT, db_iL, db_p0_e, db_p0_n, db_p0_j, db_sub1, nI_eq, if_true, if_false, Bool.false_eq_true, db_q_84, db_g_85, h5, h0, db_g_290, hl, pk_sub, Nat.add_sub_cancel, db_h_290, e1]
  by_cases h : l = 0
  · simp (disch := omega) only [db_lit, eq_self, db_pI_e, db_pL_e, db_bind_some, db_bd_some, nI_add, pk_mul, nI_toInt, db_m1_t, dz_cn, Int.ofNat_le, Int.ofNat_lt, decide_true, decide_false, db_ct, db_cf, not_true_eq_false, not_false_eq_true, db_87e, db_37e, db_31e, db_28e, db_281e, db_211e, db_27, db_269w, db_litL, pk_lT, db_iL, db_p0_e, db_p0_n, db_p0_j, db_sub1, nI_eq, if_true, if_false, Bool.false_eq_true, h, Nat.le_refl]
  · simp (disch := omega) only [db_lit, eq_self, db_pI_e, db_pL_e, db_bind_some, db_bd_some, nI_add, pk_mul, nI_toInt, db_m1_t, dz_cn, Int.ofNat_le, Int.ofNat_lt, decide_true, decide_false, db_ct, db_cf, not_true_eq_false, not_false_eq_true, db_87e, db_37e, db_31e, db_28e, db_281e, db_211e, db_27, db_269w, db_litL, pk_lT, db_iL, db_p0_e, db_p0_n, db_p0_j, db_sub1, nI_eq, if_true, if_false, Bool.false_eq_true, h, (show ¬ l ≤ 0 by omega)]
/-- a condition -/
theorem dw_196c {a e : Nat} {b : Bool} (ha : a < 60) (h0 : s.1 (85 + a) 0 = nI 22) (h5 : s.1 (85 + a) 5 = nI e) (hb : db_f198 s (85 + a) = some b) : db_f196 s (nI a) = some (if b = true then nI (a + 1) else nI (e + 1), s) := by
  unfold db_f196
  simp (disch := omega) only [db_lit, eq_self, db_pI_e, db_pL_e, db_bind_some, db_bd_some, nI_add, pk_mul, nI_toInt, db_m1_t, dz_cn, Int.ofNat_le, Int.ofNat_lt, decide_true, decide_false, db_ct, db_cf, not_true_eq_false, not_false_eq_true, db_87e, db_37e, db_31e, db_28e, db_281e, db_211e, db_27, db_269w, db_litL, pk_lT, db_iL, db_p0_e, db_p0_n, db_p0_j, db_sub1, nI_eq, if_true, if_false, Bool.false_eq_true, db_q_84, db_g_85, h0, (show ¬ 22 = 18 by omega), (show ¬ 22 = 19 by omega), (show ¬ 22 = 20 by omega), (show ¬ 22 = 21 by omega), hb]
  cases b with
  | true => simp (disch := omega) only [db_lit, eq_self, db_pI_e, db_pL_e, db_bind_some, db_bd_some, nI_add, pk_mul, nI_toInt, db_m1_t, dz_cn, Int.ofNat_le, Int.ofNat_lt, decide_true, decide_false, db_ct, db_cf, not_true_eq_false, not_false_eq_true, db_87e, db_37e, db_31e, db_28e, db_281e, db_211e, db_27, db_269w, db_litL, pk_lT, db_iL, db_p0_e, db_p0_n, db_p0_j, db_sub1, nI_eq, if_true, if_false, Bool.false_eq_true]
  | false => simp (disch := omega) only [db_lit, eq_self, db_pI_e, db_pL_e, db_bind_some, db_bd_some, nI_add, pk_mul, nI_toInt, db_m1_t, dz_cn, Int.ofNat_le, Int.ofNat_lt, decide_true, decide_false, db_ct, db_cf, not_true_eq_false, not_false_eq_true, db_87e, db_37e, db_31e, db_28e, db_281e, db_211e, db_27, db_269w, db_litL, pk_lT, db_iL, db_p0_e, db_p0_n, db_p0_j, db_sub1, nI_eq, if_true, if_false, Bool.false_eq_true, h5]
/-- waking -/
theorem dw_196w {a : Nat} (ha : a < 60) (h0 : s.1 (85 + a) 0 = nI 24) : db_f196 s (nI a) = some (s.1 83 2, s) := by
  unfold db_f196
  simp (disch := omega) only [db_lit, eq_self, db_pI_e, db_pL_e, db_bind_some, db_bd_some, nI_add, pk_mul, nI_toInt, db_m1_t, dz_cn, Int.ofNat_le, Int.ofNat_lt, decide_true, decide_false, db_ct, db_cf, not_true_eq_false, not_false_eq_true, db_87e, db_37e, db_31e, db_28e, db_281e, db_211e, db_27, db_269w, db_litL, pk_lT, db_iL, db_p0_e, db_p0_n, db_p0_j, db_sub1, nI_eq, if_true, if_false, Bool.false_eq_true, db_q_84, db_g_85, h0, (show ¬ 24 = 18 by omega), (show ¬ 24 = 19 by omega), (show ¬ 24 = 20 by omega), (show ¬ 24 = 21 by omega), (show ¬ 24 = 22 by omega), (show ¬ 24 = 23 by omega)]
theorem dw_cu0 : db_cu g 0 (g 0 + nI 0) = g := by
  funext j
  unfold db_cu
  by_cases e : j = 0
  · subst e
    rw [if_pos rfl]
    exact Int32.add_zero _
  · rw [if_neg e]
/-- a repeated body begins -/
theorem dw_196r {a l : Nat} (h : dw_Rc U s0 w c g sd s) (ha : a < 60) (h0 : s.1 (85 + a) 0 = nI 23) (h4 : s.1 (85 + a) 4 = nI l) : dz_T (db_f196 s (nI a)) (fun z => z.1 = nI (a + 1) ∧ dw_Rc U s0 w c g sd z.2 ∧ ∀ b, 287 ≤ b → b ≤ 290 → z.2.1 b = (db_uI s 290 a (nI l)).1 b) := by
  have h' : dw_Rc U s0 w c g sd (db_uI s 290 a (nI l)) := ⟨db_B1_c (fun a q1 q2 q3 => db_uI_n (by omega)) rfl h.1, by rw [db_uI_n (by decide)]; exact h.2.1, fun j hj => by rw [db_uI_n (by decide)]; exact h.2.2.1 j hj, db_Ed_u h.2.2.2 (.inl (by unfold db_ec; omega))⟩
  unfold db_f196
  simp (disch := omega) only [db_lit, eq_self, db_pI_e, db_pL_e, db_bind_some, db_bd_some, nI_add, pk_mul, nI_toInt, db_m1_t, dz_cn, Int.ofNat_le, Int.ofNat_lt, decide_true, decide_false, db_ct, db_cf, not_true_eq_false, not_false_eq_true, db_87e, db_37e, db_31e, db_28e, db_281e, db_211e, db_27, db_269w, db_litL, pk_lT, db_iL, db_p0_e, db_p0_n, db_p0_j, db_sub1, nI_eq, if_true, if_false, Bool.false_eq_true, db_q_84, db_g_85, h0, (show ¬ 23 = 18 by omega), (show ¬ 23 = 19 by omega), (show ¬ 23 = 20 by omega), (show ¬ 23 = 21 by omega), (show ¬ 23 = 22 by omega), h4, db_h_290]
  refine db_T_mono (dw_196b (b := true) (v3 := nI 1) h' ha rfl) fun z hz => ?_
  obtain ⟨z1, z2, z3⟩ := hz
  rw [show (if true = true then nI 0 else nI 1) = nI 0 from rfl, dw_cu0] at z2
  exact ⟨z1, z2, z3⟩
end DBCW
