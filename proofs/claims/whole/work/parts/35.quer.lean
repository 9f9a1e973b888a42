/-! THE CALLS THAT CHANGE NOTHING: one row a call (k: the law's case) -/
/-- likewise, where the class's method writes nothing -/
def db_G0 {β : Type} (U : Nat) (s : db_S) (f : db_S → Option β) (g : db_S → Option (β × db_S)) : Prop := ∃ v s2, f s = some v ∧ g s = some (v, s2) ∧ db_Inv U s2
theorem db_Inv_th {U : Nat} {s : db_S} (hI : db_Inv U s) : db_Inv U (db_uI s 669 1 (nI 0)) := by
  refine db_Inv_c hI (fun a j he n1 n2 => ⟨?_, rfl⟩) ?_
  · rw [db_uI_if, if_neg ?_]
    rintro ⟨rfl, rfl⟩
    unfold db_es db_em at he
    omega
  · rw [db_uI_n (by decide), db_uI_j (by decide)]
    exact hI.1
section DBQ1
variable {U : Nat} {s : db_S} {v x y z : Int32}
theorem db_k0 (hI : db_Inv U s) : db_G0 U s (fun s => db_f22 s) (fun s => db_f207 s) :=
  ⟨_, _, rfl, by rw [hI.1]; unfold db_f207; simp (disch := omega) only [db_lit, eq_self, db_pI_e, db_pL_e, db_bind_some, db_bd_some, nI_add, pk_mul, nI_toInt, db_m1_t, dz_cn, Int.ofNat_le, Int.ofNat_lt, decide_true, decide_false, db_ct, db_cf, not_true_eq_false, not_false_eq_true]; rw [db_uI_j (by decide)], db_Inv_th hI⟩
theorem db_k1 (hI : db_Inv U s) : db_G0 U s (fun s => db_f23 s) (fun s => db_f208 s) :=
  ⟨_, _, rfl, by rw [hI.2.1.1]; rfl, db_Inv_th hI⟩
theorem db_k2 (hI : db_Inv U s) : db_G0 U s (fun s => db_f24 s) (fun s => db_f209 s) :=
  ⟨_, _, rfl, by rw [hI.2.1.2]; rfl, db_Inv_th hI⟩
theorem db_k10 (hI : db_Inv U s) : db_G0 U s (fun s => db_f98 s v) (fun s => db_f220 s v) := by
  obtain ⟨e1, e2⟩ := hI.2.2.2.2.1
  by_cases h0 : v = nI 0
  · refine ⟨s.1 13 2, _, ?_, ?_, db_Inv_th hI⟩
    · unfold db_f98; simp (disch := omega) only [db_lit, eq_self, db_pI_e, db_pL_e, db_bind_some, db_bd_some, nI_add, pk_mul, nI_toInt, db_m1_t, dz_cn, Int.ofNat_le, Int.ofNat_lt, decide_true, decide_false, db_ct, db_cf, not_true_eq_false, not_false_eq_true, h0]
    · unfold db_f220; simp (disch := omega) only [db_lit, eq_self, db_pI_e, db_pL_e, db_bind_some, db_bd_some, nI_add, pk_mul, nI_toInt, db_m1_t, dz_cn, Int.ofNat_le, Int.ofNat_lt, decide_true, decide_false, db_ct, db_cf, not_true_eq_false, not_false_eq_true, h0]; rw [db_uI_j (by decide), e1]
  · by_cases h1 : v = nI 1
    · refine ⟨s.1 13 3, _, ?_, ?_, db_Inv_th hI⟩
      · unfold db_f98; simp (disch := omega) only [db_lit, eq_self, db_pI_e, db_pL_e, db_bind_some, db_bd_some, nI_add, pk_mul, nI_toInt, db_m1_t, dz_cn, Int.ofNat_le, Int.ofNat_lt, decide_true, decide_false, db_ct, db_cf, not_true_eq_false, not_false_eq_true, h0, h1]
      · unfold db_f220; simp (disch := omega) only [db_lit, eq_self, db_pI_e, db_pL_e, db_bind_some, db_bd_some, nI_add, pk_mul, nI_toInt, db_m1_t, dz_cn, Int.ofNat_le, Int.ofNat_lt, decide_true, decide_false, db_ct, db_cf, not_true_eq_false, not_false_eq_true, h0, h1]; rw [db_uI_j (by decide), e2]
    · refine ⟨-(nI 1), _, ?_, ?_, db_Inv_th hI⟩
      · unfold db_f98; simp (disch := omega) only [db_lit, eq_self, db_pI_e, db_pL_e, db_bind_some, db_bd_some, nI_add, pk_mul, nI_toInt, db_m1_t, dz_cn, Int.ofNat_le, Int.ofNat_lt, decide_true, decide_false, db_ct, db_cf, not_true_eq_false, not_false_eq_true, h0, h1]
      · unfold db_f220; simp (disch := omega) only [db_lit, eq_self, db_pI_e, db_pL_e, db_bind_some, db_bd_some, nI_add, pk_mul, nI_toInt, db_m1_t, dz_cn, Int.ofNat_le, Int.ofNat_lt, decide_true, decide_false, db_ct, db_cf, not_true_eq_false, not_false_eq_true, h0, h1]
theorem db_ch_e {c : db_C} {w : Nat → Int64} (hR : db_BR 20 s c w) (hO : db_Ok U c) : db_f100_20 s = some (db_ch c (db_n c 5)) := by
  have hK := db_Ok_K hO (show 5 < 6 by omega)
  have h8 := hK.2
  unfold db_f100_20
  refine db_fold (L := fun n v k => db_f100_20_b4 s n v (nI k)) (N := db_n c 5) (db_ch c) (fun n => ?_) (fun n k hk => ?_) (n := db_FU) (by unfold db_FU; omega)
  · show db_f100_20_b4 s (n + 1) _ (nI (db_n c 5)) = _
    rw [db_f100_20_b4]
    simp (disch := omega) only [db_lit, eq_self, db_pI_e, db_pL_e, db_bind_some, db_bd_some, nI_add, pk_mul, nI_toInt, db_m1_t, dz_cn, Int.ofNat_le, Int.ofNat_lt, decide_true, decide_false, db_ct, db_cf, not_true_eq_false, not_false_eq_true, db_g_21, db_21 hR, hK.1, Nat.le_refl]
  · show db_f100_20_b4 s (n + 1) _ (nI k) = db_f100_20_b4 s n (db_ch c k + c (143 + k)) (nI (k + 1))
    rw [db_f100_20_b4]
    have h3 : ¬ db_n c 5 ≤ k := by omega
    have h5 := hO.1.2.2.2.2.2.2
    simp (disch := omega) only [db_lit, eq_self, db_pI_e, db_pL_e, db_bind_some, db_bd_some, nI_add, pk_mul, nI_toInt, db_m1_t, dz_cn, Int.ofNat_le, Int.ofNat_lt, decide_true, decide_false, db_ct, db_cf, not_true_eq_false, not_false_eq_true, db_g_21, db_21 hR, hK.1, h3, db_g_61, (db_59 hR hk).2.2.1]
theorem db_ch_m {c : db_C} (hc : db_A s c) (hO : db_Ok U c) : db_f282 s = some (db_ch c (db_n c 5)) := by
  have hK := db_Ok_K hO (show 5 < 6 by omega)
  have h8 := hK.2
  unfold db_f282
  refine db_fold (L := fun n v k => db_f282_b4 s n v (nI k)) (N := db_n c 5) (db_ch c) (fun n => ?_) (fun n k hk => ?_) (n := db_FU) (by unfold db_FU; omega)
  · show db_f282_b4 s (n + 1) _ (nI (db_n c 5)) = _
    rw [db_f282_b4]
    simp (disch := omega) only [db_lit, eq_self, db_pI_e, db_pL_e, db_bind_some, db_bd_some, nI_add, pk_mul, nI_toInt, db_m1_t, dz_cn, Int.ofNat_le, Int.ofNat_lt, decide_true, decide_false, db_ct, db_cf, not_true_eq_false, not_false_eq_true, db_g_674, hc, hK.1, Nat.le_refl]
  · show db_f282_b4 s (n + 1) _ (nI k) = db_f282_b4 s n (db_ch c k + c (143 + k)) (nI (k + 1))
    rw [db_f282_b4]
    have h3 : ¬ db_n c 5 ≤ k := by omega
    simp (disch := omega) only [db_lit, eq_self, db_pI_e, db_pL_e, db_bind_some, db_bd_some, nI_add, pk_mul, nI_toInt, db_m1_t, dz_cn, Int.ofNat_le, Int.ofNat_lt, decide_true, decide_false, db_ct, db_cf, not_true_eq_false, not_false_eq_true, db_g_674, hc, hK.1, h3]
theorem db_k11 (hI : db_Inv U s) : dz_G U s (fun s => db_f99 s v) (fun s => db_f280 s v) := by
  obtain ⟨hO, hR, -⟩ := db_cur hI
  by_cases h : db_wi v ((0 : Nat) : Int) ((9 : Nat) : Int) = true
  · obtain ⟨k, hk, -, rfl⟩ := db_wi_t (by decide) (by decide) h
    rcases (by omega : k < 6 ∨ k = 6 ∨ k = 7 ∨ k = 8 ∨ k = 9) with e | e | e | e | e
    · have n6 : ¬ k = 6 := by omega
      have n7 : ¬ k = 7 := by omega
      have n8 : ¬ k = 8 := by omega
      have n9 : ¬ k = 9 := by omega
      have m6 : ¬ 6 ≤ k := by omega
      refine db_Gy (db_bk s 0 k) hI ?_ fun s1 hS hA => ?_
      · unfold db_f99
        simp (disch := omega) only [db_lit, eq_self, db_pI_e, db_pL_e, db_bind_some, db_bd_some, nI_add, pk_mul, nI_toInt, db_m1_t, dz_cn, Int.ofNat_le, Int.ofNat_lt, decide_true, decide_false, db_ct, db_cf, not_true_eq_false, not_false_eq_true, db_87e, db_37e, db_31e, db_28e, db_281e, db_211e, db_27, db_269w, db_litL, pk_lT, db_iL, db_p0_e, db_p0_n, db_p0_j, db_sub1, nI_eq, if_true, if_false, Bool.false_eq_true, h, n6, n7, n8, n9, db_g_21, db_21 hR]
      · unfold db_f280
        simp (disch := omega) only [db_lit, eq_self, db_pI_e, db_pL_e, db_bind_some, db_bd_some, nI_add, pk_mul, nI_toInt, db_m1_t, dz_cn, Int.ofNat_le, Int.ofNat_lt, decide_true, decide_false, db_ct, db_cf, not_true_eq_false, not_false_eq_true, db_87e, db_37e, db_31e, db_28e, db_281e, db_211e, db_27, db_269w, db_litL, pk_lT, db_iL, db_p0_e, db_p0_n, db_p0_j, db_sub1, nI_eq, if_true, if_false, Bool.false_eq_true, h, m6, db_g_674, hA]
    · subst e
      refine db_Gy (db_ch (db_bk s 0) (db_n (db_bk s 0) 5)) hI ?_ fun s1 hS hA => ?_
      · unfold db_f99
        simp (disch := omega) only [db_lit, eq_self, db_pI_e, db_pL_e, db_bind_some, db_bd_some, nI_add, pk_mul, nI_toInt, db_m1_t, dz_cn, Int.ofNat_le, Int.ofNat_lt, decide_true, decide_false, db_ct, db_cf, not_true_eq_false, not_false_eq_true, db_87e, db_37e, db_31e, db_28e, db_281e, db_211e, db_27, db_269w, db_litL, pk_lT, db_iL, db_p0_e, db_p0_n, db_p0_j, db_sub1, nI_eq, if_true, if_false, Bool.false_eq_true, h, db_ch_e hR hO]
      · unfold db_f280
        simp (disch := omega) only [db_lit, eq_self, db_pI_e, db_pL_e, db_bind_some, db_bd_some, nI_add, pk_mul, nI_toInt, db_m1_t, dz_cn, Int.ofNat_le, Int.ofNat_lt, decide_true, decide_false, db_ct, db_cf, not_true_eq_false, not_false_eq_true, db_87e, db_37e, db_31e, db_28e, db_281e, db_211e, db_27, db_269w, db_litL, pk_lT, db_iL, db_p0_e, db_p0_n, db_p0_j, db_sub1, nI_eq, if_true, if_false, Bool.false_eq_true, h, db_ch_m (db_p0_A hA) hO, Nat.le_refl]
    · subst e
      have m6 : 6 ≤ 7 := by omega
      refine db_Gy (db_bk s 0 6) hI ?_ fun s1 hS hA => ?_
      · unfold db_f99
        simp (disch := omega) only [db_lit, eq_self, db_pI_e, db_pL_e, db_bind_some, db_bd_some, nI_add, pk_mul, nI_toInt, db_m1_t, dz_cn, Int.ofNat_le, Int.ofNat_lt, decide_true, decide_false, db_ct, db_cf, not_true_eq_false, not_false_eq_true, db_87e, db_37e, db_31e, db_28e, db_281e, db_211e, db_27, db_269w, db_litL, pk_lT, db_iL, db_p0_e, db_p0_n, db_p0_j, db_sub1, nI_eq, if_true, if_false, Bool.false_eq_true, h, (db_802 hR).2, (show ¬ 7 = 6 by omega)]
      · unfold db_f280
        simp (disch := omega) only [db_lit, eq_self, db_pI_e, db_pL_e, db_bind_some, db_bd_some, nI_add, pk_mul, nI_toInt, db_m1_t, dz_cn, Int.ofNat_le, Int.ofNat_lt, decide_true, decide_false, db_ct, db_cf, not_true_eq_false, not_false_eq_true, db_87e, db_37e, db_31e, db_28e, db_281e, db_211e, db_27, db_269w, db_litL, pk_lT, db_iL, db_p0_e, db_p0_n, db_p0_j, db_sub1, nI_eq, if_true, if_false, Bool.false_eq_true, h, db_g_674, hA, m6, (show ¬ 7 = 6 by omega)]
    · subst e
      have m6 : 6 ≤ 8 := by omega
      refine db_Gq (db_fo (db_bk s 0)) (nI 0) hI ?_ fun s1 hS hA => ?_
      · unfold db_f99
        simp (disch := omega) only [db_lit, eq_self, db_pI_e, db_pL_e, db_bind_some, db_bd_some, nI_add, pk_mul, nI_toInt, db_m1_t, dz_cn, Int.ofNat_le, Int.ofNat_lt, decide_true, decide_false, db_ct, db_cf, not_true_eq_false, not_false_eq_true, db_87e, db_37e, db_31e, db_28e, db_281e, db_211e, db_27, db_269w, db_litL, pk_lT, db_iL, db_p0_e, db_p0_n, db_p0_j, db_sub1, nI_eq, if_true, if_false, Bool.false_eq_true, h, db_101 hR hO, (show ¬ 8 = 6 by omega), (show ¬ 8 = 7 by omega)]
        exact ⟨_, rfl, rfl, db_Sc_u db_Ec_r⟩
      · unfold db_f280
        simp (disch := omega) only [db_lit, eq_self, db_pI_e, db_pL_e, db_bind_some, db_bd_some, nI_add, pk_mul, nI_toInt, db_m1_t, dz_cn, Int.ofNat_le, Int.ofNat_lt, decide_true, decide_false, db_ct, db_cf, not_true_eq_false, not_false_eq_true, db_87e, db_37e, db_31e, db_28e, db_281e, db_211e, db_27, db_269w, db_litL, pk_lT, db_iL, db_p0_e, db_p0_n, db_p0_j, db_sub1, nI_eq, if_true, if_false, Bool.false_eq_true, h, m6, (show ¬ 8 = 6 by omega), (show ¬ 8 = 7 by omega)]
        refine db_T_gd (db_283 (db_p0_A hA) (db_Ok_K hO (by omega)) (db_Ok_K hO (by omega))) fun q s2 hq => ?_
        exact ⟨_, rfl, hq.1, db_Sm_0 (db_F1_Em hq.2 (fun j => by unfold db_em; omega))⟩
    · subst e
      have m6 : 6 ≤ 9 := by omega
      refine db_Gy (db_bk s 0 7) hI ?_ fun s1 hS hA => ?_
      · unfold db_f99
        simp (disch := omega) only [db_lit, eq_self, db_pI_e, db_pL_e, db_bind_some, db_bd_some, nI_add, pk_mul, nI_toInt, db_m1_t, dz_cn, Int.ofNat_le, Int.ofNat_lt, decide_true, decide_false, db_ct, db_cf, not_true_eq_false, not_false_eq_true, db_87e, db_37e, db_31e, db_28e, db_281e, db_211e, db_27, db_269w, db_litL, pk_lT, db_iL, db_p0_e, db_p0_n, db_p0_j, db_sub1, nI_eq, if_true, if_false, Bool.false_eq_true, h, (db_802 hR).1, (show ¬ 9 = 6 by omega), (show ¬ 9 = 7 by omega), (show ¬ 9 = 8 by omega)]
      · unfold db_f280
        simp (disch := omega) only [db_lit, eq_self, db_pI_e, db_pL_e, db_bind_some, db_bd_some, nI_add, pk_mul, nI_toInt, db_m1_t, dz_cn, Int.ofNat_le, Int.ofNat_lt, decide_true, decide_false, db_ct, db_cf, not_true_eq_false, not_false_eq_true, db_87e, db_37e, db_31e, db_28e, db_281e, db_211e, db_27, db_269w, db_litL, pk_lT, db_iL, db_p0_e, db_p0_n, db_p0_j, db_sub1, nI_eq, if_true, if_false, Bool.false_eq_true, h, db_g_674, hA, m6, (show ¬ 9 = 6 by omega), (show ¬ 9 = 7 by omega), (show ¬ 9 = 8 by omega)]
  · rw [Bool.not_eq_true] at h
    refine db_Gn 5 hI ?_ fun s1 hS hA => ?_
    · unfold db_f99
      simp (disch := omega) only [db_lit, eq_self, db_pI_e, db_pL_e, db_bind_some, db_bd_some, nI_add, pk_mul, nI_toInt, db_m1_t, dz_cn, Int.ofNat_le, Int.ofNat_lt, decide_true, decide_false, db_ct, db_cf, not_true_eq_false, not_false_eq_true, db_87e, db_37e, db_31e, db_28e, db_281e, db_211e, db_27, db_269w, db_litL, pk_lT, db_iL, db_p0_e, db_p0_n, db_p0_j, db_sub1, nI_eq, if_true, if_false, Bool.false_eq_true, h]
    · unfold db_f280
      simp (disch := omega) only [db_lit, eq_self, db_pI_e, db_pL_e, db_bind_some, db_bd_some, nI_add, pk_mul, nI_toInt, db_m1_t, dz_cn, Int.ofNat_le, Int.ofNat_lt, decide_true, decide_false, db_ct, db_cf, not_true_eq_false, not_false_eq_true, db_87e, db_37e, db_31e, db_28e, db_281e, db_211e, db_27, db_269w, db_litL, pk_lT, db_iL, db_p0_e, db_p0_n, db_p0_j, db_sub1, nI_eq, if_true, if_false, Bool.false_eq_true, h]
end DBQ1
