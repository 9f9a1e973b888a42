/-! THE CALLS THAT CHANGE NOTHING: one row a call (k: the law's case) -/
/-- likewise, where the class's method writes nothing -/
def db_G0 {β : Type} (U : Nat) (s : db_S) (f : db_S → Option β) (g : db_S → Option (β × db_S)) : Prop := ∃ v s2, f s = some v ∧ g s = some (v, s2) ∧ db_Inv U s2
theorem db_Inv_th {U : Nat} {s : db_S} (hI : db_Inv U s) : db_Inv U (db_uI s 669 1 (nI 0)) := by
  refine db_Inv_c hI (fun a j he n1 n2 => ⟨?_, rfl⟩) ?_
  · rw [db_uI_if, if_neg ?_]
    rintro ⟨rfl, rfl⟩
    unfold db_es db_em at he
    omega
  · rw [db_uI_n (by decide), db_uI_j (by decide)]
    exact hI.1
section DBQ1
variable {U : Nat} {s : db_S} {v x y z : Int32}
theorem db_k0 (hI : db_Inv U s) : db_G0 U s (fun s => db_f22 s) (fun s => db_f207 s) :=
  ⟨_, _, rfl, by rw [hI.1]; unfold db_f207; simp (disch := omega) only [db_lit, eq_self, db_pI_e, db_pL_e, db_bind_some, db_bd_some, nI_add, pk_mul, nI_toInt, db_m1_t, dz_cn, Int.ofNat_le, Int.ofNat_lt, decide_true, decide_false, db_ct, db_cf, not_true_eq_false, not_false_eq_true]; rw [db_uI_j (by decide)], db_Inv_th hI⟩
theorem db_k1 (hI : db_Inv U s) : db_G0 U s (fun s => db_f23 s) (fun s => db_f208 s) :=
  ⟨_, _, rfl, by rw [hI.2.1.1]; rfl, db_Inv_th hI⟩
theorem db_k2 (hI : db_Inv U s) : db_G0 U s (fun s => db_f24 s) (fun s => db_f209 s) :=
  ⟨_, _, rfl, by rw [hI.2.1.2]; rfl, db_Inv_th hI⟩
theorem db_k10 (hI : db_Inv U s) : db_G0 U s (fun s => db_f98 s v) (fun s => db_f220 s v) := by
  obtain ⟨e1, e2⟩ := hI.2.2.2.2.1
  by_cases h0 : v = nI 0
  · refine ⟨s.1 13 2, _, ?_, ?_, db_Inv_th hI⟩
    · unfold db_f98; simp (disch := omega) only [db_lit, eq_self, db_pI_e, db_pL_e, db_bind_some, db_bd_some, nI_add, pk_mul, nI_toInt, db_m1_t, dz_cn, Int.ofNat_le, Int.ofNat_lt, decide_true, decide_false, db_ct, db_cf, not_true_eq_false, not_false_eq_true, h0]
    · unfold db_f220; simp (disch := omega) only [db_lit, eq_self, db_pI_e, db_pL_e, db_bind_some, db_bd_some, nI_add, pk_mul, nI_toInt, db_m1_t, dz_cn, Int.ofNat_le, Int.ofNat_lt, decide_true, decide_false, db_ct, db_cf, not_true_eq_false, not_false_eq_true, h0]; rw [db_uI_j (by decide), e1]
  · by_cases h1 : v = nI 1
    · subst h1
      refine ⟨s.1 13 3, _, ?_, ?_, db_Inv_th hI⟩
      · unfold db_f98; simp (disch := omega) only [db_lit, eq_self, db_pI_e, db_pL_e, db_bind_some, db_bd_some, nI_add, pk_mul, nI_toInt, db_m1_t, dz_cn, Int.ofNat_le, Int.ofNat_lt, decide_true, decide_false, db_ct, db_cf, not_true_eq_false, not_false_eq_true, h0]
      · unfold db_f220; simp (disch := omega) only [db_lit, eq_self, db_pI_e, db_pL_e, db_bind_some, db_bd_some, nI_add, pk_mul, nI_toInt, db_m1_t, dz_cn, Int.ofNat_le, Int.ofNat_lt, decide_true, decide_false, db_ct, db_cf, not_true_eq_false, not_false_eq_true, h0]; rw [db_uI_j (by decide), e2]
    · refine ⟨-(nI 1), _, ?_, ?_, db_Inv_th hI⟩
      · unfold db_f98; simp (disch := omega) only [db_lit, eq_self, db_pI_e, db_pL_e, db_bind_some, db_bd_some, nI_add, pk_mul, nI_toInt, db_m1_t, dz_cn, Int.ofNat_le, Int.ofNat_lt, decide_true, decide_false, db_ct, db_cf, not_true_eq_false, not_false_eq_true, h0, h1]
      · unfold db_f220; simp (disch := omega) only [db_lit, eq_self, db_pI_e, db_pL_e, db_bind_some, db_bd_some, nI_add, pk_mul, nI_toInt, db_m1_t, dz_cn, Int.ofNat_le, Int.ofNat_lt, decide_true, decide_false, db_ct, db_cf, not_true_eq_false, not_false_eq_true, h0, h1]
theorem db_ch_e {c : db_C} {w : Nat → Int64} (hR : db_BR 20 s c w) (hO : db_Ok U c) : db_f100_20 s = some (db_ch c (db_n c 5)) := by
  have hK := db_Ok_K hO (show 5 < 6 by omega)
  have h8 := hK.2
  unfold db_f100_20
  refine db_fold (L := fun n v k => db_f100_20_b4 s n v (nI k)) (N := db_n c 5) (db_ch c) (fun n => ?_) (fun n k hk => ?_) (n := db_FU) (by unfold db_FU; omega)
  · show db_f100_20_b4 s (n + 1) _ (nI (db_n c 5)) = _
    rw [db_f100_20_b4]
    simp (disch := omega) only [db_lit, eq_self, db_pI_e, db_pL_e, db_bind_some, db_bd_some, nI_add, pk_mul, nI_toInt, db_m1_t, dz_cn, Int.ofNat_le, Int.ofNat_lt, decide_true, decide_false, db_ct, db_cf, not_true_eq_false, not_false_eq_true, db_g_21, db_21 hR, hK.1, Nat.le_refl]
  · show db_f100_20_b4 s (n + 1) _ (nI k) = db_f100_20_b4 s n (db_ch c k + c (143 + k)) (nI (k + 1))
    rw [db_f100_20_b4]
    have h3 : ¬ db_n c 5 ≤ k := by omega
    have h5 := hO.1.2.2.2.2.2.2
    simp (disch := omega) only [db_lit, eq_self, db_pI_e, db_pL_e, db_bind_some, db_bd_some, nI_add, pk_mul, nI_toInt, db_m1_t, dz_cn, Int.ofNat_le, Int.ofNat_lt, decide_true, decide_false, db_ct, db_cf, not_true_eq_false, not_false_eq_true, db_g_21, db_21 hR, hK.1, h3, db_g_61, (db_59 hR hk).2.2.1]
theorem db_ch_m {c : db_C} (hc : db_A s c) (hO : db_Ok U c) : db_f282 s = some (db_ch c (db_n c 5)) := by
  have hK := db_Ok_K hO (show 5 < 6 by omega)
  have h8 := hK.2
  unfold db_f282
  refine db_fold (L := fun n v k => db_f282_b4 s n v (nI k)) (N := db_n c 5) (db_ch c) (fun n => ?_) (fun n k hk => ?_) (n := db_FU) (by unfold db_FU; omega)
  · show db_f282_b4 s (n + 1) _ (nI (db_n c 5)) = _
    rw [db_f282_b4]
    simp (disch := omega) only [db_lit, eq_self, db_pI_e, db_pL_e, db_bind_some, db_bd_some, nI_add, pk_mul, nI_toInt, db_m1_t, dz_cn, Int.ofNat_le, Int.ofNat_lt, decide_true, decide_false, db_ct, db_cf, not_true_eq_false, not_false_eq_true, db_g_674, hc, hK.1, Nat.le_refl]
  · show db_f282_b4 s (n + 1) _ (nI k) = db_f282_b4 s n (db_ch c k + c (143 + k)) (nI (k + 1))
    rw [db_f282_b4]
    have h3 : ¬ db_n c 5 ≤ k := by omega
    simp (disch := omega) only [db_lit, eq_self, db_pI_e, db_pL_e, db_bind_some, db_bd_some, nI_add, pk_mul, nI_toInt, db_m1_t, dz_cn, Int.ofNat_le, Int.ofNat_lt, decide_true, decide_false, db_ct, db_cf, not_true_eq_false, not_false_eq_true, db_g_674, hc, hK.1, h3]
theorem db_k11 (hI : db_Inv U s) : dz_G U s (fun s => db_f99 s v) (fun s => db_f280 s v) := by
  obtain ⟨hO, hR, -⟩ := db_cur hI
  by_cases h : db_wi v ((0 : Nat) : Int) ((9 : Nat) : Int) = true
  · obtain ⟨k, hk, -, rfl⟩ := db_wi_t (by decide) (by decide) h
    rcases (by omega : k < 6 ∨ k = 6 ∨ k = 7 ∨ k = 8 ∨ k = 9) with e | e | e | e | e
    · have n6 : ¬ k = 6 := by omega
      have n7 : ¬ k = 7 := by omega
      have n8 : ¬ k = 8 := by omega
      have n9 : ¬ k = 9 := by omega
      have m6 : ¬ 6 ≤ k := by omega
      refine db_Gy (db_bk s 0 k) hI ?_ fun s1 hS hA => ?_
      · unfold db_f99
        simp (disch := omega) only [db_lit, eq_self, db_pI_e, db_pL_e, db_bind_some, db_bd_some, nI_add, pk_mul, nI_toInt, db_m1_t, dz_cn, Int.ofNat_le, Int.ofNat_lt, decide_true, decide_false, db_ct, db_cf, not_true_eq_false, not_false_eq_true, db_87e, db_37e, db_31e, db_28e, db_281e, db_211e, db_27, db_269w, db_litL, pk_lT, db_iL, db_p0_e, db_p0_n, db_p0_j, db_sub1, nI_eq, if_true, if_false, Bool.false_eq_true, h, n6, n7, n8, n9, db_g_21, db_21 hR]
      · unfold db_f280
        simp (disch := omega) only [db_lit, eq_self, db_pI_e, db_pL_e, db_bind_some, db_bd_some, nI_add, pk_mul, nI_toInt, db_m1_t, dz_cn, Int.ofNat_le, Int.ofNat_lt, decide_true, decide_false, db_ct, db_cf, not_true_eq_false, not_false_eq_true, db_87e, db_37e, db_31e, db_28e, db_281e, db_211e, db_27, db_269w, db_litL, pk_lT, db_iL, db_p0_e, db_p0_n, db_p0_j, db_sub1, nI_eq, if_true, if_false, Bool.false_eq_true, h, m6, db_g_674, hA]
    · subst e
      refine db_Gy (db_ch (db_bk s 0) (db_n (db_bk s 0) 5)) hI ?_ fun s1 hS hA => ?_
      · unfold db_f99
        simp (disch := omega) only [db_lit, eq_self, db_pI_e, db_pL_e, db_bind_some, db_bd_some, nI_add, pk_mul, nI_toInt, db_m1_t, dz_cn, Int.ofNat_le, Int.ofNat_lt, decide_true, decide_false, db_ct, db_cf, not_true_eq_false, not_false_eq_true, db_87e, db_37e, db_31e, db_28e, db_281e, db_211e, db_27, db_269w, db_litL, pk_lT, db_iL, db_p0_e, db_p0_n, db_p0_j, db_sub1, nI_eq, if_true, if_false, Bool.false_eq_true, h, db_ch_e hR hO]
      · unfold db_f280
        simp (disch := omega) only [db_lit, eq_self, db_pI_e, db_pL_e, db_bind_some, db_bd_some, nI_add, pk_mul, nI_toInt, db_m1_t, dz_cn, Int.ofNat_le, Int.ofNat_lt, decide_true, decide_false, db_ct, db_cf, not_true_eq_false, not_false_eq_true, db_87e, db_37e, db_31e, db_28e, db_281e, db_211e, db_27, db_269w, db_litL, pk_lT, db_iL, db_p0_e, db_p0_n, db_p0_j, db_sub1, nI_eq, if_true, if_false, Bool.false_eq_true, h, db_ch_m (db_p0_A hA) hO, Nat.le_refl]
    · subst e
      have m6 : 6 ≤ 7 := by omega
      refine db_Gy (db_bk s 0 6) hI ?_ fun s1 hS hA => ?_
      · unfold db_f99
        simp (disch := omega) only [db_lit, eq_self, db_pI_e, db_pL_e, db_bind_some, db_bd_some, nI_add, pk_mul, nI_toInt, db_m1_t, dz_cn, Int.ofNat_le, Int.ofNat_lt, decide_true, decide_false, db_ct, db_cf, not_true_eq_false, not_false_eq_true, db_87e, db_37e, db_31e, db_28e, db_281e, db_211e, db_27, db_269w, db_litL, pk_lT, db_iL, db_p0_e, db_p0_n, db_p0_j, db_sub1, nI_eq, if_true, if_false, Bool.false_eq_true, h, (db_802 hR).2, (show ¬ 7 = 6 by omega)]
      · unfold db_f280
        simp (disch := omega) only [db_lit, eq_self, db_pI_e, db_pL_e, db_bind_some, db_bd_some, nI_add, pk_mul, nI_toInt, db_m1_t, dz_cn, Int.ofNat_le, Int.ofNat_lt, decide_true, decide_false, db_ct, db_cf, not_true_eq_false, not_false_eq_true, db_87e, db_37e, db_31e, db_28e, db_281e, db_211e, db_27, db_269w, db_litL, pk_lT, db_iL, db_p0_e, db_p0_n, db_p0_j, db_sub1, nI_eq, if_true, if_false, Bool.false_eq_true, h, db_g_674, hA, m6, (show ¬ 7 = 6 by omega)]
    · subst e
      have m6 : 6 ≤ 8 := by omega
      refine db_Gq (db_fo (db_bk s 0)) (nI 0) hI ?_ fun s1 hS hA => ?_
      · unfold db_f99
        simp (disch := omega) only [db_lit, eq_self, db_pI_e, db_pL_e, db_bind_some, db_bd_some, nI_add, pk_mul, nI_toInt, db_m1_t, dz_cn, Int.ofNat_le, Int.ofNat_lt, decide_true, decide_false, db_ct, db_cf, not_true_eq_false, not_false_eq_true, db_87e, db_37e, db_31e, db_28e, db_281e, db_211e, db_27, db_269w, db_litL, pk_lT, db_iL, db_p0_e, db_p0_n, db_p0_j, db_sub1, nI_eq, if_true, if_false, Bool.false_eq_true, h, db_101 hR hO, (show ¬ 8 = 6 by omega), (show ¬ 8 = 7 by omega)]
        exact ⟨_, rfl, rfl, db_Sc_u db_Ec_r⟩
      · unfold db_f280
        simp (disch := omega) only [db_lit, eq_self, db_pI_e, db_pL_e, db_bind_some, db_bd_some, nI_add, pk_mul, nI_toInt, db_m1_t, dz_cn, Int.ofNat_le, Int.ofNat_lt, decide_true, decide_false, db_ct, db_cf, not_true_eq_false, not_false_eq_true, db_87e, db_37e, db_31e, db_28e, db_281e, db_211e, db_27, db_269w, db_litL, pk_lT, db_iL, db_p0_e, db_p0_n, db_p0_j, db_sub1, nI_eq, if_true, if_false, Bool.false_eq_true, h, m6, (show ¬ 8 = 6 by omega), (show ¬ 8 = 7 by omega)]
        refine db_T_gd (db_283 (db_p0_A hA) (db_Ok_K hO (by omega)) (db_Ok_K hO (by omega))) fun q s2 hq => ?_
        exact ⟨_, rfl, hq.1, db_Sm_0 (db_F1_Em hq.2 (fun j => by unfold db_em; omega))⟩
    · subst e
      have m6 : 6 ≤ 9 := by omega
      refine db_Gy (db_bk s 0 7) hI ?_ fun s1 hS hA => ?_
      · unfold db_f99
        simp (disch := omega) only [db_lit, eq_self, db_pI_e, db_pL_e, db_bind_some, db_bd_some, nI_add, pk_mul, nI_toInt, db_m1_t, dz_cn, Int.ofNat_le, Int.ofNat_lt, decide_true, decide_false, db_ct, db_cf, not_true_eq_false, not_false_eq_true, db_87e, db_37e, db_31e, db_28e, db_281e, db_211e, db_27, db_269w, db_litL, pk_lT, db_iL, db_p0_e, db_p0_n, db_p0_j, db_sub1, nI_eq, if_true, if_false, Bool.false_eq_true, h, (db_802 hR).1, (show ¬ 9 = 6 by omega), (show ¬ 9 = 7 by omega), (show ¬ 9 = 8 by omega)]
      · unfold db_f280
        simp (disch := omega) only [db_lit, eq_self, db_pI_e, db_pL_e, db_bind_some, db_bd_some, nI_add, pk_mul, nI_toInt, db_m1_t, dz_cn, Int.ofNat_le, Int.ofNat_lt, decide_true, decide_false, db_ct, db_cf, not_true_eq_false, not_false_eq_true, db_87e, db_37e, db_31e, db_28e, db_281e, db_211e, db_27, db_269w, db_litL, pk_lT, db_iL, db_p0_e, db_p0_n, db_p0_j, db_sub1, nI_eq, if_true, if_false, Bool.false_eq_true, h, db_g_674, hA, m6, (show ¬ 9 = 6 by omega), (show ¬ 9 = 7 by omega), (show ¬ 9 = 8 by omega)]
  · rw [Bool.not_eq_true] at h
    refine db_Gn 5 hI ?_ fun s1 hS hA => ?_
    · unfold db_f99
      simp (disch := omega) only [db_lit, eq_self, db_pI_e, db_pL_e, db_bind_some, db_bd_some, nI_add, pk_mul, nI_toInt, db_m1_t, dz_cn, Int.ofNat_le, Int.ofNat_lt, decide_true, decide_false, db_ct, db_cf, not_true_eq_false, not_false_eq_true, db_87e, db_37e, db_31e, db_28e, db_281e, db_211e, db_27, db_269w, db_litL, pk_lT, db_iL, db_p0_e, db_p0_n, db_p0_j, db_sub1, nI_eq, if_true, if_false, Bool.false_eq_true, h]
    · unfold db_f280
      simp (disch := omega) only [db_lit, eq_self, db_pI_e, db_pL_e, db_bind_some, db_bd_some, nI_add, pk_mul, nI_toInt, db_m1_t, dz_cn, Int.ofNat_le, Int.ofNat_lt, decide_true, decide_false, db_ct, db_cf, not_true_eq_false, not_false_eq_true, db_87e, db_37e, db_31e, db_28e, db_281e, db_211e, db_27, db_269w, db_litL, pk_lT, db_iL, db_p0_e, db_p0_n, db_p0_j, db_sub1, nI_eq, if_true, if_false, Bool.false_eq_true, h]
theorem db_k12 (hI : db_Inv U s) (hU : U ≤ 1000000000) : dz_G U s (fun s => db_f102 s x y) (fun s => db_f288 s x y) := by
  obtain ⟨hO, hR, -⟩ := db_cur hI
  have k3 := db_Ok_K hO (show 3 < 6 by omega)
  cases h : db_is x (db_n (db_bk s 0) 3) with
  | false =>
    refine db_Gn 2 hI ?_ fun s1 hS hA => ?_
    · unfold db_f102
      simp (disch := omega) only [db_lit, eq_self, db_pI_e, db_pL_e, db_bind_some, db_bd_some, nI_add, pk_mul, nI_toInt, db_m1_t, dz_cn, Int.ofNat_le, Int.ofNat_lt, decide_true, decide_false, db_ct, db_cf, not_true_eq_false, not_false_eq_true, db_87e, db_37e, db_31e, db_28e, db_281e, db_211e, db_27, db_269w, db_litL, pk_lT, db_iL, db_p0_e, db_p0_n, db_p0_j, db_sub1, nI_eq, if_true, if_false, Bool.false_eq_true, db_103 hR hO, h]
    · unfold db_f288
      simp (disch := omega) only [db_lit, eq_self, db_pI_e, db_pL_e, db_bind_some, db_bd_some, nI_add, pk_mul, nI_toInt, db_m1_t, dz_cn, Int.ofNat_le, Int.ofNat_lt, decide_true, decide_false, db_ct, db_cf, not_true_eq_false, not_false_eq_true, db_87e, db_37e, db_31e, db_28e, db_281e, db_211e, db_27, db_269w, db_litL, pk_lT, db_iL, db_p0_e, db_p0_n, db_p0_j, db_sub1, nI_eq, if_true, if_false, Bool.false_eq_true, db_289 (db_p0_A hA) k3, h]
  | true =>
    obtain ⟨r, hr, rfl⟩ := db_is_t h
    have k12 := k3.2
    cases hw : db_wi y ((0 : Nat) : Int) ((7 : Nat) : Int) with
    | false =>
      refine db_Gn 5 hI ?_ fun s1 hS hA => ?_
      · unfold db_f102
        simp (disch := omega) only [db_lit, eq_self, db_pI_e, db_pL_e, db_bind_some, db_bd_some, nI_add, pk_mul, nI_toInt, db_m1_t, dz_cn, Int.ofNat_le, Int.ofNat_lt, decide_true, decide_false, db_ct, db_cf, not_true_eq_false, not_false_eq_true, db_87e, db_37e, db_31e, db_28e, db_281e, db_211e, db_27, db_269w, db_litL, pk_lT, db_iL, db_p0_e, db_p0_n, db_p0_j, db_sub1, nI_eq, if_true, if_false, Bool.false_eq_true, db_103 hR hO, h, hw]
      · unfold db_f288
        simp (disch := omega) only [db_lit, eq_self, db_pI_e, db_pL_e, db_bind_some, db_bd_some, nI_add, pk_mul, nI_toInt, db_m1_t, dz_cn, Int.ofNat_le, Int.ofNat_lt, decide_true, decide_false, db_ct, db_cf, not_true_eq_false, not_false_eq_true, db_87e, db_37e, db_31e, db_28e, db_281e, db_211e, db_27, db_269w, db_litL, pk_lT, db_iL, db_p0_e, db_p0_n, db_p0_j, db_sub1, nI_eq, if_true, if_false, Bool.false_eq_true, db_289 (db_p0_A hA) k3, h, hw]
    | true =>
      obtain ⟨k, hk, -, rfl⟩ := db_wi_t (by decide) (by decide) hw
      obtain ⟨q0, q1, q2, q3, q4, q5⟩ := db_25 hR hr
      obtain ⟨⟨t, ht, et⟩, -, o1, o2, o3, o4, -⟩ := hO.2.1 r hr
      have hT := hO.1.1.2
      have hlit : ∀ a b, db_wi (nI a) ((2 : Nat) : Int) ((5 : Nat) : Int) = b → (decide (2 ≤ a) && decide (a ≤ 5)) = b ∨ 2 ^ 31 ≤ a := by
        intro a b e
        by_cases ha : a < 2 ^ 31
        · left
          rw [← e]
          unfold db_wi
          rw [nI_toInt ha]
          congr 1 <;> rw [decide_eq_decide] <;> omega
        · right; omega
      have w25 : db_wi (nI k) ((2 : Nat) : Int) ((5 : Nat) : Int) = (decide (2 ≤ k) && decide (k ≤ 5)) := by
        rcases hlit k _ rfl with e | e
        · exact e.symm
        · omega
      rcases (by omega : k < 2 ∨ (2 ≤ k ∧ k < 6) ∨ k = 6 ∨ k = 7) with e | ⟨e, e'⟩ | e | e
      · have n6 : ¬ k = 6 := by omega
        have n7 : ¬ k = 7 := by omega
        have n2 : ¬ 2 ≤ k := by omega
        refine db_Gy (db_bk s 0 (19 + 12 * k + r)) hI ?_ fun s1 hS hA => ?_
        · have hv : s.1 (25 + r) k = db_bk s 0 (19 + 12 * k + r) := by
            rcases (by omega : k = 0 ∨ k = 1) with rfl | rfl
            · exact q0
            · exact q1
          unfold db_f102 db_f102_b99
          simp (disch := omega) only [db_lit, eq_self, db_pI_e, db_pL_e, db_bind_some, db_bd_some, nI_add, pk_mul, nI_toInt, db_m1_t, dz_cn, Int.ofNat_le, Int.ofNat_lt, decide_true, decide_false, db_ct, db_cf, not_true_eq_false, not_false_eq_true, db_87e, db_37e, db_31e, db_28e, db_281e, db_211e, db_27, db_269w, db_litL, pk_lT, db_iL, db_p0_e, db_p0_n, db_p0_j, db_sub1, nI_eq, if_true, if_false, Bool.false_eq_true, db_103 hR hO, h, hw, n6, n7, db_q_24, db_g_25, hv, e]
        · unfold db_f288 db_f288_b70
          simp (disch := omega) only [db_lit, eq_self, db_pI_e, db_pL_e, db_bind_some, db_bd_some, nI_add, pk_mul, nI_toInt, db_m1_t, dz_cn, Int.ofNat_le, Int.ofNat_lt, decide_true, decide_false, db_ct, db_cf, not_true_eq_false, not_false_eq_true, db_87e, db_37e, db_31e, db_28e, db_281e, db_211e, db_27, db_269w, db_litL, pk_lT, db_iL, db_p0_e, db_p0_n, db_p0_j, db_sub1, nI_eq, if_true, if_false, Bool.false_eq_true, db_289 (db_p0_A hA) k3, h, hw, n7, db_g_674, hA, w25, n2, Bool.false_and]
      · have n6 : ¬ k = 6 := by omega
        have n7 : ¬ k = 7 := by omega
        have n2 : ¬ k < 2 := by omega
        have e5 : k ≤ 5 := by omega
        have hv : s.1 (25 + r) k = db_bk s 0 (19 + 12 * k + r) := by
          rcases (by omega : k = 2 ∨ k = 3 ∨ k = 4 ∨ k = 5) with rfl | rfl | rfl | rfl
          · exact q2
          · exact q3
          · exact q4
          · exact q5
        have ho : db_O (db_bk s 0 (19 + 12 * k + r)) 10 := by
          have g : ∀ n, n ≤ 10 → ∀ v, db_O v n → db_O v 10 := by
            rintro n hn v (hv | ⟨j, hj, hv⟩)
            · exact .inl hv
            · exact .inr ⟨j, by omega, hv⟩
          have := hO.1.2.1.2
          have := hO.1.2.2.1.2
          rcases (by omega : k = 2 ∨ k = 3 ∨ k = 4 ∨ k = 5) with rfl | rfl | rfl | rfl
          · exact g _ hT _ o1
          · exact g _ hT _ o2
          · exact g _ (by omega) _ o3
          · exact g _ (by omega) _ o4
        rcases ho with ho | ⟨j, hj, ho⟩
        · refine db_Gn 8 hI ?_ fun s1 hS hA => ?_
          · unfold db_f102 db_f102_b99
            simp (disch := omega) only [db_lit, eq_self, db_pI_e, db_pL_e, db_bind_some, db_bd_some, nI_add, pk_mul, nI_toInt, db_m1_t, dz_cn, Int.ofNat_le, Int.ofNat_lt, decide_true, decide_false, db_ct, db_cf, not_true_eq_false, not_false_eq_true, db_87e, db_37e, db_31e, db_28e, db_281e, db_211e, db_27, db_269w, db_litL, pk_lT, db_iL, db_p0_e, db_p0_n, db_p0_j, db_sub1, nI_eq, if_true, if_false, Bool.false_eq_true, db_103 hR hO, h, hw, n6, n7, db_q_24, db_g_25, hv, n2, ho]
          · unfold db_f288 db_f288_b70
            simp (disch := omega) only [db_lit, eq_self, db_pI_e, db_pL_e, db_bind_some, db_bd_some, nI_add, pk_mul, nI_toInt, db_m1_t, dz_cn, Int.ofNat_le, Int.ofNat_lt, decide_true, decide_false, db_ct, db_cf, not_true_eq_false, not_false_eq_true, db_87e, db_37e, db_31e, db_28e, db_281e, db_211e, db_27, db_269w, db_litL, pk_lT, db_iL, db_p0_e, db_p0_n, db_p0_j, db_sub1, nI_eq, if_true, if_false, Bool.false_eq_true, db_289 (db_p0_A hA) k3, h, hw, n7, db_g_674, hA, w25, e, e5, Bool.and_self, ho]
            rfl
        · refine db_Gy (nI j) hI ?_ fun s1 hS hA => ?_
          · unfold db_f102 db_f102_b99
            simp (disch := omega) only [db_lit, eq_self, db_pI_e, db_pL_e, db_bind_some, db_bd_some, nI_add, pk_mul, nI_toInt, db_m1_t, dz_cn, Int.ofNat_le, Int.ofNat_lt, decide_true, decide_false, db_ct, db_cf, not_true_eq_false, not_false_eq_true, db_87e, db_37e, db_31e, db_28e, db_281e, db_211e, db_27, db_269w, db_litL, pk_lT, db_iL, db_p0_e, db_p0_n, db_p0_j, db_sub1, nI_eq, if_true, if_false, Bool.false_eq_true, db_103 hR hO, h, hw, n6, n7, db_q_24, db_g_25, hv, n2, ho, db_m1_ne]
          · unfold db_f288 db_f288_b70
            have h0 : 0 ≤ j := by omega
            simp (disch := omega) only [db_lit, eq_self, db_pI_e, db_pL_e, db_bind_some, db_bd_some, nI_add, pk_mul, nI_toInt, db_m1_t, dz_cn, Int.ofNat_le, Int.ofNat_lt, decide_true, decide_false, db_ct, db_cf, not_true_eq_false, not_false_eq_true, db_87e, db_37e, db_31e, db_28e, db_281e, db_211e, db_27, db_269w, db_litL, pk_lT, db_iL, db_p0_e, db_p0_n, db_p0_j, db_sub1, nI_eq, if_true, if_false, Bool.false_eq_true, db_289 (db_p0_A hA) k3, h, hw, n7, db_g_674, hA, w25, e, e5, Bool.and_self, ho, h0]
      · subst e
        refine db_Gy (db_bk s 0 (91 + r)) hI ?_ fun s1 hS hA => ?_
        · unfold db_f102 db_f102_b99
          simp (disch := omega) only [db_lit, eq_self, db_pI_e, db_pL_e, db_bind_some, db_bd_some, nI_add, pk_mul, nI_toInt, db_m1_t, dz_cn, Int.ofNat_le, Int.ofNat_lt, decide_true, decide_false, db_ct, db_cf, not_true_eq_false, not_false_eq_true, db_87e, db_37e, db_31e, db_28e, db_281e, db_211e, db_27, db_269w, db_litL, pk_lT, db_iL, db_p0_e, db_p0_n, db_p0_j, db_sub1, nI_eq, if_true, if_false, Bool.false_eq_true, db_103 hR hO, h, hw, db_g_81, db_81 hR hr]
        · unfold db_f288 db_f288_b70
          simp (disch := omega) only [db_lit, eq_self, db_pI_e, db_pL_e, db_bind_some, db_bd_some, nI_add, pk_mul, nI_toInt, db_m1_t, dz_cn, Int.ofNat_le, Int.ofNat_lt, decide_true, decide_false, db_ct, db_cf, not_true_eq_false, not_false_eq_true, db_87e, db_37e, db_31e, db_28e, db_281e, db_211e, db_27, db_269w, db_litL, pk_lT, db_iL, db_p0_e, db_p0_n, db_p0_j, db_sub1, nI_eq, if_true, if_false, Bool.false_eq_true, db_289 (db_p0_A hA) k3, h, hw, db_g_674, hA, w25, (show ¬ 6 = 7 by omega), (show ¬ 6 ≤ 5 by omega), Bool.and_false]
      · subst e
        refine db_Gy (db_wo (db_bk s 0) r) hI ?_ fun s1 hS hA => ?_
        · unfold db_f102 db_f102_b99
          simp (disch := omega) only [db_lit, eq_self, db_pI_e, db_pL_e, db_bind_some, db_bd_some, nI_add, pk_mul, nI_toInt, db_m1_t, dz_cn, Int.ofNat_le, Int.ofNat_lt, decide_true, decide_false, db_ct, db_cf, not_true_eq_false, not_false_eq_true, db_87e, db_37e, db_31e, db_28e, db_281e, db_211e, db_27, db_269w, db_litL, pk_lT, db_iL, db_p0_e, db_p0_n, db_p0_j, db_sub1, nI_eq, if_true, if_false, Bool.false_eq_true, db_103 hR hO, h, hw, (show ¬ 7 = 6 by omega), db_104 hR hO hU hr]
        · unfold db_f288 db_f288_b70
          simp (disch := omega) only [db_lit, eq_self, db_pI_e, db_pL_e, db_bind_some, db_bd_some, nI_add, pk_mul, nI_toInt, db_m1_t, dz_cn, Int.ofNat_le, Int.ofNat_lt, decide_true, decide_false, db_ct, db_cf, not_true_eq_false, not_false_eq_true, db_87e, db_37e, db_31e, db_28e, db_281e, db_211e, db_27, db_269w, db_litL, pk_lT, db_iL, db_p0_e, db_p0_n, db_p0_j, db_sub1, nI_eq, if_true, if_false, Bool.false_eq_true, db_289 (db_p0_A hA) k3, h, hw, db_290 (db_p0_A hA), w25, (show ¬ 7 ≤ 5 by omega), Bool.and_false]
theorem db_k13 (hI : db_Inv U s) : dz_G U s (fun s => db_f105 s x y) (fun s => db_f291 s x y) := by
  obtain ⟨hO, hR, -⟩ := db_cur hI
  have k1 := hO.1.2.1
  have k4 := k1.2
  cases h : db_is x (db_n (db_bk s 0) 1) with
  | false =>
    refine db_Gn 2 hI ?_ fun s1 hS hA => ?_
    · unfold db_f105
      simp (disch := omega) only [db_lit, eq_self, db_pI_e, db_pL_e, db_bind_some, db_bd_some, nI_add, pk_mul, nI_toInt, db_m1_t, dz_cn, Int.ofNat_le, Int.ofNat_lt, decide_true, decide_false, db_ct, db_cf, not_true_eq_false, not_false_eq_true, db_87e, db_37e, db_31e, db_28e, db_281e, db_211e, db_27, db_269w, db_litL, pk_lT, db_iL, db_p0_e, db_p0_n, db_p0_j, db_sub1, nI_eq, if_true, if_false, Bool.false_eq_true, db_103 hR hO, h]
    · unfold db_f291
      simp (disch := omega) only [db_lit, eq_self, db_pI_e, db_pL_e, db_bind_some, db_bd_some, nI_add, pk_mul, nI_toInt, db_m1_t, dz_cn, Int.ofNat_le, Int.ofNat_lt, decide_true, decide_false, db_ct, db_cf, not_true_eq_false, not_false_eq_true, db_87e, db_37e, db_31e, db_28e, db_281e, db_211e, db_27, db_269w, db_litL, pk_lT, db_iL, db_p0_e, db_p0_n, db_p0_j, db_sub1, nI_eq, if_true, if_false, Bool.false_eq_true, db_292 (db_p0_A hA) k1, h]
  | true =>
    obtain ⟨r, hr, rfl⟩ := db_is_t h
    cases hw : db_wi y ((0 : Nat) : Int) ((1 : Nat) : Int) with
    | false =>
      refine db_Gn 5 hI ?_ fun s1 hS hA => ?_
      · unfold db_f105
        simp (disch := omega) only [db_lit, eq_self, db_pI_e, db_pL_e, db_bind_some, db_bd_some, nI_add, pk_mul, nI_toInt, db_m1_t, dz_cn, Int.ofNat_le, Int.ofNat_lt, decide_true, decide_false, db_ct, db_cf, not_true_eq_false, not_false_eq_true, db_87e, db_37e, db_31e, db_28e, db_281e, db_211e, db_27, db_269w, db_litL, pk_lT, db_iL, db_p0_e, db_p0_n, db_p0_j, db_sub1, nI_eq, if_true, if_false, Bool.false_eq_true, db_103 hR hO, h, hw]
      · unfold db_f291
        simp (disch := omega) only [db_lit, eq_self, db_pI_e, db_pL_e, db_bind_some, db_bd_some, nI_add, pk_mul, nI_toInt, db_m1_t, dz_cn, Int.ofNat_le, Int.ofNat_lt, decide_true, decide_false, db_ct, db_cf, not_true_eq_false, not_false_eq_true, db_87e, db_37e, db_31e, db_28e, db_281e, db_211e, db_27, db_269w, db_litL, pk_lT, db_iL, db_p0_e, db_p0_n, db_p0_j, db_sub1, nI_eq, if_true, if_false, Bool.false_eq_true, db_292 (db_p0_A hA) k1, h, hw]
    | true =>
      obtain ⟨k, hk, -, rfl⟩ := db_wi_t (by decide) (by decide) hw
      rcases (by omega : k = 0 ∨ k = 1) with rfl | rfl
      · refine db_Gy (db_bk s 0 (8 + 4 * 0 + r)) hI ?_ fun s1 hS hA => ?_
        · unfold db_f105 db_f105_b56
          simp (disch := omega) only [db_lit, eq_self, db_pI_e, db_pL_e, db_bind_some, db_bd_some, nI_add, pk_mul, nI_toInt, db_m1_t, dz_cn, Int.ofNat_le, Int.ofNat_lt, decide_true, decide_false, db_ct, db_cf, not_true_eq_false, not_false_eq_true, db_87e, db_37e, db_31e, db_28e, db_281e, db_211e, db_27, db_269w, db_litL, pk_lT, db_iL, db_p0_e, db_p0_n, db_p0_j, db_sub1, nI_eq, if_true, if_false, Bool.false_eq_true, db_103 hR hO, h, hw, db_g_22, db_22 hR hr]
        · unfold db_f291
          simp (disch := omega) only [db_lit, eq_self, db_pI_e, db_pL_e, db_bind_some, db_bd_some, nI_add, pk_mul, nI_toInt, db_m1_t, dz_cn, Int.ofNat_le, Int.ofNat_lt, decide_true, decide_false, db_ct, db_cf, not_true_eq_false, not_false_eq_true, db_87e, db_37e, db_31e, db_28e, db_281e, db_211e, db_27, db_269w, db_litL, pk_lT, db_iL, db_p0_e, db_p0_n, db_p0_j, db_sub1, nI_eq, if_true, if_false, Bool.false_eq_true, db_292 (db_p0_A hA) k1, h, hw, db_g_674, hA]
      · refine db_Gy (db_bk s 0 (8 + 4 * 1 + r)) hI ?_ fun s1 hS hA => ?_
        · unfold db_f105 db_f105_b56
          simp (disch := omega) only [db_lit, eq_self, db_pI_e, db_pL_e, db_bind_some, db_bd_some, nI_add, pk_mul, nI_toInt, db_m1_t, dz_cn, Int.ofNat_le, Int.ofNat_lt, decide_true, decide_false, db_ct, db_cf, not_true_eq_false, not_false_eq_true, db_87e, db_37e, db_31e, db_28e, db_281e, db_211e, db_27, db_269w, db_litL, pk_lT, db_iL, db_p0_e, db_p0_n, db_p0_j, db_sub1, nI_eq, if_true, if_false, Bool.false_eq_true, db_103 hR hO, h, hw, db_g_82, db_82 hR hr, (show ¬ 1 = 0 by omega)]
        · unfold db_f291
          simp (disch := omega) only [db_lit, eq_self, db_pI_e, db_pL_e, db_bind_some, db_bd_some, nI_add, pk_mul, nI_toInt, db_m1_t, dz_cn, Int.ofNat_le, Int.ofNat_lt, decide_true, decide_false, db_ct, db_cf, not_true_eq_false, not_false_eq_true, db_87e, db_37e, db_31e, db_28e, db_281e, db_211e, db_27, db_269w, db_litL, pk_lT, db_iL, db_p0_e, db_p0_n, db_p0_j, db_sub1, nI_eq, if_true, if_false, Bool.false_eq_true, db_292 (db_p0_A hA) k1, h, hw, db_g_674, hA]
theorem db_k14 (hI : db_Inv U s) : dz_G U s (fun s => db_f106 s x) (fun s => db_f293 s x) := by
  obtain ⟨hO, hR, -⟩ := db_cur hI
  have k2 := hO.1.2.2.1
  have k4 := k2.2
  cases h : db_is x (db_n (db_bk s 0) 2) with
  | false =>
    refine db_Gn 2 hI ?_ fun s1 hS hA => ?_
    · unfold db_f106
      simp (disch := omega) only [db_lit, eq_self, db_pI_e, db_pL_e, db_bind_some, db_bd_some, nI_add, pk_mul, nI_toInt, db_m1_t, dz_cn, Int.ofNat_le, Int.ofNat_lt, decide_true, decide_false, db_ct, db_cf, not_true_eq_false, not_false_eq_true, db_87e, db_37e, db_31e, db_28e, db_281e, db_211e, db_27, db_269w, db_litL, pk_lT, db_iL, db_p0_e, db_p0_n, db_p0_j, db_sub1, nI_eq, if_true, if_false, Bool.false_eq_true, db_103 hR hO, h]
    · unfold db_f293
      simp (disch := omega) only [db_lit, eq_self, db_pI_e, db_pL_e, db_bind_some, db_bd_some, nI_add, pk_mul, nI_toInt, db_m1_t, dz_cn, Int.ofNat_le, Int.ofNat_lt, decide_true, decide_false, db_ct, db_cf, not_true_eq_false, not_false_eq_true, db_87e, db_37e, db_31e, db_28e, db_281e, db_211e, db_27, db_269w, db_litL, pk_lT, db_iL, db_p0_e, db_p0_n, db_p0_j, db_sub1, nI_eq, if_true, if_false, Bool.false_eq_true, db_294 (db_p0_A hA) k2, h]
  | true =>
    obtain ⟨r, hr, rfl⟩ := db_is_t h
    refine db_Gy (db_bk s 0 (16 + r)) hI ?_ fun s1 hS hA => ?_
    · unfold db_f106
      simp (disch := omega) only [db_lit, eq_self, db_pI_e, db_pL_e, db_bind_some, db_bd_some, nI_add, pk_mul, nI_toInt, db_m1_t, dz_cn, Int.ofNat_le, Int.ofNat_lt, decide_true, decide_false, db_ct, db_cf, not_true_eq_false, not_false_eq_true, db_87e, db_37e, db_31e, db_28e, db_281e, db_211e, db_27, db_269w, db_litL, pk_lT, db_iL, db_p0_e, db_p0_n, db_p0_j, db_sub1, nI_eq, if_true, if_false, Bool.false_eq_true, db_103 hR hO, h, db_g_23, db_23 hR hr]
    · unfold db_f293
      simp (disch := omega) only [db_lit, eq_self, db_pI_e, db_pL_e, db_bind_some, db_bd_some, nI_add, pk_mul, nI_toInt, db_m1_t, dz_cn, Int.ofNat_le, Int.ofNat_lt, decide_true, decide_false, db_ct, db_cf, not_true_eq_false, not_false_eq_true, db_87e, db_37e, db_31e, db_28e, db_281e, db_211e, db_27, db_269w, db_litL, pk_lT, db_iL, db_p0_e, db_p0_n, db_p0_j, db_sub1, nI_eq, if_true, if_false, Bool.false_eq_true, db_294 (db_p0_A hA) k2, h, db_g_674, hA]
/-- within the numbers of a count -/
theorem db_wi_is {n : Nat} (hn : n < 2 ^ 31) : db_wi x ((0 : Nat) : Int) ((n : Int) - ((1 : Nat) : Int)) = db_is x n := by
  unfold db_wi db_is
  congr 1
  rw [decide_eq_decide]
  omega
theorem db_wi_is' {n : Nat} (hn : n < 2 ^ 31) : db_wi x ((0 : Nat) : Int) ((n : Int) - 1) = db_is x n := db_wi_is hn
theorem db_k15 (hI : db_Inv U s) : dz_G U s (fun s => db_f107 s x y) (fun s => db_f295 s x y) := by
  obtain ⟨hO, hR, -⟩ := db_cur hI
  have k4 := db_Ok_K hO (show 4 < 6 by omega)
  have k12 := k4.2
  cases h : db_is x (db_n (db_bk s 0) 4) with
  | false =>
    refine db_Gn 2 hI ?_ fun s1 hS hA => ?_
    · unfold db_f107
      simp (disch := omega) only [db_lit, eq_self, db_pI_e, db_pL_e, db_bind_some, db_bd_some, nI_add, pk_mul, nI_toInt, db_m1_t, dz_cn, Int.ofNat_le, Int.ofNat_lt, decide_true, decide_false, db_ct, db_cf, not_true_eq_false, not_false_eq_true, db_87e, db_37e, db_31e, db_28e, db_281e, db_211e, db_27, db_269w, db_litL, pk_lT, db_iL, db_p0_e, db_p0_n, db_p0_j, db_sub1, nI_eq, if_true, if_false, Bool.false_eq_true, db_103 hR hO, h]
    · unfold db_f295
      simp (disch := omega) only [db_lit, eq_self, db_pI_e, db_pL_e, db_bind_some, db_bd_some, nI_add, pk_mul, nI_toInt, db_m1_t, dz_cn, Int.ofNat_le, Int.ofNat_lt, decide_true, decide_false, db_ct, db_cf, not_true_eq_false, not_false_eq_true, db_87e, db_37e, db_31e, db_28e, db_281e, db_211e, db_27, db_269w, db_litL, pk_lT, db_iL, db_p0_e, db_p0_n, db_p0_j, db_sub1, nI_eq, if_true, if_false, Bool.false_eq_true, db_g_674, hA, k4.1, db_wi_is', h]
  | true =>
    obtain ⟨r, hr, rfl⟩ := db_is_t h
    cases hw : db_wi y ((0 : Nat) : Int) ((1 : Nat) : Int) with
    | false =>
      refine db_Gn 5 hI ?_ fun s1 hS hA => ?_
      · unfold db_f107
        simp (disch := omega) only [db_lit, eq_self, db_pI_e, db_pL_e, db_bind_some, db_bd_some, nI_add, pk_mul, nI_toInt, db_m1_t, dz_cn, Int.ofNat_le, Int.ofNat_lt, decide_true, decide_false, db_ct, db_cf, not_true_eq_false, not_false_eq_true, db_87e, db_37e, db_31e, db_28e, db_281e, db_211e, db_27, db_269w, db_litL, pk_lT, db_iL, db_p0_e, db_p0_n, db_p0_j, db_sub1, nI_eq, if_true, if_false, Bool.false_eq_true, db_103 hR hO, h, hw]
      · unfold db_f295
        simp (disch := omega) only [db_lit, eq_self, db_pI_e, db_pL_e, db_bind_some, db_bd_some, nI_add, pk_mul, nI_toInt, db_m1_t, dz_cn, Int.ofNat_le, Int.ofNat_lt, decide_true, decide_false, db_ct, db_cf, not_true_eq_false, not_false_eq_true, db_87e, db_37e, db_31e, db_28e, db_281e, db_211e, db_27, db_269w, db_litL, pk_lT, db_iL, db_p0_e, db_p0_n, db_p0_j, db_sub1, nI_eq, if_true, if_false, Bool.false_eq_true, db_g_674, hA, k4.1, db_wi_is', h, hw]
    | true =>
      obtain ⟨k, hk, -, rfl⟩ := db_wi_t (by decide) (by decide) hw
      refine db_Gy (db_bk s 0 (103 + 12 * k + r)) hI ?_ fun s1 hS hA => ?_
      · have hv : s.1 (38 + r) k = db_bk s 0 (103 + 12 * k + r) := by
          rcases (by omega : k = 0 ∨ k = 1) with rfl | rfl
          · exact (db_38 hR hr).1
          · exact (db_38 hR hr).2
        unfold db_f107
        simp (disch := omega) only [db_lit, eq_self, db_pI_e, db_pL_e, db_bind_some, db_bd_some, nI_add, pk_mul, nI_toInt, db_m1_t, dz_cn, Int.ofNat_le, Int.ofNat_lt, decide_true, decide_false, db_ct, db_cf, not_true_eq_false, not_false_eq_true, db_87e, db_37e, db_31e, db_28e, db_281e, db_211e, db_27, db_269w, db_litL, pk_lT, db_iL, db_p0_e, db_p0_n, db_p0_j, db_sub1, nI_eq, if_true, if_false, Bool.false_eq_true, db_103 hR hO, h, hw, db_q_37, db_g_38, hv]
      · unfold db_f295
        simp (disch := omega) only [db_lit, eq_self, db_pI_e, db_pL_e, db_bind_some, db_bd_some, nI_add, pk_mul, nI_toInt, db_m1_t, dz_cn, Int.ofNat_le, Int.ofNat_lt, decide_true, decide_false, db_ct, db_cf, not_true_eq_false, not_false_eq_true, db_87e, db_37e, db_31e, db_28e, db_281e, db_211e, db_27, db_269w, db_litL, pk_lT, db_iL, db_p0_e, db_p0_n, db_p0_j, db_sub1, nI_eq, if_true, if_false, Bool.false_eq_true, db_g_674, hA, k4.1, db_wi_is', h, hw]
theorem db_k16 (hI : db_Inv U s) : dz_G U s (fun s => db_f108 s x y) (fun s => db_f296 s x y) := by
  obtain ⟨hO, hR, -⟩ := db_cur hI
  have k5 := hO.1.2.2.2.2.2
  have k8 := k5.2
  cases h : db_is x (db_n (db_bk s 0) 5) with
  | false =>
    refine db_Gn 2 hI ?_ fun s1 hS hA => ?_
    · unfold db_f108
      simp (disch := omega) only [db_lit, eq_self, db_pI_e, db_pL_e, db_bind_some, db_bd_some, nI_add, pk_mul, nI_toInt, db_m1_t, dz_cn, Int.ofNat_le, Int.ofNat_lt, decide_true, decide_false, db_ct, db_cf, not_true_eq_false, not_false_eq_true, db_87e, db_37e, db_31e, db_28e, db_281e, db_211e, db_27, db_269w, db_litL, pk_lT, db_iL, db_p0_e, db_p0_n, db_p0_j, db_sub1, nI_eq, if_true, if_false, Bool.false_eq_true, db_103 hR hO, h]
    · unfold db_f296
      simp (disch := omega) only [db_lit, eq_self, db_pI_e, db_pL_e, db_bind_some, db_bd_some, nI_add, pk_mul, nI_toInt, db_m1_t, dz_cn, Int.ofNat_le, Int.ofNat_lt, decide_true, decide_false, db_ct, db_cf, not_true_eq_false, not_false_eq_true, db_87e, db_37e, db_31e, db_28e, db_281e, db_211e, db_27, db_269w, db_litL, pk_lT, db_iL, db_p0_e, db_p0_n, db_p0_j, db_sub1, nI_eq, if_true, if_false, Bool.false_eq_true, db_297 (db_p0_A hA) k5, h]
  | true =>
    obtain ⟨r, hr, rfl⟩ := db_is_t h
    obtain ⟨d1, d2, d3, -⟩ := db_59 hR hr
    cases hw : db_wi y ((0 : Nat) : Int) ((2 : Nat) : Int) with
    | false =>
      refine db_Gn 5 hI ?_ fun s1 hS hA => ?_
      · unfold db_f108
        simp (disch := omega) only [db_lit, eq_self, db_pI_e, db_pL_e, db_bind_some, db_bd_some, nI_add, pk_mul, nI_toInt, db_m1_t, dz_cn, Int.ofNat_le, Int.ofNat_lt, decide_true, decide_false, db_ct, db_cf, not_true_eq_false, not_false_eq_true, db_87e, db_37e, db_31e, db_28e, db_281e, db_211e, db_27, db_269w, db_litL, pk_lT, db_iL, db_p0_e, db_p0_n, db_p0_j, db_sub1, nI_eq, if_true, if_false, Bool.false_eq_true, db_103 hR hO, h, hw]
      · unfold db_f296
        simp (disch := omega) only [db_lit, eq_self, db_pI_e, db_pL_e, db_bind_some, db_bd_some, nI_add, pk_mul, nI_toInt, db_m1_t, dz_cn, Int.ofNat_le, Int.ofNat_lt, decide_true, decide_false, db_ct, db_cf, not_true_eq_false, not_false_eq_true, db_87e, db_37e, db_31e, db_28e, db_281e, db_211e, db_27, db_269w, db_litL, pk_lT, db_iL, db_p0_e, db_p0_n, db_p0_j, db_sub1, nI_eq, if_true, if_false, Bool.false_eq_true, db_297 (db_p0_A hA) k5, h, hw]
    | true =>
      obtain ⟨k, hk, -, rfl⟩ := db_wi_t (by decide) (by decide) hw
      refine db_Gy (db_bk s 0 (127 + 8 * k + r)) hI ?_ fun s1 hS hA => ?_
      · unfold db_f108 db_f108_b75
        rcases (by omega : k = 0 ∨ k = 1 ∨ k = 2) with rfl | rfl | rfl
        · simp (disch := omega) only [db_lit, eq_self, db_pI_e, db_pL_e, db_bind_some, db_bd_some, nI_add, pk_mul, nI_toInt, db_m1_t, dz_cn, Int.ofNat_le, Int.ofNat_lt, decide_true, decide_false, db_ct, db_cf, not_true_eq_false, not_false_eq_true, db_87e, db_37e, db_31e, db_28e, db_281e, db_211e, db_27, db_269w, db_litL, pk_lT, db_iL, db_p0_e, db_p0_n, db_p0_j, db_sub1, nI_eq, if_true, if_false, Bool.false_eq_true, db_103 hR hO, h, hw, db_g_59, d1]
        · simp (disch := omega) only [db_lit, eq_self, db_pI_e, db_pL_e, db_bind_some, db_bd_some, nI_add, pk_mul, nI_toInt, db_m1_t, dz_cn, Int.ofNat_le, Int.ofNat_lt, decide_true, decide_false, db_ct, db_cf, not_true_eq_false, not_false_eq_true, db_87e, db_37e, db_31e, db_28e, db_281e, db_211e, db_27, db_269w, db_litL, pk_lT, db_iL, db_p0_e, db_p0_n, db_p0_j, db_sub1, nI_eq, if_true, if_false, Bool.false_eq_true, db_103 hR hO, h, hw, db_g_60, d2, (show ¬ 1 = 0 by omega)]
        · simp (disch := omega) only [db_lit, eq_self, db_pI_e, db_pL_e, db_bind_some, db_bd_some, nI_add, pk_mul, nI_toInt, db_m1_t, dz_cn, Int.ofNat_le, Int.ofNat_lt, decide_true, decide_false, db_ct, db_cf, not_true_eq_false, not_false_eq_true, db_87e, db_37e, db_31e, db_28e, db_281e, db_211e, db_27, db_269w, db_litL, pk_lT, db_iL, db_p0_e, db_p0_n, db_p0_j, db_sub1, nI_eq, if_true, if_false, Bool.false_eq_true, db_103 hR hO, h, hw, db_g_61, d3, (show ¬ 2 = 0 by omega), (show ¬ 2 = 1 by omega)]
      · unfold db_f296
        simp (disch := omega) only [db_lit, eq_self, db_pI_e, db_pL_e, db_bind_some, db_bd_some, nI_add, pk_mul, nI_toInt, db_m1_t, dz_cn, Int.ofNat_le, Int.ofNat_lt, decide_true, decide_false, db_ct, db_cf, not_true_eq_false, not_false_eq_true, db_87e, db_37e, db_31e, db_28e, db_281e, db_211e, db_27, db_269w, db_litL, pk_lT, db_iL, db_p0_e, db_p0_n, db_p0_j, db_sub1, nI_eq, if_true, if_false, Bool.false_eq_true, db_297 (db_p0_A hA) k5, h, hw, db_g_674, hA]
theorem db_k17 (hI : db_Inv U s) : dz_G U s (fun s => db_f109 s x y) (fun s => db_f298 s x y) := by
  obtain ⟨hO, hR, -⟩ := db_cur hI
  have k5 := hO.1.2.2.2.2.2
  have k8 := k5.2
  cases h : db_is x (db_n (db_bk s 0) 5) with
  | false =>
    refine db_Gn 2 hI ?_ fun s1 hS hA => ?_
    · unfold db_f109
      simp (disch := omega) only [db_lit, eq_self, db_pI_e, db_pL_e, db_bind_some, db_bd_some, nI_add, pk_mul, nI_toInt, db_m1_t, dz_cn, Int.ofNat_le, Int.ofNat_lt, decide_true, decide_false, db_ct, db_cf, not_true_eq_false, not_false_eq_true, db_87e, db_37e, db_31e, db_28e, db_281e, db_211e, db_27, db_269w, db_litL, pk_lT, db_iL, db_p0_e, db_p0_n, db_p0_j, db_sub1, nI_eq, if_true, if_false, Bool.false_eq_true, db_103 hR hO, h]
    · unfold db_f298
      simp (disch := omega) only [db_lit, eq_self, db_pI_e, db_pL_e, db_bind_some, db_bd_some, nI_add, pk_mul, nI_toInt, db_m1_t, dz_cn, Int.ofNat_le, Int.ofNat_lt, decide_true, decide_false, db_ct, db_cf, not_true_eq_false, not_false_eq_true, db_87e, db_37e, db_31e, db_28e, db_281e, db_211e, db_27, db_269w, db_litL, pk_lT, db_iL, db_p0_e, db_p0_n, db_p0_j, db_sub1, nI_eq, if_true, if_false, Bool.false_eq_true, db_297 (db_p0_A hA) k5, h]
  | true =>
    obtain ⟨r, hr, rfl⟩ := db_is_t h
    obtain ⟨d1, -, -, d4⟩ := db_59 hR hr
    have hL := (hO.2.2.2.1 r hr).1.1
    have hL6 := hL.2
    cases hw : db_is y (db_n (db_bk s 0) (127 + r)) with
    | false =>
      refine db_Gn 8 hI ?_ fun s1 hS hA => ?_
      · unfold db_f109
        simp (disch := omega) only [db_lit, eq_self, db_pI_e, db_pL_e, db_bind_some, db_bd_some, nI_add, pk_mul, nI_toInt, db_m1_t, dz_cn, Int.ofNat_le, Int.ofNat_lt, decide_true, decide_false, db_ct, db_cf, not_true_eq_false, not_false_eq_true, db_87e, db_37e, db_31e, db_28e, db_281e, db_211e, db_27, db_269w, db_litL, pk_lT, db_iL, db_p0_e, db_p0_n, db_p0_j, db_sub1, nI_eq, if_true, if_false, Bool.false_eq_true, db_103 hR hO, h, db_g_59, d1, hL.1, db_wi_is', hw]
      · unfold db_f298
        simp (disch := omega) only [db_lit, eq_self, db_pI_e, db_pL_e, db_bind_some, db_bd_some, nI_add, pk_mul, nI_toInt, db_m1_t, dz_cn, Int.ofNat_le, Int.ofNat_lt, decide_true, decide_false, db_ct, db_cf, not_true_eq_false, not_false_eq_true, db_87e, db_37e, db_31e, db_28e, db_281e, db_211e, db_27, db_269w, db_litL, pk_lT, db_iL, db_p0_e, db_p0_n, db_p0_j, db_sub1, nI_eq, if_true, if_false, Bool.false_eq_true, db_297 (db_p0_A hA) k5, h, db_g_674, hA, hL.1, db_wi_is', hw]
    | true =>
      obtain ⟨k, hk, rfl⟩ := db_is_t hw
      refine db_Gy (db_bk s 0 (151 + 6 * r + k)) hI ?_ fun s1 hS hA => ?_
      · unfold db_f109
        simp (disch := omega) only [db_lit, eq_self, db_pI_e, db_pL_e, db_bind_some, db_bd_some, nI_add, pk_mul, nI_toInt, db_m1_t, dz_cn, Int.ofNat_le, Int.ofNat_lt, decide_true, decide_false, db_ct, db_cf, not_true_eq_false, not_false_eq_true, db_87e, db_37e, db_31e, db_28e, db_281e, db_211e, db_27, db_269w, db_litL, pk_lT, db_iL, db_p0_e, db_p0_n, db_p0_j, db_sub1, nI_eq, if_true, if_false, Bool.false_eq_true, db_103 hR hO, h, db_g_59, d1, hL.1, db_wi_is', hw, db_q_50, db_g_51, d4 k hk]
      · unfold db_f298 db_f299
        simp (disch := omega) only [db_lit, eq_self, db_pI_e, db_pL_e, db_bind_some, db_bd_some, nI_add, pk_mul, nI_toInt, db_m1_t, dz_cn, Int.ofNat_le, Int.ofNat_lt, decide_true, decide_false, db_ct, db_cf, not_true_eq_false, not_false_eq_true, db_87e, db_37e, db_31e, db_28e, db_281e, db_211e, db_27, db_269w, db_litL, pk_lT, db_iL, db_p0_e, db_p0_n, db_p0_j, db_sub1, nI_eq, if_true, if_false, Bool.false_eq_true, db_297 (db_p0_A hA) k5, h, db_g_674, hA, hL.1, db_wi_is', hw]
end DBQ1
