/-! POURING -/
section DBPR
variable {U : Nat} {s : db_S} {c : db_C} {w : Nat → Int64} {v x y z p q : Int32}
theorem db_sumT (a b : Int32) : (a.toInt64 + b.toInt64).toInt = a.toInt + b.toInt := by
  have h1 := fb_rng a
  have h2 := fb_rng b
  rw [fb_addL (by rw [db_iL, db_iL]; omega) (by rw [db_iL, db_iL]; omega), db_iL, db_iL]
theorem db_cgt {a b n : Int32} : db_cnd .gt (lg_cmp (a.toInt64 + b.toInt64) n.toInt64) (0 : Int32) = decide (n.toInt < a.toInt + b.toInt) := by
  refine (db_cl_gt (x := a.toInt64 + b.toInt64) (a := n.toInt64)).trans ?_
  rw [decide_eq_decide, Int64.lt_iff_toInt_lt, db_sumT, db_iL]
theorem db_cle {a b n : Int32} : db_cnd .le (lg_cmp (a.toInt64 + b.toInt64) n.toInt64) (0 : Int32) = decide (a.toInt + b.toInt ≤ n.toInt) := by
  refine (db_cl_le (x := a.toInt64 + b.toInt64) (a := n.toInt64)).trans ?_
  rw [decide_eq_decide, Int64.le_iff_toInt_le, db_sumT, db_iL]
theorem db_40 {t n : Nat} (ht : t < 4) (hn : n ≤ 60) (h : s.1 12 t = nI n) : db_f40 s (nI t) y v = some (decide (((0 : Nat) : Int) ≤ y.toInt) && decide (y.toInt + v.toInt ≤ n)) := by
  unfold db_f40
  simp only [db_cgt]
  simp (disch := omega) only [db_lit, eq_self, db_pI_e, db_pL_e, db_bind_some, db_bd_some, nI_add, pk_mul, nI_toInt, db_m1_t, dz_cn, Int.ofNat_le, Int.ofNat_lt, decide_true, decide_false, db_ct, db_cf, not_true_eq_false, not_false_eq_true, db_g_12, h]
  by_cases h0 : y.toInt < ((0 : Nat) : Int)
  · have h1 : ¬ ((0 : Nat) : Int) ≤ y.toInt := by omega
    simp (disch := omega) only [db_lit, eq_self, db_pI_e, db_pL_e, db_bind_some, db_bd_some, nI_add, pk_mul, nI_toInt, db_m1_t, dz_cn, Int.ofNat_le, Int.ofNat_lt, decide_true, decide_false, db_ct, db_cf, not_true_eq_false, not_false_eq_true, h0, h1, Bool.false_and]
  · have h1 : ((0 : Nat) : Int) ≤ y.toInt := by omega
    by_cases h2 : (n : Int) < y.toInt + v.toInt
    · have h3 : ¬ y.toInt + v.toInt ≤ (n : Int) := by omega
      simp (disch := omega) only [db_lit, eq_self, db_pI_e, db_pL_e, db_bind_some, db_bd_some, nI_add, pk_mul, nI_toInt, db_m1_t, dz_cn, Int.ofNat_le, Int.ofNat_lt, decide_true, decide_false, db_ct, db_cf, not_true_eq_false, not_false_eq_true, h0, h1, h2, h3, Bool.true_and]
    · have h3 : y.toInt + v.toInt ≤ (n : Int) := by omega
      simp (disch := omega) only [db_lit, eq_self, db_pI_e, db_pL_e, db_bind_some, db_bd_some, nI_add, pk_mul, nI_toInt, db_m1_t, dz_cn, Int.ofNat_le, Int.ofNat_lt, decide_true, decide_false, db_ct, db_cf, not_true_eq_false, not_false_eq_true, h0, h1, h2, h3, Bool.true_and]
theorem db_cL_n {t u i j m : Nat} (ht : t < 4) (hu : u < 4) (h1 : i + m ≤ 60) (h2 : j + m ≤ 60) : db_cL s (7 + t) (nI i) (7 + u) (nI j) (nI m) = some (s.1, fun b => cond (Nat.beq b (7 + u)) (va_cpy (s.2 (7 + t)) (s.2 (7 + u)) i j m) (s.2 b)) := by
  unfold db_cL
  have ei : (nI i).toNatClampNeg = i := nI_clamp (by omega)
  have ej : (nI j).toNatClampNeg = j := nI_clamp (by omega)
  have em : (nI m).toNatClampNeg = m := nI_clamp (by omega)
  have pi : ¬ nI i < 0 := nI_pos (by omega)
  have pj : ¬ nI j < 0 := nI_pos (by omega)
  have pm : ¬ nI m < 0 := nI_pos (by omega)
  rw [(db_kl_7 t ht).1, (db_kl_7 u hu).1, (db_kl_7 t ht).2, (db_kl_7 u hu).2, ei, ej, em, decide_eq_false pi, decide_eq_false pj, decide_eq_false pm, show Nat.ble (i + m) 60 = true from Nat.ble_eq.mpr h1, show Nat.ble (j + m) 60 = true from Nat.ble_eq.mpr h2]
  rfl
theorem db_wi03 {t : Nat} (ht : t < 4) : db_wi (nI t) ((0 : Nat) : Int) ((3 : Nat) : Int) = true := by
  unfold db_wi
  rw [nI_toInt (by omega), decide_eq_true (by omega), decide_eq_true (by omega)]
  rfl
theorem db_39a (h : db_wi x ((0 : Nat) : Int) ((3 : Nat) : Int) = false) : db_f39 s x z = some (nI 1) := by
  unfold db_f39 db_f26
  simp (disch := omega) only [db_lit, eq_self, db_pI_e, db_pL_e, db_bind_some, db_bd_some, nI_add, pk_mul, nI_toInt, db_m1_t, dz_cn, Int.ofNat_le, Int.ofNat_lt, decide_true, decide_false, db_ct, db_cf, not_true_eq_false, not_false_eq_true, db_87e, db_37e, db_31e, db_28e, db_281e, db_211e, db_27, db_269w, db_litL, pk_lT, db_iL, db_p0_e, db_p0_n, db_p0_j, db_sub1, nI_eq, if_true, if_false, Bool.false_eq_true, h]
theorem db_39b {t : Nat} (ht : t < 4) (h : db_wi z ((0 : Nat) : Int) ((3 : Nat) : Int) = false) : db_f39 s (nI t) z = some (nI 1) := by
  unfold db_f39 db_f26
  simp (disch := omega) only [db_lit, eq_self, db_pI_e, db_pL_e, db_bind_some, db_bd_some, nI_add, pk_mul, nI_toInt, db_m1_t, dz_cn, Int.ofNat_le, Int.ofNat_lt, decide_true, decide_false, db_ct, db_cf, not_true_eq_false, not_false_eq_true, db_87e, db_37e, db_31e, db_28e, db_281e, db_211e, db_27, db_269w, db_litL, pk_lT, db_iL, db_p0_e, db_p0_n, db_p0_j, db_sub1, nI_eq, if_true, if_false, Bool.false_eq_true, db_wi03 ht, h]
theorem db_39c {t u : Nat} (ht : t < 4) (hu : u < 4) (h : s.1 12 t = -(nI 1)) : db_f39 s (nI t) (nI u) = some (nI 3) := by
  unfold db_f39 db_f26
  simp (disch := omega) only [db_lit, eq_self, db_pI_e, db_pL_e, db_bind_some, db_bd_some, nI_add, pk_mul, nI_toInt, db_m1_t, dz_cn, Int.ofNat_le, Int.ofNat_lt, decide_true, decide_false, db_ct, db_cf, not_true_eq_false, not_false_eq_true, db_87e, db_37e, db_31e, db_28e, db_281e, db_211e, db_27, db_269w, db_litL, pk_lT, db_iL, db_p0_e, db_p0_n, db_p0_j, db_sub1, nI_eq, if_true, if_false, Bool.false_eq_true, db_wi03 ht, db_wi03 hu, db_g_12, h, db_m1_l]
theorem db_39d {t u n : Nat} (ht : t < 4) (hu : u < 4) (hn : n ≤ 60) (h : s.1 12 t = nI n) (h' : s.1 12 u = -(nI 1)) : db_f39 s (nI t) (nI u) = some (nI 3) := by
  have hx := db_m1_ne (k := n) (by omega)
  unfold db_f39 db_f26
  simp (disch := omega) only [db_lit, eq_self, db_pI_e, db_pL_e, db_bind_some, db_bd_some, nI_add, pk_mul, nI_toInt, db_m1_t, dz_cn, Int.ofNat_le, Int.ofNat_lt, decide_true, decide_false, db_ct, db_cf, not_true_eq_false, not_false_eq_true, db_87e, db_37e, db_31e, db_28e, db_281e, db_211e, db_27, db_269w, db_litL, pk_lT, db_iL, db_p0_e, db_p0_n, db_p0_j, db_sub1, nI_eq, if_true, if_false, Bool.false_eq_true, db_wi03 ht, db_wi03 hu, db_g_12, h, h', db_m1_l, hx]
theorem db_39e {t u n m k l : Nat} (ht : t < 4) (hu : u < 4) (hn : n ≤ 60) (h : s.1 12 t = nI n) (hm : m ≤ 60) (h' : s.1 12 u = nI m) (hk : k < 4) (hl : l < 4) (e1 : s.1 11 t = nI k) (e2 : s.1 11 u = nI l) : db_f39 s (nI t) (nI u) = some (if k = l then nI 0 else nI 11) := by
  have hx := db_m1_ne (k := n) (by omega)
  have hx' := db_m1_ne (k := m) (by omega)
  unfold db_f39 db_f26
  simp (disch := omega) only [db_lit, eq_self, db_pI_e, db_pL_e, db_bind_some, db_bd_some, nI_add, pk_mul, nI_toInt, db_m1_t, dz_cn, Int.ofNat_le, Int.ofNat_lt, decide_true, decide_false, db_ct, db_cf, not_true_eq_false, not_false_eq_true, db_87e, db_37e, db_31e, db_28e, db_281e, db_211e, db_27, db_269w, db_litL, pk_lT, db_iL, db_p0_e, db_p0_n, db_p0_j, db_sub1, nI_eq, if_true, if_false, Bool.false_eq_true, db_wi03 ht, db_wi03 hu, db_g_12, h, h', db_m1_l, hx, hx', db_g_11, e1, e2]
  by_cases e : k = l
  · simp (disch := omega) only [db_lit, eq_self, db_pI_e, db_pL_e, db_bind_some, db_bd_some, nI_add, pk_mul, nI_toInt, db_m1_t, dz_cn, Int.ofNat_le, Int.ofNat_lt, decide_true, decide_false, db_ct, db_cf, not_true_eq_false, not_false_eq_true, e, if_true]
  · simp (disch := omega) only [db_lit, eq_self, db_pI_e, db_pL_e, db_bind_some, db_bd_some, nI_add, pk_mul, nI_toInt, db_m1_t, dz_cn, Int.ofNat_le, Int.ofNat_lt, decide_true, decide_false, db_ct, db_cf, not_true_eq_false, not_false_eq_true, e, if_false]
theorem db_217a (h : x.toInt < 0 ∨ (0 ≤ x.toInt ∧ 4 ≤ x.toInt)) : db_f217 s x y z q v = some (false, db_uI (db_p0 s) 669 0 (nI 1)) := by
  unfold db_f217 db_f217_b28
  by_cases h0 : x.toInt < ((0 : Nat) : Int)
  · simp (disch := omega) only [db_lit, eq_self, db_pI_e, db_pL_e, db_bind_some, db_bd_some, nI_add, pk_mul, nI_toInt, db_m1_t, dz_cn, Int.ofNat_le, Int.ofNat_lt, decide_true, decide_false, db_ct, db_cf, not_true_eq_false, not_false_eq_true, db_87e, db_37e, db_31e, db_28e, db_281e, db_211e, db_27, db_269w, db_litL, pk_lT, db_iL, db_p0_e, db_p0_n, db_p0_j, db_sub1, nI_eq, if_true, if_false, Bool.false_eq_true, h0]
  · have h4 : ((4 : Nat) : Int) ≤ x.toInt := by omega
    simp (disch := omega) only [db_lit, eq_self, db_pI_e, db_pL_e, db_bind_some, db_bd_some, nI_add, pk_mul, nI_toInt, db_m1_t, dz_cn, Int.ofNat_le, Int.ofNat_lt, decide_true, decide_false, db_ct, db_cf, not_true_eq_false, not_false_eq_true, db_87e, db_37e, db_31e, db_28e, db_281e, db_211e, db_27, db_269w, db_litL, pk_lT, db_iL, db_p0_e, db_p0_n, db_p0_j, db_sub1, nI_eq, if_true, if_false, Bool.false_eq_true, h0, h4]
theorem db_217b {t : Nat} (ht : t < 4) (h : z.toInt < 0 ∨ (0 ≤ z.toInt ∧ 4 ≤ z.toInt)) : db_f217 s (nI t) y z q v = some (false, db_uI (db_p0 s) 669 0 (nI 1)) := by
  unfold db_f217 db_f217_b28
  by_cases h0 : z.toInt < ((0 : Nat) : Int)
  · simp (disch := omega) only [db_lit, eq_self, db_pI_e, db_pL_e, db_bind_some, db_bd_some, nI_add, pk_mul, nI_toInt, db_m1_t, dz_cn, Int.ofNat_le, Int.ofNat_lt, decide_true, decide_false, db_ct, db_cf, not_true_eq_false, not_false_eq_true, db_87e, db_37e, db_31e, db_28e, db_281e, db_211e, db_27, db_269w, db_litL, pk_lT, db_iL, db_p0_e, db_p0_n, db_p0_j, db_sub1, nI_eq, if_true, if_false, Bool.false_eq_true, (show ¬ t < 0 by omega), (show ¬ 4 ≤ t by omega), h0]
  · have h4 : ¬ z.toInt < ((4 : Nat) : Int) := by omega
    simp (disch := omega) only [db_lit, eq_self, db_pI_e, db_pL_e, db_bind_some, db_bd_some, nI_add, pk_mul, nI_toInt, db_m1_t, dz_cn, Int.ofNat_le, Int.ofNat_lt, decide_true, decide_false, db_ct, db_cf, not_true_eq_false, not_false_eq_true, db_87e, db_37e, db_31e, db_28e, db_281e, db_211e, db_27, db_269w, db_litL, pk_lT, db_iL, db_p0_e, db_p0_n, db_p0_j, db_sub1, nI_eq, if_true, if_false, Bool.false_eq_true, (show ¬ t < 0 by omega), (show ¬ 4 ≤ t by omega), h0, h4]
theorem db_217c {t u : Nat} (ht : t < 4) (hu : u < 4) (h : s.1 671 t = -(nI 1)) : db_f217 s (nI t) y (nI u) q v = some (false, db_uI (db_p0 s) 669 0 (nI 3)) := by
  have hm : (-1 : Int) < ((0 : Nat) : Int) := by omega
  unfold db_f217 db_f217_b52
  simp (disch := omega) only [db_lit, eq_self, db_pI_e, db_pL_e, db_bind_some, db_bd_some, nI_add, pk_mul, nI_toInt, db_m1_t, dz_cn, Int.ofNat_le, Int.ofNat_lt, decide_true, decide_false, db_ct, db_cf, not_true_eq_false, not_false_eq_true, db_87e, db_37e, db_31e, db_28e, db_281e, db_211e, db_27, db_269w, db_litL, pk_lT, db_iL, db_p0_e, db_p0_n, db_p0_j, db_sub1, nI_eq, if_true, if_false, Bool.false_eq_true, (show ¬ t < 0 by omega), (show ¬ 4 ≤ t by omega), (show ¬ u < 0 by omega), hu, db_g_671, h, hm]
theorem db_217d {t u n : Nat} (ht : t < 4) (hu : u < 4) (hn : n ≤ 60) (h : s.1 671 t = nI n) (h' : s.1 671 u = -(nI 1)) : db_f217 s (nI t) y (nI u) q v = some (false, db_uI (db_p0 s) 669 0 (nI 3)) := by
  have hm : ¬ ((0 : Nat) : Int) ≤ (-1 : Int) := by omega
  unfold db_f217 db_f217_b52
  simp (disch := omega) only [db_lit, eq_self, db_pI_e, db_pL_e, db_bind_some, db_bd_some, nI_add, pk_mul, nI_toInt, db_m1_t, dz_cn, Int.ofNat_le, Int.ofNat_lt, decide_true, decide_false, db_ct, db_cf, not_true_eq_false, not_false_eq_true, db_87e, db_37e, db_31e, db_28e, db_281e, db_211e, db_27, db_269w, db_litL, pk_lT, db_iL, db_p0_e, db_p0_n, db_p0_j, db_sub1, nI_eq, if_true, if_false, Bool.false_eq_true, (show ¬ t < 0 by omega), (show ¬ 4 ≤ t by omega), (show ¬ u < 0 by omega), hu, db_g_671, h, h', hm, (show ¬ n < 0 by omega)]
/-- beyond the sorts -/
noncomputable def db_217x (s : db_S) (v1 v2 v3 v4 v5 : Int32) (n m : Nat) : Option (Bool × db_S) := cond (decide (((0 : Nat) : Int) ≤ v5.toInt)) (cond (decide (v2.toInt < ((0 : Nat) : Int))) (some (false, db_uI s 669 0 (nI 4))) (cond (decide (v4.toInt < ((0 : Nat) : Int))) (some (false, db_uI s 669 0 (nI 4))) (cond (decide ((n : Int) < v2.toInt + v5.toInt)) (some (false, db_uI s 669 0 (nI 4))) (cond (decide (v4.toInt + v5.toInt ≤ (m : Int))) (cond (decide (v4.toInt ≤ v2.toInt)) (db_f217_b153 s v1 v2 v3 v4 v5 (nI 0)) (db_f217_b153 s v1 v2 v3 v4 v5 (nI 1))) (some (false, db_uI s 669 0 (nI 4))))))) (some (false, db_uI s 669 0 (nI 6)))
theorem db_217e {t u n m k l : Nat} (ht : t < 4) (hu : u < 4) (hn : n ≤ 60) (h : s.1 671 t = nI n) (hm : m ≤ 60) (h' : s.1 671 u = nI m) (hk : k < 4) (hl : l < 4) (e1 : s.1 670 t = nI k) (e2 : s.1 670 u = nI l) : db_f217 s (nI t) y (nI u) q v = if k = l then db_217x (db_p0 s) (nI t) y (nI u) q v n m else some (false, db_uI (db_p0 s) 669 0 (nI 11)) := by
  unfold db_f217 db_217x db_f217_b136
  simp only [db_cgt, db_cle]
  simp (disch := omega) only [db_lit, eq_self, db_pI_e, db_pL_e, db_bind_some, db_bd_some, nI_add, pk_mul, nI_toInt, db_m1_t, dz_cn, Int.ofNat_le, Int.ofNat_lt, decide_true, decide_false, db_ct, db_cf, not_true_eq_false, not_false_eq_true, db_87e, db_37e, db_31e, db_28e, db_281e, db_211e, db_27, db_269w, db_litL, pk_lT, db_iL, db_p0_e, db_p0_n, db_p0_j, db_sub1, nI_eq, if_true, if_false, Bool.false_eq_true, (show ¬ t < 0 by omega), (show ¬ 4 ≤ t by omega), (show ¬ u < 0 by omega), hu, db_g_671, db_g_670, h, h', e1, e2, (show ¬ n < 0 by omega), Nat.zero_le]
  by_cases e : k = l
  · simp (disch := omega) only [db_lit, eq_self, db_pI_e, db_pL_e, db_bind_some, db_bd_some, nI_add, pk_mul, nI_toInt, db_m1_t, dz_cn, Int.ofNat_le, Int.ofNat_lt, decide_true, decide_false, db_ct, db_cf, not_true_eq_false, not_false_eq_true, e, if_true]
  · simp (disch := omega) only [db_lit, eq_self, db_pI_e, db_pL_e, db_bind_some, db_bd_some, nI_add, pk_mul, nI_toInt, db_m1_t, dz_cn, Int.ofNat_le, Int.ofNat_lt, decide_true, decide_false, db_ct, db_cf, not_true_eq_false, not_false_eq_true, e, if_false]
/-- the reference's copying -/
theorem db_153r {t u i j m : Nat} (ht : t < 4) (hu : u < 4) (h1 : i + m ≤ 60) (h2 : j + m ≤ 60) (b : Bool) (hb : b = decide (j ≤ i)) : dz_T (db_f217_b153 s (nI t) (nI i) (nI u) (nI j) (nI m) (if b then nI 0 else nI 1)) (fun z => z.1 = true ∧ z.2.1 = s.1 ∧ (∀ b, b ≠ 672 → z.2.2 b = s.2 b) ∧ (∀ x, ¬ (60 * u + j ≤ x ∧ x < 60 * u + j + m) → z.2.2 672 x = s.2 672 x) ∧ ∀ r, r < m → z.2.2 672 (60 * u + j + r) = s.2 672 (60 * t + i + r)) := by
  unfold db_f217_b153
  refine db_loop (L := fun m' a k => db_f217_b158 m' a (nI t) (nI i) (nI u) (nI j) (nI m) (if b then nI 0 else nI 1) (nI k)) (N := m) (fun k a => a.1 = s.1 ∧ (∀ b, b ≠ 672 → a.2 b = s.2 b) ∧
    (b = true → (∀ x, ¬ (60 * u + j ≤ x ∧ x < 60 * u + j + k) → a.2 672 x = s.2 672 x) ∧ ∀ r, r < k → a.2 672 (60 * u + j + r) = s.2 672 (60 * t + i + r)) ∧
    (b = false → (∀ x, ¬ (60 * u + j + (m - k) ≤ x ∧ x < 60 * u + j + m) → a.2 672 x = s.2 672 x) ∧ ∀ r, m - k ≤ r → r < m → a.2 672 (60 * u + j + r) = s.2 672 (60 * t + i + r))) ?_ ?_ (n := db_FU) (by unfold db_FU; omega) ⟨rfl, fun b _ => rfl, fun _ => ⟨fun x _ => rfl, fun r hr => absurd hr (by omega)⟩, fun _ => ⟨fun x _ => rfl, fun r hr hr2 => absurd hr (by omega)⟩⟩
  · rintro m' a ⟨g1, g2, g3, g4⟩
    show dz_T (db_f217_b158 (m' + 1) a (nI t) (nI i) (nI u) (nI j) (nI m) (if b then nI 0 else nI 1) (nI m)) _
    rw [db_f217_b158]
    simp (disch := omega) only [db_lit, eq_self, db_pI_e, db_pL_e, db_bind_some, db_bd_some, nI_add, pk_mul, nI_toInt, db_m1_t, dz_cn, Int.ofNat_le, Int.ofNat_lt, decide_true, decide_false, db_ct, db_cf, not_true_eq_false, not_false_eq_true, Nat.le_refl]
    refine ⟨_, rfl, rfl, g1, g2, ?_⟩
    cases b with
    | true => exact g3 rfl
    | false =>
      obtain ⟨g5, g6⟩ := g4 rfl
      exact ⟨fun x hx => g5 x (by omega), fun r hr => g6 r (by omega) hr⟩
  · rintro m' k a hk ⟨g1, g2, g3, g4⟩ hrec
    show dz_T (db_f217_b158 (m' + 1) a (nI t) (nI i) (nI u) (nI j) (nI m) (if b then nI 0 else nI 1) (nI k)) _
    rw [db_f217_b158]
    have h7 : ¬ m ≤ k := by omega
    cases b with
    | true =>
      obtain ⟨g5, g6⟩ := g3 rfl
      have hij : j ≤ i := of_decide_eq_true hb.symm
      unfold db_f217_b182
      simp (disch := omega) only [db_lit, eq_self, db_pI_e, db_pL_e, db_bind_some, db_bd_some, nI_add, pk_mul, nI_toInt, db_m1_t, dz_cn, Int.ofNat_le, Int.ofNat_lt, decide_true, decide_false, db_ct, db_cf, not_true_eq_false, not_false_eq_true, h7, if_true, db_g_672, db_h_672]
      refine hrec _ ⟨g1, fun b hb => by rw [db_uL_n hb]; exact g2 b hb, fun _ => ⟨fun x hx => ?_, fun r hr => ?_⟩, fun h => nomatch h⟩
      · rw [db_uL_j (by omega)]; exact g5 x (by omega)
      · by_cases e : r = k
        · subst e
          rw [db_uL_1, g5 _ (by omega)]
        · rw [db_uL_j (by omega)]; exact g6 r (by omega)
    | false =>
      obtain ⟨g5, g6⟩ := g4 rfl
      have hij : ¬ j ≤ i := of_decide_eq_false hb.symm
      have e1 : nI m - nI 1 - nI k = nI (m - 1 - k) := by
        rw [fa_eq, nI_toInt (by omega), fb_subI (by rw [db_sub1 (by omega), nI_toInt (by omega)]; omega) (by rw [db_sub1 (by omega), nI_toInt (by omega)]; omega), db_sub1 (by omega), nI_toInt (by omega)]
        omega
      have e2 : ¬ nI 1 = nI 0 := by decide
      unfold db_f217_b182
      simp (disch := omega) only [db_lit, eq_self, db_pI_e, db_pL_e, db_bind_some, db_bd_some, nI_add, pk_mul, nI_toInt, db_m1_t, dz_cn, Int.ofNat_le, Int.ofNat_lt, decide_true, decide_false, db_ct, db_cf, not_true_eq_false, not_false_eq_true, h7, Bool.false_eq_true, if_false, e1, e2, db_g_672, db_h_672]
      refine hrec _ ⟨g1, fun b hb => by rw [db_uL_n hb]; exact g2 b hb, fun h => (nomatch h), fun _ => ⟨fun x hx => ?_, fun r hr hr2 => ?_⟩⟩
      · rw [db_uL_j (by omega)]; exact g5 x (by omega)
      · by_cases e : r = m - 1 - k
        · subst e
          rw [db_uL_1, g5 _ (by omega)]
        · rw [db_uL_j (by omega)]; exact g6 r (by omega) hr2
theorem db_k6 (hI : db_Inv U s) : dz_G U s (fun s => db_f38 s x y z q v) (fun s => db_f217 s x y z q v) := by
  rcases db_tr3 hI x with ⟨h1, h2⟩ | ⟨t, ht, rfl, hw, hT⟩
  · refine db_GnB 1 hI ?_ fun s1 hS hA => db_217a h2
    unfold db_f38 db_f38_b25 db_f38_b62
    simp (disch := omega) only [db_lit, eq_self, db_pI_e, db_pL_e, db_bind_some, db_bd_some, nI_add, pk_mul, nI_toInt, db_m1_t, dz_cn, Int.ofNat_le, Int.ofNat_lt, decide_true, decide_false, db_ct, db_cf, not_true_eq_false, not_false_eq_true, db_87e, db_37e, db_31e, db_28e, db_281e, db_211e, db_27, db_269w, db_litL, pk_lT, db_iL, db_p0_e, db_p0_n, db_p0_j, db_sub1, nI_eq, if_true, if_false, Bool.false_eq_true, db_39a h1, (show ¬ 1 = 0 by omega)]
  · rcases db_tr3 hI z with ⟨h1, h2⟩ | ⟨u, hu, rfl, hw2, hT2⟩
    · refine db_GnB 1 hI ?_ fun s1 hS hA => db_217b ht h2
      unfold db_f38 db_f38_b25 db_f38_b62
      simp (disch := omega) only [db_lit, eq_self, db_pI_e, db_pL_e, db_bind_some, db_bd_some, nI_add, pk_mul, nI_toInt, db_m1_t, dz_cn, Int.ofNat_le, Int.ofNat_lt, decide_true, decide_false, db_ct, db_cf, not_true_eq_false, not_false_eq_true, db_87e, db_37e, db_31e, db_28e, db_281e, db_211e, db_27, db_269w, db_litL, pk_lT, db_iL, db_p0_e, db_p0_n, db_p0_j, db_sub1, nI_eq, if_true, if_false, Bool.false_eq_true, db_39b ht h1, (show ¬ 1 = 0 by omega)]
    · rcases hT with ⟨a1, a2⟩ | ⟨n, hn, h12, h671, h11, ⟨k, hk, h670⟩, hp⟩
      · refine db_GnB 3 hI ?_ fun s1 hS hA => db_217c ht hu (by rw [(hS.1 671 t (by unfold db_ec; omega) (by omega)).1]; exact a2)
        unfold db_f38 db_f38_b25 db_f38_b62
        simp (disch := omega) only [db_lit, eq_self, db_pI_e, db_pL_e, db_bind_some, db_bd_some, nI_add, pk_mul, nI_toInt, db_m1_t, dz_cn, Int.ofNat_le, Int.ofNat_lt, decide_true, decide_false, db_ct, db_cf, not_true_eq_false, not_false_eq_true, db_87e, db_37e, db_31e, db_28e, db_281e, db_211e, db_27, db_269w, db_litL, pk_lT, db_iL, db_p0_e, db_p0_n, db_p0_j, db_sub1, nI_eq, if_true, if_false, Bool.false_eq_true, db_39c ht hu a1, (show ¬ 3 = 0 by omega)]
      · rcases hT2 with ⟨a1, a2⟩ | ⟨m, hm, b12, b671, b11, ⟨l, hl, b670⟩, bp⟩
        · refine db_GnB 3 hI ?_ fun s1 hS hA => db_217d ht hu hn (by rw [(hS.1 671 t (by unfold db_ec; omega) (by omega)).1]; exact h671) (by rw [(hS.1 671 u (by unfold db_ec; omega) (by omega)).1]; exact a2)
          unfold db_f38 db_f38_b25 db_f38_b62
          simp (disch := omega) only [db_lit, eq_self, db_pI_e, db_pL_e, db_bind_some, db_bd_some, nI_add, pk_mul, nI_toInt, db_m1_t, dz_cn, Int.ofNat_le, Int.ofNat_lt, decide_true, decide_false, db_ct, db_cf, not_true_eq_false, not_false_eq_true, db_87e, db_37e, db_31e, db_28e, db_281e, db_211e, db_27, db_269w, db_litL, pk_lT, db_iL, db_p0_e, db_p0_n, db_p0_j, db_sub1, nI_eq, if_true, if_false, Bool.false_eq_true, db_39d ht hu hn h12 a1, (show ¬ 3 = 0 by omega)]
        · have f39 := db_39e ht hu hn h12 hm b12 hk hl (h11.trans h670) (b11.trans b670)
          have f217 : ∀ s1 : db_S, (∀ b j, 669 < b → s1.1 b j = s.1 b j) → db_f217 s1 (nI t) y (nI u) q v = if k = l then db_217x (db_p0 s1) (nI t) y (nI u) q v n m else some (false, db_uI (db_p0 s1) 669 0 (nI 11)) := fun s1 hs => db_217e ht hu hn (by rw [hs 671 t (by omega)]; exact h671) hm (by rw [hs 671 u (by omega)]; exact b671) hk hl (by rw [hs 670 t (by omega)]; exact h670) (by rw [hs 670 u (by omega)]; exact b670)
          have hsc : ∀ {st : Int32} {s1 : db_S}, db_Sc st s s1 → ∀ b j, 669 < b → s1.1 b j = s.1 b j := fun hS b j hb => (hS.1 b j (by unfold db_ec; omega) (by omega)).1
          by_cases hkl : k = l
          · rw [if_pos hkl] at f39
            simp only [if_pos hkl] at f217
            unfold db_217x at f217
            by_cases h0 : ((0 : Nat) : Int) ≤ v.toInt
            · by_cases hok : (((0 : Nat) : Int) ≤ y.toInt ∧ y.toInt + v.toInt ≤ n) ∧ (((0 : Nat) : Int) ≤ q.toInt ∧ q.toInt + v.toInt ≤ m)
              · obtain ⟨⟨o1, o2⟩, o3, o4⟩ := hok
                obtain ⟨i, hi, rfl⟩ := db_ofI (x := y) (n := 61) (by omega) (by omega)
                obtain ⟨j, hj, rfl⟩ := db_ofI (x := q) (n := 61) (by omega) (by omega)
                obtain ⟨r, hr, rfl⟩ := db_ofI (x := v) (n := 61) (by omega) (by omega)
                rw [nI_toInt (by omega), nI_toInt (by omega)] at o2 o4
                refine db_GT (t := u) (n := m) (q := nI l) (W := fun p => if j ≤ p ∧ p < j + r then s.2 (7 + t) (i + (p - j)) else s.2 (7 + u) p) (A := true) hI hu hm ⟨l, hl, rfl⟩ ?_ fun s1 hS hA => ?_
                · have d1 : decide (((0 : Nat) : Int) ≤ (i : Int)) = true := decide_eq_true (by omega)
                  have d2 : decide ((i : Int) + (r : Int) ≤ (n : Int)) = true := decide_eq_true (by omega)
                  have d3 : decide (((0 : Nat) : Int) ≤ (j : Int)) = true := decide_eq_true (by omega)
                  have d4 : decide ((j : Int) + (r : Int) ≤ (m : Int)) = true := decide_eq_true (by omega)
                  have f1 := db_40 (y := nI i) (v := nI r) ht hn h12
                  have f2 := db_40 (y := nI j) (v := nI r) hu hm b12
                  rw [nI_toInt (by omega), nI_toInt (by omega), d1, d2, Bool.true_and] at f1
                  rw [nI_toInt (by omega), nI_toInt (by omega), d3, d4, Bool.true_and] at f2
                  unfold db_f38 db_f38_b25 db_f38_b62
                  simp (disch := omega) only [db_lit, eq_self, db_pI_e, db_pL_e, db_bind_some, db_bd_some, nI_add, pk_mul, nI_toInt, db_m1_t, dz_cn, Int.ofNat_le, Int.ofNat_lt, decide_true, decide_false, db_ct, db_cf, not_true_eq_false, not_false_eq_true, db_87e, db_37e, db_31e, db_28e, db_281e, db_211e, db_27, db_269w, db_litL, pk_lT, db_iL, db_p0_e, db_p0_n, db_p0_j, db_sub1, nI_eq, if_true, if_false, Bool.false_eq_true, f39, Nat.zero_le, f1, f2, db_q_6]
                  rw [db_cL_n ht hu (by omega) (by omega)]
                  simp (disch := omega) only [db_lit, eq_self, db_pI_e, db_pL_e, db_bind_some, db_bd_some, nI_add, pk_mul, nI_toInt, db_m1_t, dz_cn, Int.ofNat_le, Int.ofNat_lt, decide_true, decide_false, db_ct, db_cf, not_true_eq_false, not_false_eq_true, db_87e, db_37e, db_31e, db_28e, db_281e, db_211e, db_27, db_269w, db_litL, pk_lT, db_iL, db_p0_e, db_p0_n, db_p0_j, db_sub1, nI_eq, if_true, if_false, Bool.false_eq_true]
                  refine ⟨_, rfl, rfl, _, rfl, fun b j _ _ => rfl, b12, b11.trans b670, fun b hb => ?_, fun p hp1 => ?_⟩
                  · show cond (Nat.beq b (7 + u)) _ _ = _
                    rw [db_beq_ne hb]; rfl
                  · show (cond (Nat.beq (7 + u) (7 + u)) (va_cpy (s.2 (7 + t)) (s.2 (7 + u)) i j r) (s.2 (7 + u))) p = _
                    rw [Nat.beq_refl]
                    rfl
                · have d1 : decide (((0 : Nat) : Int) ≤ (r : Int)) = true := decide_eq_true (by omega)
                  have d2 : decide ((i : Int) < ((0 : Nat) : Int)) = false := decide_eq_false (by omega)
                  have d3 : decide ((j : Int) < ((0 : Nat) : Int)) = false := decide_eq_false (by omega)
                  have d4 : decide ((n : Int) < (i : Int) + (r : Int)) = false := decide_eq_false (by omega)
                  have d5 : decide ((j : Int) + (r : Int) ≤ (m : Int)) = true := decide_eq_true (by omega)
                  rw [f217 s1 (fun b j hb => (hS b j (by omega)).1), nI_toInt (by omega), nI_toInt (by omega), nI_toInt (by omega), d1, d2, d3, d4, d5]
                  have hX := db_153r (s := db_p0 s1) (t := t) (u := u) (i := i) (j := j) (m := r) ht hu (by omega) (by omega) (decide (j ≤ i)) rfl
                  have hY : (cond (decide ((j : Int) ≤ (i : Int))) (db_f217_b153 (db_p0 s1) (nI t) (nI i) (nI u) (nI j) (nI r) (nI 0)) (db_f217_b153 (db_p0 s1) (nI t) (nI i) (nI u) (nI j) (nI r) (nI 1))) = db_f217_b153 (db_p0 s1) (nI t) (nI i) (nI u) (nI j) (nI r) (if decide (j ≤ i) then nI 0 else nI 1) := by
                    by_cases e : j ≤ i
                    · rw [decide_eq_true (show (j : Int) ≤ (i : Int) by omega), decide_eq_true e, db_ct, if_pos rfl]
                    · rw [decide_eq_false (show ¬ (j : Int) ≤ (i : Int) by omega), decide_eq_false e, db_cf, if_neg (by decide)]
                  simp only [db_ct, db_cf]
                  rw [hY]
                  refine db_T_mono hX fun zz hz => ?_
                  obtain ⟨g1, g2, g3, g4, g5⟩ := hz
                  refine ⟨g1, fun b j n1 n2 n3 => ?_, ?_, ?_, ?_, fun b hb => by rw [g3 b hb, db_p0_2], fun x hx => by rw [g4 x (by omega), db_p0_2], fun p hp1 => ?_⟩
                  · rw [g2]
                    by_cases hb : b = 669
                    · subst hb; exact db_p0_j (by omega) (by omega)
                    · rw [db_p0_n hb]
                  · rw [g2]; exact db_p0_0
                  · rw [g2, db_p0_n (by decide), (hS 671 u (by omega)).1]; exact b671
                  · rw [g2, db_p0_n (by decide), (hS 670 u (by omega)).1]; exact b670
                  · by_cases e : j ≤ p ∧ p < j + r
                    · rw [if_pos e]
                      have e2 := g5 (p - j) (by omega)
                      rw [show 60 * u + j + (p - j) = 60 * u + p by omega] at e2
                      rw [e2, db_p0_2, (hS 672 _ (by omega)).2, show 60 * t + i + (p - j) = 60 * t + (i + (p - j)) by omega]
                      exact (hp _ (by omega)).symm
                    · rw [if_neg e, g4 _ (by omega), db_p0_2, (hS 672 _ (by omega)).2]
                      exact (bp p hp1).symm
              · refine db_GnB 4 hI ?_ fun s1 hS hA => ?_
                · unfold db_f38 db_f38_b25 db_f38_b59 db_f38_b62
                  simp (disch := omega) only [db_lit, eq_self, db_pI_e, db_pL_e, db_bind_some, db_bd_some, nI_add, pk_mul, nI_toInt, db_m1_t, dz_cn, Int.ofNat_le, Int.ofNat_lt, decide_true, decide_false, db_ct, db_cf, not_true_eq_false, not_false_eq_true, db_87e, db_37e, db_31e, db_28e, db_281e, db_211e, db_27, db_269w, db_litL, pk_lT, db_iL, db_p0_e, db_p0_n, db_p0_j, db_sub1, nI_eq, if_true, if_false, Bool.false_eq_true, f39, h0, db_40 ht hn h12, db_40 hu hm b12]
                  by_cases e1 : ((0 : Nat) : Int) ≤ y.toInt ∧ y.toInt + v.toInt ≤ n
                  · have e2 : ¬ (((0 : Nat) : Int) ≤ q.toInt ∧ q.toInt + v.toInt ≤ m) := fun h => hok ⟨e1, h⟩
                    rw [decide_eq_true e1.1, decide_eq_true e1.2, ← Bool.decide_and, decide_eq_false e2]
                    simp (disch := omega) only [db_lit, eq_self, db_pI_e, db_pL_e, db_bind_some, db_bd_some, nI_add, pk_mul, nI_toInt, db_m1_t, dz_cn, Int.ofNat_le, Int.ofNat_lt, decide_true, decide_false, db_ct, db_cf, not_true_eq_false, not_false_eq_true, db_87e, db_37e, db_31e, db_28e, db_281e, db_211e, db_27, db_269w, db_litL, pk_lT, db_iL, db_p0_e, db_p0_n, db_p0_j, db_sub1, nI_eq, if_true, if_false, Bool.false_eq_true, Bool.true_and, (show ¬ 4 = 0 by omega)]
                  · rw [← Bool.decide_and, decide_eq_false e1]
                    simp (disch := omega) only [db_lit, eq_self, db_pI_e, db_pL_e, db_bind_some, db_bd_some, nI_add, pk_mul, nI_toInt, db_m1_t, dz_cn, Int.ofNat_le, Int.ofNat_lt, decide_true, decide_false, db_ct, db_cf, not_true_eq_false, not_false_eq_true, db_87e, db_37e, db_31e, db_28e, db_281e, db_211e, db_27, db_269w, db_litL, pk_lT, db_iL, db_p0_e, db_p0_n, db_p0_j, db_sub1, nI_eq, if_true, if_false, Bool.false_eq_true, (show ¬ 4 = 0 by omega)]
                · rw [f217 s1 (hsc hS), decide_eq_true h0, db_ct]
                  by_cases e1 : y.toInt < ((0 : Nat) : Int)
                  · rw [decide_eq_true e1, db_ct]
                  · rw [decide_eq_false e1, db_cf]
                    by_cases e2 : q.toInt < ((0 : Nat) : Int)
                    · rw [decide_eq_true e2, db_ct]
                    · rw [decide_eq_false e2, db_cf]
                      by_cases e3 : (n : Int) < y.toInt + v.toInt
                      · rw [decide_eq_true e3, db_ct]
                      · have e4 : ¬ q.toInt + v.toInt ≤ (m : Int) := fun e4 => hok ⟨⟨by omega, by omega⟩, by omega, e4⟩
                        rw [decide_eq_false e3, db_cf, decide_eq_false e4, db_cf]
            · refine db_GnB 6 hI ?_ fun s1 hS hA => ?_
              · unfold db_f38 db_f38_b25 db_f38_b62
                simp (disch := omega) only [db_lit, eq_self, db_pI_e, db_pL_e, db_bind_some, db_bd_some, nI_add, pk_mul, nI_toInt, db_m1_t, dz_cn, Int.ofNat_le, Int.ofNat_lt, decide_true, decide_false, db_ct, db_cf, not_true_eq_false, not_false_eq_true, db_87e, db_37e, db_31e, db_28e, db_281e, db_211e, db_27, db_269w, db_litL, pk_lT, db_iL, db_p0_e, db_p0_n, db_p0_j, db_sub1, nI_eq, if_true, if_false, Bool.false_eq_true, f39, h0, (show ¬ 6 = 0 by omega)]
              · rw [f217 s1 (hsc hS), decide_eq_false h0, db_cf]
          · rw [if_neg hkl] at f39
            simp only [if_neg hkl] at f217
            refine db_GnB 11 hI ?_ fun s1 hS hA => f217 s1 (hsc hS)
            unfold db_f38 db_f38_b25 db_f38_b62
            simp (disch := omega) only [db_lit, eq_self, db_pI_e, db_pL_e, db_bind_some, db_bd_some, nI_add, pk_mul, nI_toInt, db_m1_t, dz_cn, Int.ofNat_le, Int.ofNat_lt, decide_true, decide_false, db_ct, db_cf, not_true_eq_false, not_false_eq_true, db_87e, db_37e, db_31e, db_28e, db_281e, db_211e, db_27, db_269w, db_litL, pk_lT, db_iL, db_p0_e, db_p0_n, db_p0_j, db_sub1, nI_eq, if_true, if_false, Bool.false_eq_true, f39, (show ¬ 11 = 0 by omega)]
end DBPR
