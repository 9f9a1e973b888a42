/-! THE CLASS'S SCANNER -/
section DVSC
variable {s : db_S} {x : Nat → Int32} {n : Nat} {y : Int32}
theorem dv_11 : db_f11 s y = some (dv_lt y) := by
  unfold db_f11 dv_lt
  simp (disch := omega) only [db_lit, eq_self, db_pI_e, db_pL_e, db_bind_some, db_bd_some, nI_add, pk_mul, nI_toInt, db_m1_t, dz_cn, Int.ofNat_le, Int.ofNat_lt, decide_true, decide_false, db_ct, db_cf, not_true_eq_false, not_false_eq_true]
  by_cases h1 : y.toInt < ((97 : Nat) : Int)
  · rw [decide_eq_true h1, db_ct, decide_eq_false (show ¬ (97 ≤ y.toInt) by omega), Bool.false_and]
  · rw [decide_eq_false h1, db_cf, decide_eq_true (show 97 ≤ y.toInt by omega), Bool.true_and]
    by_cases h2 : ((122 : Nat) : Int) < y.toInt
    · rw [decide_eq_true h2, db_ct, decide_eq_false (by omega)]
    · rw [decide_eq_false h2, db_cf, decide_eq_true (by omega)]
theorem dv_52 : db_f52 s y = some (dv_dg y) := by
  unfold db_f52 dv_dg
  simp (disch := omega) only [db_lit, eq_self, db_pI_e, db_pL_e, db_bind_some, db_bd_some, nI_add, pk_mul, nI_toInt, db_m1_t, dz_cn, Int.ofNat_le, Int.ofNat_lt, decide_true, decide_false, db_ct, db_cf, not_true_eq_false, not_false_eq_true]
  by_cases h1 : y.toInt < ((48 : Nat) : Int)
  · rw [decide_eq_true h1, db_ct, decide_eq_false (show ¬ (48 ≤ y.toInt) by omega), Bool.false_and]
  · rw [decide_eq_false h1, db_cf, decide_eq_true (show 48 ≤ y.toInt by omega), Bool.true_and]
    by_cases h2 : ((57 : Nat) : Int) < y.toInt
    · rw [decide_eq_true h2, db_ct, decide_eq_false (by omega)]
    · rw [decide_eq_false h2, db_cf, decide_eq_true (by omega)]
theorem dv_48 : db_f48 s y = some (dv_bl y) := by
  unfold db_f48 dv_bl
  simp (disch := omega) only [db_lit, eq_self, db_pI_e, db_pL_e, db_bind_some, db_bd_some, nI_add, pk_mul, nI_toInt, db_m1_t, dz_cn, Int.ofNat_le, Int.ofNat_lt, decide_true, decide_false, db_ct, db_cf, not_true_eq_false, not_false_eq_true]
  by_cases h1 : y = nI 10
  · rw [decide_eq_true h1, db_ct, Bool.true_or]
  · rw [decide_eq_false h1, db_cf, Bool.false_or]
    by_cases h2 : y = nI 32
    · rw [decide_eq_true h2, decide_eq_false (fun h => h h2), db_cf]
    · rw [decide_eq_false h2, decide_eq_true h2, db_ct]
theorem dv_54 : db_f54 s y = some (dv_sg y) := by
  unfold db_f54 dv_sg
  simp (disch := omega) only [db_lit, eq_self, db_pI_e, db_pL_e, db_bind_some, db_bd_some, nI_add, pk_mul, nI_toInt, db_m1_t, dz_cn, Int.ofNat_le, Int.ofNat_lt, decide_true, decide_false, db_ct, db_cf, not_true_eq_false, not_false_eq_true]
  by_cases h1 : y = nI 59
  · rw [decide_eq_true h1, db_ct, Bool.true_or]
  · rw [decide_eq_false h1, db_cf, Bool.false_or]
    by_cases h2 : y = nI 60
    · rw [decide_eq_true h2, db_ct, Bool.true_or]
    · rw [decide_eq_false h2, db_cf, Bool.false_or]
      by_cases h3 : y = nI 61
      · rw [decide_eq_true h3, db_ct, Bool.true_or]
      · rw [decide_eq_false h3, db_cf, Bool.false_or]
        by_cases h4 : y = nI 62
        · rw [decide_eq_true h4, decide_eq_false (fun h => h h4), db_cf]
        · rw [decide_eq_false h4, decide_eq_true h4, db_ct]
theorem dv_12 {p c : Nat} (h1 : 97 ≤ c) (h2 : c ≤ 122) : db_f12 s (lN p) (nI c) = some (lN (p * 32 + (c - 96))) := by
  unfold db_f12
  rw [nI_l (by omega), show (32 : Int64) = lN 32 from rfl, show (97 : Int64) = lN 97 from rfl, show (1 : Int64) = lN 1 from rfl, lN_mul, lN_add, lN_sub (by omega), lN_add, show p * 32 + c - 97 + 1 = p * 32 + (c - 96) by omega]
theorem dv_lc {a b : Int64} : (lg_cmp a b = nI 0) = (a = b) := propext (lg_cmp_eq a b)
theorem dv_m1 : (-1 : Int32) = -(nI 1) := rfl
theorem dv_51 (hk : ∀ i, i < 28 → s.2 15 i = db_kw i) {l : Int64} : db_f51 s l = some (dv_kw l) := by
  unfold db_f51
  refine db_srch (L := fun m i => db_f51_b2 s m l (nI i)) (N := 28) (fun i => decide (db_kw i = l)) db_o ?_ ?_ (n := db_FU) (by unfold db_FU; omega)
  · intro m
    show db_f51_b2 s (m + 1) l (nI 28) = _
    rw [db_f51_b2]
    simp (disch := omega) only [db_lit, eq_self, db_pI_e, db_pL_e, db_bind_some, db_bd_some, nI_add, pk_mul, nI_toInt, db_m1_t, dz_cn, Int.ofNat_le, Int.ofNat_lt, decide_true, decide_false, db_ct, db_cf, not_true_eq_false, not_false_eq_true, Nat.le_refl]
    rfl
  · intro m i hi
    show db_f51_b2 s (m + 1) l (nI i) = _
    rw [db_f51_b2]
    simp (disch := omega) only [db_lit, eq_self, db_pI_e, db_pL_e, db_bind_some, db_bd_some, nI_add, pk_mul, nI_toInt, db_m1_t, dz_cn, Int.ofNat_le, Int.ofNat_lt, decide_true, decide_false, db_ct, db_cf, not_true_eq_false, not_false_eq_true, (show ¬ 28 ≤ i by omega), db_g_15, hk i hi, dv_lc]
    by_cases h : db_kw i = l
    · rw [decide_eq_true h, decide_eq_false (fun e => e h)]
      rfl
    · rw [decide_eq_false h, decide_eq_true h]
      rfl
/-- the words -/
theorem dv_50w {k a : Nat} (han : a ≤ n) (hx : ∀ j, j < n → s.1 14 j = x j) (hn : n ≤ 900) (h10 : s.1 13 10 = nI n) : ∀ (t i m : Nat), i + t = dv_W x n a → a ≤ i → t < m → db_f50_b5 m s (nI k) (nI a) (lN (dv_pk x a (min 8 (i - a)))) (nI i) = db_f50_b54 s (nI k) (nI a) (lN (dv_pk x a (min 8 (dv_W x n a - a)))) (nI (dv_W x n a)) := by
  obtain ⟨w1, w2, w3, w4⟩ := dv_W_sp (x := x) hn a
  intro t
  induction t with
  | zero =>
    intro i m hi ha hm
    cases m with
    | zero => omega
    | succ m =>
      have hi' : i = dv_W x n a := by omega
      rw [hi', db_f50_b5, h10]
      by_cases e : n ≤ dv_W x n a
      · simp (disch := omega) only [db_lit, eq_self, db_pI_e, db_pL_e, db_bind_some, db_bd_some, nI_add, pk_mul, nI_toInt, db_m1_t, dz_cn, Int.ofNat_le, Int.ofNat_lt, decide_true, decide_false, db_ct, db_cf, not_true_eq_false, not_false_eq_true, e]
      · have h4 := w4 (by omega)
        simp (disch := omega) only [db_lit, eq_self, db_pI_e, db_pL_e, db_bind_some, db_bd_some, nI_add, pk_mul, nI_toInt, db_m1_t, dz_cn, Int.ofNat_le, Int.ofNat_lt, decide_true, decide_false, db_ct, db_cf, not_true_eq_false, not_false_eq_true, e, db_g_14, hx (dv_W x n a) (by omega), dv_11, h4]
  | succ t IH =>
    intro i m hi ha hm
    cases m with
    | zero => omega
    | succ m =>
      obtain ⟨h1, h2⟩ := w3 i ha (by omega)
      obtain ⟨c, c1, c2, hc⟩ := dv_lt_n h2
      have h3 := IH (i + 1) m (by omega) (by omega) (by omega)
      rw [db_f50_b5, h10]
      unfold db_f50_b48
      simp (disch := omega) only [db_lit, eq_self, db_pI_e, db_pL_e, db_bind_some, db_bd_some, nI_add, pk_mul, nI_toInt, db_m1_t, dz_cn, Int.ofNat_le, Int.ofNat_lt, decide_true, decide_false, db_ct, db_cf, not_true_eq_false, not_false_eq_true, (show ¬ n ≤ i by omega), db_g_14, hx i h1, dv_11, h2, pk_sub ha]
      by_cases e : 8 ≤ i - a
      · simp (disch := omega) only [db_lit, eq_self, db_pI_e, db_pL_e, db_bind_some, db_bd_some, nI_add, pk_mul, nI_toInt, db_m1_t, dz_cn, Int.ofNat_le, Int.ofNat_lt, decide_true, decide_false, db_ct, db_cf, not_true_eq_false, not_false_eq_true, e]
        rw [show min 8 (i - a) = min 8 (i + 1 - a) by omega]
        exact h3
      · simp (disch := omega) only [db_lit, eq_self, db_pI_e, db_pL_e, db_bind_some, db_bd_some, nI_add, pk_mul, nI_toInt, db_m1_t, dz_cn, Int.ofNat_le, Int.ofNat_lt, decide_true, decide_false, db_ct, db_cf, not_true_eq_false, not_false_eq_true, e, hc, dv_12 c1 c2]
        rw [show min 8 (i - a) = i - a by omega]
        have e2 : dv_pk x a (min 8 (i + 1 - a)) = dv_pk x a (i - a) * 32 + (c - 96) := by
          rw [show min 8 (i + 1 - a) = (i - a) + 1 by omega, dv_pk, show a + (i - a) = i by omega, hc, nI_clamp (by omega)]
        rw [← e2]
        exact h3
theorem dv_50 {k a : Nat} (hx : ∀ j, j < n → s.1 14 j = x j) (hn : n ≤ 900) (h10 : s.1 13 10 = nI n) (hkw : ∀ i, i < 28 → s.2 15 i = db_kw i) (ha : a < n) (hk : k < 901) : db_f50 s (nI k) (nI a) = some (nI (dv_W x n a), db_uI (db_uL (db_uI s 16 k (nI 1)) 19 k (dv_L x n a)) 18 k (dv_kw (dv_L x n a))) := by
  obtain ⟨w1, w2, w3, w4⟩ := dv_W_sp (x := x) hn a
  have h := dv_50w (k := k) (a := a) (by omega) hx hn h10 (dv_W x n a - a) a db_FU (by omega) (Nat.le_refl _) (by unfold db_FU; omega)
  unfold db_f50
  rw [Nat.sub_self] at h
  refine h.trans ?_
  unfold db_f50_b54 db_f50_b68 db_f50_b94 db_f50_b114 dv_L
  by_cases e : dv_W x n a - a ≤ 8
  · have hk1 := dv_51 (s := db_uL (db_uI s 16 k (nI 1)) 19 k (lN (dv_pk x a (dv_W x n a - a)))) (l := lN (dv_pk x a (dv_W x n a - a))) (fun i hi => by rw [db_uL_n (by decide)]; exact hkw i hi)
    rw [show min 8 (dv_W x n a - a) = dv_W x n a - a by omega]
    simp (disch := omega) only [db_lit, eq_self, db_pI_e, db_pL_e, db_bind_some, db_bd_some, nI_add, pk_mul, nI_toInt, db_m1_t, dz_cn, Int.ofNat_le, Int.ofNat_lt, decide_true, decide_false, db_ct, db_cf, not_true_eq_false, not_false_eq_true, db_87e, db_37e, db_31e, db_28e, db_281e, db_211e, db_27, db_269w, db_litL, pk_lT, db_iL, db_p0_e, db_p0_n, db_p0_j, db_sub1, nI_eq, if_true, if_false, Bool.false_eq_true, Nat.one_ne_zero, pk_sub w1, (show ¬ 8 < dv_W x n a - a by omega), e, db_h_16, db_h_19, db_h_18, hk1, (show ¬ 1 = 0 by omega)]
  · simp (disch := omega) only [db_lit, eq_self, db_pI_e, db_pL_e, db_bind_some, db_bd_some, nI_add, pk_mul, nI_toInt, db_m1_t, dz_cn, Int.ofNat_le, Int.ofNat_lt, decide_true, decide_false, db_ct, db_cf, not_true_eq_false, not_false_eq_true, db_87e, db_37e, db_31e, db_28e, db_281e, db_211e, db_27, db_269w, db_litL, pk_lT, db_iL, db_p0_e, db_p0_n, db_p0_j, db_sub1, nI_eq, if_true, if_false, Bool.false_eq_true, Nat.one_ne_zero, pk_sub w1, (show 8 < dv_W x n a - a by omega), e, db_h_16, db_h_19, db_h_18]
    rw [show dv_kw (-lN 1) = -(nI 1) from dv_kw_long]
/-- the numbers -/
theorem dv_53w {k a : Nat} (han : a ≤ n) (hx : ∀ j, j < n → s.1 14 j = x j) (hn : n ≤ 900) (h10 : s.1 13 10 = nI n) : ∀ (t i m : Nat), i + t = dv_D x n a → a ≤ i → t < m → db_f53_b5 m s (nI k) (nI a) (nI (dv_nu x a (min 4 (i - a)))) (nI i) = db_f53_b57 s (nI k) (nI a) (nI (dv_nu x a (min 4 (dv_D x n a - a)))) (nI (dv_D x n a)) := by
  obtain ⟨w1, w2, w3, w4⟩ := dv_D_sp (x := x) hn a
  intro t
  induction t with
  | zero =>
    intro i m hi ha hm
    cases m with
    | zero => omega
    | succ m =>
      have hi' : i = dv_D x n a := by omega
      rw [hi', db_f53_b5, h10]
      by_cases e : n ≤ dv_D x n a
      · simp (disch := omega) only [db_lit, eq_self, db_pI_e, db_pL_e, db_bind_some, db_bd_some, nI_add, pk_mul, nI_toInt, db_m1_t, dz_cn, Int.ofNat_le, Int.ofNat_lt, decide_true, decide_false, db_ct, db_cf, not_true_eq_false, not_false_eq_true, e]
      · have h4 := w4 (by omega)
        simp (disch := omega) only [db_lit, eq_self, db_pI_e, db_pL_e, db_bind_some, db_bd_some, nI_add, pk_mul, nI_toInt, db_m1_t, dz_cn, Int.ofNat_le, Int.ofNat_lt, decide_true, decide_false, db_ct, db_cf, not_true_eq_false, not_false_eq_true, e, db_g_14, hx (dv_D x n a) (by omega), dv_52, h4]
  | succ t IH =>
    intro i m hi ha hm
    cases m with
    | zero => omega
    | succ m =>
      obtain ⟨h1, h2⟩ := w3 i ha (by omega)
      obtain ⟨c, c1, c2, hc⟩ := dv_dg_n h2
      have h3 := IH (i + 1) m (by omega) (by omega) (by omega)
      rw [db_f53_b5, h10]
      unfold db_f53_b51
      simp (disch := omega) only [db_lit, eq_self, db_pI_e, db_pL_e, db_bind_some, db_bd_some, nI_add, pk_mul, nI_toInt, db_m1_t, dz_cn, Int.ofNat_le, Int.ofNat_lt, decide_true, decide_false, db_ct, db_cf, not_true_eq_false, not_false_eq_true, (show ¬ n ≤ i by omega), db_g_14, hx i h1, dv_52, h2, pk_sub ha]
      by_cases e : 4 ≤ i - a
      · simp (disch := omega) only [db_lit, eq_self, db_pI_e, db_pL_e, db_bind_some, db_bd_some, nI_add, pk_mul, nI_toInt, db_m1_t, dz_cn, Int.ofNat_le, Int.ofNat_lt, decide_true, decide_false, db_ct, db_cf, not_true_eq_false, not_false_eq_true, e]
        rw [show min 4 (i - a) = min 4 (i + 1 - a) by omega]
        exact h3
      · simp (disch := omega) only [db_lit, eq_self, db_pI_e, db_pL_e, db_bind_some, db_bd_some, nI_add, pk_mul, nI_toInt, db_m1_t, dz_cn, Int.ofNat_le, Int.ofNat_lt, decide_true, decide_false, db_ct, db_cf, not_true_eq_false, not_false_eq_true, e, hc, pk_sub (show 48 ≤ dv_nu x a (min 4 (i - a)) * 10 + c by omega)]
        rw [show min 4 (i - a) = i - a by omega]
        have e2 : dv_nu x a (min 4 (i + 1 - a)) = dv_nu x a (i - a) * 10 + c - 48 := by
          rw [show min 4 (i + 1 - a) = (i - a) + 1 by omega, dv_nu, show a + (i - a) = i by omega, hc, nI_clamp (by omega)]
          omega
        rw [← e2]
        exact h3
theorem dv_53 {k a : Nat} (hx : ∀ j, j < n → s.1 14 j = x j) (hn : n ≤ 900) (h10 : s.1 13 10 = nI n) (ha : a < n) (hk : k < 901) : db_f53 s (nI k) (nI a) = some (nI (dv_D x n a), db_uI (db_uI s 16 k (if dv_D x n a - a ≤ 4 then nI 2 else nI 4)) 18 k (nI (dv_nu x a (min 4 (dv_D x n a - a))))) := by
  obtain ⟨w1, w2, w3, w4⟩ := dv_D_sp (x := x) hn a
  have h := dv_53w (k := k) (a := a) (by omega) hx hn h10 (dv_D x n a - a) a db_FU (by omega) (Nat.le_refl _) (by unfold db_FU; omega)
  unfold db_f53
  rw [Nat.sub_self] at h
  refine h.trans ?_
  unfold db_f53_b57 db_f53_b75
  by_cases e : dv_D x n a - a ≤ 4
  · simp (disch := omega) only [db_lit, eq_self, db_pI_e, db_pL_e, db_bind_some, db_bd_some, nI_add, pk_mul, nI_toInt, db_m1_t, dz_cn, Int.ofNat_le, Int.ofNat_lt, decide_true, decide_false, db_ct, db_cf, not_true_eq_false, not_false_eq_true, db_87e, db_37e, db_31e, db_28e, db_281e, db_211e, db_27, db_269w, db_litL, pk_lT, db_iL, db_p0_e, db_p0_n, db_p0_j, db_sub1, nI_eq, if_true, if_false, Bool.false_eq_true, Nat.one_ne_zero, pk_sub w1, (show ¬ 4 < dv_D x n a - a by omega), e, db_h_16, db_h_18]
  · simp (disch := omega) only [db_lit, eq_self, db_pI_e, db_pL_e, db_bind_some, db_bd_some, nI_add, pk_mul, nI_toInt, db_m1_t, dz_cn, Int.ofNat_le, Int.ofNat_lt, decide_true, decide_false, db_ct, db_cf, not_true_eq_false, not_false_eq_true, db_87e, db_37e, db_31e, db_28e, db_281e, db_211e, db_27, db_269w, db_litL, pk_lT, db_iL, db_p0_e, db_p0_n, db_p0_j, db_sub1, nI_eq, if_true, if_false, Bool.false_eq_true, Nat.one_ne_zero, pk_sub w1, (show 4 < dv_D x n a - a by omega), e, db_h_16, db_h_18]
/-- what stands in the class's rows of tokens for the token at a place -/
def dv_TC (x : Nat → Int32) (n a k : Nat) (s : db_S) : Prop := s.1 17 k = nI a ∧ s.1 16 k = nI (dv_K x n a) ∧ (dv_K x n a = 1 → s.2 19 k = dv_L x n a ∧ s.1 18 k = dv_kw (dv_L x n a)) ∧ (dv_K x n a = 2 ∨ dv_K x n a = 3 → s.1 18 k = dv_V x n a)
/-- the class's rows of tokens alone have changed, at one place -/
def dv_Fk (k : Nat) (s z : db_S) : Prop := (∀ b, ¬ (16 ≤ b ∧ b ≤ 19) → z.1 b = s.1 b ∧ z.2 b = s.2 b) ∧ ∀ b j, j ≠ k → z.1 b j = s.1 b j ∧ z.2 b j = s.2 b j
theorem dv_Fk_r {k : Nat} : dv_Fk k s s := ⟨fun _ _ => ⟨rfl, rfl⟩, fun _ _ _ => ⟨rfl, rfl⟩⟩
theorem dv_Fk_u {k b : Nat} {v : Int32} {z : db_S} (h : dv_Fk k s z) (hb : 16 ≤ b ∧ b ≤ 19) : dv_Fk k s (db_uI z b k v) := ⟨fun c hc => by rw [db_uI_n (by omega), db_uI_2]; exact h.1 c hc, fun c j hj => by rw [db_uI_j hj, db_uI_2]; exact h.2 c j hj⟩
theorem dv_Fk_l {k b : Nat} {v : Int64} {z : db_S} (h : dv_Fk k s z) (hb : 16 ≤ b ∧ b ≤ 19) : dv_Fk k s (db_uL z b k v) := ⟨fun c hc => by rw [db_uL_n (by omega), db_uL_2]; exact h.1 c hc, fun c j hj => by rw [db_uL_j hj, db_uL_2]; exact h.2 c j hj⟩
theorem dv_49 {k a : Nat} (hx : ∀ j, j < n → s.1 14 j = x j) (hn : n ≤ 900) (h10 : s.1 13 10 = nI n) (hkw : ∀ i, i < 28 → s.2 15 i = db_kw i) (ha : a < n) (hk : k < 901) : dz_T (db_f49 s (nI k) (nI a)) (fun z => z.1 = nI (dv_Q x n a) ∧ dv_TC x n a k z.2 ∧ dv_Fk k s z.2) := by
  have n17 : ∀ {b : Nat} {v : Int32}, b ≠ 17 → (db_uI s 17 k v).1 b = s.1 b := fun h => db_uI_n h
  have e14 : (db_uI s 17 k (nI a)).1 14 a = x a := by rw [db_uI_n (by decide)]; exact hx a ha
  unfold db_f49 dv_Q dv_TC dv_K dv_V
  rw [if_neg (show ¬ n ≤ a by omega), if_neg (show ¬ n ≤ a by omega)]
  simp (disch := omega) only [db_lit, eq_self, db_pI_e, db_pL_e, db_bind_some, db_bd_some, nI_add, pk_mul, nI_toInt, db_m1_t, dz_cn, Int.ofNat_le, Int.ofNat_lt, decide_true, decide_false, db_ct, db_cf, not_true_eq_false, not_false_eq_true, db_h_17, db_g_14, e14, dv_11, dv_52, dv_54]
  cases h1 : dv_lt (x a) with
  | true =>
    have f := dv_50 (x := x) (s := db_uI s 17 k (nI a)) (k := k) (a := a) (fun j hj => by rw [db_uI_n (by decide)]; exact hx j hj) hn (by rw [db_uI_n (by decide)]; exact h10) hkw ha hk
    simp (disch := omega) only [db_lit, eq_self, db_pI_e, db_pL_e, db_bind_some, db_bd_some, nI_add, pk_mul, nI_toInt, db_m1_t, dz_cn, Int.ofNat_le, Int.ofNat_lt, decide_true, decide_false, db_ct, db_cf, not_true_eq_false, not_false_eq_true, db_87e, db_37e, db_31e, db_28e, db_281e, db_211e, db_27, db_269w, db_litL, pk_lT, db_iL, db_p0_e, db_p0_n, db_p0_j, db_sub1, nI_eq, if_true, if_false, Bool.false_eq_true, Nat.one_ne_zero, f, (show ¬ 1 = 2 by omega), (show ¬ 1 = 3 by omega)]
    refine ⟨_, rfl, rfl, ⟨?_, ?_, fun _ => ⟨?_, ?_⟩, fun h => ?_⟩, dv_Fk_u (dv_Fk_l (dv_Fk_u (dv_Fk_u dv_Fk_r (by omega)) (by omega)) (by omega)) (by omega)⟩
    · show (db_uI (db_uL (db_uI (db_uI s 17 k (nI a)) 16 k (nI 1)) 19 k _) 18 k _).1 17 k = _
      rw [db_uI_n (by decide), db_uL_2, db_uI_n (by decide), db_uI_1]
    · show (db_uI (db_uL (db_uI (db_uI s 17 k (nI a)) 16 k (nI 1)) 19 k _) 18 k _).1 16 k = _
      rw [db_uI_n (by decide), db_uL_2, db_uI_1]
    · show (db_uI (db_uL (db_uI (db_uI s 17 k (nI a)) 16 k (nI 1)) 19 k _) 18 k _).2 19 k = _
      rw [db_uI_2, db_uL_1]
    · show (db_uI (db_uL (db_uI (db_uI s 17 k (nI a)) 16 k (nI 1)) 19 k _) 18 k _).1 18 k = _
      rw [db_uI_1]
    · rcases h with h | h <;> exact absurd h (by decide)
  | false =>
    cases h2 : dv_dg (x a) with
    | true =>
      have f := dv_53 (x := x) (s := db_uI s 17 k (nI a)) (k := k) (a := a) (fun j hj => by rw [db_uI_n (by decide)]; exact hx j hj) hn (by rw [db_uI_n (by decide)]; exact h10) ha hk
      simp (disch := omega) only [db_lit, eq_self, db_pI_e, db_pL_e, db_bind_some, db_bd_some, nI_add, pk_mul, nI_toInt, db_m1_t, dz_cn, Int.ofNat_le, Int.ofNat_lt, decide_true, decide_false, db_ct, db_cf, not_true_eq_false, not_false_eq_true, db_87e, db_37e, db_31e, db_28e, db_281e, db_211e, db_27, db_269w, db_litL, pk_lT, db_iL, db_p0_e, db_p0_n, db_p0_j, db_sub1, nI_eq, if_true, if_false, Bool.false_eq_true, Nat.one_ne_zero, f]
      refine ⟨_, rfl, rfl, ⟨?_, ?_, fun h => ?_, fun h => ?_⟩, dv_Fk_u (dv_Fk_u (dv_Fk_u dv_Fk_r (by omega)) (by omega)) (by omega)⟩
      · show (db_uI (db_uI (db_uI s 17 k (nI a)) 16 k _) 18 k _).1 17 k = _
        rw [db_uI_n (by decide), db_uI_n (by decide), db_uI_1]
      · show (db_uI (db_uI (db_uI s 17 k (nI a)) 16 k _) 18 k _).1 16 k = _
        rw [db_uI_n (by decide), db_uI_1]
        by_cases e : dv_D x n a - a ≤ 4
        · rw [if_pos e, if_pos e]
        · rw [if_neg e, if_neg e]
      · exfalso
        by_cases e : dv_D x n a - a ≤ 4
        · rw [if_pos e] at h; omega
        · rw [if_neg e] at h; omega
      · show (db_uI (db_uI (db_uI s 17 k (nI a)) 16 k _) 18 k _).1 18 k = _
        rw [db_uI_1]
    | false =>
      cases h3 : dv_sg (x a) with
      | true =>
        unfold db_f49_b67
        have e2 : (db_uI (db_uI s 17 k (nI a)) 16 k (nI 3)).1 14 a = x a := by rw [db_uI_n (by decide)]; exact e14
        simp (disch := omega) only [db_lit, eq_self, db_pI_e, db_pL_e, db_bind_some, db_bd_some, nI_add, pk_mul, nI_toInt, db_m1_t, dz_cn, Int.ofNat_le, Int.ofNat_lt, decide_true, decide_false, db_ct, db_cf, not_true_eq_false, not_false_eq_true, db_87e, db_37e, db_31e, db_28e, db_281e, db_211e, db_27, db_269w, db_litL, pk_lT, db_iL, db_p0_e, db_p0_n, db_p0_j, db_sub1, nI_eq, if_true, if_false, Bool.false_eq_true, Nat.one_ne_zero, db_h_16, db_g_14, e2, db_h_18]
        refine ⟨_, rfl, rfl, ⟨?_, ?_, fun h => absurd h (by decide), fun h => ?_⟩, dv_Fk_u (dv_Fk_u (dv_Fk_u dv_Fk_r (by omega)) (by omega)) (by omega)⟩
        · show (db_uI (db_uI (db_uI s 17 k (nI a)) 16 k _) 18 k _).1 17 k = _
          rw [db_uI_n (by decide), db_uI_n (by decide), db_uI_1]
        · show (db_uI (db_uI (db_uI s 17 k (nI a)) 16 k _) 18 k _).1 16 k = _
          rw [db_uI_n (by decide), db_uI_1]
        · show (db_uI (db_uI (db_uI s 17 k (nI a)) 16 k _) 18 k _).1 18 k = _
          rw [db_uI_1]
      | false =>
        unfold db_f49_b67
        have e2 : (db_uI (db_uI s 17 k (nI a)) 16 k (nI 4)).1 14 a = x a := by rw [db_uI_n (by decide)]; exact e14
        simp (disch := omega) only [db_lit, eq_self, db_pI_e, db_pL_e, db_bind_some, db_bd_some, nI_add, pk_mul, nI_toInt, db_m1_t, dz_cn, Int.ofNat_le, Int.ofNat_lt, decide_true, decide_false, db_ct, db_cf, not_true_eq_false, not_false_eq_true, db_87e, db_37e, db_31e, db_28e, db_281e, db_211e, db_27, db_269w, db_litL, pk_lT, db_iL, db_p0_e, db_p0_n, db_p0_j, db_sub1, nI_eq, if_true, if_false, Bool.false_eq_true, Nat.one_ne_zero, db_h_16, db_g_14, e2, db_h_18]
        refine ⟨_, rfl, rfl, ⟨?_, ?_, fun h => absurd h (by decide), fun h => absurd h (by decide)⟩, dv_Fk_u (dv_Fk_u (dv_Fk_u dv_Fk_r (by omega)) (by omega)) (by omega)⟩
        · show (db_uI (db_uI (db_uI s 17 k (nI a)) 16 k _) 18 k _).1 17 k = _
          rw [db_uI_n (by decide), db_uI_n (by decide), db_uI_1]
        · show (db_uI (db_uI (db_uI s 17 k (nI a)) 16 k _) 18 k _).1 16 k = _
          rw [db_uI_n (by decide), db_uI_1]
/-- all tokens laid out -/
def dv_TA (x : Nat → Int32) (n : Nat) (s : db_S) : Prop := ∀ i, dv_ok x n i → s.1 17 i = nI (dv_P x n i) ∧ s.1 16 i = nI (dv_K x n (dv_P x n i)) ∧ (dv_K x n (dv_P x n i) = 1 → s.2 19 i = dv_L x n (dv_P x n i) ∧ s.1 18 i = dv_kw (dv_L x n (dv_P x n i))) ∧ (dv_K x n (dv_P x n i) = 2 ∨ dv_K x n (dv_P x n i) = 3 → s.1 18 i = dv_V x n (dv_P x n i)) ∧ s.1 13 2 = nI 0 ∧ s.1 13 3 = -(nI 1)
def dv_Ft (s z : db_S) : Prop := (∀ b, b ≠ 13 → ¬ (16 ≤ b ∧ b ≤ 19) → z.1 b = s.1 b ∧ z.2 b = s.2 b) ∧ (∀ j, j ≠ 2 → j ≠ 3 → j ≠ 9 → j ≠ 10 → z.1 13 j = s.1 13 j) ∧ z.2 13 = s.2 13
theorem dv_47 (hx : ∀ j, j < n → s.1 14 j = x j) (hn : n ≤ 900) (hkw : ∀ i, i < 28 → s.2 15 i = db_kw i) : dz_T (db_f47 s (nI n)) (fun z => dv_TA x n z ∧ z.1 13 10 = nI n ∧ z.1 13 9 = nI 0 ∧ z.1 13 2 = nI 0 ∧ z.1 13 3 = -(nI 1) ∧ dv_Ft s z) := by
  unfold db_f47
  have hif : (if (900 : Int32) < nI n then (900 : Int32) else nI n) = nI n := by
    refine if_neg fun h => ?_
    rw [fa_lt, show (900 : Int32) = nI 900 from rfl, nI_toInt (by omega), nI_toInt (by omega)] at h
    omega
  rw [hif]
  simp (disch := omega) only [db_lit, eq_self, db_pI_e, db_pL_e, db_bind_some, db_bd_some, nI_add, pk_mul, nI_toInt, db_m1_t, dz_cn, Int.ofNat_le, Int.ofNat_lt, decide_true, decide_false, db_ct, db_cf, not_true_eq_false, not_false_eq_true]
  generalize hs0 : db_uI (db_uI (db_uI (db_uI s 13 10 (nI n)) 13 9 (nI 0)) 13 2 (nI 0)) 13 3 (-(nI 1)) = s0
  have b13 : ∀ b, b ≠ 13 → s0.1 b = s.1 b := fun b hb => by rw [← hs0, db_uI_n hb, db_uI_n hb, db_uI_n hb, db_uI_n hb]
  have b2 : s0.2 = s.2 := by rw [← hs0, db_uI_2, db_uI_2, db_uI_2, db_uI_2]
  have b10 : s0.1 13 10 = nI n := by rw [← hs0, db_uI_j (by decide), db_uI_j (by decide), db_uI_j (by decide), db_uI_1]
  have bj : ∀ j, j ≠ 2 → j ≠ 3 → j ≠ 9 → j ≠ 10 → s0.1 13 j = s.1 13 j := fun j h1 h2 h3 h4 => by rw [← hs0, db_uI_j h2, db_uI_j h1, db_uI_j h3, db_uI_j h4]
  have key : ∀ (t v m k : Nat) (a : db_S), v + t = n → t < m → dv_ok x n k → v ≤ dv_P x n k → (∀ j, j < k → dv_TC x n (dv_P x n j) j a) → (∀ b, ¬ (16 ≤ b ∧ b ≤ 19) → a.1 b = s0.1 b ∧ a.2 b = s0.2 b) → dz_T (db_f47_b33 m a (nI k) (nI (dv_b x n k)) (nI v)) (fun z => dv_TA x n z ∧ ∀ b, ¬ (16 ≤ b ∧ b ≤ 19) → z.1 b = s0.1 b ∧ z.2 b = s0.2 b) := by
    intro t
    induction t with
    | zero =>
      intro v m k a hv hm hk hP hT hF
      cases m with
      | zero => omega
      | succ m =>
        have hvn : v = n := by omega
        subst hvn
        have hkb := dv_ok_le hn hk
        obtain ⟨p1, p2, p3⟩ := dv_b_le (x := x) hn k
        have hPn : dv_P x v k = v := by omega
        have e10 : a.1 13 10 = nI v := by rw [(hF 13 (by omega)).1]; exact b10
        rw [db_f47_b33, e10]
        have e10' : (db_uI a 16 k (nI 0)).1 13 10 = nI v := by rw [db_uI_n (by decide)]; exact e10
        simp (disch := omega) only [db_lit, eq_self, db_pI_e, db_pL_e, db_bind_some, db_bd_some, nI_add, pk_mul, nI_toInt, db_m1_t, dz_cn, Int.ofNat_le, Int.ofNat_lt, decide_true, decide_false, db_ct, db_cf, not_true_eq_false, not_false_eq_true, Nat.le_refl, db_h_16, e10', db_h_17]
        have h132 : (db_uI (db_uI a 16 k (nI 0)) 17 k (nI v)).1 13 2 = nI 0 := by rw [db_uI_n (by decide), db_uI_n (by decide), (hF 13 (by omega)).1, ← hs0, db_uI_j (by decide), db_uI_1]
        have h133 : (db_uI (db_uI a 16 k (nI 0)) 17 k (nI v)).1 13 3 = -(nI 1) := by rw [db_uI_n (by decide), db_uI_n (by decide), (hF 13 (by omega)).1, ← hs0, db_uI_1]
        refine ⟨_, rfl, fun i hi => ?_, fun b hb => ?_⟩
        · by_cases hik : i = k
          · subst hik
            have hK : dv_K x v (dv_P x v i) = 0 := dv_K0.mpr (by omega)
            rw [hK, hPn]
            refine ⟨db_uI_1, ?_, fun h => absurd h (by decide), fun h => absurd h (by decide), h132, h133⟩
            rw [db_uI_n (by decide), db_uI_1]
          · have hlt : i < k := by
              refine Nat.lt_of_not_le fun h => ?_
              have := hi k (by omega)
              omega
            obtain ⟨q1, q2, q3, q4⟩ := hT i hlt
            refine ⟨?_, ?_, fun h => ⟨?_, ?_⟩, fun h => ?_, h132, h133⟩
            · rw [db_uI_j hik, db_uI_j hik]; exact q1
            · rw [db_uI_j hik, db_uI_j hik]; exact q2
            · rw [db_uI_2, db_uI_2]; exact (q3 h).1
            · rw [db_uI_j hik, db_uI_j hik]; exact (q3 h).2
            · rw [db_uI_j hik, db_uI_j hik]; exact q4 h
        · rw [db_uI_n (by omega), db_uI_n (by omega), db_uI_2, db_uI_2]
          exact hF b hb
    | succ t IH =>
      intro v m k a hv hm hk hP hT hF
      cases m with
      | zero => omega
      | succ m =>
        have hkb := dv_ok_le hn hk
        obtain ⟨p1, p2, p3⟩ := dv_b_le (x := x) hn k
        have e10 : a.1 13 10 = nI n := by rw [(hF 13 (by omega)).1]; exact b10
        have e14 : ∀ j, j < n → a.1 14 j = x j := fun j hj => by rw [(hF 14 (by omega)).1, b13 14 (by decide)]; exact hx j hj
        have hsp := dv_A_sp (x := x) hn (dv_b x n k)
        rw [db_f47_b33, e10]
        unfold db_f47_b72
        by_cases e1 : v < dv_b x n k
        · simp (disch := omega) only [db_lit, eq_self, db_pI_e, db_pL_e, db_bind_some, db_bd_some, nI_add, pk_mul, nI_toInt, db_m1_t, dz_cn, Int.ofNat_le, Int.ofNat_lt, decide_true, decide_false, db_ct, db_cf, not_true_eq_false, not_false_eq_true, (show ¬ n ≤ v by omega), e1]
          exact IH (v + 1) m k a (by omega) (by omega) hk (by omega) hT hF
        · cases hbl : dv_bl (x v) with
          | true =>
            simp (disch := omega) only [db_lit, eq_self, db_pI_e, db_pL_e, db_bind_some, db_bd_some, nI_add, pk_mul, nI_toInt, db_m1_t, dz_cn, Int.ofNat_le, Int.ofNat_lt, decide_true, decide_false, db_ct, db_cf, not_true_eq_false, not_false_eq_true, (show ¬ n ≤ v by omega), e1, db_g_14, e14 v (by omega), dv_48, hbl]
            refine IH (v + 1) m k a (by omega) (by omega) hk ?_ hT hF
            refine Nat.lt_of_le_of_ne hP fun h => ?_
            have h4 := hsp.2.2.2 (by show dv_P x n k < n; omega)
            have h4' : dv_bl (x (dv_P x n k)) = false := h4
            rw [← h, hbl] at h4'
            cases h4'
          | false =>
            have hPv : dv_P x n k = v := by
              refine Nat.le_antisymm (Nat.le_of_not_lt fun h => ?_) hP
              have := (hsp.2.2.1 v (by omega) h).2
              rw [hbl] at this
              cases this
            simp (disch := omega) only [db_lit, eq_self, db_pI_e, db_pL_e, db_bind_some, db_bd_some, nI_add, pk_mul, nI_toInt, db_m1_t, dz_cn, Int.ofNat_le, Int.ofNat_lt, decide_true, decide_false, db_ct, db_cf, not_true_eq_false, not_false_eq_true, (show ¬ n ≤ v by omega), e1, db_g_14, e14 v (by omega), dv_48, hbl]
            refine db_T_gd (dv_49 (x := x) (k := k) (a := v) e14 hn e10 (fun i hi => by rw [(hF 15 (by omega)).2, b2]; exact hkw i hi) (by omega) (by omega)) fun q z hz => ?_
            obtain ⟨z1, z2, z3⟩ := hz
            dsimp only at z1 z2 z3
            have hb' : dv_b x n (k + 1) = dv_Q x n v := by
              show dv_Q x n (dv_P x n k) = _
              rw [hPv]
            have hlt := dv_b_s (x := x) hn (i := k) (by omega)
            have hle := (dv_b_le (x := x) hn (k + 1)).2.1
            rw [z1, ← hb']
            refine IH (v + 1) m (k + 1) z (by omega) (by omega) (fun j hj => ?_) (by omega) (fun j hj => ?_) (fun b hb => ?_)
            · by_cases e : j = k
              · subst e; omega
              · exact hk j (by omega)
            · by_cases e : j = k
              · subst e; rw [hPv]; exact z2
              · obtain ⟨q1, q2, q3, q4⟩ := hT j (by omega)
                refine ⟨by rw [(z3.2 17 j e).1]; exact q1, by rw [(z3.2 16 j e).1]; exact q2, fun h => ⟨by rw [(z3.2 19 j e).2]; exact (q3 h).1, by rw [(z3.2 18 j e).1]; exact (q3 h).2⟩, fun h => by rw [(z3.2 18 j e).1]; exact q4 h⟩
            · rw [(z3.1 b hb).1, (z3.1 b hb).2]
              exact hF b hb
  refine db_T_mono (key n 0 db_FU 0 s0 (by omega) (by unfold db_FU; omega) (fun j hj => absurd hj (by omega)) (Nat.zero_le _) (fun j hj => absurd hj (by omega)) (fun b _ => ⟨rfl, rfl⟩)) fun z hz => ?_
  obtain ⟨z1, z2⟩ := hz
  have z13 := (z2 13 (by omega)).1
  refine ⟨z1, by rw [z13]; exact b10, by rw [z13, ← hs0, db_uI_j (by decide), db_uI_j (by decide), db_uI_1], by rw [z13, ← hs0, db_uI_j (by decide), db_uI_1], by rw [z13, ← hs0, db_uI_1], fun b h1 h2 => ?_, fun j h1 h2 h3 h4 => by rw [z13]; exact bj j h1 h2 h3 h4, by rw [(z2 13 (by omega)).2, b2]⟩
  rw [(z2 b h2).1, (z2 b h2).2, b13 b h1, b2]
  exact ⟨rfl, rfl⟩
end DVSC
