/-! THE TRAYS -/
/-- a value stored in a tray of sort q -/
def db_cnv (q : Int32) (v : Int64) : Int64 := if q = nI 0 then Int32.toInt64 (Int32.toInt8 (Int64.toInt32 v)).toInt32 else if q = nI 1 then Int32.toInt64 (Int32.toInt16 (Int64.toInt32 v)).toInt32 else if q = nI 2 then Int32.toInt64 (Int64.toInt32 v) else v
section DBTR
variable {U : Nat} {s : db_S} {c : db_C} {w : Nat → Int64} {v x y z p q : Int32}
theorem db_35 {t k : Nat} {v : Int64} (ht : t < 4) (hk : k < 60) : db_f35 s (nI t) (nI k) v = some (db_uL s (7 + t) k (db_cnv (s.1 11 t) v)) := by
  unfold db_f35 db_cnv
  simp (disch := omega) only [db_lit, eq_self, db_pI_e, db_pL_e, db_bind_some, db_bd_some, nI_add, pk_mul, nI_toInt, db_m1_t, dz_cn, Int.ofNat_le, Int.ofNat_lt, decide_true, decide_false, db_ct, db_cf, not_true_eq_false, not_false_eq_true, db_g_11, db_q_6, db_h_7]
  by_cases h0 : s.1 11 t = nI 0
  · simp only [h0, if_true]
  · by_cases h1 : s.1 11 t = nI 1
    · simp only [h0, h1, if_true, if_false]
      rfl
    · by_cases h2 : s.1 11 t = nI 2
      · simp only [h0, h1, h2, if_true, if_false]
        rfl
      · simp only [h0, h1, h2, if_false]
theorem db_215 {v : Int64} : db_f215 s q v = some (db_cnv q v) := by
  unfold db_f215 db_cnv
  simp (disch := omega) only [db_lit, eq_self, db_pI_e, db_pL_e, db_bind_some, db_bd_some, nI_add, pk_mul, nI_toInt, db_m1_t, dz_cn, Int.ofNat_le, Int.ofNat_lt, decide_true, decide_false, db_ct, db_cf, not_true_eq_false, not_false_eq_true]
  by_cases h0 : q = nI 0
  · simp only [h0, not_true_eq_false, decide_false, db_cf, if_true]
  · by_cases h1 : q = nI 1
    · have h10 : ¬ nI 1 = nI 0 := by decide
      simp only [h1, h10, not_true_eq_false, not_false_eq_true, decide_true, decide_false, db_ct, db_cf, if_true, if_false]
    · by_cases h2 : q = nI 2
      · have h20 : ¬ nI 2 = nI 0 := by decide
        have h21 : ¬ nI 2 = nI 1 := by decide
        simp only [h2, h20, h21, not_true_eq_false, not_false_eq_true, decide_true, decide_false, db_ct, db_cf, if_true, if_false]
      · simp only [h0, h1, h2, not_false_eq_true, decide_true, db_ct, if_false]
/-- an open tray -/
def dz_op (s : db_S) (t n : Nat) : Prop := n ≤ 60 ∧ s.1 12 t = nI n ∧ s.1 671 t = nI n ∧ s.1 11 t = s.1 670 t ∧ (∃ q, q < 4 ∧ s.1 670 t = nI q) ∧ ∀ p, p < n → s.2 (7 + t) p = s.2 672 (60 * t + p)
theorem db_tray (hI : db_Inv U s) {t : Nat} (ht : t < 4) : (s.1 12 t = -(nI 1) ∧ s.1 671 t = -(nI 1)) ∨ ∃ n, dz_op s t n := by
  obtain ⟨h1, h2⟩ := hI.2.2.1 t ht
  rcases h2 with h2 | ⟨n, h2, h3, h4, h5, h6⟩
  · exact .inl ⟨h2, h1 ▸ h2⟩
  · exact .inr ⟨n, h2, h3, h1 ▸ h3, h4, h5, h6⟩
theorem db_wi_f {a b : Nat} (h : db_wi x (a : Int) (b : Int) = false) : x.toInt < a ∨ (b : Int) < x.toInt := by
  simp only [db_wi, Bool.and_eq_false_iff, decide_eq_false_iff_not] at h
  omega
/-- which tray -/
theorem db_tr3 (hI : db_Inv U s) (x : Int32) : (db_wi x ((0 : Nat) : Int) ((3 : Nat) : Int) = false ∧ (x.toInt < 0 ∨ (0 ≤ x.toInt ∧ 4 ≤ x.toInt))) ∨ ∃ t, t < 4 ∧ x = nI t ∧ db_wi (nI t) ((0 : Nat) : Int) ((3 : Nat) : Int) = true ∧ ((s.1 12 t = -(nI 1) ∧ s.1 671 t = -(nI 1)) ∨ ∃ n, dz_op s t n) := by
  cases h : db_wi x ((0 : Nat) : Int) ((3 : Nat) : Int) with
  | false => refine .inl ⟨rfl, ?_⟩; have := db_wi_f h; omega
  | true =>
    obtain ⟨t, h1, -, rfl⟩ := db_wi_t (by decide) (by decide) h
    exact .inr ⟨t, h1, rfl, h, db_tray hI h1⟩
theorem db_33 : db_f33 s x = if db_wi x ((0 : Nat) : Int) ((3 : Nat) : Int) = true then (db_rI s 12 x).bind (fun x3 => cond (db_cnd .ne x3 (-1 : Int32)) (some (nI 0)) (some (nI 3))) else some (nI 1) := by
  unfold db_f33 db_f26
  simp (disch := omega) only [db_lit, eq_self, db_pI_e, db_pL_e, db_bind_some, db_bd_some, nI_add, pk_mul, nI_toInt, db_m1_t, dz_cn, Int.ofNat_le, Int.ofNat_lt, decide_true, decide_false, db_ct, db_cf, not_true_eq_false, not_false_eq_true, db_87e, db_37e, db_31e, db_28e, db_281e, db_211e, db_27, db_269w, db_litL, pk_lT, db_iL, db_p0_e, db_p0_n, db_p0_j, db_sub1, nI_eq, if_true, if_false, Bool.false_eq_true]
  cases db_wi x ((0 : Nat) : Int) ((3 : Nat) : Int) with
  | true => rfl
  | false => rfl
theorem db_m1_l : (-1 : Int32) = -(nI 1) := by decide
theorem db_33c {t : Nat} (ht : t < 4) (h : s.1 12 t = -(nI 1)) : db_f33 s (nI t) = some (nI 3) := by
  have hw : db_wi (nI t) ((0 : Nat) : Int) ((3 : Nat) : Int) = true := by
    unfold db_wi
    rw [nI_toInt (by omega), decide_eq_true (by omega), decide_eq_true (by omega)]
    rfl
  rw [db_33, if_pos hw]
  simp (disch := omega) only [db_lit, eq_self, db_pI_e, db_pL_e, db_bind_some, db_bd_some, nI_add, pk_mul, nI_toInt, db_m1_t, dz_cn, Int.ofNat_le, Int.ofNat_lt, decide_true, decide_false, db_ct, db_cf, not_true_eq_false, not_false_eq_true, db_g_12, h, db_m1_l]
theorem db_33o {t n : Nat} (ht : t < 4) (hn : n ≤ 60) (h : s.1 12 t = nI n) : db_f33 s (nI t) = some (nI 0) := by
  have hw : db_wi (nI t) ((0 : Nat) : Int) ((3 : Nat) : Int) = true := by
    unfold db_wi
    rw [nI_toInt (by omega), decide_eq_true (by omega), decide_eq_true (by omega)]
    rfl
  have hx := db_m1_ne (k := n) (by omega)
  rw [db_33, if_pos hw]
  simp (disch := omega) only [db_lit, eq_self, db_pI_e, db_pL_e, db_bind_some, db_bd_some, nI_add, pk_mul, nI_toInt, db_m1_t, dz_cn, Int.ofNat_le, Int.ofNat_lt, decide_true, decide_false, db_ct, db_cf, not_true_eq_false, not_false_eq_true, db_g_12, h, db_m1_l, hx]
theorem db_33f (h : db_wi x ((0 : Nat) : Int) ((3 : Nat) : Int) = false) : db_f33 s x = some (nI 1) := by
  rw [db_33, h]
  rfl
/-- a tray changed -/
theorem db_GT {β : Type} {t n : Nat} {q : Int32} {W : Nat → Int64} {A : β} {f g : db_S → Option (β × db_S)} (hI : db_Inv U s) (ht : t < 4) (hn : n ≤ 60) (hq : ∃ k, k < 4 ∧ q = nI k)
    (hf : dz_T (f s) (fun z => z.1 = A ∧ ∃ a, z.2 = db_uI a 4 0 (nI 0) ∧ (∀ b j, ¬ (b = 12 ∧ j = t) → ¬ (b = 11 ∧ j = t) → a.1 b j = s.1 b j) ∧ a.1 12 t = nI n ∧ a.1 11 t = q ∧ (∀ b, b ≠ 7 + t → a.2 b = s.2 b) ∧ ∀ p, p < n → a.2 (7 + t) p = W p))
    (hg : ∀ s1, (∀ b j, 669 ≤ b → s1.1 b j = s.1 b j ∧ s1.2 b j = s.2 b j) → db_A s1 (db_bk s 0) → dz_T (g s1) (fun z => z.1 = A ∧ (∀ b j, ¬ (b = 669 ∧ j ≤ 1) → ¬ (b = 670 ∧ j = t) → ¬ (b = 671 ∧ j = t) → z.2.1 b j = s1.1 b j) ∧ z.2.1 669 0 = nI 0 ∧ z.2.1 671 t = nI n ∧ z.2.1 670 t = q ∧ (∀ b, b ≠ 672 → z.2.2 b = s1.2 b) ∧ (∀ j, ¬ (60 * t ≤ j ∧ j < 60 * t + 60) → z.2.2 672 j = s1.2 672 j) ∧ ∀ p, p < n → z.2.2 672 (60 * t + p) = W p)) : dz_G U s f g := by
  obtain ⟨⟨v, s1⟩, e1, h1, a, h2, h3, h4, h5, h6, h7⟩ := hf
  dsimp only at h1 h2
  subst h1
  have k1 : ∀ b j, ¬ (b = 4 ∧ j = 0) → ¬ (b = 12 ∧ j = t) → ¬ (b = 11 ∧ j = t) → s1.1 b j = s.1 b j := by
    intro b j n1 n2 n3
    rw [h2, db_uI_if, if_neg n1]
    exact h3 b j n2 n3
  have k2 : ∀ b, b ≠ 7 + t → s1.2 b = s.2 b := by
    intro b n1
    rw [h2, db_uI_2]
    exact h6 b n1
  have k12 : s1.1 12 t = nI n := by rw [h2, db_uI_n (by decide)]; exact h4
  have k11 : s1.1 11 t = q := by rw [h2, db_uI_n (by decide)]; exact h5
  have k7 : ∀ p, p < n → s1.2 (7 + t) p = W p := by rw [h2, db_uI_2]; exact h7
  have k4 : s1.1 4 0 = nI 0 := by rw [h2]; exact db_uI_1
  have hA : db_A s1 (db_bk s 0) := fun k hk => by
    rw [k1 674 k (by omega) (by omega) (by omega)]
    exact db_bk_A k hk
  obtain ⟨⟨v2, s2⟩, e2, g1, g2, g3, g4, g5, g6, g7, g8⟩ := hg s1 (fun b j hb => ⟨k1 b j (by omega) (by omega) (by omega), by rw [k2 b (by omega)]⟩) hA
  dsimp only at g1 g2 g3 g4 g5 g6 g7 g8
  subst g1
  refine ⟨_, s1, s2, e1, e2, db_Inv_trays hI (Nat.le_refl U) ?_ ?_ ?_⟩
  · intro b j he hne
    refine ⟨?_, ?_⟩
    · rw [g2 b j (by rintro ⟨rfl, hj⟩; unfold db_es db_em at he; omega) (by omega) (by omega), k1 b j (by omega) (by omega) (by omega)]
    · rw [g6 b (by omega), k2 b (by omega)]
  · rw [g2 4 0 (by omega) (by omega) (by omega), g3]
    exact k4
  · intro u hu
    by_cases hut : u = t
    · subst hut
      have e12 : s2.1 12 u = nI n := by rw [g2 12 u (by omega) (by omega) (by omega)]; exact k12
      have e11 : s2.1 11 u = q := by rw [g2 11 u (by omega) (by omega) (by omega)]; exact k11
      rw [e12, e11, g4, g5]
      refine ⟨rfl, .inr ⟨n, hn, rfl, rfl, hq, fun p hp => ?_⟩⟩
      rw [g6 _ (by omega), g8 p hp]
      exact k7 p hp
    · rw [g2 12 u (by omega) (by omega) (by omega), g2 11 u (by omega) (by omega) (by omega), g2 671 u (by omega) (by omega) (by omega), g2 670 u (by omega) (by omega) (by omega), k1 12 u (by omega) (by omega) (by omega), k1 11 u (by omega) (by omega) (by omega), k1 671 u (by omega) (by omega) (by omega), k1 670 u (by omega) (by omega) (by omega)]
      obtain ⟨hT1, hT2⟩ := hI.2.2.1 u hu
      refine ⟨hT1, ?_⟩
      rcases hT2 with hT2 | ⟨n', d1, d2, d3, d4, d5⟩
      · exact .inl hT2
      · refine .inr ⟨n', d1, d2, d3, d4, fun p hp => ?_⟩
        rw [g6 (7 + u) (by omega), g7 _ (by omega), k2 (7 + u) (by omega), k2 672 (by omega)]
        exact d5 p hp
theorem db_214f (h : x.toInt < 0 ∨ (0 ≤ x.toInt ∧ 4 ≤ x.toInt)) : db_f214 s x = some (nI 1) := by
  unfold db_f214
  rcases h with h | ⟨h1, h2⟩
  · have h3 : x.toInt < ((0 : Nat) : Int) := h
    simp (disch := omega) only [db_lit, eq_self, db_pI_e, db_pL_e, db_bind_some, db_bd_some, nI_add, pk_mul, nI_toInt, db_m1_t, dz_cn, Int.ofNat_le, Int.ofNat_lt, decide_true, decide_false, db_ct, db_cf, not_true_eq_false, not_false_eq_true, h3]
  · have h3 : ¬ x.toInt < ((0 : Nat) : Int) := by omega
    have h4 : ¬ x.toInt < ((4 : Nat) : Int) := by omega
    simp (disch := omega) only [db_lit, eq_self, db_pI_e, db_pL_e, db_bind_some, db_bd_some, nI_add, pk_mul, nI_toInt, db_m1_t, dz_cn, Int.ofNat_le, Int.ofNat_lt, decide_true, decide_false, db_ct, db_cf, not_true_eq_false, not_false_eq_true, h3, h4]
theorem db_214c {t : Nat} (ht : t < 4) (h : s.1 671 t = -(nI 1)) : db_f214 s (nI t) = some (nI 3) := by
  unfold db_f214
  have h2 : ¬ ((0 : Nat) : Int) ≤ -1 := by omega
  have h3 : (t : Int) < ((4 : Nat) : Int) := by omega
  have h4 : ¬ (t : Int) < ((0 : Nat) : Int) := by omega
  simp (disch := omega) only [db_lit, eq_self, db_pI_e, db_pL_e, db_bind_some, db_bd_some, nI_add, pk_mul, nI_toInt, db_m1_t, dz_cn, Int.ofNat_le, Int.ofNat_lt, decide_true, decide_false, db_ct, db_cf, not_true_eq_false, not_false_eq_true, db_g_671, h, h2, h3, h4]
theorem db_214o {t n : Nat} (ht : t < 4) (hn : n ≤ 60) (h : s.1 671 t = nI n) : db_f214 s (nI t) = some (nI 0) := by
  unfold db_f214
  have h3 : (t : Int) < ((4 : Nat) : Int) := by omega
  have h4 : ¬ (t : Int) < ((0 : Nat) : Int) := by omega
  have h2 : ((0 : Nat) : Int) ≤ (n : Int) := by omega
  simp (disch := omega) only [db_lit, eq_self, db_pI_e, db_pL_e, db_bind_some, db_bd_some, nI_add, pk_mul, nI_toInt, db_m1_t, dz_cn, Int.ofNat_le, Int.ofNat_lt, decide_true, decide_false, db_ct, db_cf, not_true_eq_false, not_false_eq_true, db_g_671, h, h2, h3, h4]
/-- writing -/
theorem db_34 {t n : Nat} (ht : t < 4) (hn : n ≤ 60) (h : s.1 12 t = nI n) : db_f34 s (nI t) y = some (db_is y n) := by
  unfold db_f34
  simp (disch := omega) only [db_lit, eq_self, db_pI_e, db_pL_e, db_bind_some, db_bd_some, nI_add, pk_mul, nI_toInt, db_m1_t, dz_cn, Int.ofNat_le, Int.ofNat_lt, decide_true, decide_false, db_ct, db_cf, not_true_eq_false, not_false_eq_true, db_87e, db_37e, db_31e, db_28e, db_281e, db_211e, db_27, db_269w, db_litL, pk_lT, db_iL, db_p0_e, db_p0_n, db_p0_j, db_sub1, nI_eq, if_true, if_false, Bool.false_eq_true, db_g_12, h, db_wi_is']
theorem db_p0_u : db_uI (db_uI s 669 1 (nI 0)) 669 0 x = db_uI (db_p0 s) 669 0 x := by
  refine Prod.ext (funext fun b => funext fun j => ?_) rfl
  unfold db_p0
  simp only [db_uI_if]
  by_cases e : b = 669 ∧ j = 0
  · rw [if_pos e, if_pos e]
  · rw [if_neg e, if_neg e, if_neg e]
theorem db_213f (h : x.toInt < 0 ∨ (0 ≤ x.toInt ∧ 4 ≤ x.toInt)) : db_f213 s x y = some (nI 1) := by
  unfold db_f213
  simp (disch := omega) only [db_lit, eq_self, db_pI_e, db_pL_e, db_bind_some, db_bd_some, nI_add, pk_mul, nI_toInt, db_m1_t, dz_cn, Int.ofNat_le, Int.ofNat_lt, decide_true, decide_false, db_ct, db_cf, not_true_eq_false, not_false_eq_true, db_214f h, (show ¬ 1 ≤ 0 by omega)]
theorem db_213c {t : Nat} (ht : t < 4) (h : s.1 671 t = -(nI 1)) : db_f213 s (nI t) y = some (nI 3) := by
  unfold db_f213
  simp (disch := omega) only [db_lit, eq_self, db_pI_e, db_pL_e, db_bind_some, db_bd_some, nI_add, pk_mul, nI_toInt, db_m1_t, dz_cn, Int.ofNat_le, Int.ofNat_lt, decide_true, decide_false, db_ct, db_cf, not_true_eq_false, not_false_eq_true, db_214c ht h, (show ¬ 3 ≤ 0 by omega)]
theorem db_213n {t n : Nat} (ht : t < 4) (hn : n ≤ 60) (e1 : s.1 671 t = nI n) (hy : db_is y n = false) : db_f213 s (nI t) y = some (nI 4) := by
  unfold db_f213
  simp (disch := omega) only [db_lit, eq_self, db_pI_e, db_pL_e, db_bind_some, db_bd_some, nI_add, pk_mul, nI_toInt, db_m1_t, dz_cn, Int.ofNat_le, Int.ofNat_lt, decide_true, decide_false, db_ct, db_cf, not_true_eq_false, not_false_eq_true, db_87e, db_37e, db_31e, db_28e, db_281e, db_211e, db_27, db_269w, db_litL, pk_lT, db_iL, db_p0_e, db_p0_n, db_p0_j, db_sub1, nI_eq, if_true, if_false, Bool.false_eq_true, db_214o ht hn e1, db_g_671, e1, Nat.le_refl]
  by_cases h0 : y.toInt < ((0 : Nat) : Int)
  · simp (disch := omega) only [db_lit, eq_self, db_pI_e, db_pL_e, db_bind_some, db_bd_some, nI_add, pk_mul, nI_toInt, db_m1_t, dz_cn, Int.ofNat_le, Int.ofNat_lt, decide_true, decide_false, db_ct, db_cf, not_true_eq_false, not_false_eq_true, db_87e, db_37e, db_31e, db_28e, db_281e, db_211e, db_27, db_269w, db_litL, pk_lT, db_iL, db_p0_e, db_p0_n, db_p0_j, db_sub1, nI_eq, if_true, if_false, Bool.false_eq_true, h0]
  · have h3 : ¬ y.toInt < (n : Int) := by
      intro h3
      unfold db_is at hy
      rw [decide_eq_true (by omega), decide_eq_true h3] at hy
      cases hy
    simp (disch := omega) only [db_lit, eq_self, db_pI_e, db_pL_e, db_bind_some, db_bd_some, nI_add, pk_mul, nI_toInt, db_m1_t, dz_cn, Int.ofNat_le, Int.ofNat_lt, decide_true, decide_false, db_ct, db_cf, not_true_eq_false, not_false_eq_true, db_87e, db_37e, db_31e, db_28e, db_281e, db_211e, db_27, db_269w, db_litL, pk_lT, db_iL, db_p0_e, db_p0_n, db_p0_j, db_sub1, nI_eq, if_true, if_false, Bool.false_eq_true, h0, h3]
theorem db_213o {t n r : Nat} (ht : t < 4) (hn : n ≤ 60) (e1 : s.1 671 t = nI n) (hr : r < n) : db_f213 s (nI t) (nI r) = some (nI 0) := by
  unfold db_f213
  simp (disch := omega) only [db_lit, eq_self, db_pI_e, db_pL_e, db_bind_some, db_bd_some, nI_add, pk_mul, nI_toInt, db_m1_t, dz_cn, Int.ofNat_le, Int.ofNat_lt, decide_true, decide_false, db_ct, db_cf, not_true_eq_false, not_false_eq_true, db_87e, db_37e, db_31e, db_28e, db_281e, db_211e, db_27, db_269w, db_litL, pk_lT, db_iL, db_p0_e, db_p0_n, db_p0_j, db_sub1, nI_eq, if_true, if_false, Bool.false_eq_true, db_214o ht hn e1, db_g_671, e1, Nat.le_refl, hr, (show ¬ r < 0 by omega)]
theorem db_k4 {w : Int64} (hI : db_Inv U s) : dz_G U s (fun s => db_f32 s x y w) (fun s => db_f212 s x y w) := by
  rcases db_tr3 hI x with ⟨h1, h2⟩ | ⟨t, ht, rfl, hw, ⟨h1, h2⟩ | ⟨n, hn, h12, h671, h11, ⟨k, hk, h670⟩, hp⟩⟩
  · refine db_GnB 1 hI ?_ fun s1 hS hA => ?_
    · unfold db_f32 db_f32_b30
      simp (disch := omega) only [db_lit, eq_self, db_pI_e, db_pL_e, db_bind_some, db_bd_some, nI_add, pk_mul, nI_toInt, db_m1_t, dz_cn, Int.ofNat_le, Int.ofNat_lt, decide_true, decide_false, db_ct, db_cf, not_true_eq_false, not_false_eq_true, db_87e, db_37e, db_31e, db_28e, db_281e, db_211e, db_27, db_269w, db_litL, pk_lT, db_iL, db_p0_e, db_p0_n, db_p0_j, db_sub1, nI_eq, if_true, if_false, Bool.false_eq_true, db_33f h1, (show ¬ 1 = 0 by omega)]
    · unfold db_f212
      simp (disch := omega) only [db_lit, eq_self, db_pI_e, db_pL_e, db_bind_some, db_bd_some, nI_add, pk_mul, nI_toInt, db_m1_t, dz_cn, Int.ofNat_le, Int.ofNat_lt, decide_true, decide_false, db_ct, db_cf, not_true_eq_false, not_false_eq_true, db_87e, db_37e, db_31e, db_28e, db_281e, db_211e, db_27, db_269w, db_litL, pk_lT, db_iL, db_p0_e, db_p0_n, db_p0_j, db_sub1, nI_eq, if_true, if_false, Bool.false_eq_true, db_213f h2, db_uI_1, (show ¬ 1 ≤ 0 by omega), db_p0_u]
  · refine db_GnB 3 hI ?_ fun s1 hS hA => ?_
    · unfold db_f32 db_f32_b30
      simp (disch := omega) only [db_lit, eq_self, db_pI_e, db_pL_e, db_bind_some, db_bd_some, nI_add, pk_mul, nI_toInt, db_m1_t, dz_cn, Int.ofNat_le, Int.ofNat_lt, decide_true, decide_false, db_ct, db_cf, not_true_eq_false, not_false_eq_true, db_87e, db_37e, db_31e, db_28e, db_281e, db_211e, db_27, db_269w, db_litL, pk_lT, db_iL, db_p0_e, db_p0_n, db_p0_j, db_sub1, nI_eq, if_true, if_false, Bool.false_eq_true, db_33c ht h1, (show ¬ 3 = 0 by omega)]
    · have e1 : (db_uI s1 669 1 (nI 0)).1 671 t = -(nI 1) := by rw [db_uI_n (by decide), (hS.1 671 t (by unfold db_ec; omega) (by omega)).1]; exact h2
      unfold db_f212
      simp (disch := omega) only [db_lit, eq_self, db_pI_e, db_pL_e, db_bind_some, db_bd_some, nI_add, pk_mul, nI_toInt, db_m1_t, dz_cn, Int.ofNat_le, Int.ofNat_lt, decide_true, decide_false, db_ct, db_cf, not_true_eq_false, not_false_eq_true, db_87e, db_37e, db_31e, db_28e, db_281e, db_211e, db_27, db_269w, db_litL, pk_lT, db_iL, db_p0_e, db_p0_n, db_p0_j, db_sub1, nI_eq, if_true, if_false, Bool.false_eq_true, db_213c ht e1, db_uI_1, (show ¬ 3 ≤ 0 by omega), db_p0_u]
  · have f33 := db_33o ht hn h12
    cases hy : db_is y n with
    | false =>
      refine db_GnB 4 hI ?_ fun s1 hS hA => ?_
      · unfold db_f32 db_f32_b30
        simp (disch := omega) only [db_lit, eq_self, db_pI_e, db_pL_e, db_bind_some, db_bd_some, nI_add, pk_mul, nI_toInt, db_m1_t, dz_cn, Int.ofNat_le, Int.ofNat_lt, decide_true, decide_false, db_ct, db_cf, not_true_eq_false, not_false_eq_true, db_87e, db_37e, db_31e, db_28e, db_281e, db_211e, db_27, db_269w, db_litL, pk_lT, db_iL, db_p0_e, db_p0_n, db_p0_j, db_sub1, nI_eq, if_true, if_false, Bool.false_eq_true, f33, db_34 ht hn h12, hy, (show ¬ 4 = 0 by omega)]
      · have e1 : (db_uI s1 669 1 (nI 0)).1 671 t = nI n := by rw [db_uI_n (by decide), (hS.1 671 t (by unfold db_ec; omega) (by omega)).1]; exact h671
        unfold db_f212
        simp (disch := omega) only [db_lit, eq_self, db_pI_e, db_pL_e, db_bind_some, db_bd_some, nI_add, pk_mul, nI_toInt, db_m1_t, dz_cn, Int.ofNat_le, Int.ofNat_lt, decide_true, decide_false, db_ct, db_cf, not_true_eq_false, not_false_eq_true, db_87e, db_37e, db_31e, db_28e, db_281e, db_211e, db_27, db_269w, db_litL, pk_lT, db_iL, db_p0_e, db_p0_n, db_p0_j, db_sub1, nI_eq, if_true, if_false, Bool.false_eq_true, db_213n ht hn e1 hy, db_uI_1, (show ¬ 4 ≤ 0 by omega), db_p0_u]
    | true =>
      obtain ⟨r, hr, rfl⟩ := db_is_t hy
      refine db_GT (t := t) (n := n) (q := nI k) (W := fun p => if p = r then db_cnv (nI k) w else s.2 (7 + t) p) (A := true) hI ht hn ⟨k, hk, rfl⟩ ?_ fun s1 hS hA => ?_
      · unfold db_f32 db_f32_b30
        simp (disch := omega) only [db_lit, eq_self, db_pI_e, db_pL_e, db_bind_some, db_bd_some, nI_add, pk_mul, nI_toInt, db_m1_t, dz_cn, Int.ofNat_le, Int.ofNat_lt, decide_true, decide_false, db_ct, db_cf, not_true_eq_false, not_false_eq_true, db_87e, db_37e, db_31e, db_28e, db_281e, db_211e, db_27, db_269w, db_litL, pk_lT, db_iL, db_p0_e, db_p0_n, db_p0_j, db_sub1, nI_eq, if_true, if_false, Bool.false_eq_true, f33, db_34 ht hn h12, hy, db_35, h11, h670]
        refine ⟨_, rfl, rfl, _, rfl, fun b j _ _ => rfl, h12, h11.trans h670, fun b hb => db_uL_n hb, fun p hp1 => ?_⟩
        by_cases e : p = r
        · subst e
          rw [db_uL_1, if_pos rfl]
        · rw [db_uL_j e, if_neg e]
      · have e : s1.1 671 t = nI n := by rw [(hS 671 t (by omega)).1]; exact h671
        have e0 : s1.1 670 t = nI k := by rw [(hS 670 t (by omega)).1]; exact h670
        have e1 : (db_uI s1 669 1 (nI 0)).1 671 t = nI n := by rw [db_uI_n (by decide)]; exact e
        unfold db_f212
        simp (disch := omega) only [db_lit, eq_self, db_pI_e, db_pL_e, db_bind_some, db_bd_some, nI_add, pk_mul, nI_toInt, db_m1_t, dz_cn, Int.ofNat_le, Int.ofNat_lt, decide_true, decide_false, db_ct, db_cf, not_true_eq_false, not_false_eq_true, db_87e, db_37e, db_31e, db_28e, db_281e, db_211e, db_27, db_269w, db_litL, pk_lT, db_iL, db_p0_e, db_p0_n, db_p0_j, db_sub1, nI_eq, if_true, if_false, Bool.false_eq_true, db_213o ht hn e1 hr, db_p0_0, Nat.le_refl, db_g_670, e0, db_215, db_h_672]
        refine ⟨_, rfl, rfl, fun b j n1 n2 n3 => ?_, db_p0_0 (s := s1), ?_, ?_, fun b hb => by rw [db_uL_n hb, db_p0_2], fun j hj => ?_, fun p hp1 => ?_⟩
        · rw [db_uL_2]
          by_cases hb : b = 669
          · subst hb; exact db_p0_j (by omega) (by omega)
          · rw [db_p0_n hb]
        · rw [db_uL_2, db_p0_n (by decide)]; exact e
        · rw [db_uL_2, db_p0_n (by decide)]; exact e0
        · rw [db_uL_j (by omega), db_p0_2]
        · by_cases e : p = r
          · subst e
            rw [db_uL_1, if_pos rfl]
          · rw [db_uL_j (by omega), if_neg e, db_p0_2, (hS 672 _ (by omega)).2]
            exact (hp p hp1).symm
theorem db_k5 (hI : db_Inv U s) : dz_G U s (fun s => db_f36 s x y) (fun s => db_f216 s x y) := by
  have em : (-(nI 1)).toInt64 = (-1 : Int64) := by decide
  have em2 : (-lN 1) = (-1 : Int64) := by decide
  rcases db_tr3 hI x with ⟨h1, h2⟩ | ⟨t, ht, rfl, hw, ⟨h1, h2⟩ | ⟨n, hn, h12, h671, h11, ⟨k, hk, h670⟩, hp⟩⟩
  · refine db_Gq (-1 : Int64) (nI 1) hI ?_ fun s1 hS hA => ?_
    · unfold db_f36 db_f36_b27
      simp (disch := omega) only [db_lit, eq_self, db_pI_e, db_pL_e, db_bind_some, db_bd_some, nI_add, pk_mul, nI_toInt, db_m1_t, dz_cn, Int.ofNat_le, Int.ofNat_lt, decide_true, decide_false, db_ct, db_cf, not_true_eq_false, not_false_eq_true, db_87e, db_37e, db_31e, db_28e, db_281e, db_211e, db_27, db_269w, db_litL, pk_lT, db_iL, db_p0_e, db_p0_n, db_p0_j, db_sub1, nI_eq, if_true, if_false, Bool.false_eq_true, db_33f h1, (show ¬ 1 = 0 by omega)]
      exact ⟨_, rfl, em, db_Sc_u db_Ec_r⟩
    · unfold db_f216
      simp (disch := omega) only [db_lit, eq_self, db_pI_e, db_pL_e, db_bind_some, db_bd_some, nI_add, pk_mul, nI_toInt, db_m1_t, dz_cn, Int.ofNat_le, Int.ofNat_lt, decide_true, decide_false, db_ct, db_cf, not_true_eq_false, not_false_eq_true, db_87e, db_37e, db_31e, db_28e, db_281e, db_211e, db_27, db_269w, db_litL, pk_lT, db_iL, db_p0_e, db_p0_n, db_p0_j, db_sub1, nI_eq, if_true, if_false, Bool.false_eq_true, db_213f h2, db_uI_1, (show ¬ 1 ≤ 0 by omega), db_p0_u]
      exact ⟨_, rfl, em2, db_Sm_u db_Em_r⟩
  · refine db_Gq (-1 : Int64) (nI 3) hI ?_ fun s1 hS hA => ?_
    · unfold db_f36 db_f36_b27
      simp (disch := omega) only [db_lit, eq_self, db_pI_e, db_pL_e, db_bind_some, db_bd_some, nI_add, pk_mul, nI_toInt, db_m1_t, dz_cn, Int.ofNat_le, Int.ofNat_lt, decide_true, decide_false, db_ct, db_cf, not_true_eq_false, not_false_eq_true, db_87e, db_37e, db_31e, db_28e, db_281e, db_211e, db_27, db_269w, db_litL, pk_lT, db_iL, db_p0_e, db_p0_n, db_p0_j, db_sub1, nI_eq, if_true, if_false, Bool.false_eq_true, db_33c ht h1, (show ¬ 3 = 0 by omega)]
      exact ⟨_, rfl, em, db_Sc_u db_Ec_r⟩
    · have e1 : (db_uI s1 669 1 (nI 0)).1 671 t = -(nI 1) := by rw [db_uI_n (by decide), (hS.1 671 t (by unfold db_ec; omega) (by omega)).1]; exact h2
      unfold db_f216
      simp (disch := omega) only [db_lit, eq_self, db_pI_e, db_pL_e, db_bind_some, db_bd_some, nI_add, pk_mul, nI_toInt, db_m1_t, dz_cn, Int.ofNat_le, Int.ofNat_lt, decide_true, decide_false, db_ct, db_cf, not_true_eq_false, not_false_eq_true, db_87e, db_37e, db_31e, db_28e, db_281e, db_211e, db_27, db_269w, db_litL, pk_lT, db_iL, db_p0_e, db_p0_n, db_p0_j, db_sub1, nI_eq, if_true, if_false, Bool.false_eq_true, db_213c ht e1, db_uI_1, (show ¬ 3 ≤ 0 by omega), db_p0_u]
      exact ⟨_, rfl, em2, db_Sm_u db_Em_r⟩
  · have f33 := db_33o ht hn h12
    cases hy : db_is y n with
    | false =>
      refine db_Gq (-1 : Int64) (nI 4) hI ?_ fun s1 hS hA => ?_
      · unfold db_f36 db_f36_b27
        simp (disch := omega) only [db_lit, eq_self, db_pI_e, db_pL_e, db_bind_some, db_bd_some, nI_add, pk_mul, nI_toInt, db_m1_t, dz_cn, Int.ofNat_le, Int.ofNat_lt, decide_true, decide_false, db_ct, db_cf, not_true_eq_false, not_false_eq_true, db_87e, db_37e, db_31e, db_28e, db_281e, db_211e, db_27, db_269w, db_litL, pk_lT, db_iL, db_p0_e, db_p0_n, db_p0_j, db_sub1, nI_eq, if_true, if_false, Bool.false_eq_true, f33, db_34 ht hn h12, hy, (show ¬ 4 = 0 by omega)]
        exact ⟨_, rfl, em, db_Sc_u db_Ec_r⟩
      · have e1 : (db_uI s1 669 1 (nI 0)).1 671 t = nI n := by rw [db_uI_n (by decide), (hS.1 671 t (by unfold db_ec; omega) (by omega)).1]; exact h671
        unfold db_f216
        simp (disch := omega) only [db_lit, eq_self, db_pI_e, db_pL_e, db_bind_some, db_bd_some, nI_add, pk_mul, nI_toInt, db_m1_t, dz_cn, Int.ofNat_le, Int.ofNat_lt, decide_true, decide_false, db_ct, db_cf, not_true_eq_false, not_false_eq_true, db_87e, db_37e, db_31e, db_28e, db_281e, db_211e, db_27, db_269w, db_litL, pk_lT, db_iL, db_p0_e, db_p0_n, db_p0_j, db_sub1, nI_eq, if_true, if_false, Bool.false_eq_true, db_213n ht hn e1 hy, db_uI_1, (show ¬ 4 ≤ 0 by omega), db_p0_u]
        exact ⟨_, rfl, em2, db_Sm_u db_Em_r⟩
    | true =>
      obtain ⟨r, hr, rfl⟩ := db_is_t hy
      refine db_Gq (s.2 (7 + t) r) (nI 0) hI ?_ fun s1 hS hA => ?_
      · unfold db_f36 db_f36_b27
        simp (disch := omega) only [db_lit, eq_self, db_pI_e, db_pL_e, db_bind_some, db_bd_some, nI_add, pk_mul, nI_toInt, db_m1_t, dz_cn, Int.ofNat_le, Int.ofNat_lt, decide_true, decide_false, db_ct, db_cf, not_true_eq_false, not_false_eq_true, db_87e, db_37e, db_31e, db_28e, db_281e, db_211e, db_27, db_269w, db_litL, pk_lT, db_iL, db_p0_e, db_p0_n, db_p0_j, db_sub1, nI_eq, if_true, if_false, Bool.false_eq_true, f33, db_34 ht hn h12, hy, db_q_6, db_g_7, db_uI_2]
        exact ⟨_, rfl, rfl, db_Sc_u db_Ec_r⟩
      · have e1 : (db_uI s1 669 1 (nI 0)).1 671 t = nI n := by rw [db_uI_n (by decide), (hS.1 671 t (by unfold db_ec; omega) (by omega)).1]; exact h671
        unfold db_f216
        simp (disch := omega) only [db_lit, eq_self, db_pI_e, db_pL_e, db_bind_some, db_bd_some, nI_add, pk_mul, nI_toInt, db_m1_t, dz_cn, Int.ofNat_le, Int.ofNat_lt, decide_true, decide_false, db_ct, db_cf, not_true_eq_false, not_false_eq_true, db_87e, db_37e, db_31e, db_28e, db_281e, db_211e, db_27, db_269w, db_litL, pk_lT, db_iL, db_p0_e, db_p0_n, db_p0_j, db_sub1, nI_eq, if_true, if_false, Bool.false_eq_true, db_213o ht hn e1 hr, db_p0_0, Nat.le_refl, db_g_672, db_p0_2]
        refine ⟨_, rfl, ?_, db_Sm_0 db_Em_r⟩
        rw [(hS.1 672 _ (by unfold db_ec; omega) (by omega)).2]
        exact (hp r hr).symm
/-- one row of longs changed -/
theorem db_30 {t n : Nat} (ht : t < 4) : dz_T (db_f30 s (7 + t) (lN 0)) (fun z => (z.1 = s.1 ∧ ∀ b, b ≠ 7 + t → z.2 b = s.2 b) ∧ ∀ j, j < 60 → z.2 (7 + t) j = lN 0) := by
  have hl : db_ln (7 + t) = some (nI 60) := by
    rcases (by omega : t = 0 ∨ t = 1 ∨ t = 2 ∨ t = 3) with rfl | rfl | rfl | rfl <;> rfl
  unfold db_f30
  simp (disch := omega) only [db_lit, eq_self, db_pI_e, db_pL_e, db_bind_some, db_bd_some, nI_add, pk_mul, nI_toInt, db_m1_t, dz_cn, Int.ofNat_le, Int.ofNat_lt, decide_true, decide_false, db_ct, db_cf, not_true_eq_false, not_false_eq_true, hl]
  refine db_loop (L := fun m a k => db_f30_b6 m a (7 + t) (lN 0) (nI k) (nI 60)) (N := 60) (fun k a => (a.1 = s.1 ∧ ∀ b, b ≠ 7 + t → a.2 b = s.2 b) ∧ ∀ j, j < k → a.2 (7 + t) j = lN 0) ?_ ?_ (n := db_FU) (by unfold db_FU; omega) ⟨⟨rfl, fun b _ => rfl⟩, fun j hj => absurd hj (by omega)⟩
  · rintro m a hK
    show dz_T (db_f30_b6 (m + 1) a (7 + t) (lN 0) (nI 60) (nI 60)) _
    rw [db_f30_b6]
    simp (disch := omega) only [db_lit, eq_self, db_pI_e, db_pL_e, db_bind_some, db_bd_some, nI_add, pk_mul, nI_toInt, db_m1_t, dz_cn, Int.ofNat_le, Int.ofNat_lt, decide_true, decide_false, db_ct, db_cf, not_true_eq_false, not_false_eq_true, Nat.le_refl]
    exact ⟨_, rfl, hK⟩
  · rintro m k a hk ⟨⟨h1, h2⟩, h3⟩ hrec
    show dz_T (db_f30_b6 (m + 1) a (7 + t) (lN 0) (nI k) (nI 60)) _
    rw [db_f30_b6]
    have h7 : ¬ 60 ≤ k := by omega
    simp (disch := omega) only [db_lit, eq_self, db_pI_e, db_pL_e, db_bind_some, db_bd_some, nI_add, pk_mul, nI_toInt, db_m1_t, dz_cn, Int.ofNat_le, Int.ofNat_lt, decide_true, decide_false, db_ct, db_cf, not_true_eq_false, not_false_eq_true, h7, db_h_7]
    refine hrec _ ⟨⟨h1, fun b hb => by rw [db_uL_n hb]; exact h2 b hb⟩, fun j hj => ?_⟩
    by_cases e : j = k
    · subst e; exact db_uL_1
    · rw [db_uL_j e]; exact h3 j (by omega)
theorem db_k3 {v3 : Int32} (hI : db_Inv U s) : dz_G U s (fun s => db_f25 s x y v3) (fun s => db_f210 s x y v3) := by
  cases h1 : db_wi x ((0 : Nat) : Int) ((3 : Nat) : Int) with
  | false =>
    have hx := db_wi_f h1
    refine db_GnB 1 hI ?_ fun s1 hS hA => ?_
    · unfold db_f25 db_f25_b20 db_f26
      simp (disch := omega) only [db_lit, eq_self, db_pI_e, db_pL_e, db_bind_some, db_bd_some, nI_add, pk_mul, nI_toInt, db_m1_t, dz_cn, Int.ofNat_le, Int.ofNat_lt, decide_true, decide_false, db_ct, db_cf, not_true_eq_false, not_false_eq_true, db_87e, db_37e, db_31e, db_28e, db_281e, db_211e, db_27, db_269w, db_litL, pk_lT, db_iL, db_p0_e, db_p0_n, db_p0_j, db_sub1, nI_eq, if_true, if_false, Bool.false_eq_true, h1]
    · unfold db_f210 db_f210_b28
      by_cases h0 : x.toInt < ((0 : Nat) : Int)
      · simp (disch := omega) only [db_lit, eq_self, db_pI_e, db_pL_e, db_bind_some, db_bd_some, nI_add, pk_mul, nI_toInt, db_m1_t, dz_cn, Int.ofNat_le, Int.ofNat_lt, decide_true, decide_false, db_ct, db_cf, not_true_eq_false, not_false_eq_true, db_87e, db_37e, db_31e, db_28e, db_281e, db_211e, db_27, db_269w, db_litL, pk_lT, db_iL, db_p0_e, db_p0_n, db_p0_j, db_sub1, nI_eq, if_true, if_false, Bool.false_eq_true, h0]
      · have h4 : ((4 : Nat) : Int) ≤ x.toInt := by omega
        simp (disch := omega) only [db_lit, eq_self, db_pI_e, db_pL_e, db_bind_some, db_bd_some, nI_add, pk_mul, nI_toInt, db_m1_t, dz_cn, Int.ofNat_le, Int.ofNat_lt, decide_true, decide_false, db_ct, db_cf, not_true_eq_false, not_false_eq_true, db_87e, db_37e, db_31e, db_28e, db_281e, db_211e, db_27, db_269w, db_litL, pk_lT, db_iL, db_p0_e, db_p0_n, db_p0_j, db_sub1, nI_eq, if_true, if_false, Bool.false_eq_true, h0, h4]
  | true =>
    obtain ⟨t, ht, -, rfl⟩ := db_wi_t (by decide) (by decide) h1
    cases h2 : db_wi y ((0 : Nat) : Int) ((3 : Nat) : Int) with
    | false =>
      have hx := db_wi_f h2
      refine db_GnB 1 hI ?_ fun s1 hS hA => ?_
      · unfold db_f25 db_f25_b20 db_f26
        simp (disch := omega) only [db_lit, eq_self, db_pI_e, db_pL_e, db_bind_some, db_bd_some, nI_add, pk_mul, nI_toInt, db_m1_t, dz_cn, Int.ofNat_le, Int.ofNat_lt, decide_true, decide_false, db_ct, db_cf, not_true_eq_false, not_false_eq_true, db_87e, db_37e, db_31e, db_28e, db_281e, db_211e, db_27, db_269w, db_litL, pk_lT, db_iL, db_p0_e, db_p0_n, db_p0_j, db_sub1, nI_eq, if_true, if_false, Bool.false_eq_true, h1, h2]
      · unfold db_f210 db_f210_b28
        by_cases h0 : y.toInt < ((0 : Nat) : Int)
        · simp (disch := omega) only [db_lit, eq_self, db_pI_e, db_pL_e, db_bind_some, db_bd_some, nI_add, pk_mul, nI_toInt, db_m1_t, dz_cn, Int.ofNat_le, Int.ofNat_lt, decide_true, decide_false, db_ct, db_cf, not_true_eq_false, not_false_eq_true, db_87e, db_37e, db_31e, db_28e, db_281e, db_211e, db_27, db_269w, db_litL, pk_lT, db_iL, db_p0_e, db_p0_n, db_p0_j, db_sub1, nI_eq, if_true, if_false, Bool.false_eq_true, (show ¬ t < 0 by omega), (show ¬ 4 ≤ t by omega), h0]
        · have h4 : ¬ y.toInt ≤ ((3 : Nat) : Int) := by omega
          simp (disch := omega) only [db_lit, eq_self, db_pI_e, db_pL_e, db_bind_some, db_bd_some, nI_add, pk_mul, nI_toInt, db_m1_t, dz_cn, Int.ofNat_le, Int.ofNat_lt, decide_true, decide_false, db_ct, db_cf, not_true_eq_false, not_false_eq_true, db_87e, db_37e, db_31e, db_28e, db_281e, db_211e, db_27, db_269w, db_litL, pk_lT, db_iL, db_p0_e, db_p0_n, db_p0_j, db_sub1, nI_eq, if_true, if_false, Bool.false_eq_true, (show ¬ t < 0 by omega), (show ¬ 4 ≤ t by omega), h0, h4]
    | true =>
      obtain ⟨q, hq, -, rfl⟩ := db_wi_t (by decide) (by decide) h2
      by_cases h3 : v3.toInt ≤ ((60 : Nat) : Int)
      · by_cases h4 : ((0 : Nat) : Int) ≤ v3.toInt
        · obtain ⟨n, hn, rfl⟩ := db_ofI (x := v3) (n := 61) (by omega) (by omega)
          refine db_GT (t := t) (n := n) (q := nI q) (W := fun p => lN 0) (A := true) hI ht (by omega) ⟨q, by omega, rfl⟩ ?_ fun s1 hS hA => ?_
          · unfold db_f25 db_f26 db_f29
            simp (disch := omega) only [db_lit, eq_self, db_pI_e, db_pL_e, db_bind_some, db_bd_some, nI_add, pk_mul, nI_toInt, db_m1_t, dz_cn, Int.ofNat_le, Int.ofNat_lt, decide_true, decide_false, db_ct, db_cf, not_true_eq_false, not_false_eq_true, db_87e, db_37e, db_31e, db_28e, db_281e, db_211e, db_27, db_269w, db_litL, pk_lT, db_iL, db_p0_e, db_p0_n, db_p0_j, db_sub1, nI_eq, if_true, if_false, Bool.false_eq_true, h1, h2, h3, h4, (show n ≤ 60 by omega), Nat.zero_le, db_q_6]
            refine db_T_bind.mpr (db_T_go (db_30 (n := n) ht) fun a ha => ?_)
            obtain ⟨⟨g1, g2⟩, g3⟩ := ha
            simp (disch := omega) only [db_lit, eq_self, db_pI_e, db_pL_e, db_bind_some, db_bd_some, nI_add, pk_mul, nI_toInt, db_m1_t, dz_cn, Int.ofNat_le, Int.ofNat_lt, decide_true, decide_false, db_ct, db_cf, not_true_eq_false, not_false_eq_true, db_87e, db_37e, db_31e, db_28e, db_281e, db_211e, db_27, db_269w, db_litL, pk_lT, db_iL, db_p0_e, db_p0_n, db_p0_j, db_sub1, nI_eq, if_true, if_false, Bool.false_eq_true, db_h_11, db_h_12]
            refine db_T_some.mpr ?_
            refine ⟨_, rfl, rfl, _, rfl, fun b j n1 n2 => ?_, db_uI_1, ?_, fun b hb => ?_, fun p hp => g3 p (by omega)⟩
            · rw [db_uI_if, if_neg n1, db_uI_if, if_neg n2, g1]
            · rw [db_uI_n (by decide), db_uI_1]
            · exact g2 b hb
          · unfold db_f210
            simp (disch := omega) only [db_lit, eq_self, db_pI_e, db_pL_e, db_bind_some, db_bd_some, nI_add, pk_mul, nI_toInt, db_m1_t, dz_cn, Int.ofNat_le, Int.ofNat_lt, decide_true, decide_false, db_ct, db_cf, not_true_eq_false, not_false_eq_true, db_87e, db_37e, db_31e, db_28e, db_281e, db_211e, db_27, db_269w, db_litL, pk_lT, db_iL, db_p0_e, db_p0_n, db_p0_j, db_sub1, nI_eq, if_true, if_false, Bool.false_eq_true, (show ¬ t < 0 by omega), (show ¬ 4 ≤ t by omega), (show ¬ q < 0 by omega), (show q ≤ 3 by omega), (show n ≤ 60 by omega), Nat.zero_le, db_h_670, db_h_671]
            have hb0 : ∀ b j, ¬ (b = 669 ∧ j ≤ 1) → ¬ (b = 670 ∧ j = t) → ¬ (b = 671 ∧ j = t) → (db_uI (db_uI (db_p0 s1) 670 t (nI q)) 671 t (nI n)).1 b j = s1.1 b j := fun b j n1 n2 n3 => by
              rw [db_uI_if, if_neg n3, db_uI_if, if_neg n2]
              by_cases hb : b = 669
              · subst hb; exact db_p0_j (by omega) (by omega)
              · rw [db_p0_n hb]
            refine db_loop (L := fun m a k => db_f210_b74 m a (nI t) (nI n) (nI k)) (N := n) (fun k a => a.1 = (db_uI (db_uI (db_p0 s1) 670 t (nI q)) 671 t (nI n)).1 ∧ (∀ b, b ≠ 672 → a.2 b = s1.2 b) ∧ (∀ j, ¬ (60 * t ≤ j ∧ j < 60 * t + 60) → a.2 672 j = s1.2 672 j) ∧ ∀ j, j < k → a.2 672 (60 * t + j) = lN 0) ?_ ?_ (n := db_FU) (by unfold db_FU; omega) ⟨rfl, fun b _ => rfl, fun j _ => rfl, fun j hj => absurd hj (by omega)⟩
            · rintro m a ⟨g1, g2, g3, g4⟩
              show dz_T (db_f210_b74 (m + 1) a (nI t) (nI n) (nI n)) _
              rw [db_f210_b74]
              simp (disch := omega) only [db_lit, eq_self, db_pI_e, db_pL_e, db_bind_some, db_bd_some, nI_add, pk_mul, nI_toInt, db_m1_t, dz_cn, Int.ofNat_le, Int.ofNat_lt, decide_true, decide_false, db_ct, db_cf, not_true_eq_false, not_false_eq_true, Nat.le_refl]
              refine ⟨_, rfl, rfl, fun b j n1 n2 n3 => by rw [g1]; exact hb0 b j n1 n2 n3, ?_, ?_, ?_, g2, g3, g4⟩
              · rw [g1, db_uI_n (by decide), db_uI_n (by decide)]; exact db_p0_0
              · rw [g1]; exact db_uI_1
              · rw [g1, db_uI_n (by decide)]; exact db_uI_1
            · rintro m k a hk ⟨g1, g2, g3, g4⟩ hrec
              show dz_T (db_f210_b74 (m + 1) a (nI t) (nI n) (nI k)) _
              rw [db_f210_b74]
              have h7 : ¬ n ≤ k := by omega
              simp (disch := omega) only [db_lit, eq_self, db_pI_e, db_pL_e, db_bind_some, db_bd_some, nI_add, pk_mul, nI_toInt, db_m1_t, dz_cn, Int.ofNat_le, Int.ofNat_lt, decide_true, decide_false, db_ct, db_cf, not_true_eq_false, not_false_eq_true, h7, db_h_672, db_litL]
              refine hrec _ ⟨g1, fun b hb => by rw [db_uL_n hb]; exact g2 b hb, fun j hj => ?_, fun j hj => ?_⟩
              · rw [db_uL_j (by omega)]; exact g3 j hj
              · by_cases e : j = k
                · subst e; exact db_uL_1
                · rw [db_uL_j (by omega)]; exact g4 j (by omega)
        · refine db_GnB 6 hI ?_ fun s1 hS hA => ?_
          · unfold db_f25 db_f26
            simp (disch := omega) only [db_lit, eq_self, db_pI_e, db_pL_e, db_bind_some, db_bd_some, nI_add, pk_mul, nI_toInt, db_m1_t, dz_cn, Int.ofNat_le, Int.ofNat_lt, decide_true, decide_false, db_ct, db_cf, not_true_eq_false, not_false_eq_true, db_87e, db_37e, db_31e, db_28e, db_281e, db_211e, db_27, db_269w, db_litL, pk_lT, db_iL, db_p0_e, db_p0_n, db_p0_j, db_sub1, nI_eq, if_true, if_false, Bool.false_eq_true, h1, h2, h3, h4]
          · unfold db_f210
            simp (disch := omega) only [db_lit, eq_self, db_pI_e, db_pL_e, db_bind_some, db_bd_some, nI_add, pk_mul, nI_toInt, db_m1_t, dz_cn, Int.ofNat_le, Int.ofNat_lt, decide_true, decide_false, db_ct, db_cf, not_true_eq_false, not_false_eq_true, db_87e, db_37e, db_31e, db_28e, db_281e, db_211e, db_27, db_269w, db_litL, pk_lT, db_iL, db_p0_e, db_p0_n, db_p0_j, db_sub1, nI_eq, if_true, if_false, Bool.false_eq_true, (show ¬ t < 0 by omega), (show ¬ 4 ≤ t by omega), (show ¬ q < 0 by omega), (show q ≤ 3 by omega), h3, h4]
      · refine db_GnB 5 hI ?_ fun s1 hS hA => ?_
        · unfold db_f25 db_f26
          simp (disch := omega) only [db_lit, eq_self, db_pI_e, db_pL_e, db_bind_some, db_bd_some, nI_add, pk_mul, nI_toInt, db_m1_t, dz_cn, Int.ofNat_le, Int.ofNat_lt, decide_true, decide_false, db_ct, db_cf, not_true_eq_false, not_false_eq_true, db_87e, db_37e, db_31e, db_28e, db_281e, db_211e, db_27, db_269w, db_litL, pk_lT, db_iL, db_p0_e, db_p0_n, db_p0_j, db_sub1, nI_eq, if_true, if_false, Bool.false_eq_true, h1, h2, h3]
        · unfold db_f210
          simp (disch := omega) only [db_lit, eq_self, db_pI_e, db_pL_e, db_bind_some, db_bd_some, nI_add, pk_mul, nI_toInt, db_m1_t, dz_cn, Int.ofNat_le, Int.ofNat_lt, decide_true, decide_false, db_ct, db_cf, not_true_eq_false, not_false_eq_true, db_87e, db_37e, db_31e, db_28e, db_281e, db_211e, db_27, db_269w, db_litL, pk_lT, db_iL, db_p0_e, db_p0_n, db_p0_j, db_sub1, nI_eq, if_true, if_false, Bool.false_eq_true, (show ¬ t < 0 by omega), (show ¬ 4 ≤ t by omega), (show ¬ q < 0 by omega), (show q ≤ 3 by omega), h3]
end DBTR
