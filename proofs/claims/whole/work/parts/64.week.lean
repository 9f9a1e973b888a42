/-! FRACTIONS, WEEKS -/
section DBWK
variable {U : Nat} {s : db_S} {c : db_C} {w : Nat → Int64} {x y z p q : Int32}
theorem dw_ceq {x : Int64} : db_cnd .eq (lg_cmp x (0 : Int64)) (0 : Int32) = decide (x = 0) := decide_eq_decide.mpr (lg_cmp_eq x 0)
theorem dw_l0 {a : Nat} (h : a < 2 ^ 63) : (lN a = 0) = (a = 0) := by
  refine propext ?_
  rw [show (0 : Int64) = lN 0 from rfl]
  exact pk_lEQ h (by decide)
theorem dw_gr (a b : Nat) : Nat.gcd b (a % b) = Nat.gcd a b := by
  rw [Nat.gcd_comm a b, Nat.gcd_rec b a, Nat.gcd_comm]
theorem dw_half {b r : Nat} (h0 : 0 < r) (h1 : r < b) : 2 * (b % r) < b := by
  have h2 := Nat.mod_lt b h0
  have h3 := Nat.div_add_mod b r
  have h4 : 1 ≤ b / r := Nat.div_pos (by omega) h0
  have h5 : r * 1 ≤ r * (b / r) := Nat.mul_le_mul (Nat.le_refl r) h4
  omega
theorem dw_189 {v1 v3 : Int64} : ∀ {n a b r k : Nat}, a < 2 ^ 63 → b < 2 ^ n → n ≤ 63 → r + 2 * n + 1 ≤ 200 → db_f189_b12 (2 * n + 1 + k) s v1 v3 (lN a) (lN b) (nI r) = db_f189_b48 s v1 v3 (lN (Nat.gcd a b))
  | 0, a, b, r, k, ha, hb, hn, hr => by
    have hb0 : b = 0 := by omega
    subst hb0
    rw [show 2 * 0 + 1 + k = k + 1 by omega, db_f189_b12, dw_ceq, Nat.gcd_zero_right]
    have h7 : ¬ 200 ≤ r := by omega
    simp (disch := omega) only [db_lit, eq_self, db_pI_e, db_pL_e, db_bind_some, db_bd_some, nI_add, pk_mul, nI_toInt, db_m1_t, dz_cn, Int.ofNat_le, Int.ofNat_lt, decide_true, decide_false, db_ct, db_cf, not_true_eq_false, not_false_eq_true, h7]
    rw [decide_eq_true (show lN 0 = 0 from rfl), db_ct]
  | n + 1, a, b, r, k, ha, hb, hn, hr => by
    have h7 : ¬ 200 ≤ r := by omega
    have h63 : (2 : Nat) ^ (n + 1) ≤ 2 ^ 63 := Nat.pow_le_pow_right (by decide) hn
    have hb63 : b < 2 ^ 63 := by omega
    rw [show 2 * (n + 1) + 1 + k = (2 * n + 1 + k + 1) + 1 by omega, db_f189_b12, dw_ceq]
    simp (disch := omega) only [db_lit, eq_self, db_pI_e, db_pL_e, db_bind_some, db_bd_some, nI_add, pk_mul, nI_toInt, db_m1_t, dz_cn, Int.ofNat_le, Int.ofNat_lt, decide_true, decide_false, db_ct, db_cf, not_true_eq_false, not_false_eq_true, h7]
    by_cases hb0 : b = 0
    · subst hb0
      rw [decide_eq_true (show lN 0 = 0 from rfl), db_ct, Nat.gcd_zero_right]
    · have hbl : ¬ lN b = 0 := by rw [dw_l0 hb63]; exact hb0
      rw [decide_eq_false hbl, db_cf, if_neg hbl, pk_lRem ha (by omega) hb63, db_f189_b12, dw_ceq]
      have hr1 : a % b < b := Nat.mod_lt a (by omega)
      have h8 : ¬ 200 ≤ r + 1 := by omega
      simp (disch := omega) only [db_lit, eq_self, db_pI_e, db_pL_e, db_bind_some, db_bd_some, nI_add, pk_mul, nI_toInt, db_m1_t, dz_cn, Int.ofNat_le, Int.ofNat_lt, decide_true, decide_false, db_ct, db_cf, not_true_eq_false, not_false_eq_true, h8]
      by_cases h1 : a % b = 0
      · rw [h1, decide_eq_true (show lN 0 = 0 from rfl), db_ct, ← dw_gr, h1, Nat.gcd_zero_right]
      · have hrl : ¬ lN (a % b) = 0 := by rw [dw_l0 (by omega)]; exact h1
        rw [decide_eq_false hrl, db_cf, if_neg hrl, pk_lRem hb63 (by omega) (by omega)]
        have hh := dw_half (b := b) (r := a % b) (by omega) hr1
        have hp : (2 : Nat) ^ (n + 1) = 2 * 2 ^ n := by rw [Nat.pow_succ, Nat.mul_comm]
        rw [dw_189 (n := n) (a := a % b) (b := b % (a % b)) (r := r + 1 + 1) (k := k) (by omega) (by omega) (by omega) (by omega), dw_gr, dw_gr]
theorem dw_364 {v1 v3 : Int64} : ∀ {n a b k : Nat}, a < 2 ^ 63 → b < 2 ^ n → n ≤ 63 → 0 < Nat.gcd a b → db_f364_b9 (2 * n + 1 + k) s v1 v3 (lN a) (lN b) = some (true, db_uL (db_uL s 669 2 (v1 / lN (Nat.gcd a b))) 669 3 (v3 / lN (Nat.gcd a b)))
  | 0, a, b, k, ha, hb, hn, hg => by
    have hb0 : b = 0 := by omega
    subst hb0
    rw [Nat.gcd_zero_right] at hg
    rw [show 2 * 0 + 1 + k = k + 1 by omega, db_f364_b9, dw_ceq, Nat.gcd_zero_right]
    have hal : ¬ lN a = 0 := by rw [dw_l0 ha]; omega
    rw [decide_eq_true (show lN 0 = 0 from rfl), db_ct, if_neg hal, db_pL_e, db_bind_some, if_neg hal]
    simp (disch := omega) only [db_lit, eq_self, db_pI_e, db_pL_e, db_bind_some, db_bd_some, nI_add, pk_mul, nI_toInt, db_m1_t, dz_cn, Int.ofNat_le, Int.ofNat_lt, decide_true, decide_false, db_ct, db_cf, not_true_eq_false, not_false_eq_true]
  | n + 1, a, b, k, ha, hb, hn, hg => by
    have h63 : (2 : Nat) ^ (n + 1) ≤ 2 ^ 63 := Nat.pow_le_pow_right (by decide) hn
    have hb63 : b < 2 ^ 63 := by omega
    rw [show 2 * (n + 1) + 1 + k = (2 * n + 1 + k + 1) + 1 by omega, db_f364_b9, dw_ceq]
    by_cases hb0 : b = 0
    · subst hb0
      rw [Nat.gcd_zero_right] at hg
      have hal : ¬ lN a = 0 := by rw [dw_l0 ha]; omega
      rw [decide_eq_true (show lN 0 = 0 from rfl), db_ct, Nat.gcd_zero_right, if_neg hal, db_pL_e, db_bind_some, if_neg hal]
      simp (disch := omega) only [db_lit, eq_self, db_pI_e, db_pL_e, db_bind_some, db_bd_some, nI_add, pk_mul, nI_toInt, db_m1_t, dz_cn, Int.ofNat_le, Int.ofNat_lt, decide_true, decide_false, db_ct, db_cf, not_true_eq_false, not_false_eq_true]
    · have hbl : ¬ lN b = 0 := by rw [dw_l0 hb63]; exact hb0
      rw [decide_eq_false hbl, db_cf, if_neg hbl, pk_lRem ha (by omega) hb63, db_f364_b9, dw_ceq]
      have hr1 : a % b < b := Nat.mod_lt a (by omega)
      by_cases h1 : a % b = 0
      · rw [h1, decide_eq_true (show lN 0 = 0 from rfl), db_ct, ← dw_gr, h1, Nat.gcd_zero_right, if_neg hbl, db_pL_e, db_bind_some, if_neg hbl]
        simp (disch := omega) only [db_lit, eq_self, db_pI_e, db_pL_e, db_bind_some, db_bd_some, nI_add, pk_mul, nI_toInt, db_m1_t, dz_cn, Int.ofNat_le, Int.ofNat_lt, decide_true, decide_false, db_ct, db_cf, not_true_eq_false, not_false_eq_true]
      · have hrl : ¬ lN (a % b) = 0 := by rw [dw_l0 (by omega)]; exact h1
        rw [decide_eq_false hrl, db_cf, if_neg hrl, pk_lRem hb63 (by omega) (by omega)]
        have hh := dw_half (b := b) (r := a % b) (by omega) hr1
        have hp : (2 : Nat) ^ (n + 1) = 2 * 2 ^ n := by rw [Nat.pow_succ, Nat.mul_comm]
        rw [dw_364 (n := n) (a := a % b) (b := b % (a % b)) (k := k) (by omega) (by omega) (by omega) (by rw [dw_gr, dw_gr]; exact hg), dw_gr, dw_gr]
theorem dw_abs {v : Int64} (h : -9223372036854775808 < v.toInt) : (if 0 < v then v else -v) = lN v.toInt.natAbs ∧ v.toInt.natAbs < 2 ^ 63 := by
  have hr := fb_rngL v
  have hb : v.toInt.natAbs < 2 ^ 63 := by omega
  refine ⟨Int64.toInt_inj.mp ?_, hb⟩
  rw [pk_lT hb]
  by_cases h0 : 0 < v
  · rw [if_pos h0]
    have := (Int64.lt_iff_toInt_lt).mp h0
    have e0 : (0 : Int64).toInt = 0 := rfl
    omega
  · rw [if_neg h0]
    have h1 : ¬ (0 : Int64).toInt < v.toInt := fun h => h0 (Int64.lt_iff_toInt_lt.mpr h)
    have e0 : (0 : Int64).toInt = 0 := rfl
    rw [Int64.toInt_neg, fb_bmodL (by omega) (by omega)]
    omega
/-- both tell the same fraction -/
theorem dw_tell {v1 : Int64} {b : Nat} (h1 : -9223372036854775808 < v1.toInt) (hb0 : 0 < b) (hb : b < 2 ^ 31) : ∃ x y : Int64, (∀ s, db_f189 s v1 (lN b) = some (db_uL (db_uL s 282 0 x) 282 1 y)) ∧ ∀ s, db_f364 s v1 (lN b) = some (true, db_uL (db_uL s 669 2 x) 669 3 y) := by
  obtain ⟨e, ha⟩ := dw_abs h1
  have hg : 0 < Nat.gcd v1.toInt.natAbs b := Nat.gcd_pos_of_pos_right _ hb0
  have hgb : Nat.gcd v1.toInt.natAbs b ≤ b := Nat.le_of_dvd hb0 (Nat.gcd_dvd_right _ _)
  have hgl : ¬ lN (Nat.gcd v1.toInt.natAbs b) = 0 := by rw [dw_l0 (by omega)]; omega
  refine ⟨v1 / lN (Nat.gcd v1.toInt.natAbs b), lN b / lN (Nat.gcd v1.toInt.natAbs b), fun s => ?_, fun s => ?_⟩
  · have hm := dw_189 (s := s) (v1 := v1) (v3 := lN b) (n := 31) (a := v1.toInt.natAbs) (b := b) (r := 0) (k := 999937) ha hb (by decide) (by decide)
    unfold db_f189
    rw [e]
    refine Eq.trans ?_ (hm.trans ?_)
    · rfl
    · unfold db_f189_b48
      rw [dw_ceq, decide_eq_false hgl, db_cf, if_neg hgl, db_pL_e, db_bind_some, if_neg hgl]
      simp (disch := omega) only [db_lit, eq_self, db_pI_e, db_pL_e, db_bind_some, db_bd_some, nI_add, pk_mul, nI_toInt, db_m1_t, dz_cn, Int.ofNat_le, Int.ofNat_lt, decide_true, decide_false, db_ct, db_cf, not_true_eq_false, not_false_eq_true]
  · have hm := dw_364 (s := s) (v1 := v1) (v3 := lN b) (n := 31) (a := v1.toInt.natAbs) (b := b) (k := 999937) ha hb (by decide) hg
    unfold db_f364
    rw [e]
    exact Eq.trans rfl hm
/-- the sum of the readings by their chances -/
def dw_wk (c : db_C) (p q : Int32) : Nat → Int64
  | 0 => lN 0
  | d + 1 => dw_wk c p q d + (c (143 + d)).toInt64 * (db_rq c d p q).toInt64
theorem dw_wk_b (hO : db_Ok U c) : ∀ d, d ≤ db_n c 5 → -(212600881152 * (d : Int)) ≤ (dw_wk c p q d).toInt ∧ (dw_wk c p q d).toInt ≤ 212600881152 * (d : Int)
  | 0, _ => by
    show -(212600881152 * ((0 : Nat) : Int)) ≤ (lN 0).toInt ∧ (lN 0).toInt ≤ _
    have : (lN 0).toInt = 0 := rfl
    omega
  | d + 1, hd => by
    have ih := dw_wk_b hO d (by omega)
    have h8 := hO.1.2.2.2.2.2.2
    obtain ⟨k1, k2⟩ := (hO.2.2.2.1 d (by omega)).2.2.2.1
    have hr := fb_rng (db_rq c d p q)
    have e1 : (c (143 + d)).toInt64.toInt = (db_n c (143 + d) : Int) := by rw [db_iL, k1, nI_toInt (by omega)]
    have e2 : (db_rq c d p q).toInt64.toInt = (db_rq c d p q).toInt := db_iL _
    have m1 : (db_n c (143 + d) : Int) * (db_rq c d p q).toInt ≤ 99 * 2147483648 := by
      by_cases h0 : 0 ≤ (db_rq c d p q).toInt
      · exact Int.le_trans (Int.mul_le_mul_of_nonneg_right (show (db_n c (143 + d) : Int) ≤ 99 by omega) h0) (by omega)
      · have := Int.mul_nonneg (show (0 : Int) ≤ (db_n c (143 + d) : Int) by omega) (show (0 : Int) ≤ -(db_rq c d p q).toInt by omega)
        rw [Int.mul_neg] at this
        omega
    have m2 : -(99 * 2147483648) ≤ (db_n c (143 + d) : Int) * (db_rq c d p q).toInt := by
      by_cases h0 : 0 ≤ (db_rq c d p q).toInt
      · have := Int.mul_nonneg (show (0 : Int) ≤ (db_n c (143 + d) : Int) by omega) h0
        omega
      · have := Int.mul_le_mul_of_nonneg_right (show (db_n c (143 + d) : Int) ≤ 99 by omega) (show (0 : Int) ≤ -(db_rq c d p q).toInt by omega)
        rw [Int.mul_neg] at this
        omega
    show -(212600881152 * ((d + 1 : Nat) : Int)) ≤ (dw_wk c p q d + (c (143 + d)).toInt64 * (db_rq c d p q).toInt64).toInt ∧ _ ≤ _
    have em : ((c (143 + d)).toInt64 * (db_rq c d p q).toInt64).toInt = (db_n c (143 + d) : Int) * (db_rq c d p q).toInt := by
      rw [fb_mulL (by rw [e1, e2]; omega) (by rw [e1, e2]; omega), e1, e2]
    show -(212600881152 * ((d + 1 : Nat) : Int)) ≤ (dw_wk c p q d + (c (143 + d)).toInt64 * (db_rq c d p q).toInt64).toInt ∧ (dw_wk c p q d + (c (143 + d)).toInt64 * (db_rq c d p q).toInt64).toInt ≤ _
    rw [fb_addL (by rw [em]; omega) (by rw [em]; omega), em]
    omega
theorem dw_ch (hO : db_Ok U c) : ∀ d, d ≤ db_n c 5 → ∃ n, db_ch c d = nI n ∧ d ≤ n ∧ n ≤ 99 * d
  | 0, _ => ⟨0, rfl, by omega, by omega⟩
  | d + 1, hd => by
    obtain ⟨n, e, h1, h2⟩ := dw_ch hO d (by omega)
    obtain ⟨⟨k1, k2⟩, k3⟩ := (hO.2.2.2.1 d (by omega)).2.2.2
    refine ⟨n + db_n c (143 + d), ?_, by omega, by omega⟩
    show db_ch c d + c (143 + d) = _
    rw [e, k1, nI_add]
/-- what a week asks -/
theorem dw_187 (hR : db_BR 20 s c w) (hO : db_Ok U c) : db_f187 s x y p q = some (if (db_im p (db_n c 1) && db_im q (db_n c 2)) = true then (if db_wi x ((1 : Nat) : Int) ((6 : Nat) : Int) = true then (if db_wi y (-999) ((999 : Nat) : Int) = true then (if db_n c 5 = 0 then nI 8 else nI 0) else nI 5) else nI 5) else nI 2) := by
  have k5 := hO.1.2.2.2.2.2
  have h8 := k5.2
  have e999 : (-999 : Int32).toInt = -999 := by decide
  unfold db_f187 db_f162
  rw [db_126 hR hO]
  cases db_im p (db_n c 1) && db_im q (db_n c 2) with
  | false => rfl
  | true =>
    rw [db_bind_some, db_ct]
    simp only [db_27, e999]
    cases h1 : db_wi x ((1 : Nat) : Int) ((6 : Nat) : Int) with
    | false =>
      simp (disch := omega) only [db_lit, eq_self, db_pI_e, db_pL_e, db_bind_some, db_bd_some, nI_add, pk_mul, nI_toInt, db_m1_t, dz_cn, Int.ofNat_le, Int.ofNat_lt, decide_true, decide_false, db_ct, db_cf, not_true_eq_false, not_false_eq_true, h1]
      rfl
    | true =>
      cases h2 : db_wi y (-999) ((999 : Nat) : Int) with
      | false =>
        simp (disch := omega) only [db_lit, eq_self, db_pI_e, db_pL_e, db_bind_some, db_bd_some, nI_add, pk_mul, nI_toInt, db_m1_t, dz_cn, Int.ofNat_le, Int.ofNat_lt, decide_true, decide_false, db_ct, db_cf, not_true_eq_false, not_false_eq_true, h1, h2]
        rfl
      | true =>
        have e21 : s.1 21 5 = nI (db_n c 5) := by rw [db_21 hR (by decide)]; exact k5.1
        by_cases h3 : db_n c 5 = 0
        · simp (disch := omega) only [db_lit, eq_self, db_pI_e, db_pL_e, db_bind_some, db_bd_some, nI_add, pk_mul, nI_toInt, db_m1_t, dz_cn, Int.ofNat_le, Int.ofNat_lt, decide_true, decide_false, db_ct, db_cf, not_true_eq_false, not_false_eq_true, db_87e, db_37e, db_31e, db_28e, db_281e, db_211e, db_27, db_269w, db_litL, pk_lT, db_iL, db_p0_e, db_p0_n, db_p0_j, db_sub1, nI_eq, if_true, if_false, Bool.false_eq_true, h1, h2, db_g_21, e21, h3]
        · simp (disch := omega) only [db_lit, eq_self, db_pI_e, db_pL_e, db_bind_some, db_bd_some, nI_add, pk_mul, nI_toInt, db_m1_t, dz_cn, Int.ofNat_le, Int.ofNat_lt, decide_true, decide_false, db_ct, db_cf, not_true_eq_false, not_false_eq_true, db_87e, db_37e, db_31e, db_28e, db_281e, db_211e, db_27, db_269w, db_litL, pk_lT, db_iL, db_p0_e, db_p0_n, db_p0_j, db_sub1, nI_eq, if_true, if_false, Bool.false_eq_true, h1, h2, db_g_21, e21, h3]
theorem dw_frac {f g : db_S → Option (Bool × db_S)} {x y : Int64} (hI : db_Inv U s) (hf : dz_T (f s) (fun z => z.1 = true ∧ ∃ a, db_Ec s a ∧ z.2 = db_uI (db_uL (db_uL a 282 0 x) 282 1 y) 4 0 (nI 0)))
    (hg : ∀ s1, (∀ a j, db_ec a j → ¬ (a = 4 ∧ j = 0) → ¬ (a = 282 ∧ j ≤ 1) → s1.1 a j = s.1 a j ∧ s1.2 a j = s.2 a j) → db_A s1 (db_bk s 0) → dz_T (g s1) (fun z => z.1 = true ∧ ∃ a, db_Em (db_p0 s1) a ∧ z.2 = db_uL (db_uL a 669 2 x) 669 3 y)) : dz_G U s f g := by
  obtain ⟨⟨v, s1⟩, e1, h1, a, h2, h3⟩ := hf
  dsimp only at h1 h3
  subst h1
  have k1 : ∀ b j, db_ec b j → ¬ (b = 4 ∧ j = 0) → ¬ (b = 282 ∧ j ≤ 1) → s1.1 b j = s.1 b j ∧ s1.2 b j = s.2 b j := by
    intro b j q n1 n2
    rw [h3, db_uI_if, if_neg n1, db_uI_2, db_uL_if, if_neg (by omega), db_uL_if, if_neg (by omega)]
    exact h2 b j q
  have hA : db_A s1 (db_bk s 0) := fun k hk => by
    rw [(k1 674 k (by unfold db_ec; omega) (by omega) (by omega)).1]
    exact db_bk_A k hk
  obtain ⟨⟨v2, s2⟩, e2, g1, a2, g2, g3⟩ := hg s1 k1 hA
  dsimp only at g1 g3
  subst g1
  have k2 : ∀ b j, db_em b j → ¬ (b = 669 ∧ (j = 0 ∨ j = 2 ∨ j = 3)) → s2.1 b j = s1.1 b j ∧ s2.2 b j = s1.2 b j := by
    intro b j q n1
    have h4 := g2 b j q
    have h5 := db_p0_m (s := s1) b j q (by omega)
    rw [g3, db_uL_if, if_neg (by omega), db_uL_if, if_neg (by omega)]
    exact ⟨h4.1.trans h5.1, h4.2.trans h5.2⟩
  refine ⟨_, s1, s2, e1, e2, db_Inv_frac hI (Nat.le_refl U) (fun b j he hne => ?_) ?_ ⟨?_, ?_⟩⟩
  · have q2 := k2 b j (by rcases he with he | he; exact .inl he.1; exact he.2) (by omega)
    have q1 := k1 b j (by rcases he with he | he; exact he.2; unfold db_ec; omega) (by omega) (by omega)
    exact ⟨q2.1.trans q1.1, q2.2.trans q1.2⟩
  · rw [(k2 4 0 (.inl (by omega)) (by omega)).1, h3, db_uI_1, g3]
    show _ = a2.1 669 0
    rw [(g2 669 0 (by unfold db_em; omega)).1]
    exact db_p0_0.symm
  · rw [(k2 282 0 (.inl (by omega)) (by omega)).2, h3, db_uI_2, db_uL_j (by decide), db_uL_1, g3, db_uL_j (by decide), db_uL_1]
  · rw [(k2 282 1 (.inl (by omega)) (by omega)).2, h3, db_uI_2, db_uL_1, g3, db_uL_1]
theorem db_k49 (hI : db_Inv U s) (hU : U ≤ 1000000000) : dz_G U s (fun s => db_f186 s x p q) (fun s => db_f363 s x p q) := by
  obtain ⟨hO, hR, -⟩ := db_cur hI
  have k1 := hO.1.2.1
  have k2 := hO.1.2.2.1
  have k5 := hO.1.2.2.2.2.2
  have h8 := k5.2
  have w0 : db_wi 0 (-999) ((999 : Nat) : Int) = true := by decide
  have f187 := dw_187 (x := x) (y := 0) (p := p) (q := q) hR hO
  rw [w0] at f187
  generalize hcc : db_bk s 0 = c at *
  generalize hww : db_bw s 0 = w at *
  cases hpq : (db_im p (db_n c 1) && db_im q (db_n c 2)) with
  | false =>
    rw [hpq] at f187
    refine db_GnB 2 hI ?_ fun s1 hS hA => ?_
    · unfold db_f186
      rw [f187]
      simp (disch := omega) only [db_lit, eq_self, db_pI_e, db_pL_e, db_bind_some, db_bd_some, nI_add, pk_mul, nI_toInt, db_m1_t, dz_cn, Int.ofNat_le, Int.ofNat_lt, decide_true, decide_false, db_ct, db_cf, not_true_eq_false, not_false_eq_true, db_87e, db_37e, db_31e, db_28e, db_281e, db_211e, db_27, db_269w, db_litL, pk_lT, db_iL, db_p0_e, db_p0_n, db_p0_j, db_sub1, nI_eq, if_true, if_false, Bool.false_eq_true, (show ¬ 2 = 0 by omega)]
    · rw [hcc] at hA
      unfold db_f363
      simp (disch := omega) only [db_lit, eq_self, db_pI_e, db_pL_e, db_bind_some, db_bd_some, nI_add, pk_mul, nI_toInt, db_m1_t, dz_cn, Int.ofNat_le, Int.ofNat_lt, decide_true, decide_false, db_ct, db_cf, not_true_eq_false, not_false_eq_true, db_87e, db_37e, db_31e, db_28e, db_281e, db_211e, db_27, db_269w, db_litL, pk_lT, db_iL, db_p0_e, db_p0_n, db_p0_j, db_sub1, nI_eq, if_true, if_false, Bool.false_eq_true, db_315 (db_p0_A hA) k1 k2, hpq]
  | true =>
    rw [hpq] at f187
    have hpq' : db_im p (db_n c 1) = true ∧ db_im q (db_n c 2) = true := by simpa using hpq
    have hp := db_im_t hpq'.1
    have hq := db_im_t hpq'.2
    cases hx : db_wi x ((1 : Nat) : Int) ((6 : Nat) : Int) with
    | false =>
      rw [hx] at f187
      refine db_GnB 5 hI ?_ fun s1 hS hA => ?_
      · unfold db_f186
        rw [f187]
        simp (disch := omega) only [db_lit, eq_self, db_pI_e, db_pL_e, db_bind_some, db_bd_some, nI_add, pk_mul, nI_toInt, db_m1_t, dz_cn, Int.ofNat_le, Int.ofNat_lt, decide_true, decide_false, db_ct, db_cf, not_true_eq_false, not_false_eq_true, db_87e, db_37e, db_31e, db_28e, db_281e, db_211e, db_27, db_269w, db_litL, pk_lT, db_iL, db_p0_e, db_p0_n, db_p0_j, db_sub1, nI_eq, if_true, if_false, Bool.false_eq_true, (show ¬ 5 = 0 by omega)]
      · rw [hcc] at hA
        unfold db_f363
        simp (disch := omega) only [db_lit, eq_self, db_pI_e, db_pL_e, db_bind_some, db_bd_some, nI_add, pk_mul, nI_toInt, db_m1_t, dz_cn, Int.ofNat_le, Int.ofNat_lt, decide_true, decide_false, db_ct, db_cf, not_true_eq_false, not_false_eq_true, db_87e, db_37e, db_31e, db_28e, db_281e, db_211e, db_27, db_269w, db_litL, pk_lT, db_iL, db_p0_e, db_p0_n, db_p0_j, db_sub1, nI_eq, if_true, if_false, Bool.false_eq_true, db_315 (db_p0_A hA) k1 k2, hpq, hx]
    | true =>
      rw [hx] at f187
      by_cases h0 : db_n c 5 = 0
      · rw [if_pos h0] at f187
        refine db_GnB 8 hI ?_ fun s1 hS hA => ?_
        · unfold db_f186
          rw [f187]
          simp (disch := omega) only [db_lit, eq_self, db_pI_e, db_pL_e, db_bind_some, db_bd_some, nI_add, pk_mul, nI_toInt, db_m1_t, dz_cn, Int.ofNat_le, Int.ofNat_lt, decide_true, decide_false, db_ct, db_cf, not_true_eq_false, not_false_eq_true, db_87e, db_37e, db_31e, db_28e, db_281e, db_211e, db_27, db_269w, db_litL, pk_lT, db_iL, db_p0_e, db_p0_n, db_p0_j, db_sub1, nI_eq, if_true, if_false, Bool.false_eq_true, (show ¬ 8 = 0 by omega)]
        · rw [hcc] at hA
          unfold db_f363
          have e5 : c 5 = nI 0 := by rw [k5.1, h0]
          simp (disch := omega) only [db_lit, eq_self, db_pI_e, db_pL_e, db_bind_some, db_bd_some, nI_add, pk_mul, nI_toInt, db_m1_t, dz_cn, Int.ofNat_le, Int.ofNat_lt, decide_true, decide_false, db_ct, db_cf, not_true_eq_false, not_false_eq_true, db_87e, db_37e, db_31e, db_28e, db_281e, db_211e, db_27, db_269w, db_litL, pk_lT, db_iL, db_p0_e, db_p0_n, db_p0_j, db_sub1, nI_eq, if_true, if_false, Bool.false_eq_true, db_315 (db_p0_A hA) k1 k2, hpq, hx, db_g_674, hA, e5]
      · rw [if_neg h0] at f187
        obtain ⟨n, hn, hn1, rfl⟩ := db_wi_t (by decide) (by decide) hx
        obtain ⟨ch, ech, hch1, hch2⟩ := dw_ch hO (db_n c 5) (Nat.le_refl _)
        have hwb := dw_wk_b (p := p) (q := q) hO (db_n c 5) (Nat.le_refl _)
        have en : (nI n).toInt64.toInt = (n : Int) := by rw [db_iL, nI_toInt (by omega)]
        have hprod : -9223372036854775808 < ((nI n).toInt64 * dw_wk c p q (db_n c 5)).toInt := by
          have a1 : -(6 * 1700807049216) ≤ (n : Int) * (dw_wk c p q (db_n c 5)).toInt ∧ (n : Int) * (dw_wk c p q (db_n c 5)).toInt ≤ 6 * 1700807049216 := by
            rcases (by omega : n = 0 ∨ n = 1 ∨ n = 2 ∨ n = 3 ∨ n = 4 ∨ n = 5 ∨ n = 6) with rfl | rfl | rfl | rfl | rfl | rfl | rfl <;> omega
          rw [fb_mulL (by rw [en]; omega) (by rw [en]; omega), en]
          omega
        have elc : (nI ch).toInt64 = lN ch := Int64.toInt_inj.mp (by rw [db_iL, nI_toInt (by omega), pk_lT (by omega)])
        obtain ⟨fx, fy, t1, t2⟩ := dw_tell (v1 := (nI n).toInt64 * dw_wk c p q (db_n c 5)) (b := ch) hprod (by omega) (by omega)
        refine dw_frac (x := fx) (y := fy) hI ?_ fun s1 hS hA => ?_
        · unfold db_f186
          rw [f187]
          simp (disch := omega) only [db_lit, eq_self, db_pI_e, db_pL_e, db_bind_some, db_bd_some, nI_add, pk_mul, nI_toInt, db_m1_t, dz_cn, Int.ofNat_le, Int.ofNat_lt, decide_true, decide_false, db_ct, db_cf, not_true_eq_false, not_false_eq_true, db_87e, db_37e, db_31e, db_28e, db_281e, db_211e, db_27, db_269w, db_litL, pk_lT, db_iL, db_p0_e, db_p0_n, db_p0_j, db_sub1, nI_eq, if_true, if_false, Bool.false_eq_true]
          unfold db_f188
          simp (disch := omega) only [db_lit, eq_self, db_pI_e, db_pL_e, db_bind_some, db_bd_some, nI_add, pk_mul, nI_toInt, db_m1_t, dz_cn, Int.ofNat_le, Int.ofNat_lt, decide_true, decide_false, db_ct, db_cf, not_true_eq_false, not_false_eq_true, db_87e, db_37e, db_31e, db_28e, db_281e, db_211e, db_27, db_269w, db_litL, pk_lT, db_iL, db_p0_e, db_p0_n, db_p0_j, db_sub1, nI_eq, if_true, if_false, Bool.false_eq_true]
          rw [db_T_bind]
          refine db_loop (L := fun m (a : db_S × Int64) d => db_f188_b6 m a.1 (nI n) p q a.2 (nI d)) (N := db_n c 5) (fun d a => a.2 = dw_wk c p q d ∧ db_Ec s a.1 ∧ db_BR 20 a.1 c w) ?_ ?_ (n := db_FU) (a := (s, lN 0)) (by unfold db_FU; omega) ⟨rfl, db_Ec_r, hR⟩
          · rintro m ⟨a, u⟩ ⟨g1, g2, g3⟩
            dsimp only at g1 g2 g3
            show dz_T (db_f188_b6 (m + 1) a (nI n) p q u (nI (db_n c 5))) _
            rw [db_f188_b6]
            have e21 : a.1 21 5 = nI (db_n c 5) := by rw [db_21 g3 (by decide)]; exact k5.1
            subst g1
            simp (disch := omega) only [db_lit, eq_self, db_pI_e, db_pL_e, db_bind_some, db_bd_some, nI_add, pk_mul, nI_toInt, db_m1_t, dz_cn, Int.ofNat_le, Int.ofNat_lt, decide_true, decide_false, db_ct, db_cf, not_true_eq_false, not_false_eq_true, db_g_21, e21, Nat.le_refl, db_ch_e g3 hO, ech, elc, t1]
            refine db_T_some.mpr ?_
            exact ⟨_, rfl, rfl, a, g2, rfl⟩
          · rintro m d ⟨a, u⟩ hd ⟨g1, g2, g3⟩ hrec
            dsimp only at g1 g2 g3
            show dz_T (db_f188_b6 (m + 1) a (nI n) p q u (nI d)) _
            rw [db_f188_b6]
            have e21 : a.1 21 5 = nI (db_n c 5) := by rw [db_21 g3 (by decide)]; exact k5.1
            have h7 : ¬ db_n c 5 ≤ d := by omega
            have e61 : a.1 61 d = c (143 + d) := (db_59 g3 hd).2.2.1
            simp (disch := omega) only [db_lit, eq_self, db_pI_e, db_pL_e, db_bind_some, db_bd_some, nI_add, pk_mul, nI_toInt, db_m1_t, dz_cn, Int.ofNat_le, Int.ofNat_lt, decide_true, decide_false, db_ct, db_cf, not_true_eq_false, not_false_eq_true, db_g_21, e21, h7, db_g_61, e61]
            refine db_T_gd (db_c127 g3 hO hU hd hp hq) fun r a2 hr => ?_
            obtain ⟨r1, ⟨r2, r3⟩, -⟩ := hr
            dsimp only at r1 r2 r3
            subst r1
            refine hrec (a2, u + (c (143 + d)).toInt64 * (db_rq c d p q).toInt64) ⟨?_, db_Ec_t g2 r2, r3⟩
            show u + _ = dw_wk c p q d + _
            rw [g1]
        · rw [hcc] at hA
          unfold db_f363
          simp (disch := omega) only [db_lit, eq_self, db_pI_e, db_pL_e, db_bind_some, db_bd_some, nI_add, pk_mul, nI_toInt, db_m1_t, dz_cn, Int.ofNat_le, Int.ofNat_lt, decide_true, decide_false, db_ct, db_cf, not_true_eq_false, not_false_eq_true, db_87e, db_37e, db_31e, db_28e, db_281e, db_211e, db_27, db_269w, db_litL, pk_lT, db_iL, db_p0_e, db_p0_n, db_p0_j, db_sub1, nI_eq, if_true, if_false, Bool.false_eq_true, db_315 (db_p0_A hA) k1 k2, hpq, hx, db_g_674, hA, k5.1, h0]
          refine db_loop (L := fun m (a : db_S × Int64) d => db_f363_b65 m a.1 (nI n) p q a.2 (nI d)) (N := db_n c 5) (fun d a => a.2 = dw_wk c p q d ∧ db_Em (db_p0 s1) a.1 ∧ db_A a.1 c) ?_ ?_ (n := db_FU) (a := (db_p0 s1, lN 0)) (by unfold db_FU; omega) ⟨rfl, db_Em_r, db_p0_A hA⟩
          · rintro m ⟨a, u⟩ ⟨g1, g2, g3⟩
            dsimp only at g1 g2 g3
            show dz_T (db_f363_b65 (m + 1) a (nI n) p q u (nI (db_n c 5))) _
            rw [db_f363_b65]
            subst g1
            simp (disch := omega) only [db_lit, eq_self, db_pI_e, db_pL_e, db_bind_some, db_bd_some, nI_add, pk_mul, nI_toInt, db_m1_t, dz_cn, Int.ofNat_le, Int.ofNat_lt, decide_true, decide_false, db_ct, db_cf, not_true_eq_false, not_false_eq_true, db_g_674, g3, k5.1, Nat.le_refl, db_ch_m g3 hO, ech, elc, t2]
            exact ⟨_, rfl, rfl, a, g2, rfl⟩
          · rintro m d ⟨a, u⟩ hd ⟨g1, g2, g3⟩ hrec
            dsimp only at g1 g2 g3
            show dz_T (db_f363_b65 (m + 1) a (nI n) p q u (nI d)) _
            rw [db_f363_b65]
            have h7 : ¬ db_n c 5 ≤ d := by omega
            simp (disch := omega) only [db_lit, eq_self, db_pI_e, db_pL_e, db_bind_some, db_bd_some, nI_add, pk_mul, nI_toInt, db_m1_t, dz_cn, Int.ofNat_le, Int.ofNat_lt, decide_true, decide_false, db_ct, db_cf, not_true_eq_false, not_false_eq_true, db_g_674, g3, k5.1, h7]
            refine db_T_gd (db_m316 g3 hO hd hp hq) fun r a2 hr => ?_
            obtain ⟨r1, ⟨r2, -, r3⟩, -⟩ := hr
            dsimp only at r1 r2 r3
            subst r1
            refine hrec (a2, u + (c (143 + d)).toInt64 * (db_rq c d p q).toInt64) ⟨?_, db_Em_t g2 r2, r3⟩
            show u + _ = dw_wk c p q d + _
            rw [g1]
end DBWK
