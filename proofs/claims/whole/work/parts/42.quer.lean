/-! THE CALLS THAT CHANGE NOTHING, three -/
/-- nobody, the first, the second .. -/
def db_pm (i : Nat) : Int32 := if i = 0 then -(nI 1) else nI (i - 1)
theorem db_pm_s {i : Nat} : db_pm i + nI 1 = db_pm (i + 1) := by
  unfold db_pm
  rw [if_neg (show ¬ i + 1 = 0 by omega)]
  by_cases h : i = 0
  · subst h
    rw [if_pos rfl]
    decide
  · rw [if_neg h, nI_add]
    congr 1
    omega
theorem db_pm_t {i : Nat} (h : i < 100) : (db_pm i).toInt = (i : Int) - 1 := by
  unfold db_pm
  by_cases h0 : i = 0
  · subst h0
    rw [if_pos rfl]
    decide
  · rw [if_neg h0, nI_toInt (by omega)]
    omega
theorem db_pm_O {i n : Nat} (h : i < n + 1) : db_O (db_pm i) n := by
  unfold db_pm
  by_cases h0 : i = 0
  · rw [if_pos h0]; exact .inl rfl
  · rw [if_neg h0]; exact .inr ⟨i - 1, by omega, rfl⟩
theorem db_pm_0 : db_pm 0 = -(nI 1) := rfl
/-- the end of such a count -/
theorem db_pm_ge {i n : Nat} (h : i < 100) : decide (((n : Nat) : Int) ≤ (db_pm i).toInt) = decide (n + 1 ≤ i) := by
  rw [decide_eq_decide, db_pm_t h]
  omega
/-- the rule used most -/
def db_mu (c : db_C) : Nat → Option Nat
  | 0 => none
  | k + 1 => match db_mu c k with
    | none => if 0 < (c (91 + k)).toInt then some k else none
    | some b => if (c (91 + b)).toInt < (c (91 + k)).toInt then some k else some b
theorem db_mu_lt {c : db_C} : ∀ {k b : Nat}, db_mu c k = some b → b < k
  | 0, _, h => nomatch h
  | k + 1, b, h => by
    rw [db_mu] at h
    cases hm : db_mu c k with
    | none =>
      rw [hm] at h
      dsimp only at h
      split at h
      · cases h; omega
      · cases h
    | some b' =>
      have := db_mu_lt hm
      rw [hm] at h
      dsimp only at h
      split at h
      · cases h; omega
      · cases h; omega
theorem db_mu_pos {c : db_C} : ∀ {k b : Nat}, db_mu c k = some b → 0 < (c (91 + b)).toInt
  | 0, _, h => nomatch h
  | k + 1, b, h => by
    rw [db_mu] at h
    cases hm : db_mu c k with
    | none =>
      rw [hm] at h
      dsimp only at h
      split at h
      · rename_i h2; cases h; exact h2
      · cases h
    | some b' =>
      have := db_mu_pos hm
      rw [hm] at h
      dsimp only at h
      split at h
      · rename_i h2; cases h; omega
      · cases h; exact this
/-- two rules quarrel -/
def db_fq (a b : Int32) : Bool := decide (a.toInt < 0) || (decide (b.toInt < 0) || decide (a = b))
def db_uq (c : db_C) (a b : Nat) : Bool := decide ((c (55 + a)).toInt < 0) || (!decide (c (55 + a) = c (19 + a)) && (!decide (c (55 + a) = c (43 + a)) && !decide (c (55 + a) = c (43 + b))))
def db_sg (a b : Int32) : Bool := (decide (0 < a.toInt) && decide (b.toInt < 0)) || (decide (a.toInt < 0) && decide (0 < b.toInt))
def db_qu (c : db_C) (a b : Nat) : Bool := db_sg (c (31 + a)) (c (31 + b)) && (decide (c (19 + a) = c (19 + b)) && (db_fq (c (67 + a)) (c (67 + b)) && (db_fq (c (79 + a)) (c (79 + b)) && (db_uq c a b && db_uq c b a))))
theorem db_mul99 {a b : Int32} (a1 : -99 ≤ a.toInt) (a2 : a.toInt ≤ 99) (b1 : -99 ≤ b.toInt) (b2 : b.toInt ≤ 99) : decide ((a * b).toInt < 0) = db_sg a b := by
  have key : ∀ x y : Int, -99 ≤ x → x ≤ 99 → -99 ≤ y → y ≤ 99 → -9801 ≤ x * y ∧ x * y ≤ 9801 := by
    intro x y h1 h2 h3 h4
    have n1 : (x * y).natAbs ≤ 99 * 99 := by
      rw [Int.natAbs_mul]
      exact Nat.mul_le_mul (by omega) (by omega)
    omega
  obtain ⟨k1, k2⟩ := key _ _ a1 a2 b1 b2
  rw [fb_mulI (by omega) (by omega)]
  unfold db_sg
  rcases Int.lt_trichotomy a.toInt 0 with h | h | h
  · rcases Int.lt_trichotomy b.toInt 0 with g | g | g
    · have := Int.mul_pos_of_neg_of_neg h g
      have q1 : ¬ a.toInt * b.toInt < 0 := by omega
      have q2 : ¬ 0 < a.toInt := by omega
      have q3 : ¬ 0 < b.toInt := by omega
      simp [q1, q2, q3]
    · rw [g]; simp
    · have := Int.mul_neg_of_neg_of_pos h g
      simp [this, h, g]
  · rw [h]; simp
  · rcases Int.lt_trichotomy b.toInt 0 with g | g | g
    · have := Int.mul_neg_of_pos_of_neg h g
      simp [this, h, g]
    · rw [g]; simp
    · have := Int.mul_pos h g
      have q1 : ¬ a.toInt * b.toInt < 0 := by omega
      have q2 : ¬ a.toInt < 0 := by omega
      have q3 : ¬ b.toInt < 0 := by omega
      simp [q1, q2, q3]
section DBQ3
variable {U : Nat} {s : db_S} {c : db_C} {w : Nat → Int64} {v x y z p q : Int32}
theorem db_147 {n : Nat} (hn : n < 2 ^ 31) (hx : db_O x n) (hy : db_O y n) : db_f147 s x y = some (db_fq x y) := by
  unfold db_f147 db_fq
  rw [db_O_neg hn hx, db_O_neg hn hy]
  simp (disch := omega) only [db_lit, eq_self, db_pI_e, db_pL_e, db_bind_some, db_bd_some, nI_add, pk_mul, nI_toInt, db_m1_t, dz_cn, Int.ofNat_le, Int.ofNat_lt, decide_true, decide_false, db_ct, db_cf, not_true_eq_false, not_false_eq_true, db_87e, db_37e, db_31e, db_28e, db_281e, db_211e, db_27, db_269w, db_litL, pk_lT, db_iL, db_p0_e, db_p0_n, db_p0_j, db_sub1, nI_eq, if_true, if_false, Bool.false_eq_true]
  by_cases e1 : x = -(nI 1)
  · rw [decide_eq_true e1]; rfl
  · rw [decide_eq_false e1, db_cf, Bool.false_or]
    by_cases e2 : y = -(nI 1)
    · rw [decide_eq_true e2]; rfl
    · rw [decide_eq_false e2, db_cf, Bool.false_or]
      by_cases e3 : x = y <;> simp [e3]
theorem db_337 : db_f337 s x y = some (db_fq x y) := by
  unfold db_f337 db_fq
  simp (disch := omega) only [db_lit, eq_self, db_pI_e, db_pL_e, db_bind_some, db_bd_some, nI_add, pk_mul, nI_toInt, db_m1_t, dz_cn, Int.ofNat_le, Int.ofNat_lt, decide_true, decide_false, db_ct, db_cf, not_true_eq_false, not_false_eq_true, db_87e, db_37e, db_31e, db_28e, db_281e, db_211e, db_27, db_269w, db_litL, pk_lT, db_iL, db_p0_e, db_p0_n, db_p0_j, db_sub1, nI_eq, if_true, if_false, Bool.false_eq_true]
  by_cases e1 : x.toInt < 0
  · simp [e1]
  · by_cases e2 : y.toInt < 0
    · simp [e1, e2]
    · by_cases e3 : x = y <;> simp [e1, e2, e3]
theorem db_148 (hR : db_BR 20 s c w) (hO : db_Ok U c) {a b : Nat} (ha : a < db_n c 3) (hb : b < db_n c 3) : db_f148 s (25 + a) (25 + b) = some (db_uq c a b) := by
  have j3 := hO.1.2.2.2.1.2
  have jT := hO.1.1.2
  obtain ⟨q0, q1, q2, q3, q4, q5⟩ := db_25 hR ha
  obtain ⟨r0, r1, r2, r3, r4, r5⟩ := db_25 hR hb
  obtain ⟨-, -, -, o2, -⟩ := hO.2.1 a ha
  unfold db_f148 db_uq
  rw [db_O_neg (by omega) o2]
  simp (disch := omega) only [db_lit, eq_self, db_pI_e, db_pL_e, db_bind_some, db_bd_some, nI_add, pk_mul, nI_toInt, db_m1_t, dz_cn, Int.ofNat_le, Int.ofNat_lt, decide_true, decide_false, db_ct, db_cf, not_true_eq_false, not_false_eq_true, db_87e, db_37e, db_31e, db_28e, db_281e, db_211e, db_27, db_269w, db_litL, pk_lT, db_iL, db_p0_e, db_p0_n, db_p0_j, db_sub1, nI_eq, if_true, if_false, Bool.false_eq_true, db_g_25, q0, q2, q3, r2]
  by_cases e1 : c (55 + a) = -(nI 1)
  · rw [decide_eq_true e1]; rfl
  · rw [decide_eq_false e1, db_cf, Bool.false_or]
    generalize decide (c (55 + a) = c (19 + a)) = B1
    generalize decide (c (55 + a) = c (43 + a)) = B2
    generalize decide (c (55 + a) = c (43 + b)) = B3
    cases B1 <;> cases B2 <;> cases B3 <;> rfl
theorem db_338 (hc : db_A s c) {a b : Nat} (ha : a < 12) (hb : b < 12) : db_f338 s (nI a) (nI b) = some (db_uq c a b) := by
  unfold db_f338 db_uq
  simp (disch := omega) only [db_lit, eq_self, db_pI_e, db_pL_e, db_bind_some, db_bd_some, nI_add, pk_mul, nI_toInt, db_m1_t, dz_cn, Int.ofNat_le, Int.ofNat_lt, decide_true, decide_false, db_ct, db_cf, not_true_eq_false, not_false_eq_true, db_87e, db_37e, db_31e, db_28e, db_281e, db_211e, db_27, db_269w, db_litL, pk_lT, db_iL, db_p0_e, db_p0_n, db_p0_j, db_sub1, nI_eq, if_true, if_false, Bool.false_eq_true, db_g_674, hc]
  by_cases e1 : (c (55 + a)).toInt < ((0 : Nat) : Int)
  · rw [decide_eq_true e1]; rw [show decide ((c (55 + a)).toInt < 0) = true from decide_eq_true e1]; rfl
  · rw [decide_eq_false e1, db_cf, show decide ((c (55 + a)).toInt < 0) = false from decide_eq_false e1, Bool.false_or]
    generalize decide (c (55 + a) = c (19 + a)) = B1
    generalize decide (c (55 + a) = c (43 + a)) = B2
    generalize decide (c (55 + a) = c (43 + b)) = B3
    cases B1 <;> cases B2 <;> cases B3 <;> rfl
theorem db_146 (hR : db_BR 20 s c w) (hO : db_Ok U c) {a b : Nat} (ha : a < db_n c 3) (hb : b < db_n c 3) : db_f146_20 s (nI a) (nI b) = some (db_qu c a b) := by
  have j3 := hO.1.2.2.2.1.2
  have jT := hO.1.1.2
  have jP := hO.1.2.1.2
  have jS := hO.1.2.2.1.2
  obtain ⟨q0, q1, q2, q3, q4, q5⟩ := db_25 hR ha
  obtain ⟨r0, r1, r2, r3, r4, r5⟩ := db_25 hR hb
  obtain ⟨-, -, -, -, o3, o4, -⟩ := hO.2.1 a ha
  obtain ⟨-, -, -, -, o3', o4', -⟩ := hO.2.1 b hb
  have k46 : ∀ g : Bool, db_f146_20_b46 s (25 + a) (25 + b) (if g then nI 1 else nI 0) = some (g && (decide (c (19 + a) = c (19 + b)) && (db_fq (c (67 + a)) (c (67 + b)) && (db_fq (c (79 + a)) (c (79 + b)) && (db_uq c a b && db_uq c b a))))) := by
    intro g
    unfold db_f146_20_b46
    simp (disch := omega) only [db_lit, eq_self, db_pI_e, db_pL_e, db_bind_some, db_bd_some, nI_add, pk_mul, nI_toInt, db_m1_t, dz_cn, Int.ofNat_le, Int.ofNat_lt, decide_true, decide_false, db_ct, db_cf, not_true_eq_false, not_false_eq_true, db_87e, db_37e, db_31e, db_28e, db_281e, db_211e, db_27, db_269w, db_litL, pk_lT, db_iL, db_p0_e, db_p0_n, db_p0_j, db_sub1, nI_eq, if_true, if_false, Bool.false_eq_true, db_g_25, q0, q4, q5, r0, r4, r5, db_147 (show db_n c 1 < 2 ^ 31 by omega) o3 o3', db_147 (show db_n c 2 < 2 ^ 31 by omega) o4 o4', db_148 hR hO ha hb, db_148 hR hO hb ha]
    cases g
    · rfl
    · show cond false _ _ = _
      rw [db_cf, Bool.true_and]
      by_cases e : c (19 + a) = c (19 + b)
      · rw [decide_eq_false (fun q => q e), decide_eq_true e, db_cf, Bool.true_and]
        cases db_fq (c (67 + a)) (c (67 + b)) <;> cases db_fq (c (79 + a)) (c (79 + b)) <;> cases db_uq c a b <;> cases db_uq c b a <;> rfl
      · rw [decide_eq_true e, decide_eq_false e, db_ct, Bool.false_and]
  have k0 := k46 false
  have k1 := k46 true
  simp only [if_true, Bool.false_eq_true, if_false, Bool.false_and, Bool.true_and] at k0 k1
  unfold db_f146_20 db_f146_20_b28 db_f146_20_b41 db_f146_20_b45 db_qu db_sg
  simp (disch := omega) only [db_lit, eq_self, db_pI_e, db_pL_e, db_bind_some, db_bd_some, nI_add, pk_mul, nI_toInt, db_m1_t, dz_cn, Int.ofNat_le, Int.ofNat_lt, decide_true, decide_false, db_ct, db_cf, not_true_eq_false, not_false_eq_true, db_87e, db_37e, db_31e, db_28e, db_281e, db_211e, db_27, db_269w, db_litL, pk_lT, db_iL, db_p0_e, db_p0_n, db_p0_j, db_sub1, nI_eq, if_true, if_false, Bool.false_eq_true, db_q_24, db_g_25, q1, r1, k0, k1]
  rcases Int.lt_trichotomy (c (31 + a)).toInt 0 with h | h | h
  · rw [decide_eq_true (show (c (31 + a)).toInt ≤ ((0 : Nat) : Int) by omega), db_ct, decide_eq_false (show ¬ ((0 : Nat) : Int) ≤ (c (31 + a)).toInt by omega), db_cf, decide_eq_false (show ¬ 0 < (c (31 + a)).toInt by omega), decide_eq_true h, Bool.false_and, Bool.false_or, Bool.true_and]
    by_cases g : 0 < (c (31 + b)).toInt
    · rw [decide_eq_false (show ¬ (c (31 + b)).toInt ≤ ((0 : Nat) : Int) by omega), decide_eq_true g, db_cf, Bool.true_and]
    · rw [decide_eq_true (show (c (31 + b)).toInt ≤ ((0 : Nat) : Int) by omega), decide_eq_false g, db_ct, Bool.false_and]
  · rw [decide_eq_true (show (c (31 + a)).toInt ≤ ((0 : Nat) : Int) by omega), db_ct, decide_eq_true (show ((0 : Nat) : Int) ≤ (c (31 + a)).toInt by omega), db_ct, decide_eq_false (show ¬ 0 < (c (31 + a)).toInt by omega), decide_eq_false (show ¬ (c (31 + a)).toInt < 0 by omega)]
    rfl
  · rw [decide_eq_false (show ¬ (c (31 + a)).toInt ≤ ((0 : Nat) : Int) by omega), db_cf, decide_eq_true h, decide_eq_false (show ¬ (c (31 + a)).toInt < 0 by omega), Bool.true_and, Bool.false_and, Bool.or_false]
    by_cases g : (c (31 + b)).toInt < 0
    · rw [decide_eq_true (show (c (31 + b)).toInt < ((0 : Nat) : Int) by omega), decide_eq_true g, db_ct, Bool.true_and]
    · rw [decide_eq_false (show ¬ (c (31 + b)).toInt < ((0 : Nat) : Int) by omega), decide_eq_false g, db_cf, Bool.false_and]
      rw [decide_eq_true (show ((0 : Nat) : Int) ≤ (c (31 + a)).toInt by omega), db_ct]
theorem db_qu_self {a : Nat} : db_qu c a a = false := by
  unfold db_qu db_sg
  rcases Int.lt_trichotomy (c (31 + a)).toInt 0 with h | h | h
  · rw [decide_eq_false (show ¬ 0 < (c (31 + a)).toInt by omega)]; simp
  · rw [h]; rfl
  · rw [decide_eq_false (show ¬ (c (31 + a)).toInt < 0 by omega)]; simp
theorem db_336 (hc : db_A s c) (hO : db_Ok U c) {a b : Nat} (ha : a < db_n c 3) (hb : b < db_n c 3) : db_f336 s (nI a) (nI b) = some (db_qu c a b) := by
  have j3 := hO.1.2.2.2.1.2
  obtain ⟨-, ⟨a1, a2⟩, -⟩ := hO.2.1 a ha
  obtain ⟨-, ⟨b1, b2⟩, -⟩ := hO.2.1 b hb
  unfold db_f336
  by_cases eab : a = b
  · subst eab
    rw [db_qu_self]
    simp (disch := omega) only [db_lit, eq_self, db_pI_e, db_pL_e, db_bind_some, db_bd_some, nI_add, pk_mul, nI_toInt, db_m1_t, dz_cn, Int.ofNat_le, Int.ofNat_lt, decide_true, decide_false, db_ct, db_cf, not_true_eq_false, not_false_eq_true, db_87e, db_37e, db_31e, db_28e, db_281e, db_211e, db_27, db_269w, db_litL, pk_lT, db_iL, db_p0_e, db_p0_n, db_p0_j, db_sub1, nI_eq, if_true, if_false, Bool.false_eq_true]
  · have hne : ¬ a = b := eab
    simp (disch := omega) only [db_lit, eq_self, db_pI_e, db_pL_e, db_bind_some, db_bd_some, nI_add, pk_mul, nI_toInt, db_m1_t, dz_cn, Int.ofNat_le, Int.ofNat_lt, decide_true, decide_false, db_ct, db_cf, not_true_eq_false, not_false_eq_true, db_87e, db_37e, db_31e, db_28e, db_281e, db_211e, db_27, db_269w, db_litL, pk_lT, db_iL, db_p0_e, db_p0_n, db_p0_j, db_sub1, nI_eq, if_true, if_false, Bool.false_eq_true, hne, db_g_674, hc, db_337, db_338 hc (show a < 12 by omega) (show b < 12 by omega), db_338 hc (show b < 12 by omega) (show a < 12 by omega)]
    unfold db_qu
    rw [show decide ((c (31 + a) * c (31 + b)).toInt < ((0 : Nat) : Int)) = db_sg (c (31 + a)) (c (31 + b)) from db_mul99 a1 a2 b1 b2]
    by_cases e : c (19 + a) = c (19 + b)
    · rw [decide_eq_false (fun q => q e), decide_eq_true e, db_cf]
      cases db_sg (c (31 + a)) (c (31 + b)) <;> cases db_fq (c (67 + a)) (c (67 + b)) <;> cases db_fq (c (79 + a)) (c (79 + b)) <;> cases db_uq c a b <;> cases db_uq c b a <;> rfl
    · rw [decide_eq_true e, decide_eq_false e, db_ct]
      cases db_sg (c (31 + a)) (c (31 + b)) <;> rfl
theorem db_145 (hR : db_BR 20 s c w) (hO : db_Ok U c) : db_f145 s x y = some (if (db_is x (db_n c 3) && db_is y (db_n c 3)) = true then (if x = y then nI 5 else nI 0) else nI 2) := by
  unfold db_f145
  simp (disch := omega) only [db_lit, eq_self, db_pI_e, db_pL_e, db_bind_some, db_bd_some, nI_add, pk_mul, nI_toInt, db_m1_t, dz_cn, Int.ofNat_le, Int.ofNat_lt, decide_true, decide_false, db_ct, db_cf, not_true_eq_false, not_false_eq_true, db_87e, db_37e, db_31e, db_28e, db_281e, db_211e, db_27, db_269w, db_litL, pk_lT, db_iL, db_p0_e, db_p0_n, db_p0_j, db_sub1, nI_eq, if_true, if_false, Bool.false_eq_true, db_103 hR hO]
  cases db_is x (db_n c 3) <;> cases db_is y (db_n c 3) <;> by_cases e : x = y <;> simp [e]
theorem db_k34 (hI : db_Inv U s) : dz_G U s (fun s => db_f144 s x y) (fun s => db_f335 s x y) := by
  obtain ⟨hO, hR, -⟩ := db_cur hI
  have k3 := db_Ok_K hO (show 3 < 6 by omega)
  have k12 := k3.2
  have h50 : decide (nI 5 = nI 0) = false := by decide
  have h20 : decide (nI 2 = nI 0) = false := by decide
  cases h : (db_is x (db_n (db_bk s 0) 3) && db_is y (db_n (db_bk s 0) 3)) with
  | false =>
    refine db_Gn 2 hI ?_ fun s1 hS hA => ?_
    · unfold db_f144
      simp (disch := omega) only [db_lit, eq_self, db_pI_e, db_pL_e, db_bind_some, db_bd_some, nI_add, pk_mul, nI_toInt, db_m1_t, dz_cn, Int.ofNat_le, Int.ofNat_lt, decide_true, decide_false, db_ct, db_cf, not_true_eq_false, not_false_eq_true, db_87e, db_37e, db_31e, db_28e, db_281e, db_211e, db_27, db_269w, db_litL, pk_lT, db_iL, db_p0_e, db_p0_n, db_p0_j, db_sub1, nI_eq, if_true, if_false, Bool.false_eq_true, db_145 hR hO, h, h20]
      rfl
    · unfold db_f335 db_f335_b26
      simp (disch := omega) only [db_lit, eq_self, db_pI_e, db_pL_e, db_bind_some, db_bd_some, nI_add, pk_mul, nI_toInt, db_m1_t, dz_cn, Int.ofNat_le, Int.ofNat_lt, decide_true, decide_false, db_ct, db_cf, not_true_eq_false, not_false_eq_true, db_87e, db_37e, db_31e, db_28e, db_281e, db_211e, db_27, db_269w, db_litL, pk_lT, db_iL, db_p0_e, db_p0_n, db_p0_j, db_sub1, nI_eq, if_true, if_false, Bool.false_eq_true, db_289 (db_p0_A hA) k3]
      cases h1 : db_is x (db_n (db_bk s 0) 3) with
      | false => rfl
      | true =>
        rw [h1, Bool.true_and] at h
        rw [h]; rfl
  | true =>
    have h' := h
    simp only [Bool.and_eq_true] at h'
    obtain ⟨hx, hy⟩ := h'
    by_cases e : x = y
    · subst e
      refine db_Gn 5 hI ?_ fun s1 hS hA => ?_
      · unfold db_f144
        simp (disch := omega) only [db_lit, eq_self, db_pI_e, db_pL_e, db_bind_some, db_bd_some, nI_add, pk_mul, nI_toInt, db_m1_t, dz_cn, Int.ofNat_le, Int.ofNat_lt, decide_true, decide_false, db_ct, db_cf, not_true_eq_false, not_false_eq_true, db_87e, db_37e, db_31e, db_28e, db_281e, db_211e, db_27, db_269w, db_litL, pk_lT, db_iL, db_p0_e, db_p0_n, db_p0_j, db_sub1, nI_eq, if_true, if_false, Bool.false_eq_true, db_145 hR hO, h]
        rfl
      · unfold db_f335
        simp (disch := omega) only [db_lit, eq_self, db_pI_e, db_pL_e, db_bind_some, db_bd_some, nI_add, pk_mul, nI_toInt, db_m1_t, dz_cn, Int.ofNat_le, Int.ofNat_lt, decide_true, decide_false, db_ct, db_cf, not_true_eq_false, not_false_eq_true, db_87e, db_37e, db_31e, db_28e, db_281e, db_211e, db_27, db_269w, db_litL, pk_lT, db_iL, db_p0_e, db_p0_n, db_p0_j, db_sub1, nI_eq, if_true, if_false, Bool.false_eq_true, db_289 (db_p0_A hA) k3, hx]
    · obtain ⟨a, ha, rfl⟩ := db_is_t hx
      obtain ⟨b, hb, rfl⟩ := db_is_t hy
      have hab : ¬ a = b := fun q => e (by rw [q])
      refine db_Gy (if db_qu (db_bk s 0) a b then nI 1 else nI 0) hI ?_ fun s1 hS hA => ?_
      · unfold db_f144 db_f144_b35
        simp (disch := omega) only [db_lit, eq_self, db_pI_e, db_pL_e, db_bind_some, db_bd_some, nI_add, pk_mul, nI_toInt, db_m1_t, dz_cn, Int.ofNat_le, Int.ofNat_lt, decide_true, decide_false, db_ct, db_cf, not_true_eq_false, not_false_eq_true, db_87e, db_37e, db_31e, db_28e, db_281e, db_211e, db_27, db_269w, db_litL, pk_lT, db_iL, db_p0_e, db_p0_n, db_p0_j, db_sub1, nI_eq, if_true, if_false, Bool.false_eq_true, db_145 hR hO, h, hab, db_146 hR hO ha hb]
        cases db_qu (db_bk s 0) a b <;> rfl
      · unfold db_f335
        simp (disch := omega) only [db_lit, eq_self, db_pI_e, db_pL_e, db_bind_some, db_bd_some, nI_add, pk_mul, nI_toInt, db_m1_t, dz_cn, Int.ofNat_le, Int.ofNat_lt, decide_true, decide_false, db_ct, db_cf, not_true_eq_false, not_false_eq_true, db_87e, db_37e, db_31e, db_28e, db_281e, db_211e, db_27, db_269w, db_litL, pk_lT, db_iL, db_p0_e, db_p0_n, db_p0_j, db_sub1, nI_eq, if_true, if_false, Bool.false_eq_true, db_289 (db_p0_A hA) k3, hx, hy, hab, db_336 (db_p0_A hA) hO ha hb]
        cases db_qu (db_bk s 0) a b <;> rfl
theorem db_k33 (hI : db_Inv U s) : dz_G U s (fun s => db_f143 s) (fun s => db_f331 s) := by
  obtain ⟨hO, hR, -⟩ := db_cur hI
  have k3 := db_Ok_K hO (show 3 < 6 by omega)
  have k12 := k3.2
  have hA0 : db_A s (db_bk s 0) := db_bk_A
  generalize hcc : db_bk s 0 = c at *
  -- both loops go through db_mu
  have hcl : ∀ r : Option (Int32 × db_S), (match db_mu c (db_n c 3) with | none => some (-(nI 1), db_uI s 4 0 (nI 8)) | some b => some (nI b, db_uI s 4 0 (nI 0))) = r → db_f143 s = r := by
    intro r hr
    unfold db_f143
    refine db_fold (L := fun n v k => db_f143_b4 n s v (nI k)) (N := db_n c 3) (fun k => db_o (db_mu c k)) (fun n => ?_) (fun n k hk => ?_) (n := db_FU) (by unfold db_FU; omega)
    · show db_f143_b4 (n + 1) s (db_o (db_mu c (db_n c 3))) (nI (db_n c 3)) = r
      rw [db_f143_b4]
      simp (disch := omega) only [db_lit, eq_self, db_pI_e, db_pL_e, db_bind_some, db_bd_some, nI_add, pk_mul, nI_toInt, db_m1_t, dz_cn, Int.ofNat_le, Int.ofNat_lt, decide_true, decide_false, db_ct, db_cf, not_true_eq_false, not_false_eq_true, db_87e, db_37e, db_31e, db_28e, db_281e, db_211e, db_27, db_269w, db_litL, pk_lT, db_iL, db_p0_e, db_p0_n, db_p0_j, db_sub1, nI_eq, if_true, if_false, Bool.false_eq_true, db_g_21, db_21 hR, k3.1, Nat.le_refl]
      rw [← hr]
      cases hm : db_mu c (db_n c 3) with
      | none => rw [decide_eq_false (fun q => q rfl)]; rfl
      | some b =>
        have := db_mu_lt hm
        rw [decide_eq_true (by show ¬ nI b = -(nI 1); rw [db_m1_ne (by omega)]; exact id)]; rfl
    · show db_f143_b4 (n + 1) s (db_o (db_mu c k)) (nI k) = db_f143_b4 n s (db_o (db_mu c (k + 1))) (nI (k + 1))
      rw [db_f143_b4]
      have h7 : ¬ db_n c 3 ≤ k := by omega
      have hmu : db_mu c (k + 1) = (match db_mu c k with | none => if 0 < (c (91 + k)).toInt then some k else none | some b => if (c (91 + b)).toInt < (c (91 + k)).toInt then some k else some b) := rfl
      simp (disch := omega) only [db_lit, eq_self, db_pI_e, db_pL_e, db_bind_some, db_bd_some, nI_add, pk_mul, nI_toInt, db_m1_t, dz_cn, Int.ofNat_le, Int.ofNat_lt, decide_true, decide_false, db_ct, db_cf, not_true_eq_false, not_false_eq_true, db_87e, db_37e, db_31e, db_28e, db_281e, db_211e, db_27, db_269w, db_litL, pk_lT, db_iL, db_p0_e, db_p0_n, db_p0_j, db_sub1, nI_eq, if_true, if_false, Bool.false_eq_true, db_g_21, db_21 hR, k3.1, h7, db_g_81, db_81 hR hk, db_f143_b44, db_f143_b49]
      rw [hmu]
      cases hm : db_mu c k with
      | none =>
        rw [decide_eq_false (fun q => q rfl), db_cf]
        by_cases e : 0 < (c (91 + k)).toInt
        · rw [decide_eq_false (show ¬ (c (91 + k)).toInt ≤ ((0 : Nat) : Int) by omega), db_cf]
          show _ = db_f143_b4 n s (db_o (if _ then some k else none)) _
          rw [if_pos e]; rfl
        · rw [decide_eq_true (show (c (91 + k)).toInt ≤ ((0 : Nat) : Int) by omega), db_ct]
          show _ = db_f143_b4 n s (db_o (if _ then some k else none)) _
          rw [if_neg e]
      | some b =>
        have hb := db_mu_lt hm
        rw [decide_eq_true (by show ¬ nI b = -(nI 1); rw [db_m1_ne (by omega)]; exact id), db_ct]
        show (db_rI s 81 (nI b)).bind _ = _
        simp (disch := omega) only [db_lit, eq_self, db_pI_e, db_pL_e, db_bind_some, db_bd_some, nI_add, pk_mul, nI_toInt, db_m1_t, dz_cn, Int.ofNat_le, Int.ofNat_lt, decide_true, decide_false, db_ct, db_cf, not_true_eq_false, not_false_eq_true, db_87e, db_37e, db_31e, db_28e, db_281e, db_211e, db_27, db_269w, db_litL, pk_lT, db_iL, db_p0_e, db_p0_n, db_p0_j, db_sub1, nI_eq, if_true, if_false, Bool.false_eq_true, db_g_81, db_81 hR (show b < db_n c 3 by omega)]
        by_cases e : (c (91 + b)).toInt < (c (91 + k)).toInt
        · rw [decide_eq_false (show ¬ (c (91 + k)).toInt ≤ (c (91 + b)).toInt by omega), db_cf]
          show _ = db_f143_b4 n s (db_o (if _ then some k else some b)) _
          rw [if_pos e]; rfl
        · rw [decide_eq_true (show (c (91 + k)).toInt ≤ (c (91 + b)).toInt by omega), db_ct]
          show _ = db_f143_b4 n s (db_o (if _ then some k else some b)) _
          rw [if_neg e]
  have hml : ∀ s2 : db_S, db_A s2 c → ∀ r : Option (Int32 × db_S), (match db_mu c (db_n c 3) with | none => some (-(nI 1), db_uI s2 669 0 (nI 8)) | some b => some (nI b, s2)) = r → db_f331_b14 db_FU s2 (-(nI 1)) (nI 0) = r := by
    intro s2 hA r hr
    refine db_fold (L := fun n v k => db_f331_b14 n s2 v (nI k)) (N := db_n c 3) (fun k => db_o (db_mu c k)) (fun n => ?_) (fun n k hk => ?_) (n := db_FU) (by unfold db_FU; omega)
    · show db_f331_b14 (n + 1) s2 (db_o (db_mu c (db_n c 3))) (nI (db_n c 3)) = r
      rw [db_f331_b14]
      simp (disch := omega) only [db_lit, eq_self, db_pI_e, db_pL_e, db_bind_some, db_bd_some, nI_add, pk_mul, nI_toInt, db_m1_t, dz_cn, Int.ofNat_le, Int.ofNat_lt, decide_true, decide_false, db_ct, db_cf, not_true_eq_false, not_false_eq_true, db_87e, db_37e, db_31e, db_28e, db_281e, db_211e, db_27, db_269w, db_litL, pk_lT, db_iL, db_p0_e, db_p0_n, db_p0_j, db_sub1, nI_eq, if_true, if_false, Bool.false_eq_true, db_g_674, hA, k3.1, Nat.le_refl]
      rw [← hr]
      cases hm : db_mu c (db_n c 3) with
      | none => rw [show decide (((0 : Nat) : Int) ≤ (db_o none).toInt) = false by decide]; rfl
      | some b =>
        have := db_mu_lt hm
        rw [show decide (((0 : Nat) : Int) ≤ (db_o (some b)).toInt) = true by
          show decide (((0 : Nat) : Int) ≤ (nI b).toInt) = true
          rw [nI_toInt (by omega)]; exact decide_eq_true (by omega)]
        rfl
    · show db_f331_b14 (n + 1) s2 (db_o (db_mu c k)) (nI k) = db_f331_b14 n s2 (db_o (db_mu c (k + 1))) (nI (k + 1))
      rw [db_f331_b14]
      have h7 : ¬ db_n c 3 ≤ k := by omega
      have hmu : db_mu c (k + 1) = (match db_mu c k with | none => if 0 < (c (91 + k)).toInt then some k else none | some b => if (c (91 + b)).toInt < (c (91 + k)).toInt then some k else some b) := rfl
      simp (disch := omega) only [db_lit, eq_self, db_pI_e, db_pL_e, db_bind_some, db_bd_some, nI_add, pk_mul, nI_toInt, db_m1_t, dz_cn, Int.ofNat_le, Int.ofNat_lt, decide_true, decide_false, db_ct, db_cf, not_true_eq_false, not_false_eq_true, db_87e, db_37e, db_31e, db_28e, db_281e, db_211e, db_27, db_269w, db_litL, pk_lT, db_iL, db_p0_e, db_p0_n, db_p0_j, db_sub1, nI_eq, if_true, if_false, Bool.false_eq_true, db_g_674, hA, k3.1, h7, db_f331_b61, db_f331_b63]
      rw [hmu]
      cases hm : db_mu c k with
      | none =>
        by_cases e : 0 < (c (91 + k)).toInt
        · rw [decide_eq_false (show ¬ (c (91 + k)).toInt ≤ ((0 : Nat) : Int) by omega), db_cf, show decide ((db_o none).toInt < ((0 : Nat) : Int)) = true by decide, db_ct]
          show _ = db_f331_b14 n s2 (db_o (if _ then some k else none)) _
          rw [if_pos e]; rfl
        · rw [decide_eq_true (show (c (91 + k)).toInt ≤ ((0 : Nat) : Int) by omega), db_ct]
          show _ = db_f331_b14 n s2 (db_o (if _ then some k else none)) _
          rw [if_neg e]
      | some b =>
        have hb := db_mu_lt hm
        have hb0 := db_mu_pos hm
        have e0 : decide ((db_o (some b)).toInt < ((0 : Nat) : Int)) = false := by
          show decide ((nI b).toInt < ((0 : Nat) : Int)) = false
          rw [nI_toInt (by omega)]; exact decide_eq_false (by omega)
        by_cases e : (c (91 + b)).toInt < (c (91 + k)).toInt
        · rw [decide_eq_false (show ¬ (c (91 + k)).toInt ≤ ((0 : Nat) : Int) by omega), db_cf, e0, db_cf]
          show (db_rI s2 674 (nI 91 + nI b)).bind _ = _
          simp (disch := omega) only [db_lit, eq_self, db_pI_e, db_pL_e, db_bind_some, db_bd_some, nI_add, pk_mul, nI_toInt, db_m1_t, dz_cn, Int.ofNat_le, Int.ofNat_lt, decide_true, decide_false, db_ct, db_cf, not_true_eq_false, not_false_eq_true, db_87e, db_37e, db_31e, db_28e, db_281e, db_211e, db_27, db_269w, db_litL, pk_lT, db_iL, db_p0_e, db_p0_n, db_p0_j, db_sub1, nI_eq, if_true, if_false, Bool.false_eq_true, db_g_674, hA]
          rw [decide_eq_false (show ¬ (c (91 + k)).toInt ≤ (c (91 + b)).toInt by omega), db_cf]
          show _ = db_f331_b14 n s2 (db_o (if _ then some k else some b)) _
          rw [if_pos e]; rfl
        · have g : db_f331_b14 n s2 (db_o (some b)) (nI (k + 1)) = db_f331_b14 n s2 (db_o (match (some b : Option Nat) with | none => if 0 < (c (91 + k)).toInt then some k else none | some b => if (c (91 + b)).toInt < (c (91 + k)).toInt then some k else some b)) (nI (k + 1)) := by
            show _ = db_f331_b14 n s2 (db_o (if _ then some k else some b)) _
            rw [if_neg e]
          by_cases e1 : (c (91 + k)).toInt ≤ ((0 : Nat) : Int)
          · rw [decide_eq_true e1, db_ct]
            exact g
          · rw [decide_eq_false e1, db_cf, e0, db_cf]
            show (db_rI s2 674 (nI 91 + nI b)).bind _ = _
            simp (disch := omega) only [db_lit, eq_self, db_pI_e, db_pL_e, db_bind_some, db_bd_some, nI_add, pk_mul, nI_toInt, db_m1_t, dz_cn, Int.ofNat_le, Int.ofNat_lt, decide_true, decide_false, db_ct, db_cf, not_true_eq_false, not_false_eq_true, db_87e, db_37e, db_31e, db_28e, db_281e, db_211e, db_27, db_269w, db_litL, pk_lT, db_iL, db_p0_e, db_p0_n, db_p0_j, db_sub1, nI_eq, if_true, if_false, Bool.false_eq_true, db_g_674, hA]
            rw [decide_eq_true (show (c (91 + k)).toInt ≤ (c (91 + b)).toInt by omega), db_ct]
            exact g
  cases hm : db_mu c (db_n c 3) with
  | none =>
    refine db_Gn 8 hI (hcl _ (by rw [hm])) fun s1 hS hA => ?_
    rw [hcc] at hA
    unfold db_f331
    simp (disch := omega) only [db_lit, eq_self, db_pI_e, db_pL_e, db_bind_some, db_bd_some, nI_add, pk_mul, nI_toInt, db_m1_t, dz_cn, Int.ofNat_le, Int.ofNat_lt, decide_true, decide_false, db_ct, db_cf, not_true_eq_false, not_false_eq_true, db_87e, db_37e, db_31e, db_28e, db_281e, db_211e, db_27, db_269w, db_litL, pk_lT, db_iL, db_p0_e, db_p0_n, db_p0_j, db_sub1, nI_eq, if_true, if_false, Bool.false_eq_true]
    exact hml _ (db_p0_A hA) _ (by rw [hm])
  | some b =>
    refine db_Gy (nI b) hI (hcl _ (by rw [hm])) fun s1 hS hA => ?_
    rw [hcc] at hA
    unfold db_f331
    simp (disch := omega) only [db_lit, eq_self, db_pI_e, db_pL_e, db_bind_some, db_bd_some, nI_add, pk_mul, nI_toInt, db_m1_t, dz_cn, Int.ofNat_le, Int.ofNat_lt, decide_true, decide_false, db_ct, db_cf, not_true_eq_false, not_false_eq_true, db_87e, db_37e, db_31e, db_28e, db_281e, db_211e, db_27, db_269w, db_litL, pk_lT, db_iL, db_p0_e, db_p0_n, db_p0_j, db_sub1, nI_eq, if_true, if_false, Bool.false_eq_true]
    exact hml _ (db_p0_A hA) _ (by rw [hm])
end DBQ3
