/-! THE SPEC: pure functions of the reference's book (c k: place k of its block 0), over numbers that count -/
abbrev db_C : Type := Nat → Int32
def db_n (c : db_C) (k : Nat) : Nat := (c k).toNatClampNeg
def db_ex (p : Nat → Bool) : Nat → Bool
  | 0 => false
  | n + 1 => db_ex p n || p n
theorem db_ex_iff {p : Nat → Bool} : ∀ {n : Nat}, db_ex p n = true ↔ ∃ k, k < n ∧ p k = true
  | 0 => ⟨fun h => (nomatch h), fun ⟨k, h, _⟩ => absurd h (Nat.not_lt_zero k)⟩
  | n + 1 => by
    rw [db_ex, Bool.or_eq_true, db_ex_iff]
    constructor
    · rintro (⟨k, h, hp⟩ | hp)
      · exact ⟨k, by omega, hp⟩
      · exact ⟨n, by omega, hp⟩
    · rintro ⟨k, h, hp⟩
      by_cases hk : k = n
      · subst hk; exact .inr hp
      · exact .inl ⟨k, by omega, hp⟩
theorem db_ex_no {p : Nat → Bool} {n : Nat} : db_ex p n = false ↔ ∀ k, k < n → p k = false := by
  rw [← Bool.not_eq_true, db_ex_iff]
  constructor
  · intro h k hk
    cases hp : p k with
    | false => rfl
    | true => exact absurd ⟨k, hk, hp⟩ h
  · rintro h ⟨k, hk, hp⟩
    rw [h k hk] at hp
    cases hp
theorem db_ex_cong {p q : Nat → Bool} : ∀ {n : Nat}, (∀ k, k < n → p k = q k) → db_ex p n = db_ex q n
  | 0, _ => rfl
  | n + 1, h => by rw [db_ex, db_ex, db_ex_cong (fun k hk => h k (by omega)), h n (by omega)]
/-- the first place with a property -/
def db_fst (p : Nat → Bool) : Nat → Option Nat
  | 0 => none
  | n + 1 => match db_fst p n with
    | some k => some k
    | none => if p n then some n else none
theorem db_fst_some {p : Nat → Bool} {k : Nat} : ∀ {n : Nat}, db_fst p n = some k ↔ (k < n ∧ p k = true ∧ ∀ i, i < k → p i = false)
  | 0 => ⟨fun h => (nomatch h), fun h => absurd h.1 (Nat.not_lt_zero k)⟩
  | n + 1 => by
    have ih := @db_fst_some p k n
    rw [db_fst]
    cases hf : db_fst p n with
    | some j =>
      rw [hf] at ih
      constructor
      · intro h
        have := ih.mp h
        exact ⟨by omega, this.2⟩
      · rintro ⟨h1, h2, h3⟩
        by_cases hk : k = n
        · subst hk
          have := (@db_fst_some p j k).mp hf
          rw [h3 j this.1] at this
          exact absurd this.2.1 (by simp)
        · exact ih.mpr ⟨by omega, h2, h3⟩
    | none =>
      rw [hf] at ih
      have hno : ∀ i, i < n → p i = false := by
        intro i hi
        cases hp : p i with
        | false => rfl
        | true =>
          exfalso
          obtain ⟨i0, h0, hp0, hm⟩ := pk_least (fun i => i < n ∧ p i = true) ⟨i, hi, hp⟩ |>.imp fun i h => (⟨h.1.1, h.1.2, h.2⟩ : i < n ∧ p i = true ∧ ∀ j, j < i → ¬ (j < n ∧ p j = true))
          have : db_fst p n = some i0 := (@db_fst_some p i0 n).mpr ⟨h0, hp0, fun j hj => by
            cases hpj : p j with
            | false => rfl
            | true => exact absurd ⟨by omega, hpj⟩ (hm j hj)⟩
          rw [hf] at this
          cases this
      cases hp : p n with
      | true =>
        constructor
        · intro h; cases h; exact ⟨by omega, hp, hno⟩
        · rintro ⟨h1, h2, h3⟩
          by_cases hk : k = n
          · subst hk; rfl
          · rw [hno k (by omega)] at h2; cases h2
      | false =>
        constructor
        · intro h; cases h
        · rintro ⟨h1, h2, h3⟩
          by_cases hk : k = n
          · subst hk; rw [hp] at h2; cases h2
          · rw [hno k (by omega)] at h2; cases h2
theorem db_fst_none {p : Nat → Bool} {n : Nat} : db_fst p n = none ↔ ∀ i, i < n → p i = false := by
  constructor
  · intro h i hi
    cases hp : p i with
    | false => rfl
    | true =>
      exfalso
      obtain ⟨i0, ⟨h0, hp0⟩, hm⟩ := pk_least (fun i => i < n ∧ p i = true) ⟨i, hi, hp⟩
      have : db_fst p n = some i0 := db_fst_some.mpr ⟨h0, hp0, fun j hj => by
        cases hpj : p j with
        | false => rfl
        | true => exact absurd ⟨by omega, hpj⟩ (hm j hj)⟩
      rw [h] at this
      cases this
  · intro h
    cases hf : db_fst p n with
    | none => rfl
    | some k =>
      have := db_fst_some.mp hf
      rw [h k this.1] at this
      exact absurd this.2.1 (by simp)
theorem db_fst_lt {p : Nat → Bool} {n k : Nat} (h : db_fst p n = some k) : k < n := (db_fst_some.mp h).1
theorem db_fst_cong {p q : Nat → Bool} : ∀ {n : Nat}, (∀ k, k < n → p k = q k) → db_fst p n = db_fst q n
  | 0, _ => rfl
  | n + 1, h => by rw [db_fst, db_fst, db_fst_cong (fun k hk => h k (by omega)), h n (by omega)]
/-- none is -1 -/
def db_o : Option Nat → Int32
  | none => -(nI 1)
  | some k => nI k
/-- none or a number below n -/
def db_O (x : Int32) (n : Nat) : Prop := x = -(nI 1) ∨ ∃ k, k < n ∧ x = nI k
theorem db_O_o {x : Int32} {n : Nat} (h : db_O x n) : ∃ q : Option Nat, x = db_o q ∧ ∀ k, q = some k → k < n := by
  rcases h with h | ⟨k, hk, h⟩
  · exact ⟨none, h, fun k hk => (nomatch hk)⟩
  · exact ⟨some k, h, fun j hj => by cases hj; exact hk⟩
/-- sets as numbers -/
def db_b1 (k : Nat) : Int32 := nI 1 <<< (nI k &&& nI 31)
def db_mk (f : Nat → Bool) : Nat → Int32
  | 0 => nI 0
  | n + 1 => db_mk f n ||| (if f n then db_b1 n else nI 0)
theorem db_b1_bt {k i : Nat} (hk : k < 32) (hi : i < 32) : bt (db_b1 k) i = decide (i = k) := by
  have h := b_shl k hk (nI 1) hi
  unfold db_b1
  rw [show nI 31 = (31 : Int32) from rfl, h]
  by_cases hik : i = k
  · subst hik; simp; decide
  · have : bt (nI 1) (i - k) = decide (i - k = 0) := (by decide +kernel : ∀ q, q < 32 → bt (nI 1) q = decide (q = 0)) (i - k) (by omega)
    rw [this]
    by_cases h2 : k ≤ i
    · have e : ¬ i ≤ k := by omega
      simp [h2, hik, Nat.sub_eq_zero_iff_le, e]
    · simp [h2, hik]
theorem db_mk_bt {f : Nat → Bool} : ∀ {n i : Nat}, n ≤ 32 → i < 32 → bt (db_mk f n) i = (decide (i < n) && f i)
  | 0, i, _, _ => by rw [db_mk, show nI 0 = (0 : Int32) from rfl, b_0]; simp
  | n + 1, i, hn, hi => by
    rw [db_mk, b_or, db_mk_bt (by omega) hi]
    by_cases hf : f n
    · rw [if_pos hf, db_b1_bt (by omega) hi]
      by_cases hik : i = n
      · subst hik; simp [hf]
      · have : decide (i < n + 1) = decide (i < n) := by rw [decide_eq_decide]; omega
        simp [hik, this]
    · rw [if_neg hf, show nI 0 = (0 : Int32) from rfl, b_0, Bool.or_false]
      by_cases hik : i = n
      · subst hik; simp [hf]
      · have : decide (i < n + 1) = decide (i < n) := by rw [decide_eq_decide]; omega
        rw [this]
theorem db_mk_cong {f g : Nat → Bool} : ∀ {n : Nat}, (∀ k, k < n → f k = g k) → db_mk f n = db_mk g n
  | 0, _ => rfl
  | n + 1, h => by rw [db_mk, db_mk, db_mk_cong (fun k hk => h k (by omega)), h n (by omega)]
theorem db_mk_eq {x : Int32} {f : Nat → Bool} {n : Nat} (hn : n ≤ 32) (h : ∀ i, i < 32 → bt x i = (decide (i < n) && f i)) : x = db_mk f n := b_ext fun i hi => by rw [h i hi, db_mk_bt hn hi]
/-- a set is not below 0 and below 2^n -/
theorem db_mk_nI {f : Nat → Bool} : ∀ {n : Nat}, n ≤ 31 → ∃ k, k < 2 ^ n ∧ db_mk f n = nI k
  | 0, _ => ⟨0, by decide, rfl⟩
  | n + 1, hn => by
    obtain ⟨k, hk, h⟩ := @db_mk_nI f n (by omega)
    have hp : (2 : Nat) ^ n < 2 ^ 31 := Nat.pow_lt_pow_right (by decide) (by omega)
    rw [db_mk, h]
    by_cases hf : f n
    · rw [if_pos hf]
      have e : db_b1 n = nI (2 ^ n) := by
        have h1 := pk_shlN (n := 1) (nI n &&& nI 31) n (by have := s_l n (by omega); exact this) (by omega)
        rw [Nat.one_mul] at h1
        exact h1
      refine ⟨2 ^ n + k, by rw [Nat.pow_succ]; omega, ?_⟩
      have h2 := @fa_or_sum k n 1 hk
      rw [Nat.mul_one] at h2
      rw [e, ← h2, fa_or, fa_or, Nat.or_comm]
    · refine ⟨k, by rw [Nat.pow_succ]; omega, ?_⟩
      rw [if_neg hf, fa_or, Nat.or_zero]
/-- the union of single places -/
def db_or (g : Nat → Nat) : Nat → Int32
  | 0 => nI 0
  | n + 1 => db_or g n ||| db_b1 (g n)
theorem db_or_bt {g : Nat → Nat} {t : Nat} (ht : t < 32) : ∀ {n : Nat}, (∀ k, k < n → g k < 32) → bt (db_or g n) t = db_ex (fun k => decide (t = g k)) n
  | 0, _ => by rw [db_or, show nI 0 = (0 : Int32) from rfl, b_0]; rfl
  | n + 1, h => by rw [db_or, b_or, db_or_bt ht (fun k hk => h k (by omega)), db_b1_bt (h n (by omega)) ht, db_ex]
/-- does rule a strike rule b -/
def db_hit (c : db_C) (a b : Nat) : Bool := db_ex (fun k => decide (c (103 + k) = nI a) && decide (c (115 + k) = nI b)) (db_n c 4)
/-- 0 stands, 1 fallen, 2 open, by the strikers as they are -/
def db_so (c : db_C) (st : Nat → Nat) (r : Nat) : Nat :=
  if db_ex (fun a => db_hit c a r && decide (st a = 0)) (db_n c 3) then 1 else if db_ex (fun a => db_hit c a r && decide (st a = 2)) (db_n c 3) then 2 else 0
def db_rd (c : db_C) (st : Nat → Nat) : Nat → Nat → Nat
  | 0 => st
  | n + 1 => fun i => if i = n ∧ db_rd c st n n = 2 then db_so c (db_rd c st n) n else db_rd c st n i
def db_rs (c : db_C) : Nat → Nat → Nat
  | 0 => fun _ => 2
  | m + 1 => db_rd c (db_rs c m) (db_n c 3)
def db_st (c : db_C) (r : Nat) : Nat := db_rs c 12 r
/-- the rules in force -/
def db_fo (c : db_C) : Int32 := db_mk (fun r => decide (db_st c r = 0) && !bt (c 7) r) (db_n c 3)
def db_wo (c : db_C) (r : Nat) : Int32 := if 0 ≤ (c (31 + r)).toInt then (if nI 0 < c (31 + r) - c (91 + r) then c (31 + r) - c (91 + r) else nI 0) else (if c (31 + r) + c (91 + r) < nI 0 then c (31 + r) + c (91 + r) else nI 0)
def db_be (row : Nat → Int32) (n i : Nat) (t : Int32) : Bool := (decide (0 < i) && decide (row (i - 1) = t)) || (decide (i + 1 < n) && decide (row (i + 1) = t))
def db_ir (row : Nat → Int32) (n : Nat) (t : Int32) : Bool := db_ex (fun k => decide (row k = t)) n
/-- the rule is open to such a person in such a season -/
def db_op (c : db_C) (r : Nat) (p s : Int32) : Bool := (decide ((c (67 + r)).toInt < 0) || decide (c (67 + r) = p)) && (decide ((c (79 + r)).toInt < 0) || decide (c (79 + r) = s))
def db_ft (c : db_C) (row : Nat → Int32) (n : Nat) (p s : Int32) (r i : Nat) : Bool := decide (c (19 + r) = row i) && (db_op c r p s && ((decide ((c (43 + r)).toInt < 0) || db_be row n i (c (43 + r))) && (decide ((c (55 + r)).toInt < 0) || !db_ir row n (c (55 + r)))))
/-- which rule counts -/
def db_co (c : db_C) (row : Nat → Int32) (n : Nat) (p s : Int32) (i : Nat) : Option Nat := db_fst (fun r => bt (db_fo c) r && db_ft c row n p s r i) (db_n c 3)
def db_wq (c : db_C) : Option Nat → Int32
  | none => nI 0
  | some r => db_wo c r
def db_su (c : db_C) (row : Nat → Int32) (n : Nat) (p s : Int32) : Nat → Int32
  | 0 => nI 0
  | i + 1 => db_su c row n p s i + db_wq c (db_co c row n p s i)
def db_ow (c : db_C) (p s : Int32) : Bool := (decide (0 ≤ p.toInt) && decide (c (8 + p.toNatClampNeg) = nI 1)) != (decide (0 ≤ s.toInt) && decide (c (16 + s.toNatClampNeg) = nI 1))
def db_re (c : db_C) (row : Nat → Int32) (n : Nat) (p s : Int32) : Int32 := if db_ow c p s then -(db_su c row n p s n) else db_su c row n p s n
def db_dr (c : db_C) (d : Nat) : Nat → Int32 := fun k => c (151 + 6 * d + k)
/-- all chances -/
def db_ch (c : db_C) : Nat → Int32
  | 0 => nI 0
  | k + 1 => db_ch c k + c (143 + k)
/-- the reading of a dream -/
def db_rq (c : db_C) (d : Nat) (p s : Int32) : Int32 := db_re c (db_dr c d) (db_n c (127 + d)) p s
/-- a good block (without its nights): U bounds what is counted -/
def db_K (c : db_C) (k m : Nat) : Prop := c k = nI (db_n c k) ∧ db_n c k ≤ m
def db_Ok (U : Nat) (c : db_C) : Prop :=
  (db_K c 0 10 ∧ db_K c 1 4 ∧ db_K c 2 3 ∧ db_K c 3 12 ∧ db_K c 4 12 ∧ db_K c 5 8) ∧
  (∀ r, r < db_n c 3 → (∃ t, t < db_n c 0 ∧ c (19 + r) = nI t) ∧ (-99 ≤ (c (31 + r)).toInt ∧ (c (31 + r)).toInt ≤ 99) ∧ db_O (c (43 + r)) (db_n c 0) ∧ db_O (c (55 + r)) (db_n c 0) ∧ db_O (c (67 + r)) (db_n c 1) ∧ db_O (c (79 + r)) (db_n c 2) ∧ (0 ≤ (c (91 + r)).toInt ∧ (c (91 + r)).toInt ≤ U)) ∧
  (∀ k, k < db_n c 4 → (∃ a, a < db_n c 3 ∧ c (103 + k) = nI a) ∧ (∃ b, b < db_n c 3 ∧ c (115 + k) = nI b)) ∧
  (∀ d, d < db_n c 5 → (db_K c (127 + d) 6 ∧ 1 ≤ db_n c (127 + d)) ∧ (∀ k, k < db_n c (127 + d) → ∃ t, t < db_n c 0 ∧ c (151 + 6 * d + k) = nI t) ∧ db_K c (135 + d) 99 ∧ (db_K c (143 + d) 99 ∧ 1 ≤ db_n c (143 + d))) ∧
  (∀ p, p < db_n c 1 → (c (8 + p) = nI 0 ∨ c (8 + p) = nI 1) ∧ (-9999 ≤ (c (12 + p)).toInt ∧ (c (12 + p)).toInt ≤ 9999)) ∧
  (∀ s, s < db_n c 2 → c (16 + s) = nI 0 ∨ c (16 + s) = nI 1) ∧
  (∃ f, c 7 = db_mk f (db_n c 3)) ∧ (0 ≤ (c 6).toInt ∧ (c 6).toInt ≤ U)
/-- the block c stands in front of the reference's cells -/
abbrev db_A (s : db_S) (c : db_C) : Prop := ∀ k, k < 480 → s.1 674 k = c k
theorem db_A_e {s a : db_S} {c : db_C} (e : a.1 674 = s.1 674) (hc : db_A s c) : db_A a c := fun k hk => by rw [e]; exact hc k hk
/-- which cells of the class last, which of the reference -/
def db_ec (a j : Nat) : Prop := (a = 4 ∧ (j = 0 ∨ j = 15)) ∨ (7 ≤ a ∧ a ≤ 12) ∨ (a = 13 ∧ 1 ≤ j ∧ j ≤ 3) ∨ (14 ≤ a ∧ a ≤ 15) ∨ (20 ≤ a ∧ a ≤ 78) ∨ (80 ≤ a ∧ a ≤ 144) ∨ (a = 274 ∧ 1 ≤ j ∧ j ≤ 2) ∨ a = 275 ∨ (a = 282 ∧ j ≤ 1) ∨ (a = 284 ∧ j = 0) ∨ a = 285 ∨ 294 ≤ a
def db_em (a j : Nat) : Prop := a < 669 ∨ (a = 669 ∧ (j = 0 ∨ j = 2 ∨ j = 3 ∨ j = 8 ∨ j = 10 ∨ j = 11 ∨ j = 23 ∨ j = 34 ∨ j = 35 ∨ j = 40)) ∨ (670 ≤ a ∧ a ≤ 673) ∨ (a = 674 ∧ j < 1920) ∨ (a = 676 ∧ j < 148) ∨ a = 680 ∨ a = 683
def db_Ec (s s' : db_S) : Prop := ∀ a j, db_ec a j → s'.1 a j = s.1 a j ∧ s'.2 a j = s.2 a j
def db_Em (s s' : db_S) : Prop := ∀ a j, db_em a j → s'.1 a j = s.1 a j ∧ s'.2 a j = s.2 a j
theorem db_Ec_r {s : db_S} : db_Ec s s := fun _ _ _ => ⟨rfl, rfl⟩
theorem db_Em_r {s : db_S} : db_Em s s := fun _ _ _ => ⟨rfl, rfl⟩
theorem db_Ec_t {s s1 s2 : db_S} (h : db_Ec s s1) (k : db_Ec s1 s2) : db_Ec s s2 := fun a j q => ⟨(k a j q).1.trans (h a j q).1, (k a j q).2.trans (h a j q).2⟩
theorem db_Em_t {s s1 s2 : db_S} (h : db_Em s s1) (k : db_Em s1 s2) : db_Em s s2 := fun a j q => ⟨(k a j q).1.trans (h a j q).1, (k a j q).2.trans (h a j q).2⟩
theorem db_Ec_uI {s s1 : db_S} {a j : Nat} {x : Int32} (h : db_Ec s s1) (q : ¬ db_ec a j) : db_Ec s (db_uI s1 a j x) := fun b i p => by
  refine ⟨?_, (h b i p).2⟩
  rw [db_uI_if, if_neg (by rintro ⟨rfl, rfl⟩; exact q p)]
  exact (h b i p).1
theorem db_Em_uI {s s1 : db_S} {a j : Nat} {x : Int32} (h : db_Em s s1) (q : ¬ db_em a j) : db_Em s (db_uI s1 a j x) := fun b i p => by
  refine ⟨?_, (h b i p).2⟩
  rw [db_uI_if, if_neg (by rintro ⟨rfl, rfl⟩; exact q p)]
  exact (h b i p).1
theorem db_Ec_uL {s s1 : db_S} {a j : Nat} {x : Int64} (h : db_Ec s s1) (q : ¬ db_ec a j) : db_Ec s (db_uL s1 a j x) := fun b i p => by
  refine ⟨(h b i p).1, ?_⟩
  rw [db_uL_if, if_neg (by rintro ⟨rfl, rfl⟩; exact q p)]
  exact (h b i p).2
theorem db_Em_uL {s s1 : db_S} {a j : Nat} {x : Int64} (h : db_Em s s1) (q : ¬ db_em a j) : db_Em s (db_uL s1 a j x) := fun b i p => by
  refine ⟨(h b i p).1, ?_⟩
  rw [db_uL_if, if_neg (by rintro ⟨rfl, rfl⟩; exact q p)]
  exact (h b i p).2
/-! loops: by a function of the counter, by an invariant -/
theorem db_fold {α β : Type} {L : Nat → α → Nat → Option β} {N : Nat} (F : Nat → α) {r : Option β} (he : ∀ n, L (n + 1) (F N) N = r) (hs : ∀ n k, k < N → L (n + 1) (F k) k = L n (F (k + 1)) (k + 1)) {n : Nat} (hn : N < n) : L n (F 0) 0 = r := by
  have key : ∀ j k n, k + j = N → j < n → L n (F k) k = r := by
    intro j
    induction j with
    | zero =>
      intro k n hk hn
      obtain ⟨m, rfl⟩ : ∃ m, n = m + 1 := ⟨n - 1, by omega⟩
      obtain rfl : k = N := by omega
      exact he m
    | succ j ih =>
      intro k n hk hn
      obtain ⟨m, rfl⟩ : ∃ m, n = m + 1 := ⟨n - 1, by omega⟩
      rw [hs m k (by omega)]
      exact ih (k + 1) m (by omega) (by omega)
  exact key N 0 n (by omega) hn
theorem db_srch {β : Type} {L : Nat → Nat → Option β} {N : Nat} (p : Nat → Bool) (f : Option Nat → β) (he : ∀ n, L (n + 1) N = some (f none)) (hs : ∀ n k, k < N → L (n + 1) k = cond (p k) (some (f (some k))) (L n (k + 1))) {n : Nat} (hn : N < n) : L n 0 = some (f (db_fst p N)) := by
  have key : ∀ j k n, k + j = N → j < n → (∀ i, i < k → p i = false) → L n k = some (f (db_fst p N)) := by
    intro j
    induction j with
    | zero =>
      intro k n hk hn hno
      obtain ⟨m, rfl⟩ : ∃ m, n = m + 1 := ⟨n - 1, by omega⟩
      obtain rfl : k = N := by omega
      rw [he m, db_fst_none.mpr hno]
    | succ j ih =>
      intro k n hk hn hno
      obtain ⟨m, rfl⟩ : ∃ m, n = m + 1 := ⟨n - 1, by omega⟩
      rw [hs m k (by omega)]
      cases hp : p k with
      | true => rw [cond_true, db_fst_some.mpr ⟨by omega, hp, hno⟩]
      | false => rw [cond_false]; exact ih (k + 1) m (by omega) (by omega) (lt_s hno hp)
  exact key N 0 n (by omega) hn lt_0
/-- likewise, whether there is one -/
theorem db_exst {L : Nat → Nat → Option Bool} {N : Nat} (p : Nat → Bool) (he : ∀ n, L (n + 1) N = some false) (hs : ∀ n k, k < N → L (n + 1) k = cond (p k) (some true) (L n (k + 1))) {n : Nat} (hn : N < n) : L n 0 = some (db_ex p N) := by
  have h := db_srch (L := L) p (fun q => q.isSome) he hs hn
  rw [h]
  cases hf : db_fst p N with
  | none => rw [db_ex_no.mpr (db_fst_none.mp hf)]; rfl
  | some k =>
    have := db_fst_some.mp hf
    rw [db_ex_iff.mpr ⟨k, this.1, this.2.1⟩]; rfl
theorem db_loop {α β : Type} {L : Nat → α → Nat → Option β} {N : Nat} (I : Nat → α → Prop) {P : β → Prop} (he : ∀ n a, I N a → dz_T (L (n + 1) a N) P) (hs : ∀ n k a, k < N → I k a → (∀ a', I (k + 1) a' → dz_T (L n a' (k + 1)) P) → dz_T (L (n + 1) a k) P) {n : Nat} {a : α} (hn : N < n) (h0 : I 0 a) : dz_T (L n a 0) P := by
  have key : ∀ j k n a, k + j = N → j < n → I k a → dz_T (L n a k) P := by
    intro j
    induction j with
    | zero =>
      intro k n a hk hn hI
      obtain ⟨m, rfl⟩ : ∃ m, n = m + 1 := ⟨n - 1, by omega⟩
      obtain rfl : k = N := by omega
      exact he m a hI
    | succ j ih =>
      intro k n a hk hn hI
      obtain ⟨m, rfl⟩ : ∃ m, n = m + 1 := ⟨n - 1, by omega⟩
      exact hs m k a (by omega) hI fun a' h' => ih (k + 1) m a' (by omega) (by omega) h'
  exact key N 0 n a (by omega) hn h0
theorem db_T_eq {β : Type} {t : Option β} {x : β} : dz_T t (fun z => z = x) ↔ t = some x := ⟨fun ⟨z, h, e⟩ => e ▸ h, fun h => ⟨x, h, rfl⟩⟩
/-- the answer of dz_T at hand, to go on with -/
theorem db_T_go {α β : Type} {x : Option α} {f : α → Option β} {R : α → Prop} {P : β → Prop} (h : dz_T x R) (k : ∀ v, R v → dz_T (f v) P) : dz_T (x.bind f) P := db_T_bind.mpr (db_T_mono h k)
theorem db_T_gd {α β : Type} {x : Option (α × db_S)} {f : α → db_S → Option β} {R : α × db_S → Prop} {P : β → Prop} (h : dz_T x R) (k : ∀ v s, R (v, s) → dz_T (f v s) P) : dz_T (db_bd x f) P := db_T_bd.mpr (db_T_mono h fun z hz => k z.1 z.2 hz)
/-- only one cell has changed -/
def db_F1 (a : Nat) (s s' : db_S) : Prop := (∀ b, b ≠ a → s'.1 b = s.1 b) ∧ s'.2 = s.2
theorem db_F1_r {a : Nat} {s : db_S} : db_F1 a s s := ⟨fun _ _ => rfl, rfl⟩
theorem db_F1_t {a : Nat} {s s1 s2 : db_S} (h : db_F1 a s s1) (k : db_F1 a s1 s2) : db_F1 a s s2 := ⟨fun b hb => (k.1 b hb).trans (h.1 b hb), k.2.trans h.2⟩
theorem db_F1_u {a j : Nat} {x : Int32} {s s1 : db_S} (h : db_F1 a s s1) : db_F1 a s (db_uI s1 a j x) := ⟨fun b hb => by rw [db_uI_n hb]; exact h.1 b hb, h.2⟩
theorem db_F1_Em {a : Nat} {s s' : db_S} (h : db_F1 a s s') (ha : ∀ j, ¬ db_em a j) : db_Em s s' := fun b j p => by
  have : b ≠ a := by rintro rfl; exact ha j p
  rw [h.1 b this, h.2]
  exact ⟨rfl, rfl⟩
theorem db_F1_Ec {a : Nat} {s s' : db_S} (h : db_F1 a s s') (ha : ∀ j, ¬ db_ec a j) : db_Ec s s' := fun b j p => by
  have : b ≠ a := by rintro rfl; exact ha j p
  rw [h.1 b this, h.2]
  exact ⟨rfl, rfl⟩
