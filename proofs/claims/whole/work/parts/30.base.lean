/-! numbers, bits, counts, sums: begun from the kit's laws to paste -/

/-! ===== Int32 by its bits: bt x i ===== -/
def bt (x : Int32) (i : Nat) : Bool := x.toBitVec.getLsbD i
theorem b_ext {x y : Int32} (h : ∀ i, i < 32 → bt x i = bt y i) : x = y := Int32.toBitVec_inj.mp (BitVec.eq_of_getLsbD_eq (fun i hi => h i hi))
theorem b_or (x y : Int32) (i : Nat) : bt (x ||| y) i = (bt x i || bt y i) := by unfold bt; rw [Int32.toBitVec_or, BitVec.getLsbD_or]
theorem b_and (x y : Int32) (i : Nat) : bt (x &&& y) i = (bt x i && bt y i) := by unfold bt; rw [Int32.toBitVec_and, BitVec.getLsbD_and]
theorem b_xor (x y : Int32) (i : Nat) : bt (x ^^^ y) i = (bt x i ^^ bt y i) := by unfold bt; rw [Int32.toBitVec_xor, BitVec.getLsbD_xor]
theorem b_big {x : Int32} {i : Nat} (h : 32 ≤ i) : bt x i = false := BitVec.getLsbD_of_ge _ _ h
theorem b_255 (i : Nat) : bt 255 i = decide (i < 8) := by
  rcases Nat.lt_or_ge i 32 with h | h
  · exact (by decide +kernel : ∀ i, i < 32 → bt 255 i = decide (i < 8)) i h
  · rw [b_big h, decide_eq_false (by omega)]
theorem b_65535 (i : Nat) : bt 65535 i = decide (i < 16) := by
  rcases Nat.lt_or_ge i 32 with h | h
  · exact (by decide +kernel : ∀ i, i < 32 → bt 65535 i = decide (i < 16)) i h
  · rw [b_big h, decide_eq_false (by omega)]
theorem b_m1 : ∀ i, i < 32 → bt (-1) i = true := by decide +kernel
theorem b_0 (i : Nat) : bt 0 i = false := BitVec.getLsbD_zero
theorem s_l : ∀ n, n < 32 → ((nI n &&& 31).toBitVec.smod 32).toNat = n := by decide +kernel
theorem s_u : ∀ n, n < 32 → (((nI n).toUInt32 &&& Int32.toUInt32 31).toBitVec % 32).toNat = n := by decide +kernel
theorem b_shl (n : Nat) (hn : n < 32) (x : Int32) {i : Nat} (hi : i < 32) : bt (x <<< (nI n &&& 31)) i = (decide (n ≤ i) && bt x (i - n)) := by
  unfold bt
  rw [Int32.toBitVec_shiftLeft]
  show (x.toBitVec <<< ((nI n &&& 31).toBitVec.smod 32).toNat).getLsbD i = _
  rw [s_l n hn, BitVec.getLsbD_shiftLeft]
  rcases Nat.lt_or_ge i n with h | h
  · simp [h, Nat.not_le.mpr h]
  · simp [hi, h, Nat.not_lt.mpr h]
theorem b_ushr (n : Nat) (hn : n < 32) (x : Int32) (i : Nat) : bt ((x.toUInt32 >>> ((nI n).toUInt32 &&& Int32.toUInt32 31)).toInt32) i = bt x (n + i) := by
  show (x.toUInt32 >>> ((nI n).toUInt32 &&& Int32.toUInt32 31)).toBitVec.getLsbD i = x.toUInt32.toBitVec.getLsbD (n + i)
  rw [UInt32.toBitVec_shiftRight]
  show (x.toUInt32.toBitVec >>> (((nI n).toUInt32 &&& Int32.toUInt32 31).toBitVec % 32).toNat).getLsbD i = _
  rw [s_u n hn, BitVec.getLsbD_ushiftRight]
theorem b_sshr (n : Nat) (hn : n < 32) (x : Int32) {i : Nat} (hi : i < 32) : bt (x >>> (nI n &&& 31)) i = if n + i < 32 then bt x (n + i) else bt x 31 := by
  unfold bt
  rw [Int32.toBitVec_shiftRight]
  show (x.toBitVec.sshiftRight ((nI n &&& 31).toBitVec.smod 32).toNat).getLsbD i = _
  rw [s_l n hn, BitVec.getLsbD_sshiftRight, BitVec.msb_eq_getLsbD_last]
  simp [hi]
theorem b_shl8 (x : Int32) {i : Nat} (hi : i < 32) : bt (x <<< ((8 : Int32) &&& 31)) i = (decide (8 ≤ i) && bt x (i - 8)) := b_shl 8 (by omega) x hi
theorem b_shl16 (x : Int32) {i : Nat} (hi : i < 32) : bt (x <<< ((16 : Int32) &&& 31)) i = (decide (16 ≤ i) && bt x (i - 16)) := b_shl 16 (by omega) x hi
theorem b_shl24 (x : Int32) {i : Nat} (hi : i < 32) : bt (x <<< ((24 : Int32) &&& 31)) i = (decide (24 ≤ i) && bt x (i - 24)) := b_shl 24 (by omega) x hi
theorem b_sshr8 (x : Int32) {i : Nat} (hi : i < 32) : bt (x >>> ((8 : Int32) &&& 31)) i = if 8 + i < 32 then bt x (8 + i) else bt x 31 := b_sshr 8 (by omega) x hi

/-! ===== order of ints, in all its forms, and through longs ===== -/
theorem fa_lt (a b : Int32) : a < b ↔ a.toInt < b.toInt := Int32.lt_iff_toInt_lt
theorem fa_le (a b : Int32) : a ≤ b ↔ a.toInt ≤ b.toInt := Int32.le_iff_toInt_le
theorem fa_eq (a b : Int32) : a = b ↔ a.toInt = b.toInt := Int32.toInt_inj.symm
theorem fa_lt64 (a b : Int64) : a < b ↔ a.toInt < b.toInt := Int64.lt_iff_toInt_lt
theorem fa_le64 (a b : Int64) : a ≤ b ↔ a.toInt ≤ b.toInt := Int64.le_iff_toInt_le
theorem fa_eq64 (a b : Int64) : a = b ↔ a.toInt = b.toInt := Int64.toInt_inj.symm
/-- a comparison of two ints taken as longs -/
theorem fa_wide_lt (a b : Int32) : a.toInt64 < b.toInt64 ↔ a < b := by rw [fa_lt64, fa_lt, Int32.toInt_toInt64, Int32.toInt_toInt64]
theorem fa_wide_le (a b : Int32) : a.toInt64 ≤ b.toInt64 ↔ a ≤ b := by rw [fa_le64, fa_le, Int32.toInt_toInt64, Int32.toInt_toInt64]
theorem fa_wide_eq (a b : Int32) : a.toInt64 = b.toInt64 ↔ a = b := by rw [fa_eq64, fa_eq, Int32.toInt_toInt64, Int32.toInt_toInt64]
/-- one strict comparison gives all the others -/
theorem fa_of_lt {a b : Int32} (h : a < b) : a ≤ b ∧ ¬ b ≤ a ∧ ¬ b < a ∧ a ≠ b ∧ b ≠ a := by
  rw [fa_lt] at h
  refine ⟨?_, ?_, ?_, ?_, ?_⟩
  · rw [fa_le]; omega
  · rw [fa_le]; omega
  · rw [fa_lt]; omega
  · intro e; rw [fa_eq] at e; omega
  · intro e; rw [fa_eq] at e; omega
theorem fa_of_nlt {a b : Int32} (h : ¬ a < b) : b ≤ a := by
  rw [fa_lt] at h
  rw [fa_le]
  omega
theorem fa_of_nle {a b : Int32} (h : ¬ a ≤ b) : b < a := by
  rw [fa_le] at h
  rw [fa_lt]
  omega
theorem fa_le_ne {a b : Int32} (h : a ≤ b) (h2 : a ≠ b) : a < b := by
  rw [fa_le] at h
  rw [fa_lt]
  have h3 : a.toInt ≠ b.toInt := fun e => h2 ((fa_eq a b).mpr e)
  omega
theorem fa_three (a b : Int32) : a < b ∨ a = b ∨ b < a := by
  rw [fa_lt, fa_lt, fa_eq]
  omega
theorem fa_trans {a b c : Int32} (h : a < b) (h2 : b ≤ c) : a < c := by
  rw [fa_lt] at *
  rw [fa_le] at h2
  omega
/-! ===== small literals as numbers ===== -/
theorem fa_lit (n : Nat) : (OfNat.ofNat n : Int32) = nI n := rfl
theorem fa_litL (n : Nat) : (OfNat.ofNat n : Int64) = lN n := rfl
/-! ===== bits of a number: 'or', masks, one bit ===== -/
theorem fa_and (a b : Nat) : nI a &&& nI b = nI (a &&& b) := by
  apply Int32.toBitVec_inj.1
  show BitVec.ofNat 32 a &&& BitVec.ofNat 32 b = BitVec.ofNat 32 (a &&& b)
  apply BitVec.eq_of_getLsbD_eq
  intro i hi
  simp [hi]
theorem fa_or (a b : Nat) : nI a ||| nI b = nI (a ||| b) := by
  apply Int32.toBitVec_inj.1
  show BitVec.ofNat 32 a ||| BitVec.ofNat 32 b = BitVec.ofNat 32 (a ||| b)
  apply BitVec.eq_of_getLsbD_eq
  intro i hi
  simp [hi]
/-- a remainder by a power of two, as a mask -/
theorem fa_mask (n k : Nat) : nI n &&& nI (2 ^ k - 1) = nI (n % 2 ^ k) := by rw [fa_and, Nat.and_two_pow_sub_one_eq_mod]
/-- 'or' of a high part and a low one that don't meet is their sum -/
theorem fa_or_sum {a k : Nat} (b : Nat) (h : a < 2 ^ k) : nI (2 ^ k * b) ||| nI a = nI (2 ^ k * b + a) := by rw [fa_or, Nat.two_pow_add_eq_or_of_lt h]
/-- one bit, by 'and' with a power of two -/
theorem fa_bit {n j : Nat} (hj : j < 31) : nI n &&& nI (2 ^ j) = 0 ↔ n.testBit j = false := by
  have h2 : (2 : Nat) ^ j < 2 ^ 31 := Nat.pow_lt_pow_right (by decide) hj
  have hle : n &&& 2 ^ j ≤ 2 ^ j := Nat.and_le_right
  have e : n &&& 2 ^ j = 0 ↔ n.testBit j = false := by
    constructor
    · intro h
      have h1 : (n &&& 2 ^ j).testBit j = false := by rw [h]; simp
      rw [Nat.testBit_and] at h1
      first | simpa using h1 | simpa [Nat.testBit_two_pow_self] using h1 | simpa [Nat.testBit_two_pow] using h1
    · intro h
      apply Nat.eq_of_testBit_eq
      intro i
      rw [Nat.testBit_and]
      by_cases hi : j = i
      · subst hi; simp [h]
      · first | (simp [Nat.testBit_two_pow, hi]; done) | (simp [Nat.testBit_two_pow_of_ne hi]; done)
  rw [fa_and]
  constructor
  · intro h
    apply e.mp
    rcases Nat.eq_zero_or_pos (n &&& 2 ^ j) with z | z
    · exact z
    · exact absurd h (nI_ne0 z (Nat.lt_of_le_of_lt hle h2))
  · intro h
    rw [e.mpr h]; exact nI_0
/-- a remainder by a power of two of a number that isn't negative, as Java divides -/
theorem fa_rem {a k : Nat} (ha : a < 2 ^ 31) (hk : k < 31) : nI a - nI a / nI (2 ^ k) * nI (2 ^ k) = nI (a % 2 ^ k) := pk_rem ha (Nat.two_pow_pos k) (Nat.pow_lt_pow_right (by decide) hk)

/-! ===== how many places have a property ===== -/
def fb_ct (p : Nat → Bool) : Nat → Nat
  | 0 => 0
  | n + 1 => fb_ct p n + (if p n then 1 else 0)
theorem fb_ct_succ (p : Nat → Bool) (n : Nat) : fb_ct p (n + 1) = fb_ct p n + (if p n then 1 else 0) := rfl
theorem fb_ct_le (p : Nat → Bool) : ∀ n, fb_ct p n ≤ n
  | 0 => Nat.le_refl _
  | n + 1 => by
    have h := fb_ct_le p n
    rw [fb_ct_succ]
    split <;> omega
theorem fb_ct_step (p : Nat → Bool) (m : Nat) : ∀ n, fb_ct p m ≤ fb_ct p (m + n)
  | 0 => Nat.le_refl _
  | n + 1 => by
    have h := fb_ct_step p m n
    show fb_ct p m ≤ fb_ct p (m + n + 1)
    rw [fb_ct_succ]
    omega
theorem fb_ct_mono (p : Nat → Bool) {m n : Nat} (h : m ≤ n) : fb_ct p m ≤ fb_ct p n := by
  have := fb_ct_step p m (n - m)
  rwa [Nat.add_sub_cancel' h] at this
theorem fb_ct_cong {p q : Nat → Bool} : ∀ {n : Nat}, (∀ k, k < n → p k = q k) → fb_ct p n = fb_ct q n
  | 0, _ => rfl
  | n + 1, h => by
    rw [fb_ct_succ, fb_ct_succ, fb_ct_cong (fun k hk => h k (by omega)), h n (by omega)]
/-- one place changed -/
theorem fb_ct_out (p : Nat → Bool) (b : Bool) {i n : Nat} (h : n ≤ i) : fb_ct (fun k => if k = i then b else p k) n = fb_ct p n :=
  fb_ct_cong fun k hk => if_neg (by omega)
theorem fb_ct_upd (p : Nat → Bool) (b : Bool) {i : Nat} : ∀ {n : Nat}, i < n → fb_ct (fun k => if k = i then b else p k) n + (if p i then 1 else 0) = fb_ct p n + (if b then 1 else 0)
  | 0, h => absurd h (Nat.not_lt_zero i)
  | n + 1, h => by
    rw [fb_ct_succ, fb_ct_succ]
    rcases Nat.lt_or_ge i n with q | q
    · have := fb_ct_upd p b q
      have e : (if n = i then b else p n) = p n := if_neg (by omega)
      rw [e]
      omega
    · have e : i = n := by omega
      subst e
      rw [fb_ct_out p b (Nat.le_refl _)]
      simp only [if_true]
      omega
theorem fb_ct_sub {p q : Nat → Bool} : ∀ {n : Nat}, (∀ k, k < n → p k = true → q k = true) → fb_ct p n ≤ fb_ct q n
  | 0, _ => Nat.le_refl _
  | n + 1, h => by
    have h1 := fb_ct_sub (n := n) (p := p) (q := q) (fun k hk => h k (by omega))
    have h2 := h n (by omega)
    rw [fb_ct_succ, fb_ct_succ]
    cases hp : p n <;> cases hq : q n <;> simp_all <;> omega
theorem fb_ct_or {p q : Nat → Bool} : ∀ {n : Nat}, (∀ k, k < n → ¬ (p k = true ∧ q k = true)) → fb_ct (fun k => p k || q k) n = fb_ct p n + fb_ct q n
  | 0, _ => rfl
  | n + 1, h => by
    have h1 := fb_ct_or (n := n) (p := p) (q := q) (fun k hk => h k (by omega))
    have h2 := h n (by omega)
    rw [fb_ct_succ, fb_ct_succ, fb_ct_succ, h1]
    cases hp : p n <;> cases hq : q n <;> simp_all <;> omega
theorem fb_ct_not (p : Nat → Bool) : ∀ n, fb_ct p n + fb_ct (fun k => !p k) n = n
  | 0 => rfl
  | n + 1 => by
    have h := fb_ct_not p n
    rw [fb_ct_succ, fb_ct_succ]
    cases p n <;> simp <;> omega
theorem fb_ct_split (p : Nat → Bool) (m : Nat) : ∀ n, fb_ct p (m + n) = fb_ct p m + fb_ct (fun k => p (m + k)) n
  | 0 => rfl
  | n + 1 => by
    have h := fb_ct_split p m n
    show fb_ct p (m + n + 1) = _
    rw [fb_ct_succ, fb_ct_succ, h, Nat.add_assoc]
theorem fb_ct_zero {p : Nat → Bool} : ∀ {n : Nat}, fb_ct p n = 0 ↔ ∀ k, k < n → p k = false
  | 0 => ⟨fun _ k hk => absurd hk (Nat.not_lt_zero k), fun _ => rfl⟩
  | n + 1 => by
    have h := fb_ct_zero (p := p) (n := n)
    rw [fb_ct_succ]
    constructor
    · intro e k hk
      have e1 : fb_ct p n = 0 := by omega
      rcases Nat.lt_or_ge k n with q | q
      · exact h.mp e1 k q
      · have ek : k = n := by omega
        subst ek
        cases hp : p k
        · rfl
        · simp [hp] at e
    · intro a
      rw [h.mpr (fun k hk => a k (by omega)), a n (by omega)]
      rfl
theorem fb_ct_pos {p : Nat → Bool} {n : Nat} : 0 < fb_ct p n ↔ ∃ k, k < n ∧ p k = true := by
  constructor
  · intro h
    refine Classical.byContradiction fun hx => ?_
    have := fb_ct_zero.mpr (fun k hk => by
      cases hp : p k
      · rfl
      · exact absurd ⟨k, hk, hp⟩ hx : ∀ k, k < n → p k = false)
    omega
  · rintro ⟨k, hk, hp⟩
    rcases Nat.eq_zero_or_pos (fb_ct p n) with e | e
    · have := fb_ct_zero.mp e k hk
      rw [this] at hp
      cases hp
    · exact e
theorem fb_ct_all {p : Nat → Bool} {n : Nat} : fb_ct p n = n ↔ ∀ k, k < n → p k = true := by
  have h := fb_ct_not p n
  constructor
  · intro e k hk
    have z : fb_ct (fun k => !p k) n = 0 := by omega
    have := fb_ct_zero.mp z k hk
    cases hp : p k
    · simp [hp] at this
    · rfl
  · intro a
    have z : fb_ct (fun k => !p k) n = 0 := fb_ct_zero.mpr (fun k hk => by simp [a k hk])
    omega
/-- the k-th place with the property -/
theorem fb_ct_kth {p : Nat → Bool} {k : Nat} : ∀ {n : Nat}, k < fb_ct p n → ∃ i, i < n ∧ p i = true ∧ fb_ct p i = k
  | 0, h => absurd h (Nat.not_lt_zero k)
  | n + 1, h => by
    rcases Nat.lt_or_ge k (fb_ct p n) with q | q
    · obtain ⟨i, h1, h2⟩ := fb_ct_kth q
      exact ⟨i, by omega, h2⟩
    · rw [fb_ct_succ] at h
      cases hp : p n
      · simp [hp] at h; omega
      · simp [hp] at h
        exact ⟨n, by omega, hp, by omega⟩
theorem fb_ct_kth_one {p : Nat → Bool} {i j : Nat} (hi : p i = true) (hj : p j = true) (e : fb_ct p i = fb_ct p j) : i = j := by
  have key : ∀ a b : Nat, a < b → p a = true → fb_ct p a < fb_ct p b := by
    intro a b hab ha
    have h := fb_ct_mono p (show a + 1 ≤ b from hab)
    rw [fb_ct_succ, ha] at h
    simp at h
    omega
  rcases Nat.lt_trichotomy i j with q | q | q
  · have := key i j q hi; omega
  · exact q
  · have := key j i q hj; omega
/-! ===== sums over a range: one place changed, parts, bounds ===== -/
def fb_sm (f : Nat → Nat) : Nat → Nat
  | 0 => 0
  | n + 1 => fb_sm f n + f n
theorem fb_sm_succ (f : Nat → Nat) (n : Nat) : fb_sm f (n + 1) = fb_sm f n + f n := rfl
theorem fb_sm_cong {f g : Nat → Nat} : ∀ {n : Nat}, (∀ k, k < n → f k = g k) → fb_sm f n = fb_sm g n
  | 0, _ => rfl
  | n + 1, h => by rw [fb_sm_succ, fb_sm_succ, fb_sm_cong (fun k hk => h k (by omega)), h n (by omega)]
theorem fb_sm_out (f : Nat → Nat) (v : Nat) {i n : Nat} (h : n ≤ i) : fb_sm (fun k => if k = i then v else f k) n = fb_sm f n :=
  fb_sm_cong fun k hk => if_neg (by omega)
theorem fb_sm_upd (f : Nat → Nat) (v : Nat) {i : Nat} : ∀ {n : Nat}, i < n → fb_sm (fun k => if k = i then v else f k) n + f i = fb_sm f n + v
  | 0, h => absurd h (Nat.not_lt_zero i)
  | n + 1, h => by
    rw [fb_sm_succ, fb_sm_succ]
    rcases Nat.lt_or_ge i n with q | q
    · have := fb_sm_upd f v q
      have e : (if n = i then v else f n) = f n := if_neg (by omega)
      rw [e]
      omega
    · have e : i = n := by omega
      subst e
      rw [fb_sm_out f v (Nat.le_refl _)]
      simp only [if_true]
      omega
theorem fb_sm_add (f g : Nat → Nat) : ∀ n, fb_sm (fun k => f k + g k) n = fb_sm f n + fb_sm g n
  | 0 => rfl
  | n + 1 => by
    have h := fb_sm_add f g n
    rw [fb_sm_succ, fb_sm_succ, fb_sm_succ, h]
    omega
theorem fb_sm_le {f g : Nat → Nat} : ∀ {n : Nat}, (∀ k, k < n → f k ≤ g k) → fb_sm f n ≤ fb_sm g n
  | 0, _ => Nat.le_refl _
  | n + 1, h => by
    have h1 := fb_sm_le (n := n) (f := f) (g := g) (fun k hk => h k (by omega))
    have h2 := h n (by omega)
    rw [fb_sm_succ, fb_sm_succ]
    omega
theorem fb_sm_const (c : Nat) : ∀ n, fb_sm (fun _ => c) n = n * c
  | 0 => by rw [Nat.zero_mul]; rfl
  | n + 1 => by rw [fb_sm_succ, fb_sm_const c n, Nat.succ_mul]
theorem fb_sm_bound {f : Nat → Nat} {c n : Nat} (h : ∀ k, k < n → f k ≤ c) : fb_sm f n ≤ n * c := by
  rw [← fb_sm_const c n]
  exact fb_sm_le h
theorem fb_sm_mono (f : Nat → Nat) (m : Nat) : ∀ n, fb_sm f m ≤ fb_sm f (m + n)
  | 0 => Nat.le_refl _
  | n + 1 => by
    have h := fb_sm_mono f m n
    show fb_sm f m ≤ fb_sm f (m + n + 1)
    rw [fb_sm_succ]
    omega
theorem fb_sm_part (f : Nat → Nat) {i n : Nat} (h : i < n) : fb_sm f i + f i ≤ fb_sm f n := by
  have := fb_sm_mono f (i + 1) (n - (i + 1))
  rw [fb_sm_succ, show i + 1 + (n - (i + 1)) = n by omega] at this
  exact this
theorem fb_sm_split (f : Nat → Nat) (m : Nat) : ∀ n, fb_sm f (m + n) = fb_sm f m + fb_sm (fun k => f (m + k)) n
  | 0 => rfl
  | n + 1 => by
    have h := fb_sm_split f m n
    show fb_sm f (m + n + 1) = _
    rw [fb_sm_succ, fb_sm_succ, h, Nat.add_assoc]
theorem fb_sm_zero {f : Nat → Nat} {n : Nat} (h : fb_sm f n = 0) : ∀ k, k < n → f k = 0 := fun k hk => by
  have := fb_sm_part f hk
  omega
/-- the same over whole numbers -/
def fb_si (f : Nat → Int) : Nat → Int
  | 0 => 0
  | n + 1 => fb_si f n + f n
theorem fb_si_succ (f : Nat → Int) (n : Nat) : fb_si f (n + 1) = fb_si f n + f n := rfl
theorem fb_si_cong {f g : Nat → Int} : ∀ {n : Nat}, (∀ k, k < n → f k = g k) → fb_si f n = fb_si g n
  | 0, _ => rfl
  | n + 1, h => by rw [fb_si_succ, fb_si_succ, fb_si_cong (fun k hk => h k (by omega)), h n (by omega)]
theorem fb_si_out (f : Nat → Int) (v : Int) {i n : Nat} (h : n ≤ i) : fb_si (fun k => if k = i then v else f k) n = fb_si f n :=
  fb_si_cong fun k hk => if_neg (by omega)
theorem fb_si_upd (f : Nat → Int) (v : Int) {i : Nat} : ∀ {n : Nat}, i < n → fb_si (fun k => if k = i then v else f k) n = fb_si f n - f i + v
  | 0, h => absurd h (Nat.not_lt_zero i)
  | n + 1, h => by
    rw [fb_si_succ, fb_si_succ]
    rcases Nat.lt_or_ge i n with q | q
    · have := fb_si_upd f v q
      have e : (if n = i then v else f n) = f n := if_neg (by omega)
      rw [e]
      omega
    · have e : i = n := by omega
      subst e
      rw [fb_si_out f v (Nat.le_refl _)]
      simp only [if_true]
      omega
theorem fb_si_add (f g : Nat → Int) : ∀ n, fb_si (fun k => f k + g k) n = fb_si f n + fb_si g n
  | 0 => rfl
  | n + 1 => by
    have h := fb_si_add f g n
    rw [fb_si_succ, fb_si_succ, fb_si_succ, h]
    omega
theorem fb_si_sub (f g : Nat → Int) : ∀ n, fb_si (fun k => f k - g k) n = fb_si f n - fb_si g n
  | 0 => rfl
  | n + 1 => by
    have h := fb_si_sub f g n
    rw [fb_si_succ, fb_si_succ, fb_si_succ, h]
    omega
theorem fb_si_mul (c : Int) (f : Nat → Int) : ∀ n, fb_si (fun k => c * f k) n = c * fb_si f n
  | 0 => (Int.mul_zero c).symm
  | n + 1 => by
    have h := fb_si_mul c f n
    rw [fb_si_succ, fb_si_succ, h, Int.mul_add]
theorem fb_si_split (f : Nat → Int) (m : Nat) : ∀ n, fb_si f (m + n) = fb_si f m + fb_si (fun k => f (m + k)) n
  | 0 => (Int.add_zero _).symm
  | n + 1 => by
    have h := fb_si_split f m n
    show fb_si f (m + n + 1) = _
    rw [fb_si_succ, fb_si_succ, h, Int.add_assoc]
theorem fb_si_nat (f : Nat → Nat) : ∀ n, fb_si (fun k => (f k : Int)) n = (fb_sm f n : Int)
  | 0 => rfl
  | n + 1 => by
    have h := fb_si_nat f n
    rw [fb_si_succ, fb_sm_succ, h]
    omega
theorem fb_si_bound {f : Nat → Int} {c : Int} (hc : 0 ≤ c) : ∀ {n : Nat}, (∀ k, k < n → -c ≤ f k ∧ f k ≤ c) → -(n * c) ≤ fb_si f n ∧ fb_si f n ≤ n * c
  | 0, _ => by simp [fb_si]
  | n + 1, h => by
    have h1 := fb_si_bound (n := n) (f := f) hc (fun k hk => h k (by omega))
    have h2 := h n (by omega)
    have e : ((n + 1 : Nat) : Int) * c = n * c + c := by rw [Int.natCast_add, Int.add_mul]; simp
    rw [fb_si_succ, e]
    omega

/-! ===== signed ints as whole numbers, within bounds ===== -/
theorem fb_rng (x : Int32) : -2147483648 ≤ x.toInt ∧ x.toInt < 2147483648 := by
  have h1 := Int32.le_toInt x
  have h2 := Int32.toInt_lt x
  omega
theorem fb_bmod {z : Int} (h1 : -2147483648 ≤ z) (h2 : z < 2147483648) : z.bmod (2 ^ 32) = z := by
  rw [Int.bmod_eq_of_le (by omega) (by omega)]
theorem fb_addI {x y : Int32} (h1 : -2147483648 ≤ x.toInt + y.toInt) (h2 : x.toInt + y.toInt < 2147483648) : (x + y).toInt = x.toInt + y.toInt := by
  rw [Int32.toInt_add, fb_bmod h1 h2]
theorem fb_subI {x y : Int32} (h1 : -2147483648 ≤ x.toInt - y.toInt) (h2 : x.toInt - y.toInt < 2147483648) : (x - y).toInt = x.toInt - y.toInt := by
  rw [Int32.toInt_sub, fb_bmod h1 h2]
theorem fb_mulI {x y : Int32} (h1 : -2147483648 ≤ x.toInt * y.toInt) (h2 : x.toInt * y.toInt < 2147483648) : (x * y).toInt = x.toInt * y.toInt := by
  rw [Int32.toInt_mul, fb_bmod h1 h2]
theorem fb_negI {x : Int32} (h : x.toInt ≠ -2147483648) : (-x).toInt = -x.toInt := by
  have := fb_rng x
  rw [Int32.toInt_neg, fb_bmod (by omega) (by omega)]
theorem fb_ofI {z : Int} (h1 : -2147483648 ≤ z) (h2 : z < 2147483648) : (Int32.ofInt z).toInt = z := by
  rw [Int32.toInt_ofInt, fb_bmod h1 h2]
theorem fb_asI (x : Int32) : Int32.ofInt x.toInt = x := Int32.ofInt_toInt x
theorem fb_rngL (x : Int64) : -9223372036854775808 ≤ x.toInt ∧ x.toInt < 9223372036854775808 := by
  have h1 := Int64.le_toInt x
  have h2 := Int64.toInt_lt x
  omega
theorem fb_bmodL {z : Int} (h1 : -9223372036854775808 ≤ z) (h2 : z < 9223372036854775808) : z.bmod (2 ^ 64) = z := by
  rw [Int.bmod_eq_of_le (by omega) (by omega)]
theorem fb_addL {x y : Int64} (h1 : -9223372036854775808 ≤ x.toInt + y.toInt) (h2 : x.toInt + y.toInt < 9223372036854775808) : (x + y).toInt = x.toInt + y.toInt := by
  rw [Int64.toInt_add, fb_bmodL h1 h2]
theorem fb_subL {x y : Int64} (h1 : -9223372036854775808 ≤ x.toInt - y.toInt) (h2 : x.toInt - y.toInt < 9223372036854775808) : (x - y).toInt = x.toInt - y.toInt := by
  rw [Int64.toInt_sub, fb_bmodL h1 h2]
theorem fb_mulL {x y : Int64} (h1 : -9223372036854775808 ≤ x.toInt * y.toInt) (h2 : x.toInt * y.toInt < 9223372036854775808) : (x * y).toInt = x.toInt * y.toInt := by
  rw [Int64.toInt_mul, fb_bmodL h1 h2]

/-! THE PURE PART: what a pure term answers -/
def dz_T {β : Type} (t : Option β) (P : β → Prop) : Prop := ∃ z, t = some z ∧ P z
section DBT
variable {α β : Type} {P Q : β → Prop}
theorem db_T_some {v : β} : dz_T (some v) P ↔ P v := ⟨fun ⟨_, h, p⟩ => Option.some.inj h ▸ p, fun p => ⟨v, rfl, p⟩⟩
theorem db_T_none : dz_T (none : Option β) P ↔ False := ⟨fun ⟨_, h, _⟩ => (nomatch h), False.elim⟩
theorem db_T_bind {x : Option α} {f : α → Option β} : dz_T (x.bind f) P ↔ dz_T x (fun v => dz_T (f v) P) := by
  cases x with
  | none => exact ⟨fun ⟨_, h, _⟩ => (nomatch h), fun ⟨_, h, _⟩ => (nomatch h)⟩
  | some a => exact ⟨fun h => ⟨a, rfl, h⟩, fun ⟨_, h, p⟩ => by cases h; exact p⟩
theorem db_T_bd {x : Option (α × db_S)} {f : α → db_S → Option β} : dz_T (db_bd x f) P ↔ dz_T x (fun v => dz_T (f v.1 v.2) P) := db_T_bind
theorem db_T_cond {b : Bool} {t1 t2 : Option β} : dz_T (cond b t1 t2) P ↔ (if b = true then dz_T t1 P else dz_T t2 P) := by cases b <;> simp
theorem db_T_ite {c : Prop} [Decidable c] {t1 t2 : Option β} : dz_T (if c then t1 else t2) P ↔ (if c then dz_T t1 P else dz_T t2 P) := by by_cases h : c <;> simp [h]
theorem db_T_mono {t : Option β} (h : dz_T t P) (k : ∀ z, P z → Q z) : dz_T t Q := by
  obtain ⟨z, e, p⟩ := h
  exact ⟨z, e, k z p⟩
theorem db_T_e {t : Option β} {v : β} (h : t = some v) : dz_T t P ↔ P v := by rw [h]; exact db_T_some
theorem db_T_of {t : Option β} (h : dz_T t P) : ∃ z, t = some z ∧ P z := h
end DBT
theorem db_bind_some {α β : Type} {a : α} {f : α → Option β} : (some a).bind f = f a := Eq.trans rfl rfl
theorem db_bd_some {α β : Type} {q : α × db_S} {f : α → db_S → Option β} : db_bd (some q) f = f q.1 q.2 := Eq.trans rfl rfl
theorem db_ct {α : Type} {a b : α} : cond true a b = a := Eq.trans rfl rfl
theorem db_cf {α : Type} {a b : α} : cond false a b = b := Eq.trans rfl rfl
theorem db_pI_e {s : db_S} {a k : Nat} {x : Int32} : db_pI s a k x = some (db_uI s a k x) := Eq.trans rfl rfl
theorem db_pL_e {s : db_S} {a k : Nat} {x : Int64} : db_pL s a k x = some (db_uL s a k x) := Eq.trans rfl rfl
/-! numbers that count -/
theorem db_lit {n : Nat} : (no_index (OfNat.ofNat n) : Int32) = nI n := rfl
theorem db_litL {n : Nat} : (no_index (OfNat.ofNat n) : Int64) = lN n := rfl
theorem db_in_n {k n : Nat} (h : k < 2 ^ 31) : db_in (nI k) n = decide (k < n) := by
  unfold db_in
  rw [nI_clamp h]
  have : ¬ (nI k < 0) := nI_pos h
  simp [this]
theorem db_cnd_eq {x y : Int32} : db_cnd .eq x y = decide (x = y) := rfl
theorem db_cnd_ne {x y : Int32} : db_cnd .ne x y = decide (¬ x = y) := by
  show (!decide (x = y)) = _
  rw [← decide_not]
theorem db_cnd_lt {x y : Int32} : db_cnd .lt x y = decide (x.toInt < y.toInt) := decide_eq_decide.mpr (fa_lt x y)
theorem db_cnd_ge {x y : Int32} : db_cnd .ge x y = decide (y.toInt ≤ x.toInt) := decide_eq_decide.mpr (fa_le y x)
theorem db_cnd_gt {x y : Int32} : db_cnd .gt x y = decide (y.toInt < x.toInt) := decide_eq_decide.mpr (fa_lt y x)
theorem db_cnd_le {x y : Int32} : db_cnd .le x y = decide (x.toInt ≤ y.toInt) := decide_eq_decide.mpr (fa_le x y)
theorem db_m1_t : (-(nI 1)).toInt = -1 := by decide
theorem db_m1_ne {k : Nat} (h : k < 2 ^ 31) : (nI k = -(nI 1)) = False := eq_false fun e => by
  have h1 := congrArg Int32.toInt e
  rw [nI_toInt h, db_m1_t] at h1
  omega
theorem db_m1_d {k : Nat} (h : k < 2 ^ 31) : decide (nI k = -(nI 1)) = false := decide_eq_false (by rw [db_m1_ne h]; exact id)
theorem db_m1_en {k : Nat} (h : k < 2 ^ 31) : (-(nI 1) = nI k) = False := eq_false fun e => by
  have h1 := congrArg Int32.toInt e
  rw [nI_toInt h, db_m1_t] at h1
  omega
/-- all comparisons as comparisons of whole numbers -/
theorem dz_cn : (∀ x y, db_cnd .eq x y = decide (x = y)) ∧ (∀ x y, db_cnd .ne x y = decide (¬ x = y)) ∧ (∀ x y, db_cnd .lt x y = decide (x.toInt < y.toInt)) ∧ (∀ x y, db_cnd .ge x y = decide (y.toInt ≤ x.toInt)) ∧ (∀ x y, db_cnd .gt x y = decide (y.toInt < x.toInt)) ∧ (∀ x y, db_cnd .le x y = decide (x.toInt ≤ y.toInt)) := ⟨fun _ _ => db_cnd_eq, fun _ _ => db_cnd_ne, fun _ _ => db_cnd_lt, fun _ _ => db_cnd_ge, fun _ _ => db_cnd_gt, fun _ _ => db_cnd_le⟩
/-- an int within bounds is a number that counts -/
theorem db_ofI {x : Int32} {n : Nat} (h0 : 0 ≤ x.toInt) (h1 : x.toInt < n) : ∃ k : Nat, k < n ∧ x = nI k := by
  refine ⟨x.toInt.toNat, by omega, ?_⟩
  have h := fb_rng x
  rw [fa_eq, nI_toInt (by omega)]
  omega
theorem db_nI_inj {a b : Nat} (ha : a < 2 ^ 31) (hb : b < 2 ^ 31) (h : nI a = nI b) : a = b := (nI_eq ha hb).mp h
/-- reads and writes, where they are within -/
theorem db_rI_n {s : db_S} {a k : Nat} (h1 : db_ka a = 1) (h2 : k < db_la a) (h3 : db_la a < 2 ^ 31) : db_rI s a (nI k) = some (s.1 a k) := by
  have : k < 2 ^ 31 := by omega
  unfold db_rI
  rw [db_in_n this, nI_clamp this, h1]
  simp [h2]
theorem db_rB_n {s : db_S} {a k : Nat} (h1 : db_ka a = 0) (h2 : k < db_la a) (h3 : db_la a < 2 ^ 31) : db_rB s a (nI k) = some (s.1 a k) := by
  have : k < 2 ^ 31 := by omega
  unfold db_rB
  rw [db_in_n this, nI_clamp this, h1]
  simp [h2]
theorem db_rL_n {s : db_S} {a k : Nat} (h1 : db_ka a = 2) (h2 : k < db_la a) (h3 : db_la a < 2 ^ 31) : db_rL s a (nI k) = some (s.2 a k) := by
  have : k < 2 ^ 31 := by omega
  unfold db_rL
  rw [db_in_n this, nI_clamp this, h1]
  simp [h2]
theorem db_wI_n {s : db_S} {a k : Nat} {x : Int32} (h1 : db_ka a = 1) (h2 : k < db_la a) (h3 : db_la a < 2 ^ 31) : db_wI s a (nI k) x = some (db_uI s a k x) := by
  have : k < 2 ^ 31 := by omega
  unfold db_wI
  rw [db_in_n this, nI_clamp this, h1]
  simp [h2]
theorem db_wB_n {s : db_S} {a k : Nat} {x : Int32} (h1 : db_ka a = 0) (h2 : k < db_la a) (h3 : db_la a < 2 ^ 31) : db_wB s a (nI k) x = some (db_uI s a k x.toInt8.toInt32) := by
  have : k < 2 ^ 31 := by omega
  unfold db_wB
  rw [db_in_n this, nI_clamp this, h1]
  simp [h2]
theorem db_wL_n {s : db_S} {a k : Nat} {x : Int64} (h1 : db_ka a = 2) (h2 : k < db_la a) (h3 : db_la a < 2 ^ 31) : db_wL s a (nI k) x = some (db_uL s a k x) := by
  have : k < 2 ^ 31 := by omega
  unfold db_wL
  rw [db_in_n this, nI_clamp this, h1]
  simp [h2]
theorem db_q_all {t k n b j : Nat} (hs : db_shp t = .inr (.inr (k, n, b, 1))) (hk : (Nat.ble 3 k && Nat.ble k 7 && Nat.ble 4 b) = true) (hj : j < n) (hn : j < 2 ^ 31) : db_rR t (nI j) = some (b + j) := by
  simp only [Bool.and_eq_true] at hk
  unfold db_rR
  simp only [hs, db_in_n hn, nI_clamp hn, decide_eq_true hj, hk.1.1, hk.1.2, hk.2, Bool.and_true, Bool.and_self, cond_true, Nat.one_mul]
theorem db_beq_ne {a b : Nat} (h : a ≠ b) : Nat.beq a b = false := by
  cases hb : Nat.beq a b with
  | false => rfl
  | true => exact absurd (Nat.eq_of_beq_eq_true hb) h
section DBU
variable {s : db_S} {a b i j : Nat} {x : Int32} {y : Int64}
theorem db_uI_1 : (db_uI s a j x).1 a j = x := by simp [db_uI]
theorem db_uI_n (h : b ≠ a) : (db_uI s a j x).1 b = s.1 b := by
  funext i
  simp [db_uI, db_beq_ne h]
theorem db_uI_j (h : i ≠ j) : (db_uI s a j x).1 b i = s.1 b i := by simp [db_uI, db_beq_ne h]
theorem db_uI_2 : (db_uI s a j x).2 = s.2 := rfl
theorem db_uL_1 : (db_uL s a j y).2 a j = y := by simp [db_uL]
theorem db_uL_n (h : b ≠ a) : (db_uL s a j y).2 b = s.2 b := by
  funext i
  simp [db_uL, db_beq_ne h]
theorem db_uL_j (h : i ≠ j) : (db_uL s a j y).2 b i = s.2 b i := by simp [db_uL, db_beq_ne h]
theorem db_uL_2 : (db_uL s a j y).1 = s.1 := rfl
theorem db_uI_if : (db_uI s a j x).1 b i = if b = a ∧ i = j then x else s.1 b i := by
  by_cases h1 : b = a
  · by_cases h2 : i = j
    · subst h1 h2; simp [db_uI]
    · simp [h2, db_uI_j h2]
  · simp [h1, db_uI_n h1]
theorem db_uL_if : (db_uL s a j y).2 b i = if b = a ∧ i = j then y else s.2 b i := by
  by_cases h1 : b = a
  · by_cases h2 : i = j
    · subst h1 h2; simp [db_uL]
    · simp [h2, db_uL_j h2]
  · simp [h1, db_uL_n h1]
end DBU

theorem db_q_6 {j : Nat} (hj : j < 4) : db_rR 6 (nI j) = some (7 + j) := db_q_all rfl (by decide) hj (by omega)

theorem db_q_24 {j : Nat} (hj : j < 12) : db_rR 24 (nI j) = some (25 + j) := db_q_all rfl (by decide) hj (by omega)

theorem db_q_37 {j : Nat} (hj : j < 12) : db_rR 37 (nI j) = some (38 + j) := db_q_all rfl (by decide) hj (by omega)

theorem db_q_50 {j : Nat} (hj : j < 8) : db_rR 50 (nI j) = some (51 + j) := db_q_all rfl (by decide) hj (by omega)

theorem db_q_64 {j : Nat} (hj : j < 10) : db_rR 64 (nI j) = some (65 + j) := db_q_all rfl (by decide) hj (by omega)

theorem db_q_84 {j : Nat} (hj : j < 60) : db_rR 84 (nI j) = some (85 + j) := db_q_all rfl (by decide) hj (by omega)

theorem db_q_150 {j : Nat} (hj : j < 12) : db_rR 150 (nI j) = some (151 + j) := db_q_all rfl (by decide) hj (by omega)

theorem db_q_163 {j : Nat} (hj : j < 12) : db_rR 163 (nI j) = some (164 + j) := db_q_all rfl (by decide) hj (by omega)

theorem db_q_176 {j : Nat} (hj : j < 8) : db_rR 176 (nI j) = some (177 + j) := db_q_all rfl (by decide) hj (by omega)

theorem db_q_190 {j : Nat} (hj : j < 10) : db_rR 190 (nI j) = some (191 + j) := db_q_all rfl (by decide) hj (by omega)

theorem db_q_209 {j : Nat} (hj : j < 60) : db_rR 209 (nI j) = some (210 + j) := db_q_all rfl (by decide) hj (by omega)

theorem db_kl_7 : ∀ r, r < 4 → db_ka (7 + r) = 2 ∧ db_la (7 + r) = 60 := by decide
theorem db_g_7 {s : db_S} {r k : Nat} (hr : r < 4) (hk : k < 60) : db_rL s (7 + r) (nI k) = some (s.2 (7 + r) k) := db_rL_n (db_kl_7 r hr).1 (by rw [(db_kl_7 r hr).2]; exact hk) (by rw [(db_kl_7 r hr).2]; decide)
theorem db_h_7 {s : db_S} {r k : Nat} {x : Int64} (hr : r < 4) (hk : k < 60) : db_wL s (7 + r) (nI k) x = some (db_uL s (7 + r) k x) := db_wL_n (db_kl_7 r hr).1 (by rw [(db_kl_7 r hr).2]; exact hk) (by rw [(db_kl_7 r hr).2]; decide)

theorem db_kl_25 : ∀ r, r < 12 → db_ka (25 + r) = 1 ∧ db_la (25 + r) = 6 := by decide
theorem db_g_25 {s : db_S} {r k : Nat} (hr : r < 12) (hk : k < 6) : db_rI s (25 + r) (nI k) = some (s.1 (25 + r) k) := db_rI_n (db_kl_25 r hr).1 (by rw [(db_kl_25 r hr).2]; exact hk) (by rw [(db_kl_25 r hr).2]; decide)
theorem db_h_25 {s : db_S} {r k : Nat} {x : Int32} (hr : r < 12) (hk : k < 6) : db_wI s (25 + r) (nI k) x = some (db_uI s (25 + r) k x) := db_wI_n (db_kl_25 r hr).1 (by rw [(db_kl_25 r hr).2]; exact hk) (by rw [(db_kl_25 r hr).2]; decide)

theorem db_kl_38 : ∀ r, r < 12 → db_ka (38 + r) = 1 ∧ db_la (38 + r) = 2 := by decide
theorem db_g_38 {s : db_S} {r k : Nat} (hr : r < 12) (hk : k < 2) : db_rI s (38 + r) (nI k) = some (s.1 (38 + r) k) := db_rI_n (db_kl_38 r hr).1 (by rw [(db_kl_38 r hr).2]; exact hk) (by rw [(db_kl_38 r hr).2]; decide)
theorem db_h_38 {s : db_S} {r k : Nat} {x : Int32} (hr : r < 12) (hk : k < 2) : db_wI s (38 + r) (nI k) x = some (db_uI s (38 + r) k x) := db_wI_n (db_kl_38 r hr).1 (by rw [(db_kl_38 r hr).2]; exact hk) (by rw [(db_kl_38 r hr).2]; decide)

theorem db_kl_51 : ∀ r, r < 8 → db_ka (51 + r) = 1 ∧ db_la (51 + r) = 6 := by decide
theorem db_g_51 {s : db_S} {r k : Nat} (hr : r < 8) (hk : k < 6) : db_rI s (51 + r) (nI k) = some (s.1 (51 + r) k) := db_rI_n (db_kl_51 r hr).1 (by rw [(db_kl_51 r hr).2]; exact hk) (by rw [(db_kl_51 r hr).2]; decide)
theorem db_h_51 {s : db_S} {r k : Nat} {x : Int32} (hr : r < 8) (hk : k < 6) : db_wI s (51 + r) (nI k) x = some (db_uI s (51 + r) k x) := db_wI_n (db_kl_51 r hr).1 (by rw [(db_kl_51 r hr).2]; exact hk) (by rw [(db_kl_51 r hr).2]; decide)

theorem db_kl_65 : ∀ r, r < 10 → db_ka (65 + r) = 1 ∧ db_la (65 + r) = 12 := by decide
theorem db_g_65 {s : db_S} {r k : Nat} (hr : r < 10) (hk : k < 12) : db_rI s (65 + r) (nI k) = some (s.1 (65 + r) k) := db_rI_n (db_kl_65 r hr).1 (by rw [(db_kl_65 r hr).2]; exact hk) (by rw [(db_kl_65 r hr).2]; decide)
theorem db_h_65 {s : db_S} {r k : Nat} {x : Int32} (hr : r < 10) (hk : k < 12) : db_wI s (65 + r) (nI k) x = some (db_uI s (65 + r) k x) := db_wI_n (db_kl_65 r hr).1 (by rw [(db_kl_65 r hr).2]; exact hk) (by rw [(db_kl_65 r hr).2]; decide)

theorem db_kl_85 : ∀ r, r < 60 → db_ka (85 + r) = 1 ∧ db_la (85 + r) = 6 := by decide
theorem db_g_85 {s : db_S} {r k : Nat} (hr : r < 60) (hk : k < 6) : db_rI s (85 + r) (nI k) = some (s.1 (85 + r) k) := db_rI_n (db_kl_85 r hr).1 (by rw [(db_kl_85 r hr).2]; exact hk) (by rw [(db_kl_85 r hr).2]; decide)
theorem db_h_85 {s : db_S} {r k : Nat} {x : Int32} (hr : r < 60) (hk : k < 6) : db_wI s (85 + r) (nI k) x = some (db_uI s (85 + r) k x) := db_wI_n (db_kl_85 r hr).1 (by rw [(db_kl_85 r hr).2]; exact hk) (by rw [(db_kl_85 r hr).2]; decide)

theorem db_kl_151 : ∀ r, r < 12 → db_ka (151 + r) = 1 ∧ db_la (151 + r) = 6 := by decide
theorem db_g_151 {s : db_S} {r k : Nat} (hr : r < 12) (hk : k < 6) : db_rI s (151 + r) (nI k) = some (s.1 (151 + r) k) := db_rI_n (db_kl_151 r hr).1 (by rw [(db_kl_151 r hr).2]; exact hk) (by rw [(db_kl_151 r hr).2]; decide)
theorem db_h_151 {s : db_S} {r k : Nat} {x : Int32} (hr : r < 12) (hk : k < 6) : db_wI s (151 + r) (nI k) x = some (db_uI s (151 + r) k x) := db_wI_n (db_kl_151 r hr).1 (by rw [(db_kl_151 r hr).2]; exact hk) (by rw [(db_kl_151 r hr).2]; decide)

theorem db_kl_164 : ∀ r, r < 12 → db_ka (164 + r) = 1 ∧ db_la (164 + r) = 2 := by decide
theorem db_g_164 {s : db_S} {r k : Nat} (hr : r < 12) (hk : k < 2) : db_rI s (164 + r) (nI k) = some (s.1 (164 + r) k) := db_rI_n (db_kl_164 r hr).1 (by rw [(db_kl_164 r hr).2]; exact hk) (by rw [(db_kl_164 r hr).2]; decide)
theorem db_h_164 {s : db_S} {r k : Nat} {x : Int32} (hr : r < 12) (hk : k < 2) : db_wI s (164 + r) (nI k) x = some (db_uI s (164 + r) k x) := db_wI_n (db_kl_164 r hr).1 (by rw [(db_kl_164 r hr).2]; exact hk) (by rw [(db_kl_164 r hr).2]; decide)

theorem db_kl_177 : ∀ r, r < 8 → db_ka (177 + r) = 1 ∧ db_la (177 + r) = 6 := by decide
theorem db_g_177 {s : db_S} {r k : Nat} (hr : r < 8) (hk : k < 6) : db_rI s (177 + r) (nI k) = some (s.1 (177 + r) k) := db_rI_n (db_kl_177 r hr).1 (by rw [(db_kl_177 r hr).2]; exact hk) (by rw [(db_kl_177 r hr).2]; decide)
theorem db_h_177 {s : db_S} {r k : Nat} {x : Int32} (hr : r < 8) (hk : k < 6) : db_wI s (177 + r) (nI k) x = some (db_uI s (177 + r) k x) := db_wI_n (db_kl_177 r hr).1 (by rw [(db_kl_177 r hr).2]; exact hk) (by rw [(db_kl_177 r hr).2]; decide)

theorem db_kl_191 : ∀ r, r < 10 → db_ka (191 + r) = 1 ∧ db_la (191 + r) = 12 := by decide
theorem db_g_191 {s : db_S} {r k : Nat} (hr : r < 10) (hk : k < 12) : db_rI s (191 + r) (nI k) = some (s.1 (191 + r) k) := db_rI_n (db_kl_191 r hr).1 (by rw [(db_kl_191 r hr).2]; exact hk) (by rw [(db_kl_191 r hr).2]; decide)
theorem db_h_191 {s : db_S} {r k : Nat} {x : Int32} (hr : r < 10) (hk : k < 12) : db_wI s (191 + r) (nI k) x = some (db_uI s (191 + r) k x) := db_wI_n (db_kl_191 r hr).1 (by rw [(db_kl_191 r hr).2]; exact hk) (by rw [(db_kl_191 r hr).2]; decide)

theorem db_kl_210 : ∀ r, r < 60 → db_ka (210 + r) = 1 ∧ db_la (210 + r) = 6 := by decide
theorem db_g_210 {s : db_S} {r k : Nat} (hr : r < 60) (hk : k < 6) : db_rI s (210 + r) (nI k) = some (s.1 (210 + r) k) := db_rI_n (db_kl_210 r hr).1 (by rw [(db_kl_210 r hr).2]; exact hk) (by rw [(db_kl_210 r hr).2]; decide)
theorem db_h_210 {s : db_S} {r k : Nat} {x : Int32} (hr : r < 60) (hk : k < 6) : db_wI s (210 + r) (nI k) x = some (db_uI s (210 + r) k x) := db_wI_n (db_kl_210 r hr).1 (by rw [(db_kl_210 r hr).2]; exact hk) (by rw [(db_kl_210 r hr).2]; decide)

theorem db_g_11 {s : db_S} {k : Nat} (hk : k < 4) : db_rI s 11 (nI k) = some (s.1 11 k) := db_rI_n rfl hk (by decide)
theorem db_h_11 {s : db_S} {k : Nat} {x : Int32} (hk : k < 4) : db_wI s 11 (nI k) x = some (db_uI s 11 k x) := db_wI_n rfl hk (by decide)

theorem db_g_12 {s : db_S} {k : Nat} (hk : k < 4) : db_rI s 12 (nI k) = some (s.1 12 k) := db_rI_n rfl hk (by decide)
theorem db_h_12 {s : db_S} {k : Nat} {x : Int32} (hk : k < 4) : db_wI s 12 (nI k) x = some (db_uI s 12 k x) := db_wI_n rfl hk (by decide)

theorem db_g_14 {s : db_S} {k : Nat} (hk : k < 900) : db_rB s 14 (nI k) = some (s.1 14 k) := db_rB_n rfl hk (by decide)
theorem db_h_14 {s : db_S} {k : Nat} {x : Int32} (hk : k < 900) : db_wB s 14 (nI k) x = some (db_uI s 14 k x.toInt8.toInt32) := db_wB_n rfl hk (by decide)

theorem db_g_15 {s : db_S} {k : Nat} (hk : k < 28) : db_rL s 15 (nI k) = some (s.2 15 k) := db_rL_n rfl hk (by decide)
theorem db_h_15 {s : db_S} {k : Nat} {x : Int64} (hk : k < 28) : db_wL s 15 (nI k) x = some (db_uL s 15 k x) := db_wL_n rfl hk (by decide)

theorem db_g_16 {s : db_S} {k : Nat} (hk : k < 901) : db_rI s 16 (nI k) = some (s.1 16 k) := db_rI_n rfl hk (by decide)
theorem db_h_16 {s : db_S} {k : Nat} {x : Int32} (hk : k < 901) : db_wI s 16 (nI k) x = some (db_uI s 16 k x) := db_wI_n rfl hk (by decide)

theorem db_g_17 {s : db_S} {k : Nat} (hk : k < 901) : db_rI s 17 (nI k) = some (s.1 17 k) := db_rI_n rfl hk (by decide)
theorem db_h_17 {s : db_S} {k : Nat} {x : Int32} (hk : k < 901) : db_wI s 17 (nI k) x = some (db_uI s 17 k x) := db_wI_n rfl hk (by decide)

theorem db_g_18 {s : db_S} {k : Nat} (hk : k < 901) : db_rI s 18 (nI k) = some (s.1 18 k) := db_rI_n rfl hk (by decide)
theorem db_h_18 {s : db_S} {k : Nat} {x : Int32} (hk : k < 901) : db_wI s 18 (nI k) x = some (db_uI s 18 k x) := db_wI_n rfl hk (by decide)

theorem db_g_19 {s : db_S} {k : Nat} (hk : k < 901) : db_rL s 19 (nI k) = some (s.2 19 k) := db_rL_n rfl hk (by decide)
theorem db_h_19 {s : db_S} {k : Nat} {x : Int64} (hk : k < 901) : db_wL s 19 (nI k) x = some (db_uL s 19 k x) := db_wL_n rfl hk (by decide)

theorem db_g_21 {s : db_S} {k : Nat} (hk : k < 6) : db_rI s 21 (nI k) = some (s.1 21 k) := db_rI_n rfl hk (by decide)
theorem db_h_21 {s : db_S} {k : Nat} {x : Int32} (hk : k < 6) : db_wI s 21 (nI k) x = some (db_uI s 21 k x) := db_wI_n rfl hk (by decide)

theorem db_g_22 {s : db_S} {k : Nat} (hk : k < 4) : db_rI s 22 (nI k) = some (s.1 22 k) := db_rI_n rfl hk (by decide)
theorem db_h_22 {s : db_S} {k : Nat} {x : Int32} (hk : k < 4) : db_wI s 22 (nI k) x = some (db_uI s 22 k x) := db_wI_n rfl hk (by decide)

theorem db_g_23 {s : db_S} {k : Nat} (hk : k < 3) : db_rI s 23 (nI k) = some (s.1 23 k) := db_rI_n rfl hk (by decide)
theorem db_h_23 {s : db_S} {k : Nat} {x : Int32} (hk : k < 3) : db_wI s 23 (nI k) x = some (db_uI s 23 k x) := db_wI_n rfl hk (by decide)

theorem db_g_59 {s : db_S} {k : Nat} (hk : k < 8) : db_rI s 59 (nI k) = some (s.1 59 k) := db_rI_n rfl hk (by decide)
theorem db_h_59 {s : db_S} {k : Nat} {x : Int32} (hk : k < 8) : db_wI s 59 (nI k) x = some (db_uI s 59 k x) := db_wI_n rfl hk (by decide)

theorem db_g_60 {s : db_S} {k : Nat} (hk : k < 8) : db_rI s 60 (nI k) = some (s.1 60 k) := db_rI_n rfl hk (by decide)
theorem db_h_60 {s : db_S} {k : Nat} {x : Int32} (hk : k < 8) : db_wI s 60 (nI k) x = some (db_uI s 60 k x) := db_wI_n rfl hk (by decide)

theorem db_g_61 {s : db_S} {k : Nat} (hk : k < 8) : db_rI s 61 (nI k) = some (s.1 61 k) := db_rI_n rfl hk (by decide)
theorem db_h_61 {s : db_S} {k : Nat} {x : Int32} (hk : k < 8) : db_wI s 61 (nI k) x = some (db_uI s 61 k x) := db_wI_n rfl hk (by decide)

theorem db_g_62 {s : db_S} {k : Nat} (hk : k < 12) : db_rI s 62 (nI k) = some (s.1 62 k) := db_rI_n rfl hk (by decide)
theorem db_h_62 {s : db_S} {k : Nat} {x : Int32} (hk : k < 12) : db_wI s 62 (nI k) x = some (db_uI s 62 k x) := db_wI_n rfl hk (by decide)

theorem db_g_63 {s : db_S} {k : Nat} (hk : k < 12) : db_rI s 63 (nI k) = some (s.1 63 k) := db_rI_n rfl hk (by decide)
theorem db_h_63 {s : db_S} {k : Nat} {x : Int32} (hk : k < 12) : db_wI s 63 (nI k) x = some (db_uI s 63 k x) := db_wI_n rfl hk (by decide)

theorem db_g_75 {s : db_S} {k : Nat} (hk : k < 10) : db_rI s 75 (nI k) = some (s.1 75 k) := db_rI_n rfl hk (by decide)
theorem db_h_75 {s : db_S} {k : Nat} {x : Int32} (hk : k < 10) : db_wI s 75 (nI k) x = some (db_uI s 75 k x) := db_wI_n rfl hk (by decide)

theorem db_g_77 {s : db_S} {k : Nat} (hk : k < 37) : db_rI s 77 (nI k) = some (s.1 77 k) := db_rI_n rfl hk (by decide)
theorem db_h_77 {s : db_S} {k : Nat} {x : Int32} (hk : k < 37) : db_wI s 77 (nI k) x = some (db_uI s 77 k x) := db_wI_n rfl hk (by decide)

theorem db_g_78 {s : db_S} {k : Nat} (hk : k < 37) : db_rI s 78 (nI k) = some (s.1 78 k) := db_rI_n rfl hk (by decide)
theorem db_h_78 {s : db_S} {k : Nat} {x : Int32} (hk : k < 37) : db_wI s 78 (nI k) x = some (db_uI s 78 k x) := db_wI_n rfl hk (by decide)

theorem db_g_79 {s : db_S} {k : Nat} (hk : k < 12) : db_rI s 79 (nI k) = some (s.1 79 k) := db_rI_n rfl hk (by decide)
theorem db_h_79 {s : db_S} {k : Nat} {x : Int32} (hk : k < 12) : db_wI s 79 (nI k) x = some (db_uI s 79 k x) := db_wI_n rfl hk (by decide)

theorem db_g_76 {s : db_S} {k : Nat} (hk : k < 37) : db_rL s 76 (nI k) = some (s.2 76 k) := db_rL_n rfl hk (by decide)
theorem db_h_76 {s : db_S} {k : Nat} {x : Int64} (hk : k < 37) : db_wL s 76 (nI k) x = some (db_uL s 76 k x) := db_wL_n rfl hk (by decide)

theorem db_g_81 {s : db_S} {k : Nat} (hk : k < 12) : db_rI s 81 (nI k) = some (s.1 81 k) := db_rI_n rfl hk (by decide)
theorem db_h_81 {s : db_S} {k : Nat} {x : Int32} (hk : k < 12) : db_wI s 81 (nI k) x = some (db_uI s 81 k x) := db_wI_n rfl hk (by decide)

theorem db_g_82 {s : db_S} {k : Nat} (hk : k < 4) : db_rI s 82 (nI k) = some (s.1 82 k) := db_rI_n rfl hk (by decide)
theorem db_h_82 {s : db_S} {k : Nat} {x : Int32} (hk : k < 4) : db_wI s 82 (nI k) x = some (db_uI s 82 k x) := db_wI_n rfl hk (by decide)

theorem db_g_147 {s : db_S} {k : Nat} (hk : k < 6) : db_rI s 147 (nI k) = some (s.1 147 k) := db_rI_n rfl hk (by decide)
theorem db_h_147 {s : db_S} {k : Nat} {x : Int32} (hk : k < 6) : db_wI s 147 (nI k) x = some (db_uI s 147 k x) := db_wI_n rfl hk (by decide)

theorem db_g_148 {s : db_S} {k : Nat} (hk : k < 4) : db_rI s 148 (nI k) = some (s.1 148 k) := db_rI_n rfl hk (by decide)
theorem db_h_148 {s : db_S} {k : Nat} {x : Int32} (hk : k < 4) : db_wI s 148 (nI k) x = some (db_uI s 148 k x) := db_wI_n rfl hk (by decide)

theorem db_g_149 {s : db_S} {k : Nat} (hk : k < 3) : db_rI s 149 (nI k) = some (s.1 149 k) := db_rI_n rfl hk (by decide)
theorem db_h_149 {s : db_S} {k : Nat} {x : Int32} (hk : k < 3) : db_wI s 149 (nI k) x = some (db_uI s 149 k x) := db_wI_n rfl hk (by decide)

theorem db_g_185 {s : db_S} {k : Nat} (hk : k < 8) : db_rI s 185 (nI k) = some (s.1 185 k) := db_rI_n rfl hk (by decide)
theorem db_h_185 {s : db_S} {k : Nat} {x : Int32} (hk : k < 8) : db_wI s 185 (nI k) x = some (db_uI s 185 k x) := db_wI_n rfl hk (by decide)

theorem db_g_186 {s : db_S} {k : Nat} (hk : k < 8) : db_rI s 186 (nI k) = some (s.1 186 k) := db_rI_n rfl hk (by decide)
theorem db_h_186 {s : db_S} {k : Nat} {x : Int32} (hk : k < 8) : db_wI s 186 (nI k) x = some (db_uI s 186 k x) := db_wI_n rfl hk (by decide)

theorem db_g_187 {s : db_S} {k : Nat} (hk : k < 8) : db_rI s 187 (nI k) = some (s.1 187 k) := db_rI_n rfl hk (by decide)
theorem db_h_187 {s : db_S} {k : Nat} {x : Int32} (hk : k < 8) : db_wI s 187 (nI k) x = some (db_uI s 187 k x) := db_wI_n rfl hk (by decide)

theorem db_g_188 {s : db_S} {k : Nat} (hk : k < 12) : db_rI s 188 (nI k) = some (s.1 188 k) := db_rI_n rfl hk (by decide)
theorem db_h_188 {s : db_S} {k : Nat} {x : Int32} (hk : k < 12) : db_wI s 188 (nI k) x = some (db_uI s 188 k x) := db_wI_n rfl hk (by decide)

theorem db_g_189 {s : db_S} {k : Nat} (hk : k < 12) : db_rI s 189 (nI k) = some (s.1 189 k) := db_rI_n rfl hk (by decide)
theorem db_h_189 {s : db_S} {k : Nat} {x : Int32} (hk : k < 12) : db_wI s 189 (nI k) x = some (db_uI s 189 k x) := db_wI_n rfl hk (by decide)

theorem db_g_201 {s : db_S} {k : Nat} (hk : k < 10) : db_rI s 201 (nI k) = some (s.1 201 k) := db_rI_n rfl hk (by decide)
theorem db_h_201 {s : db_S} {k : Nat} {x : Int32} (hk : k < 10) : db_wI s 201 (nI k) x = some (db_uI s 201 k x) := db_wI_n rfl hk (by decide)

theorem db_g_202 {s : db_S} {k : Nat} (hk : k < 37) : db_rL s 202 (nI k) = some (s.2 202 k) := db_rL_n rfl hk (by decide)
theorem db_h_202 {s : db_S} {k : Nat} {x : Int64} (hk : k < 37) : db_wL s 202 (nI k) x = some (db_uL s 202 k x) := db_wL_n rfl hk (by decide)

theorem db_g_203 {s : db_S} {k : Nat} (hk : k < 37) : db_rI s 203 (nI k) = some (s.1 203 k) := db_rI_n rfl hk (by decide)
theorem db_h_203 {s : db_S} {k : Nat} {x : Int32} (hk : k < 37) : db_wI s 203 (nI k) x = some (db_uI s 203 k x) := db_wI_n rfl hk (by decide)

theorem db_g_204 {s : db_S} {k : Nat} (hk : k < 37) : db_rI s 204 (nI k) = some (s.1 204 k) := db_rI_n rfl hk (by decide)
theorem db_h_204 {s : db_S} {k : Nat} {x : Int32} (hk : k < 37) : db_wI s 204 (nI k) x = some (db_uI s 204 k x) := db_wI_n rfl hk (by decide)

theorem db_g_205 {s : db_S} {k : Nat} (hk : k < 12) : db_rI s 205 (nI k) = some (s.1 205 k) := db_rI_n rfl hk (by decide)
theorem db_h_205 {s : db_S} {k : Nat} {x : Int32} (hk : k < 12) : db_wI s 205 (nI k) x = some (db_uI s 205 k x) := db_wI_n rfl hk (by decide)

theorem db_g_206 {s : db_S} {k : Nat} (hk : k < 1) : db_rI s 206 (nI k) = some (s.1 206 k) := db_rI_n rfl hk (by decide)
theorem db_h_206 {s : db_S} {k : Nat} {x : Int32} (hk : k < 1) : db_wI s 206 (nI k) x = some (db_uI s 206 k x) := db_wI_n rfl hk (by decide)

theorem db_g_270 {s : db_S} {k : Nat} (hk : k < 3) : db_rI s 270 (nI k) = some (s.1 270 k) := db_rI_n rfl hk (by decide)
theorem db_h_270 {s : db_S} {k : Nat} {x : Int32} (hk : k < 3) : db_wI s 270 (nI k) x = some (db_uI s 270 k x) := db_wI_n rfl hk (by decide)

theorem db_g_272 {s : db_S} {k : Nat} (hk : k < 8) : db_rI s 272 (nI k) = some (s.1 272 k) := db_rI_n rfl hk (by decide)
theorem db_h_272 {s : db_S} {k : Nat} {x : Int32} (hk : k < 8) : db_wI s 272 (nI k) x = some (db_uI s 272 k x) := db_wI_n rfl hk (by decide)

theorem db_g_273 {s : db_S} {k : Nat} (hk : k < 8) : db_rI s 273 (nI k) = some (s.1 273 k) := db_rI_n rfl hk (by decide)
theorem db_h_273 {s : db_S} {k : Nat} {x : Int32} (hk : k < 8) : db_wI s 273 (nI k) x = some (db_uI s 273 k x) := db_wI_n rfl hk (by decide)

theorem db_g_275 {s : db_S} {k : Nat} (hk : k < 4) : db_rI s 275 (nI k) = some (s.1 275 k) := db_rI_n rfl hk (by decide)
theorem db_h_275 {s : db_S} {k : Nat} {x : Int32} (hk : k < 4) : db_wI s 275 (nI k) x = some (db_uI s 275 k x) := db_wI_n rfl hk (by decide)

theorem db_g_277 {s : db_S} {k : Nat} (hk : k < 12) : db_rI s 277 (nI k) = some (s.1 277 k) := db_rI_n rfl hk (by decide)
theorem db_h_277 {s : db_S} {k : Nat} {x : Int32} (hk : k < 12) : db_wI s 277 (nI k) x = some (db_uI s 277 k x) := db_wI_n rfl hk (by decide)

theorem db_g_278 {s : db_S} {k : Nat} (hk : k < 4) : db_rI s 278 (nI k) = some (s.1 278 k) := db_rI_n rfl hk (by decide)
theorem db_h_278 {s : db_S} {k : Nat} {x : Int32} (hk : k < 4) : db_wI s 278 (nI k) x = some (db_uI s 278 k x) := db_wI_n rfl hk (by decide)

theorem db_g_279 {s : db_S} {k : Nat} (hk : k < 4) : db_rI s 279 (nI k) = some (s.1 279 k) := db_rI_n rfl hk (by decide)
theorem db_h_279 {s : db_S} {k : Nat} {x : Int32} (hk : k < 4) : db_wI s 279 (nI k) x = some (db_uI s 279 k x) := db_wI_n rfl hk (by decide)

theorem db_g_280 {s : db_S} {k : Nat} (hk : k < 20) : db_rI s 280 (nI k) = some (s.1 280 k) := db_rI_n rfl hk (by decide)
theorem db_h_280 {s : db_S} {k : Nat} {x : Int32} (hk : k < 20) : db_wI s 280 (nI k) x = some (db_uI s 280 k x) := db_wI_n rfl hk (by decide)

theorem db_g_281 {s : db_S} {k : Nat} (hk : k < 20) : db_rI s 281 (nI k) = some (s.1 281 k) := db_rI_n rfl hk (by decide)
theorem db_h_281 {s : db_S} {k : Nat} {x : Int32} (hk : k < 20) : db_wI s 281 (nI k) x = some (db_uI s 281 k x) := db_wI_n rfl hk (by decide)

theorem db_g_283 {s : db_S} {k : Nat} (hk : k < 8) : db_rI s 283 (nI k) = some (s.1 283 k) := db_rI_n rfl hk (by decide)
theorem db_h_283 {s : db_S} {k : Nat} {x : Int32} (hk : k < 8) : db_wI s 283 (nI k) x = some (db_uI s 283 k x) := db_wI_n rfl hk (by decide)

theorem db_g_285 {s : db_S} {k : Nat} (hk : k < 5) : db_rI s 285 (nI k) = some (s.1 285 k) := db_rI_n rfl hk (by decide)
theorem db_h_285 {s : db_S} {k : Nat} {x : Int32} (hk : k < 5) : db_wI s 285 (nI k) x = some (db_uI s 285 k x) := db_wI_n rfl hk (by decide)

theorem db_g_286 {s : db_S} {k : Nat} (hk : k < 5) : db_rI s 286 (nI k) = some (s.1 286 k) := db_rI_n rfl hk (by decide)
theorem db_h_286 {s : db_S} {k : Nat} {x : Int32} (hk : k < 5) : db_wI s 286 (nI k) x = some (db_uI s 286 k x) := db_wI_n rfl hk (by decide)

theorem db_g_288 {s : db_S} {k : Nat} (hk : k < 12) : db_rI s 288 (nI k) = some (s.1 288 k) := db_rI_n rfl hk (by decide)
theorem db_h_288 {s : db_S} {k : Nat} {x : Int32} (hk : k < 12) : db_wI s 288 (nI k) x = some (db_uI s 288 k x) := db_wI_n rfl hk (by decide)

theorem db_g_289 {s : db_S} {k : Nat} (hk : k < 4) : db_rI s 289 (nI k) = some (s.1 289 k) := db_rI_n rfl hk (by decide)
theorem db_h_289 {s : db_S} {k : Nat} {x : Int32} (hk : k < 4) : db_wI s 289 (nI k) x = some (db_uI s 289 k x) := db_wI_n rfl hk (by decide)

theorem db_g_290 {s : db_S} {k : Nat} (hk : k < 60) : db_rI s 290 (nI k) = some (s.1 290 k) := db_rI_n rfl hk (by decide)
theorem db_h_290 {s : db_S} {k : Nat} {x : Int32} (hk : k < 60) : db_wI s 290 (nI k) x = some (db_uI s 290 k x) := db_wI_n rfl hk (by decide)

theorem db_g_670 {s : db_S} {k : Nat} (hk : k < 4) : db_rI s 670 (nI k) = some (s.1 670 k) := db_rI_n rfl hk (by decide)
theorem db_h_670 {s : db_S} {k : Nat} {x : Int32} (hk : k < 4) : db_wI s 670 (nI k) x = some (db_uI s 670 k x) := db_wI_n rfl hk (by decide)

theorem db_g_671 {s : db_S} {k : Nat} (hk : k < 4) : db_rI s 671 (nI k) = some (s.1 671 k) := db_rI_n rfl hk (by decide)
theorem db_h_671 {s : db_S} {k : Nat} {x : Int32} (hk : k < 4) : db_wI s 671 (nI k) x = some (db_uI s 671 k x) := db_wI_n rfl hk (by decide)

theorem db_g_672 {s : db_S} {k : Nat} (hk : k < 240) : db_rL s 672 (nI k) = some (s.2 672 k) := db_rL_n rfl hk (by decide)
theorem db_h_672 {s : db_S} {k : Nat} {x : Int64} (hk : k < 240) : db_wL s 672 (nI k) x = some (db_uL s 672 k x) := db_wL_n rfl hk (by decide)

theorem db_g_673 {s : db_S} {k : Nat} (hk : k < 900) : db_rB s 673 (nI k) = some (s.1 673 k) := db_rB_n rfl hk (by decide)
theorem db_h_673 {s : db_S} {k : Nat} {x : Int32} (hk : k < 900) : db_wB s 673 (nI k) x = some (db_uI s 673 k x.toInt8.toInt32) := db_wB_n rfl hk (by decide)

theorem db_g_674 {s : db_S} {k : Nat} (hk : k < 2400) : db_rI s 674 (nI k) = some (s.1 674 k) := db_rI_n rfl hk (by decide)
theorem db_h_674 {s : db_S} {k : Nat} {x : Int32} (hk : k < 2400) : db_wI s 674 (nI k) x = some (db_uI s 674 k x) := db_wI_n rfl hk (by decide)

theorem db_g_675 {s : db_S} {k : Nat} (hk : k < 199) : db_rI s 675 (nI k) = some (s.1 675 k) := db_rI_n rfl hk (by decide)
theorem db_h_675 {s : db_S} {k : Nat} {x : Int32} (hk : k < 199) : db_wI s 675 (nI k) x = some (db_uI s 675 k x) := db_wI_n rfl hk (by decide)

theorem db_g_676 {s : db_S} {k : Nat} (hk : k < 185) : db_rL s 676 (nI k) = some (s.2 676 k) := db_rL_n rfl hk (by decide)
theorem db_h_676 {s : db_S} {k : Nat} {x : Int64} (hk : k < 185) : db_wL s 676 (nI k) x = some (db_uL s 676 k x) := db_wL_n rfl hk (by decide)

theorem db_g_677 {s : db_S} {k : Nat} (hk : k < 12) : db_rI s 677 (nI k) = some (s.1 677 k) := db_rI_n rfl hk (by decide)
theorem db_h_677 {s : db_S} {k : Nat} {x : Int32} (hk : k < 12) : db_wI s 677 (nI k) x = some (db_uI s 677 k x) := db_wI_n rfl hk (by decide)

theorem db_g_678 {s : db_S} {k : Nat} (hk : k < 8) : db_rI s 678 (nI k) = some (s.1 678 k) := db_rI_n rfl hk (by decide)
theorem db_h_678 {s : db_S} {k : Nat} {x : Int32} (hk : k < 8) : db_wI s 678 (nI k) x = some (db_uI s 678 k x) := db_wI_n rfl hk (by decide)

theorem db_g_679 {s : db_S} {k : Nat} (hk : k < 8) : db_rI s 679 (nI k) = some (s.1 679 k) := db_rI_n rfl hk (by decide)
theorem db_h_679 {s : db_S} {k : Nat} {x : Int32} (hk : k < 8) : db_wI s 679 (nI k) x = some (db_uI s 679 k x) := db_wI_n rfl hk (by decide)

theorem db_g_680 {s : db_S} {k : Nat} (hk : k < 8) : db_rI s 680 (nI k) = some (s.1 680 k) := db_rI_n rfl hk (by decide)
theorem db_h_680 {s : db_S} {k : Nat} {x : Int32} (hk : k < 8) : db_wI s 680 (nI k) x = some (db_uI s 680 k x) := db_wI_n rfl hk (by decide)

theorem db_g_681 {s : db_S} {k : Nat} (hk : k < 7201) : db_rL s 681 (nI k) = some (s.2 681 k) := db_rL_n rfl hk (by decide)
theorem db_h_681 {s : db_S} {k : Nat} {x : Int64} (hk : k < 7201) : db_wL s 681 (nI k) x = some (db_uL s 681 k x) := db_wL_n rfl hk (by decide)

theorem db_g_682 {s : db_S} {k : Nat} (hk : k < 7201) : db_rL s 682 (nI k) = some (s.2 682 k) := db_rL_n rfl hk (by decide)
theorem db_h_682 {s : db_S} {k : Nat} {x : Int64} (hk : k < 7201) : db_wL s 682 (nI k) x = some (db_uL s 682 k x) := db_wL_n rfl hk (by decide)

theorem db_g_683 {s : db_S} {k : Nat} (hk : k < 5) : db_rI s 683 (nI k) = some (s.1 683 k) := db_rI_n rfl hk (by decide)
theorem db_h_683 {s : db_S} {k : Nat} {x : Int32} (hk : k < 5) : db_wI s 683 (nI k) x = some (db_uI s 683 k x) := db_wI_n rfl hk (by decide)

theorem db_g_684 {s : db_S} {k : Nat} (hk : k < 199) : db_rI s 684 (nI k) = some (s.1 684 k) := db_rI_n rfl hk (by decide)
theorem db_h_684 {s : db_S} {k : Nat} {x : Int32} (hk : k < 199) : db_wI s 684 (nI k) x = some (db_uI s 684 k x) := db_wI_n rfl hk (by decide)

theorem db_ln_e : db_ln 11 = some (nI 4) ∧ db_ln 12 = some (nI 4) ∧ db_ln 14 = some (nI 900) ∧ db_ln 15 = some (nI 28) ∧ db_ln 16 = some (nI 901) ∧ db_ln 17 = some (nI 901) ∧ db_ln 18 = some (nI 901) ∧ db_ln 19 = some (nI 901) ∧ db_ln 21 = some (nI 6) ∧ db_ln 22 = some (nI 4) ∧ db_ln 23 = some (nI 3) ∧ db_ln 59 = some (nI 8) ∧ db_ln 60 = some (nI 8) ∧ db_ln 61 = some (nI 8) ∧ db_ln 62 = some (nI 12) ∧ db_ln 63 = some (nI 12) ∧ db_ln 75 = some (nI 10) ∧ db_ln 77 = some (nI 37) ∧ db_ln 78 = some (nI 37) ∧ db_ln 79 = some (nI 12) ∧ db_ln 76 = some (nI 37) ∧ db_ln 81 = some (nI 12) ∧ db_ln 82 = some (nI 4) ∧ db_ln 147 = some (nI 6) ∧ db_ln 148 = some (nI 4) ∧ db_ln 149 = some (nI 3) ∧ db_ln 185 = some (nI 8) ∧ db_ln 186 = some (nI 8) ∧ db_ln 187 = some (nI 8) ∧ db_ln 188 = some (nI 12) ∧ db_ln 189 = some (nI 12) ∧ db_ln 201 = some (nI 10) ∧ db_ln 202 = some (nI 37) ∧ db_ln 203 = some (nI 37) ∧ db_ln 204 = some (nI 37) ∧ db_ln 205 = some (nI 12) ∧ db_ln 206 = some (nI 1) ∧ db_ln 270 = some (nI 3) ∧ db_ln 272 = some (nI 8) ∧ db_ln 273 = some (nI 8) ∧ db_ln 275 = some (nI 4) ∧ db_ln 277 = some (nI 12) ∧ db_ln 278 = some (nI 4) ∧ db_ln 279 = some (nI 4) ∧ db_ln 280 = some (nI 20) ∧ db_ln 281 = some (nI 20) ∧ db_ln 283 = some (nI 8) ∧ db_ln 285 = some (nI 5) ∧ db_ln 286 = some (nI 5) ∧ db_ln 288 = some (nI 12) ∧ db_ln 289 = some (nI 4) ∧ db_ln 290 = some (nI 60) ∧ db_ln 670 = some (nI 4) ∧ db_ln 671 = some (nI 4) ∧ db_ln 672 = some (nI 240) ∧ db_ln 673 = some (nI 900) ∧ db_ln 674 = some (nI 2400) ∧ db_ln 675 = some (nI 199) ∧ db_ln 676 = some (nI 185) ∧ db_ln 677 = some (nI 12) ∧ db_ln 678 = some (nI 8) ∧ db_ln 679 = some (nI 8) ∧ db_ln 680 = some (nI 8) ∧ db_ln 681 = some (nI 7201) ∧ db_ln 682 = some (nI 7201) ∧ db_ln 683 = some (nI 5) ∧ db_ln 684 = some (nI 199) ∧ db_ln 6 = some (nI 4) ∧ db_ln 24 = some (nI 12) ∧ db_ln 37 = some (nI 12) ∧ db_ln 50 = some (nI 8) ∧ db_ln 64 = some (nI 10) ∧ db_ln 84 = some (nI 60) ∧ db_ln 150 = some (nI 12) ∧ db_ln 163 = some (nI 12) ∧ db_ln 176 = some (nI 8) ∧ db_ln 190 = some (nI 10) ∧ db_ln 209 = some (nI 60) := by
  refine ⟨rfl, rfl, rfl, rfl, rfl, rfl, rfl, rfl, rfl, rfl, rfl, rfl, rfl, rfl, rfl, rfl, rfl, rfl, rfl, rfl, rfl, rfl, rfl, rfl, rfl, rfl, rfl, rfl, rfl, rfl, rfl, rfl, rfl, rfl, rfl, rfl, rfl, rfl, rfl, rfl, rfl, rfl, rfl, rfl, rfl, rfl, rfl, rfl, rfl, rfl, rfl, rfl, rfl, rfl, rfl, rfl, rfl, rfl, rfl, rfl, rfl, rfl, rfl, rfl, rfl, rfl, rfl, rfl, rfl, rfl, rfl, rfl, rfl, rfl, rfl, rfl, rfl, rfl⟩

theorem db_n_7 : ∀ r, r < 4 → db_ln (7 + r) = some (nI 60) := by decide

theorem db_n_25 : ∀ r, r < 12 → db_ln (25 + r) = some (nI 6) := by decide

theorem db_n_38 : ∀ r, r < 12 → db_ln (38 + r) = some (nI 2) := by decide

theorem db_n_51 : ∀ r, r < 8 → db_ln (51 + r) = some (nI 6) := by decide

theorem db_n_65 : ∀ r, r < 10 → db_ln (65 + r) = some (nI 12) := by decide

theorem db_n_85 : ∀ r, r < 60 → db_ln (85 + r) = some (nI 6) := by decide

theorem db_n_151 : ∀ r, r < 12 → db_ln (151 + r) = some (nI 6) := by decide

theorem db_n_164 : ∀ r, r < 12 → db_ln (164 + r) = some (nI 2) := by decide

theorem db_n_177 : ∀ r, r < 8 → db_ln (177 + r) = some (nI 6) := by decide

theorem db_n_191 : ∀ r, r < 10 → db_ln (191 + r) = some (nI 12) := by decide

theorem db_n_210 : ∀ r, r < 60 → db_ln (210 + r) = some (nI 6) := by decide
