/-! TOKENS of a text, as functions -/
def dv_lt (y : Int32) : Bool := decide (97 ≤ y.toInt) && decide (y.toInt ≤ 122)
def dv_dg (y : Int32) : Bool := decide (48 ≤ y.toInt) && decide (y.toInt ≤ 57)
def dv_bl (y : Int32) : Bool := decide (y = nI 10) || decide (y = nI 32)
def dv_sg (y : Int32) : Bool := decide (y = nI 59) || (decide (y = nI 60) || (decide (y = nI 61) || decide (y = nI 62)))
/-- from p on as long as g holds -/
def dv_rn (g : Nat → Bool) : Nat → Nat → Nat
  | 0, p => p
  | m + 1, p => if g p = true then dv_rn g m (p + 1) else p
theorem dv_rn_eq {g : Nat → Bool} : ∀ {m p q : Nat}, p ≤ q → q - p ≤ m → (∀ j, p ≤ j → j < q → g j = true) → g q = false → dv_rn g m p = q
  | 0, p, q, h1, h2, _, _ => by rw [dv_rn]; omega
  | m + 1, p, q, h1, h2, h3, h4 => by
    rw [dv_rn]
    by_cases e : p = q
    · subst e; rw [if_neg (by rw [h4]; decide)]
    · rw [if_pos (h3 p (Nat.le_refl _) (by omega))]
      exact dv_rn_eq (by omega) (by omega) (fun j a b => h3 j (by omega) b) h4
theorem dv_rn_sp {g : Nat → Bool} {n : Nat} (hg : ∀ j, n ≤ j → g j = false) : ∀ (m p : Nat), n ≤ p + m → p ≤ dv_rn g m p ∧ (dv_rn g m p ≤ n ∨ dv_rn g m p = p) ∧ (∀ j, p ≤ j → j < dv_rn g m p → g j = true) ∧ g (dv_rn g m p) = false
  | 0, p, h => by
    rw [dv_rn]
    exact ⟨Nat.le_refl _, .inr rfl, fun j a b => absurd b (by omega), hg p (by omega)⟩
  | m + 1, p, h => by
    rw [dv_rn]
    cases e : g p with
    | false =>
      rw [if_neg (by decide)]
      exact ⟨Nat.le_refl _, .inr rfl, fun j a b => absurd b (by omega), e⟩
    | true =>
      rw [if_pos rfl]
      have hp : p < n := Nat.lt_of_not_le fun h => by
        rw [hg p h] at e
        cases e
      obtain ⟨h1, h2, h3, h4⟩ := dv_rn_sp hg m (p + 1) (by omega)
      refine ⟨by omega, by omega, fun j a b => ?_, h4⟩
      by_cases e2 : j = p
      · subst e2; exact e
      · exact h3 j (by omega) b
def dv_A (x : Nat → Int32) (n p : Nat) : Nat := dv_rn (fun j => decide (j < n) && dv_bl (x j)) 901 p
def dv_W (x : Nat → Int32) (n p : Nat) : Nat := dv_rn (fun j => decide (j < n) && dv_lt (x j)) 901 p
def dv_D (x : Nat → Int32) (n p : Nat) : Nat := dv_rn (fun j => decide (j < n) && dv_dg (x j)) 901 p
/-- behind the token at a place, its kind -/
def dv_Q (x : Nat → Int32) (n a : Nat) : Nat := if n ≤ a then a else if dv_lt (x a) = true then dv_W x n a else if dv_dg (x a) = true then dv_D x n a else a + 1
def dv_K (x : Nat → Int32) (n a : Nat) : Nat := if n ≤ a then 0 else if dv_lt (x a) = true then 1 else if dv_dg (x a) = true then (if dv_D x n a - a ≤ 4 then 2 else 4) else if dv_sg (x a) = true then 3 else 4
def dv_pk (x : Nat → Int32) (a : Nat) : Nat → Nat
  | 0 => 0
  | k + 1 => dv_pk x a k * 32 + ((x (a + k)).toNatClampNeg - 96)
def dv_nu (x : Nat → Int32) (a : Nat) : Nat → Nat
  | 0 => 0
  | k + 1 => dv_nu x a k * 10 + ((x (a + k)).toNatClampNeg - 48)
/-- the letters of a word, the number's value or the sign -/
def dv_L (x : Nat → Int32) (n a : Nat) : Int64 := if dv_W x n a - a ≤ 8 then lN (dv_pk x a (dv_W x n a - a)) else -1
def dv_V (x : Nat → Int32) (n a : Nat) : Int32 := if dv_dg (x a) = true then nI (dv_nu x a (min 4 (dv_D x n a - a))) else x a
def dv_kw (l : Int64) : Int32 := db_o (db_fst (fun i => decide (db_kw i = l)) 28)
def dv_b (x : Nat → Int32) (n : Nat) : Nat → Nat
  | 0 => 0
  | i + 1 => dv_Q x n (dv_A x n (dv_b x n i))
def dv_P (x : Nat → Int32) (n i : Nat) : Nat := dv_A x n (dv_b x n i)
/-- all tokens ahead of the i-th are there -/
def dv_ok (x : Nat → Int32) (n i : Nat) : Prop := ∀ j, j < i → dv_P x n j < n
section DVTK
variable {x : Nat → Int32} {n : Nat}
theorem dv_g0 {f : Int32 → Bool} : ∀ j, n ≤ j → (decide (j < n) && f (x j)) = false := fun j h => by
  rw [decide_eq_false (by omega), Bool.false_and]
theorem dv_A_sp (hn : n ≤ 900) (p : Nat) : p ≤ dv_A x n p ∧ (dv_A x n p ≤ n ∨ dv_A x n p = p) ∧ (∀ j, p ≤ j → j < dv_A x n p → j < n ∧ dv_bl (x j) = true) ∧ (dv_A x n p < n → dv_bl (x (dv_A x n p)) = false) := by
  obtain ⟨h1, h2, h3, h4⟩ := dv_rn_sp (n := n) (dv_g0 (x := x) (f := dv_bl)) 901 p (by omega)
  refine ⟨h1, h2, fun j a b => ?_, fun h => ?_⟩
  · have := h3 j a b
    rw [Bool.and_eq_true, decide_eq_true_eq] at this
    exact this
  · have h4' : (decide (dv_A x n p < n) && dv_bl (x (dv_A x n p))) = false := h4
    rw [decide_eq_true h, Bool.true_and] at h4'
    exact h4'
theorem dv_W_sp (hn : n ≤ 900) (p : Nat) : p ≤ dv_W x n p ∧ (dv_W x n p ≤ n ∨ dv_W x n p = p) ∧ (∀ j, p ≤ j → j < dv_W x n p → j < n ∧ dv_lt (x j) = true) ∧ (dv_W x n p < n → dv_lt (x (dv_W x n p)) = false) := by
  obtain ⟨h1, h2, h3, h4⟩ := dv_rn_sp (n := n) (dv_g0 (x := x) (f := dv_lt)) 901 p (by omega)
  refine ⟨h1, h2, fun j a b => ?_, fun h => ?_⟩
  · have := h3 j a b
    rw [Bool.and_eq_true, decide_eq_true_eq] at this
    exact this
  · have h4' : (decide (dv_W x n p < n) && dv_lt (x (dv_W x n p))) = false := h4
    rw [decide_eq_true h, Bool.true_and] at h4'
    exact h4'
theorem dv_D_sp (hn : n ≤ 900) (p : Nat) : p ≤ dv_D x n p ∧ (dv_D x n p ≤ n ∨ dv_D x n p = p) ∧ (∀ j, p ≤ j → j < dv_D x n p → j < n ∧ dv_dg (x j) = true) ∧ (dv_D x n p < n → dv_dg (x (dv_D x n p)) = false) := by
  obtain ⟨h1, h2, h3, h4⟩ := dv_rn_sp (n := n) (dv_g0 (x := x) (f := dv_dg)) 901 p (by omega)
  refine ⟨h1, h2, fun j a b => ?_, fun h => ?_⟩
  · have := h3 j a b
    rw [Bool.and_eq_true, decide_eq_true_eq] at this
    exact this
  · have h4' : (decide (dv_D x n p < n) && dv_dg (x (dv_D x n p))) = false := h4
    rw [decide_eq_true h, Bool.true_and] at h4'
    exact h4'
theorem dv_W_lt (hn : n ≤ 900) {a : Nat} (ha : a < n) (h : dv_lt (x a) = true) : a < dv_W x n a := by
  obtain ⟨h1, h2, h3, h4⟩ := dv_W_sp (x := x) hn a
  refine Nat.lt_of_not_le fun h5 => ?_
  have e : dv_W x n a = a := by omega
  rw [e] at h4
  rw [h4 ha] at h
  cases h
theorem dv_D_lt (hn : n ≤ 900) {a : Nat} (ha : a < n) (h : dv_dg (x a) = true) : a < dv_D x n a := by
  obtain ⟨h1, h2, h3, h4⟩ := dv_D_sp (x := x) hn a
  refine Nat.lt_of_not_le fun h5 => ?_
  have e : dv_D x n a = a := by omega
  rw [e] at h4
  rw [h4 ha] at h
  cases h
theorem dv_Q_sp (hn : n ≤ 900) {a : Nat} (ha : a < n) : a < dv_Q x n a ∧ dv_Q x n a ≤ n := by
  unfold dv_Q
  rw [if_neg (by omega)]
  by_cases h : dv_lt (x a) = true
  · rw [if_pos h]
    have := dv_W_lt hn ha h
    have := (dv_W_sp (x := x) hn a).2.1
    omega
  · rw [if_neg h]
    by_cases h2 : dv_dg (x a) = true
    · rw [if_pos h2]
      have := dv_D_lt hn ha h2
      have := (dv_D_sp (x := x) hn a).2.1
      omega
    · rw [if_neg h2]
      omega
theorem dv_b_le (hn : n ≤ 900) : ∀ i, dv_b x n i ≤ n ∧ dv_b x n i ≤ dv_P x n i ∧ dv_P x n i ≤ n
  | 0 => by
    have h := dv_A_sp (x := x) hn 0
    show 0 ≤ n ∧ 0 ≤ dv_A x n 0 ∧ dv_A x n 0 ≤ n
    omega
  | i + 1 => by
    obtain ⟨h1, h2, h3⟩ := dv_b_le hn i
    have hb : dv_b x n (i + 1) ≤ n := by
      show dv_Q x n (dv_P x n i) ≤ n
      by_cases e : dv_P x n i < n
      · exact (dv_Q_sp hn e).2
      · unfold dv_Q
        rw [if_pos (by omega)]
        exact h3
    have h := dv_A_sp (x := x) hn (dv_b x n (i + 1))
    refine ⟨hb, h.1, ?_⟩
    show dv_A x n (dv_b x n (i + 1)) ≤ n
    omega
theorem dv_b_s (hn : n ≤ 900) {i : Nat} (h : dv_P x n i < n) : dv_P x n i < dv_b x n (i + 1) := (dv_Q_sp hn h).1
theorem dv_ok_le (hn : n ≤ 900) : ∀ {i : Nat}, dv_ok x n i → i ≤ dv_b x n i
  | 0, _ => Nat.zero_le _
  | i + 1, h => by
    have h1 := dv_ok_le hn (i := i) (fun j hj => h j (by omega))
    have h2 := dv_b_s hn (h i (by omega))
    have h3 := (dv_b_le (x := x) hn i).2.1
    omega
theorem dv_K0 {a : Nat} : dv_K x n a = 0 ↔ n ≤ a := by
  unfold dv_K
  by_cases h : n ≤ a
  · rw [if_pos h]; exact ⟨fun _ => h, fun _ => rfl⟩
  · rw [if_neg h]
    refine ⟨fun e => ?_, fun e => absurd e h⟩
    exfalso
    by_cases h1 : dv_lt (x a) = true
    · rw [if_pos h1] at e; omega
    · rw [if_neg h1] at e
      by_cases h2 : dv_dg (x a) = true
      · rw [if_pos h2] at e
        by_cases h3 : dv_D x n a - a ≤ 4
        · rw [if_pos h3] at e; omega
        · rw [if_neg h3] at e; omega
      · rw [if_neg h2] at e
        by_cases h3 : dv_sg (x a) = true
        · rw [if_pos h3] at e; omega
        · rw [if_neg h3] at e; omega
theorem dv_K4 {a : Nat} : dv_K x n a ≤ 4 := by
  unfold dv_K
  by_cases h : n ≤ a
  · rw [if_pos h]; omega
  · rw [if_neg h]
    by_cases h1 : dv_lt (x a) = true
    · rw [if_pos h1]; omega
    · rw [if_neg h1]
      by_cases h2 : dv_dg (x a) = true
      · rw [if_pos h2]
        by_cases h3 : dv_D x n a - a ≤ 4
        · rw [if_pos h3]; omega
        · rw [if_neg h3]; omega
      · rw [if_neg h2]
        by_cases h3 : dv_sg (x a) = true
        · rw [if_pos h3]; omega
        · rw [if_neg h3]; omega
theorem dv_lt_n {y : Int32} (h : dv_lt y = true) : ∃ c, 97 ≤ c ∧ c ≤ 122 ∧ y = nI c := by
  unfold dv_lt at h
  rw [Bool.and_eq_true, decide_eq_true_eq, decide_eq_true_eq] at h
  obtain ⟨k, k1, k2⟩ := db_ofI (x := y) (n := 123) (by omega) (by omega)
  refine ⟨k, ?_, by omega, k2⟩
  rw [k2, nI_toInt (by omega)] at h
  omega
theorem dv_dg_n {y : Int32} (h : dv_dg y = true) : ∃ c, 48 ≤ c ∧ c ≤ 57 ∧ y = nI c := by
  unfold dv_dg at h
  rw [Bool.and_eq_true, decide_eq_true_eq, decide_eq_true_eq] at h
  obtain ⟨k, k1, k2⟩ := db_ofI (x := y) (n := 58) (by omega) (by omega)
  refine ⟨k, ?_, by omega, k2⟩
  rw [k2, nI_toInt (by omega)] at h
  omega
theorem dv_kw_lt : ∀ i, i < 28 → db_kwl.getD i 0 < 2 ^ 40 := by decide
theorem dv_kw_m1 : ∀ i, i < 28 → ¬ db_kw i = -1 := fun i hi h => by
  have h1 := congrArg Int64.toInt h
  have h2 := dv_kw_lt i hi
  unfold db_kw at h1
  rw [pk_lT (by omega), show (-1 : Int64).toInt = -1 by decide] at h1
  omega
theorem dv_kw_long : dv_kw (-1) = -(nI 1) := by
  unfold dv_kw
  rw [db_fst_none.mpr fun i hi => decide_eq_false (dv_kw_m1 i hi)]
  rfl
/-- the classes of bytes seen as numbers without sign -/
theorem dv_255a : ∀ t : Nat, t < 256 → (Int32.ofInt ((t : Int) - 128) &&& nI 255).toInt = if (t : Int) - 128 < 0 then (t : Int) - 128 + 256 else (t : Int) - 128 := by decide +kernel
theorem dv_255 {y : Int32} (h1 : -128 ≤ y.toInt) (h2 : y.toInt < 128) : (y &&& nI 255).toInt = if y.toInt < 0 then y.toInt + 256 else y.toInt := by
  have h := dv_255a (y.toInt + 128).toNat (by omega)
  rw [show (((y.toInt + 128).toNat : Nat) : Int) - 128 = y.toInt by omega, fb_asI] at h
  exact h
theorem dv_255p {y : Int32} (h1 : 0 ≤ y.toInt) (h2 : y.toInt < 128) : y &&& nI 255 = y := by
  rw [fa_eq, dv_255 (by omega) h2, if_neg (by omega)]
theorem dv_eqn {y : Int32} {k : Nat} (hk : k < 2 ^ 31) : y = nI k ↔ y.toInt = (k : Int) := by rw [fa_eq, nI_toInt hk]
theorem dv_255c {y : Int32} (h1 : -128 ≤ y.toInt) (h2 : y.toInt < 128) : dv_lt (y &&& nI 255) = dv_lt y ∧ dv_dg (y &&& nI 255) = dv_dg y ∧ dv_bl (y &&& nI 255) = dv_bl y ∧ dv_sg (y &&& nI 255) = dv_sg y := by
  by_cases h : 0 ≤ y.toInt
  · rw [dv_255p h h2]
    exact ⟨rfl, rfl, rfl, rfl⟩
  · have e := dv_255 h1 h2
    rw [if_pos (by omega)] at e
    unfold dv_lt dv_dg dv_bl dv_sg
    simp only [dv_eqn (show 10 < 2 ^ 31 by decide), dv_eqn (show 32 < 2 ^ 31 by decide), dv_eqn (show 59 < 2 ^ 31 by decide), dv_eqn (show 60 < 2 ^ 31 by decide), dv_eqn (show 61 < 2 ^ 31 by decide), dv_eqn (show 62 < 2 ^ 31 by decide), e]
    refine ⟨?_, ?_, ?_, ?_⟩
    · rw [decide_eq_false (show ¬ (y.toInt + 256 ≤ 122) by omega), decide_eq_false (show ¬ (97 ≤ y.toInt) by omega), Bool.and_false, Bool.false_and]
    · rw [decide_eq_false (show ¬ (y.toInt + 256 ≤ 57) by omega), decide_eq_false (show ¬ (48 ≤ y.toInt) by omega), Bool.and_false, Bool.false_and]
    · rw [decide_eq_false (by omega), decide_eq_false (by omega), decide_eq_false (by omega), decide_eq_false (by omega)]
    · rw [decide_eq_false (by omega), decide_eq_false (by omega), decide_eq_false (by omega), decide_eq_false (by omega), decide_eq_false (by omega), decide_eq_false (by omega), decide_eq_false (by omega), decide_eq_false (by omega)]
end DVTK
