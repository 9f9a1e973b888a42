/-! A RUN SEES ONLY THE CELLS THERE ARE -/
def dy_E (e e' : db_E) : Prop := e = e' ∨ ∃ k n f f', e = .inl (k, n, .inr (.inr (.inr (.inr f)))) ∧ e' = .inl (k, n, .inr (.inr (.inr (.inr f')))) ∧ ∀ j, j < n → f j = f' j
def dy_H (μ ν : db_H) : Prop := μ.1 = ν.1 ∧ μ.2.1 = ν.2.1 ∧ ∀ i, 4 ≤ i → i < μ.1 → dy_E (μ.2.2 i) (ν.2.2 i)
def dy_L {α : Type} (R : α → α → Prop) (x y : Option α) : Prop := ∀ a, x = some a → ∃ b, y = some b ∧ R a b
def dy_R (c c' : db_R) : Prop := c.1 = c'.1 ∧ c.2.1 = c'.2.1 ∧ c.2.2.1 = c'.2.2.1 ∧ dy_H c.2.2.2 c'.2.2.2
def dy_P (q q' : Nat × db_H) : Prop := q.1 = q'.1 ∧ dy_H q.2 q'.2
section DYC
variable {α β : Type} {R : α → α → Prop} {S : β → β → Prop} {μ ν : db_H} {a : Nat} {X X' : db_X}
theorem dy_E_r {e : db_E} : dy_E e e := .inl rfl
theorem dy_E_t {e e1 e2 : db_E} (h : dy_E e e1) (k : dy_E e1 e2) : dy_E e e2 := by
  rcases h with rfl | ⟨k1, n, f, f', rfl, rfl, h⟩
  · exact k
  · rcases k with rfl | ⟨k2, n2, g, g', e1, rfl, k⟩
    · exact .inr ⟨_, _, _, _, rfl, rfl, h⟩
    · cases e1
      exact .inr ⟨_, _, _, _, rfl, rfl, fun j hj => (h j hj).trans (k j hj)⟩
theorem dy_H_t {ρ : db_H} (h : dy_H μ ν) (k : dy_H ν ρ) : dy_H μ ρ := ⟨h.1.trans k.1, h.2.1.trans k.2.1, fun i h1 h2 => dy_E_t (h.2.2 i h1 h2) (k.2.2 i h1 (by rw [← h.1]; exact h2))⟩
theorem dy_Ln {y : Option α} : dy_L R none y := fun a h => by cases h
theorem dy_Ls {a b : α} (h : R a b) : dy_L R (some a) (some b) := fun _ e => by cases e; exact ⟨b, rfl, h⟩
theorem dy_Lb {x : Option β} {f g : β → Option α} (h : ∀ t, dy_L R (f t) (g t)) : dy_L R (x.bind f) (x.bind g) := by
  cases x with
  | none => exact dy_Ln
  | some t => exact h t
theorem dy_LB {x y : Option β} {f g : β → Option α} (hx : dy_L S x y) (h : ∀ t t', S t t' → dy_L R (f t) (g t')) : dy_L R (x.bind f) (y.bind g) := by
  cases x with
  | none => exact dy_Ln
  | some t =>
    obtain ⟨t', e, hS⟩ := hx t rfl
    rw [e]
    exact h t t' hS
theorem dy_Lc {c : Bool} {x y x' y' : Option α} (h1 : dy_L R x y) (h2 : dy_L R x' y') : dy_L R (cond c x x') (cond c y y') := by
  cases c
  · exact h2
  · exact h1
theorem dy_sI {st : List Value} {f g : Int32 → List Value → Option α} (h : ∀ x r, dy_L R (f x r) (g x r)) : dy_L R (db_sI st f) (db_sI st g) := by
  unfold db_sI
  split
  · exact h _ _
  · exact dy_Ln
theorem dy_sII {st : List Value} {f g : Int32 → Int32 → List Value → Option α} (h : ∀ x y r, dy_L R (f x y r) (g x y r)) : dy_L R (db_sII st f) (db_sII st g) := by
  unfold db_sII
  split
  · exact h _ _ _
  · exact dy_Ln
theorem dy_sL {st : List Value} {f g : Int64 → List Value → Option α} (h : ∀ x r, dy_L R (f x r) (g x r)) : dy_L R (db_sL st f) (db_sL st g) := by
  unfold db_sL
  split
  · exact h _ _
  · exact dy_Ln
theorem dy_sLL {st : List Value} {f g : Int64 → Int64 → List Value → Option α} (h : ∀ x y r, dy_L R (f x y r) (g x y r)) : dy_L R (db_sLL st f) (db_sLL st g) := by
  unfold db_sLL
  split
  · exact h _ _ _
  · exact dy_Ln
theorem dy_sLI {st : List Value} {f g : Int64 → Int32 → List Value → Option α} (h : ∀ x y r, dy_L R (f x y r) (g x y r)) : dy_L R (db_sLI st f) (db_sLI st g) := by
  unfold db_sLI
  split
  · exact h _ _ _
  · exact dy_Ln
theorem dy_sR {st : List Value} {f g : Nat → List Value → Option α} (h : ∀ x r, dy_L R (f x r) (g x r)) : dy_L R (db_sR st f) (db_sR st g) := by
  unfold db_sR
  split
  · exact h _ _
  · exact dy_Ln
theorem dy_sV {st : List Value} {f g : Value → List Value → Option α} (h : ∀ x r, dy_L R (f x r) (g x r)) : dy_L R (db_sV st f) (db_sV st g) := by
  unfold db_sV
  split
  · exact h _ _
  · exact dy_Ln
theorem dy_sVV {st : List Value} {f g : Value → Value → List Value → Option α} (h : ∀ x y r, dy_L R (f x y r) (g x y r)) : dy_L R (db_sVV st f) (db_sVV st g) := by
  unfold db_sVV
  split
  · exact h _ _ _
  · exact dy_Ln
theorem dy_sVR {st : List Value} {f g : Value → Nat → List Value → Option α} (h : ∀ x y r, dy_L R (f x y r) (g x y r)) : dy_L R (db_sVR st f) (db_sVR st g) := by
  unfold db_sVR
  split
  · exact h _ _ _
  · exact dy_Ln
theorem dy_sRI {st : List Value} {f g : Nat → Int32 → List Value → Option α} (h : ∀ x y r, dy_L R (f x y r) (g x y r)) : dy_L R (db_sRI st f) (db_sRI st g) := by
  unfold db_sRI
  split
  · exact h _ _ _
  · exact dy_Ln
theorem dy_sRIV {st : List Value} {f g : Nat → Int32 → Value → List Value → Option α} (h : ∀ x y z r, dy_L R (f x y z r) (g x y z r)) : dy_L R (db_sRIV st f) (db_sRIV st g) := by
  unfold db_sRIV
  split
  · exact h _ _ _ _
  · exact dy_Ln
theorem dy_s5 {st : List Value} {f g : Nat → Int32 → Nat → Int32 → Int32 → List Value → Option α} (h : ∀ x y z u v r, dy_L R (f x y z u v r) (g x y z u v r)) : dy_L R (db_s5 st f) (db_s5 st g) := by
  unfold db_s5
  split
  · exact h _ _ _ _ _ _
  · exact dy_Ln
theorem dy_gI {v : Option Value} {f g : Int32 → Option α} (h : ∀ x, dy_L R (f x) (g x)) : dy_L R (db_gI v f) (db_gI v g) := by
  unfold db_gI
  split
  · exact h _
  · exact dy_Ln
theorem dy_gL {v : Option Value} {f g : Int64 → Option α} (h : ∀ x, dy_L R (f x) (g x)) : dy_L R (db_gL v f) (db_gL v g) := by
  unfold db_gL
  split
  · exact h _
  · exact dy_Ln
theorem dy_gR {v : Option Value} {f g : Nat → Option α} (h : ∀ x, dy_L R (f x) (g x)) : dy_L R (db_gR v f) (db_gR v g) := by
  unfold db_gR
  split
  · exact h _
  · exact dy_Ln
theorem dy_in (h : dy_H μ ν) (hc : (Nat.ble 4 a && Nat.blt a ν.1) = true) : dy_E (μ.2.2 a) (ν.2.2 a) := by
  rw [Bool.and_eq_true] at hc
  exact h.2.2 a (Nat.le_of_ble_eq_true hc.1) (by rw [h.1]; exact Nat.le_of_ble_eq_true hc.2)
theorem dy_obj (h : dy_H μ ν) : db_obj μ a = db_obj ν a := by
  unfold db_obj
  rw [h.1]
  cases hc : (Nat.ble 4 a && Nat.blt a ν.1) with
  | false => rfl
  | true =>
    rcases dy_in h hc with e | ⟨k, n, f, f', e, e', -⟩
    · rw [e]
    · rw [e, e']
theorem dy_arr (h : dy_H μ ν) (a : Nat) : db_arr μ a = db_arr ν a ∨ ∃ k n f f', db_arr μ a = some (k, n, .inr (.inr (.inr (.inr f)))) ∧ db_arr ν a = some (k, n, .inr (.inr (.inr (.inr f')))) ∧ ∀ j, j < n → f j = f' j := by
  unfold db_arr
  rw [h.1]
  cases hc : (Nat.ble 4 a && Nat.blt a ν.1) with
  | false => exact .inl rfl
  | true =>
    rcases dy_in h hc with e | ⟨k, n, f, f', e, e', hf⟩
    · exact .inl (by rw [e])
    · exact .inr ⟨k, n, f, f', by rw [e]; rfl, by rw [e']; rfl, hf⟩
theorem dy_ald {k : Nat} {j : Int32} (h : dy_H μ ν) : db_ald k μ a j = db_ald k ν a j := by
  unfold db_ald
  rcases dy_arr h a with e | ⟨k', n, f, f', e, e', hf⟩
  · rw [e]
  · rw [e, e']
    dsimp only
    cases hc : (Nat.beq k' k && db_in j n) with
    | false => rfl
    | true =>
      rw [Bool.and_eq_true] at hc
      have h2 := hc.2
      unfold db_in at h2
      rw [Bool.and_eq_true, decide_eq_true_eq] at h2
      rw [hf _ h2.2]
theorem dy_set {e e' : db_E} (h : dy_H μ ν) (he : dy_E e e') : dy_H (db_set μ a e) (db_set ν a e') := ⟨h.1, h.2.1, fun i h1 h2 => by
  show dy_E (cond (Nat.beq i a) e (μ.2.2 i)) (cond (Nat.beq i a) e' (ν.2.2 i))
  cases Nat.beq i a
  · exact h.2.2 i h1 h2
  · exact he⟩
theorem dy_ast {k : Nat} {j : Int32} {v : Value} (h : dy_H μ ν) : dy_L dy_H (db_ast k μ a j v) (db_ast k ν a j v) := by
  unfold db_ast
  rcases dy_arr h a with e | ⟨k', n, f, f', e, e', hf⟩
  · rw [e]
    cases db_arr ν a with
    | none => exact dy_Ln
    | some q =>
      obtain ⟨k', n, c⟩ := q
      refine dy_Lc ?_ dy_Ln
      split
      · exact dy_Lc (dy_Ls (dy_set h dy_E_r)) dy_Ln
      · exact dy_Lc (dy_Ls (dy_set h dy_E_r)) dy_Ln
      · exact dy_Ln
  · rw [e, e']
    exact dy_Lc dy_Ln dy_Ln
theorem dy_asq {j : Int32} {t : Nat} (h : dy_H μ ν) : dy_L dy_H (db_asq μ a j t) (db_asq ν a j t) := by
  unfold db_asq
  rw [dy_obj h (a := t)]
  rcases dy_arr h a with e | ⟨k', n, f, f', e, e', hf⟩
  · rw [e]
    split
    · exact dy_Lc (dy_Ls (dy_set h dy_E_r)) dy_Ln
    · exact dy_Ln
  · rw [e, e']
    cases db_obj ν t with
    | none => exact dy_Ln
    | some q =>
      obtain ⟨ci, fs⟩ := q
      refine dy_Lc (dy_Ls (dy_set h (.inr ⟨_, _, _, _, rfl, rfl, fun i hi => ?_⟩))) dy_Ln
      unfold va_up
      split
      · rfl
      · exact hf i hi
theorem dy_getf {mr : db_MR} {ix : Nat} (h : dy_H μ ν) : db_getf mr ix μ a = db_getf mr ix ν a := by
  unfold db_getf
  rw [dy_obj h]
theorem dy_putf {mr : db_MR} {ix : Nat} {v : Value} (h : dy_H μ ν) : dy_L dy_H (db_putf mr ix μ a v) (db_putf mr ix ν a v) := by
  unfold db_putf
  rw [dy_obj h]
  split
  · split
    · exact dy_Lc (dy_Ls (dy_set h dy_E_r)) dy_Ln
    · exact dy_Ln
  · exact dy_Ln
theorem dy_cpy {sp dp n : Int32} {d : Nat} (h : dy_H μ ν) : dy_L dy_H (db_cpy μ a sp d dp n) (db_cpy ν a sp d dp n) := by
  unfold db_cpy
  rcases dy_arr h a with e | ⟨k', n', f, f', e, e', hf⟩
  · rcases dy_arr h d with g | ⟨k2, n2, f2, f2', g, g', hf2⟩
    · rw [e, g]
      split
      · refine dy_Lc ?_ dy_Ln
        split
        · exact dy_Lc (dy_Ls (dy_set h dy_E_r)) dy_Ln
        · exact dy_Lc (dy_Ls (dy_set h dy_E_r)) dy_Ln
        · exact dy_Ln
      · exact dy_Ln
    · rw [e, g, g']
      cases db_arr ν a with
      | none => exact dy_Ln
      | some q =>
        obtain ⟨k3, n3, c⟩ := q
        refine dy_Lc ?_ dy_Ln
        rcases c with c | c | c
        · exact dy_Ln
        · exact dy_Ln
        · exact dy_Ln
  · rw [e, e']
    cases hd : db_arr μ d with
    | none => exact dy_Ln
    | some q =>
      obtain ⟨k3, n3, c⟩ := q
      rcases dy_arr h d with g | ⟨k2, n2, f2, f2', g, g', hf2⟩
      · rw [← g, hd]
        exact dy_Lc dy_Ln dy_Ln
      · rw [g']
        rw [g] at hd
        cases hd
        exact dy_Lc dy_Ln dy_Ln
theorem dy_up {m sl N : Nat} {h h' : Nat → db_E} {e : db_E} (hh : ∀ i, 4 ≤ i → i < m → dy_E (h i) (h' i)) : dy_P (m, (m + 1, sl + N, db_up h m e)) (m, (m + 1, sl + N, db_up h' m e)) := ⟨rfl, rfl, rfl, fun i h1 h2 => by
  show dy_E (cond (Nat.beq i m) e (h i)) (cond (Nat.beq i m) e (h' i))
  have h2 : i < m + 1 := h2
  cases hc : Nat.beq i m with
  | true => exact dy_E_r
  | false => exact hh i h1 (by have : i ≠ m := fun h => by rw [h, Nat.beq_refl] at hc; cases hc
                               omega)⟩
theorem dy_new {mr : db_MR} {ix : Nat} (h : dy_H μ ν) : dy_L dy_P (db_new mr ix μ) (db_new mr ix ν) := by
  obtain ⟨m, sl, g⟩ := μ
  obtain ⟨m', sl', g'⟩ := ν
  obtain ⟨h1, h2, h3⟩ := h
  dsimp only at h1 h2 h3
  subst h1
  subst h2
  unfold db_new
  split
  · exact dy_Ls (dy_up h3)
  · exact dy_Ln
theorem dy_newa {t : ArrayType} {x : Int32} (h : dy_H μ ν) : dy_L dy_P (db_newa t x μ) (db_newa t x ν) := by
  obtain ⟨m, sl, g⟩ := μ
  obtain ⟨m', sl', g'⟩ := ν
  obtain ⟨h1, h2, h3⟩ := h
  dsimp only at h1 h2 h3
  subst h1
  subst h2
  unfold db_newa
  refine dy_Lc ?_ dy_Ln
  split
  · exact dy_Ls (dy_up h3)
  · exact dy_Ls (dy_up h3)
  · exact dy_Ls (dy_up h3)
  · exact dy_Ln
theorem dy_anew {mr : db_MR} {ix : Nat} {x : Int32} (h : dy_H μ ν) : dy_L dy_P (db_anew mr ix x μ) (db_anew mr ix x ν) := by
  obtain ⟨m, sl, g⟩ := μ
  obtain ⟨m', sl', g'⟩ := ν
  obtain ⟨h1, h2, h3⟩ := h
  dsimp only at h1 h2 h3
  subst h1
  subst h2
  unfold db_anew
  split
  · exact dy_Lc (dy_Ls (dy_up h3)) dy_Ln
  · exact dy_Ln
theorem dy_mnew {mr : db_MR} {ix : Nat} {x y : Int32} (h : dy_H μ ν) : dy_L dy_P (db_mnew mr ix x y μ) (db_mnew mr ix x y ν) := by
  obtain ⟨m, sl, g⟩ := μ
  obtain ⟨m', sl', g'⟩ := ν
  obtain ⟨h1, h2, h3⟩ := h
  dsimp only at h1 h2 h3
  subst h1
  subst h2
  unfold db_mnew
  split
  · refine dy_Lc (dy_Ls ⟨rfl, rfl, rfl, fun i i1 i2 => ?_⟩) dy_Ln
    dsimp only at i2 ⊢
    unfold db_upr
    cases hc : (Nat.ble (m + 1) i && Nat.blt i (m + 1 + x.toNatClampNeg)) with
    | true => exact dy_E_r
    | false =>
      show dy_E (db_up g m _ i) (db_up g' m _ i)
      unfold db_up
      cases hc2 : Nat.beq i m with
      | true => exact dy_E_r
      | false =>
        refine h3 i i1 ?_
        have n1 : i ≠ m := fun h => by rw [h, Nat.beq_refl] at hc2; cases hc2
        have n2 : ¬ (m + 1 ≤ i) := fun h => by
          rw [Nat.ble_eq_true_of_le h, Bool.true_and] at hc
          have : Nat.blt i (m + 1 + x.toNatClampNeg) = true := Nat.ble_eq_true_of_le i2
          rw [this] at hc
          cases hc
        omega
  · exact dy_Ln
theorem dy_len {t : Nat → Option α} (h : dy_H μ ν) : (match db_arr μ a with
    | some (k, n, _) => cond (Nat.ble k 7) (t n) none
    | none => none) = (match db_arr ν a with
    | some (k, n, _) => cond (Nat.ble k 7) (t n) none
    | none => none) := by
  rcases dy_arr h a with e | ⟨k', n, f, f', e, e', hf⟩
  · rw [e]
  · rw [e, e']
theorem dy_cal {mr : db_MR} {i : Instr} {st : List Value} (h : dy_H μ ν) : db_cal mr i st μ = db_cal mr i st ν := by
  unfold db_cal
  cases i <;> first | rfl | (dsimp only; split; (split; (rw [dy_obj h]); rfl); rfl)
end DYC
