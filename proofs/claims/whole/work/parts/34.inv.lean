/-! WHAT HOLDS BETWEEN TWO CALLS -/
def db_bk (s : db_S) (q : Nat) : db_C := fun k => if k < 480 then s.1 674 (480 * q + k) else 0
def db_bw (s : db_S) (q : Nat) : Nat → Int64 := fun k => if k < 37 then s.2 676 (37 * q + k) else 0
theorem db_bk_A {s : db_S} : db_A s (db_bk s 0) := fun k hk => by
  unfold db_bk
  rw [if_pos hk, Nat.mul_zero, Nat.zero_add]
/-- a step of the nights: the class's row, the reference's place w -/
def db_SR (R : Nat → Int32) (c : db_C) (w : Nat) : Prop := ∃ k, k ≤ 6 ∧ c w = nI k ∧ R 0 = nI (18 + k) ∧
  (k = 0 → ∃ d, d < db_n c 5 ∧ c (w + 1) = nI d ∧ R 1 = nI d) ∧
  (k ≤ 1 → (∃ p, p < db_n c 1 ∧ c (w + 2) = nI p ∧ R 2 = nI p) ∧ db_O (c (w + 3)) (db_n c 2) ∧ R 3 = c (w + 3)) ∧
  ((k = 2 ∨ k = 3) → ∃ r, r < db_n c 3 ∧ c (w + 1) = nI r ∧ R 1 = nI r) ∧
  (k = 4 → (c (w + 6) = nI 1 ∧ R 2 = -(nI 1) ∧ ∃ r, r < db_n c 3 ∧ c (w + 1) = nI r ∧ R 1 = nI r) ∨
    (c (w + 6) = nI 0 ∧ (∃ p, p < db_n c 1 ∧ c (w + 1) = nI p ∧ R 2 = nI p) ∧ R 4 = c (w + 2) ∧ (-9999 ≤ (c (w + 2)).toInt ∧ (c (w + 2)).toInt ≤ 9999) ∧
      ((c (w + 7) = nI 60 ∧ R 3 = -(nI 1)) ∨ (c (w + 7) = nI 61 ∧ R 3 = nI 0) ∨ (c (w + 7) = nI 62 ∧ R 3 = nI 1)))) ∧
  (k = 5 → ∃ l, 1 ≤ l ∧ l ≤ 99 ∧ c (w + 1) = nI l ∧ R 4 = nI l)
/-- steps i to j in rows a to b; d blocks deep at most -/
def db_PL (R : Nat → Nat → Int32) (c : db_C) : Nat → Nat → Nat → Nat → Nat → Nat → Prop
  | 0, _, i, j, a, b => i = j ∧ a = b
  | f + 1, d, i, j, a, b => (i = j ∧ a = b) ∨ (i < j ∧ ∃ e, i < e ∧ e ≤ j ∧ c (201 + 9 * i + 8) = nI e ∧ db_SR (R a) c (201 + 9 * i) ∧
      (((c (201 + 9 * i) ≠ nI 4 ∧ c (201 + 9 * i) ≠ nI 5) ∧ e = i + 1 ∧ db_PL R c f d e j (a + 1) b) ∨
       ((c (201 + 9 * i) = nI 4 ∨ c (201 + 9 * i) = nI 5) ∧ 0 < d ∧ ∃ g, a < g ∧ R a 5 = nI g ∧ R g 0 = nI 25 ∧ R g 5 = nI a ∧ db_PL R c f (d - 1) (i + 1) e (a + 1) g ∧ db_PL R c f d e j (g + 1) b)))
def db_pr (o : Nat) (s : db_S) : Nat → Nat → Int32 := fun a => if a < 60 then s.1 (o + 2 + a) else fun _ => 0
def db_PN (o : Nat) (s : db_S) (c : db_C) : Prop := (s.1 o 0 = c 199 ∧ (c 199 = nI 0 ∨ c 199 = nI 1)) ∧ ∃ n z, n ≤ 30 ∧ z ≤ 60 ∧ c 200 = nI n ∧ s.1 o 1 = nI n ∧ s.1 o 2 = nI z ∧ db_PL (db_pr o s) c 31 3 0 n 0 z
def db_B1 (U o : Nat) (s : db_S) (c : db_C) (w : Nat → Int64) : Prop := db_Ok U c ∧ db_BR o s c w ∧ db_PN (o + 63) s c
def db_kwl : List Nat := [21243335, 542723566, 642829806, 611717, 474757, 4789293, 24416759, 21678547, 486, 13796819, 398963, 89, 719722099, 6642, 302, 21091364019, 3657363, 109099109, 14982420, 1497, 659105125, 17376724, 762030, 409072, 643568, 5572, 20141, 769614]
def db_kw (i : Nat) : Int64 := lN (db_kwl.getD i 0)
def db_Inv (U : Nat) (s : db_S) : Prop :=
  s.1 4 0 = s.1 669 0 ∧ (s.2 282 0 = s.2 669 2 ∧ s.2 282 1 = s.2 669 3) ∧
  (∀ t, t < 4 → s.1 12 t = s.1 671 t ∧ (s.1 12 t = -(nI 1) ∨ ∃ n, n ≤ 60 ∧ s.1 12 t = nI n ∧ s.1 11 t = s.1 670 t ∧ (∃ q, q < 4 ∧ s.1 670 t = nI q) ∧ ∀ p, p < n → s.2 (7 + t) p = s.2 672 (60 * t + p))) ∧
  (∃ n, n ≤ 900 ∧ s.1 13 1 = nI n ∧ s.1 669 8 = nI n ∧ ∀ k, k < n → s.1 14 k = s.1 673 k ∧ -128 ≤ (s.1 14 k).toInt ∧ (s.1 14 k).toInt < 128) ∧
  (s.1 13 2 = s.1 669 10 ∧ s.1 13 3 = s.1 669 11) ∧
  (∀ i, i < 28 → s.2 15 i = db_kw i) ∧
  db_B1 U 20 s (db_bk s 0) (db_bw s 0) ∧
  (∃ n, n ≤ 3 ∧ s.1 4 15 = nI n ∧ s.1 669 23 = nI n ∧ ∀ q, q < n → db_B1 U (294 + 125 * q) s (db_bk s (q + 1)) (db_bw s (q + 1))) ∧
  (∃ n, n ≤ 4 ∧ s.1 274 1 = nI n ∧ s.1 669 34 = nI n ∧ ∀ k, k < n → s.1 275 k = s.1 680 k) ∧
  (s.1 274 2 = s.1 669 35 ∧ db_O (s.1 274 2) 256) ∧
  (s.1 284 0 = s.1 669 40 ∧ ∀ k, k < 5 → s.1 285 k = s.1 683 k)
/-- what lasts -/
def db_es (a j : Nat) : Prop := (a < 669 ∧ db_ec a j) ∨ (669 ≤ a ∧ db_em a j)
/-- all that lasts is as it was, but the statuses -/
def db_Es (s s' : db_S) : Prop := ∀ a j, db_es a j → ¬ (a = 4 ∧ j = 0) → ¬ (a = 669 ∧ j = 0) → s'.1 a j = s.1 a j ∧ s'.2 a j = s.2 a j
theorem db_PN_c {o : Nat} {s s' : db_S} {c : db_C} (h1 : s'.1 o = s.1 o) (h2 : ∀ a, a < 60 → s'.1 (o + 2 + a) = s.1 (o + 2 + a)) (h : db_PN o s c) : db_PN o s' c := by
  have e : db_pr o s' = db_pr o s := by
    funext a
    unfold db_pr
    by_cases ha : a < 60
    · rw [if_pos ha, if_pos ha, h2 a ha]
    · rw [if_neg ha, if_neg ha]
  unfold db_PN at h ⊢
  rw [e, h1]
  exact h
theorem db_B1_c {U o : Nat} {s s' : db_S} {c : db_C} {w : Nat → Int64} (hf : ∀ a, o ≤ a → a < o + 125 → a ≠ o + 59 → s'.1 a = s.1 a) (hg : s'.2 (o + 56) = s.2 (o + 56)) (h : db_B1 U o s c w) : db_B1 U o s' c w :=
  ⟨h.1, db_BR_c h.1 (fun a h1 h2 h3 => hf a h1 (by omega) h3) hg h.2.1, db_PN_c (hf _ (by omega) (by omega) (by omega)) (fun a ha => hf _ (by omega) (by omega) (by omega)) h.2.2⟩
theorem db_Inv_c {U : Nat} {s s' : db_S} (hI : db_Inv U s) (h : db_Es s s') (hs : s'.1 4 0 = s'.1 669 0) : db_Inv U s' := by
  have hv : ∀ a, 7 ≤ a → a ≠ 669 → (∀ j, db_es a j) → s'.1 a = s.1 a ∧ s'.2 a = s.2 a := fun a h1 h2 h3 => ⟨funext fun j => (h a j (h3 j) (by omega) (by omega)).1, funext fun j => (h a j (h3 j) (by omega) (by omega)).2⟩
  have hb : ∀ q, q < 4 → db_bk s' q = db_bk s q := by
    intro q hq
    funext k
    unfold db_bk
    by_cases hk : k < 480
    · rw [if_pos hk, if_pos hk]
      exact (h 674 (480 * q + k) (by unfold db_es db_em; omega) (by omega) (by omega)).1
    · rw [if_neg hk, if_neg hk]
  have hw : ∀ q, q < 4 → db_bw s' q = db_bw s q := by
    intro q hq
    funext k
    unfold db_bw
    by_cases hk : k < 37
    · rw [if_pos hk, if_pos hk]
      exact (h 676 (37 * q + k) (by unfold db_es db_em; omega) (by omega) (by omega)).2
    · rw [if_neg hk, if_neg hk]
  obtain ⟨-, ⟨f1, f2⟩, hT, ⟨n, n1, n2, n3, n4⟩, ⟨g1, g2⟩, hk, hB, ⟨m, m1, m2, m3, m4⟩, ⟨l, l1, l2, l3, l4⟩, ⟨o1, o2⟩, p1, p2⟩ := hI
  have e1 := fun a j q1 q2 q3 => (h a j q1 q2 q3).1
  have e2 := fun a j q1 q2 q3 => (h a j q1 q2 q3).2
  refine ⟨hs, ⟨?_, ?_⟩, ?_, ⟨n, n1, ?_, ?_, ?_⟩, ⟨?_, ?_⟩, ?_, ?_, ⟨m, m1, ?_, ?_, ?_⟩, ⟨l, l1, ?_, ?_, ?_⟩, ⟨?_, ?_⟩, ?_, ?_⟩
  · rw [e2 282 0 (by unfold db_es db_ec; omega) (by omega) (by omega), e2 669 2 (by unfold db_es db_em; omega) (by omega) (by omega)]; exact f1
  · rw [e2 282 1 (by unfold db_es db_ec; omega) (by omega) (by omega), e2 669 3 (by unfold db_es db_em; omega) (by omega) (by omega)]; exact f2
  · intro t ht
    rw [(hv 12 (by omega) (by omega) (fun j => by unfold db_es db_ec; omega)).1, (hv 671 (by omega) (by omega) (fun j => by unfold db_es db_em; omega)).1, (hv 11 (by omega) (by omega) (fun j => by unfold db_es db_ec; omega)).1, (hv 670 (by omega) (by omega) (fun j => by unfold db_es db_em; omega)).1, (hv (7 + t) (by omega) (by omega) (fun j => by unfold db_es db_ec; omega)).2, (hv 672 (by omega) (by omega) (fun j => by unfold db_es db_em; omega)).2]
    exact hT t ht
  · rw [e1 13 1 (by unfold db_es db_ec; omega) (by omega) (by omega)]; exact n2
  · rw [e1 669 8 (by unfold db_es db_em; omega) (by omega) (by omega)]; exact n3
  · rw [(hv 14 (by omega) (by omega) (fun j => by unfold db_es db_ec; omega)).1, (hv 673 (by omega) (by omega) (fun j => by unfold db_es db_em; omega)).1]; exact n4
  · rw [e1 13 2 (by unfold db_es db_ec; omega) (by omega) (by omega), e1 669 10 (by unfold db_es db_em; omega) (by omega) (by omega)]; exact g1
  · rw [e1 13 3 (by unfold db_es db_ec; omega) (by omega) (by omega), e1 669 11 (by unfold db_es db_em; omega) (by omega) (by omega)]; exact g2
  · rw [(hv 15 (by omega) (by omega) (fun j => by unfold db_es db_ec; omega)).2]; exact hk
  · rw [hb 0 (by omega), hw 0 (by omega)]
    exact db_B1_c (fun a h1 h2 h3 => (hv a (by omega) (by omega) (fun j => by unfold db_es db_ec; omega)).1) (hv 76 (by omega) (by omega) (fun j => by unfold db_es db_ec; omega)).2 hB
  · rw [e1 4 15 (by unfold db_es db_ec; omega) (by omega) (by omega)]; exact m2
  · rw [e1 669 23 (by unfold db_es db_em; omega) (by omega) (by omega)]; exact m3
  · intro q hq
    rw [hb (q + 1) (by omega), hw (q + 1) (by omega)]
    exact db_B1_c (fun a h1 h2 h3 => (hv a (by omega) (by omega) (fun j => by unfold db_es db_ec; omega)).1) (hv _ (by omega) (by omega) (fun j => by unfold db_es db_ec; omega)).2 (m4 q hq)
  · rw [e1 274 1 (by unfold db_es db_ec; omega) (by omega) (by omega)]; exact l2
  · rw [e1 669 34 (by unfold db_es db_em; omega) (by omega) (by omega)]; exact l3
  · rw [(hv 275 (by omega) (by omega) (fun j => by unfold db_es db_ec; omega)).1, (hv 680 (by omega) (by omega) (fun j => by unfold db_es db_em; omega)).1]; exact l4
  · rw [e1 274 2 (by unfold db_es db_ec; omega) (by omega) (by omega), e1 669 35 (by unfold db_es db_em; omega) (by omega) (by omega)]; exact o1
  · rw [e1 274 2 (by unfold db_es db_ec; omega) (by omega) (by omega)]; exact o2
  · rw [e1 284 0 (by unfold db_es db_ec; omega) (by omega) (by omega), e1 669 40 (by unfold db_es db_em; omega) (by omega) (by omega)]; exact p1
  · rw [(hv 285 (by omega) (by omega) (fun j => by unfold db_es db_ec; omega)).1, (hv 683 (by omega) (by omega) (fun j => by unfold db_es db_em; omega)).1]; exact p2
/-- a call that changes nothing but the status -/
def db_Sc (st : Int32) (s s1 : db_S) : Prop := (∀ a j, db_ec a j → ¬ (a = 4 ∧ j = 0) → s1.1 a j = s.1 a j ∧ s1.2 a j = s.2 a j) ∧ s1.1 4 0 = st
def db_Sm (st : Int32) (s s1 : db_S) : Prop := (∀ a j, db_em a j → ¬ (a = 669 ∧ j = 0) → s1.1 a j = s.1 a j ∧ s1.2 a j = s.2 a j) ∧ s1.1 669 0 = st
theorem db_Inv_q {U : Nat} {st : Int32} {s s1 s2 : db_S} (hI : db_Inv U s) (h1 : db_Sc st s s1) (h2 : db_Sm st s1 s2) : db_Inv U s2 := by
  refine db_Inv_c hI (fun a j he n1 n2 => ?_) ?_
  · have q1 := h2.1 a j (by rcases he with he | he; exact .inl he.1; exact he.2) n2
    have q2 := h1.1 a j (by rcases he with he | he; exact he.2; unfold db_ec; omega) n1
    exact ⟨q1.1.trans q2.1, q1.2.trans q2.2⟩
  · rw [(h2.1 4 0 (.inl (by omega)) (by omega)).1, h1.2, h2.2]
theorem db_Sc_u {st : Int32} {s s1 : db_S} (h : db_Ec s s1) : db_Sc st s (db_uI s1 4 0 st) := ⟨fun a j q n => by
  rw [db_uI_if, if_neg n, db_uI_2]
  exact h a j q, db_uI_1⟩
/-- the reference's first two writes -/
def db_p0 (s : db_S) : db_S := db_uI (db_uI s 669 1 (nI 0)) 669 0 (nI 0)
theorem db_p0_e {s : db_S} : db_uI (db_uI s 669 1 (nI 0)) 669 0 (nI 0) = db_p0 s := rfl
theorem db_p0_n {s : db_S} {b : Nat} (h : b ≠ 669) : (db_p0 s).1 b = s.1 b := by
  unfold db_p0
  rw [db_uI_n h, db_uI_n h]
theorem db_p0_j {s : db_S} {j : Nat} (h0 : j ≠ 0) (h1 : j ≠ 1) : (db_p0 s).1 669 j = s.1 669 j := by
  unfold db_p0
  rw [db_uI_j h0, db_uI_j h1]
theorem db_p0_2 {s : db_S} : (db_p0 s).2 = s.2 := rfl
theorem db_p0_0 {s : db_S} : (db_p0 s).1 669 0 = nI 0 := db_uI_1
theorem db_p0_A {s : db_S} {c : db_C} (h : db_A s c) : db_A (db_p0 s) c := db_A_e (db_p0_n (by decide)) h
theorem db_p0_m {s : db_S} : ∀ a j, db_em a j → ¬ (a = 669 ∧ j = 0) → (db_p0 s).1 a j = s.1 a j ∧ (db_p0 s).2 a j = s.2 a j := fun a j q n => by
  refine ⟨?_, rfl⟩
  by_cases ha : a = 669
  · subst ha
    refine db_p0_j (by omega) ?_
    rintro rfl
    unfold db_em at q
    omega
  · rw [db_p0_n ha]
theorem db_Sm_u {st : Int32} {s s1 : db_S} (h : db_Em (db_p0 s) s1) : db_Sm st s (db_uI s1 669 0 st) := ⟨fun a j q n => by
  rw [db_uI_if, if_neg n, db_uI_2]
  have h1 := h a j q
  have h2 := db_p0_m (s := s) a j q n
  exact ⟨h1.1.trans h2.1, h1.2.trans h2.2⟩, db_uI_1⟩
theorem db_Sm_0 {s s1 : db_S} (h : db_Em (db_p0 s) s1) : db_Sm (nI 0) s s1 := ⟨fun a j q n => by
  have h1 := h a j q
  have h2 := db_p0_m (s := s) a j q n
  exact ⟨h1.1.trans h2.1, h1.2.trans h2.2⟩, by
  rw [(h 669 0 (by unfold db_em; omega)).1]
  exact db_p0_0⟩
/-- one call: both answer, alike, and all holds again -/
def dz_G {β : Type} (U : Nat) (s : db_S) (f g : db_S → Option (β × db_S)) : Prop := ∃ v s1 s2, f s = some (v, s1) ∧ g s1 = some (v, s2) ∧ db_Inv U s2
theorem db_Gq {β : Type} {U : Nat} {s : db_S} {f g : db_S → Option (β × db_S)} (A : β) (st : Int32) (hI : db_Inv U s) (hf : dz_T (f s) (fun z => z.1 = A ∧ db_Sc st s z.2)) (hg : ∀ s1, db_Sc st s s1 → db_A s1 (db_bk s 0) → dz_T (g s1) (fun z => z.1 = A ∧ db_Sm st s1 z.2)) : dz_G U s f g := by
  obtain ⟨⟨v, s1⟩, e1, h1, h2⟩ := hf
  dsimp only at h1 h2
  subst h1
  have hA : db_A s1 (db_bk s 0) := fun k hk => by
    rw [(h2.1 674 k (by unfold db_ec; omega) (by omega)).1]
    exact db_bk_A k hk
  obtain ⟨⟨v', s2⟩, e2, h3, h4⟩ := hg s1 h2 hA
  dsimp only at h3 h4
  subst h3
  exact ⟨_, s1, s2, e1, e2, db_Inv_q hI h2 h4⟩
theorem db_87e {s : db_S} {x : Int32} : db_f87 s x = some (x, db_uI s 4 0 (nI 0)) := Eq.trans rfl rfl
theorem db_37e {s : db_S} {x : Int32} : db_f37 s x = some (-(nI 1), db_uI s 4 0 x) := Eq.trans rfl rfl
theorem db_31e {s : db_S} : db_f31 s = some (true, db_uI s 4 0 (nI 0)) := Eq.trans rfl rfl
theorem db_28e {s : db_S} {x : Int32} : db_f28 s x = some (false, db_uI s 4 0 x) := Eq.trans rfl rfl
theorem db_281e {s : db_S} {x : Int32} : db_f281 s x = some (-(nI 1), db_uI s 669 0 x) := Eq.trans rfl rfl
theorem db_211e {s : db_S} {x : Int32} : db_f211 s x = some (false, db_uI s 669 0 x) := Eq.trans rfl rfl
/-- v from a to b -/
def db_wi (v : Int32) (a b : Int) : Bool := decide (a ≤ v.toInt) && decide (v.toInt ≤ b)
theorem db_27 {s : db_S} {v a b : Int32} : db_f27 s v a b = some (db_wi v a.toInt b.toInt) := by
  unfold db_f27 db_wi
  simp (disch := omega) only [db_lit, eq_self, db_pI_e, db_pL_e, db_bind_some, db_bd_some, nI_add, pk_mul, nI_toInt, db_m1_t, dz_cn, Int.ofNat_le, Int.ofNat_lt, decide_true, decide_false, db_ct, db_cf, not_true_eq_false, not_false_eq_true]
  by_cases h1 : v.toInt < a.toInt
  · have h2 : ¬ (a.toInt ≤ v.toInt) := by omega
    simp [h1, h2]
  · have h2 : (a.toInt ≤ v.toInt) := by omega
    by_cases h3 : b.toInt < v.toInt
    · have h4 : ¬ (v.toInt ≤ b.toInt) := by omega
      simp [h1, h2, h3, h4]
    · have h4 : (v.toInt ≤ b.toInt) := by omega
      simp [h1, h2, h3, h4]
theorem db_269w {s : db_S} {v : Int32} {a b : Int64} : db_f269 s v.toInt64 a b = some (db_wi v a.toInt b.toInt) := by
  rw [db_269, db_iL]
  rfl
theorem db_wi_t {v : Int32} {a : Int} {b : Nat} (hb : b < 2 ^ 30) (ha : 0 ≤ a) (h : db_wi v a b = true) : ∃ k : Nat, k < b + 1 ∧ a ≤ (k : Int) ∧ v = nI k := by
  simp only [db_wi, Bool.and_eq_true, decide_eq_true_eq] at h
  obtain ⟨k, hk, e⟩ := db_ofI (x := v) (n := b + 1) (by omega) (by omega)
  refine ⟨k, hk, ?_, e⟩
  rw [e, nI_toInt (by omega)] at h
  exact h.1
/-- nothing but the status changes -/
theorem db_Gy {U : Nat} {s : db_S} {f g : db_S → Option (Int32 × db_S)} (A : Int32) (hI : db_Inv U s) (hf : f s = some (A, db_uI s 4 0 (nI 0))) (hg : ∀ s1, db_Sc (nI 0) s s1 → db_A s1 (db_bk s 0) → g s1 = some (A, db_p0 s1)) : dz_G U s f g :=
  db_Gq A (nI 0) hI ⟨_, hf, rfl, db_Sc_u db_Ec_r⟩ fun s1 h1 h2 => ⟨_, hg s1 h1 h2, rfl, db_Sm_0 db_Em_r⟩
theorem db_Gn {U : Nat} {s : db_S} {f g : db_S → Option (Int32 × db_S)} (st : Nat) (hI : db_Inv U s) (hf : f s = some (-(nI 1), db_uI s 4 0 (nI st))) (hg : ∀ s1, db_Sc (nI st) s s1 → db_A s1 (db_bk s 0) → g s1 = some (-(nI 1), db_uI (db_p0 s1) 669 0 (nI st))) : dz_G U s f g :=
  db_Gq (-(nI 1)) (nI st) hI ⟨_, hf, rfl, db_Sc_u db_Ec_r⟩ fun s1 h1 h2 => ⟨_, hg s1 h1 h2, rfl, db_Sm_u db_Em_r⟩
theorem db_GyB {U : Nat} {s : db_S} {f g : db_S → Option (Bool × db_S)} (A : Bool) (hI : db_Inv U s) (hf : f s = some (A, db_uI s 4 0 (nI 0))) (hg : ∀ s1, db_Sc (nI 0) s s1 → db_A s1 (db_bk s 0) → g s1 = some (A, db_p0 s1)) : dz_G U s f g :=
  db_Gq A (nI 0) hI ⟨_, hf, rfl, db_Sc_u db_Ec_r⟩ fun s1 h1 h2 => ⟨_, hg s1 h1 h2, rfl, db_Sm_0 db_Em_r⟩
theorem db_GnB {U : Nat} {s : db_S} {f g : db_S → Option (Bool × db_S)} (st : Nat) (hI : db_Inv U s) (hf : f s = some (false, db_uI s 4 0 (nI st))) (hg : ∀ s1, db_Sc (nI st) s s1 → db_A s1 (db_bk s 0) → g s1 = some (false, db_uI (db_p0 s1) 669 0 (nI st))) : dz_G U s f g :=
  db_Gq false (nI st) hI ⟨_, hf, rfl, db_Sc_u db_Ec_r⟩ fun s1 h1 h2 => ⟨_, hg s1 h1 h2, rfl, db_Sm_u db_Em_r⟩
theorem db_cur {U : Nat} {s : db_S} (hI : db_Inv U s) : db_B1 U 20 s (db_bk s 0) (db_bw s 0) := hI.2.2.2.2.2.2.1
