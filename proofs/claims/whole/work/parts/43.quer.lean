/-! SHOWN; WHOSE, WHEN, BARGAIN -/
/-- what was found, the class's: a list -/
def db_KP (s0 s : db_S) (L : List Int32) : Prop := s.1 274 1 = nI L.length ∧ (∀ k, k < L.length → s.1 275 k = L.getD k 0) ∧ (∀ a, a ≠ 274 → a ≠ 275 → s.1 a = s0.1 a) ∧ (∀ j, j ≠ 1 → s.1 274 j = s0.1 274 j) ∧ s.2 = s0.2
def db_KM (s0 s : db_S) (L : List Int32) : Prop := s.1 669 34 = nI L.length ∧ (∀ k, k < L.length → s.1 680 k = L.getD k 0) ∧ (∀ a, a ≠ 669 → a ≠ 680 → s.1 a = s0.1 a) ∧ (∀ j, j ≠ 34 → s.1 669 j = s0.1 669 j) ∧ s.2 = s0.2
theorem db_getD_app {L : List Int32} {v : Int32} {k : Nat} (hk : k < (L ++ [v]).length) : (L ++ [v]).getD k 0 = if k = L.length then v else L.getD k 0 := by
  rw [List.length_append] at hk
  simp only [List.length_cons, List.length_nil] at hk
  by_cases e : k = L.length
  · subst e; simp
  · rw [if_neg e, List.getD_eq_getElem?_getD, List.getD_eq_getElem?_getD, List.getElem?_append_left (by omega)]
theorem db_155 {s0 s : db_S} {L : List Int32} {v : Int32} (h : db_KP s0 s L) (hL : L.length < 4) : ∃ s', db_f155 s v = some s' ∧ db_KP s0 s' (L ++ [v]) := by
  obtain ⟨h1, h2, h3, h4, h5⟩ := h
  refine ⟨db_uI (db_uI s 275 L.length v) 274 1 (nI (L.length + 1)), ?_, ?_, ?_, ?_, ?_, ?_⟩
  · unfold db_f155
    simp (disch := omega) only [db_lit, eq_self, db_pI_e, db_pL_e, db_bind_some, db_bd_some, nI_add, pk_mul, nI_toInt, db_m1_t, dz_cn, Int.ofNat_le, Int.ofNat_lt, decide_true, decide_false, db_ct, db_cf, not_true_eq_false, not_false_eq_true, db_87e, db_37e, db_31e, db_28e, db_281e, db_211e, db_27, db_269w, db_litL, pk_lT, db_iL, db_p0_e, db_p0_n, db_p0_j, db_sub1, nI_eq, if_true, if_false, Bool.false_eq_true, h1, db_h_275]
    rw [db_uI_n (by decide), h1, nI_add]
  · rw [db_uI_1, List.length_append]; rfl
  · intro k hk
    rw [db_getD_app hk, db_uI_n (by decide)]
    by_cases e : k = L.length
    · rw [if_pos e, e, db_uI_1]
    · rw [if_neg e, db_uI_j e]
      rw [List.length_append] at hk
      simp only [List.length_cons, List.length_nil] at hk
      exact h2 k (by omega)
  · intro a a1 a2
    rw [db_uI_n a1, db_uI_n a2]; exact h3 a a1 a2
  · intro j hj
    rw [db_uI_j hj, db_uI_n (by decide)]; exact h4 j hj
  · rw [db_uI_2, db_uI_2]; exact h5
theorem db_341 {s0 s : db_S} {L : List Int32} {v : Int32} (h : db_KM s0 s L) (hL : L.length < 8) : ∃ s', db_f341 s v = some s' ∧ db_KM s0 s' (L ++ [v]) := by
  obtain ⟨h1, h2, h3, h4, h5⟩ := h
  refine ⟨db_uI (db_uI s 680 L.length v) 669 34 (nI (L.length + 1)), ?_, ?_, ?_, ?_, ?_, ?_⟩
  · unfold db_f341
    simp (disch := omega) only [db_lit, eq_self, db_pI_e, db_pL_e, db_bind_some, db_bd_some, nI_add, pk_mul, nI_toInt, db_m1_t, dz_cn, Int.ofNat_le, Int.ofNat_lt, decide_true, decide_false, db_ct, db_cf, not_true_eq_false, not_false_eq_true, db_87e, db_37e, db_31e, db_28e, db_281e, db_211e, db_27, db_269w, db_litL, pk_lT, db_iL, db_p0_e, db_p0_n, db_p0_j, db_sub1, nI_eq, if_true, if_false, Bool.false_eq_true, h1, db_h_680]
    rw [db_uI_n (by decide), h1, nI_add]
  · rw [db_uI_1, List.length_append]; rfl
  · intro k hk
    rw [db_getD_app hk, db_uI_n (by decide)]
    by_cases e : k = L.length
    · rw [if_pos e, e, db_uI_1]
    · rw [if_neg e, db_uI_j e]
      rw [List.length_append] at hk
      simp only [List.length_cons, List.length_nil] at hk
      exact h2 k (by omega)
  · intro a a1 a2
    rw [db_uI_n a1, db_uI_n a2]; exact h3 a a1 a2
  · intro j hj
    rw [db_uI_j hj, db_uI_n (by decide)]; exact h4 j hj
  · rw [db_uI_2, db_uI_2]; exact h5
theorem db_KP_0 {s : db_S} : db_KP s (db_uI s 274 1 (nI 0)) [] := ⟨db_uI_1, fun k hk => absurd hk (Nat.not_lt_zero k), fun a a1 _ => db_uI_n a1, fun j hj => db_uI_j hj, rfl⟩
theorem db_KM_0 {s : db_S} : db_KM s (db_uI s 669 34 (nI 0)) [] := ⟨db_uI_1, fun k hk => absurd hk (Nat.not_lt_zero k), fun a a1 _ => db_uI_n a1, fun j hj => db_uI_j hj, rfl⟩
/-- what is shown of two rules -/
def db_sb (c : db_C) (a b : Nat) : List Int32 := (if (c (43 + a)).toInt < 0 then [] else [c (43 + a)]) ++ [c (19 + a)] ++ (if (c (43 + b)).toInt < 0 ∨ c (43 + b) = c (43 + a) then [] else [c (43 + b)])
section DBQ4
variable {U : Nat} {s : db_S} {c : db_C} {w : Nat → Int64} {v x y z p q : Int32}
theorem db_sb_len {a b : Nat} : (db_sb c a b).length ≤ 3 ∧ 1 ≤ (db_sb c a b).length := by
  unfold db_sb
  rw [List.length_append, List.length_append]
  have h1 : ((if (c (43 + a)).toInt < 0 then [] else [c (43 + a)]) : List Int32).length ≤ 1 := by split <;> simp
  have h2 : ((if (c (43 + b)).toInt < 0 ∨ c (43 + b) = c (43 + a) then [] else [c (43 + b)]) : List Int32).length ≤ 1 := by split <;> simp
  simp only [List.length_cons, List.length_nil]
  omega
theorem db_154 (hR : db_BR 20 s c w) (hO : db_Ok U c) {a b : Nat} (ha : a < db_n c 3) (hb : b < db_n c 3) : ∃ s', db_f154 s (25 + a) (25 + b) = some (nI (db_sb c a b).length, s') ∧ db_KP s s' (db_sb c a b) := by
  have j3 := hO.1.2.2.2.1.2
  have jT := hO.1.1.2
  have ra := db_25 hR ha
  have rb := db_25 hR hb
  obtain ⟨-, -, oa, -⟩ := hO.2.1 a ha
  obtain ⟨-, -, ob, -⟩ := hO.2.1 b hb
  have hr : ∀ s' L, db_KP s s' L → s'.1 (25 + a) = s.1 (25 + a) ∧ s'.1 (25 + b) = s.1 (25 + b) := fun s' L h => ⟨h.2.2.1 _ (by omega) (by omega), h.2.2.1 _ (by omega) (by omega)⟩
  -- from the thing on
  have k19 : ∀ (s1 : db_S) (L : List Int32), db_KP s s1 L → L.length ≤ 1 → ∃ s', db_f154_b19 s1 (25 + a) (25 + b) = some (nI (L ++ [c (19 + a)] ++ (if (c (43 + b)).toInt < 0 ∨ c (43 + b) = c (43 + a) then [] else [c (43 + b)])).length, s') ∧ db_KP s s' (L ++ [c (19 + a)] ++ (if (c (43 + b)).toInt < 0 ∨ c (43 + b) = c (43 + a) then [] else [c (43 + b)])) := by
    intro s1 L h1 hL
    obtain ⟨s2, e2, h2⟩ := db_155 (v := c (19 + a)) h1 (by omega)
    obtain ⟨f1, f2⟩ := hr s1 L h1
    obtain ⟨g1, g2⟩ := hr s2 _ h2
    unfold db_f154_b19
    simp (disch := omega) only [db_lit, eq_self, db_pI_e, db_pL_e, db_bind_some, db_bd_some, nI_add, pk_mul, nI_toInt, db_m1_t, dz_cn, Int.ofNat_le, Int.ofNat_lt, decide_true, decide_false, db_ct, db_cf, not_true_eq_false, not_false_eq_true, db_87e, db_37e, db_31e, db_28e, db_281e, db_211e, db_27, db_269w, db_litL, pk_lT, db_iL, db_p0_e, db_p0_n, db_p0_j, db_sub1, nI_eq, if_true, if_false, Bool.false_eq_true, db_g_25, f1, ra.1, e2, g1, g2, ra.2.2.1, rb.2.2.1, h2.1]
    by_cases e : c (43 + b) = -(nI 1)
    · rw [decide_eq_true e, db_ct, if_pos (.inl (by rw [e, db_m1_t]; omega)), List.append_nil]
      exact ⟨s2, rfl, h2⟩
    · rw [decide_eq_false e, db_cf]
      by_cases e' : c (43 + b) = c (43 + a)
      · rw [decide_eq_true e', db_ct, if_pos (.inr e'), List.append_nil]
        exact ⟨s2, rfl, h2⟩
      · obtain ⟨s3, e3, h3⟩ := db_155 (v := c (43 + b)) h2 (by rw [List.length_append]; simp only [List.length_cons, List.length_nil]; omega)
        have hneg : ¬ ((c (43 + b)).toInt < 0 ∨ c (43 + b) = c (43 + a)) := by
          rintro (q | q)
          · have := db_O_neg (by omega) ob
            rw [decide_eq_true q] at this
            exact e (of_decide_eq_true this.symm)
          · exact e' q
        rw [decide_eq_false e', db_cf, if_neg hneg]
        simp (disch := omega) only [db_lit, eq_self, db_pI_e, db_pL_e, db_bind_some, db_bd_some, nI_add, pk_mul, nI_toInt, db_m1_t, dz_cn, Int.ofNat_le, Int.ofNat_lt, decide_true, decide_false, db_ct, db_cf, not_true_eq_false, not_false_eq_true, db_87e, db_37e, db_31e, db_28e, db_281e, db_211e, db_27, db_269w, db_litL, pk_lT, db_iL, db_p0_e, db_p0_n, db_p0_j, db_sub1, nI_eq, if_true, if_false, Bool.false_eq_true, e3, h3.1]
        exact ⟨s3, rfl, h3⟩
  unfold db_f154
  obtain ⟨f1, f2⟩ := hr _ _ (@db_KP_0 s)
  simp (disch := omega) only [db_lit, eq_self, db_pI_e, db_pL_e, db_bind_some, db_bd_some, nI_add, pk_mul, nI_toInt, db_m1_t, dz_cn, Int.ofNat_le, Int.ofNat_lt, decide_true, decide_false, db_ct, db_cf, not_true_eq_false, not_false_eq_true, db_87e, db_37e, db_31e, db_28e, db_281e, db_211e, db_27, db_269w, db_litL, pk_lT, db_iL, db_p0_e, db_p0_n, db_p0_j, db_sub1, nI_eq, if_true, if_false, Bool.false_eq_true]
  have h0 := @db_KP_0 s
  generalize db_uI s 274 1 (nI 0) = s0 at h0 f1 f2
  simp (disch := omega) only [db_lit, eq_self, db_pI_e, db_pL_e, db_bind_some, db_bd_some, nI_add, pk_mul, nI_toInt, db_m1_t, dz_cn, Int.ofNat_le, Int.ofNat_lt, decide_true, decide_false, db_ct, db_cf, not_true_eq_false, not_false_eq_true, db_87e, db_37e, db_31e, db_28e, db_281e, db_211e, db_27, db_269w, db_litL, pk_lT, db_iL, db_p0_e, db_p0_n, db_p0_j, db_sub1, nI_eq, if_true, if_false, Bool.false_eq_true, db_g_25, f1, ra.2.2.1]
  by_cases e : c (43 + a) = -(nI 1)
  · rw [decide_eq_true e, db_ct]
    have := k19 s0 [] h0 (by simp)
    unfold db_sb
    rw [if_pos (show (c (43 + a)).toInt < 0 by rw [e, db_m1_t]; omega)]
    exact this
  · obtain ⟨s1, e1, h1⟩ := db_155 (v := c (43 + a)) h0 (by simp)
    have hneg : ¬ (c (43 + a)).toInt < 0 := fun q => by
      have := db_O_neg (by omega) oa
      rw [decide_eq_true q] at this
      exact e (of_decide_eq_true this.symm)
    rw [decide_eq_false e, db_cf, e1, db_bind_some]
    have := k19 s1 _ h1 (by simp)
    unfold db_sb
    rw [if_neg hneg]
    exact this
theorem db_340_b (hc : db_A s c) (hO : db_Ok U c) {a b : Nat} (ha : a < db_n c 3) (hb : b < db_n c 3) {s0 : db_S} (hK : db_KM s s0 []) : ∃ s', (cond (decide ((c (43 + a)).toInt < ((0 : Nat) : Int))) (db_f340_b89 s0 (nI a) (nI b)) ((db_f341 s0 (c (43 + a))).bind fun s13 => db_f340_b89 s13 (nI a) (nI b))) = some (nI (db_sb c a b).length, s') ∧ db_KM s s' (db_sb c a b) := by
  have j3 := hO.1.2.2.2.1.2
  have hr : ∀ s' L, db_KM s s' L → db_A s' c := fun s' L h => db_A_e (h.2.2.1 _ (by omega) (by omega)) hc
  have k89 : ∀ (s1 : db_S) (L : List Int32), db_KM s s1 L → L.length ≤ 1 → ∃ s', db_f340_b89 s1 (nI a) (nI b) = some (nI (L ++ [c (19 + a)] ++ (if (c (43 + b)).toInt < 0 ∨ c (43 + b) = c (43 + a) then [] else [c (43 + b)])).length, s') ∧ db_KM s s' (L ++ [c (19 + a)] ++ (if (c (43 + b)).toInt < 0 ∨ c (43 + b) = c (43 + a) then [] else [c (43 + b)])) := by
    intro s1 L h1 hL
    obtain ⟨s2, e2, h2⟩ := db_341 (v := c (19 + a)) h1 (by omega)
    have f1 := hr s1 L h1
    have f2 := hr s2 _ h2
    unfold db_f340_b89
    simp (disch := omega) only [db_lit, eq_self, db_pI_e, db_pL_e, db_bind_some, db_bd_some, nI_add, pk_mul, nI_toInt, db_m1_t, dz_cn, Int.ofNat_le, Int.ofNat_lt, decide_true, decide_false, db_ct, db_cf, not_true_eq_false, not_false_eq_true, db_87e, db_37e, db_31e, db_28e, db_281e, db_211e, db_27, db_269w, db_litL, pk_lT, db_iL, db_p0_e, db_p0_n, db_p0_j, db_sub1, nI_eq, if_true, if_false, Bool.false_eq_true, db_g_674, f1, e2, f2, h2.1]
    by_cases e : (c (43 + b)).toInt < ((0 : Nat) : Int)
    · rw [decide_eq_true e, db_ct, if_pos (.inl e), List.append_nil]
      exact ⟨s2, rfl, h2⟩
    · rw [decide_eq_false e, db_cf]
      by_cases e' : c (43 + b) = c (43 + a)
      · rw [decide_eq_true e', db_ct, if_pos (.inr e'), List.append_nil]
        exact ⟨s2, rfl, h2⟩
      · obtain ⟨s3, e3, h3⟩ := db_341 (v := c (43 + b)) h2 (by rw [List.length_append]; simp only [List.length_cons, List.length_nil]; omega)
        rw [decide_eq_false e', db_cf, if_neg (by rintro (q | q); exact e q; exact e' q)]
        simp (disch := omega) only [db_lit, eq_self, db_pI_e, db_pL_e, db_bind_some, db_bd_some, nI_add, pk_mul, nI_toInt, db_m1_t, dz_cn, Int.ofNat_le, Int.ofNat_lt, decide_true, decide_false, db_ct, db_cf, not_true_eq_false, not_false_eq_true, db_87e, db_37e, db_31e, db_28e, db_281e, db_211e, db_27, db_269w, db_litL, pk_lT, db_iL, db_p0_e, db_p0_n, db_p0_j, db_sub1, nI_eq, if_true, if_false, Bool.false_eq_true, e3, h3.1]
        exact ⟨s3, rfl, h3⟩
  by_cases e : (c (43 + a)).toInt < ((0 : Nat) : Int)
  · rw [decide_eq_true e, db_ct]
    have := k89 s0 [] hK (by simp)
    unfold db_sb
    rw [if_pos (show (c (43 + a)).toInt < 0 from e)]
    exact this
  · obtain ⟨s1, e1, h1⟩ := db_341 (v := c (43 + a)) hK (by simp)
    rw [decide_eq_false e, db_cf, e1, db_bind_some]
    have := k89 s1 _ h1 (by simp)
    unfold db_sb
    rw [if_neg (show ¬ (c (43 + a)).toInt < 0 from e)]
    exact this
/-- what was found is the same again -/
theorem db_Inv_KP {s0 s1 s2 : db_S} {L : List Int32} (hI : db_Inv U s) (hL : L.length ≤ 4) (h1 : ∀ a j, db_ec a j → ¬ (a = 274 ∧ j = 1) → a ≠ 275 → s0.1 a j = s.1 a j ∧ s0.2 a j = s.2 a j) (h11 : s0.1 274 1 = nI L.length) (h12 : ∀ k, k < L.length → s0.1 275 k = L.getD k 0) (e1 : s1 = db_uI s0 4 0 (nI 0)) (h2 : ∀ a j, db_em a j → ¬ (a = 669 ∧ j = 34) → a ≠ 680 → s2.1 a j = (db_p0 s1).1 a j ∧ s2.2 a j = (db_p0 s1).2 a j) (h21 : s2.1 669 34 = nI L.length) (h22 : ∀ k, k < L.length → s2.1 680 k = L.getD k 0) : db_Inv U s2 := by
  have f1 : ∀ a j, db_ec a j → ¬ (a = 274 ∧ j = 1) → a ≠ 275 → ¬ (a = 4 ∧ j = 0) → s1.1 a j = s.1 a j ∧ s1.2 a j = s.2 a j := fun a j q n n' m => by
    rw [e1, db_uI_if, if_neg m, db_uI_2]
    exact h1 a j q n n'
  have f2 : ∀ a j, db_em a j → ¬ (a = 669 ∧ j = 34) → a ≠ 680 → ¬ (a = 669 ∧ j = 0) → s2.1 a j = s1.1 a j ∧ s2.2 a j = s1.2 a j := fun a j q n n' m => by
    have g1 := h2 a j q n n'
    have g2 := db_p0_m (s := s1) a j q m
    exact ⟨g1.1.trans g2.1, g1.2.trans g2.2⟩
  refine db_Inv_found hI (Nat.le_refl U) (fun a j he hn => ?_) ?_ ⟨L.length, hL, ?_, h21, fun k hk => ?_⟩
  · have q1 := f2 a j (by rcases he with he | he; exact .inl he.1; exact he.2) (by omega) (by omega) (by omega)
    have q2 := f1 a j (by rcases he with he | he; exact he.2; unfold db_ec; omega) (by omega) (by omega) (by omega)
    exact ⟨q1.1.trans q2.1, q1.2.trans q2.2⟩
  · rw [(f2 4 0 (.inl (by omega)) (by omega) (by omega) (by omega)).1, e1, db_uI_1, (h2 669 0 (by unfold db_em; omega) (by omega) (by omega)).1, db_p0_0]
  · rw [(f2 274 1 (.inl (by omega)) (by omega) (by omega) (by omega)).1, e1, db_uI_n (by decide)]; exact h11
  · rw [(f2 275 k (.inl (by omega)) (by omega) (by omega) (by omega)).1, e1, db_uI_n (by decide), h22 k hk]; exact h12 k hk
theorem db_k36 (hI : db_Inv U s) : dz_G U s (fun s => db_f153 s x y) (fun s => db_f340 s x y) := by
  obtain ⟨hO, hR, -⟩ := db_cur hI
  have k3 := db_Ok_K hO (show 3 < 6 by omega)
  have k12 := k3.2
  have h50 : decide (¬ nI 5 = nI 0) = true := by decide
  have h20 : decide (¬ nI 2 = nI 0) = true := by decide
  have g50 : decide (nI 5 = nI 0) = false := by decide
  have g20 : decide (nI 2 = nI 0) = false := by decide
  have g80 : decide (nI 8 = nI 0) = false := by decide
  cases h : (db_is x (db_n (db_bk s 0) 3) && db_is y (db_n (db_bk s 0) 3)) with
  | false =>
    refine db_Gn 2 hI ?_ fun s1 hS hA => ?_
    · unfold db_f153 db_f153_b26
      simp (disch := omega) only [db_lit, eq_self, db_pI_e, db_pL_e, db_bind_some, db_bd_some, nI_add, pk_mul, nI_toInt, db_m1_t, dz_cn, Int.ofNat_le, Int.ofNat_lt, decide_true, decide_false, db_ct, db_cf, not_true_eq_false, not_false_eq_true, db_87e, db_37e, db_31e, db_28e, db_281e, db_211e, db_27, db_269w, db_litL, pk_lT, db_iL, db_p0_e, db_p0_n, db_p0_j, db_sub1, nI_eq, if_true, if_false, Bool.false_eq_true, db_145 hR hO, h, h20, g20]
      rfl
    · unfold db_f340 db_f340_b26
      simp (disch := omega) only [db_lit, eq_self, db_pI_e, db_pL_e, db_bind_some, db_bd_some, nI_add, pk_mul, nI_toInt, db_m1_t, dz_cn, Int.ofNat_le, Int.ofNat_lt, decide_true, decide_false, db_ct, db_cf, not_true_eq_false, not_false_eq_true, db_87e, db_37e, db_31e, db_28e, db_281e, db_211e, db_27, db_269w, db_litL, pk_lT, db_iL, db_p0_e, db_p0_n, db_p0_j, db_sub1, nI_eq, if_true, if_false, Bool.false_eq_true, db_289 (db_p0_A hA) k3]
      cases h1 : db_is x (db_n (db_bk s 0) 3) with
      | false => rfl
      | true =>
        rw [h1, Bool.true_and] at h
        rw [h]; rfl
  | true =>
    have h' := h
    simp only [Bool.and_eq_true] at h'
    obtain ⟨hx, hy⟩ := h'
    by_cases e : x = y
    · subst e
      refine db_Gn 5 hI ?_ fun s1 hS hA => ?_
      · unfold db_f153 db_f153_b26
        simp (disch := omega) only [db_lit, eq_self, db_pI_e, db_pL_e, db_bind_some, db_bd_some, nI_add, pk_mul, nI_toInt, db_m1_t, dz_cn, Int.ofNat_le, Int.ofNat_lt, decide_true, decide_false, db_ct, db_cf, not_true_eq_false, not_false_eq_true, db_87e, db_37e, db_31e, db_28e, db_281e, db_211e, db_27, db_269w, db_litL, pk_lT, db_iL, db_p0_e, db_p0_n, db_p0_j, db_sub1, nI_eq, if_true, if_false, Bool.false_eq_true, db_145 hR hO, h]
        rfl
      · unfold db_f340
        simp (disch := omega) only [db_lit, eq_self, db_pI_e, db_pL_e, db_bind_some, db_bd_some, nI_add, pk_mul, nI_toInt, db_m1_t, dz_cn, Int.ofNat_le, Int.ofNat_lt, decide_true, decide_false, db_ct, db_cf, not_true_eq_false, not_false_eq_true, db_87e, db_37e, db_31e, db_28e, db_281e, db_211e, db_27, db_269w, db_litL, pk_lT, db_iL, db_p0_e, db_p0_n, db_p0_j, db_sub1, nI_eq, if_true, if_false, Bool.false_eq_true, db_289 (db_p0_A hA) k3, hx]
    · obtain ⟨a, ha, rfl⟩ := db_is_t hx
      obtain ⟨b, hb, rfl⟩ := db_is_t hy
      have hab : ¬ a = b := fun q => e (by rw [q])
      cases hq : db_qu (db_bk s 0) a b with
      | false =>
        refine db_Gn 8 hI ?_ fun s1 hS hA => ?_
        · unfold db_f153 db_f153_b26
          simp (disch := omega) only [db_lit, eq_self, db_pI_e, db_pL_e, db_bind_some, db_bd_some, nI_add, pk_mul, nI_toInt, db_m1_t, dz_cn, Int.ofNat_le, Int.ofNat_lt, decide_true, decide_false, db_ct, db_cf, not_true_eq_false, not_false_eq_true, db_87e, db_37e, db_31e, db_28e, db_281e, db_211e, db_27, db_269w, db_litL, pk_lT, db_iL, db_p0_e, db_p0_n, db_p0_j, db_sub1, nI_eq, if_true, if_false, Bool.false_eq_true, db_145 hR hO, h, hab, db_146 hR hO ha hb, hq]
          rfl
        · unfold db_f340
          simp (disch := omega) only [db_lit, eq_self, db_pI_e, db_pL_e, db_bind_some, db_bd_some, nI_add, pk_mul, nI_toInt, db_m1_t, dz_cn, Int.ofNat_le, Int.ofNat_lt, decide_true, decide_false, db_ct, db_cf, not_true_eq_false, not_false_eq_true, db_87e, db_37e, db_31e, db_28e, db_281e, db_211e, db_27, db_269w, db_litL, pk_lT, db_iL, db_p0_e, db_p0_n, db_p0_j, db_sub1, nI_eq, if_true, if_false, Bool.false_eq_true, db_289 (db_p0_A hA) k3, hx, hy, hab, db_336 (db_p0_A hA) hO ha hb, hq]
      | true =>
        obtain ⟨s0, e0, K0⟩ := db_154 hR hO ha hb
        have hA1 : db_A (db_uI s0 4 0 (nI 0)) (db_bk s 0) := db_A_e (by rw [db_uI_n (by decide)]; exact K0.2.2.1 674 (by decide) (by decide)) db_bk_A
        have hA2 := db_p0_A hA1
        obtain ⟨s2, e2, K2⟩ := db_340_b hA2 hO ha hb (@db_KM_0 (db_p0 (db_uI s0 4 0 (nI 0))))
        refine ⟨nI (db_sb (db_bk s 0) a b).length, db_uI s0 4 0 (nI 0), s2, ?_, ?_, db_Inv_KP hI (by have := (@db_sb_len (db_bk s 0) a b).1; omega) (fun a' j q1 q2 q3 => ?_) K0.1 K0.2.1 rfl (fun a' j q1 q2 q3 => ?_) K2.1 K2.2.1⟩
        · unfold db_f153 db_f153_b26
          simp (disch := omega) only [db_lit, eq_self, db_pI_e, db_pL_e, db_bind_some, db_bd_some, nI_add, pk_mul, nI_toInt, db_m1_t, dz_cn, Int.ofNat_le, Int.ofNat_lt, decide_true, decide_false, db_ct, db_cf, not_true_eq_false, not_false_eq_true, db_87e, db_37e, db_31e, db_28e, db_281e, db_211e, db_27, db_269w, db_litL, pk_lT, db_iL, db_p0_e, db_p0_n, db_p0_j, db_sub1, nI_eq, if_true, if_false, Bool.false_eq_true, db_145 hR hO, h, hab, db_146 hR hO ha hb, hq, db_q_24, e0]
        · unfold db_f340
          simp (disch := omega) only [db_lit, eq_self, db_pI_e, db_pL_e, db_bind_some, db_bd_some, nI_add, pk_mul, nI_toInt, db_m1_t, dz_cn, Int.ofNat_le, Int.ofNat_lt, decide_true, decide_false, db_ct, db_cf, not_true_eq_false, not_false_eq_true, db_87e, db_37e, db_31e, db_28e, db_281e, db_211e, db_27, db_269w, db_litL, pk_lT, db_iL, db_p0_e, db_p0_n, db_p0_j, db_sub1, nI_eq, if_true, if_false, Bool.false_eq_true]
          generalize db_p0 (db_uI s0 4 0 (nI 0)) = s6 at hA2 e2
          have hA3 : db_A (db_uI s6 669 34 (nI 0)) (db_bk s 0) := db_A_e (db_uI_n (by decide)) hA2
          simp (disch := omega) only [db_lit, eq_self, db_pI_e, db_pL_e, db_bind_some, db_bd_some, nI_add, pk_mul, nI_toInt, db_m1_t, dz_cn, Int.ofNat_le, Int.ofNat_lt, decide_true, decide_false, db_ct, db_cf, not_true_eq_false, not_false_eq_true, db_87e, db_37e, db_31e, db_28e, db_281e, db_211e, db_27, db_269w, db_litL, pk_lT, db_iL, db_p0_e, db_p0_n, db_p0_j, db_sub1, nI_eq, if_true, if_false, Bool.false_eq_true, db_289 hA2 k3, hx, hy, hab, db_336 hA2 hO ha hb, hq, db_g_674, hA3]
          exact e2
        · rw [K0.2.2.2.2]
          by_cases e4 : a' = 274
          · subst e4
            exact ⟨K0.2.2.2.1 j (by omega), rfl⟩
          · rw [K0.2.2.1 a' e4 q3]
            exact ⟨rfl, rfl⟩
        · rw [K2.2.2.2.2]
          by_cases e4 : a' = 669
          · subst e4
            exact ⟨K2.2.2.2.1 j (by omega), rfl⟩
          · rw [K2.2.2.1 a' e4 q3]
            exact ⟨rfl, rfl⟩
end DBQ4
