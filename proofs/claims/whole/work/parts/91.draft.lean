/-! THE DRAFT of a book, in both -/
/-- names: the class's one list, the reference's by sorts -/
def dv_Nm (c : db_C) (w : Nat → Int64) (a : db_S) : Prop := ∃ m, m = db_n c 0 + db_n c 1 + db_n c 2 + db_n c 3 + db_n c 5 ∧ a.1 146 18 = nI m ∧ (∀ l q, q < 6 → q ≠ 4 → db_nc (a.2 202) (a.1 203) (a.1 204) m l q = db_o (db_nm c w l q)) ∧ ∀ i, i < m → ∃ q k, q < 6 ∧ q ≠ 4 ∧ k < 12 ∧ a.1 203 i = nI q ∧ a.1 204 i = nI k
def dv_DR (a : db_S) (c : db_C) (w : Nat → Int64) : Prop :=
  (db_K c 0 10 ∧ db_K c 1 4 ∧ db_K c 2 3 ∧ db_K c 3 12 ∧ db_K c 4 12 ∧ db_K c 5 8) ∧
  (∀ k, k < 6 → a.1 147 k = c k) ∧
  (∀ p, p < db_n c 1 → a.1 148 p = c (8 + p) ∧ (c (8 + p) = nI 0 ∨ c (8 + p) = nI 1)) ∧
  (∀ q, q < db_n c 2 → a.1 149 q = c (16 + q) ∧ (c (16 + q) = nI 0 ∨ c (16 + q) = nI 1)) ∧
  (∀ r, r < db_n c 3 → (a.1 (151 + r) 0 = c (19 + r) ∧ a.1 (151 + r) 1 = c (31 + r) ∧ a.1 (151 + r) 2 = c (43 + r) ∧ a.1 (151 + r) 3 = c (55 + r) ∧ a.1 (151 + r) 4 = c (67 + r) ∧ a.1 (151 + r) 5 = c (79 + r)) ∧
    (∃ t, t < db_n c 0 ∧ c (19 + r) = nI t) ∧ (-99 ≤ (c (31 + r)).toInt ∧ (c (31 + r)).toInt ≤ 99) ∧ db_O (c (43 + r)) (db_n c 0) ∧ db_O (c (55 + r)) (db_n c 0) ∧ db_O (c (67 + r)) (db_n c 1) ∧ db_O (c (79 + r)) (db_n c 2)) ∧
  (∀ k, k < db_n c 4 → (a.1 (164 + k) 0 = c (103 + k) ∧ a.1 (164 + k) 1 = c (115 + k)) ∧ (∃ r, r < db_n c 3 ∧ c (103 + k) = nI r) ∧ (∃ r, r < db_n c 3 ∧ c (115 + k) = nI r)) ∧
  (∀ d, d < db_n c 5 → (a.1 185 d = c (127 + d) ∧ a.1 186 d = c (135 + d) ∧ a.1 187 d = c (143 + d) ∧ ∀ k, k < db_n c (127 + d) → a.1 (177 + d) k = c (151 + 6 * d + k)) ∧
    (db_K c (127 + d) 6 ∧ 1 ≤ db_n c (127 + d)) ∧ (∀ k, k < db_n c (127 + d) → ∃ t, t < db_n c 0 ∧ c (151 + 6 * d + k) = nI t) ∧ db_K c (135 + d) 99 ∧ (db_K c (143 + d) 99 ∧ 1 ≤ db_n c (143 + d))) ∧
  dv_Nm c w a ∧
  (∀ k, (k = 6 ∨ k = 7 ∨ (12 ≤ k ∧ k < 16) ∨ (91 ≤ k ∧ k < 103) ∨ (199 ≤ k ∧ k < 480)) → c k = nI 0)
/-- the places of a new thing, person, season, rule, note, dream: the reference's, the class's -/
def dv_Nw (q k j : Nat) : Prop := (q = 1 ∧ j = 8 + k) ∨ (q = 2 ∧ j = 16 + k) ∨ (q = 3 ∧ (j = 19 + k ∨ j = 31 + k ∨ j = 43 + k ∨ j = 55 + k ∨ j = 67 + k ∨ j = 79 + k)) ∨ (q = 4 ∧ (j = 103 + k ∨ j = 115 + k)) ∨ (q = 5 ∧ (j = 127 + k ∨ j = 135 + k ∨ j = 143 + k ∨ (151 + 6 * k ≤ j ∧ j < 157 + 6 * k)))
def dv_Na (q k b j : Nat) : Prop := (q = 1 ∧ b = 148 ∧ j = k) ∨ (q = 2 ∧ b = 149 ∧ j = k) ∨ (q = 3 ∧ b = 151 + k) ∨ (q = 4 ∧ b = 164 + k) ∨ (q = 5 ∧ (b = 177 + k ∨ ((b = 185 ∨ b = 186 ∨ b = 187) ∧ j = k)))
section DVDR
variable {a a1 : db_S} {c c1 : db_C} {w w1 : Nat → Int64}
theorem dv_n_e {k : Nat} (h : c1 k = c k) : db_n c1 k = db_n c k := by unfold db_n; rw [h]
theorem dv_Nm_4 (h : dv_Nm c w a) (hc : ∀ q, q < 6 → q ≠ 4 → c1 q = c q) (h1 : a1.1 146 18 = a.1 146 18) (h2 : a1.2 202 = a.2 202) (h3 : a1.1 203 = a.1 203) (h4 : a1.1 204 = a.1 204) : dv_Nm c1 w a1 := by
  obtain ⟨m, m1, m2, m3, m4⟩ := h
  have e := fun q h1 h2 => dv_n_e (hc q h1 h2)
  refine ⟨m, by rw [e 0 (by omega) (by omega), e 1 (by omega) (by omega), e 2 (by omega) (by omega), e 3 (by omega) (by omega), e 5 (by omega) (by omega)]; exact m1, h1.trans m2, fun l q q1 q2 => ?_, fun i hi => by rw [h3, h4]; exact m4 i hi⟩
  rw [h2, h3, h4, m3 l q q1 q2]
  unfold db_nm
  rw [e q q1 q2]
theorem dv_nc_s {L : Nat → Int64} {S N : Nat → Int32} {m q : Nat} {l : Int64} : db_nc L S N (m + 1) l q = match db_fst (fun i => decide (L i = l) && decide (S i = nI q)) m with
    | some i => N i
    | none => if L m = l ∧ S m = nI q then N m else -(nI 1) := by
  unfold db_nc
  rw [db_fst]
  cases db_fst (fun i => decide (L i = l) && decide (S i = nI q)) m with
  | some i => rfl
  | none =>
    dsimp only
    by_cases h : L m = l ∧ S m = nI q
    · rw [if_pos h, if_pos (by rw [Bool.and_eq_true, decide_eq_true_eq, decide_eq_true_eq]; exact h)]
    · rw [if_neg h, if_neg (by rw [Bool.and_eq_true, decide_eq_true_eq, decide_eq_true_eq]; exact h)]
theorem dv_nc_c {L L1 : Nat → Int64} {S N S1 N1 : Nat → Int32} {m q : Nat} {l : Int64} (h1 : ∀ j, j < m → L1 j = L j) (h2 : ∀ j, j < m → S1 j = S j) (h3 : ∀ j, j < m → N1 j = N j) : db_nc L1 S1 N1 m l q = db_nc L S N m l q := by
  unfold db_nc
  have e : db_fst (fun i => decide (L1 i = l) && decide (S1 i = nI q)) m = db_fst (fun i => decide (L i = l) && decide (S i = nI q)) m := db_fst_cong fun k hk => by rw [h1 k hk, h2 k hk]
  rw [e]
  cases e2 : db_fst (fun i => decide (L i = l) && decide (S i = nI q)) m with
  | some i => exact h3 i (db_fst_lt e2)
  | none => rfl
theorem dv_fr_ne {p q i j : Nat} (hp : p < 6) (hq : q < 6) (p4 : p ≠ 4) (q4 : q ≠ 4) (hpq : p ≠ q) (hi : i < (if p = 0 then 10 else if p = 1 then 4 else if p = 2 then 3 else if p = 3 then 12 else 8)) (hj : j < (if q = 0 then 10 else if q = 1 then 4 else if q = 2 then 3 else if q = 3 then 12 else 8)) : db_fr p + i ≠ db_fr q + j := by
  unfold db_fr
  rcases (by omega : p = 0 ∨ p = 1 ∨ p = 2 ∨ p = 3 ∨ p = 5) with rfl | rfl | rfl | rfl | rfl <;> rcases (by omega : q = 0 ∨ q = 1 ∨ q = 2 ∨ q = 3 ∨ q = 5) with rfl | rfl | rfl | rfl | rfl <;> simp at hpq hi hj ⊢ <;> omega
def dv_mx (q : Nat) : Nat := if q = 0 then 10 else if q = 1 then 4 else if q = 2 then 3 else if q = 3 then 12 else if q = 4 then 12 else 8
theorem dv_mx_12 (q : Nat) : dv_mx q ≤ 12 := by
  unfold dv_mx
  (repeat' split) <;> omega
theorem dv_K_mx (h : dv_DR a c w) {q : Nat} (hq : q < 6) : db_K c q (dv_mx q) := by
  obtain ⟨⟨k0, k1, k2, k3, k4, k5⟩, -⟩ := h
  rcases (by omega : q = 0 ∨ q = 1 ∨ q = 2 ∨ q = 3 ∨ q = 4 ∨ q = 5) with rfl | rfl | rfl | rfl | rfl | rfl <;> assumption
/-- one name more -/
theorem dv_Nm_s {q0 k : Nat} {l0 : Int64} (h : dv_Nm c w a) (hK : ∀ q, q < 6 → db_K c q (dv_mx q)) (hq0 : q0 < 6) (h4 : q0 ≠ 4) (hk : c q0 = nI k) (hkm : k < dv_mx q0) (hk1 : c1 q0 = nI (k + 1)) (hc : ∀ q, q < 6 → q ≠ q0 → c1 q = c q)
    (hm : a1.1 146 18 = nI (db_n c 0 + db_n c 1 + db_n c 2 + db_n c 3 + db_n c 5 + 1)) (hL : ∀ j, a1.2 202 j = if j = db_n c 0 + db_n c 1 + db_n c 2 + db_n c 3 + db_n c 5 then l0 else a.2 202 j) (hS : ∀ j, a1.1 203 j = if j = db_n c 0 + db_n c 1 + db_n c 2 + db_n c 3 + db_n c 5 then nI q0 else a.1 203 j) (hN : ∀ j, a1.1 204 j = if j = db_n c 0 + db_n c 1 + db_n c 2 + db_n c 3 + db_n c 5 then nI k else a.1 204 j)
    (hw : ∀ j, w1 j = if j = db_fr q0 + k then l0 else w j) : dv_Nm c1 w1 a1 := by
  obtain ⟨m, m1, m2, m3, m4⟩ := h
  rw [← m1] at hm hL hS hN
  have hmx := dv_mx_12
  have hk12 := hmx q0
  have ek : db_n c q0 = k := dw_nI_n hk (by omega)
  have ek1 : db_n c1 q0 = k + 1 := dw_nI_n hk1 (by omega)
  have e := fun q h1 h2 => dv_n_e (hc q h1 h2)
  refine ⟨m + 1, ?_, hm, fun l q q1 q2 => ?_, fun i hi => ?_⟩
  · rcases (by omega : q0 = 0 ∨ q0 = 1 ∨ q0 = 2 ∨ q0 = 3 ∨ q0 = 5) with rfl | rfl | rfl | rfl | rfl
    · rw [ek1, e 1 (by omega) (by omega), e 2 (by omega) (by omega), e 3 (by omega) (by omega), e 5 (by omega) (by omega)]; omega
    · rw [ek1, e 0 (by omega) (by omega), e 2 (by omega) (by omega), e 3 (by omega) (by omega), e 5 (by omega) (by omega)]; omega
    · rw [ek1, e 0 (by omega) (by omega), e 1 (by omega) (by omega), e 3 (by omega) (by omega), e 5 (by omega) (by omega)]; omega
    · rw [ek1, e 0 (by omega) (by omega), e 1 (by omega) (by omega), e 2 (by omega) (by omega), e 5 (by omega) (by omega)]; omega
    · rw [ek1, e 0 (by omega) (by omega), e 1 (by omega) (by omega), e 2 (by omega) (by omega), e 3 (by omega) (by omega)]; omega
  · have hLm : a1.2 202 m = l0 := by rw [hL, if_pos rfl]
    have hSm : a1.1 203 m = nI q0 := by rw [hS, if_pos rfl]
    have hNm : a1.1 204 m = nI k := by rw [hN, if_pos rfl]
    have hold := m3 l q q1 q2
    have hc' : db_nc (a1.2 202) (a1.1 203) (a1.1 204) m l q = db_nc (a.2 202) (a.1 203) (a.1 204) m l q := dv_nc_c (fun j hj => by rw [hL, if_neg (by omega)]) (fun j hj => by rw [hS, if_neg (by omega)]) (fun j hj => by rw [hN, if_neg (by omega)])
    rw [← hc'] at hold
    have hs := dv_nc_s (L := a1.2 202) (S := a1.1 203) (N := a1.1 204) (m := m) (q := q) (l := l)
    rw [hLm, hSm, hNm] at hs
    rw [hs]
    -- the old names as they were
    have hmax : ∀ q, q < 6 → q ≠ 4 → dv_mx q = (if q = 0 then 10 else if q = 1 then 4 else if q = 2 then 3 else if q = 3 then 12 else 8) := fun q h1 h2 => by
      rcases (by omega : q = 0 ∨ q = 1 ∨ q = 2 ∨ q = 3 ∨ q = 5) with rfl | rfl | rfl | rfl | rfl <;> rfl
    have hwo : ∀ j, j < db_n c q → w1 (db_fr q + j) = w (db_fr q + j) := fun j hj => by
      rw [hw, if_neg]
      by_cases e1 : q = q0
      · subst e1; omega
      · refine dv_fr_ne q1 hq0 q2 h4 e1 ?_ ?_
        · rw [← hmax q q1 q2]; exact Nat.lt_of_lt_of_le hj (hK q q1).2
        · rw [← hmax q0 hq0 h4]; exact hkm
    have hfo : db_fst (fun j => decide (w1 (db_fr q + j) = l)) (db_n c q) = db_nm c w l q := db_fst_cong fun j hj => by rw [hwo j hj]
    unfold db_nc at hold
    by_cases eq : q = q0
    · subst eq
      have hn1 : db_nm c1 w1 l q = match db_nm c w l q with
          | some i => some i
          | none => if l0 = l then some k else none := by
        have u : db_nm c1 w1 l q = db_fst (fun j => decide (w1 (db_fr q + j) = l)) (db_n c1 q) := rfl
        rw [ek] at hfo
        rw [u, ek1, db_fst, hfo]
        cases db_nm c w l q with
        | some i => rfl
        | none =>
          dsimp only
          rw [hw, if_pos rfl]
          by_cases e1 : l0 = l
          · rw [if_pos e1, if_pos (decide_eq_true e1)]
          · rw [if_neg e1, if_neg (by rw [decide_eq_false e1]; decide)]
      rw [hn1]
      cases e2 : db_fst (fun i => decide (a1.2 202 i = l) && decide (a1.1 203 i = nI q)) m with
      | some i =>
        rw [e2] at hold
        have hold : a1.1 204 i = db_o (db_nm c w l q) := hold
        have hi := db_fst_lt e2
        obtain ⟨-, k', -, -, k3, -, k5⟩ := m4 i hi
        dsimp only
        rw [hold]
        cases e3 : db_nm c w l q with
        | some j => rfl
        | none =>
          exfalso
          rw [e3, hN, if_neg (by omega), k5] at hold
          have hold' : nI k' = -(nI 1) := hold
          rw [db_m1_ne (by omega)] at hold'
          exact hold'
      | none =>
        rw [e2] at hold
        have hold : -(nI 1) = db_o (db_nm c w l q) := hold
        dsimp only
        cases e3 : db_nm c w l q with
        | some j =>
          exfalso
          have hj := db_fst_lt e3
          rw [e3] at hold
          have hold' : -(nI 1) = nI j := hold
          rw [db_m1_en (by omega)] at hold'
          exact hold'
        | none =>
          dsimp only
          by_cases e1 : l0 = l
          · rw [if_pos ⟨e1, rfl⟩, if_pos e1]; rfl
          · rw [if_neg (fun h => e1 h.1), if_neg e1]; rfl
    · have hn1 : db_nm c1 w1 l q = db_nm c w l q := by
        unfold db_nm
        rw [e q q1 eq]
        exact hfo
      rw [hn1, ← hold]
      cases e2 : db_fst (fun i => decide (a1.2 202 i = l) && decide (a1.1 203 i = nI q)) m with
      | some i => rfl
      | none =>
        dsimp only
        rw [if_neg]
        rintro ⟨-, h2⟩
        rw [nI_eq (by omega) (by omega)] at h2
        exact eq h2.symm
  · by_cases e1 : i = m
    · subst e1
      exact ⟨q0, k, hq0, h4, by omega, by rw [hS, if_pos rfl], by rw [hN, if_pos rfl]⟩
    · obtain ⟨q, k', x1, x2, x3, x4, x5⟩ := m4 i (by omega)
      exact ⟨q, k', x1, x2, x3, by rw [hS, if_neg e1]; exact x4, by rw [hN, if_neg e1]; exact x5⟩
/-- the draft grows by one -/
theorem dv_DR_s {q0 k : Nat} (h : dv_DR a c w) (hq0 : q0 < 6) (hk : c q0 = nI k) (hkm : k < dv_mx q0) (hk1 : c1 q0 = nI (k + 1)) (hc : ∀ q, q < 6 → q ≠ q0 → c1 q = c q) (ho : ∀ j, 6 ≤ j → j < 480 → ¬ dv_Nw q0 k j → c1 j = c j)
    (hak : a1.1 147 q0 = nI (k + 1)) (hac : ∀ q, q < 6 → q ≠ q0 → a1.1 147 q = a.1 147 q) (hao : ∀ b j, 148 ≤ b → b ≤ 187 → ¬ dv_Na q0 k b j → a1.1 b j = a.1 b j) (hN : dv_Nm c1 w1 a1)
    (h1 : q0 = 1 → a1.1 148 k = c1 (8 + k) ∧ (c1 (8 + k) = nI 0 ∨ c1 (8 + k) = nI 1))
    (h2 : q0 = 2 → a1.1 149 k = c1 (16 + k) ∧ (c1 (16 + k) = nI 0 ∨ c1 (16 + k) = nI 1))
    (h3 : q0 = 3 → (a1.1 (151 + k) 0 = c1 (19 + k) ∧ a1.1 (151 + k) 1 = c1 (31 + k) ∧ a1.1 (151 + k) 2 = c1 (43 + k) ∧ a1.1 (151 + k) 3 = c1 (55 + k) ∧ a1.1 (151 + k) 4 = c1 (67 + k) ∧ a1.1 (151 + k) 5 = c1 (79 + k)) ∧
      (∃ t, t < db_n c 0 ∧ c1 (19 + k) = nI t) ∧ (-99 ≤ (c1 (31 + k)).toInt ∧ (c1 (31 + k)).toInt ≤ 99) ∧ db_O (c1 (43 + k)) (db_n c 0) ∧ db_O (c1 (55 + k)) (db_n c 0) ∧ db_O (c1 (67 + k)) (db_n c 1) ∧ db_O (c1 (79 + k)) (db_n c 2))
    (h4 : q0 = 4 → (a1.1 (164 + k) 0 = c1 (103 + k) ∧ a1.1 (164 + k) 1 = c1 (115 + k)) ∧ (∃ r, r < db_n c 3 ∧ c1 (103 + k) = nI r) ∧ (∃ r, r < db_n c 3 ∧ c1 (115 + k) = nI r))
    (h5 : q0 = 5 → (a1.1 185 k = c1 (127 + k) ∧ a1.1 186 k = c1 (135 + k) ∧ a1.1 187 k = c1 (143 + k) ∧ ∀ j, j < db_n c1 (127 + k) → a1.1 (177 + k) j = c1 (151 + 6 * k + j)) ∧
      (db_K c1 (127 + k) 6 ∧ 1 ≤ db_n c1 (127 + k)) ∧ (∀ j, j < db_n c1 (127 + k) → ∃ t, t < db_n c 0 ∧ c1 (151 + 6 * k + j) = nI t) ∧ db_K c1 (135 + k) 99 ∧ (db_K c1 (143 + k) 99 ∧ 1 ≤ db_n c1 (143 + k))) : dv_DR a1 c1 w1 := by
  have hKm := fun q hq => dv_K_mx h (q := q) hq
  obtain ⟨⟨k0, k1, k2, k3, k4, k5⟩, d1, d2, d3, d4, d5, d6, -, d8⟩ := h
  have hmx : dv_mx q0 ≤ 12 := dv_mx_12 q0
  have hmq : q0 = 0 ∨ (q0 = 1 ∧ k < 4) ∨ (q0 = 2 ∧ k < 3) ∨ (q0 = 3 ∧ k < 12) ∨ (q0 = 4 ∧ k < 12) ∨ (q0 = 5 ∧ k < 8) := by
    rcases (by omega : q0 = 0 ∨ q0 = 1 ∨ q0 = 2 ∨ q0 = 3 ∨ q0 = 4 ∨ q0 = 5) with rfl | rfl | rfl | rfl | rfl | rfl
    · exact .inl rfl
    · exact .inr (.inl ⟨rfl, hkm⟩)
    · exact .inr (.inr (.inl ⟨rfl, hkm⟩))
    · exact .inr (.inr (.inr (.inl ⟨rfl, hkm⟩)))
    · exact .inr (.inr (.inr (.inr (.inl ⟨rfl, hkm⟩))))
    · exact .inr (.inr (.inr (.inr (.inr ⟨rfl, hkm⟩))))
  have ek : db_n c q0 = k := dw_nI_n hk (by omega)
  have ek1 : db_n c1 q0 = k + 1 := dw_nI_n hk1 (by omega)
  have e := fun q h1 h2 => dv_n_e (hc q h1 h2)
  have hn : ∀ q, q < 6 → db_n c1 q = if q = q0 then k + 1 else db_n c q := fun q hq => by
    by_cases e1 : q = q0
    · subst e1; rw [if_pos rfl]; exact ek1
    · rw [if_neg e1]; exact e q hq e1
  have hge : ∀ q, q < 6 → db_n c q ≤ db_n c1 q := fun q hq => by
    rw [hn q hq]
    by_cases e1 : q = q0
    · subst e1; rw [if_pos rfl]; omega
    · rw [if_neg e1]; exact Nat.le_refl _
  have hK1 : ∀ q, q < 6 → db_K c1 q (dv_mx q) := fun q hq => by
    by_cases e1 : q = q0
    · subst e1; exact ⟨by rw [ek1]; exact hk1, by rw [ek1]; exact hkm⟩
    · unfold db_K; rw [e q hq e1, hc q hq e1]; exact hKm q hq
  have hO : ∀ {v : Int32} {q : Nat}, q < 6 → db_O v (db_n c q) → db_O v (db_n c1 q) := fun {v q} hq h => by
    rcases h with h | ⟨j, j1, j2⟩
    · exact .inl h
    · exact .inr ⟨j, Nat.lt_of_lt_of_le j1 (hge q hq), j2⟩
  have hX : ∀ {v : Int32} {q : Nat}, q < 6 → (∃ t, t < db_n c q ∧ v = nI t) → ∃ t, t < db_n c1 q ∧ v = nI t := fun {v q} hq h => by
    obtain ⟨j, j1, j2⟩ := h
    exact ⟨j, Nat.lt_of_lt_of_le j1 (hge q hq), j2⟩
  have j0 := k0.2
  have j1 := k1.2
  have j2 := k2.2
  have j3 := k3.2
  have j4 := k4.2
  have j5 := k5.2
  refine ⟨⟨hK1 0 (by omega), hK1 1 (by omega), hK1 2 (by omega), hK1 3 (by omega), hK1 4 (by omega), hK1 5 (by omega)⟩, fun q hq => ?_, fun p hp => ?_, fun q hq => ?_, fun r hr => ?_, fun r hr => ?_, fun d hd => ?_, hN, fun j hj => ?_⟩
  · by_cases e1 : q = q0
    · subst e1; rw [hak, hk1]
    · rw [hac q hq e1, hc q hq e1]; exact d1 q hq
  · rw [hn 1 (by omega)] at hp
    by_cases e1 : q0 = 1 ∧ p = k
    · obtain ⟨e1, e2⟩ := e1
      subst e2
      exact h1 e1
    · have hp' : p < db_n c 1 := by
        by_cases e2 : 1 = q0
        · rw [if_pos e2] at hp; have : db_n c 1 = k := by rw [e2]; exact ek
          omega
        · rw [if_neg e2] at hp; exact hp
      rw [ho (8 + p) (by omega) (by omega) (by unfold dv_Nw; omega), hao 148 p (by omega) (by omega) (by unfold dv_Na; omega)]
      exact d2 p hp'
  · rw [hn 2 (by omega)] at hq
    by_cases e1 : q0 = 2 ∧ q = k
    · obtain ⟨e1, e2⟩ := e1
      subst e2
      exact h2 e1
    · have hp' : q < db_n c 2 := by
        by_cases e2 : 2 = q0
        · rw [if_pos e2] at hq; have : db_n c 2 = k := by rw [e2]; exact ek
          omega
        · rw [if_neg e2] at hq; exact hq
      rw [ho (16 + q) (by omega) (by omega) (by unfold dv_Nw; omega), hao 149 q (by omega) (by omega) (by unfold dv_Na; omega)]
      exact d3 q hp'
  · rw [hn 3 (by omega)] at hr
    by_cases e1 : q0 = 3 ∧ r = k
    · obtain ⟨e1, e2⟩ := e1
      subst e2
      obtain ⟨x1, x2, x3, x4, x5, x6, x7⟩ := h3 e1
      exact ⟨x1, hX (by omega) x2, x3, hO (by omega) x4, hO (by omega) x5, hO (by omega) x6, hO (by omega) x7⟩
    · have hp' : r < db_n c 3 := by
        by_cases e2 : 3 = q0
        · rw [if_pos e2] at hr; have : db_n c 3 = k := by rw [e2]; exact ek
          omega
        · rw [if_neg e2] at hr; exact hr
      obtain ⟨x1, x2, x3, x4, x5, x6, x7⟩ := d4 r hp'
      have hA : ∀ j, a1.1 (151 + r) j = a.1 (151 + r) j := fun j => hao (151 + r) j (by omega) (by omega) (by unfold dv_Na; omega)
      rw [ho (19 + r) (by omega) (by omega) (by unfold dv_Nw; omega), ho (31 + r) (by omega) (by omega) (by unfold dv_Nw; omega), ho (43 + r) (by omega) (by omega) (by unfold dv_Nw; omega), ho (55 + r) (by omega) (by omega) (by unfold dv_Nw; omega), ho (67 + r) (by omega) (by omega) (by unfold dv_Nw; omega), ho (79 + r) (by omega) (by omega) (by unfold dv_Nw; omega), hA, hA, hA, hA, hA, hA]
      exact ⟨x1, hX (by omega) x2, x3, hO (by omega) x4, hO (by omega) x5, hO (by omega) x6, hO (by omega) x7⟩
  · rw [hn 4 (by omega)] at hr
    by_cases e1 : q0 = 4 ∧ r = k
    · obtain ⟨e1, e2⟩ := e1
      subst e2
      obtain ⟨x1, x2, x3⟩ := h4 e1
      exact ⟨x1, hX (by omega) x2, hX (by omega) x3⟩
    · have hp' : r < db_n c 4 := by
        by_cases e2 : 4 = q0
        · rw [if_pos e2] at hr; have : db_n c 4 = k := by rw [e2]; exact ek
          omega
        · rw [if_neg e2] at hr; exact hr
      obtain ⟨x1, x2, x3⟩ := d5 r hp'
      have hA : ∀ j, a1.1 (164 + r) j = a.1 (164 + r) j := fun j => hao (164 + r) j (by omega) (by omega) (by unfold dv_Na; omega)
      rw [ho (103 + r) (by omega) (by omega) (by unfold dv_Nw; omega), ho (115 + r) (by omega) (by omega) (by unfold dv_Nw; omega), hA, hA]
      exact ⟨x1, hX (by omega) x2, hX (by omega) x3⟩
  · rw [hn 5 (by omega)] at hd
    by_cases e1 : q0 = 5 ∧ d = k
    · obtain ⟨e1, e2⟩ := e1
      subst e2
      obtain ⟨x1, x2, x3, x4⟩ := h5 e1
      exact ⟨x1, x2, fun j hj => hX (by omega) (x3 j hj), x4⟩
    · have hp' : d < db_n c 5 := by
        by_cases e2 : 5 = q0
        · rw [if_pos e2] at hd; have : db_n c 5 = k := by rw [e2]; exact ek
          omega
        · rw [if_neg e2] at hd; exact hd
      obtain ⟨⟨x0, x1, x2, x3⟩, x4, x5, x6, x7⟩ := d6 d hp'
      have n127 : db_n c1 (127 + d) = db_n c (127 + d) := dv_n_e (ho (127 + d) (by omega) (by omega) (by unfold dv_Nw; omega))
      have n135 : db_n c1 (135 + d) = db_n c (135 + d) := dv_n_e (ho (135 + d) (by omega) (by omega) (by unfold dv_Nw; omega))
      have n143 : db_n c1 (143 + d) = db_n c (143 + d) := dv_n_e (ho (143 + d) (by omega) (by omega) (by unfold dv_Nw; omega))
      have h6 := x4.1.2
      unfold db_K
      rw [n127, n135, n143, ho (127 + d) (by omega) (by omega) (by unfold dv_Nw; omega), ho (135 + d) (by omega) (by omega) (by unfold dv_Nw; omega), ho (143 + d) (by omega) (by omega) (by unfold dv_Nw; omega), hao 185 d (by omega) (by omega) (by unfold dv_Na; omega), hao 186 d (by omega) (by omega) (by unfold dv_Na; omega), hao 187 d (by omega) (by omega) (by unfold dv_Na; omega)]
      refine ⟨⟨x0, x1, x2, fun j hj => ?_⟩, x4, fun j hj => ?_, x6, x7⟩
      · rw [hao (177 + d) j (by omega) (by omega) (by unfold dv_Na; omega), ho (151 + 6 * d + j) (by omega) (by omega) (by unfold dv_Nw; omega)]
        exact x3 j hj
      · rw [ho (151 + 6 * d + j) (by omega) (by omega) (by unfold dv_Nw; omega)]
        exact hX (by omega) (x5 j hj)
  · rw [ho j (by omega) (by omega) (by unfold dv_Nw; omega)]
    exact d8 j hj
end DVDR
