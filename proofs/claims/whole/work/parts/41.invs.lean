/-! WHAT HOLDS AGAIN, by what has changed (written by gen41.py) -/
theorem db_Inv_frac {U U' : Nat} {s s' : db_S} (hI : db_Inv U s) (hUU : U ≤ U') (h : ∀ a j, db_es a j → ¬ ((a = 4 ∧ j = 0) ∨ (a = 669 ∧ j = 0) ∨ (a = 282 ∧ j ≤ 1) ∨ (a = 669 ∧ (j = 2 ∨ j = 3))) → s'.1 a j = s.1 a j ∧ s'.2 a j = s.2 a j) (hs : s'.1 4 0 = s'.1 669 0) (c_frac : s'.2 282 0 = s'.2 669 2 ∧ s'.2 282 1 = s'.2 669 3) : db_Inv U' s' := by
  have hv : ∀ a, 7 ≤ a → a ≠ 669 → (∀ j, db_es a j) → (∀ j, ¬ ((a = 4 ∧ j = 0) ∨ (a = 669 ∧ j = 0) ∨ (a = 282 ∧ j ≤ 1) ∨ (a = 669 ∧ (j = 2 ∨ j = 3)))) → s'.1 a = s.1 a ∧ s'.2 a = s.2 a := fun a h1 h2 h3 h4 => ⟨funext fun j => (h a j (h3 j) (h4 j)).1, funext fun j => (h a j (h3 j) (h4 j)).2⟩
  have e1 := fun a j q1 q2 => (h a j q1 q2).1
  have e2 := fun a j q1 q2 => (h a j q1 q2).2
  have hb : ∀ q, 0 ≤ q → q < 4 → db_bk s' q = db_bk s q := by
    intro q hq1 hq
    funext k
    unfold db_bk
    by_cases hk : k < 480
    · rw [if_pos hk, if_pos hk]
      exact (h 674 (480 * q + k) (by unfold db_es db_em; omega) (by omega)).1
    · rw [if_neg hk, if_neg hk]
  have hw : ∀ q, 0 ≤ q → q < 4 → db_bw s' q = db_bw s q := by
    intro q hq1 hq
    funext k
    unfold db_bw
    by_cases hk : k < 37
    · rw [if_pos hk, if_pos hk]
      exact (h 676 (37 * q + k) (by unfold db_es db_em; omega) (by omega)).2
    · rw [if_neg hk, if_neg hk]
  obtain ⟨-, ⟨f1, f2⟩, hT, ⟨n, n1, n2, n3, n4⟩, ⟨g1, g2⟩, hk, hB, ⟨m, m1, m2, m3, m4⟩, ⟨l, l1, l2, l3, l4⟩, ⟨o1, o2⟩, p1, p2⟩ := hI
  refine ⟨hs, c_frac, ?_, ⟨n, n1, ?_, ?_, ?_⟩, ⟨?_, ?_⟩, ?_, ?_, ⟨m, m1, ?_, ?_, ?_⟩, ⟨l, l1, ?_, ?_, ?_⟩, ⟨?_, ?_⟩, ⟨?_, ?_⟩⟩
  · intro t ht
    rw [(hv (12) (by omega) (by omega) (fun j => by unfold db_es db_ec; omega) (fun j => by omega)).1, (hv (671) (by omega) (by omega) (fun j => by unfold db_es db_em; omega) (fun j => by omega)).1, (hv (11) (by omega) (by omega) (fun j => by unfold db_es db_ec; omega) (fun j => by omega)).1, (hv (670) (by omega) (by omega) (fun j => by unfold db_es db_em; omega) (fun j => by omega)).1, (hv (7 + t) (by omega) (by omega) (fun j => by unfold db_es db_ec; omega) (fun j => by omega)).2, (hv (672) (by omega) (by omega) (fun j => by unfold db_es db_em; omega) (fun j => by omega)).2]
    exact hT t ht
  · rw [e1 13 1 (by unfold db_es db_ec; omega) (by omega)]; exact n2
  · rw [e1 669 8 (by unfold db_es db_em; omega) (by omega)]; exact n3
  · rw [(hv (14) (by omega) (by omega) (fun j => by unfold db_es db_ec; omega) (fun j => by omega)).1, (hv (673) (by omega) (by omega) (fun j => by unfold db_es db_em; omega) (fun j => by omega)).1]; exact n4
  · rw [e1 13 2 (by unfold db_es db_ec; omega) (by omega), e1 669 10 (by unfold db_es db_em; omega) (by omega)]; exact g1
  · rw [e1 13 3 (by unfold db_es db_ec; omega) (by omega), e1 669 11 (by unfold db_es db_em; omega) (by omega)]; exact g2
  · rw [(hv (15) (by omega) (by omega) (fun j => by unfold db_es db_ec; omega) (fun j => by omega)).2]; exact hk
  · rw [hb 0 (by omega) (by omega), hw 0 (by omega) (by omega)]
    exact db_B1_mono hUU (db_B1_c (fun a h1 h2 h3 => (hv (a) (by omega) (by omega) (fun j => by unfold db_es db_ec; omega) (fun j => by omega)).1) (hv (76) (by omega) (by omega) (fun j => by unfold db_es db_ec; omega) (fun j => by omega)).2 hB)
  · rw [e1 4 15 (by unfold db_es db_ec; omega) (by omega)]; exact m2
  · rw [e1 669 23 (by unfold db_es db_em; omega) (by omega)]; exact m3
  · intro q hq
    rw [hb (q + 1) (by omega) (by omega), hw (q + 1) (by omega) (by omega)]
    exact db_B1_mono hUU (db_B1_c (fun a h1 h2 h3 => (hv (a) (by omega) (by omega) (fun j => by unfold db_es db_ec; omega) (fun j => by omega)).1) (hv (294 + 125 * q + 56) (by omega) (by omega) (fun j => by unfold db_es db_ec; omega) (fun j => by omega)).2 (m4 q hq))
  · rw [e1 274 1 (by unfold db_es db_ec; omega) (by omega)]; exact l2
  · rw [e1 669 34 (by unfold db_es db_em; omega) (by omega)]; exact l3
  · rw [(hv (275) (by omega) (by omega) (fun j => by unfold db_es db_ec; omega) (fun j => by omega)).1, (hv (680) (by omega) (by omega) (fun j => by unfold db_es db_em; omega) (fun j => by omega)).1]; exact l4
  · rw [e1 274 2 (by unfold db_es db_ec; omega) (by omega), e1 669 35 (by unfold db_es db_em; omega) (by omega)]; exact o1
  · rw [e1 274 2 (by unfold db_es db_ec; omega) (by omega)]; exact o2
  · rw [e1 284 0 (by unfold db_es db_ec; omega) (by omega), e1 669 40 (by unfold db_es db_em; omega) (by omega)]; exact p1
  · rw [(hv (285) (by omega) (by omega) (fun j => by unfold db_es db_ec; omega) (fun j => by omega)).1, (hv (683) (by omega) (by omega) (fun j => by unfold db_es db_em; omega) (fun j => by omega)).1]; exact p2

theorem db_Inv_trays {U U' : Nat} {s s' : db_S} (hI : db_Inv U s) (hUU : U ≤ U') (h : ∀ a j, db_es a j → ¬ ((a = 4 ∧ j = 0) ∨ (a = 669 ∧ j = 0) ∨ (7 ≤ a ∧ a ≤ 12) ∨ (670 ≤ a ∧ a ≤ 672)) → s'.1 a j = s.1 a j ∧ s'.2 a j = s.2 a j) (hs : s'.1 4 0 = s'.1 669 0) (c_trays : ∀ t, t < 4 → s'.1 12 t = s'.1 671 t ∧ (s'.1 12 t = -(nI 1) ∨ ∃ n, n ≤ 60 ∧ s'.1 12 t = nI n ∧ s'.1 11 t = s'.1 670 t ∧ (∃ q, q < 4 ∧ s'.1 670 t = nI q) ∧ ∀ p, p < n → s'.2 (7 + t) p = s'.2 672 (60 * t + p))) : db_Inv U' s' := by
  have hv : ∀ a, 7 ≤ a → a ≠ 669 → (∀ j, db_es a j) → (∀ j, ¬ ((a = 4 ∧ j = 0) ∨ (a = 669 ∧ j = 0) ∨ (7 ≤ a ∧ a ≤ 12) ∨ (670 ≤ a ∧ a ≤ 672))) → s'.1 a = s.1 a ∧ s'.2 a = s.2 a := fun a h1 h2 h3 h4 => ⟨funext fun j => (h a j (h3 j) (h4 j)).1, funext fun j => (h a j (h3 j) (h4 j)).2⟩
  have e1 := fun a j q1 q2 => (h a j q1 q2).1
  have e2 := fun a j q1 q2 => (h a j q1 q2).2
  have hb : ∀ q, 0 ≤ q → q < 4 → db_bk s' q = db_bk s q := by
    intro q hq1 hq
    funext k
    unfold db_bk
    by_cases hk : k < 480
    · rw [if_pos hk, if_pos hk]
      exact (h 674 (480 * q + k) (by unfold db_es db_em; omega) (by omega)).1
    · rw [if_neg hk, if_neg hk]
  have hw : ∀ q, 0 ≤ q → q < 4 → db_bw s' q = db_bw s q := by
    intro q hq1 hq
    funext k
    unfold db_bw
    by_cases hk : k < 37
    · rw [if_pos hk, if_pos hk]
      exact (h 676 (37 * q + k) (by unfold db_es db_em; omega) (by omega)).2
    · rw [if_neg hk, if_neg hk]
  obtain ⟨-, ⟨f1, f2⟩, hT, ⟨n, n1, n2, n3, n4⟩, ⟨g1, g2⟩, hk, hB, ⟨m, m1, m2, m3, m4⟩, ⟨l, l1, l2, l3, l4⟩, ⟨o1, o2⟩, p1, p2⟩ := hI
  refine ⟨hs, ⟨?_, ?_⟩, c_trays, ⟨n, n1, ?_, ?_, ?_⟩, ⟨?_, ?_⟩, ?_, ?_, ⟨m, m1, ?_, ?_, ?_⟩, ⟨l, l1, ?_, ?_, ?_⟩, ⟨?_, ?_⟩, ⟨?_, ?_⟩⟩
  · rw [e2 282 0 (by unfold db_es db_ec; omega) (by omega), e2 669 2 (by unfold db_es db_em; omega) (by omega)]; exact f1
  · rw [e2 282 1 (by unfold db_es db_ec; omega) (by omega), e2 669 3 (by unfold db_es db_em; omega) (by omega)]; exact f2
  · rw [e1 13 1 (by unfold db_es db_ec; omega) (by omega)]; exact n2
  · rw [e1 669 8 (by unfold db_es db_em; omega) (by omega)]; exact n3
  · rw [(hv (14) (by omega) (by omega) (fun j => by unfold db_es db_ec; omega) (fun j => by omega)).1, (hv (673) (by omega) (by omega) (fun j => by unfold db_es db_em; omega) (fun j => by omega)).1]; exact n4
  · rw [e1 13 2 (by unfold db_es db_ec; omega) (by omega), e1 669 10 (by unfold db_es db_em; omega) (by omega)]; exact g1
  · rw [e1 13 3 (by unfold db_es db_ec; omega) (by omega), e1 669 11 (by unfold db_es db_em; omega) (by omega)]; exact g2
  · rw [(hv (15) (by omega) (by omega) (fun j => by unfold db_es db_ec; omega) (fun j => by omega)).2]; exact hk
  · rw [hb 0 (by omega) (by omega), hw 0 (by omega) (by omega)]
    exact db_B1_mono hUU (db_B1_c (fun a h1 h2 h3 => (hv (a) (by omega) (by omega) (fun j => by unfold db_es db_ec; omega) (fun j => by omega)).1) (hv (76) (by omega) (by omega) (fun j => by unfold db_es db_ec; omega) (fun j => by omega)).2 hB)
  · rw [e1 4 15 (by unfold db_es db_ec; omega) (by omega)]; exact m2
  · rw [e1 669 23 (by unfold db_es db_em; omega) (by omega)]; exact m3
  · intro q hq
    rw [hb (q + 1) (by omega) (by omega), hw (q + 1) (by omega) (by omega)]
    exact db_B1_mono hUU (db_B1_c (fun a h1 h2 h3 => (hv (a) (by omega) (by omega) (fun j => by unfold db_es db_ec; omega) (fun j => by omega)).1) (hv (294 + 125 * q + 56) (by omega) (by omega) (fun j => by unfold db_es db_ec; omega) (fun j => by omega)).2 (m4 q hq))
  · rw [e1 274 1 (by unfold db_es db_ec; omega) (by omega)]; exact l2
  · rw [e1 669 34 (by unfold db_es db_em; omega) (by omega)]; exact l3
  · rw [(hv (275) (by omega) (by omega) (fun j => by unfold db_es db_ec; omega) (fun j => by omega)).1, (hv (680) (by omega) (by omega) (fun j => by unfold db_es db_em; omega) (fun j => by omega)).1]; exact l4
  · rw [e1 274 2 (by unfold db_es db_ec; omega) (by omega), e1 669 35 (by unfold db_es db_em; omega) (by omega)]; exact o1
  · rw [e1 274 2 (by unfold db_es db_ec; omega) (by omega)]; exact o2
  · rw [e1 284 0 (by unfold db_es db_ec; omega) (by omega), e1 669 40 (by unfold db_es db_em; omega) (by omega)]; exact p1
  · rw [(hv (285) (by omega) (by omega) (fun j => by unfold db_es db_ec; omega) (fun j => by omega)).1, (hv (683) (by omega) (by omega) (fun j => by unfold db_es db_em; omega) (fun j => by omega)).1]; exact p2

theorem db_Inv_tape {U U' : Nat} {s s' : db_S} (hI : db_Inv U s) (hUU : U ≤ U') (h : ∀ a j, db_es a j → ¬ ((a = 4 ∧ j = 0) ∨ (a = 669 ∧ j = 0) ∨ (a = 13 ∧ j = 1) ∨ a = 14 ∨ (a = 669 ∧ j = 8) ∨ a = 673) → s'.1 a j = s.1 a j ∧ s'.2 a j = s.2 a j) (hs : s'.1 4 0 = s'.1 669 0) (c_tape : ∃ n, n ≤ 900 ∧ s'.1 13 1 = nI n ∧ s'.1 669 8 = nI n ∧ ∀ k, k < n → s'.1 14 k = s'.1 673 k ∧ -128 ≤ (s'.1 14 k).toInt ∧ (s'.1 14 k).toInt < 128) : db_Inv U' s' := by
  have hv : ∀ a, 7 ≤ a → a ≠ 669 → (∀ j, db_es a j) → (∀ j, ¬ ((a = 4 ∧ j = 0) ∨ (a = 669 ∧ j = 0) ∨ (a = 13 ∧ j = 1) ∨ a = 14 ∨ (a = 669 ∧ j = 8) ∨ a = 673)) → s'.1 a = s.1 a ∧ s'.2 a = s.2 a := fun a h1 h2 h3 h4 => ⟨funext fun j => (h a j (h3 j) (h4 j)).1, funext fun j => (h a j (h3 j) (h4 j)).2⟩
  have e1 := fun a j q1 q2 => (h a j q1 q2).1
  have e2 := fun a j q1 q2 => (h a j q1 q2).2
  have hb : ∀ q, 0 ≤ q → q < 4 → db_bk s' q = db_bk s q := by
    intro q hq1 hq
    funext k
    unfold db_bk
    by_cases hk : k < 480
    · rw [if_pos hk, if_pos hk]
      exact (h 674 (480 * q + k) (by unfold db_es db_em; omega) (by omega)).1
    · rw [if_neg hk, if_neg hk]
  have hw : ∀ q, 0 ≤ q → q < 4 → db_bw s' q = db_bw s q := by
    intro q hq1 hq
    funext k
    unfold db_bw
    by_cases hk : k < 37
    · rw [if_pos hk, if_pos hk]
      exact (h 676 (37 * q + k) (by unfold db_es db_em; omega) (by omega)).2
    · rw [if_neg hk, if_neg hk]
  obtain ⟨-, ⟨f1, f2⟩, hT, ⟨n, n1, n2, n3, n4⟩, ⟨g1, g2⟩, hk, hB, ⟨m, m1, m2, m3, m4⟩, ⟨l, l1, l2, l3, l4⟩, ⟨o1, o2⟩, p1, p2⟩ := hI
  refine ⟨hs, ⟨?_, ?_⟩, ?_, c_tape, ⟨?_, ?_⟩, ?_, ?_, ⟨m, m1, ?_, ?_, ?_⟩, ⟨l, l1, ?_, ?_, ?_⟩, ⟨?_, ?_⟩, ⟨?_, ?_⟩⟩
  · rw [e2 282 0 (by unfold db_es db_ec; omega) (by omega), e2 669 2 (by unfold db_es db_em; omega) (by omega)]; exact f1
  · rw [e2 282 1 (by unfold db_es db_ec; omega) (by omega), e2 669 3 (by unfold db_es db_em; omega) (by omega)]; exact f2
  · intro t ht
    rw [(hv (12) (by omega) (by omega) (fun j => by unfold db_es db_ec; omega) (fun j => by omega)).1, (hv (671) (by omega) (by omega) (fun j => by unfold db_es db_em; omega) (fun j => by omega)).1, (hv (11) (by omega) (by omega) (fun j => by unfold db_es db_ec; omega) (fun j => by omega)).1, (hv (670) (by omega) (by omega) (fun j => by unfold db_es db_em; omega) (fun j => by omega)).1, (hv (7 + t) (by omega) (by omega) (fun j => by unfold db_es db_ec; omega) (fun j => by omega)).2, (hv (672) (by omega) (by omega) (fun j => by unfold db_es db_em; omega) (fun j => by omega)).2]
    exact hT t ht
  · rw [e1 13 2 (by unfold db_es db_ec; omega) (by omega), e1 669 10 (by unfold db_es db_em; omega) (by omega)]; exact g1
  · rw [e1 13 3 (by unfold db_es db_ec; omega) (by omega), e1 669 11 (by unfold db_es db_em; omega) (by omega)]; exact g2
  · rw [(hv (15) (by omega) (by omega) (fun j => by unfold db_es db_ec; omega) (fun j => by omega)).2]; exact hk
  · rw [hb 0 (by omega) (by omega), hw 0 (by omega) (by omega)]
    exact db_B1_mono hUU (db_B1_c (fun a h1 h2 h3 => (hv (a) (by omega) (by omega) (fun j => by unfold db_es db_ec; omega) (fun j => by omega)).1) (hv (76) (by omega) (by omega) (fun j => by unfold db_es db_ec; omega) (fun j => by omega)).2 hB)
  · rw [e1 4 15 (by unfold db_es db_ec; omega) (by omega)]; exact m2
  · rw [e1 669 23 (by unfold db_es db_em; omega) (by omega)]; exact m3
  · intro q hq
    rw [hb (q + 1) (by omega) (by omega), hw (q + 1) (by omega) (by omega)]
    exact db_B1_mono hUU (db_B1_c (fun a h1 h2 h3 => (hv (a) (by omega) (by omega) (fun j => by unfold db_es db_ec; omega) (fun j => by omega)).1) (hv (294 + 125 * q + 56) (by omega) (by omega) (fun j => by unfold db_es db_ec; omega) (fun j => by omega)).2 (m4 q hq))
  · rw [e1 274 1 (by unfold db_es db_ec; omega) (by omega)]; exact l2
  · rw [e1 669 34 (by unfold db_es db_em; omega) (by omega)]; exact l3
  · rw [(hv (275) (by omega) (by omega) (fun j => by unfold db_es db_ec; omega) (fun j => by omega)).1, (hv (680) (by omega) (by omega) (fun j => by unfold db_es db_em; omega) (fun j => by omega)).1]; exact l4
  · rw [e1 274 2 (by unfold db_es db_ec; omega) (by omega), e1 669 35 (by unfold db_es db_em; omega) (by omega)]; exact o1
  · rw [e1 274 2 (by unfold db_es db_ec; omega) (by omega)]; exact o2
  · rw [e1 284 0 (by unfold db_es db_ec; omega) (by omega), e1 669 40 (by unfold db_es db_em; omega) (by omega)]; exact p1
  · rw [(hv (285) (by omega) (by omega) (fun j => by unfold db_es db_ec; omega) (fun j => by omega)).1, (hv (683) (by omega) (by omega) (fun j => by unfold db_es db_em; omega) (fun j => by omega)).1]; exact p2

theorem db_Inv_text {U U' : Nat} {s s' : db_S} (hI : db_Inv U s) (hUU : U ≤ U') (h : ∀ a j, db_es a j → ¬ ((a = 4 ∧ j = 0) ∨ (a = 669 ∧ j = 0) ∨ (a = 13 ∧ j = 1) ∨ a = 14 ∨ (a = 669 ∧ j = 8) ∨ a = 673 ∨ (a = 13 ∧ (j = 2 ∨ j = 3)) ∨ (a = 669 ∧ (j = 10 ∨ j = 11))) → s'.1 a j = s.1 a j ∧ s'.2 a j = s.2 a j) (hs : s'.1 4 0 = s'.1 669 0) (c_tape : ∃ n, n ≤ 900 ∧ s'.1 13 1 = nI n ∧ s'.1 669 8 = nI n ∧ ∀ k, k < n → s'.1 14 k = s'.1 673 k ∧ -128 ≤ (s'.1 14 k).toInt ∧ (s'.1 14 k).toInt < 128) (c_fault : s'.1 13 2 = s'.1 669 10 ∧ s'.1 13 3 = s'.1 669 11) : db_Inv U' s' := by
  have hv : ∀ a, 7 ≤ a → a ≠ 669 → (∀ j, db_es a j) → (∀ j, ¬ ((a = 4 ∧ j = 0) ∨ (a = 669 ∧ j = 0) ∨ (a = 13 ∧ j = 1) ∨ a = 14 ∨ (a = 669 ∧ j = 8) ∨ a = 673 ∨ (a = 13 ∧ (j = 2 ∨ j = 3)) ∨ (a = 669 ∧ (j = 10 ∨ j = 11)))) → s'.1 a = s.1 a ∧ s'.2 a = s.2 a := fun a h1 h2 h3 h4 => ⟨funext fun j => (h a j (h3 j) (h4 j)).1, funext fun j => (h a j (h3 j) (h4 j)).2⟩
  have e1 := fun a j q1 q2 => (h a j q1 q2).1
  have e2 := fun a j q1 q2 => (h a j q1 q2).2
  have hb : ∀ q, 0 ≤ q → q < 4 → db_bk s' q = db_bk s q := by
    intro q hq1 hq
    funext k
    unfold db_bk
    by_cases hk : k < 480
    · rw [if_pos hk, if_pos hk]
      exact (h 674 (480 * q + k) (by unfold db_es db_em; omega) (by omega)).1
    · rw [if_neg hk, if_neg hk]
  have hw : ∀ q, 0 ≤ q → q < 4 → db_bw s' q = db_bw s q := by
    intro q hq1 hq
    funext k
    unfold db_bw
    by_cases hk : k < 37
    · rw [if_pos hk, if_pos hk]
      exact (h 676 (37 * q + k) (by unfold db_es db_em; omega) (by omega)).2
    · rw [if_neg hk, if_neg hk]
  obtain ⟨-, ⟨f1, f2⟩, hT, ⟨n, n1, n2, n3, n4⟩, ⟨g1, g2⟩, hk, hB, ⟨m, m1, m2, m3, m4⟩, ⟨l, l1, l2, l3, l4⟩, ⟨o1, o2⟩, p1, p2⟩ := hI
  refine ⟨hs, ⟨?_, ?_⟩, ?_, c_tape, c_fault, ?_, ?_, ⟨m, m1, ?_, ?_, ?_⟩, ⟨l, l1, ?_, ?_, ?_⟩, ⟨?_, ?_⟩, ⟨?_, ?_⟩⟩
  · rw [e2 282 0 (by unfold db_es db_ec; omega) (by omega), e2 669 2 (by unfold db_es db_em; omega) (by omega)]; exact f1
  · rw [e2 282 1 (by unfold db_es db_ec; omega) (by omega), e2 669 3 (by unfold db_es db_em; omega) (by omega)]; exact f2
  · intro t ht
    rw [(hv (12) (by omega) (by omega) (fun j => by unfold db_es db_ec; omega) (fun j => by omega)).1, (hv (671) (by omega) (by omega) (fun j => by unfold db_es db_em; omega) (fun j => by omega)).1, (hv (11) (by omega) (by omega) (fun j => by unfold db_es db_ec; omega) (fun j => by omega)).1, (hv (670) (by omega) (by omega) (fun j => by unfold db_es db_em; omega) (fun j => by omega)).1, (hv (7 + t) (by omega) (by omega) (fun j => by unfold db_es db_ec; omega) (fun j => by omega)).2, (hv (672) (by omega) (by omega) (fun j => by unfold db_es db_em; omega) (fun j => by omega)).2]
    exact hT t ht
  · rw [(hv (15) (by omega) (by omega) (fun j => by unfold db_es db_ec; omega) (fun j => by omega)).2]; exact hk
  · rw [hb 0 (by omega) (by omega), hw 0 (by omega) (by omega)]
    exact db_B1_mono hUU (db_B1_c (fun a h1 h2 h3 => (hv (a) (by omega) (by omega) (fun j => by unfold db_es db_ec; omega) (fun j => by omega)).1) (hv (76) (by omega) (by omega) (fun j => by unfold db_es db_ec; omega) (fun j => by omega)).2 hB)
  · rw [e1 4 15 (by unfold db_es db_ec; omega) (by omega)]; exact m2
  · rw [e1 669 23 (by unfold db_es db_em; omega) (by omega)]; exact m3
  · intro q hq
    rw [hb (q + 1) (by omega) (by omega), hw (q + 1) (by omega) (by omega)]
    exact db_B1_mono hUU (db_B1_c (fun a h1 h2 h3 => (hv (a) (by omega) (by omega) (fun j => by unfold db_es db_ec; omega) (fun j => by omega)).1) (hv (294 + 125 * q + 56) (by omega) (by omega) (fun j => by unfold db_es db_ec; omega) (fun j => by omega)).2 (m4 q hq))
  · rw [e1 274 1 (by unfold db_es db_ec; omega) (by omega)]; exact l2
  · rw [e1 669 34 (by unfold db_es db_em; omega) (by omega)]; exact l3
  · rw [(hv (275) (by omega) (by omega) (fun j => by unfold db_es db_ec; omega) (fun j => by omega)).1, (hv (680) (by omega) (by omega) (fun j => by unfold db_es db_em; omega) (fun j => by omega)).1]; exact l4
  · rw [e1 274 2 (by unfold db_es db_ec; omega) (by omega), e1 669 35 (by unfold db_es db_em; omega) (by omega)]; exact o1
  · rw [e1 274 2 (by unfold db_es db_ec; omega) (by omega)]; exact o2
  · rw [e1 284 0 (by unfold db_es db_ec; omega) (by omega), e1 669 40 (by unfold db_es db_em; omega) (by omega)]; exact p1
  · rw [(hv (285) (by omega) (by omega) (fun j => by unfold db_es db_ec; omega) (fun j => by omega)).1, (hv (683) (by omega) (by omega) (fun j => by unfold db_es db_em; omega) (fun j => by omega)).1]; exact p2

theorem db_Inv_book {U U' : Nat} {s s' : db_S} (hI : db_Inv U s) (hUU : U ≤ U') (h : ∀ a j, db_es a j → ¬ ((a = 4 ∧ j = 0) ∨ (a = 669 ∧ j = 0) ∨ (a = 13 ∧ j = 1) ∨ a = 14 ∨ (a = 669 ∧ j = 8) ∨ a = 673 ∨ (a = 13 ∧ (j = 2 ∨ j = 3)) ∨ (a = 669 ∧ (j = 10 ∨ j = 11)) ∨ (20 ≤ a ∧ a ≤ 144) ∨ (a = 674 ∧ j < 480) ∨ (a = 676 ∧ j < 37)) → s'.1 a j = s.1 a j ∧ s'.2 a j = s.2 a j) (hs : s'.1 4 0 = s'.1 669 0) (c_tape : ∃ n, n ≤ 900 ∧ s'.1 13 1 = nI n ∧ s'.1 669 8 = nI n ∧ ∀ k, k < n → s'.1 14 k = s'.1 673 k ∧ -128 ≤ (s'.1 14 k).toInt ∧ (s'.1 14 k).toInt < 128) (c_fault : s'.1 13 2 = s'.1 669 10 ∧ s'.1 13 3 = s'.1 669 11) (c_book : db_B1 U' 20 s' (db_bk s' 0) (db_bw s' 0)) : db_Inv U' s' := by
  have hv : ∀ a, 7 ≤ a → a ≠ 669 → (∀ j, db_es a j) → (∀ j, ¬ ((a = 4 ∧ j = 0) ∨ (a = 669 ∧ j = 0) ∨ (a = 13 ∧ j = 1) ∨ a = 14 ∨ (a = 669 ∧ j = 8) ∨ a = 673 ∨ (a = 13 ∧ (j = 2 ∨ j = 3)) ∨ (a = 669 ∧ (j = 10 ∨ j = 11)) ∨ (20 ≤ a ∧ a ≤ 144) ∨ (a = 674 ∧ j < 480) ∨ (a = 676 ∧ j < 37))) → s'.1 a = s.1 a ∧ s'.2 a = s.2 a := fun a h1 h2 h3 h4 => ⟨funext fun j => (h a j (h3 j) (h4 j)).1, funext fun j => (h a j (h3 j) (h4 j)).2⟩
  have e1 := fun a j q1 q2 => (h a j q1 q2).1
  have e2 := fun a j q1 q2 => (h a j q1 q2).2
  have hb : ∀ q, 1 ≤ q → q < 4 → db_bk s' q = db_bk s q := by
    intro q hq1 hq
    funext k
    unfold db_bk
    by_cases hk : k < 480
    · rw [if_pos hk, if_pos hk]
      exact (h 674 (480 * q + k) (by unfold db_es db_em; omega) (by omega)).1
    · rw [if_neg hk, if_neg hk]
  have hw : ∀ q, 1 ≤ q → q < 4 → db_bw s' q = db_bw s q := by
    intro q hq1 hq
    funext k
    unfold db_bw
    by_cases hk : k < 37
    · rw [if_pos hk, if_pos hk]
      exact (h 676 (37 * q + k) (by unfold db_es db_em; omega) (by omega)).2
    · rw [if_neg hk, if_neg hk]
  obtain ⟨-, ⟨f1, f2⟩, hT, ⟨n, n1, n2, n3, n4⟩, ⟨g1, g2⟩, hk, hB, ⟨m, m1, m2, m3, m4⟩, ⟨l, l1, l2, l3, l4⟩, ⟨o1, o2⟩, p1, p2⟩ := hI
  refine ⟨hs, ⟨?_, ?_⟩, ?_, c_tape, c_fault, ?_, c_book, ⟨m, m1, ?_, ?_, ?_⟩, ⟨l, l1, ?_, ?_, ?_⟩, ⟨?_, ?_⟩, ⟨?_, ?_⟩⟩
  · rw [e2 282 0 (by unfold db_es db_ec; omega) (by omega), e2 669 2 (by unfold db_es db_em; omega) (by omega)]; exact f1
  · rw [e2 282 1 (by unfold db_es db_ec; omega) (by omega), e2 669 3 (by unfold db_es db_em; omega) (by omega)]; exact f2
  · intro t ht
    rw [(hv (12) (by omega) (by omega) (fun j => by unfold db_es db_ec; omega) (fun j => by omega)).1, (hv (671) (by omega) (by omega) (fun j => by unfold db_es db_em; omega) (fun j => by omega)).1, (hv (11) (by omega) (by omega) (fun j => by unfold db_es db_ec; omega) (fun j => by omega)).1, (hv (670) (by omega) (by omega) (fun j => by unfold db_es db_em; omega) (fun j => by omega)).1, (hv (7 + t) (by omega) (by omega) (fun j => by unfold db_es db_ec; omega) (fun j => by omega)).2, (hv (672) (by omega) (by omega) (fun j => by unfold db_es db_em; omega) (fun j => by omega)).2]
    exact hT t ht
  · rw [(hv (15) (by omega) (by omega) (fun j => by unfold db_es db_ec; omega) (fun j => by omega)).2]; exact hk
  · rw [e1 4 15 (by unfold db_es db_ec; omega) (by omega)]; exact m2
  · rw [e1 669 23 (by unfold db_es db_em; omega) (by omega)]; exact m3
  · intro q hq
    rw [hb (q + 1) (by omega) (by omega), hw (q + 1) (by omega) (by omega)]
    exact db_B1_mono hUU (db_B1_c (fun a h1 h2 h3 => (hv (a) (by omega) (by omega) (fun j => by unfold db_es db_ec; omega) (fun j => by omega)).1) (hv (294 + 125 * q + 56) (by omega) (by omega) (fun j => by unfold db_es db_ec; omega) (fun j => by omega)).2 (m4 q hq))
  · rw [e1 274 1 (by unfold db_es db_ec; omega) (by omega)]; exact l2
  · rw [e1 669 34 (by unfold db_es db_em; omega) (by omega)]; exact l3
  · rw [(hv (275) (by omega) (by omega) (fun j => by unfold db_es db_ec; omega) (fun j => by omega)).1, (hv (680) (by omega) (by omega) (fun j => by unfold db_es db_em; omega) (fun j => by omega)).1]; exact l4
  · rw [e1 274 2 (by unfold db_es db_ec; omega) (by omega), e1 669 35 (by unfold db_es db_em; omega) (by omega)]; exact o1
  · rw [e1 274 2 (by unfold db_es db_ec; omega) (by omega)]; exact o2
  · rw [e1 284 0 (by unfold db_es db_ec; omega) (by omega), e1 669 40 (by unfold db_es db_em; omega) (by omega)]; exact p1
  · rw [(hv (285) (by omega) (by omega) (fun j => by unfold db_es db_ec; omega) (fun j => by omega)).1, (hv (683) (by omega) (by omega) (fun j => by unfold db_es db_em; omega) (fun j => by omega)).1]; exact p2

theorem db_Inv_mark {U U' : Nat} {s s' : db_S} (hI : db_Inv U s) (hUU : U ≤ U') (h : ∀ a j, db_es a j → ¬ ((a = 4 ∧ j = 0) ∨ (a = 669 ∧ j = 0) ∨ (a = 4 ∧ j = 15) ∨ (a = 669 ∧ j = 23) ∨ (294 ≤ a ∧ a < 669) ∨ (a = 674 ∧ 480 ≤ j) ∨ (a = 676 ∧ 37 ≤ j)) → s'.1 a j = s.1 a j ∧ s'.2 a j = s.2 a j) (hs : s'.1 4 0 = s'.1 669 0) (c_marks : ∃ n, n ≤ 3 ∧ s'.1 4 15 = nI n ∧ s'.1 669 23 = nI n ∧ ∀ q, q < n → db_B1 U' (294 + 125 * q) s' (db_bk s' (q + 1)) (db_bw s' (q + 1))) : db_Inv U' s' := by
  have hv : ∀ a, 7 ≤ a → a ≠ 669 → (∀ j, db_es a j) → (∀ j, ¬ ((a = 4 ∧ j = 0) ∨ (a = 669 ∧ j = 0) ∨ (a = 4 ∧ j = 15) ∨ (a = 669 ∧ j = 23) ∨ (294 ≤ a ∧ a < 669) ∨ (a = 674 ∧ 480 ≤ j) ∨ (a = 676 ∧ 37 ≤ j))) → s'.1 a = s.1 a ∧ s'.2 a = s.2 a := fun a h1 h2 h3 h4 => ⟨funext fun j => (h a j (h3 j) (h4 j)).1, funext fun j => (h a j (h3 j) (h4 j)).2⟩
  have e1 := fun a j q1 q2 => (h a j q1 q2).1
  have e2 := fun a j q1 q2 => (h a j q1 q2).2
  have hb : ∀ q, 0 ≤ q → q < 1 → db_bk s' q = db_bk s q := by
    intro q hq1 hq
    funext k
    unfold db_bk
    by_cases hk : k < 480
    · rw [if_pos hk, if_pos hk]
      exact (h 674 (480 * q + k) (by unfold db_es db_em; omega) (by omega)).1
    · rw [if_neg hk, if_neg hk]
  have hw : ∀ q, 0 ≤ q → q < 1 → db_bw s' q = db_bw s q := by
    intro q hq1 hq
    funext k
    unfold db_bw
    by_cases hk : k < 37
    · rw [if_pos hk, if_pos hk]
      exact (h 676 (37 * q + k) (by unfold db_es db_em; omega) (by omega)).2
    · rw [if_neg hk, if_neg hk]
  obtain ⟨-, ⟨f1, f2⟩, hT, ⟨n, n1, n2, n3, n4⟩, ⟨g1, g2⟩, hk, hB, ⟨m, m1, m2, m3, m4⟩, ⟨l, l1, l2, l3, l4⟩, ⟨o1, o2⟩, p1, p2⟩ := hI
  refine ⟨hs, ⟨?_, ?_⟩, ?_, ⟨n, n1, ?_, ?_, ?_⟩, ⟨?_, ?_⟩, ?_, ?_, c_marks, ⟨l, l1, ?_, ?_, ?_⟩, ⟨?_, ?_⟩, ⟨?_, ?_⟩⟩
  · rw [e2 282 0 (by unfold db_es db_ec; omega) (by omega), e2 669 2 (by unfold db_es db_em; omega) (by omega)]; exact f1
  · rw [e2 282 1 (by unfold db_es db_ec; omega) (by omega), e2 669 3 (by unfold db_es db_em; omega) (by omega)]; exact f2
  · intro t ht
    rw [(hv (12) (by omega) (by omega) (fun j => by unfold db_es db_ec; omega) (fun j => by omega)).1, (hv (671) (by omega) (by omega) (fun j => by unfold db_es db_em; omega) (fun j => by omega)).1, (hv (11) (by omega) (by omega) (fun j => by unfold db_es db_ec; omega) (fun j => by omega)).1, (hv (670) (by omega) (by omega) (fun j => by unfold db_es db_em; omega) (fun j => by omega)).1, (hv (7 + t) (by omega) (by omega) (fun j => by unfold db_es db_ec; omega) (fun j => by omega)).2, (hv (672) (by omega) (by omega) (fun j => by unfold db_es db_em; omega) (fun j => by omega)).2]
    exact hT t ht
  · rw [e1 13 1 (by unfold db_es db_ec; omega) (by omega)]; exact n2
  · rw [e1 669 8 (by unfold db_es db_em; omega) (by omega)]; exact n3
  · rw [(hv (14) (by omega) (by omega) (fun j => by unfold db_es db_ec; omega) (fun j => by omega)).1, (hv (673) (by omega) (by omega) (fun j => by unfold db_es db_em; omega) (fun j => by omega)).1]; exact n4
  · rw [e1 13 2 (by unfold db_es db_ec; omega) (by omega), e1 669 10 (by unfold db_es db_em; omega) (by omega)]; exact g1
  · rw [e1 13 3 (by unfold db_es db_ec; omega) (by omega), e1 669 11 (by unfold db_es db_em; omega) (by omega)]; exact g2
  · rw [(hv (15) (by omega) (by omega) (fun j => by unfold db_es db_ec; omega) (fun j => by omega)).2]; exact hk
  · rw [hb 0 (by omega) (by omega), hw 0 (by omega) (by omega)]
    exact db_B1_mono hUU (db_B1_c (fun a h1 h2 h3 => (hv (a) (by omega) (by omega) (fun j => by unfold db_es db_ec; omega) (fun j => by omega)).1) (hv (76) (by omega) (by omega) (fun j => by unfold db_es db_ec; omega) (fun j => by omega)).2 hB)
  · rw [e1 274 1 (by unfold db_es db_ec; omega) (by omega)]; exact l2
  · rw [e1 669 34 (by unfold db_es db_em; omega) (by omega)]; exact l3
  · rw [(hv (275) (by omega) (by omega) (fun j => by unfold db_es db_ec; omega) (fun j => by omega)).1, (hv (680) (by omega) (by omega) (fun j => by unfold db_es db_em; omega) (fun j => by omega)).1]; exact l4
  · rw [e1 274 2 (by unfold db_es db_ec; omega) (by omega), e1 669 35 (by unfold db_es db_em; omega) (by omega)]; exact o1
  · rw [e1 274 2 (by unfold db_es db_ec; omega) (by omega)]; exact o2
  · rw [e1 284 0 (by unfold db_es db_ec; omega) (by omega), e1 669 40 (by unfold db_es db_em; omega) (by omega)]; exact p1
  · rw [(hv (285) (by omega) (by omega) (fun j => by unfold db_es db_ec; omega) (fun j => by omega)).1, (hv (683) (by omega) (by omega) (fun j => by unfold db_es db_em; omega) (fun j => by omega)).1]; exact p2

theorem db_Inv_back {U U' : Nat} {s s' : db_S} (hI : db_Inv U s) (hUU : U ≤ U') (h : ∀ a j, db_es a j → ¬ ((a = 4 ∧ j = 0) ∨ (a = 669 ∧ j = 0) ∨ (20 ≤ a ∧ a ≤ 144) ∨ (a = 674 ∧ j < 480) ∨ (a = 676 ∧ j < 37) ∨ (a = 4 ∧ j = 15) ∨ (a = 669 ∧ j = 23) ∨ (294 ≤ a ∧ a < 669) ∨ (a = 674 ∧ 480 ≤ j) ∨ (a = 676 ∧ 37 ≤ j)) → s'.1 a j = s.1 a j ∧ s'.2 a j = s.2 a j) (hs : s'.1 4 0 = s'.1 669 0) (c_book : db_B1 U' 20 s' (db_bk s' 0) (db_bw s' 0)) (c_marks : ∃ n, n ≤ 3 ∧ s'.1 4 15 = nI n ∧ s'.1 669 23 = nI n ∧ ∀ q, q < n → db_B1 U' (294 + 125 * q) s' (db_bk s' (q + 1)) (db_bw s' (q + 1))) : db_Inv U' s' := by
  have hv : ∀ a, 7 ≤ a → a ≠ 669 → (∀ j, db_es a j) → (∀ j, ¬ ((a = 4 ∧ j = 0) ∨ (a = 669 ∧ j = 0) ∨ (20 ≤ a ∧ a ≤ 144) ∨ (a = 674 ∧ j < 480) ∨ (a = 676 ∧ j < 37) ∨ (a = 4 ∧ j = 15) ∨ (a = 669 ∧ j = 23) ∨ (294 ≤ a ∧ a < 669) ∨ (a = 674 ∧ 480 ≤ j) ∨ (a = 676 ∧ 37 ≤ j))) → s'.1 a = s.1 a ∧ s'.2 a = s.2 a := fun a h1 h2 h3 h4 => ⟨funext fun j => (h a j (h3 j) (h4 j)).1, funext fun j => (h a j (h3 j) (h4 j)).2⟩
  have e1 := fun a j q1 q2 => (h a j q1 q2).1
  have e2 := fun a j q1 q2 => (h a j q1 q2).2
  obtain ⟨-, ⟨f1, f2⟩, hT, ⟨n, n1, n2, n3, n4⟩, ⟨g1, g2⟩, hk, hB, ⟨m, m1, m2, m3, m4⟩, ⟨l, l1, l2, l3, l4⟩, ⟨o1, o2⟩, p1, p2⟩ := hI
  refine ⟨hs, ⟨?_, ?_⟩, ?_, ⟨n, n1, ?_, ?_, ?_⟩, ⟨?_, ?_⟩, ?_, c_book, c_marks, ⟨l, l1, ?_, ?_, ?_⟩, ⟨?_, ?_⟩, ⟨?_, ?_⟩⟩
  · rw [e2 282 0 (by unfold db_es db_ec; omega) (by omega), e2 669 2 (by unfold db_es db_em; omega) (by omega)]; exact f1
  · rw [e2 282 1 (by unfold db_es db_ec; omega) (by omega), e2 669 3 (by unfold db_es db_em; omega) (by omega)]; exact f2
  · intro t ht
    rw [(hv (12) (by omega) (by omega) (fun j => by unfold db_es db_ec; omega) (fun j => by omega)).1, (hv (671) (by omega) (by omega) (fun j => by unfold db_es db_em; omega) (fun j => by omega)).1, (hv (11) (by omega) (by omega) (fun j => by unfold db_es db_ec; omega) (fun j => by omega)).1, (hv (670) (by omega) (by omega) (fun j => by unfold db_es db_em; omega) (fun j => by omega)).1, (hv (7 + t) (by omega) (by omega) (fun j => by unfold db_es db_ec; omega) (fun j => by omega)).2, (hv (672) (by omega) (by omega) (fun j => by unfold db_es db_em; omega) (fun j => by omega)).2]
    exact hT t ht
  · rw [e1 13 1 (by unfold db_es db_ec; omega) (by omega)]; exact n2
  · rw [e1 669 8 (by unfold db_es db_em; omega) (by omega)]; exact n3
  · rw [(hv (14) (by omega) (by omega) (fun j => by unfold db_es db_ec; omega) (fun j => by omega)).1, (hv (673) (by omega) (by omega) (fun j => by unfold db_es db_em; omega) (fun j => by omega)).1]; exact n4
  · rw [e1 13 2 (by unfold db_es db_ec; omega) (by omega), e1 669 10 (by unfold db_es db_em; omega) (by omega)]; exact g1
  · rw [e1 13 3 (by unfold db_es db_ec; omega) (by omega), e1 669 11 (by unfold db_es db_em; omega) (by omega)]; exact g2
  · rw [(hv (15) (by omega) (by omega) (fun j => by unfold db_es db_ec; omega) (fun j => by omega)).2]; exact hk
  · rw [e1 274 1 (by unfold db_es db_ec; omega) (by omega)]; exact l2
  · rw [e1 669 34 (by unfold db_es db_em; omega) (by omega)]; exact l3
  · rw [(hv (275) (by omega) (by omega) (fun j => by unfold db_es db_ec; omega) (fun j => by omega)).1, (hv (680) (by omega) (by omega) (fun j => by unfold db_es db_em; omega) (fun j => by omega)).1]; exact l4
  · rw [e1 274 2 (by unfold db_es db_ec; omega) (by omega), e1 669 35 (by unfold db_es db_em; omega) (by omega)]; exact o1
  · rw [e1 274 2 (by unfold db_es db_ec; omega) (by omega)]; exact o2
  · rw [e1 284 0 (by unfold db_es db_ec; omega) (by omega), e1 669 40 (by unfold db_es db_em; omega) (by omega)]; exact p1
  · rw [(hv (285) (by omega) (by omega) (fun j => by unfold db_es db_ec; omega) (fun j => by omega)).1, (hv (683) (by omega) (by omega) (fun j => by unfold db_es db_em; omega) (fun j => by omega)).1]; exact p2

theorem db_Inv_found {U U' : Nat} {s s' : db_S} (hI : db_Inv U s) (hUU : U ≤ U') (h : ∀ a j, db_es a j → ¬ ((a = 4 ∧ j = 0) ∨ (a = 669 ∧ j = 0) ∨ (a = 274 ∧ j = 1) ∨ a = 275 ∨ (a = 669 ∧ j = 34) ∨ a = 680) → s'.1 a j = s.1 a j ∧ s'.2 a j = s.2 a j) (hs : s'.1 4 0 = s'.1 669 0) (c_found : ∃ n, n ≤ 4 ∧ s'.1 274 1 = nI n ∧ s'.1 669 34 = nI n ∧ ∀ k, k < n → s'.1 275 k = s'.1 680 k) : db_Inv U' s' := by
  have hv : ∀ a, 7 ≤ a → a ≠ 669 → (∀ j, db_es a j) → (∀ j, ¬ ((a = 4 ∧ j = 0) ∨ (a = 669 ∧ j = 0) ∨ (a = 274 ∧ j = 1) ∨ a = 275 ∨ (a = 669 ∧ j = 34) ∨ a = 680)) → s'.1 a = s.1 a ∧ s'.2 a = s.2 a := fun a h1 h2 h3 h4 => ⟨funext fun j => (h a j (h3 j) (h4 j)).1, funext fun j => (h a j (h3 j) (h4 j)).2⟩
  have e1 := fun a j q1 q2 => (h a j q1 q2).1
  have e2 := fun a j q1 q2 => (h a j q1 q2).2
  have hb : ∀ q, 0 ≤ q → q < 4 → db_bk s' q = db_bk s q := by
    intro q hq1 hq
    funext k
    unfold db_bk
    by_cases hk : k < 480
    · rw [if_pos hk, if_pos hk]
      exact (h 674 (480 * q + k) (by unfold db_es db_em; omega) (by omega)).1
    · rw [if_neg hk, if_neg hk]
  have hw : ∀ q, 0 ≤ q → q < 4 → db_bw s' q = db_bw s q := by
    intro q hq1 hq
    funext k
    unfold db_bw
    by_cases hk : k < 37
    · rw [if_pos hk, if_pos hk]
      exact (h 676 (37 * q + k) (by unfold db_es db_em; omega) (by omega)).2
    · rw [if_neg hk, if_neg hk]
  obtain ⟨-, ⟨f1, f2⟩, hT, ⟨n, n1, n2, n3, n4⟩, ⟨g1, g2⟩, hk, hB, ⟨m, m1, m2, m3, m4⟩, ⟨l, l1, l2, l3, l4⟩, ⟨o1, o2⟩, p1, p2⟩ := hI
  refine ⟨hs, ⟨?_, ?_⟩, ?_, ⟨n, n1, ?_, ?_, ?_⟩, ⟨?_, ?_⟩, ?_, ?_, ⟨m, m1, ?_, ?_, ?_⟩, c_found, ⟨?_, ?_⟩, ⟨?_, ?_⟩⟩
  · rw [e2 282 0 (by unfold db_es db_ec; omega) (by omega), e2 669 2 (by unfold db_es db_em; omega) (by omega)]; exact f1
  · rw [e2 282 1 (by unfold db_es db_ec; omega) (by omega), e2 669 3 (by unfold db_es db_em; omega) (by omega)]; exact f2
  · intro t ht
    rw [(hv (12) (by omega) (by omega) (fun j => by unfold db_es db_ec; omega) (fun j => by omega)).1, (hv (671) (by omega) (by omega) (fun j => by unfold db_es db_em; omega) (fun j => by omega)).1, (hv (11) (by omega) (by omega) (fun j => by unfold db_es db_ec; omega) (fun j => by omega)).1, (hv (670) (by omega) (by omega) (fun j => by unfold db_es db_em; omega) (fun j => by omega)).1, (hv (7 + t) (by omega) (by omega) (fun j => by unfold db_es db_ec; omega) (fun j => by omega)).2, (hv (672) (by omega) (by omega) (fun j => by unfold db_es db_em; omega) (fun j => by omega)).2]
    exact hT t ht
  · rw [e1 13 1 (by unfold db_es db_ec; omega) (by omega)]; exact n2
  · rw [e1 669 8 (by unfold db_es db_em; omega) (by omega)]; exact n3
  · rw [(hv (14) (by omega) (by omega) (fun j => by unfold db_es db_ec; omega) (fun j => by omega)).1, (hv (673) (by omega) (by omega) (fun j => by unfold db_es db_em; omega) (fun j => by omega)).1]; exact n4
  · rw [e1 13 2 (by unfold db_es db_ec; omega) (by omega), e1 669 10 (by unfold db_es db_em; omega) (by omega)]; exact g1
  · rw [e1 13 3 (by unfold db_es db_ec; omega) (by omega), e1 669 11 (by unfold db_es db_em; omega) (by omega)]; exact g2
  · rw [(hv (15) (by omega) (by omega) (fun j => by unfold db_es db_ec; omega) (fun j => by omega)).2]; exact hk
  · rw [hb 0 (by omega) (by omega), hw 0 (by omega) (by omega)]
    exact db_B1_mono hUU (db_B1_c (fun a h1 h2 h3 => (hv (a) (by omega) (by omega) (fun j => by unfold db_es db_ec; omega) (fun j => by omega)).1) (hv (76) (by omega) (by omega) (fun j => by unfold db_es db_ec; omega) (fun j => by omega)).2 hB)
  · rw [e1 4 15 (by unfold db_es db_ec; omega) (by omega)]; exact m2
  · rw [e1 669 23 (by unfold db_es db_em; omega) (by omega)]; exact m3
  · intro q hq
    rw [hb (q + 1) (by omega) (by omega), hw (q + 1) (by omega) (by omega)]
    exact db_B1_mono hUU (db_B1_c (fun a h1 h2 h3 => (hv (a) (by omega) (by omega) (fun j => by unfold db_es db_ec; omega) (fun j => by omega)).1) (hv (294 + 125 * q + 56) (by omega) (by omega) (fun j => by unfold db_es db_ec; omega) (fun j => by omega)).2 (m4 q hq))
  · rw [e1 274 2 (by unfold db_es db_ec; omega) (by omega), e1 669 35 (by unfold db_es db_em; omega) (by omega)]; exact o1
  · rw [e1 274 2 (by unfold db_es db_ec; omega) (by omega)]; exact o2
  · rw [e1 284 0 (by unfold db_es db_ec; omega) (by omega), e1 669 40 (by unfold db_es db_em; omega) (by omega)]; exact p1
  · rw [(hv (285) (by omega) (by omega) (fun j => by unfold db_es db_ec; omega) (fun j => by omega)).1, (hv (683) (by omega) (by omega) (fun j => by unfold db_es db_em; omega) (fun j => by omega)).1]; exact p2

theorem db_Inv_stock {U U' : Nat} {s s' : db_S} (hI : db_Inv U s) (hUU : U ≤ U') (h : ∀ a j, db_es a j → ¬ ((a = 4 ∧ j = 0) ∨ (a = 669 ∧ j = 0) ∨ (a = 274 ∧ j = 2) ∨ (a = 669 ∧ j = 35)) → s'.1 a j = s.1 a j ∧ s'.2 a j = s.2 a j) (hs : s'.1 4 0 = s'.1 669 0) (c_stock : s'.1 274 2 = s'.1 669 35 ∧ db_O (s'.1 274 2) 256) : db_Inv U' s' := by
  have hv : ∀ a, 7 ≤ a → a ≠ 669 → (∀ j, db_es a j) → (∀ j, ¬ ((a = 4 ∧ j = 0) ∨ (a = 669 ∧ j = 0) ∨ (a = 274 ∧ j = 2) ∨ (a = 669 ∧ j = 35))) → s'.1 a = s.1 a ∧ s'.2 a = s.2 a := fun a h1 h2 h3 h4 => ⟨funext fun j => (h a j (h3 j) (h4 j)).1, funext fun j => (h a j (h3 j) (h4 j)).2⟩
  have e1 := fun a j q1 q2 => (h a j q1 q2).1
  have e2 := fun a j q1 q2 => (h a j q1 q2).2
  have hb : ∀ q, 0 ≤ q → q < 4 → db_bk s' q = db_bk s q := by
    intro q hq1 hq
    funext k
    unfold db_bk
    by_cases hk : k < 480
    · rw [if_pos hk, if_pos hk]
      exact (h 674 (480 * q + k) (by unfold db_es db_em; omega) (by omega)).1
    · rw [if_neg hk, if_neg hk]
  have hw : ∀ q, 0 ≤ q → q < 4 → db_bw s' q = db_bw s q := by
    intro q hq1 hq
    funext k
    unfold db_bw
    by_cases hk : k < 37
    · rw [if_pos hk, if_pos hk]
      exact (h 676 (37 * q + k) (by unfold db_es db_em; omega) (by omega)).2
    · rw [if_neg hk, if_neg hk]
  obtain ⟨-, ⟨f1, f2⟩, hT, ⟨n, n1, n2, n3, n4⟩, ⟨g1, g2⟩, hk, hB, ⟨m, m1, m2, m3, m4⟩, ⟨l, l1, l2, l3, l4⟩, ⟨o1, o2⟩, p1, p2⟩ := hI
  refine ⟨hs, ⟨?_, ?_⟩, ?_, ⟨n, n1, ?_, ?_, ?_⟩, ⟨?_, ?_⟩, ?_, ?_, ⟨m, m1, ?_, ?_, ?_⟩, ⟨l, l1, ?_, ?_, ?_⟩, c_stock, ⟨?_, ?_⟩⟩
  · rw [e2 282 0 (by unfold db_es db_ec; omega) (by omega), e2 669 2 (by unfold db_es db_em; omega) (by omega)]; exact f1
  · rw [e2 282 1 (by unfold db_es db_ec; omega) (by omega), e2 669 3 (by unfold db_es db_em; omega) (by omega)]; exact f2
  · intro t ht
    rw [(hv (12) (by omega) (by omega) (fun j => by unfold db_es db_ec; omega) (fun j => by omega)).1, (hv (671) (by omega) (by omega) (fun j => by unfold db_es db_em; omega) (fun j => by omega)).1, (hv (11) (by omega) (by omega) (fun j => by unfold db_es db_ec; omega) (fun j => by omega)).1, (hv (670) (by omega) (by omega) (fun j => by unfold db_es db_em; omega) (fun j => by omega)).1, (hv (7 + t) (by omega) (by omega) (fun j => by unfold db_es db_ec; omega) (fun j => by omega)).2, (hv (672) (by omega) (by omega) (fun j => by unfold db_es db_em; omega) (fun j => by omega)).2]
    exact hT t ht
  · rw [e1 13 1 (by unfold db_es db_ec; omega) (by omega)]; exact n2
  · rw [e1 669 8 (by unfold db_es db_em; omega) (by omega)]; exact n3
  · rw [(hv (14) (by omega) (by omega) (fun j => by unfold db_es db_ec; omega) (fun j => by omega)).1, (hv (673) (by omega) (by omega) (fun j => by unfold db_es db_em; omega) (fun j => by omega)).1]; exact n4
  · rw [e1 13 2 (by unfold db_es db_ec; omega) (by omega), e1 669 10 (by unfold db_es db_em; omega) (by omega)]; exact g1
  · rw [e1 13 3 (by unfold db_es db_ec; omega) (by omega), e1 669 11 (by unfold db_es db_em; omega) (by omega)]; exact g2
  · rw [(hv (15) (by omega) (by omega) (fun j => by unfold db_es db_ec; omega) (fun j => by omega)).2]; exact hk
  · rw [hb 0 (by omega) (by omega), hw 0 (by omega) (by omega)]
    exact db_B1_mono hUU (db_B1_c (fun a h1 h2 h3 => (hv (a) (by omega) (by omega) (fun j => by unfold db_es db_ec; omega) (fun j => by omega)).1) (hv (76) (by omega) (by omega) (fun j => by unfold db_es db_ec; omega) (fun j => by omega)).2 hB)
  · rw [e1 4 15 (by unfold db_es db_ec; omega) (by omega)]; exact m2
  · rw [e1 669 23 (by unfold db_es db_em; omega) (by omega)]; exact m3
  · intro q hq
    rw [hb (q + 1) (by omega) (by omega), hw (q + 1) (by omega) (by omega)]
    exact db_B1_mono hUU (db_B1_c (fun a h1 h2 h3 => (hv (a) (by omega) (by omega) (fun j => by unfold db_es db_ec; omega) (fun j => by omega)).1) (hv (294 + 125 * q + 56) (by omega) (by omega) (fun j => by unfold db_es db_ec; omega) (fun j => by omega)).2 (m4 q hq))
  · rw [e1 274 1 (by unfold db_es db_ec; omega) (by omega)]; exact l2
  · rw [e1 669 34 (by unfold db_es db_em; omega) (by omega)]; exact l3
  · rw [(hv (275) (by omega) (by omega) (fun j => by unfold db_es db_ec; omega) (fun j => by omega)).1, (hv (680) (by omega) (by omega) (fun j => by unfold db_es db_em; omega) (fun j => by omega)).1]; exact l4
  · rw [e1 284 0 (by unfold db_es db_ec; omega) (by omega), e1 669 40 (by unfold db_es db_em; omega) (by omega)]; exact p1
  · rw [(hv (285) (by omega) (by omega) (fun j => by unfold db_es db_ec; omega) (fun j => by omega)).1, (hv (683) (by omega) (by omega) (fun j => by unfold db_es db_em; omega) (fun j => by omega)).1]; exact p2

theorem db_Inv_live {U U' : Nat} {s s' : db_S} (hI : db_Inv U s) (hUU : U ≤ U') (h : ∀ a j, db_es a j → ¬ ((a = 4 ∧ j = 0) ∨ (a = 669 ∧ j = 0) ∨ (20 ≤ a ∧ a ≤ 144) ∨ (a = 674 ∧ j < 480) ∨ (a = 676 ∧ j < 37) ∨ (a = 284 ∧ j = 0) ∨ a = 285 ∨ (a = 669 ∧ j = 40) ∨ a = 683) → s'.1 a j = s.1 a j ∧ s'.2 a j = s.2 a j) (hs : s'.1 4 0 = s'.1 669 0) (c_book : db_B1 U' 20 s' (db_bk s' 0) (db_bw s' 0)) (c_lived : s'.1 284 0 = s'.1 669 40 ∧ ∀ k, k < 5 → s'.1 285 k = s'.1 683 k) : db_Inv U' s' := by
  have hv : ∀ a, 7 ≤ a → a ≠ 669 → (∀ j, db_es a j) → (∀ j, ¬ ((a = 4 ∧ j = 0) ∨ (a = 669 ∧ j = 0) ∨ (20 ≤ a ∧ a ≤ 144) ∨ (a = 674 ∧ j < 480) ∨ (a = 676 ∧ j < 37) ∨ (a = 284 ∧ j = 0) ∨ a = 285 ∨ (a = 669 ∧ j = 40) ∨ a = 683)) → s'.1 a = s.1 a ∧ s'.2 a = s.2 a := fun a h1 h2 h3 h4 => ⟨funext fun j => (h a j (h3 j) (h4 j)).1, funext fun j => (h a j (h3 j) (h4 j)).2⟩
  have e1 := fun a j q1 q2 => (h a j q1 q2).1
  have e2 := fun a j q1 q2 => (h a j q1 q2).2
  have hb : ∀ q, 1 ≤ q → q < 4 → db_bk s' q = db_bk s q := by
    intro q hq1 hq
    funext k
    unfold db_bk
    by_cases hk : k < 480
    · rw [if_pos hk, if_pos hk]
      exact (h 674 (480 * q + k) (by unfold db_es db_em; omega) (by omega)).1
    · rw [if_neg hk, if_neg hk]
  have hw : ∀ q, 1 ≤ q → q < 4 → db_bw s' q = db_bw s q := by
    intro q hq1 hq
    funext k
    unfold db_bw
    by_cases hk : k < 37
    · rw [if_pos hk, if_pos hk]
      exact (h 676 (37 * q + k) (by unfold db_es db_em; omega) (by omega)).2
    · rw [if_neg hk, if_neg hk]
  obtain ⟨-, ⟨f1, f2⟩, hT, ⟨n, n1, n2, n3, n4⟩, ⟨g1, g2⟩, hk, hB, ⟨m, m1, m2, m3, m4⟩, ⟨l, l1, l2, l3, l4⟩, ⟨o1, o2⟩, p1, p2⟩ := hI
  refine ⟨hs, ⟨?_, ?_⟩, ?_, ⟨n, n1, ?_, ?_, ?_⟩, ⟨?_, ?_⟩, ?_, c_book, ⟨m, m1, ?_, ?_, ?_⟩, ⟨l, l1, ?_, ?_, ?_⟩, ⟨?_, ?_⟩, c_lived⟩
  · rw [e2 282 0 (by unfold db_es db_ec; omega) (by omega), e2 669 2 (by unfold db_es db_em; omega) (by omega)]; exact f1
  · rw [e2 282 1 (by unfold db_es db_ec; omega) (by omega), e2 669 3 (by unfold db_es db_em; omega) (by omega)]; exact f2
  · intro t ht
    rw [(hv (12) (by omega) (by omega) (fun j => by unfold db_es db_ec; omega) (fun j => by omega)).1, (hv (671) (by omega) (by omega) (fun j => by unfold db_es db_em; omega) (fun j => by omega)).1, (hv (11) (by omega) (by omega) (fun j => by unfold db_es db_ec; omega) (fun j => by omega)).1, (hv (670) (by omega) (by omega) (fun j => by unfold db_es db_em; omega) (fun j => by omega)).1, (hv (7 + t) (by omega) (by omega) (fun j => by unfold db_es db_ec; omega) (fun j => by omega)).2, (hv (672) (by omega) (by omega) (fun j => by unfold db_es db_em; omega) (fun j => by omega)).2]
    exact hT t ht
  · rw [e1 13 1 (by unfold db_es db_ec; omega) (by omega)]; exact n2
  · rw [e1 669 8 (by unfold db_es db_em; omega) (by omega)]; exact n3
  · rw [(hv (14) (by omega) (by omega) (fun j => by unfold db_es db_ec; omega) (fun j => by omega)).1, (hv (673) (by omega) (by omega) (fun j => by unfold db_es db_em; omega) (fun j => by omega)).1]; exact n4
  · rw [e1 13 2 (by unfold db_es db_ec; omega) (by omega), e1 669 10 (by unfold db_es db_em; omega) (by omega)]; exact g1
  · rw [e1 13 3 (by unfold db_es db_ec; omega) (by omega), e1 669 11 (by unfold db_es db_em; omega) (by omega)]; exact g2
  · rw [(hv (15) (by omega) (by omega) (fun j => by unfold db_es db_ec; omega) (fun j => by omega)).2]; exact hk
  · rw [e1 4 15 (by unfold db_es db_ec; omega) (by omega)]; exact m2
  · rw [e1 669 23 (by unfold db_es db_em; omega) (by omega)]; exact m3
  · intro q hq
    rw [hb (q + 1) (by omega) (by omega), hw (q + 1) (by omega) (by omega)]
    exact db_B1_mono hUU (db_B1_c (fun a h1 h2 h3 => (hv (a) (by omega) (by omega) (fun j => by unfold db_es db_ec; omega) (fun j => by omega)).1) (hv (294 + 125 * q + 56) (by omega) (by omega) (fun j => by unfold db_es db_ec; omega) (fun j => by omega)).2 (m4 q hq))
  · rw [e1 274 1 (by unfold db_es db_ec; omega) (by omega)]; exact l2
  · rw [e1 669 34 (by unfold db_es db_em; omega) (by omega)]; exact l3
  · rw [(hv (275) (by omega) (by omega) (fun j => by unfold db_es db_ec; omega) (fun j => by omega)).1, (hv (680) (by omega) (by omega) (fun j => by unfold db_es db_em; omega) (fun j => by omega)).1]; exact l4
  · rw [e1 274 2 (by unfold db_es db_ec; omega) (by omega), e1 669 35 (by unfold db_es db_em; omega) (by omega)]; exact o1
  · rw [e1 274 2 (by unfold db_es db_ec; omega) (by omega)]; exact o2
