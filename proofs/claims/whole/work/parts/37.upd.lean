/-! WHAT HOLDS WHERE THE BOOK'S LIFE CHANGES -/
/-- told, or the nights' text -/
def dz_tl (k : Nat) : Prop := k < 480 ∧ k ≠ 6 ∧ k ≠ 7 ∧ ¬ (12 ≤ k ∧ k ≤ 15) ∧ ¬ (91 ≤ k ∧ k ≤ 102)
def db_Te (c c' : db_C) : Prop := ∀ k, dz_tl k → c' k = c k
theorem db_hit_c {c c' : db_C} {a b : Nat} (h4 : c' 4 = c 4) (h4' : db_n c 4 ≤ 12) (h : ∀ k, 103 ≤ k → k < 127 → c' k = c k) : db_hit c' a b = db_hit c a b := by
  unfold db_hit
  rw [show db_n c' 4 = db_n c 4 by unfold db_n; rw [h4]]
  exact db_ex_cong fun k hk => by rw [h (103 + k) (by omega) (by omega), h (115 + k) (by omega) (by omega)]
theorem db_so_c {c c' : db_C} {st : Nat → Nat} {r : Nat} (h3 : c' 3 = c 3) (h : ∀ a b, db_hit c' a b = db_hit c a b) : db_so c' st r = db_so c st r := by
  unfold db_so
  rw [show db_n c' 3 = db_n c 3 by unfold db_n; rw [h3]]
  simp only [h]
theorem db_rd_c {c c' : db_C} {st : Nat → Nat} (h3 : c' 3 = c 3) (h : ∀ a b, db_hit c' a b = db_hit c a b) : ∀ n, db_rd c' st n = db_rd c st n
  | 0 => rfl
  | n + 1 => by
    funext i
    show (if i = n ∧ db_rd c' st n n = 2 then db_so c' (db_rd c' st n) n else db_rd c' st n i) = (if i = n ∧ db_rd c st n n = 2 then db_so c (db_rd c st n) n else db_rd c st n i)
    rw [db_rd_c h3 h n, db_so_c h3 h]
theorem db_rs_c {c c' : db_C} (h3 : c' 3 = c 3) (h : ∀ a b, db_hit c' a b = db_hit c a b) : ∀ m, db_rs c' m = db_rs c m
  | 0 => rfl
  | m + 1 => by
    show db_rd c' (db_rs c' m) (db_n c' 3) = db_rd c (db_rs c m) (db_n c 3)
    rw [db_rs_c h3 h m, db_rd_c h3 h, show db_n c' 3 = db_n c 3 by unfold db_n; rw [h3]]
theorem db_st_c {c c' : db_C} (h3 : c' 3 = c 3) (h : ∀ a b, db_hit c' a b = db_hit c a b) (r : Nat) : db_st c' r = db_st c r := by
  unfold db_st
  rw [db_rs_c h3 h]
theorem db_SR_c {R : Nat → Int32} {c c' : db_C} {w : Nat} (h : ∀ k, k < 6 → c' k = c k) (hw : ∀ k, k < 8 → c' (w + k) = c (w + k)) (hS : db_SR R c w) : db_SR R c' w := by
  have hn : ∀ k, k < 6 → db_n c' k = db_n c k := fun k hk => by unfold db_n; rw [h k hk]
  have e0 : c' w = c w := hw 0 (by omega)
  have e1 := hw 1 (by omega)
  have e2 := hw 2 (by omega)
  have e3 := hw 3 (by omega)
  have e6 := hw 6 (by omega)
  have e7 := hw 7 (by omega)
  unfold db_SR at hS ⊢
  rw [e0, e1, e2, e3, e6, e7, hn 5 (by omega), hn 1 (by omega), hn 2 (by omega), hn 3 (by omega)]
  exact hS
theorem db_PL_c {R : Nat → Nat → Int32} {c c' : db_C} (h : ∀ k, k < 6 → c' k = c k) (hw : ∀ k, 201 ≤ k → k < 480 → c' k = c k) : ∀ f d i j a b, j ≤ 30 → db_PL R c f d i j a b → db_PL R c' f d i j a b
  | 0, _, _, _, _, _, _, hP => hP
  | f + 1, d, i, j, a, b, hj, hP => by
    rcases hP with hP | ⟨h1, e, h2, h3, h4, h5, h6⟩
    · exact .inl hP
    · refine .inr ⟨h1, e, h2, h3, ?_, db_SR_c h (fun k hk => hw _ (by omega) (by omega)) h5, ?_⟩
      · rw [hw _ (by omega) (by omega)]; exact h4
      · rw [hw (201 + 9 * i) (by omega) (by omega)]
        rcases h6 with ⟨q1, q2, q3⟩ | ⟨q1, q2, g, q3, q4, q5, q6, q7, q8⟩
        · exact .inl ⟨q1, q2, db_PL_c h hw f d e j (a + 1) b hj q3⟩
        · exact .inr ⟨q1, q2, g, q3, q4, q5, q6, db_PL_c h hw f (d - 1) (i + 1) e (a + 1) g (by omega) q7, db_PL_c h hw f d e j (g + 1) b hj q8⟩
theorem db_PN_u {o : Nat} {s : db_S} {c c' : db_C} (h : ∀ k, k < 6 → c' k = c k) (hw : ∀ k, 199 ≤ k → k < 480 → c' k = c k) (hP : db_PN o s c) : db_PN o s c' := by
  obtain ⟨h1, n, z, h2, h3, h4, h5, h6, h7⟩ := hP
  refine ⟨?_, n, z, h2, h3, ?_, h5, h6, db_PL_c h (fun k q1 q2 => hw k (by omega) q2) 31 3 0 n 0 z (by omega) h7⟩
  · rw [hw 199 (by omega) (by omega)]; exact h1
  · rw [hw 200 (by omega) (by omega)]; exact h4
theorem db_Ok_mono {U U' : Nat} {c : db_C} (h : U ≤ U') (hO : db_Ok U c) : db_Ok U' c := by
  obtain ⟨h1, h2, h3, h4, h5, h6, h7, h8, h9⟩ := hO
  refine ⟨h1, fun r hr => ?_, h3, h4, h5, h6, h7, h8, by omega⟩
  obtain ⟨q1, q2, q3, q4, q5, q6, q7, q8⟩ := h2 r hr
  exact ⟨q1, q2, q3, q4, q5, q6, q7, by omega⟩
theorem db_B1_mono {U U' o : Nat} {s : db_S} {c : db_C} {w : Nat → Int64} (h : U ≤ U') (hB : db_B1 U o s c w) : db_B1 U' o s c w := ⟨db_Ok_mono h hB.1, hB.2.1, hB.2.2⟩
theorem db_B1_u {U U' o : Nat} {s s' : db_S} {c c' : db_C} {w : Nat → Int64} (hB : db_B1 U o s c w) (hT : db_Te c c') (hf : ∀ a, o ≤ a → a < o + 125 → a ≠ o + 59 → a ≠ o + 60 → a ≠ o + 61 → a ≠ o + 62 → s'.1 a = s.1 a) (hg : s'.2 (o + 56) = s.2 (o + 56))
    (hu : ∀ r, r < db_n c 3 → s'.1 (o + 61) r = c' (91 + r) ∧ 0 ≤ (c' (91 + r)).toInt ∧ (c' (91 + r)).toInt ≤ U') (hp : ∀ p, p < db_n c 1 → s'.1 (o + 62) p = c' (12 + p) ∧ -9999 ≤ (c' (12 + p)).toInt ∧ (c' (12 + p)).toInt ≤ 9999)
    (hs : s'.1 (o + 60) 2 = c' 7 ∧ ∃ f, c' 7 = db_mk f (db_n c 3)) (hng : s'.1 (o + 60) 3 = c' 6 ∧ 0 ≤ (c' 6).toInt ∧ (c' 6).toInt ≤ U') : db_B1 U' o s' c' w := by
  obtain ⟨hO, hR, hP⟩ := hB
  obtain ⟨r1, r2, r3, r4, r5, r6, r7, r8, r9, ⟨m, m1, m2, m3⟩, -⟩ := hR
  obtain ⟨⟨k0, k1, k2, k3, k4, k5⟩, o2, o3, o4, o5, o6, -⟩ := hO
  have j0 := k0.2
  have j1 := k1.2
  have j2 := k2.2
  have j3 := k3.2
  have j4 := k4.2
  have j5 := k5.2
  have hc : ∀ k, k < 6 → c' k = c k := fun k hk => hT k (by unfold dz_tl; omega)
  have hn : ∀ k, k < 6 → db_n c' k = db_n c k := fun k hk => by unfold db_n; rw [hc k hk]
  have hK : ∀ k m, dz_tl k → db_K c k m → db_K c' k m := fun k m hk h => by
    have e : db_n c' k = db_n c k := by unfold db_n; rw [hT k hk]
    exact ⟨by rw [e, hT k hk]; exact h.1, by rw [e]; exact h.2⟩
  have hhit : ∀ a b, db_hit c' a b = db_hit c a b := fun a b => db_hit_c (hc 4 (by omega)) j4 fun k q1 q2 => hT k (by unfold dz_tl; omega)
  have hst := db_st_c (hc 3 (by omega)) hhit
  have hnl : ∀ d, d < 8 → db_n c' (127 + d) = db_n c (127 + d) := fun d hd => by unfold db_n; rw [hT _ (by unfold dz_tl; omega)]
  refine ⟨⟨⟨hK 0 _ (by unfold dz_tl; omega) k0, hK 1 _ (by unfold dz_tl; omega) k1, hK 2 _ (by unfold dz_tl; omega) k2, hK 3 _ (by unfold dz_tl; omega) k3, hK 4 _ (by unfold dz_tl; omega) k4, hK 5 _ (by unfold dz_tl; omega) k5⟩, ?_, ?_, ?_, ?_, ?_, ?_, hng.2⟩, ⟨?_, ?_, ?_, ?_, ?_, ?_, ?_, ?_, ?_, ⟨m, m1, ?_, ?_⟩, ?_, ?_, hs.1, hng.1⟩, ?_⟩
  · intro r hr
    rw [hn 3 (by omega)] at hr
    obtain ⟨q1, q2, q3, q4, q5, q6, -⟩ := o2 r hr
    rw [hn 0 (by omega), hn 1 (by omega), hn 2 (by omega), hT (19 + r) (by unfold dz_tl; omega), hT (31 + r) (by unfold dz_tl; omega), hT (43 + r) (by unfold dz_tl; omega), hT (55 + r) (by unfold dz_tl; omega), hT (67 + r) (by unfold dz_tl; omega), hT (79 + r) (by unfold dz_tl; omega)]
    exact ⟨q1, q2, q3, q4, q5, q6, (hu r hr).2⟩
  · intro k hk
    rw [hn 4 (by omega)] at hk
    rw [hn 3 (by omega), hT (103 + k) (by unfold dz_tl; omega), hT (115 + k) (by unfold dz_tl; omega)]
    exact o3 k hk
  · intro d hd
    rw [hn 5 (by omega)] at hd
    obtain ⟨⟨q1, q2⟩, q3, q4, q5, q6⟩ := o4 d hd
    have hl := hnl d (by omega)
    have hl6 := q1.2
    refine ⟨⟨hK _ _ (by unfold dz_tl; omega) q1, by rw [hl]; exact q2⟩, fun k hk => ?_, hK _ _ (by unfold dz_tl; omega) q4, hK _ _ (by unfold dz_tl; omega) q5, ?_⟩
    · rw [hl] at hk
      rw [hn 0 (by omega), hT (151 + 6 * d + k) (by unfold dz_tl; omega)]
      exact q3 k hk
    · have e : db_n c' (143 + d) = db_n c (143 + d) := by unfold db_n; rw [hT _ (by unfold dz_tl; omega)]
      rw [e]; exact q6
  · intro p hpp
    rw [hn 1 (by omega)] at hpp
    rw [hT (8 + p) (by unfold dz_tl; omega)]
    exact ⟨(o5 p hpp).1, (hp p hpp).2⟩
  · intro p hpp
    rw [hn 2 (by omega)] at hpp
    rw [hT (16 + p) (by unfold dz_tl; omega)]
    exact o6 p hpp
  · rw [hn 3 (by omega)]; exact hs.2
  · intro k hk
    rw [hf _ (by omega) (by omega) (by omega) (by omega) (by omega) (by omega), hc k hk]; exact r1 k hk
  · intro k hk
    rw [hn 1 (by omega)] at hk
    rw [hf _ (by omega) (by omega) (by omega) (by omega) (by omega) (by omega), hT (8 + k) (by unfold dz_tl; omega)]; exact r2 k hk
  · intro k hk
    rw [hn 2 (by omega)] at hk
    rw [hf _ (by omega) (by omega) (by omega) (by omega) (by omega) (by omega), hT (16 + k) (by unfold dz_tl; omega)]; exact r3 k hk
  · intro r hr
    rw [hn 3 (by omega)] at hr
    rw [hf _ (by omega) (by omega) (by omega) (by omega) (by omega) (by omega), hT (19 + r) (by unfold dz_tl; omega), hT (31 + r) (by unfold dz_tl; omega), hT (43 + r) (by unfold dz_tl; omega), hT (55 + r) (by unfold dz_tl; omega), hT (67 + r) (by unfold dz_tl; omega), hT (79 + r) (by unfold dz_tl; omega)]
    exact r4 r hr
  · intro k hk
    rw [hn 4 (by omega)] at hk
    rw [hf _ (by omega) (by omega) (by omega) (by omega) (by omega) (by omega), hT (103 + k) (by unfold dz_tl; omega), hT (115 + k) (by unfold dz_tl; omega)]
    exact r5 k hk
  · intro d hd
    rw [hn 5 (by omega)] at hd
    have hl := hnl d (by omega)
    obtain ⟨q1, q2, q3, q4⟩ := r6 d hd
    have hl6 := (o4 d hd).1.1.2
    rw [hl, hf (o + 39) (by omega) (by omega) (by omega) (by omega) (by omega) (by omega), hf (o + 40) (by omega) (by omega) (by omega) (by omega) (by omega) (by omega), hf (o + 41) (by omega) (by omega) (by omega) (by omega) (by omega) (by omega), hf (o + 31 + d) (by omega) (by omega) (by omega) (by omega) (by omega) (by omega), hT (127 + d) (by unfold dz_tl; omega), hT (135 + d) (by unfold dz_tl; omega), hT (143 + d) (by unfold dz_tl; omega)]
    refine ⟨q1, q2, q3, fun k hk => ?_⟩
    rw [hT (151 + 6 * d + k) (by unfold dz_tl; omega)]
    exact q4 k hk
  · intro r hr
    rw [hn 3 (by omega)] at hr
    rw [hf (o + 42) (by omega) (by omega) (by omega) (by omega) (by omega) (by omega), hf (o + 43) (by omega) (by omega) (by omega) (by omega) (by omega) (by omega), hn 3 (by omega)]
    simp only [hhit]
    exact r7 r hr
  · rw [hf o (by omega) (by omega) (by omega) (by omega) (by omega) (by omega), hn 3 (by omega)]
    simp only [hst]
    exact r8
  · intro t ht
    rw [hn 0 (by omega)] at ht
    have e19 : ∀ r, r < db_n c 3 → c' (19 + r) = c (19 + r) := fun r hr => hT _ (by unfold dz_tl; omega)
    have ect : ∀ n, n ≤ db_n c 3 → fb_ct (fun r => decide (c' (19 + r) = nI t)) n = fb_ct (fun r => decide (c (19 + r) = nI t)) n := fun n hnn => fb_ct_cong fun k hk => by rw [e19 k (by omega)]
    rw [hf (o + 55) (by omega) (by omega) (by omega) (by omega) (by omega) (by omega), hf (o + 45 + t) (by omega) (by omega) (by omega) (by omega) (by omega) (by omega), hn 3 (by omega), ect _ (Nat.le_refl _)]
    refine ⟨(r9 t ht).1, fun r hr er => ?_⟩
    rw [e19 r hr] at er
    rw [ect r (by omega)]
    exact (r9 t ht).2 r hr er
  · rw [hf o (by omega) (by omega) (by omega) (by omega) (by omega) (by omega)]; exact m2
  · intro x q hq hq4
    rw [hg, hf (o + 57) (by omega) (by omega) (by omega) (by omega) (by omega) (by omega), hf (o + 58) (by omega) (by omega) (by omega) (by omega) (by omega) (by omega), m3 x q hq hq4]
    unfold db_nm
    rw [hn q hq]
  · intro r hr
    rw [hn 3 (by omega)] at hr
    exact (hu r hr).1
  · intro r hr
    rw [hn 1 (by omega)] at hr
    exact (hp r hr).1
  · refine db_PN_u hc (fun k q1 q2 => hT k (by unfold dz_tl; omega)) ?_
    exact db_PN_c (hf _ (by omega) (by omega) (by omega) (by omega) (by omega) (by omega)) (fun a ha => hf _ (by omega) (by omega) (by omega) (by omega) (by omega) (by omega)) hP
/-- all but the book at hand is as it was -/
def db_Eb (s s' : db_S) : Prop := ∀ a j, db_es a j → ¬ (a = 4 ∧ j = 0) → ¬ (a = 669 ∧ j = 0) → ¬ (20 ≤ a ∧ a ≤ 144) → ¬ (a = 674 ∧ j < 480) → ¬ (a = 676 ∧ j < 37) → s'.1 a j = s.1 a j ∧ s'.2 a j = s.2 a j
theorem db_Inv_u {U U' : Nat} {s s' : db_S} (hI : db_Inv U s) (hUU : U ≤ U') (h : db_Eb s s') (hs : s'.1 4 0 = s'.1 669 0) (hB : db_B1 U' 20 s' (db_bk s' 0) (db_bw s' 0)) : db_Inv U' s' := by
  have hv : ∀ a, 7 ≤ a → a ≠ 669 → a ≠ 674 → a ≠ 676 → ¬ (20 ≤ a ∧ a ≤ 144) → (∀ j, db_es a j) → s'.1 a = s.1 a ∧ s'.2 a = s.2 a := fun a h1 h2 h4 h5 h6 h3 => ⟨funext fun j => (h a j (h3 j) (by omega) (by omega) h6 (by omega) (by omega)).1, funext fun j => (h a j (h3 j) (by omega) (by omega) h6 (by omega) (by omega)).2⟩
  have hb : ∀ q, 1 ≤ q → q < 4 → db_bk s' q = db_bk s q := by
    intro q hq1 hq
    funext k
    unfold db_bk
    by_cases hk : k < 480
    · rw [if_pos hk, if_pos hk]
      exact (h 674 (480 * q + k) (by unfold db_es db_em; omega) (by omega) (by omega) (by omega) (by omega) (by omega)).1
    · rw [if_neg hk, if_neg hk]
  have hw : ∀ q, 1 ≤ q → q < 4 → db_bw s' q = db_bw s q := by
    intro q hq1 hq
    funext k
    unfold db_bw
    by_cases hk : k < 37
    · rw [if_pos hk, if_pos hk]
      exact (h 676 (37 * q + k) (by unfold db_es db_em; omega) (by omega) (by omega) (by omega) (by omega) (by omega)).2
    · rw [if_neg hk, if_neg hk]
  obtain ⟨-, ⟨f1, f2⟩, hT, ⟨n, n1, n2, n3, n4⟩, ⟨g1, g2⟩, hk, -, ⟨m, m1, m2, m3, m4⟩, ⟨l, l1, l2, l3, l4⟩, ⟨o1, o2⟩, p1, p2⟩ := hI
  have e1 := fun a j q1 q2 q3 q4 q5 q6 => (h a j q1 q2 q3 q4 q5 q6).1
  have e2 := fun a j q1 q2 q3 q4 q5 q6 => (h a j q1 q2 q3 q4 q5 q6).2
  refine ⟨hs, ⟨?_, ?_⟩, ?_, ⟨n, n1, ?_, ?_, ?_⟩, ⟨?_, ?_⟩, ?_, hB, ⟨m, m1, ?_, ?_, ?_⟩, ⟨l, l1, ?_, ?_, ?_⟩, ⟨?_, ?_⟩, ?_, ?_⟩
  · rw [e2 282 0 (by unfold db_es db_ec; omega) (by omega) (by omega) (by omega) (by omega) (by omega), e2 669 2 (by unfold db_es db_em; omega) (by omega) (by omega) (by omega) (by omega) (by omega)]; exact f1
  · rw [e2 282 1 (by unfold db_es db_ec; omega) (by omega) (by omega) (by omega) (by omega) (by omega), e2 669 3 (by unfold db_es db_em; omega) (by omega) (by omega) (by omega) (by omega) (by omega)]; exact f2
  · intro t ht
    rw [(hv 12 (by omega) (by omega) (by omega) (by omega) (by omega) (fun j => by unfold db_es db_ec; omega)).1, (hv 671 (by omega) (by omega) (by omega) (by omega) (by omega) (fun j => by unfold db_es db_em; omega)).1, (hv 11 (by omega) (by omega) (by omega) (by omega) (by omega) (fun j => by unfold db_es db_ec; omega)).1, (hv 670 (by omega) (by omega) (by omega) (by omega) (by omega) (fun j => by unfold db_es db_em; omega)).1, (hv (7 + t) (by omega) (by omega) (by omega) (by omega) (by omega) (fun j => by unfold db_es db_ec; omega)).2, (hv 672 (by omega) (by omega) (by omega) (by omega) (by omega) (fun j => by unfold db_es db_em; omega)).2]
    exact hT t ht
  · rw [e1 13 1 (by unfold db_es db_ec; omega) (by omega) (by omega) (by omega) (by omega) (by omega)]; exact n2
  · rw [e1 669 8 (by unfold db_es db_em; omega) (by omega) (by omega) (by omega) (by omega) (by omega)]; exact n3
  · rw [(hv 14 (by omega) (by omega) (by omega) (by omega) (by omega) (fun j => by unfold db_es db_ec; omega)).1, (hv 673 (by omega) (by omega) (by omega) (by omega) (by omega) (fun j => by unfold db_es db_em; omega)).1]; exact n4
  · rw [e1 13 2 (by unfold db_es db_ec; omega) (by omega) (by omega) (by omega) (by omega) (by omega), e1 669 10 (by unfold db_es db_em; omega) (by omega) (by omega) (by omega) (by omega) (by omega)]; exact g1
  · rw [e1 13 3 (by unfold db_es db_ec; omega) (by omega) (by omega) (by omega) (by omega) (by omega), e1 669 11 (by unfold db_es db_em; omega) (by omega) (by omega) (by omega) (by omega) (by omega)]; exact g2
  · rw [(hv 15 (by omega) (by omega) (by omega) (by omega) (by omega) (fun j => by unfold db_es db_ec; omega)).2]; exact hk
  · rw [e1 4 15 (by unfold db_es db_ec; omega) (by omega) (by omega) (by omega) (by omega) (by omega)]; exact m2
  · rw [e1 669 23 (by unfold db_es db_em; omega) (by omega) (by omega) (by omega) (by omega) (by omega)]; exact m3
  · intro q hq
    rw [hb (q + 1) (by omega) (by omega), hw (q + 1) (by omega) (by omega)]
    exact db_B1_mono hUU (db_B1_c (fun a h1 h2 h3 => (hv a (by omega) (by omega) (by omega) (by omega) (by omega) (fun j => by unfold db_es db_ec; omega)).1) (hv _ (by omega) (by omega) (by omega) (by omega) (by omega) (fun j => by unfold db_es db_ec; omega)).2 (m4 q hq))
  · rw [e1 274 1 (by unfold db_es db_ec; omega) (by omega) (by omega) (by omega) (by omega) (by omega)]; exact l2
  · rw [e1 669 34 (by unfold db_es db_em; omega) (by omega) (by omega) (by omega) (by omega) (by omega)]; exact l3
  · rw [(hv 275 (by omega) (by omega) (by omega) (by omega) (by omega) (fun j => by unfold db_es db_ec; omega)).1, (hv 680 (by omega) (by omega) (by omega) (by omega) (by omega) (fun j => by unfold db_es db_em; omega)).1]; exact l4
  · rw [e1 274 2 (by unfold db_es db_ec; omega) (by omega) (by omega) (by omega) (by omega) (by omega), e1 669 35 (by unfold db_es db_em; omega) (by omega) (by omega) (by omega) (by omega) (by omega)]; exact o1
  · rw [e1 274 2 (by unfold db_es db_ec; omega) (by omega) (by omega) (by omega) (by omega) (by omega)]; exact o2
  · rw [e1 284 0 (by unfold db_es db_ec; omega) (by omega) (by omega) (by omega) (by omega) (by omega), e1 669 40 (by unfold db_es db_em; omega) (by omega) (by omega) (by omega) (by omega) (by omega)]; exact p1
  · rw [(hv 285 (by omega) (by omega) (by omega) (by omega) (by omega) (fun j => by unfold db_es db_ec; omega)).1, (hv 683 (by omega) (by omega) (by omega) (by omega) (by omega) (fun j => by unfold db_es db_em; omega)).1]; exact p2
