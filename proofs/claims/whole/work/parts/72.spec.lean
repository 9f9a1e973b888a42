/-! LIVES: the whole run, as a function -/
abbrev dw_Tt := db_C × (Nat → Int32) × Nat × Nat
def dw_lp (r : dw_Tt → dw_Tt) : Nat → dw_Tt → dw_Tt
  | 0, t => t
  | l + 1, t => if t.2.1 6 = nI 0 then dw_lp r l (r t) else t
/-- one step -/
def dw_on (r : Nat → Nat → dw_Tt → dw_Tt) (i : Nat) (t : dw_Tt) : dw_Tt :=
  if t.2.2.1 = 300 then (t.1, db_cu (db_cu t.2.1 6 (nI 1)) 4 (nI 1), t.2.2.1, t.2.2.2)
  else if t.1 (201 + 9 * i) = nI 4 then (if dw_cd t.1 (201 + 9 * i) = true then r (i + 1) (db_n t.1 (201 + 9 * i + 8)) (t.1, t.2.1, t.2.2.1 + 1, t.2.2.2) else (t.1, t.2.1, t.2.2.1 + 1, t.2.2.2))
  else if t.1 (201 + 9 * i) = nI 5 then dw_lp (r (i + 1) (db_n t.1 (201 + 9 * i + 8))) (db_n t.1 (201 + 9 * i + 1)) (t.1, t.2.1, t.2.2.1 + 1, t.2.2.2)
  else if t.1 (201 + 9 * i) = nI 6 then (t.1, db_cu t.2.1 6 (nI 1), t.2.2.1 + 1, t.2.2.2)
  else ((dw_pm (201 + 9 * i) t.1 t.2.1 t.2.2.2).2.1, db_cu (dw_pm (201 + 9 * i) t.1 t.2.1 t.2.2.2).2.2.1 0 ((dw_pm (201 + 9 * i) t.1 t.2.1 t.2.2.2).2.2.1 0 + if (dw_pm (201 + 9 * i) t.1 t.2.1 t.2.2.2).1 then nI 0 else nI 1), t.2.2.1 + 1, (dw_pm (201 + 9 * i) t.1 t.2.1 t.2.2.2).2.2.2)
/-- steps i to j -/
def dw_al : Nat → Nat → Nat → dw_Tt → dw_Tt
  | 0, _, _, t => t
  | f + 1, i, j, t => if i = j then t else if t.2.1 6 = nI 0 then dw_al f (db_n t.1 (201 + 9 * i + 8)) j (dw_on (dw_al f) i t) else t
/-- what a run keeps: c0 the book, n steps, seeds, over or not -/
def dw_tk (U : Nat) (c0 : db_C) (t : dw_Tt) : Prop := dw_gd (U + 6 * t.2.2.1) t.1 ∧ db_Te c0 t.1 ∧ t.2.2.1 ≤ 300 ∧ t.2.2.2 < 65536 ∧ (t.2.1 6 = nI 0 ∨ t.2.1 6 = nI 1) ∧ t.1 6 = c0 6 + t.2.1 1
section DBSP
variable {U : Nat} {s0 s : db_S} {c c0 : db_C} {w : Nat → Int64} {x y z p q v : Int32} {g : Nat → Int32} {sd : Nat}
theorem dw_SR_t {R : Nat → Int32} {W : Nat} (hT : db_Te c0 c) (hW : 199 ≤ W) (hW2 : W + 9 ≤ 480) (h : db_SR R c0 W) : db_SR R c W := by
  have e : ∀ j, j < 9 → c (W + j) = c0 (W + j) := fun j hj => hT _ (by unfold dz_tl; omega)
  have e0 : c W = c0 W := e 0 (by omega)
  have n1 : db_n c 1 = db_n c0 1 := by unfold db_n; rw [hT 1 (by unfold dz_tl; omega)]
  have n2 : db_n c 2 = db_n c0 2 := by unfold db_n; rw [hT 2 (by unfold dz_tl; omega)]
  have n3 : db_n c 3 = db_n c0 3 := by unfold db_n; rw [hT 3 (by unfold dz_tl; omega)]
  have n5 : db_n c 5 = db_n c0 5 := by unfold db_n; rw [hT 5 (by unfold dz_tl; omega)]
  unfold db_SR at h ⊢
  rw [e0, n1, n2, n3, n5, e 1 (by omega), e 2 (by omega), e 3 (by omega), e 6 (by omega), e 7 (by omega)]
  exact h
theorem dw_Te_r : db_Te c c := fun _ _ => rfl
theorem dw_Te_t {c1 c2 : db_C} (h : db_Te c c1) (k : db_Te c1 c2) : db_Te c c2 := fun j hj => (k j hj).trans (h j hj)
theorem dw_Te_nx {d pp : Nat} (h12 : db_n c 3 ≤ 12) (hp : pp < 4) : db_Te c (db_nx c d pp q) := fun k hk => by
  obtain ⟨h1, h2, h3, h4, h5⟩ := hk
  unfold db_nx
  rw [db_we_n h12 h5, db_cu_n (by omega), db_cu_n (by omega)]
theorem dw_nt_Te {d pp : Nat} (h12 : db_n c 3 ≤ 12) (hp : pp < 4) : db_Te c (dw_nt c g d pp q).2.1 := by
  unfold dw_nt
  by_cases h : db_nok c d pp q = true
  · rw [if_pos h]; exact dw_Te_nx h12 hp
  · rw [if_neg h]; exact dw_Te_r
/-- nights counted -/
theorem dw_nt_6 {d pp : Nat} (h12 : db_n c 3 ≤ 12) (hp : pp < 4) {a : Int32} (h : c 6 = a + g 1) : (dw_nt c g d pp q).2.1 6 = a + (dw_nt c g d pp q).2.2 1 := by
  unfold dw_nt
  by_cases h1 : db_nok c d pp q = true
  · rw [if_pos h1]
    show db_nx c d pp q 6 = a + db_cu (db_cu (db_cu g 1 (g 1 + nI 1)) 2 (g 2 + db_ng c d pp q)) 3 (g 3 + nI (dz_nw c d pp q)) 1
    rw [db_cu_n (by decide), db_cu_n (by decide), db_cu_1]
    unfold db_nx
    rw [db_we_n h12 (by omega), db_cu_1, h, Int32.add_assoc]
  · rw [if_neg h1]; exact h
theorem dw_nt_g {d pp j : Nat} (h1 : j ≠ 1) (h2 : j ≠ 2) (h3 : j ≠ 3) : (dw_nt c g d pp q).2.2 j = g j := by
  unfold dw_nt
  by_cases h : db_nok c d pp q = true
  · rw [if_pos h]
    show db_cu (db_cu (db_cu g 1 (g 1 + nI 1)) 2 (g 2 + db_ng c d pp q)) 3 (g 3 + nI (dz_nw c d pp q)) j = _
    rw [db_cu_n h3, db_cu_n h2, db_cu_n h1]
  · rw [if_neg h]
/-- a thing done keeps all that -/
theorem dw_pm_k {R : Nat → Int32} {W : Nat} (hO : db_Ok U c) (hS : db_SR R c W) (hk : ∃ k, k ≤ 3 ∧ c W = nI k) (hsd : sd < 65536) {a : Int32} (h6 : c 6 = a + g 1) : db_Te c (dw_pm W c g sd).2.1 ∧ (dw_pm W c g sd).2.2.2 < 65536 ∧ (∀ j, j ≠ 1 → j ≠ 2 → j ≠ 3 → (dw_pm W c g sd).2.2.1 j = g j) ∧ (dw_pm W c g sd).2.1 6 = a + (dw_pm W c g sd).2.2.1 1 := by
  obtain ⟨k, k6, e0, -, b0, b1, b2, -⟩ := hS
  obtain ⟨k', hk3, e0'⟩ := hk
  have hkk : k = k' := db_nI_inj (by omega) (by omega) (e0.symm.trans e0')
  subst hkk
  have j1 := hO.1.2.1.2
  have j3 := hO.1.2.2.2.1.2
  unfold dw_pm
  rw [e0]
  rcases (by omega : k = 0 ∨ k = 1 ∨ k = 2 ∨ k = 3) with rfl | rfl | rfl | rfl
  · obtain ⟨⟨pp, hp, ep, -⟩, -⟩ := b1 (by omega)
    rw [if_pos rfl, dw_nI_n ep (by omega)]
    exact ⟨dw_nt_Te j3 (by omega), hsd, fun j n1 n2 n3 => dw_nt_g n1 n2 n3, dw_nt_6 j3 (by omega) h6⟩
  · obtain ⟨⟨pp, hp, ep, -⟩, -⟩ := b1 (by omega)
    rw [if_neg (by decide), if_pos rfl]
    by_cases h5 : db_n c 5 = 0
    · rw [if_pos h5]
      exact ⟨dw_Te_r, hsd, fun j _ _ _ => rfl, h6⟩
    · rw [if_neg h5, dw_nI_n ep (by omega)]
      exact ⟨dw_nt_Te j3 (by omega), dw_sn_lt sd, fun j n1 n2 n3 => dw_nt_g n1 n2 n3, dw_nt_6 j3 (by omega) h6⟩
  · obtain ⟨r, hr, er, -⟩ := b2 (.inl rfl)
    rw [if_neg (by decide), if_neg (by decide), if_pos rfl, dw_nI_n er (by omega)]
    by_cases hb : bt (c 7) r = true
    · rw [if_pos hb]
      exact ⟨dw_Te_r, hsd, fun j _ _ _ => rfl, h6⟩
    · rw [if_neg hb]
      refine ⟨fun k hk => db_cu_n hk.2.2.1, hsd, fun j _ _ _ => rfl, ?_⟩
      show db_cu c 7 (c 7 ||| db_b1 r) 6 = a + g 1
      rw [db_cu_n (by decide)]
      exact h6
  · obtain ⟨r, hr, er, -⟩ := b2 (.inr rfl)
    rw [if_neg (by decide), if_neg (by decide), if_neg (by decide), dw_nI_n er (by omega)]
    exact ⟨fun k hk => db_cu_n (by have := hk.2.2.2.2; omega), hsd, fun j _ _ _ => rfl, (db_cu_n (by omega)).trans h6⟩
end DBSP
