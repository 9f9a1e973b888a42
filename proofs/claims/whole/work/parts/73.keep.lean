/-! LIVES: what a run keeps -/
section DBKP
variable {U : Nat} {c0 : db_C}
theorem dw_gd_mono {U' : Nat} {c : db_C} (h : U ≤ U') (hg : dw_gd U c) : dw_gd U' c := by
  obtain ⟨s, w, hB⟩ := hg
  exact ⟨s, w, db_B1_mono h hB⟩
theorem dw_lp_k {r : dw_Tt → dw_Tt} (hr : ∀ t, dw_tk U c0 t → dw_tk U c0 (r t)) : ∀ l t, dw_tk U c0 t → dw_tk U c0 (dw_lp r l t)
  | 0, _, h => h
  | l + 1, t, h => by
    rw [dw_lp]
    by_cases e : t.2.1 6 = nI 0
    · rw [if_pos e]
      exact dw_lp_k hr l _ (hr t h)
    · rw [if_neg e]
      exact h
/-- kinds of steps -/
theorem dw_kd {R : Nat → Int32} {c : db_C} {W : Nat} (h : db_SR R c W) : (c W = nI 4) ∨ (c W = nI 5) ∨ (c W = nI 6) ∨ ∃ k, k ≤ 3 ∧ c W = nI k := by
  obtain ⟨k, k6, e0, -⟩ := h
  rcases (by omega : k = 4 ∨ k = 5 ∨ k = 6 ∨ k ≤ 3) with rfl | rfl | rfl | h
  · exact .inl e0
  · exact .inr (.inl e0)
  · exact .inr (.inr (.inl e0))
  · exact .inr (.inr (.inr ⟨k, h, e0⟩))
theorem dw_k_ne {c : db_C} {W k m : Nat} (hk : k ≤ 3) (h : c W = nI k) (hm : 4 ≤ m) (hm2 : m ≤ 6) : ¬ c W = nI m := by
  rw [h, nI_eq (by omega) (by omega)]
  omega
theorem dw_on_k {R : Nat → Int32} {r : Nat → Nat → dw_Tt → dw_Tt} {i : Nat} (hU : U + 1800 ≤ 1000000000) (hi : i < 30) (hS : db_SR R c0 (201 + 9 * i)) (hr : ∀ e t, dw_tk U c0 t → dw_tk U c0 (r (i + 1) e t)) {t : dw_Tt} (h : dw_tk U c0 t) : dw_tk U c0 (dw_on r i t) := by
  obtain ⟨c, g, n, sd⟩ := t
  obtain ⟨h1, h2, h3, h4, h5, h6⟩ := h
  dsimp only at h1 h2 h3 h4 h5 h6
  have hS' : db_SR R c (201 + 9 * i) := dw_SR_t h2 (by omega) (by omega) hS
  unfold dw_on
  dsimp only
  by_cases hn : n = 300
  · rw [if_pos hn]
    refine ⟨h1, h2, h3, h4, .inr ?_, ?_⟩
    · show db_cu (db_cu g 6 (nI 1)) 4 (nI 1) 6 = _
      rw [db_cu_n (by decide), db_cu_1]
    · show c 6 = c0 6 + db_cu (db_cu g 6 (nI 1)) 4 (nI 1) 1
      rw [db_cu_n (by decide), db_cu_n (by decide)]
      exact h6
  · rw [if_neg hn]
    have hb : dw_tk U c0 (c, g, n + 1, sd) := ⟨dw_gd_mono (by show U + 6 * n ≤ U + 6 * (n + 1); omega) h1, h2, by show n + 1 ≤ 300; omega, h4, h5, h6⟩
    rcases dw_kd hS' with hk | hk | hk | hk
    · rw [if_pos hk]
      by_cases e : dw_cd c (201 + 9 * i) = true
      · rw [if_pos e]; exact hr _ _ hb
      · rw [if_neg e]; exact hb
    · rw [if_neg (by rw [hk]; decide), if_pos hk]
      exact dw_lp_k (hr _) _ _ hb
    · rw [if_neg (by rw [hk]; decide), if_neg (by rw [hk]; decide), if_pos hk]
      refine ⟨hb.1, h2, hb.2.2.1, h4, .inr db_cu_1, ?_⟩
      show c 6 = c0 6 + db_cu g 6 (nI 1) 1
      rw [db_cu_n (by decide)]
      exact h6
    · obtain ⟨k, k3, ek⟩ := hk
      rw [if_neg (dw_k_ne k3 ek (by omega) (by omega)), if_neg (dw_k_ne k3 ek (by omega) (by omega)), if_neg (dw_k_ne k3 ek (by omega) (by omega))]
      have hO : db_Ok (U + 6 * n) c := by
        obtain ⟨s, w, hB⟩ := h1
        exact hB.1
      obtain ⟨p1, p2, p3, p4⟩ := dw_pm_k (g := g) hO hS' ⟨k, k3, ek⟩ h4 h6
      have hg := dw_gd_pm (g := g) (sd := sd) h1 (by omega) hS' ⟨k, k3, ek⟩
      refine ⟨hg, dw_Te_t h2 p1, hb.2.2.1, p2, ?_, ?_⟩
      · show db_cu (dw_pm (201 + 9 * i) c g sd).2.2.1 0 _ 6 = nI 0 ∨ db_cu (dw_pm (201 + 9 * i) c g sd).2.2.1 0 _ 6 = nI 1
        rw [db_cu_n (by decide), p3 6 (by decide) (by decide) (by decide)]
        exact h5
      · show (dw_pm (201 + 9 * i) c g sd).2.1 6 = c0 6 + db_cu (dw_pm (201 + 9 * i) c g sd).2.2.1 0 _ 1
        rw [db_cu_n (by decide)]
        exact p4
end DBKP
