/-! LIVES: what a run keeps -/
section DBKP
variable {U : Nat} {c0 : db_C}
theorem dw_gd_mono {U' : Nat} {c : db_C} (h : U ≤ U') (hg : dw_gd U c) : dw_gd U' c := by
  obtain ⟨s, w, hB⟩ := hg
  exact ⟨s, w, db_B1_mono h hB⟩
theorem dw_lp_k {r : dw_Tt → dw_Tt} (hr : ∀ t, dw_tk U c0 t → dw_tk U c0 (r t)) : ∀ l t, dw_tk U c0 t → dw_tk U c0 (dw_lp r l t)
  | 0, _, h => h
  | l + 1, t, h => by
    rw [dw_lp]
    by_cases e : t.2.1 6 = nI 0
    · rw [if_pos e]
      exact dw_lp_k hr l _ (hr t h)
    · rw [if_neg e]
      exact h
/-- kinds of steps -/
theorem dw_kd {R : Nat → Int32} {c : db_C} {W : Nat} (h : db_SR R c W) : (c W = nI 4) ∨ (c W = nI 5) ∨ (c W = nI 6) ∨ ∃ k, k ≤ 3 ∧ c W = nI k := by
  obtain ⟨k, k6, e0, -⟩ := h
  rcases (by omega : k = 4 ∨ k = 5 ∨ k = 6 ∨ k ≤ 3) with rfl | rfl | rfl | h
  · exact .inl e0
  · exact .inr (.inl e0)
  · exact .inr (.inr (.inl e0))
  · exact .inr (.inr (.inr ⟨k, h, e0⟩))
theorem dw_k_ne {c : db_C} {W k m : Nat} (hk : k ≤ 3) (h : c W = nI k) (hm : 4 ≤ m) (hm2 : m ≤ 6) : ¬ c W = nI m := by
  rw [h, nI_eq (by omega) (by omega)]
  omega
theorem dw_on_k {R : Nat → Int32} {r : Nat → Nat → dw_Tt → dw_Tt} {i : Nat} (hU : U + 1800 ≤ 1000000000) (hi : i < 30) (hS : db_SR R c0 (201 + 9 * i)) (hr : (c0 (201 + 9 * i) = nI 4 ∨ c0 (201 + 9 * i) = nI 5) → ∀ t, dw_tk U c0 t → dw_tk U c0 (r (i + 1) (db_n c0 (201 + 9 * i + 8)) t)) {t : dw_Tt} (h : dw_tk U c0 t) : dw_tk U c0 (dw_on r i t) := by
  obtain ⟨c, g, n, sd⟩ := t
  obtain ⟨h1, h2, h3, h4, h5, h6⟩ := h
  dsimp only at h1 h2 h3 h4 h5 h6
  have hS' : db_SR R c (201 + 9 * i) := dw_SR_t h2 (by omega) (by omega) hS
  have en : db_n c (201 + 9 * i + 8) = db_n c0 (201 + 9 * i + 8) := by unfold db_n; rw [h2 _ (by unfold dz_tl; omega)]
  have e0 : c (201 + 9 * i) = c0 (201 + 9 * i) := h2 _ (by unfold dz_tl; omega)
  unfold dw_on
  dsimp only
  rw [en]
  by_cases hn : n = 300
  · rw [if_pos hn]
    refine ⟨h1, h2, h3, h4, .inr ?_, ?_⟩
    · show db_cu (db_cu g 6 (nI 1)) 4 (nI 1) 6 = _
      rw [db_cu_n (by decide), db_cu_1]
    · show c 6 = c0 6 + db_cu (db_cu g 6 (nI 1)) 4 (nI 1) 1
      rw [db_cu_n (by decide), db_cu_n (by decide)]
      exact h6
  · rw [if_neg hn]
    have hb : dw_tk U c0 (c, g, n + 1, sd) := ⟨dw_gd_mono (by show U + 6 * n ≤ U + 6 * (n + 1); omega) h1, h2, by show n + 1 ≤ 300; omega, h4, h5, h6⟩
    rcases dw_kd hS' with hk | hk | hk | hk
    · rw [if_pos hk]
      by_cases e : dw_cd c (201 + 9 * i) = true
      · rw [if_pos e]; exact hr (.inl (e0.symm.trans hk)) _ hb
      · rw [if_neg e]; exact hb
    · rw [if_neg (by rw [hk]; decide), if_pos hk]
      exact dw_lp_k (hr (.inr (e0.symm.trans hk))) _ _ hb
    · rw [if_neg (by rw [hk]; decide), if_neg (by rw [hk]; decide), if_pos hk]
      refine ⟨hb.1, h2, hb.2.2.1, h4, .inr (by show db_cu g 6 (nI 1) 6 = nI 1; rw [db_cu_1]), ?_⟩
      show c 6 = c0 6 + db_cu g 6 (nI 1) 1
      rw [db_cu_n (by decide)]
      exact h6
    · obtain ⟨k, k3, ek⟩ := hk
      rw [if_neg (dw_k_ne k3 ek (by omega) (by omega)), if_neg (dw_k_ne k3 ek (by omega) (by omega)), if_neg (dw_k_ne k3 ek (by omega) (by omega))]
      have hO : db_Ok (U + 6 * n) c := by
        obtain ⟨s, w, hB⟩ := h1
        exact hB.1
      obtain ⟨p1, p2, p3, p4⟩ := dw_pm_k (g := g) hO hS' ⟨k, k3, ek⟩ h4 h6
      have hg := dw_gd_pm (g := g) (sd := sd) h1 (by omega) hS' ⟨k, k3, ek⟩
      refine ⟨hg, dw_Te_t h2 p1, hb.2.2.1, p2, ?_, ?_⟩
      · show db_cu (dw_pm (201 + 9 * i) c g sd).2.2.1 0 ((dw_pm (201 + 9 * i) c g sd).2.2.1 0 + if (dw_pm (201 + 9 * i) c g sd).1 then nI 0 else nI 1) 6 = nI 0 ∨ db_cu (dw_pm (201 + 9 * i) c g sd).2.2.1 0 ((dw_pm (201 + 9 * i) c g sd).2.2.1 0 + if (dw_pm (201 + 9 * i) c g sd).1 then nI 0 else nI 1) 6 = nI 1
        rw [db_cu_n (by decide), p3 6 (by decide) (by decide) (by decide)]
        exact h5
      · show (dw_pm (201 + 9 * i) c g sd).2.1 6 = c0 6 + db_cu (dw_pm (201 + 9 * i) c g sd).2.2.1 0 ((dw_pm (201 + 9 * i) c g sd).2.2.1 0 + if (dw_pm (201 + 9 * i) c g sd).1 then nI 0 else nI 1) 1
        rw [db_cu_n (by decide)]
        exact p4
theorem dw_al_k {R : Nat → Nat → Int32} (hU : U + 1800 ≤ 1000000000) : ∀ (f d i j a b : Nat) (t : dw_Tt), j ≤ 30 → db_PL R c0 f d i j a b → dw_tk U c0 t → dw_tk U c0 (dw_al f i j t)
  | 0, _, _, _, _, _, _, _, _, h => h
  | f + 1, d, i, j, a, b, t, hj, hP, h => by
    rw [dw_al]
    by_cases e : i = j
    · rw [if_pos e]; exact h
    · rw [if_neg e]
      by_cases e6 : t.2.1 6 = nI 0
      · rw [if_pos e6]
        rcases hP with ⟨hP, -⟩ | ⟨hij, x, x1, x2, x3, x4, x5⟩
        · exact absurd hP e
        · have en : db_n c0 (201 + 9 * i + 8) = x := dw_nI_n x3 (by omega)
          have en' : db_n t.1 (201 + 9 * i + 8) = x := by
            rw [← en]
            unfold db_n
            rw [h.2.1 _ (by unfold dz_tl; omega)]
          rw [en']
          rcases x5 with ⟨⟨y1, y2⟩, y3, y4⟩ | ⟨y1, y2, gg, g1, g2, g3, g4, g5, g6⟩
          · exact dw_al_k hU f d x j (a + 1) b _ hj y4 (dw_on_k hU (by omega) x4 (fun hk => absurd hk (by rintro (hk | hk); exact y1 hk; exact y2 hk)) h)
          · exact dw_al_k hU f d x j (gg + 1) b _ hj g6 (dw_on_k hU (by omega) x4 (fun _ t' ht => by rw [en]; exact dw_al_k hU f (d - 1) (i + 1) x (a + 1) gg t' (by omega) g5 ht) h)
      · rw [if_neg e6]; exact h
end DBKP
