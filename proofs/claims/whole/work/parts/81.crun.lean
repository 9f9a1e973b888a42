/-! LIVES: the class's run, flat -/
theorem dw_pl_le {R : Nat → Nat → Int32} {c : db_C} : ∀ {f d i j a b : Nat}, db_PL R c f d i j a b → i ≤ j ∧ a ≤ b
  | 0, _, _, _, _, _, h => ⟨Nat.le_of_eq h.1, Nat.le_of_eq h.2⟩
  | f + 1, d, i, j, a, b, h => by
    rcases h with ⟨h1, h2⟩ | ⟨hij, x, x1, x2, x3, x4, x5⟩
    · omega
    · rcases x5 with ⟨y1, y2, y3⟩ | ⟨y1, y2, gg, g1, g2, g3, g4, g5, g6⟩
      · have := (dw_pl_le y3).2
        omega
      · have := (dw_pl_le g6).2
        omega
theorem dw_pr_lt {o : Nat} {s : db_S} {a j k : Nat} (h : db_pr o s a j = nI k) (hk : 0 < k) (hk2 : k < 2 ^ 31) : a < 60 := by
  refine Nat.lt_of_not_le fun h2 => ?_
  unfold db_pr at h
  rw [if_neg (by omega)] at h
  have h' : nI 0 = nI k := h
  rw [nI_eq (by omega) hk2] at h'
  omega
theorem dw_row {s0 s : db_S} {a : Nat} (hE : db_Ed s0 s) (ha : a < 60) : s.1 (85 + a) = db_pr 83 s0 a := by
  unfold db_pr
  rw [if_pos ha]
  funext j
  exact (hE (85 + a) j (by unfold db_ec; omega) (by omega)).1
theorem dw_al_o : ∀ {f i j : Nat} {t : dw_Tt}, ¬ t.2.1 6 = nI 0 → dw_al f i j t = t
  | 0, _, _, _, _ => rfl
  | f + 1, i, j, t, h => by
    rw [dw_al, if_neg h]
    by_cases e : i = j
    · rw [if_pos e]
    · rw [if_neg e]
theorem dw_lp_o {r : dw_Tt → dw_Tt} : ∀ {l : Nat} {t : dw_Tt}, ¬ t.2.1 6 = nI 0 → dw_lp r l t = t
  | 0, _, _ => rfl
  | l + 1, t, h => by rw [dw_lp, if_neg h]
/-- the class's state stands for t -/
def dw_Rs (U : Nat) (s0 : db_S) (w : Nat → Int64) (t : dw_Tt) (s : db_S) : Prop := dw_Rc (U + 6 * t.2.2.1) s0 w t.1 t.2.1 t.2.2.2 s
/-- from row a on the run comes to row b with t', or it is over -/
def dw_Fz (lim : Nat) (s s' : db_S) : Prop := (∀ k, k < lim → s'.1 290 k = s.1 290 k) ∧ ∀ b, 287 ≤ b → b ≤ 289 → s'.1 b = s.1 b
theorem dw_Fz_r {lim : Nat} {s : db_S} : dw_Fz lim s s := ⟨fun _ _ => rfl, fun _ _ _ => rfl⟩
theorem dw_Fz_t {lim lim' : Nat} {s s1 s2 : db_S} (h : dw_Fz lim' s s1) (k : dw_Fz lim s1 s2) (hl : lim ≤ lim') : dw_Fz lim s s2 := ⟨fun j hj => (k.1 j hj).trans (h.1 j (by omega)), fun b b1 b2 => (k.2 b b1 b2).trans (h.2 b b1 b2)⟩
theorem dw_Fz_u {lim a : Nat} {x : Int32} {s : db_S} (h : lim ≤ a) : dw_Fz lim s (db_uI s 290 a x) := ⟨fun j hj => db_uI_j (by omega), fun b b1 b2 => db_uI_n (by omega)⟩
def dw_Go (U : Nat) (s0 : db_S) (w : Nat → Int64) (lim x n a v b : Nat) (t' : dw_Tt) (s : db_S) : Prop := ∃ T s', T + 100 * (300 - t'.2.2.1) ≤ 100 * (300 - n) + x ∧ dw_Rs U s0 w t' s' ∧ dw_Fz lim s s' ∧ (t'.2.1 6 = nI 0 → ∀ M, db_f194_b20 (T + M) s (nI n) (nI a) (nI v) = db_f194_b20 M s' (nI t'.2.2.1) (nI b) (nI (v + T))) ∧ (¬ t'.2.1 6 = nI 0 → ∀ M, db_f194_b20 (T + M + 2) s (nI n) (nI a) (nI v) = some (nI t'.2.2.1, s'))
section DBCR
variable {U : Nat} {s0 s : db_S} {w : Nat → Int64} {c0 : db_C}
theorem dw_Go_0 {lim x a v : Nat} {t : dw_Tt} (h : dw_Rs U s0 w t s) (h6 : t.2.1 6 = nI 0) : dw_Go U s0 w lim x t.2.2.1 a v a t s :=
  ⟨0, s, by omega, h, dw_Fz_r, fun _ M => by rw [Nat.zero_add, Nat.add_zero], fun h => absurd h6 h⟩
theorem dw_Go_1 {lim x n a v b n1 a1 : Nat} {t' : dw_Tt} {s1 : db_S} (h1 : ∀ M, db_f194_b20 (M + 1) s (nI n) (nI a) (nI v) = db_f194_b20 M s1 (nI n1) (nI a1) (nI (v + 1))) (hf : dw_Fz lim s s1) {x1 : Nat} (hn : 1 + 100 * (300 - n1) + x1 ≤ 100 * (300 - n) + x) (h : dw_Go U s0 w lim x1 n1 a1 (v + 1) b t' s1) : dw_Go U s0 w lim x n a v b t' s := by
  obtain ⟨T, s', g1, g2, g3, g4, g5⟩ := h
  refine ⟨T + 1, s', by omega, g2, dw_Fz_t hf g3 (Nat.le_refl _), fun h6 M => ?_, fun h6 M => ?_⟩
  · rw [show T + 1 + M = (T + M) + 1 by omega, h1, g4 h6 M, show v + (T + 1) = v + 1 + T by omega]
  · rw [show T + 1 + M + 2 = (T + M + 2) + 1 by omega, h1, g5 h6 M]
theorem dw_Go_o {lim lim' x x' n a v b b' : Nat} {t' : dw_Tt} (h6 : ¬ t'.2.1 6 = nI 0) (hl : lim ≤ lim') (hx : x' ≤ x) (h : dw_Go U s0 w lim' x' n a v b' t' s) : dw_Go U s0 w lim x n a v b t' s := by
  obtain ⟨T, s', g1, g2, g3, g4, g5⟩ := h
  exact ⟨T, s', by omega, g2, dw_Fz_t g3 dw_Fz_r hl, fun h => absurd h h6, g5⟩
theorem dw_Go_c {lim lim' x x' x2 n a v b b1 : Nat} {t1 t' : dw_Tt} (h6 : t1.2.1 6 = nI 0) (hl : lim ≤ lim') (hx : x' + x2 ≤ x) (h : dw_Go U s0 w lim' x' n a v b1 t1 s) (k : ∀ s1 T, T + 100 * (300 - t1.2.2.1) ≤ 100 * (300 - n) + x' → dw_Rs U s0 w t1 s1 → dw_Fz lim' s s1 → dw_Go U s0 w lim x2 t1.2.2.1 b1 (v + T) b t' s1) : dw_Go U s0 w lim x n a v b t' s := by
  obtain ⟨T, s1, g1, g2, g3, g4, g5⟩ := h
  obtain ⟨T2, s2, k1, k2, k3, k4, k5⟩ := k s1 T g1 g2 g3
  refine ⟨T + T2, s2, by omega, k2, dw_Fz_t g3 k3 hl, fun e6 M => ?_, fun e6 M => ?_⟩
  · rw [show T + T2 + M = T + (T2 + M) by omega, g4 h6, k4 e6 M, Nat.add_assoc]
  · rw [show T + T2 + M + 2 = T + (T2 + M + 2) by omega, g4 h6, k5 e6 M]
theorem dw_Rs_290 {t : dw_Tt} {a : Nat} {y : Int32} (h : dw_Rs U s0 w t s) : dw_Rs U s0 w t (db_uI s 290 a y) :=
  ⟨db_B1_c (fun b q1 q2 q3 => db_uI_n (by omega)) rfl h.1, by rw [db_uI_n (by decide)]; exact h.2.1, fun j hj => by rw [db_uI_n (by decide)]; exact h.2.2.1 j hj, db_Ed_u h.2.2.2 (.inl (by unfold db_ec; omega))⟩
theorem dw_Rc_mono {U' : Nat} {c : db_C} {g : Nat → Int32} {sd : Nat} (h : U ≤ U') (k : dw_Rc U s0 w c g sd s) : dw_Rc U' s0 w c g sd s := ⟨db_B1_mono h k.1, k.2⟩
/-- the rounds of a repeated body -/
theorem dw_rnd {r : dw_Tt → dw_Tt} {a gg z : Nat} (hz : s0.1 83 2 = nI z) (hz2 : z ≤ 60) (hga : a < gg) (hgz : gg < z) (r0 : db_pr 83 s0 a 0 = nI 23) (q0 : db_pr 83 s0 gg 0 = nI 25) (q5 : db_pr 83 s0 gg 5 = nI a) (hk : ∀ t, dw_tk U c0 t → dw_tk U c0 (r t))
    (hb : ∀ t s v, dw_tk U c0 t → t.2.1 6 = nI 0 → dw_Rs U s0 w t s → v + 100 * (300 - t.2.2.1) ≤ 900000 → dw_Go U s0 w (a + 1) 0 t.2.2.1 (a + 1) v gg (r t) s) :
    ∀ l t s v, l ≤ 98 → dw_tk U c0 t → t.2.1 6 = nI 0 → dw_Rs U s0 w t s → s.1 290 a = nI (l + 1) → v + 100 * (300 - t.2.2.1) + l ≤ 900000 → dw_Go U s0 w a (l + 1) t.2.2.1 (a + 1) v (gg + 1) (dw_lp r (l + 1) t) s := by
  intro l
  induction l with
  | zero =>
    intro t s v hl hT h6 hR h290 hv
    rw [dw_lp, if_pos h6, dw_lp]
    have hB := hb t s v hT h6 hR (by omega)
    by_cases o6 : (r t).2.1 6 = nI 0
    · refine dw_Go_c o6 (by omega) (Nat.le_refl _) hB fun s1 T hTT hR1 hf => ?_
      have e25 := dw_t_25 (s := s1) (m := 0) (n := (r t).2.2.1) (a := gg) (v := v + T) (z := z)
      have hrow : s1.1 (85 + gg) = db_pr 83 s0 gg := dw_row hR1.2.2.2 (by omega)
      have hrowa : s1.1 (85 + a) = db_pr 83 s0 a := dw_row hR1.2.2.2 (by omega)
      have hzz : s1.1 83 2 = nI z := by rw [(hR1.2.2.2 83 2 (by unfold db_ec; omega) (by omega)).1]; exact hz
      have f195 := dw_195r (s := s1) (a := a) (e := gg) (l := 0) (by omega) (by omega) (by rw [hrow]; exact q5) (by rw [hrowa]; exact r0) (by rw [hf.1 a (by omega)]; exact h290) (by omega)
      rw [if_pos rfl] at f195
      refine dw_Go_1 (s1 := db_uI s1 290 a (nI 0)) (n1 := (r t).2.2.1) (a1 := gg + 1) (x1 := 0) (fun M => ?_) (dw_Fz_u (by omega)) (by omega) (dw_Go_0 (dw_Rs_290 hR1) o6)
      rw [dw_t_25 (z := z) (by omega) hzz hz2 hgz (by rw [hrow]; exact q0), f195, db_bd_some]
    · exact dw_Go_o o6 (by omega) (by omega) hB
  | succ l IH =>
    intro t s v hl hT h6 hR h290 hv
    rw [dw_lp, if_pos h6]
    have hB := hb t s v hT h6 hR (by omega)
    by_cases o6 : (r t).2.1 6 = nI 0
    · refine dw_Go_c (x2 := l + 1 + 1) o6 (by omega) (by omega) hB fun s1 T hTT hR1 hf => ?_
      have hrow : s1.1 (85 + gg) = db_pr 83 s0 gg := dw_row hR1.2.2.2 (by omega)
      have hrowa : s1.1 (85 + a) = db_pr 83 s0 a := dw_row hR1.2.2.2 (by omega)
      have hzz : s1.1 83 2 = nI z := by rw [(hR1.2.2.2 83 2 (by unfold db_ec; omega) (by omega)).1]; exact hz
      have f195 := dw_195r (s := s1) (a := a) (e := gg) (l := l + 1) (by omega) (by omega) (by rw [hrow]; exact q5) (by rw [hrowa]; exact r0) (by rw [hf.1 a (by omega)]; exact h290) (by omega)
      rw [if_neg (by omega)] at f195
      refine dw_Go_1 (s1 := db_uI s1 290 a (nI (l + 1))) (n1 := (r t).2.2.1) (a1 := a + 1) (x1 := l + 1) (fun M => ?_) (dw_Fz_u (by omega)) (by omega) (IH (r t) _ _ (by omega) (hk t hT) o6 (dw_Rs_290 hR1) db_uI_1 (by omega))
      rw [dw_t_25 (z := z) (by omega) hzz hz2 hgz (by rw [hrow]; exact q0), f195, db_bd_some]
    · rw [dw_lp_o o6]
      exact dw_Go_o o6 (by omega) (by omega) hB
/-- the run: steps i to j in rows a to b -/
theorem dw_194m {z : Nat} (hU : U + 1800 ≤ 1000000000) (hz : s0.1 83 2 = nI z) (hz2 : z ≤ 60) : ∀ (f d i j a b : Nat) (t : dw_Tt) (s : db_S) (v : Nat), j ≤ 30 → b ≤ z → db_PL (db_pr 83 s0) c0 f d i j a b → dw_tk U c0 t → t.2.1 6 = nI 0 → dw_Rs U s0 w t s → v + 100 * (300 - t.2.2.1) ≤ 900000 → dw_Go U s0 w a 0 t.2.2.1 a v b (dw_al f i j t) s := by
  intro f
  induction f with
  | zero =>
    intro d i j a b t s v hj hb hP hT h6 hR hv
    obtain ⟨-, hab⟩ := hP
    subst hab
    exact dw_Go_0 hR h6
  | succ f IH =>
    intro d i j a b t s v hj hb hP hT h6 hR hv
    rw [dw_al]
    rcases hP with ⟨hij, hab⟩ | ⟨hij, x, x1, x2, x3, x4, x5⟩
    · subst hab
      rw [if_pos hij]
      exact dw_Go_0 hR h6
    · rw [if_neg (by omega), if_pos h6]
      have en : db_n c0 (201 + 9 * i + 8) = x := dw_nI_n x3 (by omega)
      have en' : db_n t.1 (201 + 9 * i + 8) = x := by
        rw [← en]
        unfold db_n
        rw [hT.2.1 _ (by unfold dz_tl; omega)]
      rw [en']
      -- the rest
      have hrest : ∀ a1, a ≤ a1 → db_PL (db_pr 83 s0) c0 f d x j a1 b → dw_tk U c0 (dw_on (dw_al f) i t) → dw_Go U s0 w a 0 t.2.2.1 a v a1 (dw_on (dw_al f) i t) s → dw_Go U s0 w a 0 t.2.2.1 a v b (dw_al f x j (dw_on (dw_al f) i t)) s := by
        intro a1 ha1 hP1 hT1 hG
        by_cases o6 : (dw_on (dw_al f) i t).2.1 6 = nI 0
        · refine dw_Go_c (x2 := 0) o6 (Nat.le_refl _) (Nat.le_refl _) hG fun s1 T hTT hR1 hf => ?_
          obtain ⟨T2, s2, k1, k2, k3, k4, k5⟩ := IH d x j a1 b _ s1 (v + T) hj hb hP1 hT1 o6 hR1 (by omega)
          exact ⟨T2, s2, k1, k2, dw_Fz_t dw_Fz_r k3 (Nat.le_refl _) |> fun h => ⟨fun j hj => h.1 j (by omega), h.2⟩, k4, k5⟩
        · rw [dw_al_o o6]
          exact dw_Go_o o6 (Nat.le_refl _) (Nat.le_refl _) hG
      have hE := hR.2.2.2
      have hsr : ∃ k, k ≤ 6 ∧ db_pr 83 s0 a 0 = nI (18 + k) ∧ c0 (201 + 9 * i) = nI k := by
        obtain ⟨k, k6, e0, r0, -⟩ := x4
        exact ⟨k, k6, r0, e0⟩
      obtain ⟨k, k6, r0, e0⟩ := hsr
      have ha : a < 60 := dw_pr_lt r0 (by omega) (by omega)
      have hrow : s.1 (85 + a) = db_pr 83 s0 a := dw_row hE ha
      have hzz : s.1 83 2 = nI z := by rw [(hE 83 2 (by unfold db_ec; omega) (by omega)).1]; exact hz
      have haz : a < z := by
        rcases x5 with ⟨-, -, y4⟩ | ⟨-, -, gg, g1, -, -, -, -, g6⟩
        · have := (dw_pl_le y4).2
          omega
        · have := (dw_pl_le g6).2
          omega
      have h00 : s.1 (85 + a) 0 = nI (18 + k) := by rw [hrow]; exact r0
      have ec : t.1 (201 + 9 * i) = nI k := by rw [hT.2.1 _ (by unfold dz_tl; omega)]; exact e0
      have hS' : db_SR (s.1 (85 + a)) t.1 (201 + 9 * i) := by rw [hrow]; exact dw_SR_t hT.2.1 (by omega) (by omega) x4
      have hn300 := hT.2.2.1
      obtain ⟨c, g, n, sd⟩ := t
      dsimp only at en' hn300 hv hrest ec hS' h6 ⊢
      -- cut short
      by_cases hn : n = 300
      · have hcut : ∀ b1, dw_Go U s0 w a 0 n a v b1 (dw_on (dw_al f) i (c, g, n, sd)) s := by
          intro b1
          subst hn
          have eon : dw_on (dw_al f) i (c, g, 300, sd) = (c, db_cu (db_cu g 6 (nI 1)) 4 (nI 1), 300, sd) := by
            unfold dw_on
            dsimp only
            rw [if_pos rfl]
          rw [eon]
          refine ⟨0, db_uI s 286 4 (nI 1), by show 0 + 100 * (300 - 300) ≤ 100 * (300 - 300) + 0; omega, ⟨db_B1_c (fun b q1 q2 q3 => db_uI_n (by omega)) rfl hR.1, by rw [db_uI_n (by decide)]; exact hR.2.1, fun j hj => ?_, db_Ed_u hE (.inl (by unfold db_ec; omega))⟩, ⟨fun k hk => by rw [db_uI_n (by decide)], fun b b1 b2 => db_uI_n (by omega)⟩, fun h => ?_, fun _ M => ?_⟩
          · show (db_uI s 286 4 (nI 1)).1 286 j = db_cu (db_cu g 6 (nI 1)) 4 (nI 1) j
            by_cases e4 : j = 4
            · subst e4; rw [db_uI_1, db_cu_1]
            · rw [db_uI_j e4, db_cu_n e4, db_cu_n (by omega)]; exact hR.2.2.1 j hj
          · exfalso
            have h' : db_cu (db_cu g 6 (nI 1)) 4 (nI 1) 6 = nI 0 := h
            rw [db_cu_n (by decide), db_cu_1] at h'
            exact absurd h' (by decide)
          · show db_f194_b20 (0 + M + 1 + 1) s (nI 300) (nI a) (nI v) = some (nI 300, db_uI s 286 4 (nI 1))
            rw [dw_t_c (z := z) (k := 18 + k) (by omega) hzz hz2 haz h00 (by omega)]
        have hTk : dw_tk U c0 (dw_on (dw_al f) i (c, g, n, sd)) := by
          rcases x5 with ⟨⟨y1, y2⟩, y3, y4⟩ | ⟨y1, y2, gg, g1, g2, g3, g4, g5, g6⟩
          · exact dw_on_k hU (by omega) x4 (fun hk => absurd hk (by rintro (hk | hk); exact y1 hk; exact y2 hk)) hT
          · exact dw_on_k hU (by omega) x4 (fun _ t' ht => by rw [en]; exact dw_al_k hU f (d - 1) (i + 1) x (a + 1) gg t' (by omega) g5 ht) hT
        rcases x5 with ⟨-, -, y4⟩ | ⟨-, -, gg, g1, -, -, -, -, g6⟩
        · exact hrest (a + 1) (by omega) y4 hTk (hcut _)
        · exact hrest (gg + 1) (by omega) g6 hTk (hcut _)
      · have hturn := fun M => dw_t_s (s := s) (m := M) (n := n) (a := a) (v := v) (z := z) (k := 18 + k) (by omega) hzz hz2 haz h00
        have hb1 : dw_tk U c0 (c, g, n + 1, sd) := ⟨dw_gd_mono (by show U + 6 * n ≤ U + 6 * (n + 1); omega) hT.1, hT.2.1, by show n + 1 ≤ 300; omega, hT.2.2.2.1, hT.2.2.2.2.1, hT.2.2.2.2.2⟩
        have hR1 : dw_Rs U s0 w (c, g, n + 1, sd) s := dw_Rc_mono (by show U + 6 * n ≤ U + 6 * (n + 1); omega) hR
        rcases x5 with ⟨⟨y1, y2⟩, y3, y4⟩ | ⟨y1, y2, gg, g1, g2, g3, g4, g5, g6⟩
        · refine hrest (a + 1) (by omega) y4 (dw_on_k hU (by omega) x4 (fun hk => absurd hk (by rintro (hk | hk); exact y1 hk; exact y2 hk)) hT) ?_
          have hk4 : k ≠ 4 := by rintro rfl; exact y1 e0
          have hk5 : k ≠ 5 := by rintro rfl; exact y2 e0
          unfold dw_on
          dsimp only
          rw [if_neg hn, if_neg (show ¬ c (201 + 9 * i) = nI 4 by rw [ec, nI_eq (by omega) (by omega)]; exact hk4), if_neg (show ¬ c (201 + 9 * i) = nI 5 by rw [ec, nI_eq (by omega) (by omega)]; exact hk5)]
          by_cases hk6 : k = 6
          · subst hk6
            rw [if_pos ec]
            refine ⟨0, s, by show 0 + 100 * (300 - (n + 1)) ≤ _; omega, ⟨hR1.1, hR1.2.1, fun j hj => ?_, hR1.2.2.2⟩, dw_Fz_r, fun h => ?_, fun _ M => ?_⟩
            · show s.1 286 j = db_cu g 6 (nI 1) j
              rw [db_cu_n (by omega)]
              exact hR.2.2.1 j hj
            · exfalso
              have h' : db_cu g 6 (nI 1) 6 = nI 0 := h
              rw [db_cu_1] at h'
              exact absurd h' (by decide)
            · show db_f194_b20 (0 + M + 1 + 1) s (nI n) (nI a) (nI v) = some (nI (n + 1), s)
              rw [hturn _ (by omega) (by omega), dw_196w ha h00, db_bd_some, hzz, dw_t_end (z := z) (by omega) hzz hz2 (Nat.le_refl _) (by omega)]
          · rw [if_neg (show ¬ c (201 + 9 * i) = nI 6 by rw [ec, nI_eq (by omega) (by omega)]; exact hk6)]
            obtain ⟨⟨y, s'⟩, ey, z1, z2, z3⟩ := dw_196 (U := U + 6 * n) hR (by omega) ha (by omega) hS' ⟨k, by omega, ec⟩ hT.2.2.2.1
            dsimp only at z1 z2 z3
            subst z1
            refine ⟨1, s', by show 1 + 100 * (300 - (n + 1)) ≤ _; omega, z2, ⟨fun k hk => by rw [z3 290 (by omega) (by omega)], fun b b1 b2 => z3 b b1 (by omega)⟩, fun h M => ?_, fun h M => ?_⟩
            · rw [Nat.add_comm 1 M, hturn M (by omega) (by omega), ey, db_bd_some]
            · exfalso
              refine h ?_
              have hO : db_Ok (U + 6 * n) c := by
                obtain ⟨s, w, hB⟩ := hT.1
                exact hB.1
              have p3 := (dw_pm_k (g := g) hO hS' ⟨k, by omega, ec⟩ hT.2.2.2.1 hT.2.2.2.2.2).2.2.1
              show db_cu (dw_pm (201 + 9 * i) c g sd).2.2.1 0 ((dw_pm (201 + 9 * i) c g sd).2.2.1 0 + if (dw_pm (201 + 9 * i) c g sd).1 then nI 0 else nI 1) 6 = nI 0
              rw [db_cu_n (by decide), p3 6 (by decide) (by decide) (by decide)]
              exact h6
        · have hTk := dw_on_k (r := dw_al f) hU (by omega) x4 (fun _ t' ht => by rw [en]; exact dw_al_k hU f (d - 1) (i + 1) x (a + 1) gg t' (by omega) g5 ht) hT
          refine hrest (gg + 1) (by omega) g6 hTk ?_
          have hgb := (dw_pl_le g6).2
          have hg60 : gg < 60 := dw_pr_lt g3 (by omega) (by omega)
          rcases y1 with y1 | y1
          · have hk4 : k = 4 := db_nI_inj (by omega) (by omega) (e0.symm.trans y1)
            subst hk4
            unfold dw_on
            dsimp only
            rw [if_neg hn, if_pos ec, en']
            have f198 := dw_198 (s := s) (a := a) (W := 201 + 9 * i) hR.1 (by show U + 6 * n ≤ _; omega) ha hS' ec
            have f196 := dw_196c (s := s) (a := a) (e := gg) ha h00 (by rw [hrow]; exact g2) f198
            cases hcd : dw_cd c (201 + 9 * i) with
            | false =>
              rw [if_neg (by decide)]
              rw [hcd, if_neg (by decide)] at f196
              refine dw_Go_1 (s1 := s) (n1 := n + 1) (a1 := gg + 1) (x1 := 0) (fun M => ?_) dw_Fz_r (by omega) (dw_Go_0 hR1 h6)
              rw [hturn M (by omega) (by omega), f196, db_bd_some]
            | true =>
              rw [if_pos rfl]
              rw [hcd, if_pos rfl] at f196
              refine dw_Go_1 (s1 := s) (n1 := n + 1) (a1 := a + 1) (x1 := 1) (fun M => ?_) dw_Fz_r (by omega) ?_
              · rw [hturn M (by omega) (by omega), f196, db_bd_some]
              · have hbd := IH (d - 1) (i + 1) x (a + 1) gg (c, g, n + 1, sd) s (v + 1) (by omega) (by omega) g5 hb1 h6 hR1 (by show v + 1 + 100 * (300 - (n + 1)) ≤ _; omega)
                by_cases o6 : (dw_al f (i + 1) x (c, g, n + 1, sd)).2.1 6 = nI 0
                · refine dw_Go_c (x2 := 1) o6 (by omega) (by omega) hbd fun s1 T hTT hR2 hf => ?_
                  have hrow2 : s1.1 (85 + gg) = db_pr 83 s0 gg := dw_row hR2.2.2.2 (by omega)
                  have hrowa : s1.1 (85 + a) = db_pr 83 s0 a := dw_row hR2.2.2.2 (by omega)
                  have hzz2 : s1.1 83 2 = nI z := by rw [(hR2.2.2.2 83 2 (by unfold db_ec; omega) (by omega)).1]; exact hz
                  have f195 := dw_195i (s := s1) (a := a) (e := gg) (by omega) (by omega) (by rw [hrow2]; exact g4) (by rw [hrowa]; exact r0)
                  have hTT' : T + 100 * (300 - (dw_al f (i + 1) x (c, g, n + 1, sd)).2.2.1) ≤ 100 * (300 - (n + 1)) := hTT
                  refine dw_Go_1 (s1 := s1) (n1 := (dw_al f (i + 1) x (c, g, n + 1, sd)).2.2.1) (a1 := gg + 1) (x1 := 0) (fun M => ?_) dw_Fz_r (by omega) (dw_Go_0 hR2 o6)
                  rw [dw_t_25 (z := z) (by omega) hzz2 hz2 (by omega) (by rw [hrow2]; exact g3), f195, db_bd_some]
                · exact dw_Go_o o6 (by omega) (by omega) hbd
          · have hk5 : k = 5 := db_nI_inj (by omega) (by omega) (e0.symm.trans y1)
            subst hk5
            have hl : ∃ l, 1 ≤ l ∧ l ≤ 99 ∧ c (201 + 9 * i + 1) = nI l ∧ s.1 (85 + a) 4 = nI l := by
              obtain ⟨k, k6, g0, -, -, -, -, -, b5⟩ := hS'
              exact b5 (db_nI_inj (by omega) (by omega) (g0.symm.trans ec))
            obtain ⟨l, l1, l2, l3, l4⟩ := hl
            unfold dw_on
            dsimp only
            rw [if_neg hn, if_neg (by rw [ec]; decide), if_pos ec, en', dw_nI_n l3 (by omega)]
            obtain ⟨⟨y, s'⟩, ey, z1, z2, z3⟩ := dw_196r (s := s) (l := l) hR ha h00 l4
            dsimp only at z1 z2 z3
            subst z1
            have hR2 : dw_Rs U s0 w (c, g, n + 1, sd) s' := dw_Rc_mono (by show U + 6 * n ≤ U + 6 * (n + 1); omega) z2
            obtain ⟨l', rfl⟩ : ∃ l', l = l' + 1 := ⟨l - 1, by omega⟩
            refine dw_Go_1 (s1 := s') (n1 := n + 1) (a1 := a + 1) (x1 := l' + 1) (fun M => ?_) ⟨fun k hk => by rw [z3 290 (by omega) (by omega), db_uI_j (by omega)], fun b b1 b2 => by rw [z3 b b1 (by omega), db_uI_n (by omega)]⟩ (by omega) ?_
            · rw [hturn M (by omega) (by omega), ey, db_bd_some]
            · exact dw_rnd (c0 := c0) (r := dw_al f (i + 1) x) (z := z) hz hz2 g1 (by omega) r0 g3 g4 (fun t' ht => dw_al_k hU f (d - 1) (i + 1) x (a + 1) gg t' (by omega) g5 ht) (fun t' s'' v' ht h6' hR' hv' => IH (d - 1) (i + 1) x (a + 1) gg t' s'' v' (by omega) (by omega) g5 ht h6' hR' hv') l' (c, g, n + 1, sd) s' (v + 1) (by omega) hb1 h6 hR2 (by rw [z3 290 (by omega) (by omega), db_uI_1]) (by show v + 1 + 100 * (300 - (n + 1)) + l' ≤ _; omega)
/-- the class's run from its beginning -/
theorem dw_194 {n z sd : Nat} {c : db_C} (hU : U + 1800 ≤ 1000000000) (hB : db_B1 U 20 s c w) (hsd : sd < 65536) (hn2 : n ≤ 30) (hz : s.1 83 2 = nI z) (hz2 : z ≤ 60) (hP : db_PL (db_pr 83 s) c 31 3 0 n 0 z) : ∃ s', db_f194 s (nI sd) = some (nI (dw_al 31 0 n (c, fun _ => nI 0, 0, sd)).2.2.1, s') ∧ dw_Rs U s w (dw_al 31 0 n (c, fun _ => nI 0, 0, sd)) s' ∧ dw_tk U c (dw_al 31 0 n (c, fun _ => nI 0, 0, sd)) ∧ ∀ b, 287 ≤ b → b ≤ 289 → s'.1 b = s.1 b := by
  have hT := dw_tk0 (U := U) (c := c) (sd := sd) ⟨s, w, hB⟩ hsd
  obtain ⟨y, e1, e2, e3⟩ := dw_194h (sd := sd) hB
  have hyz : y.1 83 2 = nI z := by rw [(e2.2.2.2 83 2 (by unfold db_ec; omega) (by omega)).1]; exact hz
  obtain ⟨T, s', g1, g2, g3, g4, g5⟩ := dw_194m (U := U) (s0 := s) (w := w) (c0 := c) hU hz hz2 31 3 0 n 0 z _ y 0 hn2 (Nat.le_refl _) hP hT rfl e2 (by show 0 + 100 * (300 - 0) ≤ _; omega)
  have hT1 : T ≤ 30000 := by
    have g1' : T + 100 * (300 - (dw_al 31 0 n (c, fun _ => nI 0, 0, sd)).2.2.1) ≤ 100 * (300 - 0) + 0 := g1
    omega
  refine ⟨s', ?_, g2, dw_al_k hU 31 3 0 n 0 z _ hn2 hP hT, fun b b1 b2 => (g3.2 b b1 b2).trans (e3 b b1 b2)⟩
  rw [e1]
  by_cases o6 : (dw_al 31 0 n (c, fun _ => nI 0, 0, sd)).2.1 6 = nI 0
  · have hzz : s'.1 83 2 = nI z := by rw [(g2.2.2.2 83 2 (by unfold db_ec; omega) (by omega)).1]; exact hz
    have e := g4 o6 (db_FU - T)
    rw [show T + (db_FU - T) = db_FU by unfold db_FU; omega] at e
    refine e.trans ?_
    obtain ⟨M, hM⟩ : ∃ M, db_FU - T = M + 1 := ⟨db_FU - T - 1, by unfold db_FU; omega⟩
    rw [hM, dw_t_end (z := z) (by omega) hzz hz2 (Nat.le_refl _) (by omega)]
  · have e := g5 o6 (db_FU - T - 2)
    rw [show T + (db_FU - T - 2) + 2 = db_FU by unfold db_FU; omega] at e
    exact e
end DBCR
