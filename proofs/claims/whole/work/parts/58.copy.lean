/-! COPYING A BOOK -/
def dw_S1 (a L : Nat) : Prop := db_ka a = 1 ∧ db_la a = L ∧ db_ln a = some (nI L)
def dw_ST (t n L : Nat) : Prop := db_ln t = some (nI n) ∧ ∀ r, r < n → db_rR t (nI r) = some (t + 1 + r) ∧ dw_S1 (t + 1 + r) L
/-- a block's shape -/
def dw_Sh (a : Nat) : Prop := dw_S1 (a + 1) 6 ∧ dw_S1 (a + 2) 4 ∧ dw_S1 (a + 3) 3 ∧ dw_ST (a + 4) 12 6 ∧ dw_ST (a + 17) 12 2 ∧ dw_ST (a + 30) 8 6 ∧ dw_S1 (a + 39) 8 ∧ dw_S1 (a + 40) 8 ∧ dw_S1 (a + 41) 8 ∧ dw_S1 (a + 42) 12 ∧ dw_S1 (a + 43) 12 ∧ dw_ST (a + 44) 10 12 ∧ dw_S1 (a + 55) 10 ∧ (db_ka (a + 56) = 2 ∧ db_la (a + 56) = 37) ∧ dw_S1 (a + 57) 37 ∧ dw_S1 (a + 58) 37
def dw_Sl (a : Nat) : Prop := dw_S1 (a + 61) 12 ∧ dw_S1 (a + 62) 4 ∧ dw_ST (a + 64) 60 6
theorem dw_Sh_20 : dw_Sh 20 := ⟨⟨rfl, rfl, rfl⟩, ⟨rfl, rfl, rfl⟩, ⟨rfl, rfl, rfl⟩, by unfold dw_ST dw_S1; decide, by unfold dw_ST dw_S1; decide, by unfold dw_ST dw_S1; decide, ⟨rfl, rfl, rfl⟩, ⟨rfl, rfl, rfl⟩, ⟨rfl, rfl, rfl⟩, ⟨rfl, rfl, rfl⟩, ⟨rfl, rfl, rfl⟩, by unfold dw_ST dw_S1; decide, ⟨rfl, rfl, rfl⟩, ⟨rfl, rfl⟩, ⟨rfl, rfl, rfl⟩, ⟨rfl, rfl, rfl⟩⟩
theorem dw_Sh_146 : dw_Sh 146 := ⟨⟨rfl, rfl, rfl⟩, ⟨rfl, rfl, rfl⟩, ⟨rfl, rfl, rfl⟩, by unfold dw_ST dw_S1; decide, by unfold dw_ST dw_S1; decide, by unfold dw_ST dw_S1; decide, ⟨rfl, rfl, rfl⟩, ⟨rfl, rfl, rfl⟩, ⟨rfl, rfl, rfl⟩, ⟨rfl, rfl, rfl⟩, ⟨rfl, rfl, rfl⟩, by unfold dw_ST dw_S1; decide, ⟨rfl, rfl, rfl⟩, ⟨rfl, rfl⟩, ⟨rfl, rfl, rfl⟩, ⟨rfl, rfl, rfl⟩⟩
theorem dw_Sh_294 : dw_Sh 294 := ⟨⟨rfl, rfl, rfl⟩, ⟨rfl, rfl, rfl⟩, ⟨rfl, rfl, rfl⟩, by unfold dw_ST dw_S1; decide, by unfold dw_ST dw_S1; decide, by unfold dw_ST dw_S1; decide, ⟨rfl, rfl, rfl⟩, ⟨rfl, rfl, rfl⟩, ⟨rfl, rfl, rfl⟩, ⟨rfl, rfl, rfl⟩, ⟨rfl, rfl, rfl⟩, by unfold dw_ST dw_S1; decide, ⟨rfl, rfl, rfl⟩, ⟨rfl, rfl⟩, ⟨rfl, rfl, rfl⟩, ⟨rfl, rfl, rfl⟩⟩
theorem dw_Sh_419 : dw_Sh 419 := ⟨⟨rfl, rfl, rfl⟩, ⟨rfl, rfl, rfl⟩, ⟨rfl, rfl, rfl⟩, by unfold dw_ST dw_S1; decide, by unfold dw_ST dw_S1; decide, by unfold dw_ST dw_S1; decide, ⟨rfl, rfl, rfl⟩, ⟨rfl, rfl, rfl⟩, ⟨rfl, rfl, rfl⟩, ⟨rfl, rfl, rfl⟩, ⟨rfl, rfl, rfl⟩, by unfold dw_ST dw_S1; decide, ⟨rfl, rfl, rfl⟩, ⟨rfl, rfl⟩, ⟨rfl, rfl, rfl⟩, ⟨rfl, rfl, rfl⟩⟩
theorem dw_Sh_544 : dw_Sh 544 := ⟨⟨rfl, rfl, rfl⟩, ⟨rfl, rfl, rfl⟩, ⟨rfl, rfl, rfl⟩, by unfold dw_ST dw_S1; decide, by unfold dw_ST dw_S1; decide, by unfold dw_ST dw_S1; decide, ⟨rfl, rfl, rfl⟩, ⟨rfl, rfl, rfl⟩, ⟨rfl, rfl, rfl⟩, ⟨rfl, rfl, rfl⟩, ⟨rfl, rfl, rfl⟩, by unfold dw_ST dw_S1; decide, ⟨rfl, rfl, rfl⟩, ⟨rfl, rfl⟩, ⟨rfl, rfl, rfl⟩, ⟨rfl, rfl, rfl⟩⟩
theorem dw_Sl_20 : dw_Sl 20 := ⟨⟨rfl, rfl, rfl⟩, ⟨rfl, rfl, rfl⟩, by unfold dw_ST dw_S1; decide⟩
theorem dw_Sl_294 : dw_Sl 294 := ⟨⟨rfl, rfl, rfl⟩, ⟨rfl, rfl, rfl⟩, by unfold dw_ST dw_S1; decide⟩
theorem dw_Sl_419 : dw_Sl 419 := ⟨⟨rfl, rfl, rfl⟩, ⟨rfl, rfl, rfl⟩, by unfold dw_ST dw_S1; decide⟩
theorem dw_Sl_544 : dw_Sl 544 := ⟨⟨rfl, rfl, rfl⟩, ⟨rfl, rfl, rfl⟩, by unfold dw_ST dw_S1; decide⟩
def dw_fe (i : Nat) : Nat := if i < 3 then 0 else if i < 5 then 60 else 63
def dw_fj : Nat → Nat
  | 0 => 13
  | 1 => 14
  | 2 => 18
  | 3 => 2
  | 4 => 3
  | i + 5 => i
section DBCQ
variable {U : Nat} {s z : db_S} {c : db_C} {w : Nat → Int64} {a d m k : Nat}
theorem dw_83 {p q L : Nat} (hp : dw_S1 p L) (hq : dw_S1 q L) (hL : L ≤ 1000) : ∃ z, db_f83 s p q = some z ∧ db_F1 q s z ∧ ∀ j, j < L → z.1 q j = s.1 p j := db_83 hp.1 hq.1 hp.2.1 hq.2.1 hp.2.2 hq.2.2 hL
theorem dw_84 {t u n L : Nat} (hS : dw_ST t n L) (hT : dw_ST u n L) (hn : n ≤ 100) (hL : L ≤ 1000) (hd : t + n < u + 1 ∨ u + n < t + 1) : dz_T (db_f84 s t u) (fun z => (∀ b, ¬ (u + 1 ≤ b ∧ b < u + 1 + n) → z.1 b = s.1 b) ∧ z.2 = s.2 ∧ ∀ r, r < n → ∀ j, j < L → z.1 (u + 1 + r) j = s.1 (t + 1 + r) j) := by
  unfold db_f84
  refine db_loop (L := fun m a k => db_f84_b2 m a t u (nI k)) (N := n) (fun k z => (∀ b, ¬ (u + 1 ≤ b ∧ b < u + 1 + k) → z.1 b = s.1 b) ∧ z.2 = s.2 ∧ ∀ r, r < k → ∀ j, j < L → z.1 (u + 1 + r) j = s.1 (t + 1 + r) j) ?_ ?_ (n := db_FU) (by unfold db_FU; omega) ⟨fun b _ => rfl, rfl, fun r hr => absurd hr (by omega)⟩
  · rintro m a h
    show dz_T (db_f84_b2 (m + 1) a t u (nI n)) _
    rw [db_f84_b2]
    simp (disch := omega) only [db_lit, eq_self, db_pI_e, db_pL_e, db_bind_some, db_bd_some, nI_add, pk_mul, nI_toInt, db_m1_t, dz_cn, Int.ofNat_le, Int.ofNat_lt, decide_true, decide_false, db_ct, db_cf, not_true_eq_false, not_false_eq_true, hS.1, Nat.le_refl]
    exact ⟨_, rfl, h⟩
  · rintro m k a hk ⟨h1, h2, h3⟩ hrec
    show dz_T (db_f84_b2 (m + 1) a t u (nI k)) _
    rw [db_f84_b2]
    have h7 : ¬ n ≤ k := by omega
    obtain ⟨x1, x2⟩ := hS.2 k hk
    obtain ⟨y1, y2⟩ := hT.2 k hk
    obtain ⟨z, e, f1, f2⟩ := dw_83 (s := a) x2 y2 hL
    simp (disch := omega) only [db_lit, eq_self, db_pI_e, db_pL_e, db_bind_some, db_bd_some, nI_add, pk_mul, nI_toInt, db_m1_t, dz_cn, Int.ofNat_le, Int.ofNat_lt, decide_true, decide_false, db_ct, db_cf, not_true_eq_false, not_false_eq_true, hS.1, hT.1, h7, x1, y1, e]
    refine hrec z ⟨fun b hb => ?_, f1.2.trans h2, fun r hr j hj => ?_⟩
    · rw [f1.1 b (by omega)]; exact h1 b (by omega)
    · by_cases e : r = k
      · subst e
        rw [f2 j hj, h1 _ (by omega)]
      · rw [f1.1 _ (by omega)]; exact h3 r (by omega) j hj
/-- copied so far -/
def dw_pr (a d : Nat) (s z : db_S) (m k : Nat) : Prop := (∀ b, ¬ (d ≤ b ∧ b < d + 125) → z.1 b = s.1 b) ∧ (∀ b, b ≠ d + 56 → z.2 b = s.2 b) ∧ (∀ e j, dw_in e j → e ≠ 0 → e ≠ 60 → e ≠ 63 → e < m → z.1 (d + e) j = s.1 (a + e) j) ∧ (∀ i, i < k → z.1 (d + dw_fe i) (dw_fj i) = s.1 (a + dw_fe i) (dw_fj i)) ∧ (57 ≤ m → ∀ j, j < 37 → z.2 (d + 56) j = s.2 (a + 56) j)
theorem dw_fe_e (i : Nat) : dw_fe i = 0 ∨ dw_fe i = 60 ∨ dw_fe i = 63 := by
  unfold dw_fe
  split
  · exact .inl rfl
  · split
    · exact .inr (.inl rfl)
    · exact .inr (.inr rfl)
theorem dw_gap {e j : Nat} (h : dw_in e j) : e ≠ 4 ∧ e ≠ 17 ∧ e ≠ 30 ∧ e ≠ 44 ∧ e ≠ 56 ∧ e ≠ 59 ∧ e ≠ 64 ∧ e < 125 := by
  unfold dw_in at h
  omega
theorem dw_pr_83 {e L : Nat} (h : dw_pr a d s z m k) (hd : a + 125 ≤ d ∨ d + 125 ≤ a) (he : e ≠ 0 ∧ e ≠ 60 ∧ e ≠ 63 ∧ e < 125) (hm : m = e) (hp : dw_S1 (a + e) L) (hq : dw_S1 (d + e) L) (hL : L ≤ 1000) (hi : ∀ j, dw_in e j → j < L) (h57 : e ≠ 56) : ∃ z', db_f83 z (a + e) (d + e) = some z' ∧ dw_pr a d s z' (e + 1) k := by
  obtain ⟨z', e1, f1, f2⟩ := dw_83 (s := z) hp hq hL
  obtain ⟨g1, g2, g3, g4, g5⟩ := h
  subst hm
  refine ⟨z', e1, fun b hb => ?_, fun b hb => ?_, fun e' j hj n1 n2 n3 hlt => ?_, fun i hi => ?_, fun h => ?_⟩
  · rw [f1.1 b (by omega)]; exact g1 b hb
  · rw [f1.2]; exact g2 b hb
  · by_cases e : e' = m
    · subst e
      rw [f2 j (hi j hj), g1 _ (by omega)]
    · rw [f1.1 _ (by omega)]; exact g3 e' j hj n1 n2 n3 (by omega)
  · have := dw_fe_e i
    rw [f1.1 _ (by omega)]; exact g4 i hi
  · rw [f1.2]; exact g5 (by omega)
theorem dw_pr_84 {e n L : Nat} (h : dw_pr a d s z m k) (hd : a + 125 ≤ d ∨ d + 125 ≤ a) (he : e + 1 + n ≤ 125) (hn60 : n ≤ 60) (hm : m = e) (hg : e = 4 ∨ e = 17 ∨ e = 30 ∨ e = 44 ∨ e = 64) (hn : ∀ r, r < n → e + 1 + r ≠ 56 ∧ e + 1 + r ≠ 60 ∧ e + 1 + r ≠ 63) (hp : dw_ST (a + e) n L) (hq : dw_ST (d + e) n L) (hL : L ≤ 1000) (hi : ∀ r, r < n → ∀ j, dw_in (e + 1 + r) j → j < L) : dz_T (db_f84 z (a + e) (d + e)) (fun z' => dw_pr a d s z' (e + 1 + n) k) := by
  subst hm
  refine db_T_mono (dw_84 hp hq (by omega) hL (by omega)) fun z' hz => ?_
  obtain ⟨f1, f2, f3⟩ := hz
  obtain ⟨g1, g2, g3, g4, g5⟩ := h
  refine ⟨fun b hb => ?_, fun b hb => ?_, fun e' j hj n1 n2 n3 hlt => ?_, fun i hi => ?_, fun h => ?_⟩
  · rw [f1 b (by omega)]; exact g1 b hb
  · rw [f2]; exact g2 b hb
  · have hgap := dw_gap hj
    by_cases e : e' < m
    · rw [f1 _ (by omega)]; exact g3 e' j hj n1 n2 n3 e
    · have e2 : e' = m + 1 + (e' - m - 1) := by omega
      have q := f3 (e' - m - 1) (by omega) j (hi (e' - m - 1) (by omega) j (e2 ▸ hj))
      rw [show d + m + 1 + (e' - m - 1) = d + e' by omega, show a + m + 1 + (e' - m - 1) = a + e' by omega] at q
      rw [q, g1 _ (by omega)]
  · have h0 := dw_fe_e i
    rw [f1 _ ?_]
    · exact g4 i hi
    · intro hb
      rcases h0 with h0 | h0 | h0
      · omega
      · exact (hn (dw_fe i - m - 1) (by omega)).2.1 (by omega)
      · exact (hn (dw_fe i - m - 1) (by omega)).2.2 (by omega)
  · rw [f2]
    refine g5 ?_
    by_cases q : 57 ≤ m
    · exact q
    · exact absurd (show m + 1 + (55 - m) = 56 by omega) (hn (55 - m) (by omega)).1
theorem dw_pr_f (h : dw_pr a d s z m k) (hd : a + 125 ≤ d ∨ d + 125 ≤ a) : dw_pr a d s (db_uI z (d + dw_fe k) (dw_fj k) (z.1 (a + dw_fe k) (dw_fj k))) m (k + 1) := by
  obtain ⟨g1, g2, g3, g4, g5⟩ := h
  have h0 := dw_fe_e k
  have hx : z.1 (a + dw_fe k) (dw_fj k) = s.1 (a + dw_fe k) (dw_fj k) := by rw [g1 _ (by omega)]
  refine ⟨fun b hb => ?_, g2, fun e' j hj n1 n2 n3 hlt => ?_, fun i hi => ?_, g5⟩
  · rw [db_uI_n (by omega)]; exact g1 b hb
  · rw [db_uI_n (by omega)]; exact g3 e' j hj n1 n2 n3 hlt
  · rw [db_uI_if]
    by_cases e : i = k
    · subst e
      rw [if_pos ⟨rfl, rfl⟩]; exact hx
    · by_cases e2 : d + dw_fe i = d + dw_fe k ∧ dw_fj i = dw_fj k
      · rw [if_pos e2, hx, show dw_fe i = dw_fe k by omega, e2.2]
      · rw [if_neg e2]; exact g4 i (by omega)
theorem dw_pr_L (h : dw_pr a d s z 56 k) (hd : a + 125 ≤ d ∨ d + 125 ≤ a) (hp : db_ka (a + 56) = 2 ∧ db_la (a + 56) = 37) (hq : db_ka (d + 56) = 2 ∧ db_la (d + 56) = 37) : ∃ z', db_cL z (a + 56) (nI 0) (d + 56) (nI 0) (nI 37) = some z' ∧ dw_pr a d s z' 57 k := by
  obtain ⟨g1, g2, g3, g4, g5⟩ := h
  refine ⟨(z.1, fun b => cond (Nat.beq b (d + 56)) (va_cpy (z.2 (a + 56)) (z.2 (d + 56)) 0 0 37) (z.2 b)), ?_, g1, fun b hb => ?_, fun e' j hj n1 n2 n3 hlt => ?_, g4, fun _ j hj => ?_⟩
  · unfold db_cL
    rw [hp.1, hp.2, hq.1, hq.2]
    rfl
  · show cond (Nat.beq b (d + 56)) _ _ = _
    rw [db_beq_ne hb]
    exact g2 b hb
  · have hgap := dw_gap hj
    exact g3 e' j hj n1 n2 n3 (by omega)
  · show (cond (Nat.beq (d + 56) (d + 56)) (va_cpy (z.2 (a + 56)) (z.2 (d + 56)) 0 0 37) (z.2 (d + 56))) j = _
    rw [Nat.beq_refl]
    show va_cpy (z.2 (a + 56)) (z.2 (d + 56)) 0 0 37 j = _
    rw [pk_cpy_in (Nat.zero_le j) (by omega), g2 _ (by omega)]
    simp
noncomputable def dw_82 (s : db_S) (a d : Nat) : Option db_S := ((db_f83 s (a + 1) (d + 1)).bind fun x1 => ((db_f83 x1 (a + 2) (d + 2)).bind fun x2 => ((db_f83 x2 (a + 3) (d + 3)).bind fun x3 => ((db_f84 x3 (a + 4) (d + 4)).bind fun x4 => ((db_f84 x4 (a + 17) (d + 17)).bind fun x5 => ((db_f84 x5 (a + 30) (d + 30)).bind fun x6 => ((db_f83 x6 (a + 39) (d + 39)).bind fun x7 => ((db_f83 x7 (a + 40) (d + 40)).bind fun x8 => ((db_f83 x8 (a + 41) (d + 41)).bind fun x9 => ((db_f83 x9 (a + 42) (d + 42)).bind fun x10 => ((db_f83 x10 (a + 43) (d + 43)).bind fun x11 => ((db_f84 x11 (a + 44) (d + 44)).bind fun x12 => ((db_f83 x12 (a + 55) (d + 55)).bind fun x13 => ((db_pI x13 d 13 (x13.1 a 13)).bind fun x14 => ((db_pI x14 d 14 (x14.1 a 14)).bind fun x15 => ((db_cL x15 (a + 56) (0 : Int32) (d + 56) (0 : Int32) (37 : Int32)).bind fun x16 => ((db_f83 x16 (a + 57) (d + 57)).bind fun x17 => ((db_f83 x17 (a + 58) (d + 58)).bind fun x18 => ((db_pI x18 d 18 (x18.1 a 18)).bind fun x19 => (some x19))))))))))))))))))))
theorem dw_82_ok (h : dw_pr a d s z 1 0) (hd : a + 125 ≤ d ∨ d + 125 ≤ a) (hA : dw_Sh a) (hD : dw_Sh d) : dz_T (dw_82 z a d) (fun z' => dw_pr a d s z' 59 3) := by
  unfold dw_82
  obtain ⟨z1, e1, h1⟩ := dw_pr_83 (e := 1) (L := 6) h hd (by decide) rfl hA.1 hD.1 (by decide) (fun j hj => by unfold dw_in at hj; omega) (by decide)
  obtain ⟨z2, e2, h2⟩ := dw_pr_83 (e := 2) (L := 4) h1 hd (by decide) rfl hA.2.1 hD.2.1 (by decide) (fun j hj => by unfold dw_in at hj; omega) (by decide)
  obtain ⟨z3, e3, h3⟩ := dw_pr_83 (e := 3) (L := 3) h2 hd (by decide) rfl hA.2.2.1 hD.2.2.1 (by decide) (fun j hj => by unfold dw_in at hj; omega) (by decide)
  obtain ⟨z4, e4, h4⟩ := dw_pr_84 (e := 4) (n := 12) (L := 6) h3 hd (by decide) (by decide) rfl (by decide) (fun r hr => by omega) hA.2.2.2.1 hD.2.2.2.1 (by decide) (fun r hr j hj => by unfold dw_in at hj; omega)
  obtain ⟨z17, e17, h17⟩ := dw_pr_84 (e := 17) (n := 12) (L := 2) h4 hd (by decide) (by decide) rfl (by decide) (fun r hr => by omega) hA.2.2.2.2.1 hD.2.2.2.2.1 (by decide) (fun r hr j hj => by unfold dw_in at hj; omega)
  obtain ⟨z30, e30, h30⟩ := dw_pr_84 (e := 30) (n := 8) (L := 6) h17 hd (by decide) (by decide) rfl (by decide) (fun r hr => by omega) hA.2.2.2.2.2.1 hD.2.2.2.2.2.1 (by decide) (fun r hr j hj => by unfold dw_in at hj; omega)
  obtain ⟨z39, e39, h39⟩ := dw_pr_83 (e := 39) (L := 8) h30 hd (by decide) rfl hA.2.2.2.2.2.2.1 hD.2.2.2.2.2.2.1 (by decide) (fun j hj => by unfold dw_in at hj; omega) (by decide)
  obtain ⟨z40, e40, h40⟩ := dw_pr_83 (e := 40) (L := 8) h39 hd (by decide) rfl hA.2.2.2.2.2.2.2.1 hD.2.2.2.2.2.2.2.1 (by decide) (fun j hj => by unfold dw_in at hj; omega) (by decide)
  obtain ⟨z41, e41, h41⟩ := dw_pr_83 (e := 41) (L := 8) h40 hd (by decide) rfl hA.2.2.2.2.2.2.2.2.1 hD.2.2.2.2.2.2.2.2.1 (by decide) (fun j hj => by unfold dw_in at hj; omega) (by decide)
  obtain ⟨z42, e42, h42⟩ := dw_pr_83 (e := 42) (L := 12) h41 hd (by decide) rfl hA.2.2.2.2.2.2.2.2.2.1 hD.2.2.2.2.2.2.2.2.2.1 (by decide) (fun j hj => by unfold dw_in at hj; omega) (by decide)
  obtain ⟨z43, e43, h43⟩ := dw_pr_83 (e := 43) (L := 12) h42 hd (by decide) rfl hA.2.2.2.2.2.2.2.2.2.2.1 hD.2.2.2.2.2.2.2.2.2.2.1 (by decide) (fun j hj => by unfold dw_in at hj; omega) (by decide)
  obtain ⟨z44, e44, h44⟩ := dw_pr_84 (e := 44) (n := 10) (L := 12) h43 hd (by decide) (by decide) rfl (by decide) (fun r hr => by omega) hA.2.2.2.2.2.2.2.2.2.2.2.1 hD.2.2.2.2.2.2.2.2.2.2.2.1 (by decide) (fun r hr j hj => by unfold dw_in at hj; omega)
  obtain ⟨z55, e55, h55⟩ := dw_pr_83 (e := 55) (L := 10) h44 hd (by decide) rfl hA.2.2.2.2.2.2.2.2.2.2.2.2.1 hD.2.2.2.2.2.2.2.2.2.2.2.2.1 (by decide) (fun j hj => by unfold dw_in at hj; omega) (by decide)
  have f1 := dw_pr_f h55 hd
  have f2 := dw_pr_f f1 hd
  obtain ⟨z56, e56, h56⟩ := dw_pr_L f2 hd hA.2.2.2.2.2.2.2.2.2.2.2.2.2.1 hD.2.2.2.2.2.2.2.2.2.2.2.2.2.1
  obtain ⟨z57, e57, h57⟩ := dw_pr_83 (e := 57) (L := 37) h56 hd (by decide) rfl hA.2.2.2.2.2.2.2.2.2.2.2.2.2.2.1 hD.2.2.2.2.2.2.2.2.2.2.2.2.2.2.1 (by decide) (fun j hj => by unfold dw_in at hj; omega) (by decide)
  obtain ⟨z58, e58, h58⟩ := dw_pr_83 (e := 58) (L := 37) h57 hd (by decide) rfl hA.2.2.2.2.2.2.2.2.2.2.2.2.2.2.2 hD.2.2.2.2.2.2.2.2.2.2.2.2.2.2.2 (by decide) (fun j hj => by unfold dw_in at hj; omega) (by decide)
  have f3 := dw_pr_f h58 hd
  refine ⟨_, ?_, f3⟩
  rw [e1, db_bind_some]
  rw [e2, db_bind_some]
  rw [e3, db_bind_some]
  rw [e4, db_bind_some]
  rw [e17, db_bind_some]
  rw [e30, db_bind_some]
  rw [e39, db_bind_some]
  rw [e40, db_bind_some]
  rw [e41, db_bind_some]
  rw [e42, db_bind_some]
  rw [e43, db_bind_some]
  rw [e44, db_bind_some]
  rw [e55, db_bind_some]
  rw [db_pI_e, db_bind_some, db_pI_e, db_bind_some]
  refine (congrArg (fun o => Option.bind o _) e56).trans ?_
  rw [db_bind_some, e57, db_bind_some, e58, db_bind_some, db_pI_e, db_bind_some]
  rfl
noncomputable def dw_175 (s : db_S) (a d : Nat) : Option db_S := ((db_f83 s (a + 61) (d + 61)).bind fun s2 => ((db_f83 s2 (a + 62) (d + 62)).bind fun s4 => ((db_pI s4 (d + 60) 2 (s4.1 (a + 60) 2)).bind fun s5 => ((db_pI s5 (d + 60) 3 (s5.1 (a + 60) 3)).bind fun s6 => (some s6)))))
theorem dw_pr_up {m' : Nat} (h : dw_pr a d s z m k) (hm : m ≤ m') (hg : ∀ e j, dw_in e j → e ≠ 0 → e ≠ 60 → e ≠ 63 → e < m' → e < m) (h57 : 57 ≤ m' → 57 ≤ m) : dw_pr a d s z m' k := by
  obtain ⟨g1, g2, g3, g4, g5⟩ := h
  exact ⟨g1, g2, fun e j hj n1 n2 n3 hlt => g3 e j hj n1 n2 n3 (hg e j hj n1 n2 n3 hlt), g4, fun h => g5 (h57 h)⟩
theorem dw_175_ok (h : dw_pr a d s z 59 3) (hd : a + 125 ≤ d ∨ d + 125 ≤ a) (hA : dw_Sl a) (hD : dw_Sl d) : dz_T (dw_175 z a d) (fun z' => dw_pr a d s z' 63 5) := by
  have h' : dw_pr a d s z 61 3 := dw_pr_up h (by omega) (fun e j hj n1 n2 n3 hlt => by have := dw_gap hj; omega) (by omega)
  unfold dw_175
  obtain ⟨z61, e61, h61⟩ := dw_pr_83 (e := 61) (L := 12) h' hd (by decide) rfl hA.1 hD.1 (by decide) (fun j hj => by unfold dw_in at hj; omega) (by decide)
  obtain ⟨z62, e62, h62⟩ := dw_pr_83 (e := 62) (L := 4) h61 hd (by decide) rfl hA.2.1 hD.2.1 (by decide) (fun j hj => by unfold dw_in at hj; omega) (by decide)
  have f1 := dw_pr_f h62 hd
  have f2 := dw_pr_f f1 hd
  refine ⟨_, ?_, f2⟩
  rw [e61, db_bind_some, e62, db_bind_some, db_pI_e, db_bind_some, db_pI_e, db_bind_some]
  rfl
noncomputable def dw_97 (s : db_S) (a d : Nat) : Option db_S := (cond (db_b01 (s.1 (a + 63) 0)) ((db_pI s (d + 63) 0 (s.1 (a + 63) 0)).bind fun s1 => ((db_pI s1 (d + 63) 1 (s1.1 (a + 63) 1)).bind fun s2 => ((db_pI s2 (d + 63) 2 (s2.1 (a + 63) 2)).bind fun s3 => ((db_f84 s3 (a + 64) (d + 64)).bind fun s5 => (some s5))))) none)
theorem dw_97_ok (h : dw_pr a d s z 63 5) (hd : a + 125 ≤ d ∨ d + 125 ≤ a) (hA : dw_Sl a) (hD : dw_Sl d) (hb : z.1 (a + 63) 0 = nI 0 ∨ z.1 (a + 63) 0 = nI 1) : dz_T (dw_97 z a d) (fun z' => dw_pr a d s z' 125 8) := by
  have h' : dw_pr a d s z 64 5 := dw_pr_up h (by omega) (fun e j hj n1 n2 n3 hlt => by have := dw_gap hj; omega) (by omega)
  have f1 := dw_pr_f h' hd
  have f2 := dw_pr_f f1 hd
  have f3 := dw_pr_f f2 hd
  obtain ⟨z64, e64, h64⟩ := dw_pr_84 (e := 64) (n := 60) (L := 6) f3 hd (by decide) (by decide) rfl (by decide) (fun r hr => by omega) hA.2.2 hD.2.2 (by decide) (fun r hr j hj => by unfold dw_in at hj; omega)
  unfold dw_97
  have e01 : db_b01 (z.1 (a + 63) 0) = true := by rcases hb with hb | hb <;> rw [hb] <;> rfl
  refine ⟨_, ?_, h64⟩
  rw [e01, db_ct, db_pI_e, db_bind_some, db_pI_e, db_bind_some, db_pI_e, db_bind_some]
  exact (congrArg (fun o => Option.bind o _) e64).trans rfl
theorem dw_pr_cp (h : dw_pr a d s z 125 8) : dw_cp a d s z := by
  obtain ⟨g1, g2, g3, g4, g5⟩ := h
  refine ⟨fun e j hj => ?_, g5 (by omega)⟩
  by_cases n1 : e = 0
  · subst n1
    have : j = 13 ∨ j = 14 ∨ j = 18 := by unfold dw_in at hj; omega
    rcases this with rfl | rfl | rfl
    · exact g4 0 (by omega)
    · exact g4 1 (by omega)
    · exact g4 2 (by omega)
  · by_cases n2 : e = 60
    · subst n2
      have : j = 2 ∨ j = 3 := by unfold dw_in at hj; omega
      rcases this with rfl | rfl
      · exact g4 3 (by omega)
      · exact g4 4 (by omega)
    · by_cases n3 : e = 63
      · subst n3
        have : j = 0 ∨ j = 1 ∨ j = 2 := by unfold dw_in at hj; omega
        rcases this with rfl | rfl | rfl
        · exact g4 5 (by omega)
        · exact g4 6 (by omega)
        · exact g4 7 (by omega)
      · exact g3 e j hj n1 n2 n3 (dw_gap hj).2.2.2.2.2.2.2
theorem dw_pr_0 : dw_pr a d s s 1 0 := ⟨fun b _ => rfl, fun b _ => rfl, fun e j hj n1 n2 n3 hlt => absurd hlt (by omega), fun i hi => absurd hi (by omega), fun h => absurd h (by omega)⟩
/-- a whole book copied -/
noncomputable def dw_all (s : db_S) (a d : Nat) : Option db_S := (dw_82 s a d).bind fun s2 => (dw_175 s2 a d).bind fun s4 => (dw_97 s4 a d)
theorem dw_all_ok (hd : a + 125 ≤ d ∨ d + 125 ≤ a) (hA : dw_Sh a) (hD : dw_Sh d) (hA' : dw_Sl a) (hD' : dw_Sl d) (hb : s.1 (a + 63) 0 = nI 0 ∨ s.1 (a + 63) 0 = nI 1) : dz_T (dw_all s a d) (fun z => dw_cp a d s z ∧ (∀ b, ¬ (d ≤ b ∧ b < d + 125) → z.1 b = s.1 b) ∧ ∀ b, b ≠ d + 56 → z.2 b = s.2 b) := by
  unfold dw_all
  refine db_T_go (dw_82_ok dw_pr_0 hd hA hD) fun s2 h2 => ?_
  refine db_T_go (dw_175_ok h2 hd hA' hD') fun s4 h4 => ?_
  refine db_T_mono (dw_97_ok h4 hd hA' hD' (by rw [h4.1 _ (by omega)]; exact hb)) fun z hz => ?_
  exact ⟨dw_pr_cp hz, hz.1, hz.2.1⟩
end DBCQ
theorem dw_82_294_20 {s : db_S} : db_f82_294_20 s = dw_82 s 20 294 := Eq.trans rfl rfl
theorem dw_175_354_80 {s : db_S} : db_f175_354_80 s = dw_175 s 20 294 := Eq.trans rfl rfl
theorem dw_97_357_83 {s : db_S} : db_f97_357_83 s = dw_97 s 20 294 := Eq.trans rfl rfl
theorem dw_82_419_20 {s : db_S} : db_f82_419_20 s = dw_82 s 20 419 := Eq.trans rfl rfl
theorem dw_175_479_80 {s : db_S} : db_f175_479_80 s = dw_175 s 20 419 := Eq.trans rfl rfl
theorem dw_97_482_83 {s : db_S} : db_f97_482_83 s = dw_97 s 20 419 := Eq.trans rfl rfl
theorem dw_82_544_20 {s : db_S} : db_f82_544_20 s = dw_82 s 20 544 := Eq.trans rfl rfl
theorem dw_175_604_80 {s : db_S} : db_f175_604_80 s = dw_175 s 20 544 := Eq.trans rfl rfl
theorem dw_97_607_83 {s : db_S} : db_f97_607_83 s = dw_97 s 20 544 := Eq.trans rfl rfl
theorem dw_82_20_294 {s : db_S} : db_f82_20_294 s = dw_82 s 294 20 := Eq.trans rfl rfl
theorem dw_175_80_354 {s : db_S} : db_f175_80_354 s = dw_175 s 294 20 := Eq.trans rfl rfl
theorem dw_97_83_357 {s : db_S} : db_f97_83_357 s = dw_97 s 294 20 := Eq.trans rfl rfl
theorem dw_82_20_419 {s : db_S} : db_f82_20_419 s = dw_82 s 419 20 := Eq.trans rfl rfl
theorem dw_175_80_479 {s : db_S} : db_f175_80_479 s = dw_175 s 419 20 := Eq.trans rfl rfl
theorem dw_97_83_482 {s : db_S} : db_f97_83_482 s = dw_97 s 419 20 := Eq.trans rfl rfl
theorem dw_82_20_544 {s : db_S} : db_f82_20_544 s = dw_82 s 544 20 := Eq.trans rfl rfl
theorem dw_175_80_604 {s : db_S} : db_f175_80_604 s = dw_175 s 544 20 := Eq.trans rfl rfl
theorem dw_97_83_607 {s : db_S} : db_f97_83_607 s = dw_97 s 544 20 := Eq.trans rfl rfl
