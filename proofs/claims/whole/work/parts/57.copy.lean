/-! COPIES OF A BOOK -/
/-- the ints of a book, by their place in the block -/
def dw_in (e j : Nat) : Prop := (e = 0 ∧ (j = 13 ∨ j = 14 ∨ j = 18)) ∨ (e = 1 ∧ j < 6) ∨ (e = 2 ∧ j < 4) ∨ (e = 3 ∧ j < 3) ∨ (5 ≤ e ∧ e ≤ 16 ∧ j < 6) ∨ (18 ≤ e ∧ e ≤ 29 ∧ j < 2) ∨ (31 ≤ e ∧ e ≤ 38 ∧ j < 6) ∨ (39 ≤ e ∧ e ≤ 41 ∧ j < 8) ∨ (42 ≤ e ∧ e ≤ 43 ∧ j < 12) ∨ (45 ≤ e ∧ e ≤ 54 ∧ j < 12) ∨ (e = 55 ∧ j < 10) ∨ (57 ≤ e ∧ e ≤ 58 ∧ j < 37) ∨ (e = 60 ∧ (j = 2 ∨ j = 3)) ∨ (e = 61 ∧ j < 12) ∨ (e = 62 ∧ j < 4) ∨ (e = 63 ∧ j ≤ 2) ∨ (65 ≤ e ∧ e ≤ 124 ∧ j < 6)
/-- the block at d of z is the block at a of s -/
def dw_cp (a d : Nat) (s z : db_S) : Prop := (∀ e j, dw_in e j → z.1 (d + e) j = s.1 (a + e) j) ∧ ∀ j, j < 37 → z.2 (d + 56) j = s.2 (a + 56) j
theorem dw_i0 {j : Nat} (h : j = 13 ∨ j = 14 ∨ j = 18) : dw_in 0 j := (.inl ⟨rfl, h⟩)
theorem dw_i1 {j : Nat} (h : j < 6) : dw_in 1 j := (.inr (.inl ⟨rfl, h⟩))
theorem dw_i2 {j : Nat} (h : j < 4) : dw_in 2 j := (.inr (.inr (.inl ⟨rfl, h⟩)))
theorem dw_i3 {j : Nat} (h : j < 3) : dw_in 3 j := (.inr (.inr (.inr (.inl ⟨rfl, h⟩))))
theorem dw_i5 {e j : Nat} (g : e < 12) (h : j < 6) : dw_in (5 + e) j := (.inr (.inr (.inr (.inr (.inl ⟨by omega, by omega, h⟩)))))
theorem dw_i18 {e j : Nat} (g : e < 12) (h : j < 2) : dw_in (18 + e) j := (.inr (.inr (.inr (.inr (.inr (.inl ⟨by omega, by omega, h⟩))))))
theorem dw_i31 {e j : Nat} (g : e < 8) (h : j < 6) : dw_in (31 + e) j := (.inr (.inr (.inr (.inr (.inr (.inr (.inl ⟨by omega, by omega, h⟩)))))))
theorem dw_i39 {e j : Nat} (g : e < 3) (h : j < 8) : dw_in (39 + e) j := (.inr (.inr (.inr (.inr (.inr (.inr (.inr (.inl ⟨by omega, by omega, h⟩))))))))
theorem dw_i42 {e j : Nat} (g : e < 2) (h : j < 12) : dw_in (42 + e) j := (.inr (.inr (.inr (.inr (.inr (.inr (.inr (.inr (.inl ⟨by omega, by omega, h⟩)))))))))
theorem dw_i45 {e j : Nat} (g : e < 10) (h : j < 12) : dw_in (45 + e) j := (.inr (.inr (.inr (.inr (.inr (.inr (.inr (.inr (.inr (.inl ⟨by omega, by omega, h⟩))))))))))
theorem dw_i55 {j : Nat} (h : j < 10) : dw_in 55 j := (.inr (.inr (.inr (.inr (.inr (.inr (.inr (.inr (.inr (.inr (.inl ⟨rfl, h⟩)))))))))))
theorem dw_i57 {e j : Nat} (g : e < 2) (h : j < 37) : dw_in (57 + e) j := (.inr (.inr (.inr (.inr (.inr (.inr (.inr (.inr (.inr (.inr (.inr (.inl ⟨by omega, by omega, h⟩))))))))))))
theorem dw_i60 {j : Nat} (h : j = 2 ∨ j = 3) : dw_in 60 j := (.inr (.inr (.inr (.inr (.inr (.inr (.inr (.inr (.inr (.inr (.inr (.inr (.inl ⟨rfl, h⟩)))))))))))))
theorem dw_i61 {j : Nat} (h : j < 12) : dw_in 61 j := (.inr (.inr (.inr (.inr (.inr (.inr (.inr (.inr (.inr (.inr (.inr (.inr (.inr (.inl ⟨rfl, h⟩))))))))))))))
theorem dw_i62 {j : Nat} (h : j < 4) : dw_in 62 j := (.inr (.inr (.inr (.inr (.inr (.inr (.inr (.inr (.inr (.inr (.inr (.inr (.inr (.inr (.inl ⟨rfl, h⟩)))))))))))))))
theorem dw_i63 {j : Nat} (h : j ≤ 2) : dw_in 63 j := (.inr (.inr (.inr (.inr (.inr (.inr (.inr (.inr (.inr (.inr (.inr (.inr (.inr (.inr (.inr (.inl ⟨rfl, h⟩))))))))))))))))
theorem dw_i65 {e j : Nat} (g : e < 60) (h : j < 6) : dw_in (65 + e) j := (.inr (.inr (.inr (.inr (.inr (.inr (.inr (.inr (.inr (.inr (.inr (.inr (.inr (.inr (.inr (.inr ⟨by omega, by omega, h⟩))))))))))))))))
section DBCP
variable {U : Nat} {s z : db_S} {c : db_C} {w : Nat → Int64} {a d : Nat}
theorem dw_nc {f f' : Nat → Int64} {g g' h h' : Nat → Int32} (hf : ∀ j, j < 37 → f j = f' j) (hg : ∀ j, j < 37 → g j = g' j) (hh : ∀ j, j < 37 → h j = h' j) {m : Nat} (hm : m ≤ 37) {x : Int64} {q : Nat} : db_nc f g h m x q = db_nc f' g' h' m x q := by
  unfold db_nc
  have e : db_fst (fun i => decide (f i = x) && decide (g i = nI q)) m = db_fst (fun i => decide (f' i = x) && decide (g' i = nI q)) m := db_fst_cong fun r hr => by rw [hf r (by omega), hg r (by omega)]
  rw [e]
  cases hx : db_fst (fun i => decide (f' i = x) && decide (g' i = nI q)) m with
  | none => rfl
  | some i => exact hh i (by have := db_fst_lt hx; omega)
theorem dw_BR (hO : db_Ok U c) (hC : dw_cp a d s z) (h : db_BR a s c w) : db_BR d z c w := by
  obtain ⟨⟨⟨t1, t2⟩, ⟨p1, p2⟩, ⟨s1, s2⟩, ⟨r1, r2⟩, ⟨n1, n2⟩, ⟨d1, d2⟩⟩, -, -, hD, -⟩ := hO
  obtain ⟨hc, hl⟩ := hC
  have hc0 : ∀ j, j = 13 ∨ j = 14 ∨ j = 18 → z.1 d j = s.1 a j := fun j hj => hc 0 j (dw_i0 hj)
  obtain ⟨h1, h2, h3, h4, h5, h6, h7, ⟨h8, h9⟩, h10, ⟨m, m1, m2, m3⟩, h12, h13, h14, h15⟩ := h
  have hc' : ∀ b e j, b = d + e → dw_in e j → z.1 b j = s.1 (a + e) j := fun b e j hb hi => by rw [hb]; exact hc e j hi
  refine ⟨fun k hk => ?_, fun p hp => ?_, fun q hq => ?_, fun r hr => ?_, fun k hk => ?_, fun e he => ?_, fun r hr => ?_, ⟨?_, ?_⟩, fun t ht => ?_, ⟨m, m1, ?_, fun x q q1 q2 => ?_⟩, fun r hr => ?_, fun p hp => ?_, ?_, ?_⟩
  · rw [hc 1 k (dw_i1 hk)]; exact h1 k hk
  · rw [hc 2 p (dw_i2 (by omega))]; exact h2 p hp
  · rw [hc 3 q (dw_i3 (by omega))]; exact h3 q hq
  · obtain ⟨e0, e1, e2, e3, e4, e5⟩ := h4 r hr
    have g : ∀ j, j < 6 → z.1 (d + 5 + r) j = s.1 (a + 5 + r) j := fun j hj => by rw [hc' (d + 5 + r) (5 + r) j (by omega) (dw_i5 (by omega) hj), Nat.add_assoc a]
    rw [g 0 (by omega), g 1 (by omega), g 2 (by omega), g 3 (by omega), g 4 (by omega), g 5 (by omega)]
    exact ⟨e0, e1, e2, e3, e4, e5⟩
  · have g : ∀ j, j < 2 → z.1 (d + 18 + k) j = s.1 (a + 18 + k) j := fun j hj => by rw [hc' (d + 18 + k) (18 + k) j (by omega) (dw_i18 (by omega) hj), Nat.add_assoc a]
    rw [g 0 (by omega), g 1 (by omega)]
    exact h5 k hk
  · obtain ⟨e1, e2, e3, e4⟩ := h6 e he
    have hL := (hD e he).1.1.2
    rw [hc 39 e (dw_i39 (e := 0) (by omega) (by omega)), hc 40 e (dw_i39 (e := 1) (by omega) (by omega)), hc 41 e (dw_i39 (e := 2) (by omega) (by omega))]
    refine ⟨e1, e2, e3, fun k hk => ?_⟩
    rw [hc' (d + 31 + e) (31 + e) k (by omega) (dw_i31 (by omega) (by omega)), ← Nat.add_assoc a]
    exact e4 k hk
  · rw [hc 42 r (dw_i42 (e := 0) (by omega) (by omega)), hc 43 r (dw_i42 (e := 1) (by omega) (by omega))]; exact h7 r hr
  · rw [hc0 13 (by omega)]; exact h8
  · rw [hc0 14 (by omega)]; exact h9
  · obtain ⟨e1, e2⟩ := h10 t ht
    rw [hc 55 t (dw_i55 (by omega))]
    refine ⟨e1, fun r hr e => ?_⟩
    have hlt : fb_ct (fun r => decide (c (19 + r) = nI t)) r < 12 := by
      have := fb_ct_le (fun r => decide (c (19 + r) = nI t)) r
      omega
    rw [hc' (d + 45 + t) (45 + t) _ (by omega) (dw_i45 (by omega) hlt), ← Nat.add_assoc a]
    exact e2 r hr e
  · rw [hc0 18 (by omega)]; exact m2
  · rw [← m3 x q q1 q2]
    exact dw_nc hl (fun j hj => hc 57 j (dw_i57 (e := 0) (by omega) hj)) (fun j hj => hc 58 j (dw_i57 (e := 1) (by omega) hj)) m1
  · rw [hc 61 r (dw_i61 (by omega))]; exact h12 r hr
  · rw [hc 62 p (dw_i62 (by omega))]; exact h13 p hp
  · rw [hc 60 2 (dw_i60 (.inl rfl))]; exact h14
  · rw [hc 60 3 (dw_i60 (.inr rfl))]; exact h15
theorem dw_SR {R R' : Nat → Int32} {w : Nat} (h : ∀ j, j < 6 → R' j = R j) (hs : db_SR R c w) : db_SR R' c w := by
  unfold db_SR at hs ⊢
  rw [h 0 (by omega), h 1 (by omega), h 2 (by omega), h 3 (by omega), h 4 (by omega)]
  exact hs
theorem dw_PL {R R' : Nat → Nat → Int32} (h : ∀ a j, j < 6 → R' a j = R a j) : ∀ {f d i j a b : Nat}, db_PL R c f d i j a b → db_PL R' c f d i j a b
  | 0, _, _, _, _, _, hp => hp
  | f + 1, d, i, j, a, b, hp => by
    rcases hp with hp | ⟨hij, e, e1, e2, e3, e4, e5⟩
    · exact .inl hp
    · refine .inr ⟨hij, e, e1, e2, e3, dw_SR (h a) e4, ?_⟩
      rcases e5 with ⟨e5, e6, e7⟩ | ⟨e5, e6, g, g1, g2, g3, g4, g5, g6⟩
      · exact .inl ⟨e5, e6, dw_PL h e7⟩
      · refine .inr ⟨e5, e6, g, g1, ?_, ?_, ?_, dw_PL h g5, dw_PL h g6⟩
        · rw [h a 5 (by omega)]; exact g2
        · rw [h g 0 (by omega)]; exact g3
        · rw [h g 5 (by omega)]; exact g4
theorem dw_PN (hC : dw_cp a d s z) (h : db_PN (a + 63) s c) : db_PN (d + 63) z c := by
  obtain ⟨hc, -⟩ := hC
  obtain ⟨⟨h1, h2⟩, n, y, h3, h4, h5, h6, h7, h8⟩ := h
  refine ⟨⟨?_, h2⟩, n, y, h3, h4, h5, ?_, ?_, dw_PL (fun b j hj => ?_) h8⟩
  · rw [hc 63 0 (dw_i63 (by omega))]; exact h1
  · rw [hc 63 1 (dw_i63 (by omega))]; exact h6
  · rw [hc 63 2 (dw_i63 (by omega))]; exact h7
  · unfold db_pr
    by_cases hb : b < 60
    · rw [if_pos hb, if_pos hb, show d + 63 + 2 + b = d + (65 + b) by omega, show a + 63 + 2 + b = a + (65 + b) by omega]
      exact hc _ _ (dw_i65 hb hj)
    · rw [if_neg hb, if_neg hb]
theorem dw_B1 (hC : dw_cp a d s z) (h : db_B1 U a s c w) : db_B1 U d z c w := ⟨h.1, dw_BR h.1 hC h.2.1, dw_PN hC h.2.2⟩
end DBCP
