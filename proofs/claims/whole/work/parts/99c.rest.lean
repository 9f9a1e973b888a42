/-! STEPS OF THE NIGHTS: what stands behind their word -/
/-- the book in force with the steps read so far -/
def dv_cc (b : db_S) : db_C := fun k => if k < 201 then db_bk b 0 k else db_bk b 4 k
/-- on the way through the step m in row r; a1, b1: behind its word -/
def dv_CN (x : Nat → Int32) (n r m : Nat) (a1 b1 : db_S) (i : Nat) (a b : db_S) : Prop := dv_CT x n i a ∧ dv_RT x n i b ∧ b.1 669 12 = nI 0 ∧ (∀ c, c ≠ 210 + r → c ≠ 13 → a.1 c = a1.1 c) ∧ a.2 = a1.2 ∧ dv_Fa a1 a ∧ (∀ j, ¬ (2121 + 9 * m < j ∧ j < 2129 + 9 * m) → b.1 674 j = b1.1 674 j) ∧ b.2 676 = b1.2 676 ∧ b.1 669 24 = b1.1 669 24 ∧ dv_Fb b1 b
def dv_NE (x : Nat → Int32) (n r m : Nat) (a1 b1 : db_S) (i : Nat) (fa : Option (Bool × db_S)) (fb : Option db_S) : Prop := ∃ rr a b, fa = some (rr, a) ∧ fb = some b ∧ ((rr = true ∧ (∃ i1, i ≤ i1 ∧ dv_CN x n r m a1 b1 i1 a b) ∧ db_SR (a.1 (210 + r)) (dv_cc b) (201 + 9 * m)) ∨ (rr = false ∧ dv_Fl a b ∧ dv_Fa a1 a ∧ dv_Fb b1 b))
section DVNR
variable {a b a1 b1 a0 b0 z : db_S} {x : Nat → Int32} {n i r m k : Nat} {v u : Int32}
theorem dv_LkF {q : Nat} (hq : q < 6) (ha : dv_Fa a1 a) (hb : dv_Fb b1 b) (h : dv_Lk_20 a1 b1 q) : dv_Lk_20 a b q := by
  refine dv_Lk_c_20 h (ha.1 76 (by omega) (by omega)).2 (ha.1 77 (by omega) (by omega)).1 (ha.1 78 (by omega) (by omega)).1 (by rw [(ha.1 20 (by omega) (by omega)).1]) ?_ ?_
  · unfold db_bk
    rw [if_pos (by omega), if_pos (by omega), hb.2.2.2.1 _ (by omega)]
  · funext k
    unfold db_bw
    by_cases hk : k < 37
    · rw [if_pos hk, if_pos hk, hb.2.2.2.2.1 _ (by omega)]
    · rw [if_neg hk, if_neg hk]
theorem dv_n0F {q : Nat} (hq : q < 199) (hb : dv_Fb b1 b) : db_n (db_bk b 0) q = db_n (db_bk b1 0) q := by
  refine dv_n_e ?_
  unfold db_bk
  rw [if_pos (by omega), if_pos (by omega), hb.2.2.2.1 _ (by omega)]
theorem dv_cc_0 {q : Nat} (hq : q < 201) : dv_cc b q = db_bk b 0 q := if_pos hq
theorem dv_cc_n {q : Nat} (hq : q < 201) : db_n (dv_cc b) q = db_n (db_bk b 0) q := dv_n_e (dv_cc_0 hq)
theorem dv_cc_4 {g : Nat} (hm : m < 30) (hg : g < 9) : dv_cc b (201 + 9 * m + g) = b.1 674 (2121 + 9 * m + g) := by
  unfold dv_cc
  rw [if_neg (by omega), ← dv_bk_4 (by omega), show 1920 + (201 + 9 * m + g) = 2121 + 9 * m + g by omega]
theorem dv_cc_40 (hm : m < 30) : dv_cc b (201 + 9 * m) = b.1 674 (2121 + 9 * m) := dv_cc_4 (g := 0) hm (by omega)
theorem dv_rr2 {f : Nat} (hr : r < 60) (hf : f < 6) : (∀ (s : db_S) (v : Int32), db_wI s (210 + r) (nI f) v = some (db_uI s (210 + r) f v)) ∧ ∀ s : db_S, db_rI s (210 + r) (nI f) = some (s.1 (210 + r) f) := ⟨fun s v => db_h_210 hr hf, fun s => db_g_210 hr hf⟩
theorem dv_oOpt2 {q g d f j : Nat} (hq : q < 6) (hg : q = if g = 4 then 5 else g) (hg4 : g ≤ 4) (hj : j < 28) (hd : 146 ≤ d ∧ d ≤ 270) (hw : ∀ (s : db_S) (v : Int32), db_wI s d (nI f) v = some (db_uI s d f v)) (hr : ∀ s : db_S, db_rI s d (nI f) = some (s.1 d f)) (hC : dv_CT x n i a) (hR : dv_RT x n i b) (h0 : b.1 669 12 = nI 0) (hL : dv_Lk_20 a b q) : ∃ r a1 v b1, (((db_wI a d (nI f) (-(nI 1))).bind fun s5 => (db_bd (db_f66 s5 (nI j)) fun q6 s7 => (cond q6 (db_bd (db_f69_20 s7 (nI q) d (nI f)) fun q8 s9 => (cond q8 (some (true, s9)) (some (false, s9)))) (some (true, s7)))))) = some (r, a1) ∧ db_f270 b (db_i (decide (dv_w x n i = nI j))) (nI 0) (nI g) = some (v, b1) ∧ ((r = true ∧ db_O v (db_n (db_bk b 0) q) ∧ a1.1 d f = v ∧ dv_Fr d f a a1 ∧ (∃ i1, i ≤ i1 ∧ dv_CT x n i1 a1 ∧ dv_RT x n i1 b1) ∧ dv_Fn b b1) ∨ (r = false ∧ dv_Fl a1 b1 ∧ dv_Fa a a1 ∧ dv_Fb b b1)) := by
  have hC1 : dv_CT x n i (db_uI a d f (-(nI 1))) := dv_CT_u hC hd
  have h66 := dv_66 hC1 hj
  by_cases e : dv_w x n i = nI j
  · rw [if_pos e, decide_eq_true e] at h66
    have hk := dv_w_kd hj e
    have hC2 := dv_CT_s hC1 (show ¬ dv_kd x n i = 0 by omega)
    obtain ⟨b0, eb0, r1, r2⟩ := dv_nx hR
    have h0' : b0.1 669 12 = nI 0 := by rw [r2.2.1 12 (by omega)]; exact h0
    have ebk := dv_bk_e (q := 0) (r2.1 674 (by decide)).1
    have hL2 : dv_Lk_20 (db_uI (db_uI a d f (-(nI 1))) 13 9 (nI (i + 1))) b0 q := dv_Lk_c_20 hL rfl (by rw [db_uI_n (by decide), db_uI_n (by omega)]) (by rw [db_uI_n (by decide), db_uI_n (by omega)]) (by rw [db_uI_n (by decide), db_uI_n (by omega)]) (by rw [ebk]) (dv_bw_e (r2.1 676 (by decide)).2)
    obtain ⟨r, a2, v, b2, e1, e2, h⟩ := dv_oName_20 hq hg hg4 hd hw hr hC2 r1 h0' hL2
    rw [decide_eq_true e]
    rcases h with ⟨rfl, ⟨k, k1, rfl⟩, g1, g2, g3, g4, g5⟩ | ⟨rfl, rfl, g1, g2, g3⟩
    · refine ⟨true, a2, nI k, b2, ?_, ?_, .inl ⟨rfl, .inr ⟨k, by rw [← ebk]; exact k1, rfl⟩, g1, ⟨fun p h1 h2 => ?_, ?_, fun p hp => ?_, fun p hp => ?_⟩, ⟨i + 1 + 1, by omega, g3, g4⟩, dv_Fn_t r2 g5⟩⟩
      · skip
        simp (disch := omega) only [db_lit, eq_self, db_pI_e, db_pL_e, db_bind_some, db_bd_some, nI_add, pk_mul, nI_toInt, db_m1_t, dz_cn, Int.ofNat_le, Int.ofNat_lt, decide_true, decide_false, db_ct, db_cf, not_true_eq_false, not_false_eq_true, db_87e, db_37e, db_31e, db_28e, db_281e, db_211e, db_27, db_269w, db_litL, pk_lT, db_iL, db_p0_e, db_p0_n, db_p0_j, db_sub1, nI_eq, if_true, if_false, Bool.false_eq_true, Nat.one_ne_zero, hw, db_m1_l, h66, e1]
      · unfold db_f270
        simp (disch := omega) only [db_lit, eq_self, db_pI_e, db_pL_e, db_bind_some, db_bd_some, nI_add, pk_mul, nI_toInt, db_m1_t, dz_cn, Int.ofNat_le, Int.ofNat_lt, decide_true, decide_false, db_ct, db_cf, not_true_eq_false, not_false_eq_true, db_87e, db_37e, db_31e, db_28e, db_281e, db_211e, db_27, db_269w, db_litL, pk_lT, db_iL, db_p0_e, db_p0_n, db_p0_j, db_sub1, nI_eq, if_true, if_false, Bool.false_eq_true, Nat.one_ne_zero, h0, (show db_i true = nI 1 from rfl), eb0, e2, Nat.lt_irrefl]
      · rw [g2.1 p h1 h2, db_uI_n h2, db_uI_n h1]
      · rw [g2.2.1]; rfl
      · rw [g2.2.2.1 p hp, db_uI_j hp, db_uI_n (by omega)]
      · rw [g2.2.2.2 p hp, db_uI_n (by omega), db_uI_j hp]
    · refine ⟨false, a2, nI 0, b2, ?_, ?_, .inr ⟨rfl, g1, dv_Fa_t (dv_Fa_u (dv_Fa_u dv_Fa_r (.inl hd)) (.inr (by omega))) g2, dv_Fb_t (dv_Fb_n r2) g3⟩⟩
      · skip
        simp (disch := omega) only [db_lit, eq_self, db_pI_e, db_pL_e, db_bind_some, db_bd_some, nI_add, pk_mul, nI_toInt, db_m1_t, dz_cn, Int.ofNat_le, Int.ofNat_lt, decide_true, decide_false, db_ct, db_cf, not_true_eq_false, not_false_eq_true, db_87e, db_37e, db_31e, db_28e, db_281e, db_211e, db_27, db_269w, db_litL, pk_lT, db_iL, db_p0_e, db_p0_n, db_p0_j, db_sub1, nI_eq, if_true, if_false, Bool.false_eq_true, Nat.one_ne_zero, hw, db_m1_l, h66, e1]
      · unfold db_f270
        simp (disch := omega) only [db_lit, eq_self, db_pI_e, db_pL_e, db_bind_some, db_bd_some, nI_add, pk_mul, nI_toInt, db_m1_t, dz_cn, Int.ofNat_le, Int.ofNat_lt, decide_true, decide_false, db_ct, db_cf, not_true_eq_false, not_false_eq_true, db_87e, db_37e, db_31e, db_28e, db_281e, db_211e, db_27, db_269w, db_litL, pk_lT, db_iL, db_p0_e, db_p0_n, db_p0_j, db_sub1, nI_eq, if_true, if_false, Bool.false_eq_true, Nat.one_ne_zero, h0, (show db_i true = nI 1 from rfl), eb0, e2, Nat.lt_irrefl]
  · rw [if_neg e, decide_eq_false e] at h66
    rw [decide_eq_false e]
    refine ⟨true, db_uI a d f (-(nI 1)), -(nI 1), b, ?_, ?_, .inl ⟨rfl, .inl rfl, db_uI_1, ⟨fun p h1 h2 => db_uI_n h1, rfl, fun p hp => by rw [db_uI_n (by omega)], fun p hp => db_uI_j hp⟩, ⟨i, Nat.le_refl _, hC1, hR⟩, dv_Fn_r⟩⟩
    · skip
      simp (disch := omega) only [db_lit, eq_self, db_pI_e, db_pL_e, db_bind_some, db_bd_some, nI_add, pk_mul, nI_toInt, db_m1_t, dz_cn, Int.ofNat_le, Int.ofNat_lt, decide_true, decide_false, db_ct, db_cf, not_true_eq_false, not_false_eq_true, db_87e, db_37e, db_31e, db_28e, db_281e, db_211e, db_27, db_269w, db_litL, pk_lT, db_iL, db_p0_e, db_p0_n, db_p0_j, db_sub1, nI_eq, if_true, if_false, Bool.false_eq_true, Nat.one_ne_zero, hw, db_m1_l, h66]
    · unfold db_f270
      simp (disch := omega) only [db_lit, eq_self, db_pI_e, db_pL_e, db_bind_some, db_bd_some, nI_add, pk_mul, nI_toInt, db_m1_t, dz_cn, Int.ofNat_le, Int.ofNat_lt, decide_true, decide_false, db_ct, db_cf, not_true_eq_false, not_false_eq_true, db_87e, db_37e, db_31e, db_28e, db_281e, db_211e, db_27, db_269w, db_litL, pk_lT, db_iL, db_p0_e, db_p0_n, db_p0_j, db_sub1, nI_eq, if_true, if_false, Bool.false_eq_true, Nat.one_ne_zero, h0, (show db_i false = nI 0 from rfl), Nat.lt_irrefl]

/-- a token alone -/
theorem dv_CNt {i1 : Nat} {b2 : db_S} (hr : r < 60) (h : dv_CN x n r m a1 b1 i a b) (hC : dv_CT x n i1 (db_uI a 13 9 (nI i1))) (hR : dv_RT x n i1 b2) (hb : dv_Fn b b2) : dv_CN x n r m a1 b1 i1 (db_uI a 13 9 (nI i1)) b2 := by
  obtain ⟨-, -, h0, p1, p2, p5, p3, p4, p6, p7⟩ := h
  exact ⟨hC, hR, by rw [hb.2.1 12 (by omega)]; exact h0, fun c h1 h2 => by rw [db_uI_n h2]; exact p1 c h1 h2, p2, dv_Fa_u p5 (.inr (by omega)), fun j hj => by rw [(hb.1 674 (by decide)).1]; exact p3 j hj, by rw [(hb.1 676 (by decide)).2]; exact p4, by rw [hb.2.1 24 (by omega)]; exact p6, dv_Fb_t p7 (dv_Fb_n hb)⟩
/-- a field alone -/
theorem dv_CNf {i1 f : Nat} {a2 b2 : db_S} (hr : r < 60) (h : dv_CN x n r m a1 b1 i a b) (hC : dv_CT x n i1 a2) (hR : dv_RT x n i1 b2) (ha : dv_Fr (210 + r) f a a2) (hb : dv_Fn b b2) : dv_CN x n r m a1 b1 i1 a2 b2 := by
  obtain ⟨-, -, h0, p1, p2, p5, p3, p4, p6, p7⟩ := h
  obtain ⟨q1, q2, q3, q4⟩ := ha
  refine ⟨hC, hR, by rw [hb.2.1 12 (by omega)]; exact h0, fun c h1 h2 => by rw [q1 c h1 h2]; exact p1 c h1 h2, q2.trans p2, dv_Fa_t p5 ⟨fun c h1 h2 => ?_, fun j h1 h2 h3 => q3 j h3, by rw [q2]⟩, fun j hj => by rw [(hb.1 674 (by decide)).1]; exact p3 j hj, by rw [(hb.1 676 (by decide)).2]; exact p4, by rw [hb.2.1 24 (by omega)]; exact p6, dv_Fb_t p7 (dv_Fb_n hb)⟩
  rw [q2]
  exact ⟨q1 c (by omega) h1, rfl⟩
/-- a write alone -/
theorem dv_CNw {g : Nat} (h : dv_CN x n r m a1 b1 i a b) (hg : 1 ≤ g ∧ g < 8) : dv_CN x n r m a1 b1 i a (db_uI b 674 (2121 + 9 * m + g) v) := by
  obtain ⟨p0, p00, h0, p1, p2, p5, p3, p4, p6, p7⟩ := h
  exact ⟨p0, dv_RT_4 p00, by rw [db_uI_n (by decide)]; exact h0, p1, p2, p5, fun j hj => by rw [db_uI_j (by omega)]; exact p3 j hj, p4, by rw [db_uI_n (by decide)]; exact p6, dv_Fb_4 p7 (by omega)⟩
theorem dv_NEf {i0 : Nat} {fa : Option (Bool × db_S)} {fb : Option db_S} {a2 b2 b3 : db_S} (h : dv_CN x n r m a1 b1 i a b) (h1 : fa = some (false, a2)) (h2 : fb = some b3) (h3 : dv_Fl a2 b2) (h4 : dv_Fa a a2) (h5 : dv_Fb b b2) (h6 : dv_Bq b2 b3) : dv_NE x n r m a1 b1 i0 fa fb := ⟨false, a2, b3, h1, h2, .inr ⟨rfl, dv_Fl_q h3 h6, dv_Fa_t h.2.2.2.2.2.1 h4, dv_Fb_t h.2.2.2.2.2.2.2.2.2 (dv_Fb_t h5 h6.1)⟩⟩
/-- the reference's rest with a fault -/
theorem dv_37b {g : Int32} (hm : m < 30) (h : dv_Bad b) : ∃ z, db_f278_b37 b (nI (2121 + 9 * m)) (nI (2121 + 9 * m + 1)) g = some z ∧ dv_Bq b z := by
  have hq1 : dv_Bq b (db_uI b 674 (2121 + 9 * m + 1) g) := dv_Bq_4 dv_Bq_r (by omega)
  have hB1 := dv_Bad_q h hq1
  obtain ⟨p1, e1⟩ := dv_y13 (b := db_uI b 674 (2121 + 9 * m + 1) g)
  have hq2 : dv_Bq b (db_uI (db_uI b 674 (2121 + 9 * m + 1) g) 674 (2121 + 9 * m + 2) (nI 0)) := dv_Bq_4 hq1 (by omega)
  have hB2 := dv_Bad_q h hq2
  obtain ⟨p2, e2⟩ := dv_y14 (b := db_uI (db_uI b 674 (2121 + 9 * m + 1) g) 674 (2121 + 9 * m + 2) (nI 0))
  refine ⟨_, ?_, dv_Bq_4 (j := 2121 + 9 * m + 3) (v := -(nI 1)) hq2 (by omega)⟩
  unfold db_f278_b37
  simp (disch := omega) only [db_lit, eq_self, db_pI_e, db_pL_e, db_bind_some, db_bd_some, nI_add, pk_mul, nI_toInt, db_m1_t, dz_cn, Int.ofNat_le, Int.ofNat_lt, decide_true, decide_false, db_ct, db_cf, not_true_eq_false, not_false_eq_true, db_87e, db_37e, db_31e, db_28e, db_281e, db_211e, db_27, db_269w, db_litL, pk_lT, db_iL, db_p0_e, db_p0_n, db_p0_j, db_sub1, nI_eq, if_true, if_false, Bool.false_eq_true, Nat.one_ne_zero, db_h_674, e1, dv_264b hB1, dv_265b hB1, e2, dv_270b hB2]
/-- nights for a person -/
theorem dv_sleep (hr : r < 60) (hm : m < 30) (hL1 : dv_Lk_20 a1 b1 1) (hL2 : dv_Lk_20 a1 b1 2) (hk : k ≤ 1) (hk0 : a1.1 (210 + r) 0 = nI (18 + k)) (hk1 : b1.1 674 (2121 + 9 * m) = nI k) (h : dv_CN x n r m a1 b1 i a b) (ha0 : a.1 (210 + r) 0 = nI (18 + k)) {g : Int32} (hg : k = 0 → ∃ d, d < db_n (db_bk b1 0) 5 ∧ g = nI d ∧ a.1 (210 + r) 1 = nI d) : dv_NE x n r m a1 b1 i (db_f94 a (210 + r)) (db_f278_b37 b (nI (2121 + 9 * m)) (nI (2121 + 9 * m + 1)) g) := by
  have h1 := dv_CNw (v := g) (g := 1) h (by omega)
  unfold db_f94 db_f278_b37
  obtain ⟨rr, a2, b2, e1, e2, hh⟩ := dv_oTake (j := 13) h1.1 h1.2.1 h1.2.2.1 (by omega)
  have hx := dv_x13 h1.2.1
  rcases hh with ⟨rfl, ea2, g3, g4, g5⟩ | ⟨rfl, g1, g2, g3⟩
  · have h2 : dv_CN x n r m a1 b1 (i + 1) a2 b2 := by rw [ea2] at g3 ⊢; exact dv_CNt hr h1 g3 g4 g5
    obtain ⟨rr, a3, v3, b3, e3, e4, hh⟩ := dv_oName_20 (q := 1) (g := 1) (d := 210 + r) (f := 2) (by omega) rfl (by omega) (by omega) (dv_rr2 hr (by omega)).1 (dv_rr2 hr (by omega)).2 h2.1 h2.2.1 h2.2.2.1 (dv_LkF (by omega) h2.2.2.2.2.2.1 h2.2.2.2.2.2.2.2.2.2 hL1)
    rcases hh with ⟨rfl, ⟨p, hp, rfl⟩, j1, j2, j3, j4, j5⟩ | ⟨rfl, rfl, j1, j2, j3⟩
    · have h3 := dv_CNw (v := nI p) (g := 2) (dv_CNf hr h2 j3 j4 j2 j5) (by omega)
      have hx2 := dv_x14 h3.2.1
      obtain ⟨rr, a4, v4, b4, e5, e6, hh⟩ := dv_oOpt2 (q := 2) (g := 2) (d := 210 + r) (f := 3) (j := 14) (by omega) rfl (by omega) (by omega) (by omega) (dv_rr2 hr (by omega)).1 (dv_rr2 hr (by omega)).2 h3.1 h3.2.1 h3.2.2.1 (dv_LkF (by omega) h3.2.2.2.2.2.1 h3.2.2.2.2.2.2.2.2.2 hL2)
      rcases hh with ⟨rfl, ho, l1, l2, ⟨i1, hi1, l3, l4⟩, l5⟩ | ⟨rfl, l1, l2, l3⟩
      · have h4 := dv_CNw (v := v4) (g := 3) (dv_CNf hr h3 l3 l4 l2 l5) (by omega)
        have hbk := dv_n0F (q := 1) (by omega) h2.2.2.2.2.2.2.2.2.2
        have hbk2 := dv_n0F (q := 2) (by omega) h3.2.2.2.2.2.2.2.2.2
        have hF := h4.2.2.2.2.2.2.2.2.2
        have hf : ∀ f, f ≠ 3 → f ≠ 2 → a4.1 (210 + r) f = a.1 (210 + r) f := fun f f3 f2 => by rw [l2.2.2.2 f f3, j2.2.2.2 f f2, ea2, db_uI_n (by omega)]
        refine ⟨true, a4, _, ?_, ?_, .inl ⟨rfl, ⟨i1, by omega, h4⟩, k, by omega, ?_, ?_, fun h => ?_, fun _ => ⟨⟨p, ?_, ?_, ?_⟩, ?_, ?_⟩, fun h => absurd h (by omega), fun h => absurd h (by omega), fun h => absurd h (by omega)⟩⟩
        · simp (disch := omega) only [db_lit, eq_self, db_pI_e, db_pL_e, db_bind_some, db_bd_some, nI_add, pk_mul, nI_toInt, db_m1_t, dz_cn, Int.ofNat_le, Int.ofNat_lt, decide_true, decide_false, db_ct, db_cf, not_true_eq_false, not_false_eq_true, db_87e, db_37e, db_31e, db_28e, db_281e, db_211e, db_27, db_269w, db_litL, pk_lT, db_iL, db_p0_e, db_p0_n, db_p0_j, db_sub1, nI_eq, if_true, if_false, Bool.false_eq_true, Nat.one_ne_zero, e1, e3, (dv_rr2 hr (show 3 < 6 by omega)).1, db_m1_l] at e5 ⊢
          rw [e5]
        · simp (disch := omega) only [db_lit, eq_self, db_pI_e, db_pL_e, db_bind_some, db_bd_some, nI_add, pk_mul, nI_toInt, db_m1_t, dz_cn, Int.ofNat_le, Int.ofNat_lt, decide_true, decide_false, db_ct, db_cf, not_true_eq_false, not_false_eq_true, db_87e, db_37e, db_31e, db_28e, db_281e, db_211e, db_27, db_269w, db_litL, pk_lT, db_iL, db_p0_e, db_p0_n, db_p0_j, db_sub1, nI_eq, if_true, if_false, Bool.false_eq_true, Nat.one_ne_zero, db_h_674, hx, e2, e4, hx2, e6]
        · rw [dv_cc_40 hm, h4.2.2.2.2.2.2.1 _ (by omega)]; exact hk1
        · rw [hf 0 (by omega) (by omega)]; exact ha0
        · obtain ⟨d, d1, d2, d3⟩ := hg h
          refine ⟨d, ?_, ?_, ?_⟩
          · rw [dv_cc_n (by omega), dv_n0F (by omega) hF]; exact d1
          · rw [dv_cc_4 hm (by omega), db_uI_j (by omega), (l5.1 674 (by decide)).1, db_uI_j (by omega), (j5.1 674 (by decide)).1, (g5.1 674 (by decide)).1, db_uI_1]; exact d2
          · rw [hf 1 (by omega) (by omega)]; exact d3
        · rw [dv_cc_n (by omega), dv_n0F (by omega) hF, ← hbk]; exact hp
        · rw [dv_cc_4 hm (by omega), db_uI_j (by omega), (l5.1 674 (by decide)).1, db_uI_1]
        · rw [l2.2.2.2 2 (by omega)]; exact j1
        · rw [dv_cc_n (by omega), dv_n0F (by omega) hF, dv_cc_4 hm (by omega), db_uI_1, ← hbk2]; exact ho
        · rw [dv_cc_4 hm (by omega), db_uI_1]; exact l1
      · refine dv_NEf h3 (a2 := a4) (b2 := b4) ?_ ?_ l1 l2 l3 (dv_Bq_4 (j := 2121 + 9 * m + 3) (v := v4) dv_Bq_r (by omega))
        · simp (disch := omega) only [db_lit, eq_self, db_pI_e, db_pL_e, db_bind_some, db_bd_some, nI_add, pk_mul, nI_toInt, db_m1_t, dz_cn, Int.ofNat_le, Int.ofNat_lt, decide_true, decide_false, db_ct, db_cf, not_true_eq_false, not_false_eq_true, db_87e, db_37e, db_31e, db_28e, db_281e, db_211e, db_27, db_269w, db_litL, pk_lT, db_iL, db_p0_e, db_p0_n, db_p0_j, db_sub1, nI_eq, if_true, if_false, Bool.false_eq_true, Nat.one_ne_zero, e1, e3, (dv_rr2 hr (show 3 < 6 by omega)).1, db_m1_l] at e5 ⊢
          rw [e5]
        · simp (disch := omega) only [db_lit, eq_self, db_pI_e, db_pL_e, db_bind_some, db_bd_some, nI_add, pk_mul, nI_toInt, db_m1_t, dz_cn, Int.ofNat_le, Int.ofNat_lt, decide_true, decide_false, db_ct, db_cf, not_true_eq_false, not_false_eq_true, db_87e, db_37e, db_31e, db_28e, db_281e, db_211e, db_27, db_269w, db_litL, pk_lT, db_iL, db_p0_e, db_p0_n, db_p0_j, db_sub1, nI_eq, if_true, if_false, Bool.false_eq_true, Nat.one_ne_zero, db_h_674, hx, e2, e4, hx2, e6]
    · have hq : dv_Bq b3 (db_uI b3 674 (2121 + 9 * m + 2) (nI 0)) := dv_Bq_4 dv_Bq_r (by omega)
      have hB := dv_Bad_q j1.1 hq
      obtain ⟨p2, e5⟩ := dv_y14 (b := db_uI b3 674 (2121 + 9 * m + 2) (nI 0))
      refine dv_NEf h2 (a2 := a3) (b2 := b3) ?_ ?_ j1 j2 j3 (dv_Bq_4 (j := 2121 + 9 * m + 3) (v := -(nI 1)) hq (by omega))
      · simp (disch := omega) only [db_lit, eq_self, db_pI_e, db_pL_e, db_bind_some, db_bd_some, nI_add, pk_mul, nI_toInt, db_m1_t, dz_cn, Int.ofNat_le, Int.ofNat_lt, decide_true, decide_false, db_ct, db_cf, not_true_eq_false, not_false_eq_true, db_87e, db_37e, db_31e, db_28e, db_281e, db_211e, db_27, db_269w, db_litL, pk_lT, db_iL, db_p0_e, db_p0_n, db_p0_j, db_sub1, nI_eq, if_true, if_false, Bool.false_eq_true, Nat.one_ne_zero, e1, e3]
      · simp (disch := omega) only [db_lit, eq_self, db_pI_e, db_pL_e, db_bind_some, db_bd_some, nI_add, pk_mul, nI_toInt, db_m1_t, dz_cn, Int.ofNat_le, Int.ofNat_lt, decide_true, decide_false, db_ct, db_cf, not_true_eq_false, not_false_eq_true, db_87e, db_37e, db_31e, db_28e, db_281e, db_211e, db_27, db_269w, db_litL, pk_lT, db_iL, db_p0_e, db_p0_n, db_p0_j, db_sub1, nI_eq, if_true, if_false, Bool.false_eq_true, Nat.one_ne_zero, db_h_674, hx, e2, e4, e5, dv_270b hB]
  · have hB1 := g1.1
    have hq : dv_Bq b2 (db_uI b2 674 (2121 + 9 * m + 2) (nI 0)) := dv_Bq_4 dv_Bq_r (by omega)
    have hB := dv_Bad_q hB1 hq
    obtain ⟨p2, e5⟩ := dv_y14 (b := db_uI b2 674 (2121 + 9 * m + 2) (nI 0))
    refine dv_NEf h1 (a2 := a2) (b2 := b2) ?_ ?_ g1 g2 g3 (dv_Bq_4 (j := 2121 + 9 * m + 3) (v := -(nI 1)) hq (by omega))
    · simp (disch := omega) only [db_lit, eq_self, db_pI_e, db_pL_e, db_bind_some, db_bd_some, nI_add, pk_mul, nI_toInt, db_m1_t, dz_cn, Int.ofNat_le, Int.ofNat_lt, decide_true, decide_false, db_ct, db_cf, not_true_eq_false, not_false_eq_true, db_87e, db_37e, db_31e, db_28e, db_281e, db_211e, db_27, db_269w, db_litL, pk_lT, db_iL, db_p0_e, db_p0_n, db_p0_j, db_sub1, nI_eq, if_true, if_false, Bool.false_eq_true, Nat.one_ne_zero, e1]
    · simp (disch := omega) only [db_lit, eq_self, db_pI_e, db_pL_e, db_bind_some, db_bd_some, nI_add, pk_mul, nI_toInt, db_m1_t, dz_cn, Int.ofNat_le, Int.ofNat_lt, decide_true, decide_false, db_ct, db_cf, not_true_eq_false, not_false_eq_true, db_87e, db_37e, db_31e, db_28e, db_281e, db_211e, db_27, db_269w, db_litL, pk_lT, db_iL, db_p0_e, db_p0_n, db_p0_j, db_sub1, nI_eq, if_true, if_false, Bool.false_eq_true, Nat.one_ne_zero, db_h_674, hx, e2, dv_265b hB1, e5, dv_270b hB]
end DVNR
