/-! A DREAM: what it costs, its chance; the part -/
def dv_CE (x : Nat → Int32) (n k : Nat) (c : db_C) (a1 b1 : db_S) (m i : Nat) (a b : db_S) : Prop := dv_CD x n k c a1 b1 m i a b ∧ (a.1 185 k = nI m ∧ b.1 674 (2047 + k) = nI m) ∧ (∃ p, p ≤ 99 ∧ a.1 186 k = nI p ∧ b.1 674 (2055 + k) = nI p) ∧ (∃ p, 1 ≤ p ∧ p ≤ 99 ∧ a.1 187 k = nI p ∧ b.1 674 (2063 + k) = nI p)
/-- the end of a dream -/
def dv_DE (x : Nat → Int32) (n k : Nat) (c : db_C) (a1 b1 : db_S) (m i : Nat) (fa : Option (Bool × db_S)) (fb : Option db_S) : Prop := ∃ r a b, fa = some (r, a) ∧ fb = some b ∧ ((r = true ∧ ∃ i1 b0, i ≤ i1 ∧ dv_CE x n k c a1 b1 m i1 a b0 ∧ b = db_uI b0 674 1925 (nI (k + 1))) ∨ (r = false ∧ dv_Fl a b ∧ dv_Fa a1 a ∧ dv_Fb b1 b))
section DVDE
variable {a b a1 b1 z : db_S} {x : Nat → Int32} {n i k m : Nat} {v u : Int32} {c : db_C} {w : Nat → Int64}
theorem dv_CEt {i1 : Nat} {b2 : db_S} (hk : k < 8) (h : dv_CE x n k c a1 b1 m i a b) (hC : dv_CT x n i1 (db_uI a 13 9 (nI i1))) (hR : dv_RT x n i1 b2) (hb : dv_Fn b b2) : dv_CE x n k c a1 b1 m i1 (db_uI a 13 9 (nI i1)) b2 := by
  obtain ⟨⟨-, -, h0, p1, p2, p5, p6, p3, p4, p7⟩, hs, hc, hch⟩ := h
  have e674 := (hb.1 674 (by decide)).1
  refine ⟨⟨hC, hR, by rw [hb.2.1 12 (by omega)]; exact h0, fun p j h1 h2 h3 h4 => by rw [db_uI_n h3]; exact p1 p j h1 h2 h3 h4, p2, dv_Fa_u p5 (.inr (by omega)), fun f hf => ?_, fun j j1 j2 j3 j4 => by rw [e674]; exact p3 j j1 j2 j3 j4, by rw [(hb.1 676 (by decide)).2]; exact p4, dv_Fb_t p7 (dv_Fb_n hb)⟩, ?_, ?_, ?_⟩
  · rw [db_uI_n (by omega), e674]
    exact p6 f hf
  · rw [db_uI_n (by omega), e674]; exact hs
  · rw [db_uI_n (by omega), e674]; exact hc
  · rw [db_uI_n (by omega), e674]; exact hch
theorem dv_CEn {i1 d D p : Nat} {a2 b2 : db_S} (hk : k < 8) (h : dv_CE x n k c a1 b1 m i a b) (hC : dv_CT x n i1 a2) (hR : dv_RT x n i1 b2) (hb : dv_Fn b b2) (ha : dv_Fr d k a a2) (hav : a2.1 d k = nI p) (hd : (d = 186 ∧ D = 2055 ∧ p ≤ 99) ∨ (d = 187 ∧ D = 2063 ∧ 1 ≤ p ∧ p ≤ 99)) : dv_CE x n k c a1 b1 m i1 a2 (db_uI b2 674 (D + k) (nI p)) := by
  obtain ⟨⟨-, -, h0, p1, p2, p5, p6, p3, p4, p7⟩, hs, hc, hch⟩ := h
  obtain ⟨q1, q2, q3, q4⟩ := ha
  have e674 := (hb.1 674 (by decide)).1
  refine ⟨⟨hC, dv_RT_4 hR, by rw [db_uI_n (by decide), hb.2.1 12 (by omega)]; exact h0, fun y j h1 h2 h3 h4 => ?_, q2.trans p2, dv_Fa_t p5 ⟨fun y h1 h2 => ?_, fun j h1 h2 h3 => q3 j h3, by rw [q2]⟩, fun f hf => ?_, fun j j1 j2 j3 j4 => ?_, by rw [db_uI_2, (hb.1 676 (by decide)).2]; exact p4, dv_Fb_4 (dv_Fb_t p7 (dv_Fb_n hb)) (by omega)⟩, ?_, ?_, ?_⟩
  · rw [← p1 y j h1 h2 h3 h4]
    by_cases e : y = d
    · subst e
      exact q4 j (by omega)
    · rw [q1 y e h3]
  · rw [q2]
    exact ⟨q1 y (by omega) h1, rfl⟩
  · rw [q1 (177 + k) (by omega) (by omega)]
    obtain ⟨z1, z2⟩ := p6 f hf
    refine ⟨?_, z2⟩
    by_cases e : 2071 + 6 * k + f = D + k
    · exfalso
      omega
    · rw [db_uI_j e, e674]; exact z1
  · rw [db_uI_j (by omega), e674]
    exact p3 j j1 j2 j3 j4
  · rw [q1 185 (by omega) (by omega), db_uI_j (by omega), e674]
    exact hs
  · rcases hd with ⟨rfl, rfl, hp⟩ | ⟨rfl, rfl, hp⟩
    · exact ⟨p, hp, hav, db_uI_1⟩
    · rw [q1 186 (by omega) (by omega), db_uI_j (by omega), e674]
      exact hc
  · rcases hd with ⟨rfl, rfl, hp⟩ | ⟨rfl, rfl, hp⟩
    · rw [q1 187 (by omega) (by omega), db_uI_j (by omega), e674]
      exact hch
    · exact ⟨p, hp.1, hp.2, hav, db_uI_1⟩
theorem dv_215b (h : dv_Bad b) : db_f272_b215 b = some b := by
  obtain ⟨f, f1, f2, f3⟩ := id h
  unfold db_f272_b215
  simp (disch := omega) only [db_lit, eq_self, db_pI_e, db_pL_e, db_bind_some, db_bd_some, nI_add, pk_mul, nI_toInt, db_m1_t, dz_cn, Int.ofNat_le, Int.ofNat_lt, decide_true, decide_false, db_ct, db_cf, not_true_eq_false, not_false_eq_true, db_87e, db_37e, db_31e, db_28e, db_281e, db_211e, db_27, db_269w, db_litL, pk_lT, db_iL, db_p0_e, db_p0_n, db_p0_j, db_sub1, nI_eq, if_true, if_false, Bool.false_eq_true, Nat.one_ne_zero, f3, (show ¬ f = 0 by omega)]
theorem dv_180b (h : dv_Bad b) : db_f272_b180 b (nI k) = some b := by
  obtain ⟨f, f1, f2, f3⟩ := id h
  unfold db_f272_b180
  simp (disch := omega) only [db_lit, eq_self, db_pI_e, db_pL_e, db_bind_some, db_bd_some, nI_add, pk_mul, nI_toInt, db_m1_t, dz_cn, Int.ofNat_le, Int.ofNat_lt, decide_true, decide_false, db_ct, db_cf, not_true_eq_false, not_false_eq_true, db_87e, db_37e, db_31e, db_28e, db_281e, db_211e, db_27, db_269w, db_litL, pk_lT, db_iL, db_p0_e, db_p0_n, db_p0_j, db_sub1, nI_eq, if_true, if_false, Bool.false_eq_true, Nat.one_ne_zero, f3, (show ¬ f = 0 by omega), dv_215b h]
theorem dv_215 (h0 : b.1 669 12 = nI 0) (hn : b.1 674 1925 = nI k) : db_f272_b215 b = some (db_uI b 674 1925 (nI (k + 1))) := by
  unfold db_f272_b215
  simp (disch := omega) only [db_lit, eq_self, db_pI_e, db_pL_e, db_bind_some, db_bd_some, nI_add, pk_mul, nI_toInt, db_m1_t, dz_cn, Int.ofNat_le, Int.ofNat_lt, decide_true, decide_false, db_ct, db_cf, not_true_eq_false, not_false_eq_true, db_87e, db_37e, db_31e, db_28e, db_281e, db_211e, db_27, db_269w, db_litL, pk_lT, db_iL, db_p0_e, db_p0_n, db_p0_j, db_sub1, nI_eq, if_true, if_false, Bool.false_eq_true, Nat.one_ne_zero, h0, db_g_674, hn, db_h_674]
theorem dv_rw {d : Nat} (hk : k < 8) (hd : d = 186 ∨ d = 187) : ∀ (s : db_S) (v : Int32), db_wI s d (nI k) v = some (db_uI s d k v) := by
  rcases hd with rfl | rfl
  · exact fun s v => db_h_186 hk
  · exact fun s v => db_h_187 hk
theorem dv_DEf {i0 : Nat} {fa : Option (Bool × db_S)} {fb : Option db_S} {a2 b2 b3 : db_S} {m0 : Nat} (h : dv_CE x n k c a1 b1 m i a b) (h1 : fa = some (false, a2)) (h2 : fb = some b3) (h3 : dv_Fl a2 b2) (h4 : dv_Fa a a2) (h5 : dv_Fb b b2) (h6 : dv_Bq b2 b3) : dv_DE x n k c a1 b1 m0 i0 fa fb := ⟨false, a2, b3, h1, h2, .inr ⟨rfl, dv_Fl_q h3 h6, dv_Fa_t h.1.2.2.2.2.2.1 h4, dv_Fb_t h.1.2.2.2.2.2.2.2.2.2 (dv_Fb_t h5 h6.1)⟩⟩
/-- the chance -/
theorem dv_chance (hk : k < 8) (hcn : b1.1 674 1925 = nI k) (h : dv_CE x n k c a1 b1 m i a b) : dv_DE x n k c a1 b1 m i (db_f77_b90 a (nI k)) (db_f272_b180 b (nI k)) := by
  obtain ⟨hC, hR, h0, -⟩ := h.1
  have hcnt : ∀ {a' b' : db_S} {i' : Nat}, dv_CE x n k c a1 b1 m i' a' b' → b'.1 674 1925 = nI k := fun hh => by
    rw [hh.1.2.2.2.2.2.2.2.1 1925 (by omega) (by omega) (by omega) (by omega)]; exact hcn
  have h66 := dv_66 hC (j := 17) (by decide)
  have hx := dv_x17 hR
  unfold db_f77_b90 db_f272_b180
  by_cases e : dv_w x n i = nI 17
  · rw [if_pos e, decide_eq_true e] at h66
    rw [decide_eq_true e] at hx
    have hkd := dv_w_kd (by decide) e
    obtain ⟨b2, eb2, r2, f2⟩ := dv_nx hR
    have hE := dv_CEt hk h (dv_CT_s hC (by omega)) r2 f2
    have h02 : b2.1 669 12 = nI 0 := hE.1.2.2.1
    obtain ⟨r, a3, v, b3, e1, e2, hh⟩ := dv_oNum (lo := 1) (hi := 99) (d := 187) (f := k) (by omega) (by omega) (by omega) (dv_rw hk (.inr rfl)) hE.1.1 hE.1.2.1 h02
    rcases hh with ⟨rfl, ⟨p, p1, p2, rfl⟩, g1, g2, g3, g4, g5⟩ | ⟨rfl, rfl, g1, g2, g3⟩
    · have hE2 := dv_CEn hk hE g3 g4 g5 g2 g1 (.inr ⟨rfl, rfl, p1, p2⟩)
      have e215 := dv_215 hE2.1.2.2.1 (hcnt hE2)
      refine ⟨true, a3, _, ?_, ?_, .inl ⟨rfl, i + 1 + 1, _, by omega, hE2, rfl⟩⟩
      · simp (disch := omega) only [db_lit, eq_self, db_pI_e, db_pL_e, db_bind_some, db_bd_some, nI_add, pk_mul, nI_toInt, db_m1_t, dz_cn, Int.ofNat_le, Int.ofNat_lt, decide_true, decide_false, db_ct, db_cf, not_true_eq_false, not_false_eq_true, db_87e, db_37e, db_31e, db_28e, db_281e, db_211e, db_27, db_269w, db_litL, pk_lT, db_iL, db_p0_e, db_p0_n, db_p0_j, db_sub1, nI_eq, if_true, if_false, Bool.false_eq_true, Nat.one_ne_zero, h66, e1]
      · simp (disch := omega) only [db_lit, eq_self, db_pI_e, db_pL_e, db_bind_some, db_bd_some, nI_add, pk_mul, nI_toInt, db_m1_t, dz_cn, Int.ofNat_le, Int.ofNat_lt, decide_true, decide_false, db_ct, db_cf, not_true_eq_false, not_false_eq_true, db_87e, db_37e, db_31e, db_28e, db_281e, db_211e, db_27, db_269w, db_litL, pk_lT, db_iL, db_p0_e, db_p0_n, db_p0_j, db_sub1, nI_eq, if_true, if_false, Bool.false_eq_true, Nat.one_ne_zero, h0, hx, eb2, e2, db_h_674, e215]
    · have hB : dv_Bad (db_uI b3 674 (2063 + k) (nI 0)) := dv_Bad_q g1.1 (dv_Bq_4 dv_Bq_r (by omega))
      refine dv_DEf hE ?_ ?_ g1 g2 g3 (dv_Bq_4 (j := 2063 + k) (v := nI 0) dv_Bq_r (by omega))
      · simp (disch := omega) only [db_lit, eq_self, db_pI_e, db_pL_e, db_bind_some, db_bd_some, nI_add, pk_mul, nI_toInt, db_m1_t, dz_cn, Int.ofNat_le, Int.ofNat_lt, decide_true, decide_false, db_ct, db_cf, not_true_eq_false, not_false_eq_true, db_87e, db_37e, db_31e, db_28e, db_281e, db_211e, db_27, db_269w, db_litL, pk_lT, db_iL, db_p0_e, db_p0_n, db_p0_j, db_sub1, nI_eq, if_true, if_false, Bool.false_eq_true, Nat.one_ne_zero, h66, e1]
      · simp (disch := omega) only [db_lit, eq_self, db_pI_e, db_pL_e, db_bind_some, db_bd_some, nI_add, pk_mul, nI_toInt, db_m1_t, dz_cn, Int.ofNat_le, Int.ofNat_lt, decide_true, decide_false, db_ct, db_cf, not_true_eq_false, not_false_eq_true, db_87e, db_37e, db_31e, db_28e, db_281e, db_211e, db_27, db_269w, db_litL, pk_lT, db_iL, db_p0_e, db_p0_n, db_p0_j, db_sub1, nI_eq, if_true, if_false, Bool.false_eq_true, Nat.one_ne_zero, h0, hx, eb2, e2, db_h_674, dv_215b hB]
  · rw [if_neg e, decide_eq_false e] at h66
    rw [decide_eq_false e] at hx
    have e215 := dv_215 h0 (hcnt h)
    refine ⟨true, a, _, ?_, ?_, .inl ⟨rfl, i, b, Nat.le_refl _, h, rfl⟩⟩
    · simp (disch := omega) only [db_lit, eq_self, db_pI_e, db_pL_e, db_bind_some, db_bd_some, nI_add, pk_mul, nI_toInt, db_m1_t, dz_cn, Int.ofNat_le, Int.ofNat_lt, decide_true, decide_false, db_ct, db_cf, not_true_eq_false, not_false_eq_true, db_87e, db_37e, db_31e, db_28e, db_281e, db_211e, db_27, db_269w, db_litL, pk_lT, db_iL, db_p0_e, db_p0_n, db_p0_j, db_sub1, nI_eq, if_true, if_false, Bool.false_eq_true, Nat.one_ne_zero, h66]
    · simp (disch := omega) only [db_lit, eq_self, db_pI_e, db_pL_e, db_bind_some, db_bd_some, nI_add, pk_mul, nI_toInt, db_m1_t, dz_cn, Int.ofNat_le, Int.ofNat_lt, decide_true, decide_false, db_ct, db_cf, not_true_eq_false, not_false_eq_true, db_87e, db_37e, db_31e, db_28e, db_281e, db_211e, db_27, db_269w, db_litL, pk_lT, db_iL, db_p0_e, db_p0_n, db_p0_j, db_sub1, nI_eq, if_true, if_false, Bool.false_eq_true, Nat.one_ne_zero, h0, hx, e215]
/-- what it costs, and the chance: what stands behind the things -/
noncomputable def dv_u111 (v1 : Int32) (s5 : db_S) : Option (Bool × db_S) := ((db_wI s5 186 v1 (0 : Int32)).bind fun s6 => ((db_wI s6 187 v1 (1 : Int32)).bind fun s7 => (db_bd (db_f66 s7 (16 : Int32)) fun q8 s9 => (cond q8 (db_bd (db_f73 s9 (0 : Int32) (99 : Int32) 186 v1) fun q10 s11 => (cond q10 (db_f77_b90 s11 v1) (some (false, s11)))) (db_f77_b90 s9 v1)))))
theorem dv_77e : db_f77 a = (db_rI a 147 (5 : Int32)).bind fun x1 => (db_bd (db_f61_146 a (5 : Int32)) fun q2 s3 => (cond q2 (db_bd (db_f78 s3 x1) fun q4 s5 => (cond q4 (dv_u111 x1 s5) (some (false, s5)))) (some (false, s3)))) := Eq.trans rfl rfl
theorem dv_costs (hk : k < 8) (hm : m ≤ 6) (hcn : b1.1 674 1925 = nI k) (h : dv_CD x n k c a1 b1 m i a b) (h185 : a.1 185 k = nI m) : dv_DE x n k c a1 b1 m i (dv_u111 (nI k) a) (db_f272_b111 b (nI k) (nI m)) := by
  obtain ⟨hC, hR, h0, p1, p2, p5, p6, p3, p4, p7⟩ := id h
  have hE0 : dv_CE x n k c a1 b1 m i (db_uI (db_uI a 186 k (nI 0)) 187 k (nI 1)) (db_uI (db_uI (db_uI b 674 (2047 + k) (nI m)) 674 (2055 + k) (nI 0)) 674 (2063 + k) (nI 1)) := by
    refine ⟨⟨dv_CT_u (dv_CT_u hC (by omega)) (by omega), dv_RT_4 (dv_RT_4 (dv_RT_4 hR)), by rw [db_uI_n (by decide), db_uI_n (by decide), db_uI_n (by decide)]; exact h0, fun p j h1 h2 h3 h4 => ?_, p2, dv_Fa_u (dv_Fa_u p5 (.inl (by omega))) (.inl (by omega)), fun f hf => ?_, fun j j1 j2 j3 j4 => ?_, p4, dv_Fb_4 (dv_Fb_4 (dv_Fb_4 p7 (by omega)) (by omega)) (by omega)⟩, ⟨?_, ?_⟩, ⟨0, by omega, ?_, ?_⟩, ⟨1, by omega, by omega, ?_, ?_⟩⟩
    · rw [db_uI_if, if_neg (by omega), db_uI_if, if_neg (by omega)]; exact p1 p j h1 h2 h3 h4
    · rw [db_uI_n (by omega), db_uI_n (by omega), db_uI_j (by omega), db_uI_j (by omega), db_uI_j (by omega)]; exact p6 f hf
    · rw [db_uI_j j3, db_uI_j j2, db_uI_j j1]; exact p3 j j1 j2 j3 j4
    · rw [db_uI_n (by decide), db_uI_n (by decide)]; exact h185
    · rw [db_uI_j (by omega), db_uI_j (by omega), db_uI_1]
    · rw [db_uI_n (by decide), db_uI_1]
    · rw [db_uI_j (by omega), db_uI_1]
    · rw [db_uI_1]
    · rw [db_uI_1]
  generalize ha' : db_uI (db_uI a 186 k (nI 0)) 187 k (nI 1) = a' at hE0
  generalize hb' : db_uI (db_uI (db_uI b 674 (2047 + k) (nI m)) 674 (2055 + k) (nI 0)) 674 (2063 + k) (nI 1) = b' at hE0
  obtain ⟨hC', hR', h0', -⟩ := hE0.1
  have h66 := dv_66 hC' (j := 16) (by decide)
  have hx := dv_x16 hR'
  unfold dv_u111 db_f272_b111
  by_cases e : dv_w x n i = nI 16
  · rw [if_pos e, decide_eq_true e] at h66
    rw [decide_eq_true e] at hx
    have hkd := dv_w_kd (by decide) e
    obtain ⟨b2, eb2, r2, f2⟩ := dv_nx hR'
    have hE := dv_CEt hk hE0 (dv_CT_s hC' (by omega)) r2 f2
    have h02 : b2.1 669 12 = nI 0 := hE.1.2.2.1
    obtain ⟨r, a3, v, b3, e1, e2, hh⟩ := dv_oNum (lo := 0) (hi := 99) (d := 186) (f := k) (by omega) (by omega) (by omega) (dv_rw hk (.inl rfl)) hE.1.1 hE.1.2.1 h02
    rcases hh with ⟨rfl, ⟨p, p1, p2, rfl⟩, g1, g2, g3, g4, g5⟩ | ⟨rfl, rfl, g1, g2, g3⟩
    · have hE2 := dv_CEn hk hE g3 g4 g5 g2 g1 (.inl ⟨rfl, rfl, p2⟩)
      obtain ⟨r, a4, b4, e3, e4, hh⟩ := dv_chance hk hcn hE2
      refine ⟨r, a4, b4, ?_, ?_, ?_⟩
      · simp (disch := omega) only [db_lit, eq_self, db_pI_e, db_pL_e, db_bind_some, db_bd_some, nI_add, pk_mul, nI_toInt, db_m1_t, dz_cn, Int.ofNat_le, Int.ofNat_lt, decide_true, decide_false, db_ct, db_cf, not_true_eq_false, not_false_eq_true, db_87e, db_37e, db_31e, db_28e, db_281e, db_211e, db_27, db_269w, db_litL, pk_lT, db_iL, db_p0_e, db_p0_n, db_p0_j, db_sub1, nI_eq, if_true, if_false, Bool.false_eq_true, Nat.one_ne_zero, db_h_186, db_h_187, ha', h66, e1, e3]
      · simp (disch := omega) only [db_lit, eq_self, db_pI_e, db_pL_e, db_bind_some, db_bd_some, nI_add, pk_mul, nI_toInt, db_m1_t, dz_cn, Int.ofNat_le, Int.ofNat_lt, decide_true, decide_false, db_ct, db_cf, not_true_eq_false, not_false_eq_true, db_87e, db_37e, db_31e, db_28e, db_281e, db_211e, db_27, db_269w, db_litL, pk_lT, db_iL, db_p0_e, db_p0_n, db_p0_j, db_sub1, nI_eq, if_true, if_false, Bool.false_eq_true, Nat.one_ne_zero, h0, Nat.le_refl, db_h_674, hb', hx, eb2, e2, e4]
      · rcases hh with ⟨q1, i1, b0, q2, q3⟩ | hh
        · exact .inl ⟨q1, i1, b0, by omega, q3⟩
        · exact .inr hh
    · have hB : dv_Bad (db_uI b3 674 (2055 + k) (nI 0)) := dv_Bad_q g1.1 (dv_Bq_4 dv_Bq_r (by omega))
      refine dv_DEf hE ?_ ?_ g1 g2 g3 (dv_Bq_4 (j := 2055 + k) (v := nI 0) dv_Bq_r (by omega))
      · simp (disch := omega) only [db_lit, eq_self, db_pI_e, db_pL_e, db_bind_some, db_bd_some, nI_add, pk_mul, nI_toInt, db_m1_t, dz_cn, Int.ofNat_le, Int.ofNat_lt, decide_true, decide_false, db_ct, db_cf, not_true_eq_false, not_false_eq_true, db_87e, db_37e, db_31e, db_28e, db_281e, db_211e, db_27, db_269w, db_litL, pk_lT, db_iL, db_p0_e, db_p0_n, db_p0_j, db_sub1, nI_eq, if_true, if_false, Bool.false_eq_true, Nat.one_ne_zero, db_h_186, db_h_187, ha', h66, e1]
      · simp (disch := omega) only [db_lit, eq_self, db_pI_e, db_pL_e, db_bind_some, db_bd_some, nI_add, pk_mul, nI_toInt, db_m1_t, dz_cn, Int.ofNat_le, Int.ofNat_lt, decide_true, decide_false, db_ct, db_cf, not_true_eq_false, not_false_eq_true, db_87e, db_37e, db_31e, db_28e, db_281e, db_211e, db_27, db_269w, db_litL, pk_lT, db_iL, db_p0_e, db_p0_n, db_p0_j, db_sub1, nI_eq, if_true, if_false, Bool.false_eq_true, Nat.one_ne_zero, h0, Nat.le_refl, db_h_674, hb', hx, eb2, e2, dv_180b hB]
  · rw [if_neg e, decide_eq_false e] at h66
    rw [decide_eq_false e] at hx
    obtain ⟨r, a4, b4, e3, e4, hh⟩ := dv_chance hk hcn hE0
    refine ⟨r, a4, b4, ?_, ?_, hh⟩
    · simp (disch := omega) only [db_lit, eq_self, db_pI_e, db_pL_e, db_bind_some, db_bd_some, nI_add, pk_mul, nI_toInt, db_m1_t, dz_cn, Int.ofNat_le, Int.ofNat_lt, decide_true, decide_false, db_ct, db_cf, not_true_eq_false, not_false_eq_true, db_87e, db_37e, db_31e, db_28e, db_281e, db_211e, db_27, db_269w, db_litL, pk_lT, db_iL, db_p0_e, db_p0_n, db_p0_j, db_sub1, nI_eq, if_true, if_false, Bool.false_eq_true, Nat.one_ne_zero, db_h_186, db_h_187, ha', h66, e3]
    · simp (disch := omega) only [db_lit, eq_self, db_pI_e, db_pL_e, db_bind_some, db_bd_some, nI_add, pk_mul, nI_toInt, db_m1_t, dz_cn, Int.ofNat_le, Int.ofNat_lt, decide_true, decide_false, db_ct, db_cf, not_true_eq_false, not_false_eq_true, db_87e, db_37e, db_31e, db_28e, db_281e, db_211e, db_27, db_269w, db_litL, pk_lT, db_iL, db_p0_e, db_p0_n, db_p0_j, db_sub1, nI_eq, if_true, if_false, Bool.false_eq_true, Nat.one_ne_zero, h0, Nat.le_refl, db_h_674, hb', hx, e4]
theorem dv_12b {v2 v3 : Int32} (h : dv_Bad b) : db_f272_b12 db_FU b (nI k) v2 v3 = some b := by
  obtain ⟨f, f1, f2, f3⟩ := id h
  rw [show db_FU = 999999 + 1 from rfl, db_f272_b12]
  unfold db_f272_b111
  simp (disch := omega) only [db_lit, eq_self, db_pI_e, db_pL_e, db_bind_some, db_bd_some, nI_add, pk_mul, nI_toInt, db_m1_t, dz_cn, Int.ofNat_le, Int.ofNat_lt, decide_true, decide_false, db_ct, db_cf, not_true_eq_false, not_false_eq_true, db_87e, db_37e, db_31e, db_28e, db_281e, db_211e, db_27, db_269w, db_litL, pk_lT, db_iL, db_p0_e, db_p0_n, db_p0_j, db_sub1, nI_eq, if_true, if_false, Bool.false_eq_true, Nat.one_ne_zero, f3, (show ¬ f = 0 by omega), (show ¬ f ≤ 0 by omega)]
/-- a dream -/
theorem dv_pDream (hC : dv_CT x n (i + 1) a) (hR : dv_RT x n i b) (h0 : b.1 669 12 = nI 0) (hD : dv_DR a (db_bk b 4) (db_bw b 4)) (hk : db_bk b 4 5 = nI k) (hkm : k < 8) : dv_Pd x n i a b (db_f77 a) (db_f272 b) := by
  obtain ⟨r, a1, v, b1, e1, e2, h⟩ := dv_oNew (q := 5) (g := 4) (by omega) (by omega) rfl (by omega) hC hR h0 hD hk hkm
  have e2 : db_f232 b (nI 4) (nI 8) = some (v, b1) := e2
  have e147 : a.1 147 5 = nI k := by rw [hD.2.1 5 (by omega)]; exact hk
  rcases h with ⟨rfl, rfl, g1, g2, g3, g4, g5, g6⟩ | ⟨rfl, rfl, g1, g2, g3⟩
  · obtain ⟨l0, x1, x2, x3, x4, x5, x6, x7, x8, x9, x10⟩ := id g6
    have ebk : ∀ q, db_bk b1 4 q = db_bk b 4 q := fun q => by rw [dv_bk_e x9]
    have hN := dv_Nx_N (c1 := db_cu (db_bk b 4) 5 (nI (k + 1))) (a2 := a1) (by omega) (by omega) hD hk hkm g6 db_cu_1 (fun p _ h => db_cu_n h) rfl rfl rfl rfl
    have hL : dv_Lk_146 a1 b1 0 := by
      obtain ⟨-, c1, c2, c3⟩ := dv_Lk_D hD (show 0 < 6 by omega) (by omega)
      obtain ⟨m, m1, m2, m3, m4⟩ := hN
      have en : db_n (db_bk b1 4) 0 = db_n (db_bk b 4) 0 := dv_n_e (ebk 0)
      have htm := dv_tm_lt hD (show 5 < 6 by omega) (by omega) hk hkm
      refine ⟨⟨dv_tm (db_bk b 4) + 1, by omega, x4, fun l => ?_⟩, by rw [en, ebk]; exact c1, by rw [en]; exact c2, by rw [en]; exact c3⟩
      have h18 : m = dv_tm (db_bk b 4) + 1 := by
        refine db_nI_inj ?_ (by omega) (m2.symm.trans x4)
        have f0 := dv_n_e (c1 := db_cu (db_bk b 4) 5 (nI (k + 1))) (c := db_bk b 4) (k := 0) (db_cu_n (by omega))
        have f1 := dv_n_e (c1 := db_cu (db_bk b 4) 5 (nI (k + 1))) (c := db_bk b 4) (k := 1) (db_cu_n (by omega))
        have f2 := dv_n_e (c1 := db_cu (db_bk b 4) 5 (nI (k + 1))) (c := db_bk b 4) (k := 2) (db_cu_n (by omega))
        have f3 := dv_n_e (c1 := db_cu (db_bk b 4) 5 (nI (k + 1))) (c := db_bk b 4) (k := 3) (db_cu_n (by omega))
        have f5 : db_n (db_cu (db_bk b 4) 5 (nI (k + 1))) 5 = k + 1 := dw_nI_n db_cu_1 (by omega)
        obtain ⟨⟨k0, k1, k2, k3, k4, k5⟩, -⟩ := hD
        have j0 := k0.2
        have j1 := k1.2
        have j2 := k2.2
        have j3 := k3.2
        rw [m1, f0, f1, f2, f3, f5]
        omega
      rw [← h18, m3 l 0 (by omega) (by omega)]
      unfold db_nm
      rw [en, dv_n_e (c1 := db_cu (db_bk b 4) 5 (nI (k + 1))) (c := db_bk b 4) (k := 0) (db_cu_n (by omega))]
    have hcn : b1.1 674 1925 = nI k := by rw [x9, show (1925 : Nat) = 1920 + 5 from rfl, dv_bk_4 (by omega)]; exact hk
    have hCD : dv_CD x n k (db_bk b 4) a1 b1 0 (i + 2) a1 b1 := ⟨g1, g2, g3, fun _ _ _ _ _ _ => rfl, rfl, dv_Fa_r, fun f hf => absurd hf (by omega), fun _ _ _ _ _ => rfl, rfl, dv_Fb_r⟩
    have hT := dv_things (x := x) (n := n) hkm (ebk 0) hL 6 0 (i + 2) db_FU db_FU a1 b1 (nI 1) (by omega) (by unfold db_FU; omega) (by unfold db_FU; omega) hCD (.inl ⟨rfl, rfl⟩)
    rcases hT with ⟨a2, b2, m, i1, f1, f2, m1, m6, hi1, hE, h185⟩ | ⟨a2, b2, f1, f2, hW, hW2, hW3⟩ | ⟨a2, b2, f1, f2, hW, hW2, hW3⟩
    · obtain ⟨rr, a3, b3, f3, f4, hh⟩ := dv_costs hkm m6 hcn hE h185
      refine .inl ⟨rr, a3, b3, ?_, ?_, ?_⟩
      · rw [dv_77e]
        unfold db_f78
        simp (disch := omega) only [db_lit, eq_self, db_pI_e, db_pL_e, db_bind_some, db_bd_some, nI_add, pk_mul, nI_toInt, db_m1_t, dz_cn, Int.ofNat_le, Int.ofNat_lt, decide_true, decide_false, db_ct, db_cf, not_true_eq_false, not_false_eq_true, db_87e, db_37e, db_31e, db_28e, db_281e, db_211e, db_27, db_269w, db_litL, pk_lT, db_iL, db_p0_e, db_p0_n, db_p0_j, db_sub1, nI_eq, if_true, if_false, Bool.false_eq_true, Nat.one_ne_zero, db_g_147, e147, e1, f1, f3]
      · unfold db_f272
        simp (disch := omega) only [db_lit, eq_self, db_pI_e, db_pL_e, db_bind_some, db_bd_some, nI_add, pk_mul, nI_toInt, db_m1_t, dz_cn, Int.ofNat_le, Int.ofNat_lt, decide_true, decide_false, db_ct, db_cf, not_true_eq_false, not_false_eq_true, db_87e, db_37e, db_31e, db_28e, db_281e, db_211e, db_27, db_269w, db_litL, pk_lT, db_iL, db_p0_e, db_p0_n, db_p0_j, db_sub1, nI_eq, if_true, if_false, Bool.false_eq_true, Nat.one_ne_zero, e2]
        exact f2.trans f4
      · rcases hh with ⟨rfl, i2, b0, hi2, hE, rfl⟩ | ⟨rfl, q1, q2, q3⟩
        · obtain ⟨⟨y0, y00, y01, y1, y2, y6, y3, y4, y5, y7⟩, ⟨s1, s2⟩, ⟨pc, c1, c2, c3⟩, ⟨ph, d1, d2, d3, d4⟩⟩ := hE
          refine .inl ⟨rfl, ⟨i2, by omega, y0, dv_RT_4 y00⟩, by rw [db_uI_n (by decide)]; exact y01, ?_, dv_Fa_t g4 y6, dv_Fb_4 (dv_Fb_t g5 y7) (by omega)⟩
          have ec : db_bk (db_uI b0 674 1925 (nI (k + 1))) 4 = db_cu (db_bk b0 4) 5 (nI (k + 1)) := by
            rw [show (1925 : Nat) = 1920 + 5 from rfl, dv_bk_u (by omega)]
          have eo : ∀ j, j < 480 → j ≠ 127 + k → j ≠ 135 + k → j ≠ 143 + k → ¬ (151 + 6 * k ≤ j ∧ j < 157 + 6 * k) → db_bk b0 4 j = db_bk b 4 j := fun j hj j1 j2 j3 j4 => by
            rw [← dv_bk_4 hj, y4 _ (by omega) (by omega) (by omega) (by omega), dv_bk_4 hj, ebk]
          have z1 : db_cu (db_bk b0 4) 5 (nI (k + 1)) (127 + k) = nI m := by
            rw [db_cu_n (by omega), ← dv_bk_4 (by omega), show 1920 + (127 + k) = 2047 + k by omega]; exact s2
          have z2 : db_cu (db_bk b0 4) 5 (nI (k + 1)) (135 + k) = nI pc := by
            rw [db_cu_n (by omega), ← dv_bk_4 (by omega), show 1920 + (135 + k) = 2055 + k by omega]; exact c3
          have z3 : db_cu (db_bk b0 4) 5 (nI (k + 1)) (143 + k) = nI ph := by
            rw [db_cu_n (by omega), ← dv_bk_4 (by omega), show 1920 + (143 + k) = 2063 + k by omega]; exact d4
          have z4 : ∀ j, j < 6 → db_cu (db_bk b0 4) 5 (nI (k + 1)) (151 + 6 * k + j) = b0.1 674 (2071 + 6 * k + j) := fun j hj => by
            rw [db_cu_n (by omega), ← dv_bk_4 (by omega), show 1920 + (151 + 6 * k + j) = 2071 + 6 * k + j by omega]
          have n1 : db_n (db_cu (db_bk b0 4) 5 (nI (k + 1))) (127 + k) = m := dw_nI_n z1 (by omega)
          have n2 : db_n (db_cu (db_bk b0 4) 5 (nI (k + 1))) (135 + k) = pc := dw_nI_n z2 (by omega)
          have n3 : db_n (db_cu (db_bk b0 4) 5 (nI (k + 1))) (143 + k) = ph := dw_nI_n z3 (by omega)
          rw [ec, dv_bw_e (b1 := db_uI b0 674 1925 (nI (k + 1))) (b := b1) (by rw [db_uI_2]; exact y5)]
          refine dv_DR_s (q0 := 5) (k := k) hD (by omega) hk hkm db_cu_1 (fun q h1 h => by rw [db_cu_n h]; exact eo q (by omega) (by omega) (by omega) (by omega) (by omega)) (fun j h1 h2 h3 => ?_) ?_ (fun q h1 h => ?_) (fun p j h1 h2 h3 => ?_) (dv_Nx_N (by omega) (by omega) hD hk hkm g6 db_cu_1 (fun p h1 h => by rw [db_cu_n h]; exact eo p (by omega) (by omega) (by omega) (by omega) (by omega)) ?_ ?_ ?_ ?_) (fun h => absurd h (by decide)) (fun h => absurd h (by decide)) (fun h => absurd h (by decide)) (fun h => absurd h (by decide)) (fun _ => ?_)
          · unfold dv_Nw at h3
            rw [db_cu_n (by omega)]
            exact eo j h2 (by omega) (by omega) (by omega) (by omega)
          · rw [y1 147 5 (by omega) (by omega) (by omega) (by omega), x5, if_pos rfl]
          · rw [y1 147 q (by omega) (by omega) (by omega) (by omega), x5, if_neg h]
          · unfold dv_Na at h3
            rw [y1 p j (by omega) (by omega) (by omega) (by omega), x1 p (by omega) (by omega) (by omega) (by omega) (by omega)]
          · rw [y1 146 18 (by omega) (by omega) (by omega) (by omega)]
          · rw [y2]
          · exact funext fun j => y1 203 j (by omega) (by omega) (by omega) (by omega)
          · exact funext fun j => y1 204 j (by omega) (by omega) (by omega) (by omega)
          · unfold db_K
            rw [n1, n2, n3, z1, z2, z3]
            refine ⟨⟨s1, c2, d3, fun j hj => ?_⟩, ⟨⟨rfl, m6⟩, m1⟩, fun j hj => ?_, ⟨rfl, c1⟩, ⟨rfl, d2⟩, d1⟩
            · rw [z4 j (by omega)]
              exact (y3 j hj).1
            · rw [z4 j (by omega), ← (y3 j hj).1]
              exact (y3 j hj).2
        · exact .inr ⟨rfl, q1, dv_Fa_t g4 q2, dv_Fb_t g5 q3⟩
    · -- a word that may not stand
      obtain ⟨i1, w1, w2, ⟨w3, w4⟩, w5, w6⟩ := hW
      have hC2 : dv_CT x n i1 (db_uI (db_uI a2 186 k (nI 0)) 187 k (nI 1)) := dv_CT_u (dv_CT_u w1 (by omega)) (by omega)
      have h16 := dv_66 hC2 (j := 16) (by decide)
      have h17 := dv_66 hC2 (j := 17) (by decide)
      rw [if_neg w3, decide_eq_false w3] at h16
      rw [if_neg w4, decide_eq_false w4] at h17
      refine .inr ⟨db_uI (db_uI a2 186 k (nI 0)) 187 k (nI 1), b2, ?_, ?_, ⟨i1, hC2, w2, ⟨w3, w4⟩, w5, w6⟩, dv_Fa_u (dv_Fa_u (dv_Fa_t g4 hW2) (.inl (by omega))) (.inl (by omega)), dv_Fb_t g5 hW3⟩
      · rw [dv_77e]
        unfold db_f78 dv_u111 db_f77_b90
        simp (disch := omega) only [db_lit, eq_self, db_pI_e, db_pL_e, db_bind_some, db_bd_some, nI_add, pk_mul, nI_toInt, db_m1_t, dz_cn, Int.ofNat_le, Int.ofNat_lt, decide_true, decide_false, db_ct, db_cf, not_true_eq_false, not_false_eq_true, db_87e, db_37e, db_31e, db_28e, db_281e, db_211e, db_27, db_269w, db_litL, pk_lT, db_iL, db_p0_e, db_p0_n, db_p0_j, db_sub1, nI_eq, if_true, if_false, Bool.false_eq_true, Nat.one_ne_zero, db_g_147, e147, e1, f1, db_h_186, db_h_187, h16, h17]
      · unfold db_f272
        simp (disch := omega) only [db_lit, eq_self, db_pI_e, db_pL_e, db_bind_some, db_bd_some, nI_add, pk_mul, nI_toInt, db_m1_t, dz_cn, Int.ofNat_le, Int.ofNat_lt, decide_true, decide_false, db_ct, db_cf, not_true_eq_false, not_false_eq_true, db_87e, db_37e, db_31e, db_28e, db_281e, db_211e, db_27, db_269w, db_litL, pk_lT, db_iL, db_p0_e, db_p0_n, db_p0_j, db_sub1, nI_eq, if_true, if_false, Bool.false_eq_true, Nat.one_ne_zero, e2]
        exact f2
    · refine .inl ⟨false, a2, b2, ?_, ?_, .inr ⟨rfl, hW, dv_Fa_t g4 hW2, dv_Fb_t g5 hW3⟩⟩
      · rw [dv_77e]
        unfold db_f78
        simp (disch := omega) only [db_lit, eq_self, db_pI_e, db_pL_e, db_bind_some, db_bd_some, nI_add, pk_mul, nI_toInt, db_m1_t, dz_cn, Int.ofNat_le, Int.ofNat_lt, decide_true, decide_false, db_ct, db_cf, not_true_eq_false, not_false_eq_true, db_87e, db_37e, db_31e, db_28e, db_281e, db_211e, db_27, db_269w, db_litL, pk_lT, db_iL, db_p0_e, db_p0_n, db_p0_j, db_sub1, nI_eq, if_true, if_false, Bool.false_eq_true, Nat.one_ne_zero, db_g_147, e147, e1, f1]
      · unfold db_f272
        simp (disch := omega) only [db_lit, eq_self, db_pI_e, db_pL_e, db_bind_some, db_bd_some, nI_add, pk_mul, nI_toInt, db_m1_t, dz_cn, Int.ofNat_le, Int.ofNat_lt, decide_true, decide_false, db_ct, db_cf, not_true_eq_false, not_false_eq_true, db_87e, db_37e, db_31e, db_28e, db_281e, db_211e, db_27, db_269w, db_litL, pk_lT, db_iL, db_p0_e, db_p0_n, db_p0_j, db_sub1, nI_eq, if_true, if_false, Bool.false_eq_true, Nat.one_ne_zero, e2]
        exact f2
  · refine .inl ⟨false, a1, b1, ?_, ?_, .inr ⟨rfl, g1, g2, g3⟩⟩
    · rw [dv_77e]
      simp (disch := omega) only [db_lit, eq_self, db_pI_e, db_pL_e, db_bind_some, db_bd_some, nI_add, pk_mul, nI_toInt, db_m1_t, dz_cn, Int.ofNat_le, Int.ofNat_lt, decide_true, decide_false, db_ct, db_cf, not_true_eq_false, not_false_eq_true, db_87e, db_37e, db_31e, db_28e, db_281e, db_211e, db_27, db_269w, db_litL, pk_lT, db_iL, db_p0_e, db_p0_n, db_p0_j, db_sub1, nI_eq, if_true, if_false, Bool.false_eq_true, Nat.one_ne_zero, db_g_147, e147, e1]
    · unfold db_f272
      simp (disch := omega) only [db_lit, eq_self, db_pI_e, db_pL_e, db_bind_some, db_bd_some, nI_add, pk_mul, nI_toInt, db_m1_t, dz_cn, Int.ofNat_le, Int.ofNat_lt, decide_true, decide_false, db_ct, db_cf, not_true_eq_false, not_false_eq_true, db_87e, db_37e, db_31e, db_28e, db_281e, db_211e, db_27, db_269w, db_litL, pk_lT, db_iL, db_p0_e, db_p0_n, db_p0_j, db_sub1, nI_eq, if_true, if_false, Bool.false_eq_true, Nat.one_ne_zero, e2]
      exact dv_12b (k := 0) g1.1
end DVDE
