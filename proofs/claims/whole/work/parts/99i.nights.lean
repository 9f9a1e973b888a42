/-! NIGHTS: the call, its end -/
section DVNI
variable {U : Nat} {a b a1 b1 A0 B0 s t y : db_S} {x : Nat → Int32} {n n0 i z : Nat} {c c' : db_C} {w : Nat → Int64} {v : Int32}
theorem dv_b30e {T F : Nat} (hC : dv_CT x n i a) (hk : dv_kd x n i = 0) (hd : a.1 207 4 = nI 0) (hT : T ≤ i) : db_f89_b30 (F + 1) a (nI T) = some (true, a) := by
  have := dv_i900 hC
  rw [db_f89_b30]
  unfold db_f89_b72
  by_cases e : 900 ≤ T
  · simp (disch := omega) only [db_lit, eq_self, db_pI_e, db_pL_e, db_bind_some, db_bd_some, nI_add, pk_mul, nI_toInt, db_m1_t, dz_cn, Int.ofNat_le, Int.ofNat_lt, decide_true, decide_false, db_ct, db_cf, not_true_eq_false, not_false_eq_true, db_87e, db_37e, db_31e, db_28e, db_281e, db_211e, db_27, db_269w, db_litL, pk_lT, db_iL, db_p0_e, db_p0_n, db_p0_j, db_sub1, nI_eq, if_true, if_false, Bool.false_eq_true, Nat.one_ne_zero, e, hd]
  · simp (disch := omega) only [db_lit, eq_self, db_pI_e, db_pL_e, db_bind_some, db_bd_some, nI_add, pk_mul, nI_toInt, db_m1_t, dz_cn, Int.ofNat_le, Int.ofNat_lt, decide_true, decide_false, db_ct, db_cf, not_true_eq_false, not_false_eq_true, db_87e, db_37e, db_31e, db_28e, db_281e, db_211e, db_27, db_269w, db_litL, pk_lT, db_iL, db_p0_e, db_p0_n, db_p0_j, db_sub1, nI_eq, if_true, if_false, Bool.false_eq_true, Nat.one_ne_zero, e, dv_55 hC, hk, hd]
/-- both read the nights: the class in s, the reference in t -/
theorem dv_nights (hn0 : n0 ≤ 900) (hn : n ≤ n0) (hn3 : n ≤ 300) (h8 : t.1 669 8 = nI n0) (hx : ∀ j, j < n0 → t.1 673 j = x j ∧ -128 ≤ (x j).toInt ∧ (x j).toInt < 128) (hxs : ∀ j, j < n → s.1 14 j = x j) (hkw : ∀ i, i < 28 → s.2 15 i = db_kw i) (hLk : ∀ q, q < 6 → q ≠ 4 → dv_Lk_20 s s q) (h674 : t.1 674 = s.1 674) (h676 : t.2 676 = s.2 676) :
    ∃ r y v z, db_f89 s (nI n) = some (r, y) ∧ db_f276 t (nI n) = some (v, z) ∧ dv_Ga s y ∧ dv_Gb t z ∧ z.1 669 8 = nI 0 ∧ y.1 13 2 = z.1 669 10 ∧ y.1 13 3 = z.1 669 11 ∧ (∀ k, k < 37 → z.2 676 k = t.2 676 k) ∧ (∀ k, k < 199 → z.1 674 k = t.1 674 k) ∧ ((r = true ∧ z.1 669 0 = nI 0 ∧ ∃ m q, v = nI m ∧ m ≤ 30 ∧ q ≤ 60 ∧ y.1 208 0 = nI 1 ∧ y.1 208 1 = nI m ∧ y.1 208 2 = nI q ∧ z.1 674 199 = nI 1 ∧ z.1 674 200 = nI m ∧ dv_pl (db_pr 208 y) (db_bk z 0) 3 0 m 0 q) ∨ (r = false ∧ v = -(nI 1) ∧ z.1 669 0 = nI 10 ∧ ∀ k, k < 480 → z.1 674 k = t.1 674 k)) := by
  have hn9 : n ≤ 900 := by omega
  -- the class begins
  generalize hS0 : db_uI (db_uI (db_uI (db_uI (db_uI s 208 0 (nI 0)) 208 1 (nI 0)) 208 2 (nI 0)) 208 0 (nI 1)) 207 4 (nI 0) = S0
  have b1 : ∀ c, c ≠ 207 → c ≠ 208 → S0.1 c = s.1 c := fun c c1 c2 => by rw [← hS0, db_uI_n c1, db_uI_n c2, db_uI_n c2, db_uI_n c2, db_uI_n c2]
  have b2' : S0.2 = s.2 := by rw [← hS0]; rfl
  obtain ⟨a0, ea0, g1, g2, g3, g4, g5, ⟨g6, g7, g8⟩⟩ := dv_47 (s := S0) (x := x) (n := n) (fun j hj => by rw [b1 14 (by decide) (by decide)]; exact hxs j hj) hn9 (fun i hi => by rw [b2']; exact hkw i hi)
  have hC : dv_CT x n 0 a0 := ⟨hn9, g3, fun j hj => absurd hj (by omega), g1⟩
  -- the reference begins
  have hp8 : (db_p0 t).1 669 8 = nI n0 := by rw [db_p0_j (by decide) (by decide)]; exact h8
  obtain ⟨⟨r, b2⟩, eb2, i1, i2, i3, i4, i5, i6, i7⟩ := dv_222 (s := db_p0 t) (M := 300) (x := x) (by omega) hp8 hn0 (fun j hj => by rw [db_p0_n (by decide)]; exact hx j hj) hn hn3
  dsimp only at i1 i2 i3 i4 i5 i6 i7
  subst i1
  generalize hb0 : db_uI b2 669 24 (nI 0) = b0
  have m1 : ∀ c, c ≠ 669 → b0.1 c = b2.1 c := fun c hc => by rw [← hb0, db_uI_n hc]
  have m2 : b0.2 = b2.2 := by rw [← hb0]; rfl
  have m3 : ∀ j, j ≠ 24 → b0.1 669 j = b2.1 669 j := fun j hj => by rw [← hb0, db_uI_j hj]
  have m4 : b0.1 669 24 = nI 0 := by rw [← hb0, db_uI_1]
  have hR : dv_RT x n 0 b0 := dv_RT_F i2 (m3 9 (by decide)) (m1 673 (by decide)) (fun j _ _ => m3 j (by omega)) (by rw [m2])
  have h00 : b0.1 669 12 = nI 0 := (m3 12 (by decide)).trans i3
  have hGs : dv_Ga s a0 := ⟨fun c c1 c2 c3 => by rw [(g6 c c1 c2).1, (g6 c c1 c2).2, b1 c (by omega) (by omega), b2']; exact ⟨rfl, rfl⟩, by rw [g7 1 (by decide) (by decide) (by decide) (by decide), b1 13 (by decide) (by decide)], by rw [g8, b2']⟩
  have hGb0 : (∀ c, c ≠ 669 → c ≠ 674 → c ≠ 676 → b0.1 c = t.1 c ∧ b0.2 c = t.2 c) ∧ (∀ j, j ≠ 0 → j ≠ 1 → ¬ (8 ≤ j ∧ j ≤ 18) → j ≠ 24 → b0.1 669 j = t.1 669 j) ∧ (∀ j, j ≠ 19 → b0.2 669 j = t.2 669 j) ∧ b0.1 674 = t.1 674 ∧ b0.2 676 = t.2 676 ∧ b0.2 674 = t.2 674 ∧ b0.1 676 = t.1 676 ∧ b0.1 669 8 = nI 0 ∧ b0.1 669 0 = nI 0 := by
    refine ⟨fun c c1 c2 c3 => ?_, fun j j1 j2 j3 j4 => ?_, fun j hj => ?_, ?_, ?_, ?_, ?_, ?_, ?_⟩
    · rw [m1 c c1, m2, (i5 c c1).1, (i5 c c1).2, db_p0_n c1, db_p0_2]
      exact ⟨rfl, rfl⟩
    · rw [m3 j j4, i6 j (by omega) (by omega) (by omega), db_p0_j j1 j2]
    · rw [m2, i7 j hj, db_p0_2]
    · rw [m1 674 (by decide), (i5 674 (by decide)).1, db_p0_n (by decide)]
    · rw [m2, (i5 676 (by decide)).2, db_p0_2]
    · rw [m2, (i5 674 (by decide)).2, db_p0_2]
    · rw [m1 676 (by decide), (i5 676 (by decide)).1, db_p0_n (by decide)]
    · rw [m3 8 (by decide), i4]
    · rw [m3 0 (by decide), i6 0 (by omega) (by omega) (by omega), db_p0_0]
  obtain ⟨q1, q2, q3, q4, q5, q6, q7, q8, q9⟩ := hGb0
  have ea : ∀ j, a0.1 207 j = S0.1 207 j := fun j => by rw [(g6 207 (by decide) (by omega)).1]
  have ea8 : ∀ j, a0.1 208 j = S0.1 208 j := fun j => by rw [(g6 208 (by decide) (by omega)).1]
  have s207 : a0.1 207 4 = nI 0 := by rw [ea, ← hS0, db_uI_1]
  have s2080 : a0.1 208 0 = nI 1 := by rw [ea8, ← hS0, db_uI_n (by decide), db_uI_1]
  have s2081 : a0.1 208 1 = nI 0 := by rw [ea8, ← hS0, db_uI_n (by decide), db_uI_j (by decide), db_uI_j (by decide), db_uI_1]
  have s2082 : a0.1 208 2 = nI 0 := by rw [ea8, ← hS0, db_uI_n (by decide), db_uI_j (by decide), db_uI_1]
  have hbw : db_bw b0 0 = db_bw s 0 := by
    funext k
    unfold db_bw
    rw [q5, h676]
  have hLL : ∀ q, q < 6 → q ≠ 4 → dv_Lk_20 a0 b0 q := fun q h1 h2 => dv_Lk_c_20 (hLk q h1 h2) (hGs.1 76 (by decide) (by omega) (by omega)).2 (hGs.1 77 (by decide) (by omega) (by omega)).1 (hGs.1 78 (by decide) (by omega) (by omega)).1 (by rw [(hGs.1 20 (by decide) (by omega) (by omega)).1]) (by rw [dv_bk_e (q4.trans h674)]) hbw
  have hN : dv_NS x n 0 0 0 0 a0 b0 := ⟨hC, hR, h00, s207, s2081, m4, s2082, by omega, by omega, by omega⟩
  have hL := dv_nL (x := x) (n := n) (hLL 1 (by omega) (by omega)) (hLL 2 (by omega) (by omega)) (hLL 3 (by omega) (by omega)) (hLL 5 (by omega) (by omega)) 1000 0 0 0 a0 b0 db_FU (by omega) (by unfold db_FU; omega) hN dv_Fa_r dv_Fb_r dv_pl_0 dv_Ln_r rfl
  have eC : db_f89 s (nI n) = db_f89_b30 db_FU a0 (nI 0) := by
    unfold db_f89 db_f86_208
    simp (disch := omega) only [db_lit, eq_self, db_pI_e, db_pL_e, db_bind_some, db_bd_some, nI_add, pk_mul, nI_toInt, db_m1_t, dz_cn, Int.ofNat_le, Int.ofNat_lt, decide_true, decide_false, db_ct, db_cf, not_true_eq_false, not_false_eq_true, db_87e, db_37e, db_31e, db_28e, db_281e, db_211e, db_27, db_269w, db_litL, pk_lT, db_iL, db_p0_e, db_p0_n, db_p0_j, db_sub1, nI_eq, if_true, if_false, Bool.false_eq_true, Nat.one_ne_zero, hS0, ea0]
  have eR : db_f276 t (nI n) = db_f276_b28 db_FU b0 := by
    unfold db_f276
    simp (disch := omega) only [db_lit, eq_self, db_pI_e, db_pL_e, db_bind_some, db_bd_some, nI_add, pk_mul, nI_toInt, db_m1_t, dz_cn, Int.ofNat_le, Int.ofNat_lt, decide_true, decide_false, db_ct, db_cf, not_true_eq_false, not_false_eq_true, db_87e, db_37e, db_31e, db_28e, db_281e, db_211e, db_27, db_269w, db_litL, pk_lT, db_iL, db_p0_e, db_p0_n, db_p0_j, db_sub1, nI_eq, if_true, if_false, Bool.false_eq_true, Nat.one_ne_zero, eb2, hb0]
  -- the class's loop, cut
  have hcut : ∀ T, T ≤ 2000 → ∃ F, db_FU = F + 1 + T := fun T hT => ⟨db_FU - 1 - T, by unfold db_FU; omega⟩
  rcases hL with ⟨a', b', m, q, i', h1, h2, h3, h4, h5, h6, ⟨T, hT, hL⟩, h9⟩ | ⟨a', b', h1, ⟨T, hT, hL⟩, h3, h4, h5⟩
  · obtain ⟨n1, n2, n3, n4, n5, n6, n7, n8, n9, n10⟩ := id h3
    have hi9 := dv_i900 n1
    obtain ⟨F, hF⟩ := hcut T (by omega)
    have eC2 : db_f89_b30 db_FU a0 (nI 0) = some (true, a') := by
      rw [hF, hL (F + 1) 0 (Nat.le_refl _), Nat.zero_add]
      exact dv_b30e n1 h2 n4 (by omega)
    obtain ⟨k1, k2, k3, k4, k5, k6, k7⟩ := h5
    generalize hs4 : db_uI (db_uI (db_uI (db_uI b' 669 10 (nI 0)) 669 11 (-(nI 1))) 674 199 (nI 1)) 674 200 (nI m) = s4
    have w1 : ∀ c, c ≠ 669 → c ≠ 674 → s4.1 c = b'.1 c := fun c c1 c2 => by rw [← hs4, db_uI_n c2, db_uI_n c2, db_uI_n c1, db_uI_n c1]
    have w2 : s4.2 = b'.2 := by rw [← hs4]; rfl
    have w3 : ∀ j, j ≠ 10 → j ≠ 11 → s4.1 669 j = b'.1 669 j := fun j j1 j2 => by rw [← hs4, db_uI_n (by decide), db_uI_n (by decide), db_uI_j j2, db_uI_j j1]
    have w4 : ∀ j, j ≠ 199 → j ≠ 200 → s4.1 674 j = b'.1 674 j := fun j j1 j2 => by rw [← hs4, db_uI_j j2, db_uI_j j1, db_uI_n (by decide), db_uI_n (by decide)]
    have w5 : s4.1 674 199 = nI 1 := by rw [← hs4, db_uI_j (by decide), db_uI_1]
    have w6 : s4.1 674 200 = nI m := by rw [← hs4, db_uI_1]
    obtain ⟨⟨v, z⟩, ez, z1, z2, z3, z4, z5⟩ := dv_82n (s := s4) n8 ((w3 24 (by decide) (by decide)).trans n6)
    dsimp only at z1 z2 z3 z4 z5
    subst z1
    have e24 : ∀ u, (db_uI (db_uI (db_uI b' 669 10 (nI 0)) 669 11 (-(nI 1))) 674 199 u).1 669 24 = nI m := fun u => by rw [db_uI_n (by decide), db_uI_j (by decide), db_uI_j (by decide)]; exact n6
    refine ⟨true, a', nI m, z, eC.trans eC2, ?_, ?_, ?_, ?_, ?_, ?_, ?_, ?_, .inl ⟨rfl, ?_, m, q, rfl, n8, by omega, h9.trans s2080, n5, n7, ?_, ?_, fun f hf => ?_⟩⟩
    · rw [eR, h1]
      unfold db_f276_b50
      simp (disch := omega) only [db_lit, eq_self, db_pI_e, db_pL_e, db_bind_some, db_bd_some, nI_add, pk_mul, nI_toInt, db_m1_t, dz_cn, Int.ofNat_le, Int.ofNat_lt, decide_true, decide_false, db_ct, db_cf, not_true_eq_false, not_false_eq_true, db_87e, db_37e, db_31e, db_28e, db_281e, db_211e, db_27, db_269w, db_litL, pk_lT, db_iL, db_p0_e, db_p0_n, db_p0_j, db_sub1, nI_eq, if_true, if_false, Bool.false_eq_true, Nat.one_ne_zero, dv_274w n3, db_h_674, e24, hs4, ez]
    · refine ⟨fun c c1 c2 c3 => ?_, ?_, ?_⟩
      · rw [(h4.1 c c1 c3).1, (h4.1 c c1 c3).2]
        exact hGs.1 c c1 c2 c3
      · rw [h4.2.1 1 (by omega) (by omega) (by omega)]
        exact hGs.2.1
      · rw [h4.2.2]
        exact hGs.2.2
    · refine ⟨fun c c1 c2 c3 => ?_, fun j j1 j2 j3 j4 => ?_, fun j hj => ?_, fun k hk hk2 => ?_, fun k hk hk2 => ?_, ?_, ?_⟩
      · rw [z2 c c2, z3, w1 c c1 c2, w2, (k1 c c1 c2 c3).1, (k1 c c1 c2 c3).2]
        exact q1 c c1 c2 c3
      · rw [z2 669 (by decide), w3 j (by omega) (by omega), k2 j (by omega) j4]
        exact q2 j j1 j2 j3 j4
      · rw [z3, w2, k3 j hj]
        exact q3 j hj
      · rw [z5 k (by omega), w4 k (by omega) (by omega), k4 k hk2, q4]
      · rw [z3, w2, k5 k hk2, q5]
      · rw [z3, w2, k6]
        exact q6
      · rw [z2 676 (by decide), w1 676 (by decide) (by decide), k7]
        exact q7
    · rw [z2 669 (by decide), w3 8 (by decide) (by decide), k2 8 (by omega) (by omega)]
      exact q8
    · rw [(n1.2.2.2 i' n1.2.2.1).2.2.2.2.1, z2 669 (by decide), ← hs4, db_uI_n (by decide), db_uI_n (by decide), db_uI_j (by decide), db_uI_1]
    · rw [(n1.2.2.2 i' n1.2.2.1).2.2.2.2.2, z2 669 (by decide), ← hs4, db_uI_n (by decide), db_uI_n (by decide), db_uI_1]
    · intro k hk
      rw [z3, w2, k5 k (by omega), q5]
    · intro k hk
      rw [z5 k (by omega), w4 k (by omega) (by omega), k4 k (by omega), q4]
    · rw [z2 669 (by decide), w3 0 (by decide) (by decide), k2 0 (by omega) (by omega)]
      exact q9
    · rw [z5 199 (by omega)]; exact w5
    · rw [z5 200 (by omega)]; exact w6
    · refine dv_plc (c := dv_cc b') (fun k hk => ?_) (fun k e1 e2 => ?_) (fun _ _ _ => rfl) (h6 f hf)
      · rw [dv_cc_0 (by omega), db_bk_0 (by omega), db_bk_0 (by omega), z5 k (by omega), w4 k (by omega) (by omega)]
      · rw [dv_cc_j (by omega) (by omega), db_bk_0 (by omega)]
        have e := z4 (k - 201) (by omega)
        rw [show 201 + (k - 201) = k by omega, show 2121 + (k - 201) = 1920 + k by omega] at e
        rw [e, w4 _ (by omega) (by omega)]
  · obtain ⟨F, hF⟩ := hcut T (by omega)
    have eC2 : db_f89_b30 db_FU a0 (nI 0) = some (false, a') := by
      rw [hF]
      exact hL (F + 1) 0 (Nat.le_refl _)
    obtain ⟨k1, k2, k3, k4, k5, k6, k7⟩ := h5
    have n0' : ∀ c, c ≠ 669 → (db_uI (db_uI (db_uI b' 669 10 (b'.1 669 12)) 669 11 (b'.1 669 13)) 669 0 (nI 10)).1 c = b'.1 c := fun c hc => by rw [db_uI_n hc, db_uI_n hc, db_uI_n hc]
    refine ⟨false, a', -(nI 1), _, eC.trans eC2, (eR.trans h1).trans (dv_b50b h3.1), ?_, ?_, ?_, ?_, ?_, fun k hk => ?_, fun k hk => ?_, .inr ⟨rfl, rfl, db_uI_1, fun k hk => ?_⟩⟩
    · refine ⟨fun c c1 c2 c3 => ?_, ?_, ?_⟩
      · rw [(h4.1 c c1 c3).1, (h4.1 c c1 c3).2]
        exact hGs.1 c c1 c2 c3
      · rw [h4.2.1 1 (by omega) (by omega) (by omega)]
        exact hGs.2.1
      · rw [h4.2.2]
        exact hGs.2.2
    · refine ⟨fun c c1 c2 c3 => ?_, fun j j1 j2 j3 j4 => ?_, fun j hj => ?_, fun k hk hk2 => ?_, fun k hk hk2 => ?_, ?_, ?_⟩
      · rw [n0' c c1, db_uI_2, db_uI_2, db_uI_2, (k1 c c1 c2 c3).1, (k1 c c1 c2 c3).2]
        exact q1 c c1 c2 c3
      · rw [db_uI_j j1, db_uI_j (by omega), db_uI_j (by omega), k2 j (by omega) j4]
        exact q2 j j1 j2 j3 j4
      · rw [db_uI_2, db_uI_2, db_uI_2, k3 j hj]
        exact q3 j hj
      · rw [n0' 674 (by decide), k4 k hk2, q4]
      · rw [db_uI_2, db_uI_2, db_uI_2, k5 k hk2, q5]
      · rw [db_uI_2, db_uI_2, db_uI_2, k6]
        exact q6
      · rw [n0' 676 (by decide), k7]
        exact q7
    · rw [db_uI_j (by decide), db_uI_j (by decide), db_uI_j (by decide), k2 8 (by omega) (by omega)]
      exact q8
    · rw [h3.2.1, db_uI_j (by decide), db_uI_j (by decide), db_uI_1]
    · rw [h3.2.2, db_uI_j (by decide), db_uI_1]
    · rw [db_uI_2, db_uI_2, db_uI_2, k5 k (by omega), q5]
    · rw [n0' 674 (by decide), k4 k (by omega), q4]
    · rw [n0' 674 (by decide), k4 k (by omega), q4]
end DVNI
