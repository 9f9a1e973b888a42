/-! NIGHTS: the promise -/
section DVNJ
variable {U : Nat} {s : db_S} {v : Int32}
theorem dv_fin {s1 z : db_S} (k1 : ∀ c, c ≠ 4 → c ≠ 13 → ¬ (16 ≤ c ∧ c ≤ 19) → ¬ (20 ≤ c ∧ c ≤ 144) → ¬ (146 ≤ c ∧ c ≤ 270) → s1.1 c = s.1 c) (k2 : ∀ c, c ≠ 13 → ¬ (16 ≤ c ∧ c ≤ 19) → c ≠ 76 → ¬ (146 ≤ c ∧ c ≤ 270) → s1.2 c = s.2 c) (k3 : ∀ j, j ≠ 0 → s1.1 4 j = s.1 4 j) (k4 : s1.2 13 = s.2 13) (hG : dv_Gb s1 z) : ∀ a j, db_es a j → ¬ ((a = 4 ∧ j = 0) ∨ (a = 669 ∧ j = 0) ∨ (a = 13 ∧ j = 1) ∨ a = 14 ∨ (a = 669 ∧ j = 8) ∨ a = 673 ∨ (a = 13 ∧ (j = 2 ∨ j = 3)) ∨ (a = 669 ∧ (j = 10 ∨ j = 11)) ∨ (20 ≤ a ∧ a ≤ 144) ∨ (a = 674 ∧ j < 480) ∨ (a = 676 ∧ j < 37)) → z.1 a j = s.1 a j ∧ z.2 a j = s.2 a j := by
  obtain ⟨q1, q2, q3, q4, q5, q6, q7⟩ := hG
  intro a j he hne
  unfold db_es db_ec db_em at he
  by_cases h9 : a = 669
  · subst h9
    refine ⟨?_, ?_⟩
    · rw [q2 j (by omega) (by omega) (by omega) (by omega), k1 669 (by omega) (by omega) (by omega) (by omega) (by omega)]
    · rw [q3 j (by omega), k2 669 (by omega) (by omega) (by omega) (by omega)]
  · by_cases h4 : a = 674
    · subst h4
      refine ⟨?_, ?_⟩
      · rw [q4 j (by omega) (by omega), k1 674 (by omega) (by omega) (by omega) (by omega) (by omega)]
      · rw [q6, k2 674 (by omega) (by omega) (by omega) (by omega)]
    · by_cases h6 : a = 676
      · subst h6
        refine ⟨?_, ?_⟩
        · rw [q7, k1 676 (by omega) (by omega) (by omega) (by omega) (by omega)]
        · rw [q5 j (by omega) (by omega), k2 676 (by omega) (by omega) (by omega) (by omega)]
      · obtain ⟨c1, c2⟩ := q1 a h9 h4 h6
        rw [c1, c2]
        by_cases h40 : a = 4
        · subst h40
          exact ⟨k3 j (by omega), by rw [k2 4 (by omega) (by omega) (by omega) (by omega)]⟩
        · exact ⟨by rw [k1 a h40 (by omega) (by omega) (by omega) (by omega)], by rw [k2 a (by omega) (by omega) (by omega) (by omega)]⟩
/-- the class takes the nights -/
theorem dv_97 {s : db_S} (h : s.1 208 0 = nI 1) : ∃ Z, db_f97_83_208 s = some Z ∧ Z.1 83 0 = nI 1 ∧ Z.1 83 1 = s.1 208 1 ∧ Z.1 83 2 = s.1 208 2 ∧ (∀ r, r < 60 → ∀ j, j < 6 → Z.1 (85 + r) j = s.1 (210 + r) j) ∧ (∀ c, ¬ (83 ≤ c ∧ c ≤ 144) → Z.1 c = s.1 c) ∧ Z.2 = s.2 := by
  obtain ⟨Z, eZ, z1, z2, z3⟩ := dw_84 (s := db_uI (db_uI (db_uI s 83 0 (nI 1)) 83 1 (s.1 208 1)) 83 2 (s.1 208 2)) (t := 209) (u := 84) (n := 60) (L := 6) (by unfold dw_ST dw_S1; decide) (by unfold dw_ST dw_S1; decide) (by omega) (by omega) (by omega)
  have e1 : (db_uI s 83 0 (nI 1)).1 208 1 = s.1 208 1 := by rw [db_uI_n (by decide)]
  have e2 : ∀ u, (db_uI (db_uI s 83 0 (nI 1)) 83 1 u).1 208 2 = s.1 208 2 := fun u => by rw [db_uI_n (by decide), db_uI_n (by decide)]
  have hb : db_b01 (nI 1) = true := rfl
  refine ⟨Z, ?_, ?_, ?_, ?_, fun r hr j hj => ?_, fun c hc => ?_, z2⟩
  · unfold db_f97_83_208
    rw [h, hb, db_ct]
    simp (disch := omega) only [db_lit, eq_self, db_pI_e, db_pL_e, db_bind_some, db_bd_some, nI_add, pk_mul, nI_toInt, db_m1_t, dz_cn, Int.ofNat_le, Int.ofNat_lt, decide_true, decide_false, db_ct, db_cf, not_true_eq_false, not_false_eq_true, db_87e, db_37e, db_31e, db_28e, db_281e, db_211e, db_27, db_269w, db_litL, pk_lT, db_iL, db_p0_e, db_p0_n, db_p0_j, db_sub1, nI_eq, if_true, if_false, Bool.false_eq_true, Nat.one_ne_zero, e1, e2]
    rw [eZ]
    rfl
  · rw [z1 83 (by omega), db_uI_j (by decide), db_uI_j (by decide), db_uI_1]
  · rw [z1 83 (by omega), db_uI_j (by decide), db_uI_1]
  · rw [z1 83 (by omega), db_uI_1]
  · have := z3 r hr j hj
    rw [show 84 + 1 + r = 85 + r by omega, show 209 + 1 + r = 210 + r by omega] at this
    rw [this, db_uI_n (by omega), db_uI_n (by omega), db_uI_n (by omega)]
  · rw [z1 c (by omega), db_uI_n (by omega), db_uI_n (by omega), db_uI_n (by omega)]
theorem db_k9 (hI : db_Inv U s) : dz_G U s (fun s => db_f88 s v) (fun s => db_f276 s v) := by
  obtain ⟨n0, hn0, h13, h669, hby⟩ := hI.2.2.2.1
  have hkw := hI.2.2.2.2.2.1
  have hb := db_cur hI
  cases hw : (db_wi v ((0 : Nat) : Int) ((n0 : Nat) : Int) && decide (v.toInt ≤ ((300 : Nat) : Int))) with
  | false =>
    refine db_Gn 5 hI ?_ fun s1 hS hA => ?_
    · unfold db_f88 db_f88_b22
      cases e1 : db_wi v ((0 : Nat) : Int) ((n0 : Nat) : Int) with
      | false => simp (disch := omega) only [db_lit, eq_self, db_pI_e, db_pL_e, db_bind_some, db_bd_some, nI_add, pk_mul, nI_toInt, db_m1_t, dz_cn, Int.ofNat_le, Int.ofNat_lt, decide_true, decide_false, db_ct, db_cf, not_true_eq_false, not_false_eq_true, db_87e, db_37e, db_31e, db_28e, db_281e, db_211e, db_27, db_269w, db_litL, pk_lT, db_iL, db_p0_e, db_p0_n, db_p0_j, db_sub1, nI_eq, if_true, if_false, Bool.false_eq_true, Nat.one_ne_zero, h13, e1]
      | true =>
        rw [e1, Bool.true_and, decide_eq_false_iff_not] at hw
        simp (disch := omega) only [db_lit, eq_self, db_pI_e, db_pL_e, db_bind_some, db_bd_some, nI_add, pk_mul, nI_toInt, db_m1_t, dz_cn, Int.ofNat_le, Int.ofNat_lt, decide_true, decide_false, db_ct, db_cf, not_true_eq_false, not_false_eq_true, db_87e, db_37e, db_31e, db_28e, db_281e, db_211e, db_27, db_269w, db_litL, pk_lT, db_iL, db_p0_e, db_p0_n, db_p0_j, db_sub1, nI_eq, if_true, if_false, Bool.false_eq_true, Nat.one_ne_zero, h13, e1, hw]
    · have h8 : (db_p0 s1).1 669 8 = nI n0 := by rw [db_p0_j (by decide) (by decide), (hS.1 669 8 (by unfold db_ec; omega) (by omega)).1]; exact h669
      have e222 := dv_222f (s := db_p0 s1) (v := v) (M := 300) (by omega) h8 hn0 hw
      unfold db_f276
      simp (disch := omega) only [db_lit, eq_self, db_pI_e, db_pL_e, db_bind_some, db_bd_some, nI_add, pk_mul, nI_toInt, db_m1_t, dz_cn, Int.ofNat_le, Int.ofNat_lt, decide_true, decide_false, db_ct, db_cf, not_true_eq_false, not_false_eq_true, db_87e, db_37e, db_31e, db_28e, db_281e, db_211e, db_27, db_269w, db_litL, pk_lT, db_iL, db_p0_e, db_p0_n, db_p0_j, db_sub1, nI_eq, if_true, if_false, Bool.false_eq_true, Nat.one_ne_zero, e222]
  | true =>
    rw [Bool.and_eq_true, decide_eq_true_eq] at hw
    obtain ⟨hwi, hw3⟩ := hw
    obtain ⟨n, hn, -, rfl⟩ := db_wi_t (by omega) (by decide) hwi
    have hwi : db_wi (nI n) ((0 : Nat) : Int) ((n0 : Nat) : Int) = true := hwi
    rw [nI_toInt (by omega)] at hw3
    have hn3 : n ≤ 300 := by omega
    have hxs : ∀ j, j < n → s.1 14 j = s.1 14 j := fun _ _ => rfl
    have hxt : ∀ t : db_S, t.1 673 = s.1 673 → ∀ j, j < n0 → t.1 673 j = s.1 14 j ∧ -128 ≤ (s.1 14 j).toInt ∧ (s.1 14 j).toInt < 128 := fun t ht j hj => ⟨by rw [ht]; exact (hby j hj).1.symm, (hby j hj).2⟩
    have hLk : ∀ q, q < 6 → q ≠ 4 → dv_Lk_20 s s q := fun q h1 h2 => dv_Lk_B hb h1 h2
    obtain ⟨r, y, -, -, e89, -, hGa, -⟩ := dv_nights (s := s) (t := s) (x := s.1 14) (n := n) hn0 (by omega) hn3 h669 (hxt s rfl) hxs hkw hLk rfl rfl
    -- one state behind the class
    have key : ∀ s1 : db_S, (∀ c, c ≠ 4 → c ≠ 13 → ¬ (16 ≤ c ∧ c ≤ 19) → ¬ (83 ≤ c ∧ c ≤ 144) → ¬ (146 ≤ c ∧ c ≤ 270) → s1.1 c = s.1 c) → (∀ c, c ≠ 13 → ¬ (16 ≤ c ∧ c ≤ 19) → ¬ (146 ≤ c ∧ c ≤ 270) → s1.2 c = s.2 c) → (∀ j, j ≠ 0 → s1.1 4 j = s.1 4 j) → s1.2 13 = s.2 13 → s1.1 13 1 = nI 0 → s1.1 13 2 = y.1 13 2 → s1.1 13 3 = y.1 13 3 → (r = true → s1.1 4 0 = nI 0 ∧ s1.1 83 0 = nI 1 ∧ s1.1 83 1 = y.1 208 1 ∧ s1.1 83 2 = y.1 208 2 ∧ ∀ r, r < 60 → ∀ j, j < 6 → s1.1 (85 + r) j = y.1 (210 + r) j) → (r = false → s1.1 4 0 = nI 10 ∧ ∀ c, 83 ≤ c → c ≤ 144 → s1.1 c = s.1 c) → ∃ v z, db_f276 s1 (nI n) = some (v, z) ∧ db_Inv U z ∧ ((r = true ∧ v = s1.1 83 1) ∨ (r = false ∧ v = -(nI 1))) := by
      intro s1 p1 p2 p3 p4 p5 p6 p7 p8 p9
      have t8 : s1.1 669 8 = nI n0 := by rw [p1 669 (by decide) (by decide) (by omega) (by omega) (by omega)]; exact h669
      have t673 : s1.1 673 = s.1 673 := p1 673 (by decide) (by decide) (by omega) (by omega) (by omega)
      obtain ⟨r', y', v', z, e89', e276, -, hGb, hz8, hf2, hf3, hw7, hc9, hor⟩ := dv_nights (s := s) (t := s1) (x := s.1 14) (n := n) hn0 (by omega) hn3 t8 (hxt _ t673) hxs hkw hLk (p1 674 (by decide) (by decide) (by omega) (by omega) (by omega)) (p2 676 (by decide) (by omega) (by omega))
      rw [e89] at e89'
      obtain ⟨hr, hy⟩ := Prod.mk.inj (Option.some.inj e89')
      subst hr
      subst hy
      have hcl : ∀ c, c ≠ 669 → c ≠ 674 → c ≠ 676 → z.1 c = s1.1 c := fun c c1 c2 c3 => (hGb.1 c c1 c2 c3).1
      have e674 : s1.1 674 = s.1 674 := p1 674 (by decide) (by decide) (by omega) (by omega) (by omega)
      have e676 : s1.2 676 = s.2 676 := p2 676 (by decide) (by omega) (by omega)
      have ebw : db_bw z 0 = db_bw s 0 := by
        funext k
        unfold db_bw
        by_cases hk : k < 37
        · rw [if_pos hk, if_pos hk, show 37 * 0 + k = k by omega, hw7 k hk, e676]
        · rw [if_neg hk, if_neg hk]
      have ebk : ∀ k, k < 199 → db_bk z 0 k = db_bk s 0 k := fun k hk => by rw [db_bk_0 (by omega), db_bk_0 (by omega), hc9 k hk, e674]
      have hf : ∀ a, 20 ≤ a → a < 20 + 63 → z.1 a = s.1 a := fun a a1 a2 => by rw [hcl a (by omega) (by omega) (by omega), p1 a (by omega) (by omega) (by omega) (by omega) (by omega)]
      have hg : z.2 (20 + 56) = s.2 (20 + 56) := by rw [(hGb.1 (20 + 56) (by decide) (by decide) (by decide)).2, p2 (20 + 56) (by decide) (by omega) (by omega)]
      have h13' : ∀ j, z.1 13 j = s1.1 13 j := fun j => by rw [hcl 13 (by decide) (by decide) (by decide)]
      have hInv : ∀ st : Int32, s1.1 4 0 = st → z.1 669 0 = st → db_PN (20 + 63) z (db_bk z 0) → db_Inv U z := fun st q1 q2 hP => by
        refine db_Inv_book hI (Nat.le_refl U) (dv_fin (fun c c1 c2 c3 c4 c5 => p1 c c1 c2 c3 (by omega) c5) (fun c c1 c2 c3 c4 => p2 c c1 c2 c4) p3 p4 hGb) ?_ ⟨0, by omega, ?_, hz8, fun k hk => absurd hk (by omega)⟩ ⟨?_, ?_⟩ ?_
        · rw [hcl 4 (by decide) (by decide) (by decide), q1, q2]
        · rw [h13', p5]
        · rw [h13', p6]; exact hf2
        · rw [h13', p7]; exact hf3
        · rw [ebw]
          exact dv_B1_n hb ebk hf hg hP
      rcases hor with ⟨hr, g1, m, q, rfl, g2, g3, g4, g5, g6, g7, g8, g9⟩ | ⟨hr, rfl, g1, g2⟩
      · obtain ⟨w1, w2, w3, w4, w5⟩ := p8 hr
        refine ⟨_, z, e276, hInv _ w1 g1 ⟨⟨?_, .inr ?_⟩, m, q, g2, g3, ?_, ?_, ?_, ?_⟩, .inl ⟨hr, by rw [w3, g5]⟩⟩
        · show z.1 83 0 = _
          rw [hcl 83 (by decide) (by decide) (by decide), w2, db_bk_0 (by omega), g7]
        · rw [db_bk_0 (by omega), g7]
        · rw [db_bk_0 (by omega), g8]
        · show z.1 83 1 = _
          rw [hcl 83 (by decide) (by decide) (by decide), w3, g5]
        · show z.1 83 2 = _
          rw [hcl 83 (by decide) (by decide) (by decide), w4, g6]
        · refine dw_PL (R := db_pr 208 y) (fun a j hj => ?_) (g9 31 (by omega))
          unfold db_pr
          by_cases ha : a < 60
          · rw [if_pos ha, if_pos ha, show 20 + 63 + 2 + a = 85 + a by omega, show 208 + 2 + a = 210 + a by omega, hcl (85 + a) (by omega) (by omega) (by omega)]
            exact w5 a ha j hj
          · rw [if_neg ha, if_neg ha]
      · obtain ⟨w1, w2⟩ := p9 hr
        refine ⟨_, z, e276, hInv _ w1 g1 ?_, .inr ⟨hr, rfl⟩⟩
        have ee : db_bk z 0 = db_bk s 0 := by
          funext k
          by_cases hk : k < 480
          · rw [db_bk_0 hk, db_bk_0 hk, g2 k hk, e674]
          · unfold db_bk
            rw [if_neg hk, if_neg hk]
        rw [ee]
        exact db_PN_c (by rw [hcl 83 (by decide) (by decide) (by decide), w2 83 (by omega) (by omega)]) (fun a ha => by rw [hcl _ (by omega) (by omega) (by omega), w2 _ (by omega) (by omega)]) hb.2.2
    cases r with
    | false =>
      have e88 : db_f88 s (nI n) = some (-(nI 1), db_uI (db_uI y 13 1 (nI 0)) 4 0 (nI 10)) := by
        unfold db_f88
        simp (disch := omega) only [db_lit, eq_self, db_pI_e, db_pL_e, db_bind_some, db_bd_some, nI_add, pk_mul, nI_toInt, db_m1_t, dz_cn, Int.ofNat_le, Int.ofNat_lt, decide_true, decide_false, db_ct, db_cf, not_true_eq_false, not_false_eq_true, db_87e, db_37e, db_31e, db_28e, db_281e, db_211e, db_27, db_269w, db_litL, pk_lT, db_iL, db_p0_e, db_p0_n, db_p0_j, db_sub1, nI_eq, if_true, if_false, Bool.false_eq_true, Nat.one_ne_zero, h13, hwi, hn3, e89]
      obtain ⟨v, z, ez, hz, hor⟩ := key (db_uI (db_uI y 13 1 (nI 0)) 4 0 (nI 10)) (fun c c1 c2 c3 c4 c5 => by rw [db_uI_n c1, db_uI_n c2, (hGa.1 c c2 c3 c5).1]) (fun c c1 c2 c3 => by rw [db_uI_2, db_uI_2, (hGa.1 c c1 c2 c3).2]) (fun j hj => by rw [db_uI_j hj, db_uI_n (by decide), (hGa.1 4 (by decide) (by omega) (by omega)).1]) (by rw [db_uI_2, db_uI_2, hGa.2.2]) (by rw [db_uI_n (by decide), db_uI_1]) (by rw [db_uI_n (by decide), db_uI_j (by decide)]) (by rw [db_uI_n (by decide), db_uI_j (by decide)]) (fun h => by cases h) (fun _ => ⟨db_uI_1, fun c c1 c2 => by rw [db_uI_n (by omega), db_uI_n (by omega), (hGa.1 c (by omega) (by omega) (by omega)).1]⟩)
      rcases hor with ⟨h, -⟩ | ⟨-, rfl⟩
      · cases h
      · exact ⟨_, _, z, e88, ez, hz⟩
    | true =>
      have h2080 : (db_uI y 13 1 (nI 0)).1 208 0 = nI 1 := by
        obtain ⟨r', y', v', z, e89', -, -, -, -, -, -, -, -, hor⟩ := dv_nights (s := s) (t := s) (x := s.1 14) (n := n) hn0 (by omega) hn3 h669 (hxt s rfl) hxs hkw hLk rfl rfl
        rw [e89] at e89'
        obtain ⟨hr, hy⟩ := Prod.mk.inj (Option.some.inj e89')
        subst hr
        subst hy
        rcases hor with ⟨-, -, m, q, -, -, -, g4, -⟩ | ⟨h, -⟩
        · rw [db_uI_n (by decide)]; exact g4
        · cases h
      obtain ⟨Z, eZ, z1, z2, z3, z4, z5, z6⟩ := dv_97 h2080
      have e88 : db_f88 s (nI n) = some (Z.1 83 1, db_uI Z 4 0 (nI 0)) := by
        unfold db_f88
        simp (disch := omega) only [db_lit, eq_self, db_pI_e, db_pL_e, db_bind_some, db_bd_some, nI_add, pk_mul, nI_toInt, db_m1_t, dz_cn, Int.ofNat_le, Int.ofNat_lt, decide_true, decide_false, db_ct, db_cf, not_true_eq_false, not_false_eq_true, db_87e, db_37e, db_31e, db_28e, db_281e, db_211e, db_27, db_269w, db_litL, pk_lT, db_iL, db_p0_e, db_p0_n, db_p0_j, db_sub1, nI_eq, if_true, if_false, Bool.false_eq_true, Nat.one_ne_zero, h13, hwi, hn3, e89, eZ]
      obtain ⟨v, z, ez, hz, hor⟩ := key (db_uI Z 4 0 (nI 0)) (fun c c1 c2 c3 c4 c5 => by rw [db_uI_n c1, z5 c c4, db_uI_n c2, (hGa.1 c c2 c3 c5).1]) (fun c c1 c2 c3 => by rw [db_uI_2, z6, db_uI_2, (hGa.1 c c1 c2 c3).2]) (fun j hj => by rw [db_uI_j hj, z5 4 (by omega), db_uI_n (by decide), (hGa.1 4 (by decide) (by omega) (by omega)).1]) (by rw [db_uI_2, z6, db_uI_2, hGa.2.2]) (by rw [db_uI_n (by decide), z5 13 (by omega), db_uI_1]) (by rw [db_uI_n (by decide), z5 13 (by omega), db_uI_j (by decide)]) (by rw [db_uI_n (by decide), z5 13 (by omega), db_uI_j (by decide)]) (fun _ => ⟨db_uI_1, by rw [db_uI_n (by decide)]; exact z1, by rw [db_uI_n (by decide), z2, db_uI_n (by decide)], by rw [db_uI_n (by decide), z3, db_uI_n (by decide)], fun r hr j hj => by rw [db_uI_n (by omega), z4 r hr j hj, db_uI_n (by omega)]⟩) (fun h => by cases h)
      rcases hor with ⟨-, rfl⟩ | ⟨h, -⟩
      · exact ⟨_, _, z, e88, by show db_f276 _ _ = _; rw [ez, db_uI_n (by decide)], hz⟩
      · cases h
end DVNJ
