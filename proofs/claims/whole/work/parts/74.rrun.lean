/-! LIVES: the reference's run -/
def dw_Fq (s z : db_S) : Prop := (∀ j, j < 29 ∨ (32 < j ∧ j < 41) ∨ 45 < j → z.1 669 j = s.1 669 j) ∧ (∀ k, 480 ≤ k → z.1 674 k = s.1 674 k) ∧ (∀ a, a ≠ 669 → a ≠ 674 → a ≠ 677 → a ≠ 678 → a ≠ 679 → z.1 a = s.1 a) ∧ z.2 = s.2
def dw_Rr (s0 : db_S) (t : dw_Tt) (a : db_S) : Prop := db_A a t.1 ∧ a.1 669 44 = t.2.1 0 ∧ a.1 669 31 = t.2.1 2 ∧ a.1 669 32 = t.2.1 3 ∧ a.1 669 45 = t.2.1 4 ∧ a.1 669 41 = t.2.1 6 ∧ a.1 669 42 = nI t.2.2.2 ∧ a.1 669 43 = nI t.2.2.1 ∧ dw_Fq s0 a
section DBRN
variable {U : Nat} {c0 : db_C} {s0 : db_S}
theorem dw_Fq_u {s z : db_S} {j : Nat} {x : Int32} (h : dw_Fq s z) (hj : 41 ≤ j ∧ j ≤ 45) : dw_Fq s (db_uI z 669 j x) := ⟨fun i hi => by rw [db_uI_j (by omega)]; exact h.1 i hi, fun k hk => by rw [db_uI_n (by decide)]; exact h.2.1 k hk, fun a a1 a2 a3 a4 a5 => by rw [db_uI_n a1]; exact h.2.2.1 a a1 a2 a3 a4 a5, h.2.2.2⟩
theorem dw_117 {r368 : db_S → Int32 → Int32 → Option db_S} {r : dw_Tt → dw_Tt} {i l e : Nat} (hi : i < 30) (hl : c0 (201 + 9 * i + 1) = nI l) (hl2 : l ≤ 99) (he : c0 (201 + 9 * i + 8) = nI e) (hk : ∀ t, dw_tk U c0 t → dw_tk U c0 (r t)) (hr : ∀ t s, dw_tk U c0 t → dw_Rr s0 t s → dz_T (r368 s (nI (i + 1)) (nI e)) (fun z => dw_Rr s0 (r t) z)) : ∀ m v F t s, v + m = l → m < F → dw_tk U c0 t → dw_Rr s0 t s → dz_T (db_f369_b117 r368 F s (nI i) (nI (201 + 9 * i)) (nI v)) (fun z => dw_Rr s0 (dw_lp r m t) z) := by
  intro m
  induction m with
  | zero =>
    intro v F t s hv hF hT hR
    cases F with
    | zero => omega
    | succ F =>
      rw [db_f369_b117]
      have e1 : s.1 674 (201 + 9 * i + 1) = nI l := by rw [hR.1 _ (by omega), hT.2.1 _ (by unfold dz_tl; omega)]; exact hl
      simp (disch := omega) only [db_lit, eq_self, db_pI_e, db_pL_e, db_bind_some, db_bd_some, nI_add, pk_mul, nI_toInt, db_m1_t, dz_cn, Int.ofNat_le, Int.ofNat_lt, decide_true, decide_false, db_ct, db_cf, not_true_eq_false, not_false_eq_true, db_g_674, e1, (show l ≤ v by omega)]
      exact ⟨_, rfl, hR⟩
  | succ m IH =>
    intro v F t s hv hF hT hR
    cases F with
    | zero => omega
    | succ F =>
      rw [db_f369_b117, dw_lp]
      have e1 : s.1 674 (201 + 9 * i + 1) = nI l := by rw [hR.1 _ (by omega), hT.2.1 _ (by unfold dz_tl; omega)]; exact hl
      have e8 : s.1 674 (201 + 9 * i + 8) = nI e := by rw [hR.1 _ (by omega), hT.2.1 _ (by unfold dz_tl; omega)]; exact he
      have e41 : s.1 669 41 = t.2.1 6 := hR.2.2.2.2.2.1
      simp (disch := omega) only [db_lit, eq_self, db_pI_e, db_pL_e, db_bind_some, db_bd_some, nI_add, pk_mul, nI_toInt, db_m1_t, dz_cn, Int.ofNat_le, Int.ofNat_lt, decide_true, decide_false, db_ct, db_cf, not_true_eq_false, not_false_eq_true, db_g_674, e1, (show ¬ l ≤ v by omega), e41]
      by_cases h6 : t.2.1 6 = nI 0
      · rw [if_pos h6, decide_eq_false (fun h => h h6), db_cf]
        simp (disch := omega) only [db_lit, eq_self, db_pI_e, db_pL_e, db_bind_some, db_bd_some, nI_add, pk_mul, nI_toInt, db_m1_t, dz_cn, Int.ofNat_le, Int.ofNat_lt, decide_true, decide_false, db_ct, db_cf, not_true_eq_false, not_false_eq_true, e8]
        refine db_T_go (hr t s hT hR) fun z hz => ?_
        exact IH (v + 1) F (r t) z (by omega) (by omega) (hk t hT) hz
      · rw [if_neg h6, decide_eq_true h6, db_ct]
        exact ⟨_, rfl, hR⟩
theorem dw_369 {R : Nat → Int32} {r368 : db_S → Int32 → Int32 → Option db_S} {r : Nat → Nat → dw_Tt → dw_Tt} {i e : Nat} (hU : U + 1800 ≤ 1000000000) (hi : i < 30) (hS : db_SR R c0 (201 + 9 * i)) (he : c0 (201 + 9 * i + 8) = nI e) (he2 : e ≤ 30) (hk : (c0 (201 + 9 * i) = nI 4 ∨ c0 (201 + 9 * i) = nI 5) → ∀ t, dw_tk U c0 t → dw_tk U c0 (r (i + 1) e t)) (hr : (c0 (201 + 9 * i) = nI 4 ∨ c0 (201 + 9 * i) = nI 5) → ∀ t s, dw_tk U c0 t → dw_Rr s0 t s → dz_T (r368 s (nI (i + 1)) (nI e)) (fun z => dw_Rr s0 (r (i + 1) e t) z)) {t : dw_Tt} {s : db_S} (hT : dw_tk U c0 t) (hR : dw_Rr s0 t s) : dz_T (db_f369 r368 s (nI i)) (fun z => dw_Rr s0 (dw_on r i t) z) := by
  obtain ⟨c, g, n, sd⟩ := t
  obtain ⟨h1, h2, h3, h4, h5, h6⟩ := hT
  obtain ⟨q1, q2, q3, q4, q5, q6, q7, q8, q9⟩ := hR
  dsimp only at h1 h2 h3 h4 h5 h6 q1 q2 q3 q4 q5 q6 q7 q8 q9
  have hS' : db_SR R c (201 + 9 * i) := dw_SR_t h2 (by omega) (by omega) hS
  have en : db_n c (201 + 9 * i + 8) = e := by
    have : c (201 + 9 * i + 8) = nI e := by rw [h2 _ (by unfold dz_tl; omega)]; exact he
    exact dw_nI_n this (by omega)
  have ec : c (201 + 9 * i + 8) = nI e := by rw [h2 _ (by unfold dz_tl; omega)]; exact he
  have e0 : c (201 + 9 * i) = c0 (201 + 9 * i) := h2 _ (by unfold dz_tl; omega)
  unfold dw_on db_f369
  dsimp only
  rw [en]
  by_cases hn : n = 300
  · rw [if_pos hn]
    subst hn
    simp (disch := omega) only [db_lit, eq_self, db_pI_e, db_pL_e, db_bind_some, db_bd_some, nI_add, pk_mul, nI_toInt, db_m1_t, dz_cn, Int.ofNat_le, Int.ofNat_lt, decide_true, decide_false, db_ct, db_cf, not_true_eq_false, not_false_eq_true, db_87e, db_37e, db_31e, db_28e, db_281e, db_211e, db_27, db_269w, db_litL, pk_lT, db_iL, db_p0_e, db_p0_n, db_p0_j, db_sub1, nI_eq, if_true, if_false, Bool.false_eq_true, q8]
    refine ⟨_, rfl, ?_⟩
    refine ⟨fun k hk => by rw [db_uI_n (by decide), db_uI_n (by decide)]; exact q1 k hk, ?_, ?_, ?_, ?_, ?_, ?_, ?_, dw_Fq_u (dw_Fq_u q9 (by omega)) (by omega)⟩
    · show _ = db_cu (db_cu g 6 (nI 1)) 4 (nI 1) 0
      rw [db_uI_j (by decide), db_uI_j (by decide), db_cu_n (by decide), db_cu_n (by decide)]; exact q2
    · show _ = db_cu (db_cu g 6 (nI 1)) 4 (nI 1) 2
      rw [db_uI_j (by decide), db_uI_j (by decide), db_cu_n (by decide), db_cu_n (by decide)]; exact q3
    · show _ = db_cu (db_cu g 6 (nI 1)) 4 (nI 1) 3
      rw [db_uI_j (by decide), db_uI_j (by decide), db_cu_n (by decide), db_cu_n (by decide)]; exact q4
    · show _ = db_cu (db_cu g 6 (nI 1)) 4 (nI 1) 4
      rw [db_uI_1, db_cu_1]
    · show _ = db_cu (db_cu g 6 (nI 1)) 4 (nI 1) 6
      rw [db_uI_j (by decide), db_uI_1, db_cu_n (by decide), db_cu_1]
    · rw [db_uI_j (by decide), db_uI_j (by decide)]; exact q7
    · rw [db_uI_j (by decide), db_uI_j (by decide)]; exact q8
  · rw [if_neg hn]
    have hb : dw_tk U c0 (c, g, n + 1, sd) := ⟨dw_gd_mono (by show U + 6 * n ≤ U + 6 * (n + 1); omega) h1, h2, by show n + 1 ≤ 300; omega, h4, h5, h6⟩
    have hRb : dw_Rr s0 (c, g, n + 1, sd) (db_uI s 669 43 (nI (n + 1))) := ⟨fun k hk => by rw [db_uI_n (by decide)]; exact q1 k hk, by rw [db_uI_j (by decide)]; exact q2, by rw [db_uI_j (by decide)]; exact q3, by rw [db_uI_j (by decide)]; exact q4, by rw [db_uI_j (by decide)]; exact q5, by rw [db_uI_j (by decide)]; exact q6, by rw [db_uI_j (by decide)]; exact q7, db_uI_1, dw_Fq_u q9 (by omega)⟩
    have hO : db_Ok (U + 6 * n) c := by
      obtain ⟨s, w, hB⟩ := h1
      exact hB.1
    simp (disch := omega) only [db_lit, eq_self, db_pI_e, db_pL_e, db_bind_some, db_bd_some, nI_add, pk_mul, nI_toInt, db_m1_t, dz_cn, Int.ofNat_le, Int.ofNat_lt, decide_true, decide_false, db_ct, db_cf, not_true_eq_false, not_false_eq_true, db_87e, db_37e, db_31e, db_28e, db_281e, db_211e, db_27, db_269w, db_litL, pk_lT, db_iL, db_p0_e, db_p0_n, db_p0_j, db_sub1, nI_eq, if_true, if_false, Bool.false_eq_true, q8, hn]
    generalize hs1 : db_uI s 669 43 (nI (n + 1)) = s1 at hRb
    have hc1 : db_A s1 c := hRb.1
    have e674 : s1.1 674 (201 + 9 * i) = c (201 + 9 * i) := hc1 _ (by omega)
    rcases dw_kd hS' with hkk | hkk | hkk | hkk
    · have e8 : s1.1 674 (201 + 9 * i + 8) = nI e := by rw [hc1 _ (by omega)]; exact ec
      rw [if_pos hkk]
      simp (disch := omega) only [db_lit, eq_self, db_pI_e, db_pL_e, db_bind_some, db_bd_some, nI_add, pk_mul, nI_toInt, db_m1_t, dz_cn, Int.ofNat_le, Int.ofNat_lt, decide_true, decide_false, db_ct, db_cf, not_true_eq_false, not_false_eq_true, db_87e, db_37e, db_31e, db_28e, db_281e, db_211e, db_27, db_269w, db_litL, pk_lT, db_iL, db_p0_e, db_p0_n, db_p0_j, db_sub1, nI_eq, if_true, if_false, Bool.false_eq_true, db_g_674, e674, hkk, Nat.le_refl, dw_373 hc1 hO (show 201 + 9 * i + 9 ≤ 480 by omega) hS' hkk]
      cases hcd : dw_cd c (201 + 9 * i) with
      | true =>
        rw [if_pos rfl]
        simp (disch := omega) only [db_lit, eq_self, db_pI_e, db_pL_e, db_bind_some, db_bd_some, nI_add, pk_mul, nI_toInt, db_m1_t, dz_cn, Int.ofNat_le, Int.ofNat_lt, decide_true, decide_false, db_ct, db_cf, not_true_eq_false, not_false_eq_true, db_87e, db_37e, db_31e, db_28e, db_281e, db_211e, db_27, db_269w, db_litL, pk_lT, db_iL, db_p0_e, db_p0_n, db_p0_j, db_sub1, nI_eq, if_true, if_false, Bool.false_eq_true, e8]
        refine db_T_go (hr (.inl (e0.symm.trans hkk)) _ _ hb hRb) fun z hz => ?_
        exact ⟨_, rfl, hz⟩
      | false =>
        rw [if_neg (by decide)]
        unfold db_f369_b109
        simp (disch := omega) only [db_lit, eq_self, db_pI_e, db_pL_e, db_bind_some, db_bd_some, nI_add, pk_mul, nI_toInt, db_m1_t, dz_cn, Int.ofNat_le, Int.ofNat_lt, decide_true, decide_false, db_ct, db_cf, not_true_eq_false, not_false_eq_true, db_87e, db_37e, db_31e, db_28e, db_281e, db_211e, db_27, db_269w, db_litL, pk_lT, db_iL, db_p0_e, db_p0_n, db_p0_j, db_sub1, nI_eq, if_true, if_false, Bool.false_eq_true, (show ¬ 4 = 5 by omega), (show 4 ≤ 5 by omega)]
        exact ⟨_, rfl, hRb⟩
    · have hl : ∃ l, l ≤ 99 ∧ c (201 + 9 * i + 1) = nI l := by
        obtain ⟨k, k6, g0, -, -, -, -, -, b5⟩ := hS'
        have hk5 : k = 5 := db_nI_inj (by omega) (by omega) (g0.symm.trans hkk)
        obtain ⟨l, l1, l2, l3, -⟩ := b5 hk5
        exact ⟨l, l2, l3⟩
      obtain ⟨l, l2, l3⟩ := hl
      rw [if_neg (by rw [hkk]; decide), if_pos hkk, dw_nI_n l3 (by omega)]
      unfold db_f369_b109
      simp (disch := omega) only [db_lit, eq_self, db_pI_e, db_pL_e, db_bind_some, db_bd_some, nI_add, pk_mul, nI_toInt, db_m1_t, dz_cn, Int.ofNat_le, Int.ofNat_lt, decide_true, decide_false, db_ct, db_cf, not_true_eq_false, not_false_eq_true, db_87e, db_37e, db_31e, db_28e, db_281e, db_211e, db_27, db_269w, db_litL, pk_lT, db_iL, db_p0_e, db_p0_n, db_p0_j, db_sub1, nI_eq, if_true, if_false, Bool.false_eq_true, db_g_674, e674, hkk, (show 4 ≤ 5 by omega), (show ¬ 5 = 4 by omega)]
      exact dw_117 (c0 := c0) (l := l) (e := e) hi (by rw [← h2 _ (by unfold dz_tl; omega)]; exact l3) l2 he (hk (.inr (e0.symm.trans hkk))) (hr (.inr (e0.symm.trans hkk))) l 0 db_FU _ s1 (by omega) (by unfold db_FU; omega) hb hRb
    · rw [if_neg (by rw [hkk]; decide), if_neg (by rw [hkk]; decide), if_pos hkk]
      unfold db_f369_b109
      simp (disch := omega) only [db_lit, eq_self, db_pI_e, db_pL_e, db_bind_some, db_bd_some, nI_add, pk_mul, nI_toInt, db_m1_t, dz_cn, Int.ofNat_le, Int.ofNat_lt, decide_true, decide_false, db_ct, db_cf, not_true_eq_false, not_false_eq_true, db_87e, db_37e, db_31e, db_28e, db_281e, db_211e, db_27, db_269w, db_litL, pk_lT, db_iL, db_p0_e, db_p0_n, db_p0_j, db_sub1, nI_eq, if_true, if_false, Bool.false_eq_true, db_g_674, e674, hkk, (show 4 ≤ 6 by omega), (show ¬ 6 = 4 by omega), (show ¬ 6 = 5 by omega), (show ¬ 6 ≤ 5 by omega)]
      obtain ⟨w1, w2, w3, w4, w5, w6, w7, w8, w9⟩ := hRb
      dsimp only at w1 w2 w3 w4 w5 w6 w7 w8 w9
      refine ⟨_, rfl, fun k hk => by rw [db_uI_n (by decide)]; exact w1 k hk, ?_, ?_, ?_, ?_, ?_, ?_, ?_, dw_Fq_u w9 (by omega)⟩
      · show _ = db_cu g 6 (nI 1) 0
        rw [db_uI_j (by decide), db_cu_n (by decide)]; exact w2
      · show _ = db_cu g 6 (nI 1) 2
        rw [db_uI_j (by decide), db_cu_n (by decide)]; exact w3
      · show _ = db_cu g 6 (nI 1) 3
        rw [db_uI_j (by decide), db_cu_n (by decide)]; exact w4
      · show _ = db_cu g 6 (nI 1) 4
        rw [db_uI_j (by decide), db_cu_n (by decide)]; exact w5
      · show _ = db_cu g 6 (nI 1) 6
        rw [db_uI_1, db_cu_1]
      · rw [db_uI_j (by decide)]; exact w7
      · rw [db_uI_j (by decide)]; exact w8
    · obtain ⟨k, k3, ek⟩ := hkk
      rw [if_neg (dw_k_ne k3 ek (by omega) (by omega)), if_neg (dw_k_ne k3 ek (by omega) (by omega)), if_neg (dw_k_ne k3 ek (by omega) (by omega))]
      obtain ⟨w1, w2, w3, w4, w5, w6, w7, w8, w9⟩ := hRb
      dsimp only at w1 w2 w3 w4 w5 w6 w7 w8 w9
      simp (disch := omega) only [db_lit, eq_self, db_pI_e, db_pL_e, db_bind_some, db_bd_some, nI_add, pk_mul, nI_toInt, db_m1_t, dz_cn, Int.ofNat_le, Int.ofNat_lt, decide_true, decide_false, db_ct, db_cf, not_true_eq_false, not_false_eq_true, db_87e, db_37e, db_31e, db_28e, db_281e, db_211e, db_27, db_269w, db_litL, pk_lT, db_iL, db_p0_e, db_p0_n, db_p0_j, db_sub1, nI_eq, if_true, if_false, Bool.false_eq_true, db_g_674, e674, ek, (show ¬ 4 ≤ k by omega)]
      refine db_T_gd (dw_370 (g := g) hc1 hO (show 201 + 9 * i + 9 ≤ 480 by omega) hS' ⟨k, k3, ek⟩ h4 w7 w3 w4) fun v s9 hz => ?_
      obtain ⟨z1, z2, z3, z4, z5, z6⟩ := hz
      dsimp only at z1 z2 z3 z4 z5 z6
      have hO2 : db_Ok (U + 6 * n) c := hO
      obtain ⟨-, -, p3, -⟩ := dw_pm_k (g := g) hO hS' ⟨k, k3, ek⟩ h4 h6
      have hfin : ∀ u : Int32, dz_T (db_f369_b70 r368 s9 (s1.1 669 44) u) (fun z => dw_Rr s0 ((dw_pm (201 + 9 * i) c g sd).2.1, db_cu (dw_pm (201 + 9 * i) c g sd).2.2.1 0 ((dw_pm (201 + 9 * i) c g sd).2.2.1 0 + u), n + 1, (dw_pm (201 + 9 * i) c g sd).2.2.2) z) := by
        intro u
        unfold db_f369_b70
        simp (disch := omega) only [db_lit, eq_self, db_pI_e, db_pL_e, db_bind_some, db_bd_some, nI_add, pk_mul, nI_toInt, db_m1_t, dz_cn, Int.ofNat_le, Int.ofNat_lt, decide_true, decide_false, db_ct, db_cf, not_true_eq_false, not_false_eq_true, db_87e, db_37e, db_31e, db_28e, db_281e, db_211e, db_27, db_269w, db_litL, pk_lT, db_iL, db_p0_e, db_p0_n, db_p0_j, db_sub1, nI_eq, if_true, if_false, Bool.false_eq_true]
        refine ⟨_, rfl, fun k hk => by rw [db_uI_n (by decide)]; exact z2 k hk, ?_, ?_, ?_, ?_, ?_, ?_, ?_, dw_Fq_u (j := 44) ?_ (by omega)⟩
        · show (db_uI s9 669 44 (s1.1 669 44 + u)).1 669 44 = db_cu (dw_pm (201 + 9 * i) c g sd).2.2.1 0 ((dw_pm (201 + 9 * i) c g sd).2.2.1 0 + u) 0
          rw [db_uI_1, db_cu_1, w2, p3 0 (by decide) (by decide) (by decide)]
        · show (db_uI s9 669 44 (s1.1 669 44 + u)).1 669 31 = db_cu (dw_pm (201 + 9 * i) c g sd).2.2.1 0 ((dw_pm (201 + 9 * i) c g sd).2.2.1 0 + u) 2
          rw [db_uI_j (by decide), db_cu_n (by decide)]; exact z3
        · show (db_uI s9 669 44 (s1.1 669 44 + u)).1 669 32 = db_cu (dw_pm (201 + 9 * i) c g sd).2.2.1 0 ((dw_pm (201 + 9 * i) c g sd).2.2.1 0 + u) 3
          rw [db_uI_j (by decide), db_cu_n (by decide)]; exact z4
        · show (db_uI s9 669 44 (s1.1 669 44 + u)).1 669 45 = db_cu (dw_pm (201 + 9 * i) c g sd).2.2.1 0 ((dw_pm (201 + 9 * i) c g sd).2.2.1 0 + u) 4
          rw [db_uI_j (by decide), db_cu_n (by decide), p3 4 (by decide) (by decide) (by decide), z6.1 45 (by decide) (by decide) (by decide) (by decide) (by decide)]; exact w5
        · show (db_uI s9 669 44 (s1.1 669 44 + u)).1 669 41 = db_cu (dw_pm (201 + 9 * i) c g sd).2.2.1 0 ((dw_pm (201 + 9 * i) c g sd).2.2.1 0 + u) 6
          rw [db_uI_j (by decide), db_cu_n (by decide), p3 6 (by decide) (by decide) (by decide), z6.1 41 (by decide) (by decide) (by decide) (by decide) (by decide)]; exact w6
        · rw [db_uI_j (by decide)]; exact z5
        · rw [db_uI_j (by decide), z6.1 43 (by decide) (by decide) (by decide) (by decide) (by decide)]; exact w8
        · exact ⟨fun j hj => by rw [z6.1 j (by omega) (by omega) (by omega) (by omega) (by omega)]; exact w9.1 j hj, fun k hk => by rw [z6.2.1 k hk]; exact w9.2.1 k hk, fun a a1 a2 a3 a4 a5 => by rw [z6.2.2.1 a a1 a2 a3 a4 a5]; exact w9.2.2.1 a a1 a2 a3 a4 a5, z6.2.2.2.trans w9.2.2.2⟩
      rw [← z1]
      cases v with
      | true => exact hfin (nI 0)
      | false => exact hfin (nI 1)
end DBRN
