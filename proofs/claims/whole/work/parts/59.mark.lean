/-! MARKS -/
section DBMK
variable {U : Nat} {s z : db_S} {c : db_C} {w : Nat → Int64} {a d m k : Nat}
/-- the reference's block copied -/
theorem db_275 {q1 q2 : Nat} (h1 : q1 < 4) (h2 : q2 < 4) (hne : q1 ≠ q2) : dz_T (db_f275 s (nI q1) (nI q2)) (fun z => (∀ b, b ≠ 674 → z.1 b = s.1 b) ∧ (∀ b, b ≠ 676 → z.2 b = s.2 b) ∧ (∀ j, j < 480 → z.1 674 (480 * q2 + j) = s.1 674 (480 * q1 + j)) ∧ (∀ j, ¬ (480 * q2 ≤ j ∧ j < 480 * q2 + 480) → z.1 674 j = s.1 674 j) ∧ (∀ j, j < 37 → z.2 676 (37 * q2 + j) = s.2 676 (37 * q1 + j)) ∧ ∀ j, ¬ (37 * q2 ≤ j ∧ j < 37 * q2 + 37) → z.2 676 j = s.2 676 j) := by
  unfold db_f275
  refine db_loop (L := fun m a k => db_f275_b2 m a (nI q1) (nI q2) (nI k)) (N := 480) (fun k z => (∀ b, b ≠ 674 → z.1 b = s.1 b) ∧ z.2 = s.2 ∧ (∀ j, j < k → z.1 674 (480 * q2 + j) = s.1 674 (480 * q1 + j)) ∧ ∀ j, ¬ (480 * q2 ≤ j ∧ j < 480 * q2 + k) → z.1 674 j = s.1 674 j) ?_ ?_ (n := db_FU) (by unfold db_FU; omega) ⟨fun b _ => rfl, rfl, fun j hj => absurd hj (by omega), fun j _ => rfl⟩
  · rintro m a ⟨g1, g2, g3, g4⟩
    show dz_T (db_f275_b2 (m + 1) a (nI q1) (nI q2) (nI 480)) _
    rw [db_f275_b2]
    simp (disch := omega) only [db_lit, eq_self, db_pI_e, db_pL_e, db_bind_some, db_bd_some, nI_add, pk_mul, nI_toInt, db_m1_t, dz_cn, Int.ofNat_le, Int.ofNat_lt, decide_true, decide_false, db_ct, db_cf, not_true_eq_false, not_false_eq_true, Nat.le_refl]
    refine db_loop (L := fun m a k => db_f275_b41 m a (nI q1) (nI q2) (nI k)) (N := 37) (fun k z => z.1 = a.1 ∧ (∀ b, b ≠ 676 → z.2 b = s.2 b) ∧ (∀ j, j < k → z.2 676 (37 * q2 + j) = s.2 676 (37 * q1 + j)) ∧ ∀ j, ¬ (37 * q2 ≤ j ∧ j < 37 * q2 + k) → z.2 676 j = s.2 676 j) ?_ ?_ (n := db_FU) (by unfold db_FU; omega) ⟨rfl, fun b _ => by rw [g2], fun j hj => absurd hj (by omega), fun j _ => by rw [g2]⟩
    · rintro m z ⟨k1, k2, k3, k4⟩
      show dz_T (db_f275_b41 (m + 1) z (nI q1) (nI q2) (nI 37)) _
      rw [db_f275_b41]
      simp (disch := omega) only [db_lit, eq_self, db_pI_e, db_pL_e, db_bind_some, db_bd_some, nI_add, pk_mul, nI_toInt, db_m1_t, dz_cn, Int.ofNat_le, Int.ofNat_lt, decide_true, decide_false, db_ct, db_cf, not_true_eq_false, not_false_eq_true, Nat.le_refl]
      exact ⟨_, rfl, fun b hb => by rw [k1]; exact g1 b hb, k2, fun j hj => by rw [k1]; exact g3 j hj, fun j hj => by rw [k1]; exact g4 j hj, k3, k4⟩
    · rintro m k z hk ⟨k1, k2, k3, k4⟩ hrec
      show dz_T (db_f275_b41 (m + 1) z (nI q1) (nI q2) (nI k)) _
      rw [db_f275_b41]
      have h7 : ¬ 37 ≤ k := by omega
      simp (disch := omega) only [db_lit, eq_self, db_pI_e, db_pL_e, db_bind_some, db_bd_some, nI_add, pk_mul, nI_toInt, db_m1_t, dz_cn, Int.ofNat_le, Int.ofNat_lt, decide_true, decide_false, db_ct, db_cf, not_true_eq_false, not_false_eq_true, h7, db_g_676, db_h_676]
      refine hrec _ ⟨k1, fun b hb => by rw [db_uL_n hb]; exact k2 b hb, fun j hj => ?_, fun j hj => ?_⟩
      · by_cases e : j = k
        · subst e
          rw [db_uL_1, k4 _ (by omega)]
        · rw [db_uL_j (by omega)]; exact k3 j (by omega)
      · rw [db_uL_j (by omega)]; exact k4 j (by omega)
  · rintro m k a hk ⟨g1, g2, g3, g4⟩ hrec
    show dz_T (db_f275_b2 (m + 1) a (nI q1) (nI q2) (nI k)) _
    rw [db_f275_b2]
    have h7 : ¬ 480 ≤ k := by omega
    simp (disch := omega) only [db_lit, eq_self, db_pI_e, db_pL_e, db_bind_some, db_bd_some, nI_add, pk_mul, nI_toInt, db_m1_t, dz_cn, Int.ofNat_le, Int.ofNat_lt, decide_true, decide_false, db_ct, db_cf, not_true_eq_false, not_false_eq_true, h7, db_g_674, db_h_674]
    refine hrec _ ⟨fun b hb => by rw [db_uI_n hb]; exact g1 b hb, g2, fun j hj => ?_, fun j hj => ?_⟩
    · by_cases e : j = k
      · subst e
        rw [db_uI_1, g4 _ (by omega)]
      · rw [db_uI_j (by omega)]; exact g3 j (by omega)
    · rw [db_uI_j (by omega)]; exact g4 j (by omega)
theorem dw_bk {q1 q2 : Nat} (h : ∀ j, j < 480 → z.1 674 (480 * q2 + j) = s.1 674 (480 * q1 + j)) : db_bk z q2 = db_bk s q1 := by
  funext k
  unfold db_bk
  by_cases hk : k < 480
  · rw [if_pos hk, if_pos hk, h k hk]
  · rw [if_neg hk, if_neg hk]
theorem dw_bw {q1 q2 : Nat} (h : ∀ j, j < 37 → z.2 676 (37 * q2 + j) = s.2 676 (37 * q1 + j)) : db_bw z q2 = db_bw s q1 := by
  funext k
  unfold db_bw
  by_cases hk : k < 37
  · rw [if_pos hk, if_pos hk, h k hk]
  · rw [if_neg hk, if_neg hk]
theorem dw_cp_e {s' z' : db_S} (h : dw_cp a d s z) (h1 : ∀ b, a ≤ b → b < a + 125 → s'.1 b = s.1 b) (h2 : s'.2 (a + 56) = s.2 (a + 56)) (h3 : ∀ b, d ≤ b → b < d + 125 → z'.1 b = z.1 b) (h4 : z'.2 (d + 56) = z.2 (d + 56)) : dw_cp a d s' z' := by
  obtain ⟨g1, g2⟩ := h
  refine ⟨fun e j hj => ?_, fun j hj => ?_⟩
  · have he := (dw_gap hj).2.2.2.2.2.2.2
    rw [h3 _ (by omega) (by omega), h1 _ (by omega) (by omega)]
    exact g1 e j hj
  · rw [h4, h2]
    exact g2 j hj
/-- the class marks -/
theorem dw_204 {n : Nat} (hn : n < 3) (h : s.1 4 15 = nI n) (hb : s.1 83 0 = nI 0 ∨ s.1 83 0 = nI 1) : ∃ z, db_f204 s = some (nI (n + 1), db_uI (db_uI z 4 15 (nI (n + 1))) 4 0 (nI 0)) ∧ dw_cp 20 (294 + 125 * n) s z ∧ (∀ b, ¬ (294 + 125 * n ≤ b ∧ b < 294 + 125 * n + 125) → z.1 b = s.1 b) ∧ ∀ b, b ≠ 294 + 125 * n + 56 → z.2 b = s.2 b := by
  rcases (by omega : n = 0 ∨ n = 1 ∨ n = 2) with rfl | rfl | rfl
  · obtain ⟨z2, e2, h2⟩ := dw_82_ok (a := 20) (d := 294) (s := s) dw_pr_0 (.inl (by decide)) dw_Sh_20 dw_Sh_294
    obtain ⟨z4, e4, h4⟩ := dw_175_ok h2 (.inl (by decide)) dw_Sl_20 dw_Sl_294
    obtain ⟨z, e, hz⟩ := dw_97_ok h4 (.inl (by decide)) dw_Sl_20 dw_Sl_294 (by rw [h4.1 _ (by decide)]; exact hb)
    have k2 : z2.1 4 15 = nI 0 := by rw [h2.1 4 (by decide)]; exact h
    have k4 : z4.1 4 15 = nI 0 := by rw [h4.1 4 (by decide)]; exact h
    have k6 : z.1 4 15 = nI 0 := by rw [hz.1 4 (by decide)]; exact h
    refine ⟨z, ?_, dw_pr_cp hz, hz.1, hz.2.1⟩
    unfold db_f204 db_f204_b31 db_f204_b47 db_f204_b63
    simp (disch := omega) only [db_lit, eq_self, db_pI_e, db_pL_e, db_bind_some, db_bd_some, nI_add, pk_mul, nI_toInt, db_m1_t, dz_cn, Int.ofNat_le, Int.ofNat_lt, decide_true, decide_false, db_ct, db_cf, not_true_eq_false, not_false_eq_true, db_87e, db_37e, db_31e, db_28e, db_281e, db_211e, db_27, db_269w, db_litL, pk_lT, db_iL, db_p0_e, db_p0_n, db_p0_j, db_sub1, nI_eq, if_true, if_false, Bool.false_eq_true, h, (show 0 < 3 by omega), dw_82_294_20, e2, k2, dw_175_354_80, e4, k4, dw_97_357_83, e, k6, db_uI_1]
  · obtain ⟨z2, e2, h2⟩ := dw_82_ok (a := 20) (d := 419) (s := s) dw_pr_0 (.inl (by decide)) dw_Sh_20 dw_Sh_419
    obtain ⟨z4, e4, h4⟩ := dw_175_ok h2 (.inl (by decide)) dw_Sl_20 dw_Sl_419
    obtain ⟨z, e, hz⟩ := dw_97_ok h4 (.inl (by decide)) dw_Sl_20 dw_Sl_419 (by rw [h4.1 _ (by decide)]; exact hb)
    have k2 : z2.1 4 15 = nI 1 := by rw [h2.1 4 (by decide)]; exact h
    have k4 : z4.1 4 15 = nI 1 := by rw [h4.1 4 (by decide)]; exact h
    have k6 : z.1 4 15 = nI 1 := by rw [hz.1 4 (by decide)]; exact h
    refine ⟨z, ?_, dw_pr_cp hz, hz.1, hz.2.1⟩
    unfold db_f204 db_f204_b31 db_f204_b47 db_f204_b63
    simp (disch := omega) only [db_lit, eq_self, db_pI_e, db_pL_e, db_bind_some, db_bd_some, nI_add, pk_mul, nI_toInt, db_m1_t, dz_cn, Int.ofNat_le, Int.ofNat_lt, decide_true, decide_false, db_ct, db_cf, not_true_eq_false, not_false_eq_true, db_87e, db_37e, db_31e, db_28e, db_281e, db_211e, db_27, db_269w, db_litL, pk_lT, db_iL, db_p0_e, db_p0_n, db_p0_j, db_sub1, nI_eq, if_true, if_false, Bool.false_eq_true, h, (show 1 < 3 by omega), (show ¬ 1 = 0 by omega), dw_82_419_20, e2, k2, dw_175_479_80, e4, k4, dw_97_482_83, e, k6, db_uI_1]
  · obtain ⟨z2, e2, h2⟩ := dw_82_ok (a := 20) (d := 544) (s := s) dw_pr_0 (.inl (by decide)) dw_Sh_20 dw_Sh_544
    obtain ⟨z4, e4, h4⟩ := dw_175_ok h2 (.inl (by decide)) dw_Sl_20 dw_Sl_544
    obtain ⟨z, e, hz⟩ := dw_97_ok h4 (.inl (by decide)) dw_Sl_20 dw_Sl_544 (by rw [h4.1 _ (by decide)]; exact hb)
    have k2 : z2.1 4 15 = nI 2 := by rw [h2.1 4 (by decide)]; exact h
    have k4 : z4.1 4 15 = nI 2 := by rw [h4.1 4 (by decide)]; exact h
    have k6 : z.1 4 15 = nI 2 := by rw [hz.1 4 (by decide)]; exact h
    refine ⟨z, ?_, dw_pr_cp hz, hz.1, hz.2.1⟩
    unfold db_f204 db_f204_b31 db_f204_b47 db_f204_b63
    simp (disch := omega) only [db_lit, eq_self, db_pI_e, db_pL_e, db_bind_some, db_bd_some, nI_add, pk_mul, nI_toInt, db_m1_t, dz_cn, Int.ofNat_le, Int.ofNat_lt, decide_true, decide_false, db_ct, db_cf, not_true_eq_false, not_false_eq_true, db_87e, db_37e, db_31e, db_28e, db_281e, db_211e, db_27, db_269w, db_litL, pk_lT, db_iL, db_p0_e, db_p0_n, db_p0_j, db_sub1, nI_eq, if_true, if_false, Bool.false_eq_true, h, (show 2 < 3 by omega), (show ¬ 2 = 0 by omega), (show ¬ 2 = 1 by omega), dw_82_544_20, e2, k2, dw_175_604_80, e4, k4, dw_97_607_83, e, k6, db_uI_1]
theorem db_k54 (hI : db_Inv U s) : dz_G U s (fun s => db_f204 s) (fun s => db_f376 s) := by
  obtain ⟨n, n1, n2, n3, n4⟩ := hI.2.2.2.2.2.2.2.1
  have hcur := db_cur hI
  by_cases hn : n < 3
  · have hb : s.1 83 0 = nI 0 ∨ s.1 83 0 = nI 1 := by
      have := hcur.2.2.1
      rw [this.1]; exact this.2
    obtain ⟨z, e, hC, z1, z2⟩ := dw_204 hn n2 hb
    have hS : (db_uI (db_p0 (db_uI (db_uI z 4 15 (nI (n + 1))) 4 0 (nI 0))) 669 23 (nI (n + 1))) = (db_uI (db_p0 (db_uI (db_uI z 4 15 (nI (n + 1))) 4 0 (nI 0))) 669 23 (nI (n + 1))) := rfl
    obtain ⟨y, ey, y1, y2, y3, y4, y5, y6⟩ := db_275 (s := db_uI (db_p0 (db_uI (db_uI z 4 15 (nI (n + 1))) 4 0 (nI 0))) 669 23 (nI (n + 1))) (q1 := 0) (q2 := n + 1) (by omega) (by omega) (by omega)
    have w1 : ∀ b, b ≠ 674 → b ≠ 669 → b ≠ 4 → ¬ (294 + 125 * n ≤ b ∧ b < 294 + 125 * n + 125) → y.1 b = s.1 b := fun b q1 q2 q3 q4 => by
      rw [y1 b q1, db_uI_n q2, db_p0_n q2, db_uI_n q3, db_uI_n q3, z1 b q4]
    have w2 : ∀ b, b ≠ 676 → b ≠ 294 + 125 * n + 56 → y.2 b = s.2 b := fun b q1 q2 => by
      rw [y2 b q1, db_uI_2, db_p0_2, db_uI_2, db_uI_2, z2 b q2]
    have w3 : (db_uI (db_p0 (db_uI (db_uI z 4 15 (nI (n + 1))) 4 0 (nI 0))) 669 23 (nI (n + 1))).1 674 = s.1 674 := by
      rw [db_uI_n (by decide), db_p0_n (by decide), db_uI_n (by decide), db_uI_n (by decide), z1 674 (by omega)]
    have w4 : (db_uI (db_p0 (db_uI (db_uI z 4 15 (nI (n + 1))) 4 0 (nI 0))) 669 23 (nI (n + 1))).2 676 = s.2 676 := by
      rw [db_uI_2, db_p0_2, db_uI_2, db_uI_2, z2 676 (by omega)]
    rw [w3] at y3 y4
    rw [w4] at y5 y6
    have w5 : y.1 4 15 = nI (n + 1) := by rw [y1 4 (by decide), db_uI_n (by decide), db_p0_n (by decide), db_uI_j (by decide), db_uI_1]
    have w6 : y.1 4 0 = nI 0 := by rw [y1 4 (by decide), db_uI_n (by decide), db_p0_n (by decide), db_uI_1]
    have w7 : y.1 669 23 = nI (n + 1) := by rw [y1 669 (by decide), db_uI_1]
    have w8 : y.1 669 0 = nI 0 := by rw [y1 669 (by decide), db_uI_j (by decide)]; exact db_p0_0
    have w9 : ∀ j, j ≠ 0 → j ≠ 1 → j ≠ 23 → y.1 669 j = s.1 669 j := fun j q1 q2 q3 => by
      rw [y1 669 (by decide), db_uI_j q3, db_p0_j q1 q2, db_uI_n (by decide), db_uI_n (by decide), z1 669 (by omega)]
    have w10 : ∀ j, j ≠ 0 → j ≠ 15 → y.1 4 j = s.1 4 j := fun j q1 q2 => by
      rw [y1 4 (by decide), db_uI_n (by decide), db_p0_n (by decide), db_uI_j q1, db_uI_j q2, z1 4 (by omega)]
    refine ⟨nI (n + 1), _, y, e, ?_, ?_⟩
    · show db_f376 (db_uI (db_uI z 4 15 (nI (n + 1))) 4 0 (nI 0)) = _
      have h23 : (db_uI (db_uI z 4 15 (nI (n + 1))) 4 0 (nI 0)).1 669 23 = nI n := by rw [db_uI_n (by decide), db_uI_n (by decide), z1 669 (by omega)]; exact n3
      unfold db_f376
      simp (disch := omega) only [db_lit, eq_self, db_pI_e, db_pL_e, db_bind_some, db_bd_some, nI_add, pk_mul, nI_toInt, db_m1_t, dz_cn, Int.ofNat_le, Int.ofNat_lt, decide_true, decide_false, db_ct, db_cf, not_true_eq_false, not_false_eq_true, db_87e, db_37e, db_31e, db_28e, db_281e, db_211e, db_27, db_269w, db_litL, pk_lT, db_iL, db_p0_e, db_p0_n, db_p0_j, db_sub1, nI_eq, if_true, if_false, Bool.false_eq_true, h23, (show ¬ n = 3 by omega), db_uI_1, ey, w7]
    · refine db_Inv_mark hI (Nat.le_refl U) (fun b j he hne => ⟨?_, ?_⟩) (by rw [w6, w8]) ⟨n + 1, by omega, w5, w7, fun q hq => ?_⟩
      · by_cases b9 : b = 669
        · subst b9
          exact w9 j (by omega) (by rintro rfl; unfold db_es db_em at he; omega) (by omega)
        · by_cases b4 : b = 4
          · subst b4
            exact w10 j (by omega) (by omega)
          · by_cases b7 : b = 674
            · subst b7
              exact y4 j (by omega)
            · exact congrFun (w1 b b7 b9 b4 (by omega)) j
      · by_cases b7 : b = 676
        · subst b7
          exact y6 j (by omega)
        · exact congrFun (w2 b b7 (by omega)) j
      · by_cases hqn : q = n
        · subst hqn
          rw [dw_bk (q1 := 0) (s := s) (fun j hj => y3 j hj), dw_bw (q1 := 0) (s := s) (fun j hj => y5 j hj)]
          refine dw_B1 (a := 20) (s := s) (dw_cp_e hC (fun b _ _ => rfl) rfl (fun b q1 q2 => ?_) ?_) hcur
          · rw [y1 b (by omega), db_uI_n (by omega), db_p0_n (by omega), db_uI_n (by omega), db_uI_n (by omega)]
          · rw [y2 _ (by omega), db_uI_2, db_p0_2, db_uI_2, db_uI_2]
        · rw [dw_bk (q1 := q + 1) (s := s) (fun j hj => y4 _ (by omega)), dw_bw (q1 := q + 1) (s := s) (fun j hj => y6 _ (by omega))]
          exact db_B1_c (fun b q1 q2 q3 => w1 b (by omega) (by omega) (by omega) (by omega)) (w2 _ (by omega) (by omega)) (n4 q (by omega))
  · have hn3 : n = 3 := by omega
    subst hn3
    refine db_Gn 7 hI ?_ fun s1 hS hA => ?_
    · unfold db_f204
      simp (disch := omega) only [db_lit, eq_self, db_pI_e, db_pL_e, db_bind_some, db_bd_some, nI_add, pk_mul, nI_toInt, db_m1_t, dz_cn, Int.ofNat_le, Int.ofNat_lt, decide_true, decide_false, db_ct, db_cf, not_true_eq_false, not_false_eq_true, db_87e, db_37e, db_31e, db_28e, db_281e, db_211e, db_27, db_269w, db_litL, pk_lT, db_iL, db_p0_e, db_p0_n, db_p0_j, db_sub1, nI_eq, if_true, if_false, Bool.false_eq_true, n2, (show ¬ 3 < 3 by omega)]
    · have h23 : s1.1 669 23 = nI 3 := by rw [(hS.1 669 23 (by unfold db_ec; omega) (by omega)).1]; exact n3
      unfold db_f376
      simp (disch := omega) only [db_lit, eq_self, db_pI_e, db_pL_e, db_bind_some, db_bd_some, nI_add, pk_mul, nI_toInt, db_m1_t, dz_cn, Int.ofNat_le, Int.ofNat_lt, decide_true, decide_false, db_ct, db_cf, not_true_eq_false, not_false_eq_true, db_87e, db_37e, db_31e, db_28e, db_281e, db_211e, db_27, db_269w, db_litL, pk_lT, db_iL, db_p0_e, db_p0_n, db_p0_j, db_sub1, nI_eq, if_true, if_false, Bool.false_eq_true, h23]
end DBMK
