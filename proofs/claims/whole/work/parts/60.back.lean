/-! BACK -/
section DBBK
variable {U : Nat} {s z : db_S} {c : db_C} {w : Nat → Int64} {a d m k : Nat}
/-- the class goes back to mark n -/
theorem dw_205 {n : Nat} (hn : n < 3) (h : s.1 4 15 = nI (n + 1)) (hb : s.1 (294 + 125 * n + 63) 0 = nI 0 ∨ s.1 (294 + 125 * n + 63) 0 = nI 1) : ∃ z, db_f205 s = some (nI n, db_uI z 4 0 (nI 0)) ∧ dw_cp (294 + 125 * n) 20 (db_uI s 4 15 (nI n)) z ∧ (∀ b, ¬ (20 ≤ b ∧ b < 145) → z.1 b = (db_uI s 4 15 (nI n)).1 b) ∧ ∀ b, b ≠ 76 → z.2 b = s.2 b := by
  have hd : (db_uI s 4 15 (nI n)).1 4 15 = nI n := db_uI_1
  rcases (by omega : n = 0 ∨ n = 1 ∨ n = 2) with rfl | rfl | rfl
  · obtain ⟨z2, e2, h2⟩ := dw_82_ok (a := 294) (d := 20) (s := db_uI s 4 15 (nI 0)) dw_pr_0 (.inr (by decide)) dw_Sh_294 dw_Sh_20
    obtain ⟨z4, e4, h4⟩ := dw_175_ok h2 (.inr (by decide)) dw_Sl_294 dw_Sl_20
    obtain ⟨z, e, hz⟩ := dw_97_ok h4 (.inr (by decide)) dw_Sl_294 dw_Sl_20 (by rw [h4.1 _ (by decide), db_uI_n (by decide)]; exact hb)
    have k2 : z2.1 4 15 = nI 0 := by rw [h2.1 4 (by decide)]; exact hd
    have k4 : z4.1 4 15 = nI 0 := by rw [h4.1 4 (by decide)]; exact hd
    have k6 : z.1 4 15 = nI 0 := by rw [hz.1 4 (by decide)]; exact hd
    refine ⟨z, ?_, dw_pr_cp hz, hz.1, hz.2.1⟩
    unfold db_f205
    simp (disch := omega) only [db_lit, eq_self, db_pI_e, db_pL_e, db_bind_some, db_bd_some, nI_add, pk_mul, nI_toInt, db_m1_t, dz_cn, Int.ofNat_le, Int.ofNat_lt, decide_true, decide_false, db_ct, db_cf, not_true_eq_false, not_false_eq_true, db_87e, db_37e, db_31e, db_28e, db_281e, db_211e, db_27, db_269w, db_litL, pk_lT, db_iL, db_p0_e, db_p0_n, db_p0_j, db_sub1, nI_eq, if_true, if_false, Bool.false_eq_true, h, pk_sub, Nat.add_sub_cancel, (show ((0 : Nat) : Int) < ((0 + 1 : Nat) : Int) by omega), (show 0 < 0 + 1 by omega), hd, dw_82_20_294, e2]
    unfold db_f205_b40
    simp (disch := omega) only [db_lit, eq_self, db_pI_e, db_pL_e, db_bind_some, db_bd_some, nI_add, pk_mul, nI_toInt, db_m1_t, dz_cn, Int.ofNat_le, Int.ofNat_lt, decide_true, decide_false, db_ct, db_cf, not_true_eq_false, not_false_eq_true, db_87e, db_37e, db_31e, db_28e, db_281e, db_211e, db_27, db_269w, db_litL, pk_lT, db_iL, db_p0_e, db_p0_n, db_p0_j, db_sub1, nI_eq, if_true, if_false, Bool.false_eq_true, k2, dw_175_80_354, e4]
    unfold db_f205_b56
    simp (disch := omega) only [db_lit, eq_self, db_pI_e, db_pL_e, db_bind_some, db_bd_some, nI_add, pk_mul, nI_toInt, db_m1_t, dz_cn, Int.ofNat_le, Int.ofNat_lt, decide_true, decide_false, db_ct, db_cf, not_true_eq_false, not_false_eq_true, db_87e, db_37e, db_31e, db_28e, db_281e, db_211e, db_27, db_269w, db_litL, pk_lT, db_iL, db_p0_e, db_p0_n, db_p0_j, db_sub1, nI_eq, if_true, if_false, Bool.false_eq_true, k4, dw_97_83_357, e]
    unfold db_f205_b72
    simp (disch := omega) only [db_lit, eq_self, db_pI_e, db_pL_e, db_bind_some, db_bd_some, nI_add, pk_mul, nI_toInt, db_m1_t, dz_cn, Int.ofNat_le, Int.ofNat_lt, decide_true, decide_false, db_ct, db_cf, not_true_eq_false, not_false_eq_true, db_87e, db_37e, db_31e, db_28e, db_281e, db_211e, db_27, db_269w, db_litL, pk_lT, db_iL, db_p0_e, db_p0_n, db_p0_j, db_sub1, nI_eq, if_true, if_false, Bool.false_eq_true, k6]
  · obtain ⟨z2, e2, h2⟩ := dw_82_ok (a := 419) (d := 20) (s := db_uI s 4 15 (nI 1)) dw_pr_0 (.inr (by decide)) dw_Sh_419 dw_Sh_20
    obtain ⟨z4, e4, h4⟩ := dw_175_ok h2 (.inr (by decide)) dw_Sl_419 dw_Sl_20
    obtain ⟨z, e, hz⟩ := dw_97_ok h4 (.inr (by decide)) dw_Sl_419 dw_Sl_20 (by rw [h4.1 _ (by decide), db_uI_n (by decide)]; exact hb)
    have k2 : z2.1 4 15 = nI 1 := by rw [h2.1 4 (by decide)]; exact hd
    have k4 : z4.1 4 15 = nI 1 := by rw [h4.1 4 (by decide)]; exact hd
    have k6 : z.1 4 15 = nI 1 := by rw [hz.1 4 (by decide)]; exact hd
    refine ⟨z, ?_, dw_pr_cp hz, hz.1, hz.2.1⟩
    unfold db_f205
    simp (disch := omega) only [db_lit, eq_self, db_pI_e, db_pL_e, db_bind_some, db_bd_some, nI_add, pk_mul, nI_toInt, db_m1_t, dz_cn, Int.ofNat_le, Int.ofNat_lt, decide_true, decide_false, db_ct, db_cf, not_true_eq_false, not_false_eq_true, db_87e, db_37e, db_31e, db_28e, db_281e, db_211e, db_27, db_269w, db_litL, pk_lT, db_iL, db_p0_e, db_p0_n, db_p0_j, db_sub1, nI_eq, if_true, if_false, Bool.false_eq_true, h, pk_sub, Nat.add_sub_cancel, (show ((0 : Nat) : Int) < ((1 + 1 : Nat) : Int) by omega), (show 0 < 1 + 1 by omega), hd, (show ¬ 1 = 0 by omega), dw_82_20_419, e2]
    unfold db_f205_b40
    simp (disch := omega) only [db_lit, eq_self, db_pI_e, db_pL_e, db_bind_some, db_bd_some, nI_add, pk_mul, nI_toInt, db_m1_t, dz_cn, Int.ofNat_le, Int.ofNat_lt, decide_true, decide_false, db_ct, db_cf, not_true_eq_false, not_false_eq_true, db_87e, db_37e, db_31e, db_28e, db_281e, db_211e, db_27, db_269w, db_litL, pk_lT, db_iL, db_p0_e, db_p0_n, db_p0_j, db_sub1, nI_eq, if_true, if_false, Bool.false_eq_true, (show ¬ 1 = 0 by omega), k2, dw_175_80_479, e4]
    unfold db_f205_b56
    simp (disch := omega) only [db_lit, eq_self, db_pI_e, db_pL_e, db_bind_some, db_bd_some, nI_add, pk_mul, nI_toInt, db_m1_t, dz_cn, Int.ofNat_le, Int.ofNat_lt, decide_true, decide_false, db_ct, db_cf, not_true_eq_false, not_false_eq_true, db_87e, db_37e, db_31e, db_28e, db_281e, db_211e, db_27, db_269w, db_litL, pk_lT, db_iL, db_p0_e, db_p0_n, db_p0_j, db_sub1, nI_eq, if_true, if_false, Bool.false_eq_true, (show ¬ 1 = 0 by omega), k4, dw_97_83_482, e]
    unfold db_f205_b72
    simp (disch := omega) only [db_lit, eq_self, db_pI_e, db_pL_e, db_bind_some, db_bd_some, nI_add, pk_mul, nI_toInt, db_m1_t, dz_cn, Int.ofNat_le, Int.ofNat_lt, decide_true, decide_false, db_ct, db_cf, not_true_eq_false, not_false_eq_true, db_87e, db_37e, db_31e, db_28e, db_281e, db_211e, db_27, db_269w, db_litL, pk_lT, db_iL, db_p0_e, db_p0_n, db_p0_j, db_sub1, nI_eq, if_true, if_false, Bool.false_eq_true, k6]
  · obtain ⟨z2, e2, h2⟩ := dw_82_ok (a := 544) (d := 20) (s := db_uI s 4 15 (nI 2)) dw_pr_0 (.inr (by decide)) dw_Sh_544 dw_Sh_20
    obtain ⟨z4, e4, h4⟩ := dw_175_ok h2 (.inr (by decide)) dw_Sl_544 dw_Sl_20
    obtain ⟨z, e, hz⟩ := dw_97_ok h4 (.inr (by decide)) dw_Sl_544 dw_Sl_20 (by rw [h4.1 _ (by decide), db_uI_n (by decide)]; exact hb)
    have k2 : z2.1 4 15 = nI 2 := by rw [h2.1 4 (by decide)]; exact hd
    have k4 : z4.1 4 15 = nI 2 := by rw [h4.1 4 (by decide)]; exact hd
    have k6 : z.1 4 15 = nI 2 := by rw [hz.1 4 (by decide)]; exact hd
    refine ⟨z, ?_, dw_pr_cp hz, hz.1, hz.2.1⟩
    unfold db_f205
    simp (disch := omega) only [db_lit, eq_self, db_pI_e, db_pL_e, db_bind_some, db_bd_some, nI_add, pk_mul, nI_toInt, db_m1_t, dz_cn, Int.ofNat_le, Int.ofNat_lt, decide_true, decide_false, db_ct, db_cf, not_true_eq_false, not_false_eq_true, db_87e, db_37e, db_31e, db_28e, db_281e, db_211e, db_27, db_269w, db_litL, pk_lT, db_iL, db_p0_e, db_p0_n, db_p0_j, db_sub1, nI_eq, if_true, if_false, Bool.false_eq_true, h, pk_sub, Nat.add_sub_cancel, (show ((0 : Nat) : Int) < ((2 + 1 : Nat) : Int) by omega), (show 0 < 2 + 1 by omega), hd, (show ¬ 2 = 0 by omega), (show ¬ 2 = 1 by omega), dw_82_20_544, e2]
    unfold db_f205_b40
    simp (disch := omega) only [db_lit, eq_self, db_pI_e, db_pL_e, db_bind_some, db_bd_some, nI_add, pk_mul, nI_toInt, db_m1_t, dz_cn, Int.ofNat_le, Int.ofNat_lt, decide_true, decide_false, db_ct, db_cf, not_true_eq_false, not_false_eq_true, db_87e, db_37e, db_31e, db_28e, db_281e, db_211e, db_27, db_269w, db_litL, pk_lT, db_iL, db_p0_e, db_p0_n, db_p0_j, db_sub1, nI_eq, if_true, if_false, Bool.false_eq_true, (show ¬ 2 = 0 by omega), (show ¬ 2 = 1 by omega), k2, dw_175_80_604, e4]
    unfold db_f205_b56
    simp (disch := omega) only [db_lit, eq_self, db_pI_e, db_pL_e, db_bind_some, db_bd_some, nI_add, pk_mul, nI_toInt, db_m1_t, dz_cn, Int.ofNat_le, Int.ofNat_lt, decide_true, decide_false, db_ct, db_cf, not_true_eq_false, not_false_eq_true, db_87e, db_37e, db_31e, db_28e, db_281e, db_211e, db_27, db_269w, db_litL, pk_lT, db_iL, db_p0_e, db_p0_n, db_p0_j, db_sub1, nI_eq, if_true, if_false, Bool.false_eq_true, (show ¬ 2 = 0 by omega), (show ¬ 2 = 1 by omega), k4, dw_97_83_607, e]
    unfold db_f205_b72
    simp (disch := omega) only [db_lit, eq_self, db_pI_e, db_pL_e, db_bind_some, db_bd_some, nI_add, pk_mul, nI_toInt, db_m1_t, dz_cn, Int.ofNat_le, Int.ofNat_lt, decide_true, decide_false, db_ct, db_cf, not_true_eq_false, not_false_eq_true, db_87e, db_37e, db_31e, db_28e, db_281e, db_211e, db_27, db_269w, db_litL, pk_lT, db_iL, db_p0_e, db_p0_n, db_p0_j, db_sub1, nI_eq, if_true, if_false, Bool.false_eq_true, k6]
theorem db_k55 (hI : db_Inv U s) : dz_G U s (fun s => db_f205 s) (fun s => db_f377 s) := by
  obtain ⟨n', n1, n2, n3, n4⟩ := hI.2.2.2.2.2.2.2.1
  have hcur := db_cur hI
  have hcase : n' = 0 ∨ ∃ n, n < 3 ∧ n' = n + 1 := by
    cases n' with
    | zero => exact .inl rfl
    | succ n => exact .inr ⟨n, by omega, rfl⟩
  rcases hcase with rfl | ⟨n, hn, rfl⟩
  · refine db_Gn 8 hI ?_ fun s1 hS hA => ?_
    · unfold db_f205
      simp (disch := omega) only [db_lit, eq_self, db_pI_e, db_pL_e, db_bind_some, db_bd_some, nI_add, pk_mul, nI_toInt, db_m1_t, dz_cn, Int.ofNat_le, Int.ofNat_lt, decide_true, decide_false, db_ct, db_cf, not_true_eq_false, not_false_eq_true, db_87e, db_37e, db_31e, db_28e, db_281e, db_211e, db_27, db_269w, db_litL, pk_lT, db_iL, db_p0_e, db_p0_n, db_p0_j, db_sub1, nI_eq, if_true, if_false, Bool.false_eq_true, n2, (show ¬ 0 < 0 by omega)]
    · have h23 : s1.1 669 23 = nI 0 := by rw [(hS.1 669 23 (by unfold db_ec; omega) (by omega)).1]; exact n3
      unfold db_f377
      simp (disch := omega) only [db_lit, eq_self, db_pI_e, db_pL_e, db_bind_some, db_bd_some, nI_add, pk_mul, nI_toInt, db_m1_t, dz_cn, Int.ofNat_le, Int.ofNat_lt, decide_true, decide_false, db_ct, db_cf, not_true_eq_false, not_false_eq_true, db_87e, db_37e, db_31e, db_28e, db_281e, db_211e, db_27, db_269w, db_litL, pk_lT, db_iL, db_p0_e, db_p0_n, db_p0_j, db_sub1, nI_eq, if_true, if_false, Bool.false_eq_true, h23]
  · have hmk := n4 n (by omega)
    have hb : s.1 (294 + 125 * n + 63) 0 = nI 0 ∨ s.1 (294 + 125 * n + 63) 0 = nI 1 := by
      have := hmk.2.2.1
      rw [this.1]; exact this.2
    obtain ⟨z, e, hC, z1, z2⟩ := dw_205 hn n2 hb
    obtain ⟨y, ey, y1, y2, y3, y4, y5, y6⟩ := db_275 (s := db_p0 (db_uI z 4 0 (nI 0))) (q1 := n + 1) (q2 := 0) (by omega) (by omega) (by omega)
    have w3 : (db_p0 (db_uI z 4 0 (nI 0))).1 674 = s.1 674 := by
      rw [db_p0_n (by decide), db_uI_n (by decide), z1 674 (by omega), db_uI_n (by decide)]
    have w4 : (db_p0 (db_uI z 4 0 (nI 0))).2 676 = s.2 676 := by
      rw [db_p0_2, db_uI_2, z2 676 (by omega)]
    rw [w3] at y3 y4
    rw [w4] at y5 y6
    have h23 : y.1 669 23 = nI (n + 1) := by
      rw [y1 669 (by decide), db_p0_j (by decide) (by decide), db_uI_n (by decide), z1 669 (by omega), db_uI_n (by decide)]; exact n3
    have w1 : ∀ b, b ≠ 674 → b ≠ 669 → b ≠ 4 → ¬ (20 ≤ b ∧ b < 145) → (db_uI y 669 23 (nI n)).1 b = s.1 b := fun b q1 q2 q3 q4 => by
      rw [db_uI_n q2, y1 b q1, db_p0_n q2, db_uI_n q3, z1 b q4, db_uI_n q3]
    have w2 : ∀ b, b ≠ 676 → b ≠ 76 → (db_uI y 669 23 (nI n)).2 b = s.2 b := fun b q1 q2 => by
      rw [db_uI_2, y2 b q1, db_p0_2, db_uI_2, z2 b q2]
    have w5 : (db_uI y 669 23 (nI n)).1 4 15 = nI n := by rw [db_uI_n (by decide), y1 4 (by decide), db_p0_n (by decide), db_uI_j (by decide), z1 4 (by omega), db_uI_1]
    have w6 : (db_uI y 669 23 (nI n)).1 4 0 = nI 0 := by rw [db_uI_n (by decide), y1 4 (by decide), db_p0_n (by decide), db_uI_1]
    have w8 : (db_uI y 669 23 (nI n)).1 669 0 = nI 0 := by rw [db_uI_j (by decide), y1 669 (by decide)]; exact db_p0_0
    have w9 : ∀ j, j ≠ 0 → j ≠ 1 → j ≠ 23 → (db_uI y 669 23 (nI n)).1 669 j = s.1 669 j := fun j q1 q2 q3 => by
      rw [db_uI_j q3, y1 669 (by decide), db_p0_j q1 q2, db_uI_n (by decide), z1 669 (by omega), db_uI_n (by decide)]
    have w10 : ∀ j, j ≠ 0 → j ≠ 15 → (db_uI y 669 23 (nI n)).1 4 j = s.1 4 j := fun j q1 q2 => by
      rw [db_uI_n (by decide), y1 4 (by decide), db_p0_n (by decide), db_uI_j q1, z1 4 (by omega), db_uI_j q2]
    have w11 : (db_uI y 669 23 (nI n)).1 674 = y.1 674 := db_uI_n (by decide)
    have w12 : (db_uI y 669 23 (nI n)).2 = y.2 := rfl
    refine ⟨nI n, _, db_uI y 669 23 (nI n), e, ?_, ?_⟩
    · show db_f377 (db_uI z 4 0 (nI 0)) = _
      have h23' : (db_uI z 4 0 (nI 0)).1 669 23 = nI (n + 1) := by rw [db_uI_n (by decide), z1 669 (by omega), db_uI_n (by decide)]; exact n3
      unfold db_f377
      simp (disch := omega) only [db_lit, eq_self, db_pI_e, db_pL_e, db_bind_some, db_bd_some, nI_add, pk_mul, nI_toInt, db_m1_t, dz_cn, Int.ofNat_le, Int.ofNat_lt, decide_true, decide_false, db_ct, db_cf, not_true_eq_false, not_false_eq_true, db_87e, db_37e, db_31e, db_28e, db_281e, db_211e, db_27, db_269w, db_litL, pk_lT, db_iL, db_p0_e, db_p0_n, db_p0_j, db_sub1, nI_eq, if_true, if_false, Bool.false_eq_true, h23', (show ¬ n + 1 = 0 by omega), ey, h23, pk_sub, Nat.add_sub_cancel, db_uI_1]
    · refine db_Inv_back hI (Nat.le_refl U) (fun b j he hne => ⟨?_, ?_⟩) (by rw [w6, w8]) ?_ ⟨n, by omega, w5, db_uI_1, fun q hq => ?_⟩
      · by_cases b9 : b = 669
        · subst b9
          exact w9 j (by omega) (by rintro rfl; unfold db_es db_em at he; omega) (by omega)
        · by_cases b4 : b = 4
          · subst b4
            exact w10 j (by omega) (by omega)
          · by_cases b7 : b = 674
            · subst b7
              omega
            · exact congrFun (w1 b b7 b9 b4 (by omega)) j
      · by_cases b7 : b = 676
        · subst b7
          omega
        · exact congrFun (w2 b b7 (by omega)) j
      · rw [dw_bk (z := db_uI y 669 23 (nI n)) (q1 := n + 1) (q2 := 0) (s := s) (fun j hj => by rw [w11]; exact y3 j hj), dw_bw (z := db_uI y 669 23 (nI n)) (q1 := n + 1) (q2 := 0) (s := s) (fun j hj => by rw [w12]; exact y5 j hj)]
        refine dw_B1 (a := 294 + 125 * n) (s := s) (dw_cp_e hC (fun b q1 q2 => ?_) rfl (fun b q1 q2 => ?_) ?_) hmk
        · rw [db_uI_n (by omega)]
        · rw [db_uI_n (by omega), y1 b (by omega), db_p0_n (by omega), db_uI_n (by omega)]
        · rw [db_uI_2, y2 _ (by omega), db_p0_2, db_uI_2]
      · rw [dw_bk (z := db_uI y 669 23 (nI n)) (q1 := q + 1) (q2 := q + 1) (s := s) (fun j hj => by rw [w11]; exact y4 _ (by omega)), dw_bw (z := db_uI y 669 23 (nI n)) (q1 := q + 1) (q2 := q + 1) (s := s) (fun j hj => by rw [w12]; exact y6 _ (by omega))]
        exact db_B1_c (fun b q1 q2 q3 => w1 b (by omega) (by omega) (by omega) (by omega)) (w2 _ (by omega) (by omega)) (n4 q (by omega))
end DBBK
