/-! THE PARTS, one behind another -/
section DVPA
variable {a b a0 b0 a1 b1 z : db_S} {x : Nat → Int32} {n i k : Nat} {v u : Int32} {c : db_C} {w : Nat → Int64}
theorem dv_59 {s : db_S} {q : Nat} (hq : q < 6) : db_f59 s (nI q) = some (nI (dv_mx q)) := by
  rcases (by omega : q = 0 ∨ q = 1 ∨ q = 2 ∨ q = 3 ∨ q = 4 ∨ q = 5) with rfl | rfl | rfl | rfl | rfl | rfl <;> rfl
theorem dv_DR_c (h : dv_DR a c w) (h1 : ∀ p, 146 ≤ p → p ≤ 204 → a1.1 p = a.1 p) (h2 : a1.2 202 = a.2 202) : dv_DR a1 c w := by
  obtain ⟨d0, d1, d2, d3, d4, d5, d6, d7, d8⟩ := h
  have j3 := d0.2.2.2.1.2
  have j4 := d0.2.2.2.2.1.2
  have j5 := d0.2.2.2.2.2.2
  unfold dv_DR dv_Nm
  rw [h1 147 (by omega) (by omega), h1 148 (by omega) (by omega), h1 149 (by omega) (by omega), h1 185 (by omega) (by omega), h1 186 (by omega) (by omega), h1 187 (by omega) (by omega), h1 146 (by omega) (by omega), h1 203 (by omega) (by omega), h1 204 (by omega) (by omega), h2]
  refine ⟨d0, d1, d2, d3, fun r hr => ?_, fun r hr => ?_, fun r hr => ?_, d7, d8⟩
  · rw [h1 (151 + r) (by omega) (by omega)]; exact d4 r hr
  · rw [h1 (164 + r) (by omega) (by omega)]; exact d5 r hr
  · rw [h1 (177 + r) (by omega) (by omega)]; exact d6 r hr
/-- a part: some may be no more -/
theorem dv_56o {q : Nat} {r : Bool} (hq : q < 6) (hC : dv_CT x n i a) (hw : dv_w x n i = nI q) (hc : a.1 147 q = nI k) (hk : k < 2 ^ 31) (hkm : ¬ k < dv_mx q) : db_f56 a = some (false, dv_fa x n i 6 a) := by
  have h12 := dv_mx_12 q
  have h57 := dv_57 hC
  rw [hw] at h57
  have hwi : db_wi (nI q) ((0 : Nat) : Int) ((5 : Nat) : Int) = true := by rw [dv_wi_n (by omega), decide_eq_true (by omega), decide_eq_true (by omega)]; rfl
  unfold db_f56
  simp (disch := omega) only [db_lit, eq_self, db_pI_e, db_pL_e, db_bind_some, db_bd_some, nI_add, pk_mul, nI_toInt, db_m1_t, dz_cn, Int.ofNat_le, Int.ofNat_lt, decide_true, decide_false, db_ct, db_cf, not_true_eq_false, not_false_eq_true, db_87e, db_37e, db_31e, db_28e, db_281e, db_211e, db_27, db_269w, db_litL, pk_lT, db_iL, db_p0_e, db_p0_n, db_p0_j, db_sub1, nI_eq, if_true, if_false, Bool.false_eq_true, Nat.one_ne_zero, h57, hwi, db_g_147, hc, dv_59 hq, hkm, dv_58 hC 6]
theorem dv_56w (hC : dv_CT x n i a) (hw : ∀ q, q < 6 → ¬ dv_w x n i = nI q) : db_f56 a = some (false, dv_fa x n i 2 a) := by
  have h57 := dv_57 hC
  have hwi : db_wi (dv_w x n i) ((0 : Nat) : Int) ((5 : Nat) : Int) = false := by
    rcases dv_w_O (x := x) (n := n) (i := i) with h | ⟨q, q1, q2⟩
    · rw [h]
      decide
    · rw [q2, dv_wi_n (by omega)]
      by_cases e : q ≤ 5
      · exact absurd q2 (hw q (by omega))
      · rw [decide_eq_false e, Bool.and_false]
  unfold db_f56
  simp (disch := omega) only [db_lit, eq_self, db_pI_e, db_pL_e, db_bind_some, db_bd_some, nI_add, pk_mul, nI_toInt, db_m1_t, dz_cn, Int.ofNat_le, Int.ofNat_lt, decide_true, decide_false, db_ct, db_cf, not_true_eq_false, not_false_eq_true, db_87e, db_37e, db_31e, db_28e, db_281e, db_211e, db_27, db_269w, db_litL, pk_lT, db_iL, db_p0_e, db_p0_n, db_p0_j, db_sub1, nI_eq, if_true, if_false, Bool.false_eq_true, Nat.one_ne_zero, h57, hwi, dv_58 hC 2]
/-- the reference has no room for one more -/
theorem dv_232o {q g : Nat} (hq : q < 6) (h4 : q ≠ 4) (hg : q = if g = 4 then 5 else g) (hg4 : g ≤ 4) (hR : dv_RT x n i b) (hkd : dv_kd x n i = 1) (h0 : b.1 669 12 = nI 0) (hc : db_bk b 4 q = nI (dv_mx q)) : db_f232 b (nI g) (nI (dv_mx q)) = some (nI 0, dv_fb x n i 6 b) := by
  have e6 := dv_234i hR h0 (f := 6) (by omega)
  obtain ⟨f, f1, f2, f3⟩ := dv_fb_B (x := x) (n := n) (i := i) (b := b) (f := 6) (by omega) (by omega)
  unfold db_f232 db_f232_b22
  rw [show (4 : Int32) = nI 4 from rfl, dv_233_4 hq hg hg4, hc, db_bind_some]
  simp (disch := omega) only [db_lit, eq_self, db_pI_e, db_pL_e, db_bind_some, db_bd_some, nI_add, pk_mul, nI_toInt, db_m1_t, dz_cn, Int.ofNat_le, Int.ofNat_lt, decide_true, decide_false, db_ct, db_cf, not_true_eq_false, not_false_eq_true, db_87e, db_37e, db_31e, db_28e, db_281e, db_211e, db_27, db_269w, db_litL, pk_lT, db_iL, db_p0_e, db_p0_n, db_p0_j, db_sub1, nI_eq, if_true, if_false, Bool.false_eq_true, Nat.one_ne_zero, e6, f3, (show ¬ f ≤ 0 by omega)]
theorem dv_231o (hR : dv_RT x n i b) (hkd : dv_kd x n i = 1) (h0 : b.1 669 12 = nI 0) (hc : db_bk b 4 0 = nI 10) : ∃ z, db_f231 b = some z ∧ dv_Bq (dv_fb x n i 6 b) z := by
  have hB := dv_fb_B (x := x) (n := n) (i := i) (b := b) (f := 6) (by omega) (by omega)
  have e2 : db_f232 b (nI 0) (nI 10) = some (nI 0, dv_fb x n i 6 b) := dv_232o (q := 0) (g := 0) (by omega) (by omega) rfl (by omega) hR hkd h0 hc
  refine ⟨_, ?_, dv_Bq_r⟩
  obtain ⟨f, f1, f2, f3⟩ := hB
  unfold db_f231
  simp (disch := omega) only [db_lit, eq_self, db_pI_e, db_pL_e, db_bind_some, db_bd_some, nI_add, pk_mul, nI_toInt, db_m1_t, dz_cn, Int.ofNat_le, Int.ofNat_lt, decide_true, decide_false, db_ct, db_cf, not_true_eq_false, not_false_eq_true, db_87e, db_37e, db_31e, db_28e, db_281e, db_211e, db_27, db_269w, db_litL, pk_lT, db_iL, db_p0_e, db_p0_n, db_p0_j, db_sub1, nI_eq, if_true, if_false, Bool.false_eq_true, Nat.one_ne_zero, e2, f3, (show ¬ f = 0 by omega)]
theorem dv_261o (hR : dv_RT x n i b) (hkd : dv_kd x n i = 1) (h0 : b.1 669 12 = nI 0) (hc : db_bk b 4 1 = nI 4) : ∃ z, db_f261 b = some z ∧ dv_Bq (dv_fb x n i 6 b) z := by
  have hB := dv_fb_B (x := x) (n := n) (i := i) (b := b) (f := 6) (by omega) (by omega)
  have e2 : db_f232 b (nI 1) (nI 4) = some (nI 0, dv_fb x n i 6 b) := dv_232o (q := 1) (g := 1) (by omega) (by omega) rfl (by omega) hR hkd h0 hc
  refine ⟨_, ?_, dv_Bq_r⟩
  obtain ⟨f, f1, f2, f3⟩ := hB
  unfold db_f261
  simp (disch := omega) only [db_lit, eq_self, db_pI_e, db_pL_e, db_bind_some, db_bd_some, nI_add, pk_mul, nI_toInt, db_m1_t, dz_cn, Int.ofNat_le, Int.ofNat_lt, decide_true, decide_false, db_ct, db_cf, not_true_eq_false, not_false_eq_true, db_87e, db_37e, db_31e, db_28e, db_281e, db_211e, db_27, db_269w, db_litL, pk_lT, db_iL, db_p0_e, db_p0_n, db_p0_j, db_sub1, nI_eq, if_true, if_false, Bool.false_eq_true, Nat.one_ne_zero, e2, f3, (show ¬ f ≤ 0 by omega)]
theorem dv_262o (hR : dv_RT x n i b) (hkd : dv_kd x n i = 1) (h0 : b.1 669 12 = nI 0) (hc : db_bk b 4 2 = nI 3) : ∃ z, db_f262 b = some z ∧ dv_Bq (dv_fb x n i 6 b) z := by
  have hB := dv_fb_B (x := x) (n := n) (i := i) (b := b) (f := 6) (by omega) (by omega)
  have e2 : db_f232 b (nI 2) (nI 3) = some (nI 0, dv_fb x n i 6 b) := dv_232o (q := 2) (g := 2) (by omega) (by omega) rfl (by omega) hR hkd h0 hc
  refine ⟨_, ?_, dv_Bq_r⟩
  obtain ⟨f, f1, f2, f3⟩ := hB
  unfold db_f262
  simp (disch := omega) only [db_lit, eq_self, db_pI_e, db_pL_e, db_bind_some, db_bd_some, nI_add, pk_mul, nI_toInt, db_m1_t, dz_cn, Int.ofNat_le, Int.ofNat_lt, decide_true, decide_false, db_ct, db_cf, not_true_eq_false, not_false_eq_true, db_87e, db_37e, db_31e, db_28e, db_281e, db_211e, db_27, db_269w, db_litL, pk_lT, db_iL, db_p0_e, db_p0_n, db_p0_j, db_sub1, nI_eq, if_true, if_false, Bool.false_eq_true, Nat.one_ne_zero, e2, f3, (show ¬ f ≤ 0 by omega)]
theorem dv_263o (hR : dv_RT x n i b) (hkd : dv_kd x n i = 1) (h0 : b.1 669 12 = nI 0) (hc : db_bk b 4 3 = nI 12) : ∃ z, db_f263 b = some z ∧ dv_Bq (dv_fb x n i 6 b) z := by
  have hB := dv_fb_B (x := x) (n := n) (i := i) (b := b) (f := 6) (by omega) (by omega)
  have e2 : db_f232 b (nI 3) (nI 12) = some (nI 0, dv_fb x n i 6 b) := dv_232o (q := 3) (g := 3) (by omega) (by omega) rfl (by omega) hR hkd h0 hc
  obtain ⟨z, ez, hz⟩ := dv_r1b (k := 0) (by omega) hB
  refine ⟨z, ?_, hz⟩
  rw [dv_263e]
  simp (disch := omega) only [db_lit, eq_self, db_pI_e, db_pL_e, db_bind_some, db_bd_some, nI_add, pk_mul, nI_toInt, db_m1_t, dz_cn, Int.ofNat_le, Int.ofNat_lt, decide_true, decide_false, db_ct, db_cf, not_true_eq_false, not_false_eq_true, db_87e, db_37e, db_31e, db_28e, db_281e, db_211e, db_27, db_269w, db_litL, pk_lT, db_iL, db_p0_e, db_p0_n, db_p0_j, db_sub1, nI_eq, if_true, if_false, Bool.false_eq_true, Nat.one_ne_zero, e2, ez]
theorem dv_271o (hR : dv_RT x n i b) (hkd : dv_kd x n i = 1) (h0 : b.1 669 12 = nI 0) (hc : db_bk b 4 4 = nI 12) : ∃ z, db_f271 b = some z ∧ dv_Bq (dv_fb x n i 6 b) z := by
  have e6 := dv_234i hR h0 (f := 6) (by omega)
  obtain ⟨f, f1, f2, f3⟩ := dv_fb_B (x := x) (n := n) (i := i) (b := b) (f := 6) (by omega) (by omega)
  have e1924 : b.1 674 1924 = nI 12 := by rw [show (1924 : Nat) = 1920 + 4 from rfl, dv_bk_4 (by omega)]; exact hc
  refine ⟨_, ?_, dv_Bq_r⟩
  unfold db_f271 db_f271_b25
  simp (disch := omega) only [db_lit, eq_self, db_pI_e, db_pL_e, db_bind_some, db_bd_some, nI_add, pk_mul, nI_toInt, db_m1_t, dz_cn, Int.ofNat_le, Int.ofNat_lt, decide_true, decide_false, db_ct, db_cf, not_true_eq_false, not_false_eq_true, db_87e, db_37e, db_31e, db_28e, db_281e, db_211e, db_27, db_269w, db_litL, pk_lT, db_iL, db_p0_e, db_p0_n, db_p0_j, db_sub1, nI_eq, if_true, if_false, Bool.false_eq_true, Nat.one_ne_zero, db_g_674, e1924, e6, f3, (show ¬ f ≤ 0 by omega)]
theorem dv_272o (hR : dv_RT x n i b) (hkd : dv_kd x n i = 1) (h0 : b.1 669 12 = nI 0) (hc : db_bk b 4 5 = nI 8) : ∃ z, db_f272 b = some z ∧ dv_Bq (dv_fb x n i 6 b) z := by
  have hB := dv_fb_B (x := x) (n := n) (i := i) (b := b) (f := 6) (by omega) (by omega)
  have e2 : db_f232 b (nI 4) (nI 8) = some (nI 0, dv_fb x n i 6 b) := dv_232o (q := 5) (g := 4) (by omega) (by omega) rfl (by omega) hR hkd h0 hc
  refine ⟨_, ?_, dv_Bq_r⟩
  unfold db_f272
  simp (disch := omega) only [db_lit, eq_self, db_pI_e, db_pL_e, db_bind_some, db_bd_some, nI_add, pk_mul, nI_toInt, db_m1_t, dz_cn, Int.ofNat_le, Int.ofNat_lt, decide_true, decide_false, db_ct, db_cf, not_true_eq_false, not_false_eq_true, db_87e, db_37e, db_31e, db_28e, db_281e, db_211e, db_27, db_269w, db_litL, pk_lT, db_iL, db_p0_e, db_p0_n, db_p0_j, db_sub1, nI_eq, if_true, if_false, Bool.false_eq_true, Nat.one_ne_zero, e2]
  exact dv_12b (k := 0) hB
theorem dv_q0 (hC : dv_CT x n i a) (hR : dv_RT x n i b) (h0 : b.1 669 12 = nI 0) (hD : dv_DR a (db_bk b 4) (db_bw b 4)) (hw : dv_w x n i = nI 0) : dv_Pd x n i a b (db_f56 a) (db_f231 b) := by
  have hkd := dv_w_kd (by decide) hw
  have hK := dv_K_mx hD (show 0 < 6 by omega)
  have hk' := hK.1
  have hkl : db_n (db_bk b 4) 0 ≤ 10 := hK.2
  have hca : a.1 147 0 = nI (db_n (db_bk b 4) 0) := by rw [hD.2.1 0 (by omega)]; exact hk'
  by_cases hkm : db_n (db_bk b 4) 0 < 10
  · have hC1 := dv_CT_s hC (show ¬ dv_kd x n i = 0 by omega)
    have hD1 : dv_DR (db_uI a 13 9 (nI (i + 1))) (db_bk b 4) (db_bw b 4) := dv_DR_c hD (fun p _ _ => db_uI_n (by omega)) rfl
    have h57 := dv_57 hC
    rw [hw] at h57
    have hwi : db_wi (nI 0) ((0 : Nat) : Int) ((5 : Nat) : Int) = true := by decide
    have hmx : dv_mx 0 = 10 := rfl
    have h59 := dv_59 (s := a) (q := 0) (by omega)
    rw [hmx] at h59
    have hP : dv_Pd x n i (db_uI a 13 9 (nI (i + 1))) b (db_f61_146 (db_uI a 13 9 (nI (i + 1))) (nI 0)) (db_f231 b) := .inl (dv_pThing hC1 hR h0 hD1 hk' hkm)
    have e56 : db_f56 a = db_f61_146 (db_uI a 13 9 (nI (i + 1))) (nI 0) := by
      unfold db_f56
      simp (disch := omega) only [db_lit, eq_self, db_pI_e, db_pL_e, db_bind_some, db_bd_some, nI_add, pk_mul, nI_toInt, db_m1_t, dz_cn, Int.ofNat_le, Int.ofNat_lt, decide_true, decide_false, db_ct, db_cf, not_true_eq_false, not_false_eq_true, db_87e, db_37e, db_31e, db_28e, db_281e, db_211e, db_27, db_269w, db_litL, pk_lT, db_iL, db_p0_e, db_p0_n, db_p0_j, db_sub1, nI_eq, if_true, if_false, Bool.false_eq_true, Nat.one_ne_zero, h57, hwi, db_g_147, hca, h59, hkm, dv_60 hC (show ¬ dv_kd x n i = 0 by omega), (show ¬ 0 = 1 by omega), (show ¬ 0 = 2 by omega), (show ¬ 0 = 3 by omega), (show ¬ 0 = 4 by omega)]
      rcases hP with ⟨r, a2, b2, e, -⟩ | ⟨a2, b2, e, -⟩
      · simp (disch := omega) only [db_lit, eq_self, db_pI_e, db_pL_e, db_bind_some, db_bd_some, nI_add, pk_mul, nI_toInt, db_m1_t, dz_cn, Int.ofNat_le, Int.ofNat_lt, decide_true, decide_false, db_ct, db_cf, not_true_eq_false, not_false_eq_true, db_87e, db_37e, db_31e, db_28e, db_281e, db_211e, db_27, db_269w, db_litL, pk_lT, db_iL, db_p0_e, db_p0_n, db_p0_j, db_sub1, nI_eq, if_true, if_false, Bool.false_eq_true, Nat.one_ne_zero, e]
      · simp (disch := omega) only [db_lit, eq_self, db_pI_e, db_pL_e, db_bind_some, db_bd_some, nI_add, pk_mul, nI_toInt, db_m1_t, dz_cn, Int.ofNat_le, Int.ofNat_lt, decide_true, decide_false, db_ct, db_cf, not_true_eq_false, not_false_eq_true, db_87e, db_37e, db_31e, db_28e, db_281e, db_211e, db_27, db_269w, db_litL, pk_lT, db_iL, db_p0_e, db_p0_n, db_p0_j, db_sub1, nI_eq, if_true, if_false, Bool.false_eq_true, Nat.one_ne_zero, e]
    rw [e56]
    have hF : dv_Fa a (db_uI a 13 9 (nI (i + 1))) := dv_Fa_u dv_Fa_r (.inr (by omega))
    rcases hP with ⟨r, a2, b2, e1, e2, hh⟩ | ⟨a2, b2, e1, e2, w1, w2, w3⟩
    · refine .inl ⟨r, a2, b2, e1, e2, ?_⟩
      rcases hh with ⟨g1, g2, g3, g4, g5, g6⟩ | ⟨g1, g2, g3, g4⟩
      · exact .inl ⟨g1, g2, g3, g4, dv_Fa_t hF g5, g6⟩
      · exact .inr ⟨g1, g2, dv_Fa_t hF g3, g4⟩
    · exact .inr ⟨a2, b2, e1, e2, w1, dv_Fa_t hF w2, w3⟩
  · obtain ⟨z, ez, hz⟩ := dv_231o hR hkd h0 (by rw [hk', show db_n (db_bk b 4) 0 = 10 by omega])
    refine .inl ⟨false, _, z, dv_56o (q := 0) (r := true) (by omega) hC hw hca (by omega) (by show ¬ db_n (db_bk b 4) 0 < 10; omega), ez, .inr ⟨rfl, dv_Fl_q (dv_Fl_f (by omega) (by omega)) hz, dv_Fa_fa dv_Fa_r, dv_Fb_t (dv_Fb_fb dv_Fb_r) hz.1⟩⟩
theorem dv_q1 (hC : dv_CT x n i a) (hR : dv_RT x n i b) (h0 : b.1 669 12 = nI 0) (hD : dv_DR a (db_bk b 4) (db_bw b 4)) (hw : dv_w x n i = nI 1) : dv_Pd x n i a b (db_f56 a) (db_f261 b) := by
  have hkd := dv_w_kd (by decide) hw
  have hK := dv_K_mx hD (show 1 < 6 by omega)
  have hk' := hK.1
  have hkl : db_n (db_bk b 4) 1 ≤ 4 := hK.2
  have hca : a.1 147 1 = nI (db_n (db_bk b 4) 1) := by rw [hD.2.1 1 (by omega)]; exact hk'
  by_cases hkm : db_n (db_bk b 4) 1 < 4
  · have hC1 := dv_CT_s hC (show ¬ dv_kd x n i = 0 by omega)
    have hD1 : dv_DR (db_uI a 13 9 (nI (i + 1))) (db_bk b 4) (db_bw b 4) := dv_DR_c hD (fun p _ _ => db_uI_n (by omega)) rfl
    have h57 := dv_57 hC
    rw [hw] at h57
    have hwi : db_wi (nI 1) ((0 : Nat) : Int) ((5 : Nat) : Int) = true := by decide
    have hmx : dv_mx 1 = 4 := rfl
    have h59 := dv_59 (s := a) (q := 1) (by omega)
    rw [hmx] at h59
    have hP : dv_Pd x n i (db_uI a 13 9 (nI (i + 1))) b (db_f65 (db_uI a 13 9 (nI (i + 1))) (nI 1) 148 (nI 6)) (db_f261 b) := .inl (dv_pPerson hC1 hR h0 hD1 hk' hkm)
    have e56 : db_f56 a = db_f65 (db_uI a 13 9 (nI (i + 1))) (nI 1) 148 (nI 6) := by
      unfold db_f56
      simp (disch := omega) only [db_lit, eq_self, db_pI_e, db_pL_e, db_bind_some, db_bd_some, nI_add, pk_mul, nI_toInt, db_m1_t, dz_cn, Int.ofNat_le, Int.ofNat_lt, decide_true, decide_false, db_ct, db_cf, not_true_eq_false, not_false_eq_true, db_87e, db_37e, db_31e, db_28e, db_281e, db_211e, db_27, db_269w, db_litL, pk_lT, db_iL, db_p0_e, db_p0_n, db_p0_j, db_sub1, nI_eq, if_true, if_false, Bool.false_eq_true, Nat.one_ne_zero, h57, hwi, db_g_147, hca, h59, hkm, dv_60 hC (show ¬ dv_kd x n i = 0 by omega), (show ¬ 1 = 0 by omega), (show ¬ 1 = 2 by omega), (show ¬ 1 = 3 by omega), (show ¬ 1 = 4 by omega)]
      rcases hP with ⟨r, a2, b2, e, -⟩ | ⟨a2, b2, e, -⟩
      · simp (disch := omega) only [db_lit, eq_self, db_pI_e, db_pL_e, db_bind_some, db_bd_some, nI_add, pk_mul, nI_toInt, db_m1_t, dz_cn, Int.ofNat_le, Int.ofNat_lt, decide_true, decide_false, db_ct, db_cf, not_true_eq_false, not_false_eq_true, db_87e, db_37e, db_31e, db_28e, db_281e, db_211e, db_27, db_269w, db_litL, pk_lT, db_iL, db_p0_e, db_p0_n, db_p0_j, db_sub1, nI_eq, if_true, if_false, Bool.false_eq_true, Nat.one_ne_zero, e]
      · simp (disch := omega) only [db_lit, eq_self, db_pI_e, db_pL_e, db_bind_some, db_bd_some, nI_add, pk_mul, nI_toInt, db_m1_t, dz_cn, Int.ofNat_le, Int.ofNat_lt, decide_true, decide_false, db_ct, db_cf, not_true_eq_false, not_false_eq_true, db_87e, db_37e, db_31e, db_28e, db_281e, db_211e, db_27, db_269w, db_litL, pk_lT, db_iL, db_p0_e, db_p0_n, db_p0_j, db_sub1, nI_eq, if_true, if_false, Bool.false_eq_true, Nat.one_ne_zero, e]
    rw [e56]
    have hF : dv_Fa a (db_uI a 13 9 (nI (i + 1))) := dv_Fa_u dv_Fa_r (.inr (by omega))
    rcases hP with ⟨r, a2, b2, e1, e2, hh⟩ | ⟨a2, b2, e1, e2, w1, w2, w3⟩
    · refine .inl ⟨r, a2, b2, e1, e2, ?_⟩
      rcases hh with ⟨g1, g2, g3, g4, g5, g6⟩ | ⟨g1, g2, g3, g4⟩
      · exact .inl ⟨g1, g2, g3, g4, dv_Fa_t hF g5, g6⟩
      · exact .inr ⟨g1, g2, dv_Fa_t hF g3, g4⟩
    · exact .inr ⟨a2, b2, e1, e2, w1, dv_Fa_t hF w2, w3⟩
  · obtain ⟨z, ez, hz⟩ := dv_261o hR hkd h0 (by rw [hk', show db_n (db_bk b 4) 1 = 4 by omega])
    refine .inl ⟨false, _, z, dv_56o (q := 1) (r := true) (by omega) hC hw hca (by omega) (by show ¬ db_n (db_bk b 4) 1 < 4; omega), ez, .inr ⟨rfl, dv_Fl_q (dv_Fl_f (by omega) (by omega)) hz, dv_Fa_fa dv_Fa_r, dv_Fb_t (dv_Fb_fb dv_Fb_r) hz.1⟩⟩
theorem dv_q2 (hC : dv_CT x n i a) (hR : dv_RT x n i b) (h0 : b.1 669 12 = nI 0) (hD : dv_DR a (db_bk b 4) (db_bw b 4)) (hw : dv_w x n i = nI 2) : dv_Pd x n i a b (db_f56 a) (db_f262 b) := by
  have hkd := dv_w_kd (by decide) hw
  have hK := dv_K_mx hD (show 2 < 6 by omega)
  have hk' := hK.1
  have hkl : db_n (db_bk b 4) 2 ≤ 3 := hK.2
  have hca : a.1 147 2 = nI (db_n (db_bk b 4) 2) := by rw [hD.2.1 2 (by omega)]; exact hk'
  by_cases hkm : db_n (db_bk b 4) 2 < 3
  · have hC1 := dv_CT_s hC (show ¬ dv_kd x n i = 0 by omega)
    have hD1 : dv_DR (db_uI a 13 9 (nI (i + 1))) (db_bk b 4) (db_bw b 4) := dv_DR_c hD (fun p _ _ => db_uI_n (by omega)) rfl
    have h57 := dv_57 hC
    rw [hw] at h57
    have hwi : db_wi (nI 2) ((0 : Nat) : Int) ((5 : Nat) : Int) = true := by decide
    have hmx : dv_mx 2 = 3 := rfl
    have h59 := dv_59 (s := a) (q := 2) (by omega)
    rw [hmx] at h59
    have hP : dv_Pd x n i (db_uI a 13 9 (nI (i + 1))) b (db_f65 (db_uI a 13 9 (nI (i + 1))) (nI 2) 149 (nI 7)) (db_f262 b) := .inl (dv_pSeason hC1 hR h0 hD1 hk' hkm)
    have e56 : db_f56 a = db_f65 (db_uI a 13 9 (nI (i + 1))) (nI 2) 149 (nI 7) := by
      unfold db_f56
      simp (disch := omega) only [db_lit, eq_self, db_pI_e, db_pL_e, db_bind_some, db_bd_some, nI_add, pk_mul, nI_toInt, db_m1_t, dz_cn, Int.ofNat_le, Int.ofNat_lt, decide_true, decide_false, db_ct, db_cf, not_true_eq_false, not_false_eq_true, db_87e, db_37e, db_31e, db_28e, db_281e, db_211e, db_27, db_269w, db_litL, pk_lT, db_iL, db_p0_e, db_p0_n, db_p0_j, db_sub1, nI_eq, if_true, if_false, Bool.false_eq_true, Nat.one_ne_zero, h57, hwi, db_g_147, hca, h59, hkm, dv_60 hC (show ¬ dv_kd x n i = 0 by omega), (show ¬ 2 = 0 by omega), (show ¬ 2 = 1 by omega), (show ¬ 2 = 3 by omega), (show ¬ 2 = 4 by omega)]
      rcases hP with ⟨r, a2, b2, e, -⟩ | ⟨a2, b2, e, -⟩
      · simp (disch := omega) only [db_lit, eq_self, db_pI_e, db_pL_e, db_bind_some, db_bd_some, nI_add, pk_mul, nI_toInt, db_m1_t, dz_cn, Int.ofNat_le, Int.ofNat_lt, decide_true, decide_false, db_ct, db_cf, not_true_eq_false, not_false_eq_true, db_87e, db_37e, db_31e, db_28e, db_281e, db_211e, db_27, db_269w, db_litL, pk_lT, db_iL, db_p0_e, db_p0_n, db_p0_j, db_sub1, nI_eq, if_true, if_false, Bool.false_eq_true, Nat.one_ne_zero, e]
      · simp (disch := omega) only [db_lit, eq_self, db_pI_e, db_pL_e, db_bind_some, db_bd_some, nI_add, pk_mul, nI_toInt, db_m1_t, dz_cn, Int.ofNat_le, Int.ofNat_lt, decide_true, decide_false, db_ct, db_cf, not_true_eq_false, not_false_eq_true, db_87e, db_37e, db_31e, db_28e, db_281e, db_211e, db_27, db_269w, db_litL, pk_lT, db_iL, db_p0_e, db_p0_n, db_p0_j, db_sub1, nI_eq, if_true, if_false, Bool.false_eq_true, Nat.one_ne_zero, e]
    rw [e56]
    have hF : dv_Fa a (db_uI a 13 9 (nI (i + 1))) := dv_Fa_u dv_Fa_r (.inr (by omega))
    rcases hP with ⟨r, a2, b2, e1, e2, hh⟩ | ⟨a2, b2, e1, e2, w1, w2, w3⟩
    · refine .inl ⟨r, a2, b2, e1, e2, ?_⟩
      rcases hh with ⟨g1, g2, g3, g4, g5, g6⟩ | ⟨g1, g2, g3, g4⟩
      · exact .inl ⟨g1, g2, g3, g4, dv_Fa_t hF g5, g6⟩
      · exact .inr ⟨g1, g2, dv_Fa_t hF g3, g4⟩
    · exact .inr ⟨a2, b2, e1, e2, w1, dv_Fa_t hF w2, w3⟩
  · obtain ⟨z, ez, hz⟩ := dv_262o hR hkd h0 (by rw [hk', show db_n (db_bk b 4) 2 = 3 by omega])
    refine .inl ⟨false, _, z, dv_56o (q := 2) (r := true) (by omega) hC hw hca (by omega) (by show ¬ db_n (db_bk b 4) 2 < 3; omega), ez, .inr ⟨rfl, dv_Fl_q (dv_Fl_f (by omega) (by omega)) hz, dv_Fa_fa dv_Fa_r, dv_Fb_t (dv_Fb_fb dv_Fb_r) hz.1⟩⟩
theorem dv_q3 (hC : dv_CT x n i a) (hR : dv_RT x n i b) (h0 : b.1 669 12 = nI 0) (hD : dv_DR a (db_bk b 4) (db_bw b 4)) (hw : dv_w x n i = nI 3) : dv_Pd x n i a b (db_f56 a) (db_f263 b) := by
  have hkd := dv_w_kd (by decide) hw
  have hK := dv_K_mx hD (show 3 < 6 by omega)
  have hk' := hK.1
  have hkl : db_n (db_bk b 4) 3 ≤ 12 := hK.2
  have hca : a.1 147 3 = nI (db_n (db_bk b 4) 3) := by rw [hD.2.1 3 (by omega)]; exact hk'
  by_cases hkm : db_n (db_bk b 4) 3 < 12
  · have hC1 := dv_CT_s hC (show ¬ dv_kd x n i = 0 by omega)
    have hD1 : dv_DR (db_uI a 13 9 (nI (i + 1))) (db_bk b 4) (db_bw b 4) := dv_DR_c hD (fun p _ _ => db_uI_n (by omega)) rfl
    have h57 := dv_57 hC
    rw [hw] at h57
    have hwi : db_wi (nI 3) ((0 : Nat) : Int) ((5 : Nat) : Int) = true := by decide
    have hmx : dv_mx 3 = 12 := rfl
    have h59 := dv_59 (s := a) (q := 3) (by omega)
    rw [hmx] at h59
    have hP : dv_Pd x n i (db_uI a 13 9 (nI (i + 1))) b (db_f67 (db_uI a 13 9 (nI (i + 1)))) (db_f263 b) := .inl (dv_pRule hC1 hR h0 hD1 hk' hkm)
    have e56 : db_f56 a = db_f67 (db_uI a 13 9 (nI (i + 1))) := by
      unfold db_f56
      simp (disch := omega) only [db_lit, eq_self, db_pI_e, db_pL_e, db_bind_some, db_bd_some, nI_add, pk_mul, nI_toInt, db_m1_t, dz_cn, Int.ofNat_le, Int.ofNat_lt, decide_true, decide_false, db_ct, db_cf, not_true_eq_false, not_false_eq_true, db_87e, db_37e, db_31e, db_28e, db_281e, db_211e, db_27, db_269w, db_litL, pk_lT, db_iL, db_p0_e, db_p0_n, db_p0_j, db_sub1, nI_eq, if_true, if_false, Bool.false_eq_true, Nat.one_ne_zero, h57, hwi, db_g_147, hca, h59, hkm, dv_60 hC (show ¬ dv_kd x n i = 0 by omega), (show ¬ 3 = 0 by omega), (show ¬ 3 = 1 by omega), (show ¬ 3 = 2 by omega), (show ¬ 3 = 4 by omega)]
      rcases hP with ⟨r, a2, b2, e, -⟩ | ⟨a2, b2, e, -⟩
      · simp (disch := omega) only [db_lit, eq_self, db_pI_e, db_pL_e, db_bind_some, db_bd_some, nI_add, pk_mul, nI_toInt, db_m1_t, dz_cn, Int.ofNat_le, Int.ofNat_lt, decide_true, decide_false, db_ct, db_cf, not_true_eq_false, not_false_eq_true, db_87e, db_37e, db_31e, db_28e, db_281e, db_211e, db_27, db_269w, db_litL, pk_lT, db_iL, db_p0_e, db_p0_n, db_p0_j, db_sub1, nI_eq, if_true, if_false, Bool.false_eq_true, Nat.one_ne_zero, e]
      · simp (disch := omega) only [db_lit, eq_self, db_pI_e, db_pL_e, db_bind_some, db_bd_some, nI_add, pk_mul, nI_toInt, db_m1_t, dz_cn, Int.ofNat_le, Int.ofNat_lt, decide_true, decide_false, db_ct, db_cf, not_true_eq_false, not_false_eq_true, db_87e, db_37e, db_31e, db_28e, db_281e, db_211e, db_27, db_269w, db_litL, pk_lT, db_iL, db_p0_e, db_p0_n, db_p0_j, db_sub1, nI_eq, if_true, if_false, Bool.false_eq_true, Nat.one_ne_zero, e]
    rw [e56]
    have hF : dv_Fa a (db_uI a 13 9 (nI (i + 1))) := dv_Fa_u dv_Fa_r (.inr (by omega))
    rcases hP with ⟨r, a2, b2, e1, e2, hh⟩ | ⟨a2, b2, e1, e2, w1, w2, w3⟩
    · refine .inl ⟨r, a2, b2, e1, e2, ?_⟩
      rcases hh with ⟨g1, g2, g3, g4, g5, g6⟩ | ⟨g1, g2, g3, g4⟩
      · exact .inl ⟨g1, g2, g3, g4, dv_Fa_t hF g5, g6⟩
      · exact .inr ⟨g1, g2, dv_Fa_t hF g3, g4⟩
    · exact .inr ⟨a2, b2, e1, e2, w1, dv_Fa_t hF w2, w3⟩
  · obtain ⟨z, ez, hz⟩ := dv_263o hR hkd h0 (by rw [hk', show db_n (db_bk b 4) 3 = 12 by omega])
    refine .inl ⟨false, _, z, dv_56o (q := 3) (r := true) (by omega) hC hw hca (by omega) (by show ¬ db_n (db_bk b 4) 3 < 12; omega), ez, .inr ⟨rfl, dv_Fl_q (dv_Fl_f (by omega) (by omega)) hz, dv_Fa_fa dv_Fa_r, dv_Fb_t (dv_Fb_fb dv_Fb_r) hz.1⟩⟩
theorem dv_q4 (hC : dv_CT x n i a) (hR : dv_RT x n i b) (h0 : b.1 669 12 = nI 0) (hD : dv_DR a (db_bk b 4) (db_bw b 4)) (hw : dv_w x n i = nI 4) : dv_Pd x n i a b (db_f56 a) (db_f271 b) := by
  have hkd := dv_w_kd (by decide) hw
  have hK := dv_K_mx hD (show 4 < 6 by omega)
  have hk' := hK.1
  have hkl : db_n (db_bk b 4) 4 ≤ 12 := hK.2
  have hca : a.1 147 4 = nI (db_n (db_bk b 4) 4) := by rw [hD.2.1 4 (by omega)]; exact hk'
  by_cases hkm : db_n (db_bk b 4) 4 < 12
  · have hC1 := dv_CT_s hC (show ¬ dv_kd x n i = 0 by omega)
    have hD1 : dv_DR (db_uI a 13 9 (nI (i + 1))) (db_bk b 4) (db_bw b 4) := dv_DR_c hD (fun p _ _ => db_uI_n (by omega)) rfl
    have h57 := dv_57 hC
    rw [hw] at h57
    have hwi : db_wi (nI 4) ((0 : Nat) : Int) ((5 : Nat) : Int) = true := by decide
    have hmx : dv_mx 4 = 12 := rfl
    have h59 := dv_59 (s := a) (q := 4) (by omega)
    rw [hmx] at h59
    have hP : dv_Pd x n i (db_uI a 13 9 (nI (i + 1))) b (db_f75 (db_uI a 13 9 (nI (i + 1)))) (db_f271 b) := .inl (dv_pNote hC1 hR h0 hD1 hk' hkm)
    have e56 : db_f56 a = db_f75 (db_uI a 13 9 (nI (i + 1))) := by
      unfold db_f56
      simp (disch := omega) only [db_lit, eq_self, db_pI_e, db_pL_e, db_bind_some, db_bd_some, nI_add, pk_mul, nI_toInt, db_m1_t, dz_cn, Int.ofNat_le, Int.ofNat_lt, decide_true, decide_false, db_ct, db_cf, not_true_eq_false, not_false_eq_true, db_87e, db_37e, db_31e, db_28e, db_281e, db_211e, db_27, db_269w, db_litL, pk_lT, db_iL, db_p0_e, db_p0_n, db_p0_j, db_sub1, nI_eq, if_true, if_false, Bool.false_eq_true, Nat.one_ne_zero, h57, hwi, db_g_147, hca, h59, hkm, dv_60 hC (show ¬ dv_kd x n i = 0 by omega), (show ¬ 4 = 0 by omega), (show ¬ 4 = 1 by omega), (show ¬ 4 = 2 by omega), (show ¬ 4 = 3 by omega)]
      rcases hP with ⟨r, a2, b2, e, -⟩ | ⟨a2, b2, e, -⟩
      · simp (disch := omega) only [db_lit, eq_self, db_pI_e, db_pL_e, db_bind_some, db_bd_some, nI_add, pk_mul, nI_toInt, db_m1_t, dz_cn, Int.ofNat_le, Int.ofNat_lt, decide_true, decide_false, db_ct, db_cf, not_true_eq_false, not_false_eq_true, db_87e, db_37e, db_31e, db_28e, db_281e, db_211e, db_27, db_269w, db_litL, pk_lT, db_iL, db_p0_e, db_p0_n, db_p0_j, db_sub1, nI_eq, if_true, if_false, Bool.false_eq_true, Nat.one_ne_zero, e]
      · simp (disch := omega) only [db_lit, eq_self, db_pI_e, db_pL_e, db_bind_some, db_bd_some, nI_add, pk_mul, nI_toInt, db_m1_t, dz_cn, Int.ofNat_le, Int.ofNat_lt, decide_true, decide_false, db_ct, db_cf, not_true_eq_false, not_false_eq_true, db_87e, db_37e, db_31e, db_28e, db_281e, db_211e, db_27, db_269w, db_litL, pk_lT, db_iL, db_p0_e, db_p0_n, db_p0_j, db_sub1, nI_eq, if_true, if_false, Bool.false_eq_true, Nat.one_ne_zero, e]
    rw [e56]
    have hF : dv_Fa a (db_uI a 13 9 (nI (i + 1))) := dv_Fa_u dv_Fa_r (.inr (by omega))
    rcases hP with ⟨r, a2, b2, e1, e2, hh⟩ | ⟨a2, b2, e1, e2, w1, w2, w3⟩
    · refine .inl ⟨r, a2, b2, e1, e2, ?_⟩
      rcases hh with ⟨g1, g2, g3, g4, g5, g6⟩ | ⟨g1, g2, g3, g4⟩
      · exact .inl ⟨g1, g2, g3, g4, dv_Fa_t hF g5, g6⟩
      · exact .inr ⟨g1, g2, dv_Fa_t hF g3, g4⟩
    · exact .inr ⟨a2, b2, e1, e2, w1, dv_Fa_t hF w2, w3⟩
  · obtain ⟨z, ez, hz⟩ := dv_271o hR hkd h0 (by rw [hk', show db_n (db_bk b 4) 4 = 12 by omega])
    refine .inl ⟨false, _, z, dv_56o (q := 4) (r := true) (by omega) hC hw hca (by omega) (by show ¬ db_n (db_bk b 4) 4 < 12; omega), ez, .inr ⟨rfl, dv_Fl_q (dv_Fl_f (by omega) (by omega)) hz, dv_Fa_fa dv_Fa_r, dv_Fb_t (dv_Fb_fb dv_Fb_r) hz.1⟩⟩
theorem dv_q5 (hC : dv_CT x n i a) (hR : dv_RT x n i b) (h0 : b.1 669 12 = nI 0) (hD : dv_DR a (db_bk b 4) (db_bw b 4)) (hw : dv_w x n i = nI 5) : dv_Pd x n i a b (db_f56 a) (db_f272 b) := by
  have hkd := dv_w_kd (by decide) hw
  have hK := dv_K_mx hD (show 5 < 6 by omega)
  have hk' := hK.1
  have hkl : db_n (db_bk b 4) 5 ≤ 8 := hK.2
  have hca : a.1 147 5 = nI (db_n (db_bk b 4) 5) := by rw [hD.2.1 5 (by omega)]; exact hk'
  by_cases hkm : db_n (db_bk b 4) 5 < 8
  · have hC1 := dv_CT_s hC (show ¬ dv_kd x n i = 0 by omega)
    have hD1 : dv_DR (db_uI a 13 9 (nI (i + 1))) (db_bk b 4) (db_bw b 4) := dv_DR_c hD (fun p _ _ => db_uI_n (by omega)) rfl
    have h57 := dv_57 hC
    rw [hw] at h57
    have hwi : db_wi (nI 5) ((0 : Nat) : Int) ((5 : Nat) : Int) = true := by decide
    have hmx : dv_mx 5 = 8 := rfl
    have h59 := dv_59 (s := a) (q := 5) (by omega)
    rw [hmx] at h59
    have hP : dv_Pd x n i (db_uI a 13 9 (nI (i + 1))) b (db_f77 (db_uI a 13 9 (nI (i + 1)))) (db_f272 b) := dv_pDream hC1 hR h0 hD1 hk' hkm
    have e56 : db_f56 a = db_f77 (db_uI a 13 9 (nI (i + 1))) := by
      unfold db_f56
      simp (disch := omega) only [db_lit, eq_self, db_pI_e, db_pL_e, db_bind_some, db_bd_some, nI_add, pk_mul, nI_toInt, db_m1_t, dz_cn, Int.ofNat_le, Int.ofNat_lt, decide_true, decide_false, db_ct, db_cf, not_true_eq_false, not_false_eq_true, db_87e, db_37e, db_31e, db_28e, db_281e, db_211e, db_27, db_269w, db_litL, pk_lT, db_iL, db_p0_e, db_p0_n, db_p0_j, db_sub1, nI_eq, if_true, if_false, Bool.false_eq_true, Nat.one_ne_zero, h57, hwi, db_g_147, hca, h59, hkm, dv_60 hC (show ¬ dv_kd x n i = 0 by omega), (show ¬ 5 = 0 by omega), (show ¬ 5 = 1 by omega), (show ¬ 5 = 2 by omega), (show ¬ 5 = 3 by omega), (show ¬ 5 = 4 by omega)]
      rcases hP with ⟨r, a2, b2, e, -⟩ | ⟨a2, b2, e, -⟩
      · simp (disch := omega) only [db_lit, eq_self, db_pI_e, db_pL_e, db_bind_some, db_bd_some, nI_add, pk_mul, nI_toInt, db_m1_t, dz_cn, Int.ofNat_le, Int.ofNat_lt, decide_true, decide_false, db_ct, db_cf, not_true_eq_false, not_false_eq_true, db_87e, db_37e, db_31e, db_28e, db_281e, db_211e, db_27, db_269w, db_litL, pk_lT, db_iL, db_p0_e, db_p0_n, db_p0_j, db_sub1, nI_eq, if_true, if_false, Bool.false_eq_true, Nat.one_ne_zero, e]
      · simp (disch := omega) only [db_lit, eq_self, db_pI_e, db_pL_e, db_bind_some, db_bd_some, nI_add, pk_mul, nI_toInt, db_m1_t, dz_cn, Int.ofNat_le, Int.ofNat_lt, decide_true, decide_false, db_ct, db_cf, not_true_eq_false, not_false_eq_true, db_87e, db_37e, db_31e, db_28e, db_281e, db_211e, db_27, db_269w, db_litL, pk_lT, db_iL, db_p0_e, db_p0_n, db_p0_j, db_sub1, nI_eq, if_true, if_false, Bool.false_eq_true, Nat.one_ne_zero, e]
    rw [e56]
    have hF : dv_Fa a (db_uI a 13 9 (nI (i + 1))) := dv_Fa_u dv_Fa_r (.inr (by omega))
    rcases hP with ⟨r, a2, b2, e1, e2, hh⟩ | ⟨a2, b2, e1, e2, w1, w2, w3⟩
    · refine .inl ⟨r, a2, b2, e1, e2, ?_⟩
      rcases hh with ⟨g1, g2, g3, g4, g5, g6⟩ | ⟨g1, g2, g3, g4⟩
      · exact .inl ⟨g1, g2, g3, g4, dv_Fa_t hF g5, g6⟩
      · exact .inr ⟨g1, g2, dv_Fa_t hF g3, g4⟩
    · exact .inr ⟨a2, b2, e1, e2, w1, dv_Fa_t hF w2, w3⟩
  · obtain ⟨z, ez, hz⟩ := dv_272o hR hkd h0 (by rw [hk', show db_n (db_bk b 4) 5 = 8 by omega])
    refine .inl ⟨false, _, z, dv_56o (q := 5) (r := true) (by omega) hC hw hca (by omega) (by show ¬ db_n (db_bk b 4) 5 < 8; omega), ez, .inr ⟨rfl, dv_Fl_q (dv_Fl_f (by omega) (by omega)) hz, dv_Fa_fa dv_Fa_r, dv_Fb_t (dv_Fb_fb dv_Fb_r) hz.1⟩⟩
/-- the end of both loops -/
def dv_LE (a0 b0 : db_S) (fa : Option (Bool × db_S)) (fb : Option (Int32 × db_S)) : Prop := (∃ a b, fa = db_f45_b59 a ∧ fb = db_f221_b164 b ∧ b.1 669 12 = nI 0 ∧ dv_DR a (db_bk b 4) (db_bw b 4) ∧ a.1 13 2 = nI 0 ∧ a.1 13 3 = -(nI 1) ∧ dv_Fa a0 a ∧ dv_Fb b0 b) ∨ (∃ a b, fa = some (false, a) ∧ fb = db_f221_b164 b ∧ dv_Fl a b ∧ dv_Fa a0 a ∧ dv_Fb b0 b)
theorem dv_b49b {G : Nat} (h : dv_Bad b) : db_f221_b49 (G + 1) b = db_f221_b164 b := by
  obtain ⟨f, f1, f2, f3⟩ := h
  rw [db_f221_b49]
  simp (disch := omega) only [db_lit, eq_self, db_pI_e, db_pL_e, db_bind_some, db_bd_some, nI_add, pk_mul, nI_toInt, db_m1_t, dz_cn, Int.ofNat_le, Int.ofNat_lt, decide_true, decide_false, db_ct, db_cf, not_true_eq_false, not_false_eq_true, db_87e, db_37e, db_31e, db_28e, db_281e, db_211e, db_27, db_269w, db_litL, pk_lT, db_iL, db_p0_e, db_p0_n, db_p0_j, db_sub1, nI_eq, if_true, if_false, Bool.false_eq_true, Nat.one_ne_zero, f3, (show ¬ f = 0 by omega)]
theorem dv_loop : ∀ (t i v2 F G : Nat) (a b : db_S), 1000 ≤ i + t → v2 ≤ i → t < F → t + 1 < G → dv_CT x n i a → dv_RT x n i b → b.1 669 12 = nI 0 → dv_DR a (db_bk b 4) (db_bw b 4) → dv_Fa a0 a → dv_Fb b0 b → dv_LE a0 b0 (db_f45_b17 F a (nI v2)) (db_f221_b49 G b) := by
  intro t
  induction t with
  | zero =>
    intro i v2 F G a b hi hv hF hG hC hR
    have := dv_i900 hC
    omega
  | succ t IH =>
    intro i v2 F G a b hi hv hF hG hC hR h0 hD hFa hFb
    cases F with
    | zero => omega
    | succ F =>
    cases G with
    | zero => omega
    | succ G =>
    have t14 := dv_14 hR
    have h4 : dv_kd x n i ≤ 4 := dv_K4
    have hi9 := dv_i900 hC
    rw [db_f45_b17, db_f221_b49]
    by_cases hkd : dv_kd x n i = 0
    · refine .inl ⟨a, b, ?_, ?_, h0, hD, (hC.2.2.2 i hC.2.2.1).2.2.2.2.1, (hC.2.2.2 i hC.2.2.1).2.2.2.2.2, hFa, hFb⟩
      · by_cases e : 900 ≤ v2
        · simp (disch := omega) only [db_lit, eq_self, db_pI_e, db_pL_e, db_bind_some, db_bd_some, nI_add, pk_mul, nI_toInt, db_m1_t, dz_cn, Int.ofNat_le, Int.ofNat_lt, decide_true, decide_false, db_ct, db_cf, not_true_eq_false, not_false_eq_true, db_87e, db_37e, db_31e, db_28e, db_281e, db_211e, db_27, db_269w, db_litL, pk_lT, db_iL, db_p0_e, db_p0_n, db_p0_j, db_sub1, nI_eq, if_true, if_false, Bool.false_eq_true, Nat.one_ne_zero, e]
        · simp (disch := omega) only [db_lit, eq_self, db_pI_e, db_pL_e, db_bind_some, db_bd_some, nI_add, pk_mul, nI_toInt, db_m1_t, dz_cn, Int.ofNat_le, Int.ofNat_lt, decide_true, decide_false, db_ct, db_cf, not_true_eq_false, not_false_eq_true, db_87e, db_37e, db_31e, db_28e, db_281e, db_211e, db_27, db_269w, db_litL, pk_lT, db_iL, db_p0_e, db_p0_n, db_p0_j, db_sub1, nI_eq, if_true, if_false, Bool.false_eq_true, Nat.one_ne_zero, e, dv_55 hC, hkd]
      · simp (disch := omega) only [db_lit, eq_self, db_pI_e, db_pL_e, db_bind_some, db_bd_some, nI_add, pk_mul, nI_toInt, db_m1_t, dz_cn, Int.ofNat_le, Int.ofNat_lt, decide_true, decide_false, db_ct, db_cf, not_true_eq_false, not_false_eq_true, db_87e, db_37e, db_31e, db_28e, db_281e, db_211e, db_27, db_269w, db_litL, pk_lT, db_iL, db_p0_e, db_p0_n, db_p0_j, db_sub1, nI_eq, if_true, if_false, Bool.false_eq_true, Nat.one_ne_zero, h0, t14, hkd]
    · have hP := dv_kd_lt hC hkd
      have hib := dv_ok_le hC.1 hC.2.2.1
      have hbp := (dv_b_le (x := x) hC.1 i).2.1
      have hn := hC.1
      have hv9 : ¬ 900 ≤ v2 := by omega
      -- what follows a part
      have go : ∀ fb : Option db_S, dv_Pd x n i a b (db_f56 a) fb → dv_LE a0 b0 (db_bd (db_f56 a) fun q3 s4 => (cond q3 (db_bd (db_f79 s4) fun q5 s6 => (cond q5 (db_f45_b17 F s6 (nI v2 + (1 : Int32))) (some (false, s6)))) (some (false, s4)))) (fb.bind fun s => db_f221_b151 (db_f221_b49 G) s) := by
        intro fb hh
        rcases hh with ⟨r, a2, b2, e1, e2, hh⟩ | ⟨a2, b2, e1, e2, ⟨i1, w1, w2, w3, w4, w5⟩, w6, w7⟩
        · rcases hh with ⟨rfl, ⟨i1, hi1, g1, g2⟩, g3, g4, g5, g6⟩ | ⟨rfl, g1, g2, g3⟩
          · obtain ⟨r, a3, b3, e3, e4, hh⟩ := dv_oStop g1 g2 g3
            have e4' : db_f221_b151 (db_f221_b49 G) b2 = db_f221_b49 G b3 := by
              have hq : ∃ q, db_f273 b2 (nI 59) = some q := by
                obtain ⟨q, hq, -⟩ := dv_273t (b := b2) (y := nI 59)
                exact ⟨q, hq⟩
              obtain ⟨q, hq⟩ := hq
              rw [hq, db_bind_some] at e4
              unfold db_f221_b151
              simp (disch := omega) only [db_lit, eq_self, db_pI_e, db_pL_e, db_bind_some, db_bd_some, nI_add, pk_mul, nI_toInt, db_m1_t, dz_cn, Int.ofNat_le, Int.ofNat_lt, decide_true, decide_false, db_ct, db_cf, not_true_eq_false, not_false_eq_true, db_87e, db_37e, db_31e, db_28e, db_281e, db_211e, db_27, db_269w, db_litL, pk_lT, db_iL, db_p0_e, db_p0_n, db_p0_j, db_sub1, nI_eq, if_true, if_false, Bool.false_eq_true, Nat.one_ne_zero, hq, e4]
            rw [e1, e2]
            rcases hh with ⟨rfl, k1, k2, k3, k4⟩ | ⟨rfl, k1, k2, k3⟩
            · simp (disch := omega) only [db_lit, eq_self, db_pI_e, db_pL_e, db_bind_some, db_bd_some, nI_add, pk_mul, nI_toInt, db_m1_t, dz_cn, Int.ofNat_le, Int.ofNat_lt, decide_true, decide_false, db_ct, db_cf, not_true_eq_false, not_false_eq_true, db_87e, db_37e, db_31e, db_28e, db_281e, db_211e, db_27, db_269w, db_litL, pk_lT, db_iL, db_p0_e, db_p0_n, db_p0_j, db_sub1, nI_eq, if_true, if_false, Bool.false_eq_true, Nat.one_ne_zero, e3, e4']
              have ebk := dv_bk_e (q := 4) (k4.1 674 (by decide)).1
              have ebw := dv_bw_e (q := 4) (k4.1 676 (by decide)).2
              refine IH (i1 + 1) (v2 + 1) F G a3 b3 (by omega) (by omega) (by omega) (by omega) k2 k3 (by rw [k4.2.1 12 (by omega)]; exact g3) ?_ (dv_Fa_t hFa (dv_Fa_t g5 ?_)) (dv_Fb_t hFb (dv_Fb_t g6 (dv_Fb_n k4)))
              · rw [ebk, ebw, k1]
                exact dv_DR_c g4 (fun p _ _ => db_uI_n (by omega)) rfl
              · rw [k1]
                exact dv_Fa_u dv_Fa_r (.inr (by omega))
            · simp (disch := omega) only [db_lit, eq_self, db_pI_e, db_pL_e, db_bind_some, db_bd_some, nI_add, pk_mul, nI_toInt, db_m1_t, dz_cn, Int.ofNat_le, Int.ofNat_lt, decide_true, decide_false, db_ct, db_cf, not_true_eq_false, not_false_eq_true, db_87e, db_37e, db_31e, db_28e, db_281e, db_211e, db_27, db_269w, db_litL, pk_lT, db_iL, db_p0_e, db_p0_n, db_p0_j, db_sub1, nI_eq, if_true, if_false, Bool.false_eq_true, Nat.one_ne_zero, e3, e4']
              refine .inr ⟨a3, b3, rfl, ?_, k1, dv_Fa_t hFa (dv_Fa_t g5 k2), dv_Fb_t hFb (dv_Fb_t g6 k3)⟩
              cases G with
              | zero => omega
              | succ G => exact dv_b49b k1.1
          · obtain ⟨q, hq, -⟩ := dv_273t (b := b2) (y := nI 59)
            rw [e1, e2]
            unfold db_f221_b151
            simp (disch := omega) only [db_lit, eq_self, db_pI_e, db_pL_e, db_bind_some, db_bd_some, nI_add, pk_mul, nI_toInt, db_m1_t, dz_cn, Int.ofNat_le, Int.ofNat_lt, decide_true, decide_false, db_ct, db_cf, not_true_eq_false, not_false_eq_true, db_87e, db_37e, db_31e, db_28e, db_281e, db_211e, db_27, db_269w, db_litL, pk_lT, db_iL, db_p0_e, db_p0_n, db_p0_j, db_sub1, nI_eq, if_true, if_false, Bool.false_eq_true, Nat.one_ne_zero, hq, dv_264b g1.1]
            refine .inr ⟨a2, b2, rfl, ?_, g1, dv_Fa_t hFa g2, dv_Fb_t hFb g3⟩
            cases G with
            | zero => omega
            | succ G => exact dv_b49b g1.1
        · obtain ⟨q, hq, -⟩ := dv_273t (b := b2) (y := nI 59)
          have hB : dv_Bad b2 := ⟨2, by omega, by omega, w4⟩
          have e79 : db_f79 a2 = some (false, dv_fa x n i1 2 a2) := by
            unfold db_f79 db_f79_b27
            rw [w1.2.1]
            simp (disch := omega) only [db_lit, eq_self, db_pI_e, db_pL_e, db_bind_some, db_bd_some, nI_add, pk_mul, nI_toInt, db_m1_t, dz_cn, Int.ofNat_le, Int.ofNat_lt, decide_true, decide_false, db_ct, db_cf, not_true_eq_false, not_false_eq_true, db_87e, db_37e, db_31e, db_28e, db_281e, db_211e, db_27, db_269w, db_litL, pk_lT, db_iL, db_p0_e, db_p0_n, db_p0_j, db_sub1, nI_eq, if_true, if_false, Bool.false_eq_true, Nat.one_ne_zero, dv_g16 w1, w2, (show ¬ 1 = 3 by omega), dv_58 w1 2]
          have hfk : dv_fk x n i1 2 = 2 := by unfold dv_fk; rw [if_neg (by omega)]
          rw [e1, e2]
          unfold db_f221_b151
          simp (disch := omega) only [db_lit, eq_self, db_pI_e, db_pL_e, db_bind_some, db_bd_some, nI_add, pk_mul, nI_toInt, db_m1_t, dz_cn, Int.ofNat_le, Int.ofNat_lt, decide_true, decide_false, db_ct, db_cf, not_true_eq_false, not_false_eq_true, db_87e, db_37e, db_31e, db_28e, db_281e, db_211e, db_27, db_269w, db_litL, pk_lT, db_iL, db_p0_e, db_p0_n, db_p0_j, db_sub1, nI_eq, if_true, if_false, Bool.false_eq_true, Nat.one_ne_zero, e79, hq, dv_264b hB]
          refine .inr ⟨_, b2, rfl, ?_, ⟨hB, ?_, ?_⟩, dv_Fa_t hFa (dv_Fa_fa w6), dv_Fb_t hFb w7⟩
          · cases G with
            | zero => omega
            | succ G => exact dv_b49b hB
          · unfold dv_fa
            rw [db_uI_j (by decide), db_uI_1, hfk, w4]
          · unfold dv_fa
            rw [db_uI_1, w5]
      have eA : (cond (db_cnd .ge (nI v2) (900 : Int32)) (db_f45_b59 a ) ((db_f55 a).bind fun q1 => (cond q1 (db_f45_b59 a ) (db_bd (db_f56 a) fun q3 s4 => (cond q3 (db_bd (db_f79 s4) fun q5 s6 => (cond q5 (db_f45_b17 F s6 (nI v2 + (1 : Int32))) (some (false, s6)))) (some (false, s4))))))) = (db_bd (db_f56 a) fun q3 s4 => (cond q3 (db_bd (db_f79 s4) fun q5 s6 => (cond q5 (db_f45_b17 F s6 (nI v2 + (1 : Int32))) (some (false, s6)))) (some (false, s4)))) := by
        simp (disch := omega) only [db_lit, eq_self, db_pI_e, db_pL_e, db_bind_some, db_bd_some, nI_add, pk_mul, nI_toInt, db_m1_t, dz_cn, Int.ofNat_le, Int.ofNat_lt, decide_true, decide_false, db_ct, db_cf, not_true_eq_false, not_false_eq_true, db_87e, db_37e, db_31e, db_28e, db_281e, db_211e, db_27, db_269w, db_litL, pk_lT, db_iL, db_p0_e, db_p0_n, db_p0_j, db_sub1, nI_eq, if_true, if_false, Bool.false_eq_true, Nat.one_ne_zero, hv9, dv_55 hC, hkd]
      rw [eA]
      by_cases e0 : dv_w x n i = nI 0
      · have hR0 := go _ (dv_q0 hC hR h0 hD e0)
        simp (disch := omega) only [db_lit, eq_self, db_pI_e, db_pL_e, db_bind_some, db_bd_some, nI_add, pk_mul, nI_toInt, db_m1_t, dz_cn, Int.ofNat_le, Int.ofNat_lt, decide_true, decide_false, db_ct, db_cf, not_true_eq_false, not_false_eq_true, db_87e, db_37e, db_31e, db_28e, db_281e, db_211e, db_27, db_269w, db_litL, pk_lT, db_iL, db_p0_e, db_p0_n, db_p0_j, db_sub1, nI_eq, if_true, if_false, Bool.false_eq_true, Nat.one_ne_zero, h0, t14, hkd, dv_x0 hR, e0] at hR0 ⊢
        exact hR0
      by_cases e1 : dv_w x n i = nI 1
      · have hR1 := go _ (dv_q1 hC hR h0 hD e1)
        simp (disch := omega) only [db_lit, eq_self, db_pI_e, db_pL_e, db_bind_some, db_bd_some, nI_add, pk_mul, nI_toInt, db_m1_t, dz_cn, Int.ofNat_le, Int.ofNat_lt, decide_true, decide_false, db_ct, db_cf, not_true_eq_false, not_false_eq_true, db_87e, db_37e, db_31e, db_28e, db_281e, db_211e, db_27, db_269w, db_litL, pk_lT, db_iL, db_p0_e, db_p0_n, db_p0_j, db_sub1, nI_eq, if_true, if_false, Bool.false_eq_true, Nat.one_ne_zero, h0, t14, hkd, dv_x0 hR, dv_x1 hR, e1, (show ¬ 1 = 0 by omega)] at hR1 ⊢
        exact hR1
      by_cases e2 : dv_w x n i = nI 2
      · have hR2 := go _ (dv_q2 hC hR h0 hD e2)
        simp (disch := omega) only [db_lit, eq_self, db_pI_e, db_pL_e, db_bind_some, db_bd_some, nI_add, pk_mul, nI_toInt, db_m1_t, dz_cn, Int.ofNat_le, Int.ofNat_lt, decide_true, decide_false, db_ct, db_cf, not_true_eq_false, not_false_eq_true, db_87e, db_37e, db_31e, db_28e, db_281e, db_211e, db_27, db_269w, db_litL, pk_lT, db_iL, db_p0_e, db_p0_n, db_p0_j, db_sub1, nI_eq, if_true, if_false, Bool.false_eq_true, Nat.one_ne_zero, h0, t14, hkd, dv_x0 hR, dv_x1 hR, dv_x2 hR, e2, (show ¬ 2 = 0 by omega), (show ¬ 2 = 1 by omega)] at hR2 ⊢
        exact hR2
      by_cases e3 : dv_w x n i = nI 3
      · have hR3 := go _ (dv_q3 hC hR h0 hD e3)
        simp (disch := omega) only [db_lit, eq_self, db_pI_e, db_pL_e, db_bind_some, db_bd_some, nI_add, pk_mul, nI_toInt, db_m1_t, dz_cn, Int.ofNat_le, Int.ofNat_lt, decide_true, decide_false, db_ct, db_cf, not_true_eq_false, not_false_eq_true, db_87e, db_37e, db_31e, db_28e, db_281e, db_211e, db_27, db_269w, db_litL, pk_lT, db_iL, db_p0_e, db_p0_n, db_p0_j, db_sub1, nI_eq, if_true, if_false, Bool.false_eq_true, Nat.one_ne_zero, h0, t14, hkd, dv_x0 hR, dv_x1 hR, dv_x2 hR, dv_x3 hR, e3, (show ¬ 3 = 0 by omega), (show ¬ 3 = 1 by omega), (show ¬ 3 = 2 by omega)] at hR3 ⊢
        exact hR3
      by_cases e4 : dv_w x n i = nI 4
      · have hR4 := go _ (dv_q4 hC hR h0 hD e4)
        simp (disch := omega) only [db_lit, eq_self, db_pI_e, db_pL_e, db_bind_some, db_bd_some, nI_add, pk_mul, nI_toInt, db_m1_t, dz_cn, Int.ofNat_le, Int.ofNat_lt, decide_true, decide_false, db_ct, db_cf, not_true_eq_false, not_false_eq_true, db_87e, db_37e, db_31e, db_28e, db_281e, db_211e, db_27, db_269w, db_litL, pk_lT, db_iL, db_p0_e, db_p0_n, db_p0_j, db_sub1, nI_eq, if_true, if_false, Bool.false_eq_true, Nat.one_ne_zero, h0, t14, hkd, dv_x0 hR, dv_x1 hR, dv_x2 hR, dv_x3 hR, dv_x4 hR, e4, (show ¬ 4 = 0 by omega), (show ¬ 4 = 1 by omega), (show ¬ 4 = 2 by omega), (show ¬ 4 = 3 by omega)] at hR4 ⊢
        exact hR4
      by_cases e5 : dv_w x n i = nI 5
      · have hR5 := go _ (dv_q5 hC hR h0 hD e5)
        simp (disch := omega) only [db_lit, eq_self, db_pI_e, db_pL_e, db_bind_some, db_bd_some, nI_add, pk_mul, nI_toInt, db_m1_t, dz_cn, Int.ofNat_le, Int.ofNat_lt, decide_true, decide_false, db_ct, db_cf, not_true_eq_false, not_false_eq_true, db_87e, db_37e, db_31e, db_28e, db_281e, db_211e, db_27, db_269w, db_litL, pk_lT, db_iL, db_p0_e, db_p0_n, db_p0_j, db_sub1, nI_eq, if_true, if_false, Bool.false_eq_true, Nat.one_ne_zero, h0, t14, hkd, dv_x0 hR, dv_x1 hR, dv_x2 hR, dv_x3 hR, dv_x4 hR, dv_x5 hR, e5, (show ¬ 5 = 0 by omega), (show ¬ 5 = 1 by omega), (show ¬ 5 = 2 by omega), (show ¬ 5 = 3 by omega), (show ¬ 5 = 4 by omega)] at hR5 ⊢
        exact hR5
      have hB := dv_fb_B (x := x) (n := n) (i := i) (b := b) (f := 2) (by omega) (by omega)
      have h56 := dv_56w hC (fun q hq => by
        rcases (by omega : q = 0 ∨ q = 1 ∨ q = 2 ∨ q = 3 ∨ q = 4 ∨ q = 5) with rfl | rfl | rfl | rfl | rfl | rfl <;> assumption)
      have hRw := go (some (dv_fb x n i 2 b)) (.inl ⟨false, _, _, h56, rfl, .inr ⟨rfl, dv_Fl_f (by omega) (by omega), dv_Fa_fa dv_Fa_r, dv_Fb_fb dv_Fb_r⟩⟩)
      simp (disch := omega) only [db_lit, eq_self, db_pI_e, db_pL_e, db_bind_some, db_bd_some, nI_add, pk_mul, nI_toInt, db_m1_t, dz_cn, Int.ofNat_le, Int.ofNat_lt, decide_true, decide_false, db_ct, db_cf, not_true_eq_false, not_false_eq_true, db_87e, db_37e, db_31e, db_28e, db_281e, db_211e, db_27, db_269w, db_litL, pk_lT, db_iL, db_p0_e, db_p0_n, db_p0_j, db_sub1, nI_eq, if_true, if_false, Bool.false_eq_true, Nat.one_ne_zero, h0, t14, hkd, dv_x0 hR, dv_x1 hR, dv_x2 hR, dv_x3 hR, dv_x4 hR, dv_x5 hR, e0, e1, e2, e3, e4, e5, dv_257 hR h0] at hRw ⊢
      exact hRw
end DVPA
