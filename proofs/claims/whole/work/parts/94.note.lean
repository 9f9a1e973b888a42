/-! A NOTE -/
section DVNT
variable {a b a1 b1 z : db_S} {x : Nat → Int32} {n i k : Nat} {v u : Int32} {c : db_C} {w : Nat → Int64}
theorem dv_76 {N0 N1 : Nat → Int32} (hk : k ≤ 12) (h4 : a.1 147 4 = nI k) (h0 : ∀ j, j < k → a.1 (164 + j) 0 = N0 j) (h1 : ∀ j, j < k → a.1 (164 + j) 1 = N1 j) : db_f76_146 a u v = some (db_ex (fun j => decide (N0 j = u) && decide (N1 j = v)) k) := by
  unfold db_f76_146
  refine db_exst (L := fun f j => db_f76_146_b2 a f u v (nI j)) (N := k) (fun j => decide (N0 j = u) && decide (N1 j = v)) ?_ ?_ (n := db_FU) (by unfold db_FU; omega)
  · intro f
    show db_f76_146_b2 a (f + 1) u v (nI k) = _
    rw [db_f76_146_b2]
    simp (disch := omega) only [db_lit, eq_self, db_pI_e, db_pL_e, db_bind_some, db_bd_some, nI_add, pk_mul, nI_toInt, db_m1_t, dz_cn, Int.ofNat_le, Int.ofNat_lt, decide_true, decide_false, db_ct, db_cf, not_true_eq_false, not_false_eq_true, db_g_147, h4, Nat.le_refl]
  · intro f j hj
    show db_f76_146_b2 a (f + 1) u v (nI j) = cond _ _ (db_f76_146_b2 a f u v (nI (j + 1)))
    rw [db_f76_146_b2]
    unfold db_f76_146_b38
    simp (disch := omega) only [db_lit, eq_self, db_pI_e, db_pL_e, db_bind_some, db_bd_some, nI_add, pk_mul, nI_toInt, db_m1_t, dz_cn, Int.ofNat_le, Int.ofNat_lt, decide_true, decide_false, db_ct, db_cf, not_true_eq_false, not_false_eq_true, db_g_147, h4, (show ¬ k ≤ j by omega), db_q_163, db_g_164, h0 j hj, h1 j hj]
    by_cases e1 : N0 j = u
    · rw [decide_eq_true e1, decide_eq_false (fun h => h e1), db_cf, Bool.true_and]
      by_cases e2 : N1 j = v
      · rw [decide_eq_true e2, decide_eq_false (fun h => h e2)]
        rfl
      · rw [decide_eq_false e2, decide_eq_true e2]
        rfl
    · rw [decide_eq_false e1, decide_eq_true e1, db_ct, Bool.false_and]
      rfl
theorem dv_271l (hk : k ≤ 12) (hR : dv_RT x n i b) (h0 : b.1 669 12 = nI 0) (hkd : ¬ dv_kd x n i = 4) : ∀ (t j F : Nat), j + t = k → t + 1 < F → (∀ p, p < j → (decide (db_bk b 4 (103 + p) = u) && decide (db_bk b 4 (115 + p) = v)) = false) → db_f271_b62 F b (nI k) u v (nI j) = if db_ex (fun p => decide (db_bk b 4 (103 + p) = u) && decide (db_bk b 4 (115 + p) = v)) k = true then db_f271_b120 (dv_fb x n i 5 b) (nI k) u v else db_f271_b120 b (nI k) u v := by
  intro t
  induction t with
  | zero =>
    intro j F hj hF hno
    cases F with
    | zero => omega
    | succ F =>
      have e : j = k := by omega
      subst e
      rw [db_f271_b62, if_neg (by rw [db_ex_no.mpr hno]; decide)]
      simp (disch := omega) only [db_lit, eq_self, db_pI_e, db_pL_e, db_bind_some, db_bd_some, nI_add, pk_mul, nI_toInt, db_m1_t, dz_cn, Int.ofNat_le, Int.ofNat_lt, decide_true, decide_false, db_ct, db_cf, not_true_eq_false, not_false_eq_true, Nat.le_refl]
  | succ t IH =>
    intro j F hj hF hno
    cases F with
    | zero => omega
    | succ F =>
      have g1 : b.1 674 (2023 + j) = db_bk b 4 (103 + j) := by rw [show 2023 + j = 1920 + (103 + j) by omega, dv_bk_4 (by omega)]
      have g2 : b.1 674 (2035 + j) = db_bk b 4 (115 + j) := by rw [show 2035 + j = 1920 + (115 + j) by omega, dv_bk_4 (by omega)]
      have e3 := dv_234i hR h0 (f := 5) hkd
      rw [db_f271_b62]
      unfold db_f271_b114
      simp (disch := omega) only [db_lit, eq_self, db_pI_e, db_pL_e, db_bind_some, db_bd_some, nI_add, pk_mul, nI_toInt, db_m1_t, dz_cn, Int.ofNat_le, Int.ofNat_lt, decide_true, decide_false, db_ct, db_cf, not_true_eq_false, not_false_eq_true, db_87e, db_37e, db_31e, db_28e, db_281e, db_211e, db_27, db_269w, db_litL, pk_lT, db_iL, db_p0_e, db_p0_n, db_p0_j, db_sub1, nI_eq, if_true, if_false, Bool.false_eq_true, Nat.one_ne_zero, (show ¬ k ≤ j by omega), h0, db_g_674, g1, g2, e3]
      by_cases e1 : db_bk b 4 (103 + j) = u
      · rw [decide_eq_false (fun h => h e1), db_cf]
        by_cases e2 : db_bk b 4 (115 + j) = v
        · rw [decide_eq_false (fun h => h e2), db_cf]
          have hex : db_ex (fun p => decide (db_bk b 4 (103 + p) = u) && decide (db_bk b 4 (115 + p) = v)) k = true := db_ex_iff.mpr ⟨j, by omega, by rw [decide_eq_true e1, decide_eq_true e2]; rfl⟩
          rw [if_pos hex]
          obtain ⟨f, f1, f2, f3⟩ := dv_fb_B (x := x) (n := n) (i := i) (b := b) (f := 5) (by omega) (by omega)
          cases F with
          | zero => omega
          | succ F =>
            rw [db_f271_b62]
            by_cases ek : k ≤ j + 1
            · simp (disch := omega) only [db_lit, eq_self, db_pI_e, db_pL_e, db_bind_some, db_bd_some, nI_add, pk_mul, nI_toInt, db_m1_t, dz_cn, Int.ofNat_le, Int.ofNat_lt, decide_true, decide_false, db_ct, db_cf, not_true_eq_false, not_false_eq_true, db_87e, db_37e, db_31e, db_28e, db_281e, db_211e, db_27, db_269w, db_litL, pk_lT, db_iL, db_p0_e, db_p0_n, db_p0_j, db_sub1, nI_eq, if_true, if_false, Bool.false_eq_true, Nat.one_ne_zero, ek]
            · simp (disch := omega) only [db_lit, eq_self, db_pI_e, db_pL_e, db_bind_some, db_bd_some, nI_add, pk_mul, nI_toInt, db_m1_t, dz_cn, Int.ofNat_le, Int.ofNat_lt, decide_true, decide_false, db_ct, db_cf, not_true_eq_false, not_false_eq_true, db_87e, db_37e, db_31e, db_28e, db_281e, db_211e, db_27, db_269w, db_litL, pk_lT, db_iL, db_p0_e, db_p0_n, db_p0_j, db_sub1, nI_eq, if_true, if_false, Bool.false_eq_true, Nat.one_ne_zero, ek, f3, (show ¬ f = 0 by omega)]
        · rw [decide_eq_true e2, db_ct]
          refine IH (j + 1) F (by omega) (by omega) fun p hp => ?_
          by_cases e : p = j
          · subst e; rw [decide_eq_false e2, Bool.and_false]
          · exact hno p (by omega)
      · rw [decide_eq_true e1, db_ct]
        refine IH (j + 1) F (by omega) (by omega) fun p hp => ?_
        by_cases e : p = j
        · subst e; rw [decide_eq_false e1, Bool.false_and]
        · exact hno p (by omega)
theorem dv_120b (hk : k < 12) (h : dv_Bad b) : db_f271_b120 b (nI k) u v = some b := by
  obtain ⟨f, f1, f2, f3⟩ := id h
  unfold db_f271_b120
  simp (disch := omega) only [db_lit, eq_self, db_pI_e, db_pL_e, db_bind_some, db_bd_some, nI_add, pk_mul, nI_toInt, db_m1_t, dz_cn, Int.ofNat_le, Int.ofNat_lt, decide_true, decide_false, db_ct, db_cf, not_true_eq_false, not_false_eq_true, db_87e, db_37e, db_31e, db_28e, db_281e, db_211e, db_27, db_269w, db_litL, pk_lT, db_iL, db_p0_e, db_p0_n, db_p0_j, db_sub1, nI_eq, if_true, if_false, Bool.false_eq_true, Nat.one_ne_zero, dv_264b h, f3, (show ¬ f ≤ 0 by omega)]
theorem dv_62b (hk : k < 12) (h : dv_Bad b) : db_f271_b62 db_FU b (nI k) u v (nI 0) = some b := by
  obtain ⟨f, f1, f2, f3⟩ := id h
  rw [show db_FU = 999999 + 1 from rfl, db_f271_b62]
  by_cases e : k ≤ 0
  · simp (disch := omega) only [db_lit, eq_self, db_pI_e, db_pL_e, db_bind_some, db_bd_some, nI_add, pk_mul, nI_toInt, db_m1_t, dz_cn, Int.ofNat_le, Int.ofNat_lt, decide_true, decide_false, db_ct, db_cf, not_true_eq_false, not_false_eq_true, db_87e, db_37e, db_31e, db_28e, db_281e, db_211e, db_27, db_269w, db_litL, pk_lT, db_iL, db_p0_e, db_p0_n, db_p0_j, db_sub1, nI_eq, if_true, if_false, Bool.false_eq_true, Nat.one_ne_zero, e, dv_120b hk h]
  · simp (disch := omega) only [db_lit, eq_self, db_pI_e, db_pL_e, db_bind_some, db_bd_some, nI_add, pk_mul, nI_toInt, db_m1_t, dz_cn, Int.ofNat_le, Int.ofNat_lt, decide_true, decide_false, db_ct, db_cf, not_true_eq_false, not_false_eq_true, db_87e, db_37e, db_31e, db_28e, db_281e, db_211e, db_27, db_269w, db_litL, pk_lT, db_iL, db_p0_e, db_p0_n, db_p0_j, db_sub1, nI_eq, if_true, if_false, Bool.false_eq_true, Nat.one_ne_zero, e, f3, (show ¬ f = 0 by omega), dv_120b hk h]
/-- a note -/
theorem dv_pNote (hC : dv_CT x n (i + 1) a) (hR : dv_RT x n i b) (h0 : b.1 669 12 = nI 0) (hD : dv_DR a (db_bk b 4) (db_bw b 4)) (hk : db_bk b 4 4 = nI k) (hkm : k < 12) : dv_Pt x n i a b (db_f75 a) (db_f271 b) := by
  have e147 : a.1 147 4 = nI k := by rw [hD.2.1 4 (by omega)]; exact hk
  have e1924 : b.1 674 1924 = nI k := by rw [show (1924 : Nat) = 1920 + 4 from rfl, dv_bk_4 (by omega)]; exact hk
  obtain ⟨b0, eb0, r0, f0⟩ := dv_nx hR
  have h00 : b0.1 669 12 = nI 0 := by rw [f0.2.1 12 (by omega)]; exact h0
  have ebk0 : db_bk b0 4 = db_bk b 4 := dv_bk_e (f0.1 674 (by decide)).1
  have ebw0 : db_bw b0 4 = db_bw b 4 := dv_bw_e (f0.1 676 (by decide)).2
  have hw0 : ∀ f, f < 2 → ∀ (s : db_S) (v : Int32), db_wI s (164 + k) (nI f) v = some (db_uI s (164 + k) f v) := fun f hf s v => db_h_164 hkm hf
  have hr0 : ∀ f, f < 2 → ∀ s : db_S, db_rI s (164 + k) (nI f) = some (s.1 (164 + k) f) := fun f hf s => db_g_164 hkm hf
  have hne : ¬ nI k = nI 12 := by rw [nI_eq (by omega) (by omega)]; omega
  unfold db_f75 db_f271 db_f271_b25
  simp (disch := omega) only [db_lit, eq_self, db_pI_e, db_pL_e, db_bind_some, db_bd_some, nI_add, pk_mul, nI_toInt, db_m1_t, dz_cn, Int.ofNat_le, Int.ofNat_lt, decide_true, decide_false, db_ct, db_cf, not_true_eq_false, not_false_eq_true, db_87e, db_37e, db_31e, db_28e, db_281e, db_211e, db_27, db_269w, db_litL, pk_lT, db_iL, db_p0_e, db_p0_n, db_p0_j, db_sub1, nI_eq, if_true, if_false, Bool.false_eq_true, Nat.one_ne_zero, db_g_147, e147, db_q_163, db_g_674, e1924, hne, h0, Nat.le_refl, eb0]
  have hL0 : dv_Lk_146 a b0 3 := dv_Lk_D (by rw [ebk0, ebw0]; exact hD) (by omega) (by omega)
  obtain ⟨r, a2, v1, b2, e1, e2, hh⟩ := dv_oName_146 (q := 3) (g := 3) (d := 164 + k) (f := 0) (by omega) rfl (by omega) (by omega) (hw0 0 (by omega)) (hr0 0 (by omega)) hC r0 h00 hL0
  rcases hh with ⟨rfl, ⟨one, hone, rfl⟩, g1, g2, g3, g4, g5⟩ | ⟨rfl, rfl, g1, g2, g3⟩
  · have h02 : b2.1 669 12 = nI 0 := by rw [g5.2.1 12 (by omega)]; exact h00
    obtain ⟨r, a3, b3, e3, e4, hh⟩ := dv_oTake (j := 15) g3 g4 h02 (by omega)
    have hx := dv_x15 g4
    rcases hh with ⟨rfl, k1, k2, k3, k4⟩ | ⟨rfl, k1, k2, k3⟩
    · have h03 : b3.1 669 12 = nI 0 := by rw [k4.2.1 12 (by omega)]; exact h02
      have ebk3 : db_bk b3 4 = db_bk b 4 := by rw [dv_bk_e (k4.1 674 (by decide)).1, dv_bk_e (g5.1 674 (by decide)).1, ebk0]
      have ebw3 : db_bw b3 4 = db_bw b 4 := by rw [dv_bw_e (k4.1 676 (by decide)).2, dv_bw_e (g5.1 676 (by decide)).2, ebw0]
      have a3c : ∀ p, p ≠ 164 + k → p ≠ 13 → a3.1 p = a.1 p := fun p p1 p2 => by rw [k1, db_uI_n p2, g2.1 p p1 p2]
      have a32 : a3.2 = a.2 := by rw [k1, db_uI_2, g2.2.1]
      have a30 : a3.1 (164 + k) 0 = nI one := by rw [k1, db_uI_n (by omega)]; exact g1
      have hFa3 : dv_Fa a a3 := by
        refine ⟨fun p p1 p2 => ⟨a3c p (by omega) p1, by rw [a32]⟩, fun j j1 j2 j3 => ?_, by rw [a32]⟩
        rw [k1, db_uI_j j3, g2.2.2.1 j j3]
      have hFb3 : dv_Fb b b3 := dv_Fb_t (dv_Fb_n f0) (dv_Fb_t (dv_Fb_n g5) (dv_Fb_n k4))
      have hL3 : dv_Lk_146 a3 b3 3 := dv_Lk_c_146 hL0 (by rw [a32]) (a3c 203 (by omega) (by omega)) (a3c 204 (by omega) (by omega)) (by rw [a3c 146 (by omega) (by omega)]) (by rw [ebk3, ebk0]) (by rw [ebw3, ebw0])
      have h70 := dv_70_146 (q := 3) (d := 164 + k) (f := 1) (by omega) (by omega) (hw0 1 (by omega)) (hr0 1 (by omega)) k2 hL3
      cases hm : dv_nm x n (i + 1 + 1 + 1) with
      | false =>
        have e266 := dv_266f_4 (g := 3) k3 h03 hm
        rw [hm, if_neg (by decide)] at h70
        have hB := dv_fb_B (x := x) (n := n) (i := i + 1 + 1 + 1) (b := b3) (f := 2) (by omega) (by omega)
        refine ⟨false, _, _, ?_, ?_, .inr ⟨rfl, dv_Fl_f (x := x) (n := n) (i := i + 1 + 1 + 1) (f := 2) (a := a3) (b := b3) (by omega) (by omega), dv_Fa_fa hFa3, dv_Fb_fb hFb3⟩⟩
        · simp (disch := omega) only [db_lit, eq_self, db_pI_e, db_pL_e, db_bind_some, db_bd_some, nI_add, pk_mul, nI_toInt, db_m1_t, dz_cn, Int.ofNat_le, Int.ofNat_lt, decide_true, decide_false, db_ct, db_cf, not_true_eq_false, not_false_eq_true, db_87e, db_37e, db_31e, db_28e, db_281e, db_211e, db_27, db_269w, db_litL, pk_lT, db_iL, db_p0_e, db_p0_n, db_p0_j, db_sub1, nI_eq, if_true, if_false, Bool.false_eq_true, Nat.one_ne_zero, e1, e3, h70]
        · simp (disch := omega) only [db_lit, eq_self, db_pI_e, db_pL_e, db_bind_some, db_bd_some, nI_add, pk_mul, nI_toInt, db_m1_t, dz_cn, Int.ofNat_le, Int.ofNat_lt, decide_true, decide_false, db_ct, db_cf, not_true_eq_false, not_false_eq_true, db_87e, db_37e, db_31e, db_28e, db_281e, db_211e, db_27, db_269w, db_litL, pk_lT, db_iL, db_p0_e, db_p0_n, db_p0_j, db_sub1, nI_eq, if_true, if_false, Bool.false_eq_true, Nat.one_ne_zero, e2, hx, e4, e266, dv_62b hkm hB]
      | true =>
        rw [hm, if_pos rfl] at h70
        have e266 := dv_266_4 (q := 3) (g := 3) (by omega) rfl (by omega) k3 h03 hm hL3.2.1 hL3.2.2.1
        obtain ⟨hk1, -⟩ := dv_n_L hm
        cases e : db_nm (db_bk b3 4) (db_bw b3 4) (dv_L x n (dv_P x n (i + 1 + 1 + 1))) 3 with
        | none =>
          rw [e] at h70 e266
          have hB := dv_fb_B (x := x) (n := n) (i := i + 1 + 1 + 1) (b := b3) (f := 3) (by omega) (by omega)
          refine ⟨false, _, _, ?_, ?_, .inr ⟨rfl, dv_Fl_f (x := x) (n := n) (i := i + 1 + 1 + 1) (f := 3) (a := db_uI a3 (164 + k) 1 (-(nI 1))) (b := b3) (by omega) (by omega), dv_Fa_fa (dv_Fa_u hFa3 (.inl (by omega))), dv_Fb_fb hFb3⟩⟩
          · simp (disch := omega) only [db_lit, eq_self, db_pI_e, db_pL_e, db_bind_some, db_bd_some, nI_add, pk_mul, nI_toInt, db_m1_t, dz_cn, Int.ofNat_le, Int.ofNat_lt, decide_true, decide_false, db_ct, db_cf, not_true_eq_false, not_false_eq_true, db_87e, db_37e, db_31e, db_28e, db_281e, db_211e, db_27, db_269w, db_litL, pk_lT, db_iL, db_p0_e, db_p0_n, db_p0_j, db_sub1, nI_eq, if_true, if_false, Bool.false_eq_true, Nat.one_ne_zero, e1, e3, h70]
          · simp (disch := omega) only [db_lit, eq_self, db_pI_e, db_pL_e, db_bind_some, db_bd_some, nI_add, pk_mul, nI_toInt, db_m1_t, dz_cn, Int.ofNat_le, Int.ofNat_lt, decide_true, decide_false, db_ct, db_cf, not_true_eq_false, not_false_eq_true, db_87e, db_37e, db_31e, db_28e, db_281e, db_211e, db_27, db_269w, db_litL, pk_lT, db_iL, db_p0_e, db_p0_n, db_p0_j, db_sub1, nI_eq, if_true, if_false, Bool.false_eq_true, Nat.one_ne_zero, e2, hx, e4, e266, dv_62b hkm hB]
        | some oth =>
          rw [e] at h70 e266
          have hoth := db_fst_lt e
          have h70 : db_f70_146 a3 (nI 3) (164 + k) (nI 1) = some (true, db_uI a3 (164 + k) 1 (nI oth)) := h70
          have e266 : db_f266 b3 (nI 4) (nI 3) = some (nI oth, b3) := e266
          have hC4 : dv_CT x n (i + 1 + 1 + 1) (db_uI a3 (164 + k) 1 (nI oth)) := dv_CT_u k2 (by omega)
          have q0 : (db_uI a3 (164 + k) 1 (nI oth)).1 (164 + k) 0 = nI one := by rw [db_uI_j (by decide)]; exact a30
          have q1 : (db_uI a3 (164 + k) 1 (nI oth)).1 (164 + k) 1 = nI oth := db_uI_1
          have q4 : (db_uI a3 (164 + k) 1 (nI oth)).1 147 4 = nI k := by rw [db_uI_n (by omega), a3c 147 (by omega) (by omega)]; exact e147
          have hold : ∀ j, j < k → ∀ y, (db_uI a3 (164 + k) 1 (nI oth)).1 (164 + j) y = a.1 (164 + j) y := fun j hj y => by rw [db_uI_n (by omega), a3c (164 + j) (by omega) (by omega)]
          have ek : db_n (db_bk b 4) 4 = k := dw_nI_n hk (by omega)
          have hD5 := hD.2.2.2.2.2.1
          have e76 := dv_76 (a := db_uI a3 (164 + k) 1 (nI oth)) (N0 := fun j => db_bk b 4 (103 + j)) (N1 := fun j => db_bk b 4 (115 + j)) (u := nI one) (v := nI oth) (k := k) (by omega) q4 (fun j hj => by rw [hold j hj]; exact (hD5 j (by omega)).1.1) (fun j hj => by rw [hold j hj]; exact (hD5 j (by omega)).1.2)
          have e271 := dv_271l (k := k) (u := nI one) (v := nI oth) (by omega) k3 h03 (by omega) k 0 db_FU (by omega) (by unfold db_FU; omega) (fun p hp => absurd hp (by omega))
          rw [ebk3] at e271
          cases hex : db_ex (fun p => decide (db_bk b 4 (103 + p) = nI one) && decide (db_bk b 4 (115 + p) = nI oth)) k with
          | true =>
            rw [hex, if_pos rfl] at e271
            have hB := dv_fb_B (x := x) (n := n) (i := i + 1 + 1 + 1) (b := b3) (f := 5) (by omega) (by omega)
            rw [dv_120b hkm hB] at e271
            refine ⟨false, _, _, ?_, ?_, .inr ⟨rfl, dv_Fl_f (x := x) (n := n) (i := i + 1 + 1 + 1) (f := 5) (a := db_uI a3 (164 + k) 1 (nI oth)) (b := b3) (by omega) (by omega), dv_Fa_fa (dv_Fa_u hFa3 (.inl (by omega))), dv_Fb_fb hFb3⟩⟩
            · simp (disch := omega) only [db_lit, eq_self, db_pI_e, db_pL_e, db_bind_some, db_bd_some, nI_add, pk_mul, nI_toInt, db_m1_t, dz_cn, Int.ofNat_le, Int.ofNat_lt, decide_true, decide_false, db_ct, db_cf, not_true_eq_false, not_false_eq_true, db_87e, db_37e, db_31e, db_28e, db_281e, db_211e, db_27, db_269w, db_litL, pk_lT, db_iL, db_p0_e, db_p0_n, db_p0_j, db_sub1, nI_eq, if_true, if_false, Bool.false_eq_true, Nat.one_ne_zero, e1, e3, h70, hr0, q0, q1, e76, hex, dv_58 hC4 5]
            · simp (disch := omega) only [db_lit, eq_self, db_pI_e, db_pL_e, db_bind_some, db_bd_some, nI_add, pk_mul, nI_toInt, db_m1_t, dz_cn, Int.ofNat_le, Int.ofNat_lt, decide_true, decide_false, db_ct, db_cf, not_true_eq_false, not_false_eq_true, db_87e, db_37e, db_31e, db_28e, db_281e, db_211e, db_27, db_269w, db_litL, pk_lT, db_iL, db_p0_e, db_p0_n, db_p0_j, db_sub1, nI_eq, if_true, if_false, Bool.false_eq_true, Nat.one_ne_zero, e2, hx, e4, e266, e271]
          | false =>
            rw [hex, if_neg (by decide)] at e271
            obtain ⟨b4, eb4, r4, f4⟩ := dv_264t k3 h03
            have h04 : b4.1 669 12 = nI 0 := by rw [f4.2.1 12 (by omega)]; exact h03
            have g1924 : ∀ v1 v2, (db_uI (db_uI b4 674 (2023 + k) v1) 674 (2035 + k) v2).1 674 1924 = nI k := fun v1 v2 => by
              rw [db_uI_j (by omega), db_uI_j (by omega), (f4.1 674 (by decide)).1, show (1924 : Nat) = 1920 + 4 from rfl, dv_bk_4 (by omega), ebk3]; exact hk
            have hC5 : dv_CT x n (i + 1 + 1 + 1) (db_uI (db_uI a3 (164 + k) 1 (nI oth)) 147 4 (nI (k + 1))) := dv_CT_u hC4 (by omega)
            have e120 : db_f271_b120 b3 (nI k) (nI one) (nI oth) = some (db_uI (db_uI (db_uI b4 674 (2023 + k) (nI one)) 674 (2035 + k) (nI oth)) 674 1924 (nI (k + 1))) := by
              unfold db_f271_b120
              simp (disch := omega) only [db_lit, eq_self, db_pI_e, db_pL_e, db_bind_some, db_bd_some, nI_add, pk_mul, nI_toInt, db_m1_t, dz_cn, Int.ofNat_le, Int.ofNat_lt, decide_true, decide_false, db_ct, db_cf, not_true_eq_false, not_false_eq_true, db_87e, db_37e, db_31e, db_28e, db_281e, db_211e, db_27, db_269w, db_litL, pk_lT, db_iL, db_p0_e, db_p0_n, db_p0_j, db_sub1, nI_eq, if_true, if_false, Bool.false_eq_true, Nat.one_ne_zero, eb4, h04, Nat.le_refl, db_h_674, db_g_674, g1924]
            rw [e120] at e271
            refine ⟨true, db_uI (db_uI (db_uI a3 (164 + k) 1 (nI oth)) 147 4 (nI (k + 1))) 13 9 (nI (i + 1 + 1 + 1 + 1)), db_uI (db_uI (db_uI b4 674 (2023 + k) (nI one)) 674 (2035 + k) (nI oth)) 674 1924 (nI (k + 1)), ?_, ?_, .inl ⟨rfl, ⟨i + 1 + 1 + 1 + 1, by omega, dv_CT_s hC5 (by omega), dv_RT_4 (dv_RT_4 (dv_RT_4 r4))⟩, ?_, ?_, dv_Fa_u (dv_Fa_u (dv_Fa_u hFa3 (.inl (by omega))) (.inl (by omega))) (.inr (by omega)), dv_Fb_4 (dv_Fb_4 (dv_Fb_4 (dv_Fb_t hFb3 (dv_Fb_n f4)) (by omega)) (by omega)) (by omega)⟩⟩
            · simp (disch := omega) only [db_lit, eq_self, db_pI_e, db_pL_e, db_bind_some, db_bd_some, nI_add, pk_mul, nI_toInt, db_m1_t, dz_cn, Int.ofNat_le, Int.ofNat_lt, decide_true, decide_false, db_ct, db_cf, not_true_eq_false, not_false_eq_true, db_87e, db_37e, db_31e, db_28e, db_281e, db_211e, db_27, db_269w, db_litL, pk_lT, db_iL, db_p0_e, db_p0_n, db_p0_j, db_sub1, nI_eq, if_true, if_false, Bool.false_eq_true, Nat.one_ne_zero, e1, e3, h70, hr0, q0, q1, e76, hex, db_g_147, q4, db_h_147, dv_60 hC5 (show ¬ dv_kd x n (i + 1 + 1 + 1) = 0 by omega)]
            · simp (disch := omega) only [db_lit, eq_self, db_pI_e, db_pL_e, db_bind_some, db_bd_some, nI_add, pk_mul, nI_toInt, db_m1_t, dz_cn, Int.ofNat_le, Int.ofNat_lt, decide_true, decide_false, db_ct, db_cf, not_true_eq_false, not_false_eq_true, db_87e, db_37e, db_31e, db_28e, db_281e, db_211e, db_27, db_269w, db_litL, pk_lT, db_iL, db_p0_e, db_p0_n, db_p0_j, db_sub1, nI_eq, if_true, if_false, Bool.false_eq_true, Nat.one_ne_zero, e2, hx, e4, e266, e271]
            · rw [db_uI_n (by decide), db_uI_n (by decide), db_uI_n (by decide)]
              exact h04
            · have ec : db_bk (db_uI (db_uI (db_uI b4 674 (2023 + k) (nI one)) 674 (2035 + k) (nI oth)) 674 1924 (nI (k + 1))) 4 = db_cu (db_cu (db_cu (db_bk b 4) (103 + k) (nI one)) (115 + k) (nI oth)) 4 (nI (k + 1)) := by
                rw [show (1924 : Nat) = 1920 + 4 from rfl, dv_bk_u (by omega), show 2035 + k = 1920 + (115 + k) by omega, dv_bk_u (by omega), show 2023 + k = 1920 + (103 + k) by omega, dv_bk_u (by omega), dv_bk_e (f4.1 674 (by decide)).1, ebk3]
              have ew : db_bw (db_uI (db_uI (db_uI b4 674 (2023 + k) (nI one)) 674 (2035 + k) (nI oth)) 674 1924 (nI (k + 1))) 4 = db_bw b 4 := by
                rw [← ebw3]
                exact dv_bw_e (by rw [db_uI_2, db_uI_2, db_uI_2, (f4.1 676 (by decide)).2])
              have af : ∀ p, p ≠ 164 + k → p ≠ 147 → p ≠ 13 → (db_uI (db_uI (db_uI a3 (164 + k) 1 (nI oth)) 147 4 (nI (k + 1))) 13 9 (nI (i + 1 + 1 + 1 + 1))).1 p = a.1 p := fun p p1 p2 p3 => by
                rw [db_uI_n p3, db_uI_n p2, db_uI_n p1, a3c p p1 p3]
              have w1 : db_cu (db_cu (db_cu (db_bk b 4) (103 + k) (nI one)) (115 + k) (nI oth)) 4 (nI (k + 1)) (103 + k) = nI one := by rw [db_cu_n (by omega), db_cu_n (by omega), db_cu_1]
              have w2 : db_cu (db_cu (db_cu (db_bk b 4) (103 + k) (nI one)) (115 + k) (nI oth)) 4 (nI (k + 1)) (115 + k) = nI oth := by rw [db_cu_n (by omega), db_cu_1]
              have wc : ∀ j, j ≠ 4 → j ≠ 103 + k → j ≠ 115 + k → db_cu (db_cu (db_cu (db_bk b 4) (103 + k) (nI one)) (115 + k) (nI oth)) 4 (nI (k + 1)) j = db_bk b 4 j := fun j j1 j2 j3 => by rw [db_cu_n j1, db_cu_n j3, db_cu_n j2]
              rw [ec, ew]
              refine dv_DR_s (q0 := 4) (k := k) hD (by omega) hk hkm db_cu_1 (fun q h1 h => wc q h (by omega) (by omega)) (fun j h1 h2 h3 => ?_) ?_ (fun q h1 h => ?_) (fun p j h1 h2 h3 => ?_) (dv_Nm_4 hD.2.2.2.2.2.2.2.1 (fun q h1 h => wc q h (by omega) (by omega)) ?_ ?_ ?_ ?_) (fun h => absurd h (by decide)) (fun h => absurd h (by decide)) (fun h => absurd h (by decide)) (fun _ => ?_) (fun h => absurd h (by decide))
              · unfold dv_Nw at h3
                exact wc j (by omega) (by omega) (by omega)
              · rw [db_uI_n (by omega), db_uI_1]
              · rw [db_uI_n (by omega), db_uI_j h, db_uI_n (by omega), a3c 147 (by omega) (by omega)]
              · unfold dv_Na at h3
                rw [af p (by omega) (by omega) (by omega)]
              · rw [af 146 (by omega) (by omega) (by omega)]
              · rw [db_uI_2, db_uI_2, db_uI_2, a32]
              · rw [af 203 (by omega) (by omega) (by omega)]
              · rw [af 204 (by omega) (by omega) (by omega)]
              · rw [w1, w2, db_uI_n (by omega), db_uI_n (by omega), q0, q1]
                exact ⟨⟨rfl, rfl⟩, ⟨one, by rw [← ebk0]; exact hone, rfl⟩, ⟨oth, by rw [← ebk3]; exact hoth, rfl⟩⟩
    · refine ⟨false, a3, b3, ?_, ?_, .inr ⟨rfl, k1, dv_Fa_t ?_ k2, dv_Fb_t (dv_Fb_n f0) (dv_Fb_t (dv_Fb_n g5) k3)⟩⟩
      · simp (disch := omega) only [db_lit, eq_self, db_pI_e, db_pL_e, db_bind_some, db_bd_some, nI_add, pk_mul, nI_toInt, db_m1_t, dz_cn, Int.ofNat_le, Int.ofNat_lt, decide_true, decide_false, db_ct, db_cf, not_true_eq_false, not_false_eq_true, db_87e, db_37e, db_31e, db_28e, db_281e, db_211e, db_27, db_269w, db_litL, pk_lT, db_iL, db_p0_e, db_p0_n, db_p0_j, db_sub1, nI_eq, if_true, if_false, Bool.false_eq_true, Nat.one_ne_zero, e1, e3]
      · simp (disch := omega) only [db_lit, eq_self, db_pI_e, db_pL_e, db_bind_some, db_bd_some, nI_add, pk_mul, nI_toInt, db_m1_t, dz_cn, Int.ofNat_le, Int.ofNat_lt, decide_true, decide_false, db_ct, db_cf, not_true_eq_false, not_false_eq_true, db_87e, db_37e, db_31e, db_28e, db_281e, db_211e, db_27, db_269w, db_litL, pk_lT, db_iL, db_p0_e, db_p0_n, db_p0_j, db_sub1, nI_eq, if_true, if_false, Bool.false_eq_true, Nat.one_ne_zero, e2, hx, e4, dv_266b k1.1, dv_62b hkm k1.1]
      · exact ⟨fun p p1 p2 => ⟨g2.1 p (by omega) p1, by rw [g2.2.1]⟩, fun j j1 j2 j3 => g2.2.2.1 j j3, by rw [g2.2.1]⟩
  · obtain ⟨p, hp⟩ := dv_y15 (b := b2)
    refine ⟨false, a2, b2, ?_, ?_, .inr ⟨rfl, g1, g2, dv_Fb_t (dv_Fb_n f0) g3⟩⟩
    · simp (disch := omega) only [db_lit, eq_self, db_pI_e, db_pL_e, db_bind_some, db_bd_some, nI_add, pk_mul, nI_toInt, db_m1_t, dz_cn, Int.ofNat_le, Int.ofNat_lt, decide_true, decide_false, db_ct, db_cf, not_true_eq_false, not_false_eq_true, db_87e, db_37e, db_31e, db_28e, db_281e, db_211e, db_27, db_269w, db_litL, pk_lT, db_iL, db_p0_e, db_p0_n, db_p0_j, db_sub1, nI_eq, if_true, if_false, Bool.false_eq_true, Nat.one_ne_zero, e1]
    · simp (disch := omega) only [db_lit, eq_self, db_pI_e, db_pL_e, db_bind_some, db_bd_some, nI_add, pk_mul, nI_toInt, db_m1_t, dz_cn, Int.ofNat_le, Int.ofNat_lt, decide_true, decide_false, db_ct, db_cf, not_true_eq_false, not_false_eq_true, db_87e, db_37e, db_31e, db_28e, db_281e, db_211e, db_27, db_269w, db_litL, pk_lT, db_iL, db_p0_e, db_p0_n, db_p0_j, db_sub1, nI_eq, if_true, if_false, Bool.false_eq_true, Nat.one_ne_zero, e2, hp, dv_264b g1.1, dv_266b g1.1, dv_62b hkm g1.1]
end DVNT
