/-! NAMES, NUMBERS, SIGNS -/
section DVNA
variable {a b : db_S} {x : Nat → Int32} {n i : Nat} {y : Int32} {l : Int64}

/-! NAMES in the class's book at 146, in the reference's block 4 -/
theorem dv_71_146 {m q : Nat} (hm : m ≤ 37) (h18 : a.1 146 18 = nI m) : db_f71_146 a l (nI q) = some (db_nc (a.2 202) (a.1 203) (a.1 204) m l q) := by
  unfold db_f71_146
  have h := db_srch (L := fun f i => db_f71_146_b3 a f l (nI q) (nI i)) (N := m) (fun i => decide (a.2 202 i = l) && decide (a.1 203 i = nI q)) (fun o => o.elim (-(nI 1)) (fun i => a.1 204 i)) ?_ ?_ (n := db_FU) (by unfold db_FU; omega)
  · refine h.trans ?_
    unfold db_nc
    cases db_fst (fun i => decide (a.2 202 i = l) && decide (a.1 203 i = nI q)) m <;> rfl
  · intro f
    show db_f71_146_b3 a (f + 1) l (nI q) (nI m) = _
    rw [db_f71_146_b3]
    simp (disch := omega) only [db_lit, eq_self, db_pI_e, db_pL_e, db_bind_some, db_bd_some, nI_add, pk_mul, nI_toInt, db_m1_t, dz_cn, Int.ofNat_le, Int.ofNat_lt, decide_true, decide_false, db_ct, db_cf, not_true_eq_false, not_false_eq_true, h18, Nat.le_refl]
    rfl
  · intro f i hi
    show db_f71_146_b3 a (f + 1) l (nI q) (nI i) = cond _ _ (db_f71_146_b3 a f l (nI q) (nI (i + 1)))
    rw [db_f71_146_b3]
    unfold db_f71_146_b43
    simp (disch := omega) only [db_lit, eq_self, db_pI_e, db_pL_e, db_bind_some, db_bd_some, nI_add, pk_mul, nI_toInt, db_m1_t, dz_cn, Int.ofNat_le, Int.ofNat_lt, decide_true, decide_false, db_ct, db_cf, not_true_eq_false, not_false_eq_true, h18, (show ¬ m ≤ i by omega), db_g_202, db_g_203, db_g_204, dv_lc]
    by_cases e1 : a.2 202 i = l
    · rw [decide_eq_true e1, decide_eq_false (fun h => h e1), db_cf, Bool.true_and]
      by_cases e2 : a.1 203 i = nI q
      · rw [decide_eq_true e2, decide_eq_false (fun h => h e2)]
        rfl
      · rw [decide_eq_false e2, decide_eq_true e2]
        rfl
    · rw [decide_eq_false e1, decide_eq_true e1, db_ct, Bool.false_and]
      rfl
/-- names of a sort are the same in both -/
def dv_Lk_146 (a b : db_S) (q : Nat) : Prop := (∃ m, m ≤ 37 ∧ a.1 146 18 = nI m ∧ ∀ l, db_nc (a.2 202) (a.1 203) (a.1 204) m l q = db_o (db_nm (db_bk b 4) (db_bw b 4) l q)) ∧ db_bk b 4 q = nI (db_n (db_bk b 4) q) ∧ db_fr q + db_n (db_bk b 4) q ≤ 37 ∧ db_n (db_bk b 4) q ≤ 12
theorem dv_Lk_c_146 {a1 b1 : db_S} {q : Nat} (h : dv_Lk_146 a b q) (h1 : a1.2 202 = a.2 202) (h2 : a1.1 203 = a.1 203) (h3 : a1.1 204 = a.1 204) (h4 : a1.1 146 18 = a.1 146 18) (h5 : db_bk b1 4 q = db_bk b 4 q) (h6 : db_bw b1 4 = db_bw b 4) : dv_Lk_146 a1 b1 q := by
  obtain ⟨⟨m, m1, m2, m3⟩, c1, c2, c3⟩ := h
  have en : db_n (db_bk b1 4) q = db_n (db_bk b 4) q := by unfold db_n; rw [h5]
  refine ⟨⟨m, m1, h4.trans m2, fun l => ?_⟩, by rw [h5, en]; exact c1, by rw [en]; exact c2, by rw [en]; exact c3⟩
  rw [h1, h2, h3, m3 l, h6]
  unfold db_nm
  rw [en]
theorem dv_233_4 {q g : Nat} (hq : q < 6) (hg : q = if g = 4 then 5 else g) (hg4 : g ≤ 4) : db_f233 b (nI 4) (nI g) = some (db_bk b 4 q) := by
  unfold db_f233
  have e : db_bk b 4 q = b.1 674 (480 * 4 + q) := by unfold db_bk; rw [if_pos (by omega)]
  rw [e]
  by_cases h4 : g = 4
  · rw [if_pos h4] at hg
    subst hg
    simp (disch := omega) only [db_lit, eq_self, db_pI_e, db_pL_e, db_bind_some, db_bd_some, nI_add, pk_mul, nI_toInt, db_m1_t, dz_cn, Int.ofNat_le, Int.ofNat_lt, decide_true, decide_false, db_ct, db_cf, not_true_eq_false, not_false_eq_true, (show 4 ≤ g by omega), db_g_674]
  · rw [if_neg h4] at hg
    subst hg
    simp (disch := omega) only [db_lit, eq_self, db_pI_e, db_pL_e, db_bind_some, db_bd_some, nI_add, pk_mul, nI_toInt, db_m1_t, dz_cn, Int.ofNat_le, Int.ofNat_lt, decide_true, decide_false, db_ct, db_cf, not_true_eq_false, not_false_eq_true, (show ¬ 4 ≤ q by omega), db_g_674]
theorem dv_259_4 {q g : Nat} (hq : q < 6) (hg : q = if g = 4 then 5 else g) (hg4 : g ≤ 4) (hc : db_bk b 4 q = nI (db_n (db_bk b 4) q)) (hn : db_fr q + db_n (db_bk b 4) q ≤ 37) : db_f259 b (nI 4) (nI g) = some (db_o (db_nm (db_bk b 4) (db_bw b 4) (b.2 669 19) q)) := by
  have e260 : db_f260 b (nI g) = some (nI (db_fr q)) := by
    unfold db_f260 db_fr
    rcases (by omega : g = 0 ∨ g = 1 ∨ g = 2 ∨ g = 3 ∨ g = 4) with rfl | rfl | rfl | rfl | rfl <;> (simp at hg; subst hg; rfl)
  unfold db_f259 db_nm
  refine db_srch (L := fun f k => db_f259_b2 b f (nI 4) (nI g) (nI k)) (N := db_n (db_bk b 4) q) (fun k => decide (db_bw b 4 (db_fr q + k) = b.2 669 19)) db_o ?_ ?_ (n := db_FU) (by unfold db_FU; omega)
  · intro f
    show db_f259_b2 b (f + 1) (nI 4) (nI g) (nI (db_n (db_bk b 4) q)) = _
    rw [db_f259_b2, dv_233_4 hq hg hg4, hc, dw_nI_n hc (by omega)]
    simp (disch := omega) only [db_lit, eq_self, db_pI_e, db_pL_e, db_bind_some, db_bd_some, nI_add, pk_mul, nI_toInt, db_m1_t, dz_cn, Int.ofNat_le, Int.ofNat_lt, decide_true, decide_false, db_ct, db_cf, not_true_eq_false, not_false_eq_true, Nat.le_refl]
    rfl
  · intro f k hk
    show db_f259_b2 b (f + 1) (nI 4) (nI g) (nI k) = cond _ _ (db_f259_b2 b f (nI 4) (nI g) (nI (k + 1)))
    have ew : db_bw b 4 (db_fr q + k) = b.2 676 (37 * 4 + (db_fr q + k)) := by unfold db_bw; rw [if_pos (by omega)]
    rw [db_f259_b2, dv_233_4 hq hg hg4, hc, ew]
    simp (disch := omega) only [db_lit, eq_self, db_pI_e, db_pL_e, db_bind_some, db_bd_some, nI_add, pk_mul, nI_toInt, db_m1_t, dz_cn, Int.ofNat_le, Int.ofNat_lt, decide_true, decide_false, db_ct, db_cf, not_true_eq_false, not_false_eq_true, (show ¬ db_n (db_bk b 4) q ≤ k by omega), e260, db_g_676, dv_lc]
    rw [show 37 * 4 + db_fr q + k = 37 * 4 + (db_fr q + k) by omega]
    by_cases e : b.2 676 (37 * 4 + (db_fr q + k)) = b.2 669 19
    · rw [decide_eq_true e, decide_eq_false (fun h => h e)]
      rfl
    · rw [decide_eq_false e, decide_eq_true e]
      rfl
/-- the reference takes a name -/
theorem dv_266f_4 {g : Nat} (h : dv_RT x n i b) (h0 : b.1 669 12 = nI 0) (hm : dv_nm x n i = false) : db_f266 b (nI 4) (nI g) = some (nI 0, dv_fb x n i 2 b) := by
  obtain ⟨f, f1, f2, f3⟩ := dv_fb_B (x := x) (n := n) (i := i) (b := b) (f := 2) (by omega) (by omega)
  unfold db_f266 db_f266_b18
  simp (disch := omega) only [db_lit, eq_self, db_pI_e, db_pL_e, db_bind_some, db_bd_some, nI_add, pk_mul, nI_toInt, db_m1_t, dz_cn, Int.ofNat_le, Int.ofNat_lt, decide_true, decide_false, db_ct, db_cf, not_true_eq_false, not_false_eq_true, db_87e, db_37e, db_31e, db_28e, db_281e, db_211e, db_27, db_269w, db_litL, pk_lT, db_iL, db_p0_e, db_p0_n, db_p0_j, db_sub1, nI_eq, if_true, if_false, Bool.false_eq_true, Nat.one_ne_zero, h0, dv_235 h, hm, dv_257 h h0, f3, (show ¬ f ≤ 0 by omega)]
theorem dv_266_4 {q g : Nat} (hq : q < 6) (hg : q = if g = 4 then 5 else g) (hg4 : g ≤ 4) (h : dv_RT x n i b) (h0 : b.1 669 12 = nI 0) (hm : dv_nm x n i = true) (hc : db_bk b 4 q = nI (db_n (db_bk b 4) q)) (hn : db_fr q + db_n (db_bk b 4) q ≤ 37) : db_f266 b (nI 4) (nI g) = match db_nm (db_bk b 4) (db_bw b 4) (dv_L x n (dv_P x n i)) q with
    | none => some (nI 0, dv_fb x n i 3 b)
    | some k => some (nI k, b) := by
  obtain ⟨hk1, -⟩ := dv_n_L hm
  have hw : b.2 669 19 = dv_L x n (dv_P x n i) := (h.2.2.2.2.1 hk1).1
  have e259 := dv_259_4 hq hg hg4 hc hn
  rw [hw] at e259
  unfold db_f266 db_f266_b18 db_f266_b47
  simp (disch := omega) only [db_lit, eq_self, db_pI_e, db_pL_e, db_bind_some, db_bd_some, nI_add, pk_mul, nI_toInt, db_m1_t, dz_cn, Int.ofNat_le, Int.ofNat_lt, decide_true, decide_false, db_ct, db_cf, not_true_eq_false, not_false_eq_true, db_87e, db_37e, db_31e, db_28e, db_281e, db_211e, db_27, db_269w, db_litL, pk_lT, db_iL, db_p0_e, db_p0_n, db_p0_j, db_sub1, nI_eq, if_true, if_false, Bool.false_eq_true, Nat.one_ne_zero, h0, dv_235 h, hm, Nat.le_refl, e259]
  cases e : db_nm (db_bk b 4) (db_bw b 4) (dv_L x n (dv_P x n i)) q with
  | none =>
    have hmm : db_o none = -(nI 1) := rfl
    have e1 : ¬ ((0 : Nat) : Int) ≤ (-1 : Int) := by omega
    have e3 := dv_234i h h0 (f := 3) (by omega)
    simp (disch := omega) only [db_lit, eq_self, db_pI_e, db_pL_e, db_bind_some, db_bd_some, nI_add, pk_mul, nI_toInt, db_m1_t, dz_cn, Int.ofNat_le, Int.ofNat_lt, decide_true, decide_false, db_ct, db_cf, not_true_eq_false, not_false_eq_true, db_87e, db_37e, db_31e, db_28e, db_281e, db_211e, db_27, db_269w, db_litL, pk_lT, db_iL, db_p0_e, db_p0_n, db_p0_j, db_sub1, nI_eq, if_true, if_false, Bool.false_eq_true, Nat.one_ne_zero, hmm, e1, e3]
    rfl
  | some k =>
    have hk := db_fst_lt e
    have hmm : db_o (some k) = nI k := rfl
    have hkn : k < 37 := by omega
    simp (disch := omega) only [db_lit, eq_self, db_pI_e, db_pL_e, db_bind_some, db_bd_some, nI_add, pk_mul, nI_toInt, db_m1_t, dz_cn, Int.ofNat_le, Int.ofNat_lt, decide_true, decide_false, db_ct, db_cf, not_true_eq_false, not_false_eq_true, db_87e, db_37e, db_31e, db_28e, db_281e, db_211e, db_27, db_269w, db_litL, pk_lT, db_iL, db_p0_e, db_p0_n, db_p0_j, db_sub1, nI_eq, if_true, if_false, Bool.false_eq_true, Nat.one_ne_zero, hmm, Nat.zero_le]
    have : (if nI 0 < nI k then nI k else nI 0) = nI k := by
      by_cases e0 : k = 0
      · subst e0; rfl
      · rw [if_pos (by rw [fa_lt, nI_toInt (by omega), nI_toInt (by omega)]; omega)]
    rw [this]
/-- a name that must stand: the class's row d, field f -/
def dv_Fr (d f : Nat) (a z : db_S) : Prop := (∀ c, c ≠ d → c ≠ 13 → z.1 c = a.1 c) ∧ z.2 = a.2 ∧ (∀ j, j ≠ 9 → z.1 13 j = a.1 13 j) ∧ ∀ j, j ≠ f → z.1 d j = a.1 d j
theorem dv_70_146 {q d f : Nat} (hq : q < 6) (hd : 146 ≤ d ∧ d ≤ 270) (hw : ∀ (s : db_S) (v : Int32), db_wI s d (nI f) v = some (db_uI s d f v)) (hr : ∀ s : db_S, db_rI s d (nI f) = some (s.1 d f)) (hC : dv_CT x n i a) (hL : dv_Lk_146 a b q) : db_f70_146 a (nI q) d (nI f) = if dv_nm x n i = true then (match db_nm (db_bk b 4) (db_bw b 4) (dv_L x n (dv_P x n i)) q with
    | none => some (false, dv_fa x n i 3 (db_uI a d f (-(nI 1))))
    | some k => some (true, db_uI a d f (nI k))) else some (false, dv_fa x n i 2 a) := by
  obtain ⟨⟨m, m1, m2, m3⟩, c1, c2, c3⟩ := hL
  unfold db_f70_146
  cases hm : dv_nm x n i with
  | false =>
    rw [if_neg (by decide)]
    simp (disch := omega) only [db_lit, eq_self, db_pI_e, db_pL_e, db_bind_some, db_bd_some, nI_add, pk_mul, nI_toInt, db_m1_t, dz_cn, Int.ofNat_le, Int.ofNat_lt, decide_true, decide_false, db_ct, db_cf, not_true_eq_false, not_false_eq_true, db_87e, db_37e, db_31e, db_28e, db_281e, db_211e, db_27, db_269w, db_litL, pk_lT, db_iL, db_p0_e, db_p0_n, db_p0_j, db_sub1, nI_eq, if_true, if_false, Bool.false_eq_true, Nat.one_ne_zero, dv_62 hC, hm, dv_58 hC 2]
  | true =>
    rw [if_pos rfl]
    obtain ⟨hk1, -⟩ := dv_n_L hm
    have e71 := dv_71_146 (l := dv_L x n (dv_P x n i)) (q := q) m1 m2
    rw [m3] at e71
    rw [hC.2.1]
    simp (disch := omega) only [db_lit, eq_self, db_pI_e, db_pL_e, db_bind_some, db_bd_some, nI_add, pk_mul, nI_toInt, db_m1_t, dz_cn, Int.ofNat_le, Int.ofNat_lt, decide_true, decide_false, db_ct, db_cf, not_true_eq_false, not_false_eq_true, db_87e, db_37e, db_31e, db_28e, db_281e, db_211e, db_27, db_269w, db_litL, pk_lT, db_iL, db_p0_e, db_p0_n, db_p0_j, db_sub1, nI_eq, if_true, if_false, Bool.false_eq_true, Nat.one_ne_zero, dv_62 hC, hm, dv_g19 hC hk1, e71, hw, hr]
    cases e : db_nm (db_bk b 4) (db_bw b 4) (dv_L x n (dv_P x n i)) q with
    | none =>
      have hC' : dv_CT x n i (db_uI a d f (-(nI 1))) := dv_CT_u hC hd
      have e1 : (db_uI a d f (-(nI 1))).1 d f = -(nI 1) := db_uI_1
      have e2 : db_uI a d f (db_o none) = db_uI a d f (-(nI 1)) := rfl
      simp (disch := omega) only [db_lit, eq_self, db_pI_e, db_pL_e, db_bind_some, db_bd_some, nI_add, pk_mul, nI_toInt, db_m1_t, dz_cn, Int.ofNat_le, Int.ofNat_lt, decide_true, decide_false, db_ct, db_cf, not_true_eq_false, not_false_eq_true, db_87e, db_37e, db_31e, db_28e, db_281e, db_211e, db_27, db_269w, db_litL, pk_lT, db_iL, db_p0_e, db_p0_n, db_p0_j, db_sub1, nI_eq, if_true, if_false, Bool.false_eq_true, Nat.one_ne_zero, e1, e2, db_m1_l, dv_58 hC' 3]
    | some k =>
      have hk := db_fst_lt e
      have e1 : (db_uI a d f (nI k)).1 d f = nI k := db_uI_1
      have e2 : db_uI a d f (db_o (some k)) = db_uI a d f (nI k) := rfl
      have e3 := db_m1_ne (k := k) (by omega)
      simp (disch := omega) only [db_lit, eq_self, db_pI_e, db_pL_e, db_bind_some, db_bd_some, nI_add, pk_mul, nI_toInt, db_m1_t, dz_cn, Int.ofNat_le, Int.ofNat_lt, decide_true, decide_false, db_ct, db_cf, not_true_eq_false, not_false_eq_true, db_87e, db_37e, db_31e, db_28e, db_281e, db_211e, db_27, db_269w, db_litL, pk_lT, db_iL, db_p0_e, db_p0_n, db_p0_j, db_sub1, nI_eq, if_true, if_false, Bool.false_eq_true, Nat.one_ne_zero, e1, e2, db_m1_l, e3]
theorem dv_oName_146 {q g d f : Nat} (hq : q < 6) (hg : q = if g = 4 then 5 else g) (hg4 : g ≤ 4) (hd : 146 ≤ d ∧ d ≤ 270) (hw : ∀ (s : db_S) (v : Int32), db_wI s d (nI f) v = some (db_uI s d f v)) (hr : ∀ s : db_S, db_rI s d (nI f) = some (s.1 d f)) (hC : dv_CT x n i a) (hR : dv_RT x n i b) (h0 : b.1 669 12 = nI 0) (hL : dv_Lk_146 a b q) : ∃ r a1 v b1, db_f69_146 a (nI q) d (nI f) = some (r, a1) ∧ db_f265 b (nI 4) (nI g) = some (v, b1) ∧ ((r = true ∧ (∃ k, k < db_n (db_bk b 4) q ∧ v = nI k) ∧ a1.1 d f = v ∧ dv_Fr d f a a1 ∧ dv_CT x n (i + 1) a1 ∧ dv_RT x n (i + 1) b1 ∧ dv_Fn b b1) ∨ (r = false ∧ v = nI 0 ∧ dv_Fl a1 b1 ∧ dv_Fa a a1 ∧ dv_Fb b b1)) := by
  have h70 := dv_70_146 hq hd hw hr hC hL
  obtain ⟨-, c1, c2, c3⟩ := hL
  unfold db_f69_146 db_f265
  rw [h70]
  cases hm : dv_nm x n i with
  | false =>
    refine ⟨false, dv_fa x n i 2 a, nI 0, dv_fb x n i 2 b, ?_, ?_, .inr ⟨rfl, rfl, dv_Fl_f (by omega) (by omega), dv_Fa_fa dv_Fa_r, dv_Fb_fb dv_Fb_r⟩⟩
    · rw [if_neg (by decide)]
      rfl
    · simp (disch := omega) only [db_lit, eq_self, db_pI_e, db_pL_e, db_bind_some, db_bd_some, nI_add, pk_mul, nI_toInt, db_m1_t, dz_cn, Int.ofNat_le, Int.ofNat_lt, decide_true, decide_false, db_ct, db_cf, not_true_eq_false, not_false_eq_true, db_87e, db_37e, db_31e, db_28e, db_281e, db_211e, db_27, db_269w, db_litL, pk_lT, db_iL, db_p0_e, db_p0_n, db_p0_j, db_sub1, nI_eq, if_true, if_false, Bool.false_eq_true, Nat.one_ne_zero, dv_266f_4 hR h0 hm, dv_264b (dv_fb_B (x := x) (n := n) (i := i) (b := b) (f := 2) (by omega) (by omega))]
  | true =>
    rw [if_pos rfl]
    obtain ⟨hk1, -⟩ := dv_n_L hm
    have e266 := dv_266_4 hq hg hg4 hR h0 hm c1 c2
    cases e : db_nm (db_bk b 4) (db_bw b 4) (dv_L x n (dv_P x n i)) q with
    | none =>
      rw [e] at e266
      refine ⟨false, dv_fa x n i 3 (db_uI a d f (-(nI 1))), nI 0, dv_fb x n i 3 b, rfl, ?_, .inr ⟨rfl, rfl, dv_Fl_f (by omega) (by omega), dv_Fa_fa (dv_Fa_u dv_Fa_r (.inl hd)), dv_Fb_fb dv_Fb_r⟩⟩
      rw [e266]
      simp (disch := omega) only [db_lit, eq_self, db_pI_e, db_pL_e, db_bind_some, db_bd_some, nI_add, pk_mul, nI_toInt, db_m1_t, dz_cn, Int.ofNat_le, Int.ofNat_lt, decide_true, decide_false, db_ct, db_cf, not_true_eq_false, not_false_eq_true, db_87e, db_37e, db_31e, db_28e, db_281e, db_211e, db_27, db_269w, db_litL, pk_lT, db_iL, db_p0_e, db_p0_n, db_p0_j, db_sub1, nI_eq, if_true, if_false, Bool.false_eq_true, Nat.one_ne_zero, dv_264b (dv_fb_B (x := x) (n := n) (i := i) (b := b) (f := 3) (by omega) (by omega))]
    | some k =>
      rw [e] at e266
      have hk := db_fst_lt e
      obtain ⟨b1, eb1, r1, r2⟩ := dv_264t hR h0
      have hC' : dv_CT x n i (db_uI a d f (nI k)) := dv_CT_u hC hd
      refine ⟨true, db_uI (db_uI a d f (nI k)) 13 9 (nI (i + 1)), nI k, b1, ?_, ?_, .inl ⟨rfl, ⟨k, hk, rfl⟩, ?_, ⟨fun c h1 h2 => ?_, ?_, fun j hj => ?_, fun j hj => ?_⟩, dv_CT_s hC' (by omega), r1, r2⟩⟩
      · simp (disch := omega) only [db_lit, eq_self, db_pI_e, db_pL_e, db_bind_some, db_bd_some, nI_add, pk_mul, nI_toInt, db_m1_t, dz_cn, Int.ofNat_le, Int.ofNat_lt, decide_true, decide_false, db_ct, db_cf, not_true_eq_false, not_false_eq_true, db_87e, db_37e, db_31e, db_28e, db_281e, db_211e, db_27, db_269w, db_litL, pk_lT, db_iL, db_p0_e, db_p0_n, db_p0_j, db_sub1, nI_eq, if_true, if_false, Bool.false_eq_true, Nat.one_ne_zero, dv_60 hC' (by omega)]
      · rw [e266]
        simp (disch := omega) only [db_lit, eq_self, db_pI_e, db_pL_e, db_bind_some, db_bd_some, nI_add, pk_mul, nI_toInt, db_m1_t, dz_cn, Int.ofNat_le, Int.ofNat_lt, decide_true, decide_false, db_ct, db_cf, not_true_eq_false, not_false_eq_true, db_87e, db_37e, db_31e, db_28e, db_281e, db_211e, db_27, db_269w, db_litL, pk_lT, db_iL, db_p0_e, db_p0_n, db_p0_j, db_sub1, nI_eq, if_true, if_false, Bool.false_eq_true, Nat.one_ne_zero]
        rw [eb1]
        rfl
      · rw [db_uI_n (by omega), db_uI_1]
      · rw [db_uI_n h2, db_uI_n h1]
      · rfl
      · rw [db_uI_j hj, db_uI_n (by omega)]
      · rw [db_uI_n (by omega), db_uI_j hj]


/-! NAMES in the class's book at 20, in the reference's block 0 -/
theorem dv_71_20 {m q : Nat} (hm : m ≤ 37) (h18 : a.1 20 18 = nI m) : db_f71_20 a l (nI q) = some (db_nc (a.2 76) (a.1 77) (a.1 78) m l q) := by
  unfold db_f71_20
  have h := db_srch (L := fun f i => db_f71_20_b3 a f l (nI q) (nI i)) (N := m) (fun i => decide (a.2 76 i = l) && decide (a.1 77 i = nI q)) (fun o => o.elim (-(nI 1)) (fun i => a.1 78 i)) ?_ ?_ (n := db_FU) (by unfold db_FU; omega)
  · refine h.trans ?_
    unfold db_nc
    cases db_fst (fun i => decide (a.2 76 i = l) && decide (a.1 77 i = nI q)) m <;> rfl
  · intro f
    show db_f71_20_b3 a (f + 1) l (nI q) (nI m) = _
    rw [db_f71_20_b3]
    simp (disch := omega) only [db_lit, eq_self, db_pI_e, db_pL_e, db_bind_some, db_bd_some, nI_add, pk_mul, nI_toInt, db_m1_t, dz_cn, Int.ofNat_le, Int.ofNat_lt, decide_true, decide_false, db_ct, db_cf, not_true_eq_false, not_false_eq_true, h18, Nat.le_refl]
    rfl
  · intro f i hi
    show db_f71_20_b3 a (f + 1) l (nI q) (nI i) = cond _ _ (db_f71_20_b3 a f l (nI q) (nI (i + 1)))
    rw [db_f71_20_b3]
    unfold db_f71_20_b43
    simp (disch := omega) only [db_lit, eq_self, db_pI_e, db_pL_e, db_bind_some, db_bd_some, nI_add, pk_mul, nI_toInt, db_m1_t, dz_cn, Int.ofNat_le, Int.ofNat_lt, decide_true, decide_false, db_ct, db_cf, not_true_eq_false, not_false_eq_true, h18, (show ¬ m ≤ i by omega), db_g_76, db_g_77, db_g_78, dv_lc]
    by_cases e1 : a.2 76 i = l
    · rw [decide_eq_true e1, decide_eq_false (fun h => h e1), db_cf, Bool.true_and]
      by_cases e2 : a.1 77 i = nI q
      · rw [decide_eq_true e2, decide_eq_false (fun h => h e2)]
        rfl
      · rw [decide_eq_false e2, decide_eq_true e2]
        rfl
    · rw [decide_eq_false e1, decide_eq_true e1, db_ct, Bool.false_and]
      rfl
/-- names of a sort are the same in both -/
def dv_Lk_20 (a b : db_S) (q : Nat) : Prop := (∃ m, m ≤ 37 ∧ a.1 20 18 = nI m ∧ ∀ l, db_nc (a.2 76) (a.1 77) (a.1 78) m l q = db_o (db_nm (db_bk b 0) (db_bw b 0) l q)) ∧ db_bk b 0 q = nI (db_n (db_bk b 0) q) ∧ db_fr q + db_n (db_bk b 0) q ≤ 37 ∧ db_n (db_bk b 0) q ≤ 12
theorem dv_Lk_c_20 {a1 b1 : db_S} {q : Nat} (h : dv_Lk_20 a b q) (h1 : a1.2 76 = a.2 76) (h2 : a1.1 77 = a.1 77) (h3 : a1.1 78 = a.1 78) (h4 : a1.1 20 18 = a.1 20 18) (h5 : db_bk b1 0 q = db_bk b 0 q) (h6 : db_bw b1 0 = db_bw b 0) : dv_Lk_20 a1 b1 q := by
  obtain ⟨⟨m, m1, m2, m3⟩, c1, c2, c3⟩ := h
  have en : db_n (db_bk b1 0) q = db_n (db_bk b 0) q := by unfold db_n; rw [h5]
  refine ⟨⟨m, m1, h4.trans m2, fun l => ?_⟩, by rw [h5, en]; exact c1, by rw [en]; exact c2, by rw [en]; exact c3⟩
  rw [h1, h2, h3, m3 l, h6]
  unfold db_nm
  rw [en]
theorem dv_233_0 {q g : Nat} (hq : q < 6) (hg : q = if g = 4 then 5 else g) (hg4 : g ≤ 4) : db_f233 b (nI 0) (nI g) = some (db_bk b 0 q) := by
  unfold db_f233
  have e : db_bk b 0 q = b.1 674 (480 * 0 + q) := by unfold db_bk; rw [if_pos (by omega)]
  rw [e]
  by_cases h4 : g = 4
  · rw [if_pos h4] at hg
    subst hg
    simp (disch := omega) only [db_lit, eq_self, db_pI_e, db_pL_e, db_bind_some, db_bd_some, nI_add, pk_mul, nI_toInt, db_m1_t, dz_cn, Int.ofNat_le, Int.ofNat_lt, decide_true, decide_false, db_ct, db_cf, not_true_eq_false, not_false_eq_true, (show 4 ≤ g by omega), db_g_674]
  · rw [if_neg h4] at hg
    subst hg
    simp (disch := omega) only [db_lit, eq_self, db_pI_e, db_pL_e, db_bind_some, db_bd_some, nI_add, pk_mul, nI_toInt, db_m1_t, dz_cn, Int.ofNat_le, Int.ofNat_lt, decide_true, decide_false, db_ct, db_cf, not_true_eq_false, not_false_eq_true, (show ¬ 4 ≤ q by omega), db_g_674]
theorem dv_259_0 {q g : Nat} (hq : q < 6) (hg : q = if g = 4 then 5 else g) (hg4 : g ≤ 4) (hc : db_bk b 0 q = nI (db_n (db_bk b 0) q)) (hn : db_fr q + db_n (db_bk b 0) q ≤ 37) : db_f259 b (nI 0) (nI g) = some (db_o (db_nm (db_bk b 0) (db_bw b 0) (b.2 669 19) q)) := by
  have e260 : db_f260 b (nI g) = some (nI (db_fr q)) := by
    unfold db_f260 db_fr
    rcases (by omega : g = 0 ∨ g = 1 ∨ g = 2 ∨ g = 3 ∨ g = 4) with rfl | rfl | rfl | rfl | rfl <;> (simp at hg; subst hg; rfl)
  unfold db_f259 db_nm
  refine db_srch (L := fun f k => db_f259_b2 b f (nI 0) (nI g) (nI k)) (N := db_n (db_bk b 0) q) (fun k => decide (db_bw b 0 (db_fr q + k) = b.2 669 19)) db_o ?_ ?_ (n := db_FU) (by unfold db_FU; omega)
  · intro f
    show db_f259_b2 b (f + 1) (nI 0) (nI g) (nI (db_n (db_bk b 0) q)) = _
    rw [db_f259_b2, dv_233_0 hq hg hg4, hc, dw_nI_n hc (by omega)]
    simp (disch := omega) only [db_lit, eq_self, db_pI_e, db_pL_e, db_bind_some, db_bd_some, nI_add, pk_mul, nI_toInt, db_m1_t, dz_cn, Int.ofNat_le, Int.ofNat_lt, decide_true, decide_false, db_ct, db_cf, not_true_eq_false, not_false_eq_true, Nat.le_refl]
    rfl
  · intro f k hk
    show db_f259_b2 b (f + 1) (nI 0) (nI g) (nI k) = cond _ _ (db_f259_b2 b f (nI 0) (nI g) (nI (k + 1)))
    have ew : db_bw b 0 (db_fr q + k) = b.2 676 (37 * 0 + (db_fr q + k)) := by unfold db_bw; rw [if_pos (by omega)]
    rw [db_f259_b2, dv_233_0 hq hg hg4, hc, ew]
    simp (disch := omega) only [db_lit, eq_self, db_pI_e, db_pL_e, db_bind_some, db_bd_some, nI_add, pk_mul, nI_toInt, db_m1_t, dz_cn, Int.ofNat_le, Int.ofNat_lt, decide_true, decide_false, db_ct, db_cf, not_true_eq_false, not_false_eq_true, (show ¬ db_n (db_bk b 0) q ≤ k by omega), e260, db_g_676, dv_lc]
    rw [show 37 * 0 + db_fr q + k = 37 * 0 + (db_fr q + k) by omega]
    by_cases e : b.2 676 (37 * 0 + (db_fr q + k)) = b.2 669 19
    · rw [decide_eq_true e, decide_eq_false (fun h => h e)]
      rfl
    · rw [decide_eq_false e, decide_eq_true e]
      rfl
/-- the reference takes a name -/
theorem dv_266f_0 {g : Nat} (h : dv_RT x n i b) (h0 : b.1 669 12 = nI 0) (hm : dv_nm x n i = false) : db_f266 b (nI 0) (nI g) = some (nI 0, dv_fb x n i 2 b) := by
  obtain ⟨f, f1, f2, f3⟩ := dv_fb_B (x := x) (n := n) (i := i) (b := b) (f := 2) (by omega) (by omega)
  unfold db_f266 db_f266_b18
  simp (disch := omega) only [db_lit, eq_self, db_pI_e, db_pL_e, db_bind_some, db_bd_some, nI_add, pk_mul, nI_toInt, db_m1_t, dz_cn, Int.ofNat_le, Int.ofNat_lt, decide_true, decide_false, db_ct, db_cf, not_true_eq_false, not_false_eq_true, db_87e, db_37e, db_31e, db_28e, db_281e, db_211e, db_27, db_269w, db_litL, pk_lT, db_iL, db_p0_e, db_p0_n, db_p0_j, db_sub1, nI_eq, if_true, if_false, Bool.false_eq_true, Nat.one_ne_zero, h0, dv_235 h, hm, dv_257 h h0, f3, (show ¬ f ≤ 0 by omega)]
theorem dv_266_0 {q g : Nat} (hq : q < 6) (hg : q = if g = 4 then 5 else g) (hg4 : g ≤ 4) (h : dv_RT x n i b) (h0 : b.1 669 12 = nI 0) (hm : dv_nm x n i = true) (hc : db_bk b 0 q = nI (db_n (db_bk b 0) q)) (hn : db_fr q + db_n (db_bk b 0) q ≤ 37) : db_f266 b (nI 0) (nI g) = match db_nm (db_bk b 0) (db_bw b 0) (dv_L x n (dv_P x n i)) q with
    | none => some (nI 0, dv_fb x n i 3 b)
    | some k => some (nI k, b) := by
  obtain ⟨hk1, -⟩ := dv_n_L hm
  have hw : b.2 669 19 = dv_L x n (dv_P x n i) := (h.2.2.2.2.1 hk1).1
  have e259 := dv_259_0 hq hg hg4 hc hn
  rw [hw] at e259
  unfold db_f266 db_f266_b18 db_f266_b47
  simp (disch := omega) only [db_lit, eq_self, db_pI_e, db_pL_e, db_bind_some, db_bd_some, nI_add, pk_mul, nI_toInt, db_m1_t, dz_cn, Int.ofNat_le, Int.ofNat_lt, decide_true, decide_false, db_ct, db_cf, not_true_eq_false, not_false_eq_true, db_87e, db_37e, db_31e, db_28e, db_281e, db_211e, db_27, db_269w, db_litL, pk_lT, db_iL, db_p0_e, db_p0_n, db_p0_j, db_sub1, nI_eq, if_true, if_false, Bool.false_eq_true, Nat.one_ne_zero, h0, dv_235 h, hm, Nat.le_refl, e259]
  cases e : db_nm (db_bk b 0) (db_bw b 0) (dv_L x n (dv_P x n i)) q with
  | none =>
    have hmm : db_o none = -(nI 1) := rfl
    have e1 : ¬ ((0 : Nat) : Int) ≤ (-1 : Int) := by omega
    have e3 := dv_234i h h0 (f := 3) (by omega)
    simp (disch := omega) only [db_lit, eq_self, db_pI_e, db_pL_e, db_bind_some, db_bd_some, nI_add, pk_mul, nI_toInt, db_m1_t, dz_cn, Int.ofNat_le, Int.ofNat_lt, decide_true, decide_false, db_ct, db_cf, not_true_eq_false, not_false_eq_true, db_87e, db_37e, db_31e, db_28e, db_281e, db_211e, db_27, db_269w, db_litL, pk_lT, db_iL, db_p0_e, db_p0_n, db_p0_j, db_sub1, nI_eq, if_true, if_false, Bool.false_eq_true, Nat.one_ne_zero, hmm, e1, e3]
    rfl
  | some k =>
    have hk := db_fst_lt e
    have hmm : db_o (some k) = nI k := rfl
    have hkn : k < 37 := by omega
    simp (disch := omega) only [db_lit, eq_self, db_pI_e, db_pL_e, db_bind_some, db_bd_some, nI_add, pk_mul, nI_toInt, db_m1_t, dz_cn, Int.ofNat_le, Int.ofNat_lt, decide_true, decide_false, db_ct, db_cf, not_true_eq_false, not_false_eq_true, db_87e, db_37e, db_31e, db_28e, db_281e, db_211e, db_27, db_269w, db_litL, pk_lT, db_iL, db_p0_e, db_p0_n, db_p0_j, db_sub1, nI_eq, if_true, if_false, Bool.false_eq_true, Nat.one_ne_zero, hmm, Nat.zero_le]
    have : (if nI 0 < nI k then nI k else nI 0) = nI k := by
      by_cases e0 : k = 0
      · subst e0; rfl
      · rw [if_pos (by rw [fa_lt, nI_toInt (by omega), nI_toInt (by omega)]; omega)]
    rw [this]
theorem dv_70_20 {q d f : Nat} (hq : q < 6) (hd : 146 ≤ d ∧ d ≤ 270) (hw : ∀ (s : db_S) (v : Int32), db_wI s d (nI f) v = some (db_uI s d f v)) (hr : ∀ s : db_S, db_rI s d (nI f) = some (s.1 d f)) (hC : dv_CT x n i a) (hL : dv_Lk_20 a b q) : db_f70_20 a (nI q) d (nI f) = if dv_nm x n i = true then (match db_nm (db_bk b 0) (db_bw b 0) (dv_L x n (dv_P x n i)) q with
    | none => some (false, dv_fa x n i 3 (db_uI a d f (-(nI 1))))
    | some k => some (true, db_uI a d f (nI k))) else some (false, dv_fa x n i 2 a) := by
  obtain ⟨⟨m, m1, m2, m3⟩, c1, c2, c3⟩ := hL
  unfold db_f70_20
  cases hm : dv_nm x n i with
  | false =>
    rw [if_neg (by decide)]
    simp (disch := omega) only [db_lit, eq_self, db_pI_e, db_pL_e, db_bind_some, db_bd_some, nI_add, pk_mul, nI_toInt, db_m1_t, dz_cn, Int.ofNat_le, Int.ofNat_lt, decide_true, decide_false, db_ct, db_cf, not_true_eq_false, not_false_eq_true, db_87e, db_37e, db_31e, db_28e, db_281e, db_211e, db_27, db_269w, db_litL, pk_lT, db_iL, db_p0_e, db_p0_n, db_p0_j, db_sub1, nI_eq, if_true, if_false, Bool.false_eq_true, Nat.one_ne_zero, dv_62 hC, hm, dv_58 hC 2]
  | true =>
    rw [if_pos rfl]
    obtain ⟨hk1, -⟩ := dv_n_L hm
    have e71 := dv_71_20 (l := dv_L x n (dv_P x n i)) (q := q) m1 m2
    rw [m3] at e71
    rw [hC.2.1]
    simp (disch := omega) only [db_lit, eq_self, db_pI_e, db_pL_e, db_bind_some, db_bd_some, nI_add, pk_mul, nI_toInt, db_m1_t, dz_cn, Int.ofNat_le, Int.ofNat_lt, decide_true, decide_false, db_ct, db_cf, not_true_eq_false, not_false_eq_true, db_87e, db_37e, db_31e, db_28e, db_281e, db_211e, db_27, db_269w, db_litL, pk_lT, db_iL, db_p0_e, db_p0_n, db_p0_j, db_sub1, nI_eq, if_true, if_false, Bool.false_eq_true, Nat.one_ne_zero, dv_62 hC, hm, dv_g19 hC hk1, e71, hw, hr]
    cases e : db_nm (db_bk b 0) (db_bw b 0) (dv_L x n (dv_P x n i)) q with
    | none =>
      have hC' : dv_CT x n i (db_uI a d f (-(nI 1))) := dv_CT_u hC hd
      have e1 : (db_uI a d f (-(nI 1))).1 d f = -(nI 1) := db_uI_1
      have e2 : db_uI a d f (db_o none) = db_uI a d f (-(nI 1)) := rfl
      simp (disch := omega) only [db_lit, eq_self, db_pI_e, db_pL_e, db_bind_some, db_bd_some, nI_add, pk_mul, nI_toInt, db_m1_t, dz_cn, Int.ofNat_le, Int.ofNat_lt, decide_true, decide_false, db_ct, db_cf, not_true_eq_false, not_false_eq_true, db_87e, db_37e, db_31e, db_28e, db_281e, db_211e, db_27, db_269w, db_litL, pk_lT, db_iL, db_p0_e, db_p0_n, db_p0_j, db_sub1, nI_eq, if_true, if_false, Bool.false_eq_true, Nat.one_ne_zero, e1, e2, db_m1_l, dv_58 hC' 3]
    | some k =>
      have hk := db_fst_lt e
      have e1 : (db_uI a d f (nI k)).1 d f = nI k := db_uI_1
      have e2 : db_uI a d f (db_o (some k)) = db_uI a d f (nI k) := rfl
      have e3 := db_m1_ne (k := k) (by omega)
      simp (disch := omega) only [db_lit, eq_self, db_pI_e, db_pL_e, db_bind_some, db_bd_some, nI_add, pk_mul, nI_toInt, db_m1_t, dz_cn, Int.ofNat_le, Int.ofNat_lt, decide_true, decide_false, db_ct, db_cf, not_true_eq_false, not_false_eq_true, db_87e, db_37e, db_31e, db_28e, db_281e, db_211e, db_27, db_269w, db_litL, pk_lT, db_iL, db_p0_e, db_p0_n, db_p0_j, db_sub1, nI_eq, if_true, if_false, Bool.false_eq_true, Nat.one_ne_zero, e1, e2, db_m1_l, e3]
theorem dv_oName_20 {q g d f : Nat} (hq : q < 6) (hg : q = if g = 4 then 5 else g) (hg4 : g ≤ 4) (hd : 146 ≤ d ∧ d ≤ 270) (hw : ∀ (s : db_S) (v : Int32), db_wI s d (nI f) v = some (db_uI s d f v)) (hr : ∀ s : db_S, db_rI s d (nI f) = some (s.1 d f)) (hC : dv_CT x n i a) (hR : dv_RT x n i b) (h0 : b.1 669 12 = nI 0) (hL : dv_Lk_20 a b q) : ∃ r a1 v b1, db_f69_20 a (nI q) d (nI f) = some (r, a1) ∧ db_f265 b (nI 0) (nI g) = some (v, b1) ∧ ((r = true ∧ (∃ k, k < db_n (db_bk b 0) q ∧ v = nI k) ∧ a1.1 d f = v ∧ dv_Fr d f a a1 ∧ dv_CT x n (i + 1) a1 ∧ dv_RT x n (i + 1) b1 ∧ dv_Fn b b1) ∨ (r = false ∧ v = nI 0 ∧ dv_Fl a1 b1 ∧ dv_Fa a a1 ∧ dv_Fb b b1)) := by
  have h70 := dv_70_20 hq hd hw hr hC hL
  obtain ⟨-, c1, c2, c3⟩ := hL
  unfold db_f69_20 db_f265
  rw [h70]
  cases hm : dv_nm x n i with
  | false =>
    refine ⟨false, dv_fa x n i 2 a, nI 0, dv_fb x n i 2 b, ?_, ?_, .inr ⟨rfl, rfl, dv_Fl_f (by omega) (by omega), dv_Fa_fa dv_Fa_r, dv_Fb_fb dv_Fb_r⟩⟩
    · rw [if_neg (by decide)]
      rfl
    · simp (disch := omega) only [db_lit, eq_self, db_pI_e, db_pL_e, db_bind_some, db_bd_some, nI_add, pk_mul, nI_toInt, db_m1_t, dz_cn, Int.ofNat_le, Int.ofNat_lt, decide_true, decide_false, db_ct, db_cf, not_true_eq_false, not_false_eq_true, db_87e, db_37e, db_31e, db_28e, db_281e, db_211e, db_27, db_269w, db_litL, pk_lT, db_iL, db_p0_e, db_p0_n, db_p0_j, db_sub1, nI_eq, if_true, if_false, Bool.false_eq_true, Nat.one_ne_zero, dv_266f_0 hR h0 hm, dv_264b (dv_fb_B (x := x) (n := n) (i := i) (b := b) (f := 2) (by omega) (by omega))]
  | true =>
    rw [if_pos rfl]
    obtain ⟨hk1, -⟩ := dv_n_L hm
    have e266 := dv_266_0 hq hg hg4 hR h0 hm c1 c2
    cases e : db_nm (db_bk b 0) (db_bw b 0) (dv_L x n (dv_P x n i)) q with
    | none =>
      rw [e] at e266
      refine ⟨false, dv_fa x n i 3 (db_uI a d f (-(nI 1))), nI 0, dv_fb x n i 3 b, rfl, ?_, .inr ⟨rfl, rfl, dv_Fl_f (by omega) (by omega), dv_Fa_fa (dv_Fa_u dv_Fa_r (.inl hd)), dv_Fb_fb dv_Fb_r⟩⟩
      rw [e266]
      simp (disch := omega) only [db_lit, eq_self, db_pI_e, db_pL_e, db_bind_some, db_bd_some, nI_add, pk_mul, nI_toInt, db_m1_t, dz_cn, Int.ofNat_le, Int.ofNat_lt, decide_true, decide_false, db_ct, db_cf, not_true_eq_false, not_false_eq_true, db_87e, db_37e, db_31e, db_28e, db_281e, db_211e, db_27, db_269w, db_litL, pk_lT, db_iL, db_p0_e, db_p0_n, db_p0_j, db_sub1, nI_eq, if_true, if_false, Bool.false_eq_true, Nat.one_ne_zero, dv_264b (dv_fb_B (x := x) (n := n) (i := i) (b := b) (f := 3) (by omega) (by omega))]
    | some k =>
      rw [e] at e266
      have hk := db_fst_lt e
      obtain ⟨b1, eb1, r1, r2⟩ := dv_264t hR h0
      have hC' : dv_CT x n i (db_uI a d f (nI k)) := dv_CT_u hC hd
      refine ⟨true, db_uI (db_uI a d f (nI k)) 13 9 (nI (i + 1)), nI k, b1, ?_, ?_, .inl ⟨rfl, ⟨k, hk, rfl⟩, ?_, ⟨fun c h1 h2 => ?_, ?_, fun j hj => ?_, fun j hj => ?_⟩, dv_CT_s hC' (by omega), r1, r2⟩⟩
      · simp (disch := omega) only [db_lit, eq_self, db_pI_e, db_pL_e, db_bind_some, db_bd_some, nI_add, pk_mul, nI_toInt, db_m1_t, dz_cn, Int.ofNat_le, Int.ofNat_lt, decide_true, decide_false, db_ct, db_cf, not_true_eq_false, not_false_eq_true, db_87e, db_37e, db_31e, db_28e, db_281e, db_211e, db_27, db_269w, db_litL, pk_lT, db_iL, db_p0_e, db_p0_n, db_p0_j, db_sub1, nI_eq, if_true, if_false, Bool.false_eq_true, Nat.one_ne_zero, dv_60 hC' (by omega)]
      · rw [e266]
        simp (disch := omega) only [db_lit, eq_self, db_pI_e, db_pL_e, db_bind_some, db_bd_some, nI_add, pk_mul, nI_toInt, db_m1_t, dz_cn, Int.ofNat_le, Int.ofNat_lt, decide_true, decide_false, db_ct, db_cf, not_true_eq_false, not_false_eq_true, db_87e, db_37e, db_31e, db_28e, db_281e, db_211e, db_27, db_269w, db_litL, pk_lT, db_iL, db_p0_e, db_p0_n, db_p0_j, db_sub1, nI_eq, if_true, if_false, Bool.false_eq_true, Nat.one_ne_zero]
        rw [eb1]
        rfl
      · rw [db_uI_n (by omega), db_uI_1]
      · rw [db_uI_n h2, db_uI_n h1]
      · rfl
      · rw [db_uI_j hj, db_uI_n (by omega)]
      · rw [db_uI_n (by omega), db_uI_j hj]

end DVNA
