/-! A DREAM -/
/-- on the way through dream k, m things read; a1, b1: behind its name -/
def dv_CD (x : Nat → Int32) (n k : Nat) (c : db_C) (a1 b1 : db_S) (m i : Nat) (a b : db_S) : Prop := dv_CT x n i a ∧ dv_RT x n i b ∧ b.1 669 12 = nI 0 ∧ (∀ p j, p ≠ 177 + k → p ≠ 206 → p ≠ 13 → ¬ ((p = 185 ∨ p = 186 ∨ p = 187) ∧ j = k) → a.1 p j = a1.1 p j) ∧ a.2 = a1.2 ∧ dv_Fa a1 a ∧ (∀ f, f < m → a.1 (177 + k) f = b.1 674 (2071 + 6 * k + f) ∧ ∃ t, t < db_n c 0 ∧ a.1 (177 + k) f = nI t) ∧ (∀ j, j ≠ 2047 + k → j ≠ 2055 + k → j ≠ 2063 + k → ¬ (2071 + 6 * k ≤ j ∧ j < 2077 + 6 * k) → b.1 674 j = b1.1 674 j) ∧ b.2 676 = b1.2 676 ∧ dv_Fb b1 b
/-- may a thing stand here, as the reference asks -/
def dv_mo (x : Nat → Int32) (n i : Nat) : Bool := decide (dv_kd x n i = 1) && (decide (¬ dv_w x n i = nI 16) && decide (¬ dv_w x n i = nI 17))
/-- the class's part is through, but the word behind it is none that may stand: the reference has said so -/
def dv_Wr (x : Nat → Int32) (n : Nat) (a b a2 b2 : db_S) : Prop := (∃ i1, dv_CT x n i1 a2 ∧ dv_kd x n i1 = 1 ∧ (¬ dv_w x n i1 = nI 16 ∧ ¬ dv_w x n i1 = nI 17) ∧ b2.1 669 12 = nI 2 ∧ b2.1 669 13 = nI (dv_P x n i1)) ∧ dv_Fa a a2 ∧ dv_Fb b b2
def dv_Pd (x : Nat → Int32) (n i : Nat) (a b : db_S) (fa : Option (Bool × db_S)) (fb : Option db_S) : Prop := dv_Pt x n i a b fa fb ∨ ∃ a2 b2, fa = some (true, a2) ∧ fb = some b2 ∧ dv_Wr x n a b a2 b2
section DVDM
variable {a b a1 b1 z : db_S} {x : Nat → Int32} {n i k m : Nat} {v u : Int32} {c : db_C} {w : Nat → Int64}
theorem dv_Wr_B {a2 b2 : db_S} (h : dv_Wr x n a b a2 b2) : dv_Bad b2 := by
  obtain ⟨⟨i1, -, -, -, h1, -⟩, -⟩ := h
  exact ⟨2, by omega, by omega, h1⟩
theorem dv_r77 {f : Nat} (hk : k < 8) (hf : f < 6) : (∀ (s : db_S) (v : Int32), db_wI s (177 + k) (nI f) v = some (db_uI s (177 + k) f v)) ∧ ∀ s : db_S, db_rI s (177 + k) (nI f) = some (s.1 (177 + k) f) := ⟨fun s v => db_h_177 hk hf, fun s => db_g_177 hk hf⟩
theorem dv_r206 : (∀ (s : db_S) (v : Int32), db_wI s 206 (nI 0) v = some (db_uI s 206 0 v)) ∧ ∀ s : db_S, db_rI s 206 (nI 0) = some (s.1 206 0) := ⟨fun s v => db_h_206 (by omega), fun s => db_g_206 (by omega)⟩
theorem dv_CDL (hk : k < 8) (h : dv_CD x n k c a1 b1 m i a b) (hL : dv_Lk_146 a1 b1 0) : dv_Lk_146 a b 0 := by
  obtain ⟨-, -, -, p1, p2, -, -, p3, p4, -⟩ := h
  refine dv_Lk_c_146 hL (by rw [p2]) (funext fun j => p1 203 j (by omega) (by omega) (by omega) (by omega)) (funext fun j => p1 204 j (by omega) (by omega) (by omega) (by omega)) (p1 146 18 (by omega) (by omega) (by omega) (by omega)) ?_ (dv_bw_e p4)
  rw [← dv_bk_4 (by omega), ← dv_bk_4 (by omega)]
  exact p3 _ (by omega) (by omega) (by omega) (by omega)
theorem dv_CDn (hk : k < 8) (h : dv_CD x n k c a1 b1 m i a b) (hc : db_bk b1 4 0 = c 0) : db_n (db_bk b 4) 0 = db_n c 0 := by
  obtain ⟨-, -, -, -, -, -, -, p3, -, -⟩ := h
  refine dv_n_e ?_
  rw [← hc, ← dv_bk_4 (by omega), ← dv_bk_4 (by omega)]
  exact p3 _ (by omega) (by omega) (by omega) (by omega)
/-- a thing more -/
theorem dv_CDf {i1 : Nat} {a2 b2 : db_S} (hk : k < 8) (hm : m < 6) (h : dv_CD x n k c a1 b1 m i a b) (hC : dv_CT x n i1 a2) (hR : dv_RT x n i1 b2) (ha : dv_Fr (177 + k) m a a2) (hav : a2.1 (177 + k) m = v) (hv : ∃ t, t < db_n c 0 ∧ v = nI t) (hb : dv_Fn b b2) : dv_CD x n k c a1 b1 (m + 1) i1 a2 (db_uI b2 674 (2071 + 6 * k + m) v) := by
  obtain ⟨-, -, h0, p1, p2, p5, p6, p3, p4, p7⟩ := h
  obtain ⟨q1, q2, q3, q4⟩ := ha
  refine ⟨hC, dv_RT_4 hR, by rw [db_uI_n (by decide), hb.2.1 12 (by omega)]; exact h0, fun p j h1 h2 h3 h4 => by rw [q1 p h1 h3]; exact p1 p j h1 h2 h3 h4, q2.trans p2, dv_Fa_t p5 ⟨fun p h1 h2 => ?_, fun j h1 h2 h3 => q3 j h3, by rw [q2]⟩, fun f hf => ?_, fun j j1 j2 j3 j4 => ?_, ?_, dv_Fb_4 (dv_Fb_t p7 (dv_Fb_n hb)) (by omega)⟩
  · rw [q2]
    exact ⟨q1 p (by omega) h1, rfl⟩
  · by_cases e : f = m
    · subst e
      rw [hav, db_uI_1]
      exact ⟨rfl, hv⟩
    · rw [q4 f e, db_uI_j (by omega), (hb.1 674 (by decide)).1]
      exact p6 f (by omega)
  · rw [db_uI_j (by omega), (hb.1 674 (by decide)).1]
    exact p3 j j1 j2 j3 j4
  · rw [db_uI_2, (hb.1 676 (by decide)).2]
    exact p4
/-- the things of a dream, both -/
def dv_TE (x : Nat → Int32) (n k : Nat) (c : db_C) (a1 b1 : db_S) (i : Nat) (a b : db_S) (fa : Option (Bool × db_S)) (fb : Option db_S) : Prop :=
  (∃ a2 b2 m i1, fa = some (true, a2) ∧ fb = db_f272_b111 b2 (nI k) (nI m) ∧ 1 ≤ m ∧ m ≤ 6 ∧ i ≤ i1 ∧ dv_CD x n k c a1 b1 m i1 a2 b2 ∧ a2.1 185 k = nI m) ∨ (∃ a2 b2, fa = some (true, a2) ∧ fb = some b2 ∧ dv_Wr x n a1 b1 a2 b2) ∨ (∃ a2 b2, fa = some (false, a2) ∧ fb = some b2 ∧ dv_Fl a2 b2 ∧ dv_Fa a1 a2 ∧ dv_Fb b1 b2)
theorem dv_47b {h12 : db_S → Int32 → Int32 → Int32 → Option db_S} {v1 v2 v4 : Int32} (h : dv_Bad b) : db_f272_b47 h12 b v1 v2 v4 = some b := by
  obtain ⟨f, f1, f2, f3⟩ := id h
  unfold db_f272_b47
  simp (disch := omega) only [db_lit, eq_self, db_pI_e, db_pL_e, db_bind_some, db_bd_some, nI_add, pk_mul, nI_toInt, db_m1_t, dz_cn, Int.ofNat_le, Int.ofNat_lt, decide_true, decide_false, db_ct, db_cf, not_true_eq_false, not_false_eq_true, db_87e, db_37e, db_31e, db_28e, db_281e, db_211e, db_27, db_269w, db_litL, pk_lT, db_iL, db_p0_e, db_p0_n, db_p0_j, db_sub1, nI_eq, if_true, if_false, Bool.false_eq_true, Nat.one_ne_zero, dv_264b h, f3, (show ¬ f ≤ 0 by omega)]
theorem dv_b47 {h12 : db_S → Int32 → Int32 → Int32 → Option db_S} {t : Nat} {b2 : db_S} (hk : k < 8) (hm : m < 6) (h2 : db_f264 b (nI 1) = some b2) (h0 : b2.1 669 12 = nI 0) (hR : dv_RT x n i b2) : db_f272_b47 h12 b (nI k) (nI m) (nI t) = h12 (db_uI b2 674 (2071 + 6 * k + m) (nI t)) (nI k) (nI (m + 1)) (if dv_mo x n i = true then nI 1 else nI 0) := by
  have hR2 : dv_RT x n i (db_uI b2 674 (2071 + 6 * k + m) (nI t)) := dv_RT_4 hR
  have t14 := dv_14 hR2
  have h4 : dv_kd x n i ≤ 4 := dv_K4
  have hx := dv_x16 hR2
  have hx2 := dv_x17 hR2
  unfold db_f272_b47 db_f272_b106 db_f272_b107 dv_mo
  simp (disch := omega) only [db_lit, eq_self, db_pI_e, db_pL_e, db_bind_some, db_bd_some, nI_add, pk_mul, nI_toInt, db_m1_t, dz_cn, Int.ofNat_le, Int.ofNat_lt, decide_true, decide_false, db_ct, db_cf, not_true_eq_false, not_false_eq_true, db_87e, db_37e, db_31e, db_28e, db_281e, db_211e, db_27, db_269w, db_litL, pk_lT, db_iL, db_p0_e, db_p0_n, db_p0_j, db_sub1, nI_eq, if_true, if_false, Bool.false_eq_true, Nat.one_ne_zero, h2, h0, Nat.le_refl, db_h_674, t14, hx, hx2]
  by_cases e : dv_kd x n i = 1
  · simp (disch := omega) only [db_lit, eq_self, db_pI_e, db_pL_e, db_bind_some, db_bd_some, nI_add, pk_mul, nI_toInt, db_m1_t, dz_cn, Int.ofNat_le, Int.ofNat_lt, decide_true, decide_false, db_ct, db_cf, not_true_eq_false, not_false_eq_true, db_87e, db_37e, db_31e, db_28e, db_281e, db_211e, db_27, db_269w, db_litL, pk_lT, db_iL, db_p0_e, db_p0_n, db_p0_j, db_sub1, nI_eq, if_true, if_false, Bool.false_eq_true, Nat.one_ne_zero, e]
    by_cases e1 : dv_w x n i = nI 16
    · rw [decide_eq_true e1, db_ct, decide_eq_false (fun h => h e1)]
      rfl
    · rw [decide_eq_false e1, db_cf, decide_eq_true e1]
      by_cases e2 : dv_w x n i = nI 17
      · rw [decide_eq_true e2, db_ct, decide_eq_false (fun h => h e2)]
        rfl
      · rw [decide_eq_false e2, db_cf, decide_eq_true e2]
        rfl
  · simp (disch := omega) only [db_lit, eq_self, db_pI_e, db_pL_e, db_bind_some, db_bd_some, nI_add, pk_mul, nI_toInt, db_m1_t, dz_cn, Int.ofNat_le, Int.ofNat_lt, decide_true, decide_false, db_ct, db_cf, not_true_eq_false, not_false_eq_true, db_87e, db_37e, db_31e, db_28e, db_281e, db_211e, db_27, db_269w, db_litL, pk_lT, db_iL, db_p0_e, db_p0_n, db_p0_j, db_sub1, nI_eq, if_true, if_false, Bool.false_eq_true, Nat.one_ne_zero, e]
    rfl
theorem dv_things (hk : k < 8) (hc0 : db_bk b1 4 0 = c 0) (hL0 : dv_Lk_146 a1 b1 0) : ∀ (t m i F G : Nat) (a b : db_S) (v : Int32), m + t = 6 → t + 1 < F → t + 1 < G → dv_CD x n k c a1 b1 m i a b → (m = 0 ∧ v = nI 1 ∨ 0 < m ∧ v = if dv_mo x n i = true then nI 1 else nI 0) → dv_TE x n k c a1 b1 i a b (db_f78_b2 F a (nI k) (nI m)) (db_f272_b12 G b (nI k) (nI m) v) := by
  intro t
  induction t with
  | zero =>
    intro m i F G a b v hm hF hG h hv
    cases F with
    | zero => omega
    | succ F =>
    cases G with
    | zero => omega
    | succ G =>
    have hm6 : m = 6 := by omega
    subst hm6
    have hv : v = if dv_mo x n i = true then nI 1 else nI 0 := by rcases hv with ⟨h, -⟩ | ⟨-, h⟩; omega; exact h
    obtain ⟨hC, hR, h0, hfr, h2, hFa, hth, h674, h676, hFb⟩ := id h
    have hC5 : dv_CT x n i (db_uI a 185 k (nI 6)) := dv_CT_u hC (by omega)
    have hL := dv_CDL hk h hL0
    rw [db_f78_b2, db_f272_b12]
    unfold db_f78_b55
    cases hnm : dv_nm x n i with
    | true =>
      obtain ⟨hk1, -⟩ := dv_n_L hnm
      have hmo : dv_mo x n i = true := by
        unfold dv_nm at hnm
        simp only [Bool.and_eq_true, decide_eq_true_eq] at hnm
        unfold dv_mo
        rw [decide_eq_true hk1, hnm.2.2]
        decide
      rw [hmo, if_pos rfl] at hv
      subst hv
      have hL5 : dv_Lk_146 (db_uI a 185 k (nI 6)) b 0 := dv_Lk_c_146 hL rfl (db_uI_n (by decide)) (db_uI_n (by decide)) (by rw [db_uI_n (by decide)]) rfl rfl
      have h70 := dv_70_146 (q := 0) (d := 206) (f := 0) (by omega) (by omega) dv_r206.1 dv_r206.2 hC5 hL5
      have e266 := dv_266_4 (q := 0) (g := 0) (by omega) rfl (by omega) hR h0 hnm hL.2.1 hL.2.2.1
      rw [hnm, if_pos rfl] at h70
      cases e : db_nm (db_bk b 4) (db_bw b 4) (dv_L x n (dv_P x n i)) 0 with
      | none =>
        rw [e] at h70 e266
        have h70 : db_f70_146 (db_uI a 185 k (nI 6)) (nI 0) 206 (nI 0) = some (false, dv_fa x n i 3 (db_uI (db_uI a 185 k (nI 6)) 206 0 (-(nI 1)))) := h70
        have e266 : db_f266 b (nI 4) (nI 0) = some (nI 0, dv_fb x n i 3 b) := e266
        have hB := dv_fb_B (x := x) (n := n) (i := i) (b := b) (f := 3) (by omega) (by omega)
        refine .inr (.inr ⟨_, _, ?_, ?_, dv_Fl_f (x := x) (n := n) (i := i) (f := 3) (a := db_uI (db_uI a 185 k (nI 6)) 206 0 (-(nI 1))) (b := b) (by omega) (by omega), dv_Fa_fa (dv_Fa_u (dv_Fa_u hFa (.inl (by omega))) (.inl (by omega))), dv_Fb_fb hFb⟩)
        · simp (disch := omega) only [db_lit, eq_self, db_pI_e, db_pL_e, db_bind_some, db_bd_some, nI_add, pk_mul, nI_toInt, db_m1_t, dz_cn, Int.ofNat_le, Int.ofNat_lt, decide_true, decide_false, db_ct, db_cf, not_true_eq_false, not_false_eq_true, db_87e, db_37e, db_31e, db_28e, db_281e, db_211e, db_27, db_269w, db_litL, pk_lT, db_iL, db_p0_e, db_p0_n, db_p0_j, db_sub1, nI_eq, if_true, if_false, Bool.false_eq_true, Nat.one_ne_zero, (show ¬ 6 = 0 by omega), Nat.le_refl, db_h_185, dv_62 hC5, hnm, h70]
        · simp (disch := omega) only [db_lit, eq_self, db_pI_e, db_pL_e, db_bind_some, db_bd_some, nI_add, pk_mul, nI_toInt, db_m1_t, dz_cn, Int.ofNat_le, Int.ofNat_lt, decide_true, decide_false, db_ct, db_cf, not_true_eq_false, not_false_eq_true, db_87e, db_37e, db_31e, db_28e, db_281e, db_211e, db_27, db_269w, db_litL, pk_lT, db_iL, db_p0_e, db_p0_n, db_p0_j, db_sub1, nI_eq, if_true, if_false, Bool.false_eq_true, Nat.one_ne_zero, h0, e266, dv_234b hB, dv_47b hB]
      | some t =>
        rw [e] at h70 e266
        have h70 : db_f70_146 (db_uI a 185 k (nI 6)) (nI 0) 206 (nI 0) = some (true, db_uI (db_uI a 185 k (nI 6)) 206 0 (nI t)) := h70
        have e266 : db_f266 b (nI 4) (nI 0) = some (nI t, b) := e266
        have hC6 : dv_CT x n i (db_uI (db_uI a 185 k (nI 6)) 206 0 (nI t)) := dv_CT_u hC5 (by omega)
        have hB := dv_fb_B (x := x) (n := n) (i := i) (b := b) (f := 6) (by omega) (by omega)
        have e6 := dv_234i hR h0 (f := 6) (by omega)
        refine .inr (.inr ⟨_, _, ?_, ?_, dv_Fl_f (x := x) (n := n) (i := i) (f := 6) (a := db_uI (db_uI a 185 k (nI 6)) 206 0 (nI t)) (b := b) (by omega) (by omega), dv_Fa_fa (dv_Fa_u (dv_Fa_u hFa (.inl (by omega))) (.inl (by omega))), dv_Fb_fb hFb⟩)
        · simp (disch := omega) only [db_lit, eq_self, db_pI_e, db_pL_e, db_bind_some, db_bd_some, nI_add, pk_mul, nI_toInt, db_m1_t, dz_cn, Int.ofNat_le, Int.ofNat_lt, decide_true, decide_false, db_ct, db_cf, not_true_eq_false, not_false_eq_true, db_87e, db_37e, db_31e, db_28e, db_281e, db_211e, db_27, db_269w, db_litL, pk_lT, db_iL, db_p0_e, db_p0_n, db_p0_j, db_sub1, nI_eq, if_true, if_false, Bool.false_eq_true, Nat.one_ne_zero, (show ¬ 6 = 0 by omega), Nat.le_refl, db_h_185, dv_62 hC5, hnm, h70, dv_58 hC6 6]
        · simp (disch := omega) only [db_lit, eq_self, db_pI_e, db_pL_e, db_bind_some, db_bd_some, nI_add, pk_mul, nI_toInt, db_m1_t, dz_cn, Int.ofNat_le, Int.ofNat_lt, decide_true, decide_false, db_ct, db_cf, not_true_eq_false, not_false_eq_true, db_87e, db_37e, db_31e, db_28e, db_281e, db_211e, db_27, db_269w, db_litL, pk_lT, db_iL, db_p0_e, db_p0_n, db_p0_j, db_sub1, nI_eq, if_true, if_false, Bool.false_eq_true, Nat.one_ne_zero, h0, e266, e6, dv_47b hB]
    | false =>
      have eA : (db_f78_b2 (F + 1) a (nI k) (nI 6)) = some (true, db_uI a 185 k (nI 6)) := by
        rw [db_f78_b2]
        unfold db_f78_b55
        simp (disch := omega) only [db_lit, eq_self, db_pI_e, db_pL_e, db_bind_some, db_bd_some, nI_add, pk_mul, nI_toInt, db_m1_t, dz_cn, Int.ofNat_le, Int.ofNat_lt, decide_true, decide_false, db_ct, db_cf, not_true_eq_false, not_false_eq_true, db_87e, db_37e, db_31e, db_28e, db_281e, db_211e, db_27, db_269w, db_litL, pk_lT, db_iL, db_p0_e, db_p0_n, db_p0_j, db_sub1, nI_eq, if_true, if_false, Bool.false_eq_true, Nat.one_ne_zero, (show ¬ 6 = 0 by omega), Nat.le_refl, db_h_185, dv_62 hC5, hnm]
      rw [db_f78_b2] at eA
      unfold db_f78_b55 at eA
      cases hmo : dv_mo x n i with
      | false =>
        rw [hmo, if_neg (by decide)] at hv
        subst hv
        refine .inl ⟨_, b, 6, i, eA, ?_, by omega, by omega, Nat.le_refl _, ⟨hC5, hR, h0, fun p j p1 p2 p3 p4 => by rw [db_uI_if, if_neg (by omega)]; exact hfr p j p1 p2 p3 p4, h2, dv_Fa_u hFa (.inl (by omega)), fun f hf => by rw [db_uI_n (by omega)]; exact hth f hf, h674, h676, hFb⟩, db_uI_1⟩
        simp (disch := omega) only [db_lit, eq_self, db_pI_e, db_pL_e, db_bind_some, db_bd_some, nI_add, pk_mul, nI_toInt, db_m1_t, dz_cn, Int.ofNat_le, Int.ofNat_lt, decide_true, decide_false, db_ct, db_cf, not_true_eq_false, not_false_eq_true, db_87e, db_37e, db_31e, db_28e, db_281e, db_211e, db_27, db_269w, db_litL, pk_lT, db_iL, db_p0_e, db_p0_n, db_p0_j, db_sub1, nI_eq, if_true, if_false, Bool.false_eq_true, Nat.one_ne_zero, h0]
      | true =>
        rw [hmo, if_pos rfl] at hv
        subst hv
        have e266 := dv_266f_4 (g := 0) hR h0 hnm
        have hB := dv_fb_B (x := x) (n := n) (i := i) (b := b) (f := 2) (by omega) (by omega)
        unfold dv_mo at hmo
        simp only [Bool.and_eq_true, decide_eq_true_eq] at hmo
        have hfk : dv_fk x n i 2 = 2 := by unfold dv_fk; rw [if_neg (by omega)]
        refine .inr (.inl ⟨_, dv_fb x n i 2 b, eA, ?_, ⟨i, hC5, hmo.1, hmo.2, ?_, ?_⟩, dv_Fa_u hFa (.inl (by omega)), dv_Fb_fb hFb⟩)
        · simp (disch := omega) only [db_lit, eq_self, db_pI_e, db_pL_e, db_bind_some, db_bd_some, nI_add, pk_mul, nI_toInt, db_m1_t, dz_cn, Int.ofNat_le, Int.ofNat_lt, decide_true, decide_false, db_ct, db_cf, not_true_eq_false, not_false_eq_true, db_87e, db_37e, db_31e, db_28e, db_281e, db_211e, db_27, db_269w, db_litL, pk_lT, db_iL, db_p0_e, db_p0_n, db_p0_j, db_sub1, nI_eq, if_true, if_false, Bool.false_eq_true, Nat.one_ne_zero, h0, e266, dv_234b hB, dv_47b hB]
        · unfold dv_fb
          rw [db_uI_j (by decide), db_uI_1, hfk]
        · unfold dv_fb
          rw [db_uI_1]
  | succ t IH =>
    intro m i F G a b v hm hF hG h hv
    cases F with
    | zero => omega
    | succ F =>
    cases G with
    | zero => omega
    | succ G =>
    obtain ⟨hC, hR, h0, hfr, h2, hFa, hth, h674, h676, hFb⟩ := id h
    have hL := dv_CDL hk h hL0
    have h6 : ¬ nI m = nI 6 := by rw [nI_eq (by omega) (by omega)]; omega
    -- a name that must stand
    have hgo : v = nI 1 → (db_f78_b2 (F + 1) a (nI k) (nI m) = db_f78_b22 (db_f78_b2 F) a (nI k) (nI m)) → (dv_nm x n i = true ∨ m = 0) → dv_TE x n k c a1 b1 i a b (db_f78_b2 (F + 1) a (nI k) (nI m)) (db_f272_b12 (G + 1) b (nI k) (nI m) v) := by
      intro hv1 hA hor
      rw [hA, hv1, db_f272_b12]
      obtain ⟨r, a2, v2, b2, e1, e2, hh⟩ := dv_oName_146 (q := 0) (g := 0) (d := 177 + k) (f := m) (by omega) rfl (by omega) (by omega) (dv_r77 hk (by omega)).1 (dv_r77 hk (by omega)).2 hC hR h0 hL
      unfold db_f78_b22
      -- the reference takes it in two steps
      have e265 : db_f265 b (nI 4) (nI 0) = db_bd (db_f266 b (nI 4) (nI 0)) fun q s => (db_f264 s (nI 1)).bind fun s4 => some (q, s4) := Eq.trans rfl rfl
      rcases hh with ⟨rfl, ⟨t', ht', rfl⟩, g1, g2, g3, g4, g5⟩ | ⟨rfl, rfl, g1, g2, g3⟩
      · cases hnm : dv_nm x n i with
        | false =>
          exfalso
          rw [e265, dv_266f_4 (g := 0) hR h0 hnm] at e2
          have hB := dv_fb_B (x := x) (n := n) (i := i) (b := b) (f := 2) (by omega) (by omega)
          simp only [db_bd_some, dv_264b hB, db_bind_some, Option.some.injEq, Prod.mk.injEq] at e2
          obtain ⟨f, f1, f2, f3⟩ := hB
          rw [e2.2, g5.2.1 12 (by omega), h0, nI_eq (by omega) (by omega)] at f3
          omega
        | true =>
          have e266 := dv_266_4 (q := 0) (g := 0) (by omega) rfl (by omega) hR h0 hnm hL.2.1 hL.2.2.1
          cases e : db_nm (db_bk b 4) (db_bw b 4) (dv_L x n (dv_P x n i)) 0 with
          | none =>
            exfalso
            rw [e] at e266
            have e266 : db_f266 b (nI 4) (nI 0) = some (nI 0, dv_fb x n i 3 b) := e266
            have hB := dv_fb_B (x := x) (n := n) (i := i) (b := b) (f := 3) (by omega) (by omega)
            rw [e265, e266] at e2
            simp only [db_bd_some, dv_264b hB, db_bind_some, Option.some.injEq, Prod.mk.injEq] at e2
            obtain ⟨f, f1, f2, f3⟩ := hB
            rw [e2.2, g5.2.1 12 (by omega), h0, nI_eq (by omega) (by omega)] at f3
            omega
          | some t2 =>
            rw [e] at e266
            have e266 : db_f266 b (nI 4) (nI 0) = some (nI t2, b) := e266
            obtain ⟨b3, eb3, r3, f3⟩ := dv_264t hR h0
            have h03 : b3.1 669 12 = nI 0 := by rw [f3.2.1 12 (by omega)]; exact h0
            have e2' := e2
            rw [e265, e266] at e2'
            simp only [db_bd_some, eb3, db_bind_some, Option.some.injEq, Prod.mk.injEq] at e2'
            obtain ⟨et, eb⟩ := e2'
            subst eb
            have ht2 : ∃ t, t < db_n c 0 ∧ nI t2 = nI t := ⟨t', by rw [← dv_CDn hk h hc0]; exact ht', et⟩
            have hn := dv_CDf hk (by omega) h g3 g4 g2 (v := nI t2) (by rw [g1, et]) ht2 g5
            have e47 := dv_b47 (h12 := db_f272_b12 G) (x := x) (n := n) (i := i + 1) (t := t2) (m := m) (k := k) hk (by omega) eb3 h03 r3
            have hrec := IH (m + 1) (i + 1) F G a2 _ _ (by omega) (by omega) (by omega) hn (.inr ⟨by omega, rfl⟩)
            have eC : (db_rR 176 (nI k)).bind (fun y1 => db_bd (db_f69_146 a (nI 0) y1 (nI m)) fun q2 s3 => cond q2 (db_f78_b2 F s3 (nI k) (nI m + nI 1)) (some (false, s3))) = db_f78_b2 F a2 (nI k) (nI (m + 1)) := by
              simp (disch := omega) only [db_lit, eq_self, db_pI_e, db_pL_e, db_bind_some, db_bd_some, nI_add, pk_mul, nI_toInt, db_m1_t, dz_cn, Int.ofNat_le, Int.ofNat_lt, decide_true, decide_false, db_ct, db_cf, not_true_eq_false, not_false_eq_true, db_87e, db_37e, db_31e, db_28e, db_281e, db_211e, db_27, db_269w, db_litL, pk_lT, db_iL, db_p0_e, db_p0_n, db_p0_j, db_sub1, nI_eq, if_true, if_false, Bool.false_eq_true, Nat.one_ne_zero, db_q_176, e1]
            have eR : (cond (db_cnd .ne (b.1 669 12) 0) (db_f272_b111 b (nI k) (nI m)) (cond (db_cnd .eq (nI 1) 0) (db_f272_b111 b (nI k) (nI m)) (db_bd (db_f266 b (4 : Int32) (0 : Int32)) fun q1 s2 => (cond (db_cnd .ne (nI m) (6 : Int32)) (db_f272_b47 (db_f272_b12 G) s2 (nI k) (nI m) q1) ((db_f234 s2 (6 : Int32) (s2.1 669 15)).bind fun s4 => (db_f272_b47 (db_f272_b12 G) s4 (nI k) (nI m) q1)))))) = db_f272_b12 G (db_uI b3 674 (2071 + 6 * k + m) (nI t2)) (nI k) (nI (m + 1)) (if dv_mo x n (i + 1) = true then nI 1 else nI 0) := by
              simp (disch := omega) only [db_lit, eq_self, db_pI_e, db_pL_e, db_bind_some, db_bd_some, nI_add, pk_mul, nI_toInt, db_m1_t, dz_cn, Int.ofNat_le, Int.ofNat_lt, decide_true, decide_false, db_ct, db_cf, not_true_eq_false, not_false_eq_true, db_87e, db_37e, db_31e, db_28e, db_281e, db_211e, db_27, db_269w, db_litL, pk_lT, db_iL, db_p0_e, db_p0_n, db_p0_j, db_sub1, nI_eq, if_true, if_false, Bool.false_eq_true, Nat.one_ne_zero, h0, e266, h6, e47]
            have eC' : ((db_rR 176 (nI k)).bind fun y1 => (db_bd (db_f69_146 a (0 : Int32) y1 (nI m)) fun q2 s3 => (cond q2 (db_f78_b2 F s3 (nI k) (nI m + (1 : Int32))) (some (false, s3))))) = db_f78_b2 F a2 (nI k) (nI (m + 1)) := eC
            rw [eC', eR]
            rcases hrec with ⟨a3, b4, m', i1, q1, q2, q3, q4, q5, q6⟩ | hrec | hrec
            · exact .inl ⟨a3, b4, m', i1, q1, q2, q3, q4, by omega, q6⟩
            · exact .inr (.inl hrec)
            · exact .inr (.inr hrec)
      · have eC : ((db_rR 176 (nI k)).bind fun y1 => (db_bd (db_f69_146 a (0 : Int32) y1 (nI m)) fun q2 s3 => (cond q2 (db_f78_b2 F s3 (nI k) (nI m + (1 : Int32))) (some (false, s3))))) = some (false, a2) := by
          simp (disch := omega) only [db_lit, eq_self, db_pI_e, db_pL_e, db_bind_some, db_bd_some, nI_add, pk_mul, nI_toInt, db_m1_t, dz_cn, Int.ofNat_le, Int.ofNat_lt, decide_true, decide_false, db_ct, db_cf, not_true_eq_false, not_false_eq_true, db_87e, db_37e, db_31e, db_28e, db_281e, db_211e, db_27, db_269w, db_litL, pk_lT, db_iL, db_p0_e, db_p0_n, db_p0_j, db_sub1, nI_eq, if_true, if_false, Bool.false_eq_true, Nat.one_ne_zero, db_q_176, e1]
        refine .inr (.inr ⟨a2, b2, eC, ?_, g1, dv_Fa_t hFa g2, dv_Fb_t hFb g3⟩)
        -- its fault
        cases hnm : dv_nm x n i with
        | false =>
          have e266 := dv_266f_4 (g := 0) hR h0 hnm
          have hB := dv_fb_B (x := x) (n := n) (i := i) (b := b) (f := 2) (by omega) (by omega)
          rw [e265, e266] at e2
          simp only [db_bd_some, dv_264b hB, db_bind_some, Option.some.injEq, Prod.mk.injEq] at e2
          simp (disch := omega) only [db_lit, eq_self, db_pI_e, db_pL_e, db_bind_some, db_bd_some, nI_add, pk_mul, nI_toInt, db_m1_t, dz_cn, Int.ofNat_le, Int.ofNat_lt, decide_true, decide_false, db_ct, db_cf, not_true_eq_false, not_false_eq_true, db_87e, db_37e, db_31e, db_28e, db_281e, db_211e, db_27, db_269w, db_litL, pk_lT, db_iL, db_p0_e, db_p0_n, db_p0_j, db_sub1, nI_eq, if_true, if_false, Bool.false_eq_true, Nat.one_ne_zero, h0, e266, h6, dv_47b hB]
          rw [e2.2]
        | true =>
          have e266 := dv_266_4 (q := 0) (g := 0) (by omega) rfl (by omega) hR h0 hnm hL.2.1 hL.2.2.1
          cases e : db_nm (db_bk b 4) (db_bw b 4) (dv_L x n (dv_P x n i)) 0 with
          | none =>
            rw [e] at e266
            have e266 : db_f266 b (nI 4) (nI 0) = some (nI 0, dv_fb x n i 3 b) := e266
            have hB := dv_fb_B (x := x) (n := n) (i := i) (b := b) (f := 3) (by omega) (by omega)
            rw [e265, e266] at e2
            simp only [db_bd_some, dv_264b hB, db_bind_some, Option.some.injEq, Prod.mk.injEq] at e2
            simp (disch := omega) only [db_lit, eq_self, db_pI_e, db_pL_e, db_bind_some, db_bd_some, nI_add, pk_mul, nI_toInt, db_m1_t, dz_cn, Int.ofNat_le, Int.ofNat_lt, decide_true, decide_false, db_ct, db_cf, not_true_eq_false, not_false_eq_true, db_87e, db_37e, db_31e, db_28e, db_281e, db_211e, db_27, db_269w, db_litL, pk_lT, db_iL, db_p0_e, db_p0_n, db_p0_j, db_sub1, nI_eq, if_true, if_false, Bool.false_eq_true, Nat.one_ne_zero, h0, e266, h6, dv_47b hB]
            rw [e2.2]
          | some t2 =>
            exfalso
            rw [e] at e266
            have e266 : db_f266 b (nI 4) (nI 0) = some (nI t2, b) := e266
            obtain ⟨b3, eb3, r3, f3⟩ := dv_264t hR h0
            rw [e265, e266] at e2
            simp only [db_bd_some, eb3, db_bind_some, Option.some.injEq, Prod.mk.injEq] at e2
            obtain ⟨f, f1, f2, f4⟩ := g1.1
            rw [← e2.2, f3.2.1 12 (by omega), h0, nI_eq (by omega) (by omega)] at f4
            omega
    by_cases hm0 : m = 0
    · have hv1 : v = nI 1 := by
        rcases hv with ⟨-, h⟩ | ⟨h, -⟩
        · exact h
        · omega
      refine hgo hv1 ?_ (.inr hm0)
      subst hm0
      rw [db_f78_b2]
      simp (disch := omega) only [db_lit, eq_self, db_pI_e, db_pL_e, db_bind_some, db_bd_some, nI_add, pk_mul, nI_toInt, db_m1_t, dz_cn, Int.ofNat_le, Int.ofNat_lt, decide_true, decide_false, db_ct, db_cf, not_true_eq_false, not_false_eq_true, db_87e, db_37e, db_31e, db_28e, db_281e, db_211e, db_27, db_269w, db_litL, pk_lT, db_iL, db_p0_e, db_p0_n, db_p0_j, db_sub1, nI_eq, if_true, if_false, Bool.false_eq_true, Nat.one_ne_zero]
    · have hv : v = if dv_mo x n i = true then nI 1 else nI 0 := by rcases hv with ⟨h, -⟩ | ⟨-, h⟩; omega; exact h
      cases hnm : dv_nm x n i with
      | true =>
        obtain ⟨hk1, -⟩ := dv_n_L hnm
        have hmo : dv_mo x n i = true := by
          unfold dv_nm at hnm
          simp only [Bool.and_eq_true, decide_eq_true_eq] at hnm
          unfold dv_mo
          rw [decide_eq_true hk1, hnm.2.2]
          decide
        rw [hmo, if_pos rfl] at hv
        refine hgo hv ?_ (.inl hnm)
        rw [db_f78_b2]
        simp (disch := omega) only [db_lit, eq_self, db_pI_e, db_pL_e, db_bind_some, db_bd_some, nI_add, pk_mul, nI_toInt, db_m1_t, dz_cn, Int.ofNat_le, Int.ofNat_lt, decide_true, decide_false, db_ct, db_cf, not_true_eq_false, not_false_eq_true, db_87e, db_37e, db_31e, db_28e, db_281e, db_211e, db_27, db_269w, db_litL, pk_lT, db_iL, db_p0_e, db_p0_n, db_p0_j, db_sub1, nI_eq, if_true, if_false, Bool.false_eq_true, Nat.one_ne_zero, hm0, (show ¬ 6 ≤ m by omega), dv_62 hC, hnm]
      | false =>
        have hC5 : dv_CT x n i (db_uI a 185 k (nI m)) := dv_CT_u hC (by omega)
        have eA : (db_f78_b2 (F + 1) a (nI k) (nI m)) = some (true, db_uI a 185 k (nI m)) := by
          rw [db_f78_b2]
          unfold db_f78_b55
          simp (disch := omega) only [db_lit, eq_self, db_pI_e, db_pL_e, db_bind_some, db_bd_some, nI_add, pk_mul, nI_toInt, db_m1_t, dz_cn, Int.ofNat_le, Int.ofNat_lt, decide_true, decide_false, db_ct, db_cf, not_true_eq_false, not_false_eq_true, db_87e, db_37e, db_31e, db_28e, db_281e, db_211e, db_27, db_269w, db_litL, pk_lT, db_iL, db_p0_e, db_p0_n, db_p0_j, db_sub1, nI_eq, if_true, if_false, Bool.false_eq_true, Nat.one_ne_zero, hm0, (show ¬ 6 ≤ m by omega), dv_62 hC, db_h_185, dv_62 hC5, hnm]
        cases hmo : dv_mo x n i with
        | false =>
          rw [hmo, if_neg (by decide)] at hv
          subst hv
          refine .inl ⟨_, b, m, i, eA, ?_, by omega, by omega, Nat.le_refl _, ⟨hC5, hR, h0, fun p j p1 p2 p3 p4 => by rw [db_uI_if, if_neg (by omega)]; exact hfr p j p1 p2 p3 p4, h2, dv_Fa_u hFa (.inl (by omega)), fun f hf => by rw [db_uI_n (by omega)]; exact hth f hf, h674, h676, hFb⟩, db_uI_1⟩
          rw [db_f272_b12]
          simp (disch := omega) only [db_lit, eq_self, db_pI_e, db_pL_e, db_bind_some, db_bd_some, nI_add, pk_mul, nI_toInt, db_m1_t, dz_cn, Int.ofNat_le, Int.ofNat_lt, decide_true, decide_false, db_ct, db_cf, not_true_eq_false, not_false_eq_true, db_87e, db_37e, db_31e, db_28e, db_281e, db_211e, db_27, db_269w, db_litL, pk_lT, db_iL, db_p0_e, db_p0_n, db_p0_j, db_sub1, nI_eq, if_true, if_false, Bool.false_eq_true, Nat.one_ne_zero, h0]
        | true =>
          rw [hmo, if_pos rfl] at hv
          subst hv
          have e266 := dv_266f_4 (g := 0) hR h0 hnm
          have hB := dv_fb_B (x := x) (n := n) (i := i) (b := b) (f := 2) (by omega) (by omega)
          unfold dv_mo at hmo
          simp only [Bool.and_eq_true, decide_eq_true_eq] at hmo
          have hfk : dv_fk x n i 2 = 2 := by unfold dv_fk; rw [if_neg (by omega)]
          refine .inr (.inl ⟨_, dv_fb x n i 2 b, eA, ?_, ⟨i, hC5, hmo.1, hmo.2, ?_, ?_⟩, dv_Fa_u hFa (.inl (by omega)), dv_Fb_fb hFb⟩)
          · rw [db_f272_b12]
            simp (disch := omega) only [db_lit, eq_self, db_pI_e, db_pL_e, db_bind_some, db_bd_some, nI_add, pk_mul, nI_toInt, db_m1_t, dz_cn, Int.ofNat_le, Int.ofNat_lt, decide_true, decide_false, db_ct, db_cf, not_true_eq_false, not_false_eq_true, db_87e, db_37e, db_31e, db_28e, db_281e, db_211e, db_27, db_269w, db_litL, pk_lT, db_iL, db_p0_e, db_p0_n, db_p0_j, db_sub1, nI_eq, if_true, if_false, Bool.false_eq_true, Nat.one_ne_zero, h0, e266, h6, dv_47b hB]
          · unfold dv_fb
            rw [db_uI_j (by decide), db_uI_1, hfk]
          · unfold dv_fb
            rw [db_uI_1]
end DVDM
