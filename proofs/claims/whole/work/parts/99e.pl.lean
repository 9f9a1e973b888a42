/-! STEPS IN ROWS -/
def dv_pl (R : Nat → Nat → Int32) (c : db_C) (d i j a b : Nat) : Prop := ∀ f, j - i ≤ f → db_PL R c f d i j a b
section DVPL
variable {R R' : Nat → Nat → Int32} {c c' : db_C}
theorem dv_pl_0 {d i a : Nat} : dv_pl R c d i i a a := fun f _ => by
  cases f with
  | zero => exact ⟨rfl, rfl⟩
  | succ f => exact .inl ⟨rfl, rfl⟩
theorem dv_pl_f : ∀ {f d i j a b : Nat}, db_PL R c f d i j a b → dv_pl R c d i j a b
  | 0, d, i, j, a, b, h => by
    obtain ⟨h1, h2⟩ := h
    subst h1
    subst h2
    exact dv_pl_0
  | f + 1, d, i, j, a, b, h => by
    rcases h with ⟨h1, h2⟩ | ⟨hij, x, x1, x2, x3, x4, x5⟩
    · subst h1
      subst h2
      exact dv_pl_0
    · intro f' hf'
      cases f' with
      | zero => omega
      | succ f' =>
        refine .inr ⟨hij, x, x1, x2, x3, x4, ?_⟩
        rcases x5 with ⟨y1, y2, y3⟩ | ⟨y1, y2, g, g1, g2, g3, g4, g5, g6⟩
        · exact .inl ⟨y1, y2, dv_pl_f y3 f' (by omega)⟩
        · exact .inr ⟨y1, y2, g, g1, g2, g3, g4, dv_pl_f g5 f' (by omega), dv_pl_f g6 f' (by omega)⟩
theorem dv_SRc {Q Q' : Nat → Int32} {W : Nat} (hn : ∀ k, k < 6 → c' k = c k) (hw : ∀ g, g < 9 → c' (W + g) = c (W + g)) (hQ : ∀ f, f < 6 → Q' f = Q f) (h : db_SR Q c W) : db_SR Q' c' W := by
  have e0 : c' W = c W := hw 0 (by omega)
  have n1 : db_n c' 1 = db_n c 1 := dv_n_e (hn 1 (by omega))
  have n2 : db_n c' 2 = db_n c 2 := dv_n_e (hn 2 (by omega))
  have n3 : db_n c' 3 = db_n c 3 := dv_n_e (hn 3 (by omega))
  have n5 : db_n c' 5 = db_n c 5 := dv_n_e (hn 5 (by omega))
  unfold db_SR at h ⊢
  rw [e0, n1, n2, n3, n5, hw 1 (by omega), hw 2 (by omega), hw 3 (by omega), hw 6 (by omega), hw 7 (by omega), hQ 0 (by omega), hQ 1 (by omega), hQ 2 (by omega), hQ 3 (by omega), hQ 4 (by omega)]
  exact h
theorem dv_plc (hn : ∀ k, k < 6 → c' k = c k) : ∀ {f d i j a b : Nat}, (∀ k, 201 + 9 * i ≤ k → k < 201 + 9 * j → c' k = c k) → (∀ r, a ≤ r → r < b → R' r = R r) → db_PL R c f d i j a b → db_PL R' c' f d i j a b
  | 0, d, i, j, a, b, _, _, h => h
  | f + 1, d, i, j, a, b, hw, hR, h => by
    rcases h with h | ⟨hij, x, x1, x2, x3, x4, x5⟩
    · exact .inl h
    · have hab : a < b := by
        rcases x5 with ⟨y1, y2, y3⟩ | ⟨y1, y2, g, g1, g2, g3, g4, g5, g6⟩
        · have := (dw_pl_le y3).2; omega
        · have := (dw_pl_le g6).2; omega
      have e0 : c' (201 + 9 * i) = c (201 + 9 * i) := hw _ (by omega) (by omega)
      refine .inr ⟨hij, x, x1, x2, by rw [hw _ (by omega) (by omega)]; exact x3, dv_SRc hn (fun g hg => hw _ (by omega) (by omega)) (fun f _ => by rw [hR a (Nat.le_refl _) hab]) x4, ?_⟩
      rw [e0]
      rcases x5 with ⟨y1, y2, y3⟩ | ⟨y1, y2, g, g1, g2, g3, g4, g5, g6⟩
      · exact .inl ⟨y1, y2, dv_plc hn (fun k h1 h2 => hw k (by omega) h2) (fun r h1 h2 => hR r (by omega) h2) y3⟩
      · have hgb := (dw_pl_le g6).2
        exact .inr ⟨y1, y2, g, g1, by rw [hR a (Nat.le_refl _) hab]; exact g2, by rw [hR g (by omega) (by omega)]; exact g3, by rw [hR g (by omega) (by omega)]; exact g4, dv_plc hn (fun k h1 h2 => hw k (by omega) (by omega)) (fun r h1 h2 => hR r (by omega) (by omega)) g5, dv_plc hn (fun k h1 h2 => hw k (by omega) h2) (fun r h1 h2 => hR r (by omega) h2) g6⟩
theorem dv_pl_a {k e : Nat} : ∀ {f d i j a b : Nat}, db_PL R c f d i j a b → dv_pl R c d j k b e → j ≤ k → dv_pl R c d i k a e
  | 0, d, i, j, a, b, h, h2, _ => by
    obtain ⟨h1, h3⟩ := h
    subst h1
    subst h3
    exact h2
  | f + 1, d, i, j, a, b, h, h2, hjk => by
    rcases h with ⟨h1, h3⟩ | ⟨hij, x, x1, x2, x3, x4, x5⟩
    · subst h1
      subst h3
      exact h2
    · intro f' hf'
      cases f' with
      | zero => omega
      | succ f' =>
        refine .inr ⟨by omega, x, x1, by omega, x3, x4, ?_⟩
        rcases x5 with ⟨y1, y2, y3⟩ | ⟨y1, y2, g, g1, g2, g3, g4, g5, g6⟩
        · exact .inl ⟨y1, y2, dv_pl_a y3 h2 hjk f' (by omega)⟩
        · exact .inr ⟨y1, y2, g, g1, g2, g3, g4, dv_pl_f g5 f' (by omega), dv_pl_a g6 h2 hjk f' (by omega)⟩
/-- one step -/
theorem dv_pl_1 {d i a : Nat} (h3 : c (201 + 9 * i + 8) = nI (i + 1)) (h4 : db_SR (R a) c (201 + 9 * i)) (h5 : c (201 + 9 * i) ≠ nI 4 ∧ c (201 + 9 * i) ≠ nI 5) : dv_pl R c d i (i + 1) a (a + 1) := fun f hf => by
  cases f with
  | zero => omega
  | succ f => exact .inr ⟨by omega, i + 1, by omega, by omega, h3, h4, .inl ⟨h5, rfl, dv_pl_0 f (by omega)⟩⟩
/-- one block -/
theorem dv_pl_b {d i e a g : Nat} (hie : i < e) (h3 : c (201 + 9 * i + 8) = nI e) (h4 : db_SR (R a) c (201 + 9 * i)) (h5 : c (201 + 9 * i) = nI 4 ∨ c (201 + 9 * i) = nI 5) (hd : 0 < d) (hag : a < g) (r1 : R a 5 = nI g) (r2 : R g 0 = nI 25) (r3 : R g 5 = nI a) (hb : dv_pl R c (d - 1) (i + 1) e (a + 1) g) : dv_pl R c d i e a (g + 1) := fun f hf => by
  cases f with
  | zero => omega
  | succ f => exact .inr ⟨hie, e, hie, Nat.le_refl _, h3, h4, .inr ⟨h5, hd, g, hag, r1, r2, r3, hb f (by omega), dv_pl_0 f (by omega)⟩⟩
end DVPL
/-! the class's loop over rows -/
def dv_Ln (a a' : db_S) (i i' : Nat) : Prop := ∃ T, i + T ≤ i' ∧ ∀ F v2, v2 ≤ i → db_f89_b30 (F + T) a (nI v2) = db_f89_b30 F a' (nI (v2 + T))
def dv_Lf (a a' : db_S) (i : Nat) : Prop := ∃ T, i + T ≤ 2000 ∧ ∀ F v2, v2 ≤ i → db_f89_b30 (F + T) a (nI v2) = some (false, a')
section DVLN
variable {a a1 a2 a3 : db_S} {x : Nat → Int32} {n i i1 i2 : Nat}
theorem dv_Ln_t (h : dv_Ln a a1 i i1) (k : dv_Ln a1 a2 i1 i2) : dv_Ln a a2 i i2 := by
  obtain ⟨T, h1, h2⟩ := h
  obtain ⟨S, k1, k2⟩ := k
  refine ⟨T + S, by omega, fun F v hv => ?_⟩
  rw [show F + (T + S) = (F + S) + T by omega, h2 (F + S) v hv, k2 F (v + T) (by omega), Nat.add_assoc]
theorem dv_Ln_f (h : dv_Ln a a1 i i1) (k : dv_Lf a1 a2 i1) : dv_Lf a a2 i := by
  obtain ⟨T, h1, h2⟩ := h
  obtain ⟨S, k1, k2⟩ := k
  refine ⟨T + S, by omega, fun F v hv => ?_⟩
  rw [show F + (T + S) = (F + S) + T by omega, h2 (F + S) v hv, k2 F (v + T) (by omega)]
theorem dv_Ln_r : dv_Ln a a i i := ⟨0, by omega, fun F v _ => rfl⟩
theorem dv_Ln_m (h : dv_Ln a a1 i i1) (hi : i1 ≤ i2) : dv_Ln a a1 i i2 := by
  obtain ⟨T, h1, h2⟩ := h
  exact ⟨T, by omega, h2⟩
theorem dv_b30 (hC : dv_CT x n i a) (hk : ¬ dv_kd x n i = 0) {F v2 : Nat} (hv : v2 ≤ i) : db_f89_b30 (F + 1) a (nI v2) = db_bd (db_f90 a) fun q3 s4 => (cond q3 (db_bd (db_f79 s4) fun q5 s6 => (cond q5 (db_f89_b30 F s6 (nI (v2 + 1))) (some (false, s6)))) (some (false, s4))) := by
  have hP := dv_kd_lt hC hk
  have hib := dv_ok_le hC.1 hC.2.2.1
  have hbp := (dv_b_le (x := x) hC.1 i).2.1
  have hn := hC.1
  rw [db_f89_b30]
  simp (disch := omega) only [db_lit, eq_self, db_pI_e, db_pL_e, db_bind_some, db_bd_some, nI_add, pk_mul, nI_toInt, db_m1_t, dz_cn, Int.ofNat_le, Int.ofNat_lt, decide_true, decide_false, db_ct, db_cf, not_true_eq_false, not_false_eq_true, db_87e, db_37e, db_31e, db_28e, db_281e, db_211e, db_27, db_269w, db_litL, pk_lT, db_iL, db_p0_e, db_p0_n, db_p0_j, db_sub1, nI_eq, if_true, if_false, Bool.false_eq_true, Nat.one_ne_zero, (show ¬ 900 ≤ v2 by omega), dv_55 hC, hk]
theorem dv_Ln_1 (hC : dv_CT x n i a) (hk : ¬ dv_kd x n i = 0) (h1 : db_f90 a = some (true, a1)) (h2 : db_f79 a1 = some (true, a2)) (hi : i < i1) : dv_Ln a a2 i i1 := ⟨1, by omega, fun F v hv => by
  rw [dv_b30 hC hk hv, h1]
  simp (disch := omega) only [db_lit, eq_self, db_pI_e, db_pL_e, db_bind_some, db_bd_some, nI_add, pk_mul, nI_toInt, db_m1_t, dz_cn, Int.ofNat_le, Int.ofNat_lt, decide_true, decide_false, db_ct, db_cf, not_true_eq_false, not_false_eq_true, db_87e, db_37e, db_31e, db_28e, db_281e, db_211e, db_27, db_269w, db_litL, pk_lT, db_iL, db_p0_e, db_p0_n, db_p0_j, db_sub1, nI_eq, if_true, if_false, Bool.false_eq_true, Nat.one_ne_zero, h2]⟩
theorem dv_Lf_1 (hC : dv_CT x n i a) (hk : ¬ dv_kd x n i = 0) (h1 : db_f90 a = some (false, a1)) : dv_Lf a a1 i := ⟨1, by have := dv_i900 hC; omega, fun F v hv => by
  rw [dv_b30 hC hk hv, h1]
  simp (disch := omega) only [db_lit, eq_self, db_pI_e, db_pL_e, db_bind_some, db_bd_some, nI_add, pk_mul, nI_toInt, db_m1_t, dz_cn, Int.ofNat_le, Int.ofNat_lt, decide_true, decide_false, db_ct, db_cf, not_true_eq_false, not_false_eq_true, db_87e, db_37e, db_31e, db_28e, db_281e, db_211e, db_27, db_269w, db_litL, pk_lT, db_iL, db_p0_e, db_p0_n, db_p0_j, db_sub1, nI_eq, if_true, if_false, Bool.false_eq_true, Nat.one_ne_zero]⟩
theorem dv_Lf_2 (hC : dv_CT x n i a) (hk : ¬ dv_kd x n i = 0) (h1 : db_f90 a = some (true, a1)) (h2 : db_f79 a1 = some (false, a2)) : dv_Lf a a2 i := ⟨1, by have := dv_i900 hC; omega, fun F v hv => by
  rw [dv_b30 hC hk hv, h1]
  simp (disch := omega) only [db_lit, eq_self, db_pI_e, db_pL_e, db_bind_some, db_bd_some, nI_add, pk_mul, nI_toInt, db_m1_t, dz_cn, Int.ofNat_le, Int.ofNat_lt, decide_true, decide_false, db_ct, db_cf, not_true_eq_false, not_false_eq_true, db_87e, db_37e, db_31e, db_28e, db_281e, db_211e, db_27, db_269w, db_litL, pk_lT, db_iL, db_p0_e, db_p0_n, db_p0_j, db_sub1, nI_eq, if_true, if_false, Bool.false_eq_true, Nat.one_ne_zero, h2]⟩
/-- the text's end within a block -/
theorem dv_Lf_e (hC : dv_CT x n i a) (hk : dv_kd x n i = 0) {d : Nat} (hd : a.1 207 4 = nI d) (hd0 : 0 < d) (hd3 : d ≤ 3) : dv_Lf a (dv_fa x n i 2 a) i := ⟨1, by have := dv_i900 hC; omega, fun F v hv => by
  have := dv_i900 hC
  rw [db_f89_b30]
  unfold db_f89_b72
  by_cases e : 900 ≤ v
  · simp (disch := omega) only [db_lit, eq_self, db_pI_e, db_pL_e, db_bind_some, db_bd_some, nI_add, pk_mul, nI_toInt, db_m1_t, dz_cn, Int.ofNat_le, Int.ofNat_lt, decide_true, decide_false, db_ct, db_cf, not_true_eq_false, not_false_eq_true, db_87e, db_37e, db_31e, db_28e, db_281e, db_211e, db_27, db_269w, db_litL, pk_lT, db_iL, db_p0_e, db_p0_n, db_p0_j, db_sub1, nI_eq, if_true, if_false, Bool.false_eq_true, Nat.one_ne_zero, e, hd, (show ¬ d = 0 by omega), dv_58 hC 2]
  · simp (disch := omega) only [db_lit, eq_self, db_pI_e, db_pL_e, db_bind_some, db_bd_some, nI_add, pk_mul, nI_toInt, db_m1_t, dz_cn, Int.ofNat_le, Int.ofNat_lt, decide_true, decide_false, db_ct, db_cf, not_true_eq_false, not_false_eq_true, db_87e, db_37e, db_31e, db_28e, db_281e, db_211e, db_27, db_269w, db_litL, pk_lT, db_iL, db_p0_e, db_p0_n, db_p0_j, db_sub1, nI_eq, if_true, if_false, Bool.false_eq_true, Nat.one_ne_zero, e, dv_55 hC, hk, hd, (show ¬ d = 0 by omega), dv_58 hC 2]⟩
end DVLN
