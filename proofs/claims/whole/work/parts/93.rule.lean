/-! A RULE -/
def dv_Vl (c : db_C) (f : Nat) (v : Int32) : Prop := (f = 0 → ∃ t, t < db_n c 0 ∧ v = nI t) ∧ (f = 1 → -99 ≤ v.toInt ∧ v.toInt ≤ 99) ∧ (f = 2 ∨ f = 3 → db_O v (db_n c 0)) ∧ (f = 4 → db_O v (db_n c 1)) ∧ (f = 5 → db_O v (db_n c 2))
/-- on the way through rule k, m fields read; a1, b1: behind its name -/
def dv_CR (x : Nat → Int32) (n k : Nat) (c : db_C) (a1 b1 : db_S) (m i : Nat) (a b : db_S) : Prop := dv_CT x n i a ∧ dv_RT x n i b ∧ b.1 669 12 = nI 0 ∧ (∀ p, p ≠ 151 + k → p ≠ 13 → a.1 p = a1.1 p) ∧ a.2 = a1.2 ∧ dv_Fa a1 a ∧ (∀ f, f < m → a.1 (151 + k) f = b.1 674 (1939 + 12 * f + k) ∧ dv_Vl c f (a.1 (151 + k) f)) ∧ (∀ j, (∀ f, f < 6 → j ≠ 1939 + 12 * f + k) → b.1 674 j = b1.1 674 j) ∧ b.2 676 = b1.2 676 ∧ dv_Fb b1 b
/-- the end: all done, or a fault -/
def dv_RE (x : Nat → Int32) (n k : Nat) (c : db_C) (a1 b1 : db_S) (i : Nat) (fa : Option (Bool × db_S)) (fb : Option db_S) : Prop := ∃ r a b, fa = some (r, a) ∧ fb = some b ∧ ((r = true ∧ ∃ i1 b0, i ≤ i1 ∧ dv_CR x n k c a1 b1 6 i1 a b0 ∧ b = db_uI b0 674 1923 (nI (k + 1))) ∨ (r = false ∧ dv_Fl a b ∧ dv_Fa a1 a ∧ dv_Fb b1 b))
section DVRU
variable {a b a1 b1 z : db_S} {x : Nat → Int32} {n i : Nat} {v : Int32} {l : Int64} {c : db_C} {w : Nat → Int64}
/-! words asked anywhere -/
theorem dv_230t : ∃ p, db_f230 b l = some p := by
  unfold db_f230
  cases db_cnd .ne (b.1 669 14) 1 with
  | true => exact ⟨_, rfl⟩
  | false =>
    rw [db_cf]
    cases db_cnd .ne (lg_cmp (b.2 669 19) l) 0 with
    | true => exact ⟨_, rfl⟩
    | false => exact ⟨_, rfl⟩
theorem dv_y0 : ∃ p, db_f228 b = some p := by
  obtain ⟨p, hp⟩ := dv_230t (b := b) (l := db_kw 0)
  refine ⟨p, ?_⟩
  unfold db_f228
  rw [dv_s0, db_bind_some, hp, db_bind_some]
theorem dv_y1 : ∃ p, db_f237 b = some p := by
  obtain ⟨p, hp⟩ := dv_230t (b := b) (l := db_kw 1)
  refine ⟨p, ?_⟩
  unfold db_f237
  rw [dv_s1, db_bind_some, hp, db_bind_some]
theorem dv_y2 : ∃ p, db_f239 b = some p := by
  obtain ⟨p, hp⟩ := dv_230t (b := b) (l := db_kw 2)
  refine ⟨p, ?_⟩
  unfold db_f239
  rw [dv_s2, db_bind_some, hp, db_bind_some]
theorem dv_y3 : ∃ p, db_f241 b = some p := by
  obtain ⟨p, hp⟩ := dv_230t (b := b) (l := db_kw 3)
  refine ⟨p, ?_⟩
  unfold db_f241
  rw [dv_s3, db_bind_some, hp, db_bind_some]
theorem dv_y4 : ∃ p, db_f249 b = some p := by
  obtain ⟨p, hp⟩ := dv_230t (b := b) (l := db_kw 4)
  refine ⟨p, ?_⟩
  unfold db_f249
  rw [dv_s4, db_bind_some, hp, db_bind_some]
theorem dv_y5 : ∃ p, db_f251 b = some p := by
  obtain ⟨p, hp⟩ := dv_230t (b := b) (l := db_kw 5)
  refine ⟨p, ?_⟩
  unfold db_f251
  rw [dv_s5, db_bind_some, hp, db_bind_some]
theorem dv_y6 : ∃ p, db_f238 b = some p := by
  obtain ⟨p, hp⟩ := dv_230t (b := b) (l := db_kw 6)
  refine ⟨p, ?_⟩
  unfold db_f238
  rw [dv_s6, db_bind_some, hp, db_bind_some]
theorem dv_y7 : ∃ p, db_f240 b = some p := by
  obtain ⟨p, hp⟩ := dv_230t (b := b) (l := db_kw 7)
  refine ⟨p, ?_⟩
  unfold db_f240
  rw [dv_s7, db_bind_some, hp, db_bind_some]
theorem dv_y8 : ∃ p, db_f242 b = some p := by
  obtain ⟨p, hp⟩ := dv_230t (b := b) (l := db_kw 8)
  refine ⟨p, ?_⟩
  unfold db_f242
  rw [dv_s8, db_bind_some, hp, db_bind_some]
theorem dv_y9 : ∃ p, db_f243 b = some p := by
  obtain ⟨p, hp⟩ := dv_230t (b := b) (l := db_kw 9)
  refine ⟨p, ?_⟩
  unfold db_f243
  rw [dv_s9, db_bind_some, hp, db_bind_some]
theorem dv_y10 : ∃ p, db_f244 b = some p := by
  obtain ⟨p, hp⟩ := dv_230t (b := b) (l := db_kw 10)
  refine ⟨p, ?_⟩
  unfold db_f244
  rw [dv_s10, db_bind_some, hp, db_bind_some]
theorem dv_y11 : ∃ p, db_f245 b = some p := by
  obtain ⟨p, hp⟩ := dv_230t (b := b) (l := db_kw 11)
  refine ⟨p, ?_⟩
  unfold db_f245
  rw [dv_s11, db_bind_some, hp, db_bind_some]
theorem dv_y12 : ∃ p, db_f246 b = some p := by
  obtain ⟨p, hp⟩ := dv_230t (b := b) (l := db_kw 12)
  refine ⟨p, ?_⟩
  unfold db_f246
  rw [dv_s12, db_bind_some, hp, db_bind_some]
theorem dv_y13 : ∃ p, db_f247 b = some p := by
  obtain ⟨p, hp⟩ := dv_230t (b := b) (l := db_kw 13)
  refine ⟨p, ?_⟩
  unfold db_f247
  rw [dv_s13, db_bind_some, hp, db_bind_some]
theorem dv_y14 : ∃ p, db_f248 b = some p := by
  obtain ⟨p, hp⟩ := dv_230t (b := b) (l := db_kw 14)
  refine ⟨p, ?_⟩
  unfold db_f248
  rw [dv_s14, db_bind_some, hp, db_bind_some]
theorem dv_y16 : ∃ p, db_f252 b = some p := by
  obtain ⟨p, hp⟩ := dv_230t (b := b) (l := db_kw 16)
  refine ⟨p, ?_⟩
  unfold db_f252
  rw [dv_s16, db_bind_some, hp, db_bind_some]
theorem dv_y17 : ∃ p, db_f253 b = some p := by
  obtain ⟨p, hp⟩ := dv_230t (b := b) (l := db_kw 17)
  refine ⟨p, ?_⟩
  unfold db_f253
  rw [dv_s17, db_bind_some, hp, db_bind_some]
theorem dv_y25 : ∃ p, db_f256 b = some p := by
  obtain ⟨p, hp⟩ := dv_230t (b := b) (l := db_kw 25)
  refine ⟨p, ?_⟩
  unfold db_f256
  rw [dv_s25, db_bind_some, hp, db_bind_some]
theorem dv_y15 : ∃ p, db_f250 b = some p := by
  obtain ⟨p, hp⟩ := dv_230t (b := b) (l := db_kw 15)
  refine ⟨p, ?_⟩
  unfold db_f250
  rw [dv_s20, db_bind_some, dv_s15, hp, db_bind_some]
/-- one behind a word that may stand -/
theorem dv_oOpt {q g d f j : Nat} (hq : q < 6) (hg : q = if g = 4 then 5 else g) (hg4 : g ≤ 4) (hj : j < 28) (hd : 146 ≤ d ∧ d ≤ 270) (hd2 : d ≠ 146 ∧ d ≠ 203 ∧ d ≠ 204) (hw : ∀ (s : db_S) (v : Int32), db_wI s d (nI f) v = some (db_uI s d f v)) (hr : ∀ s : db_S, db_rI s d (nI f) = some (s.1 d f)) (hC : dv_CT x n i a) (hR : dv_RT x n i b) (h0 : b.1 669 12 = nI 0) (hL : dv_Lk_146 a b q) : ∃ r a1 v b1, db_f74 a d (nI f) (nI j) (nI q) = some (r, a1) ∧ db_f270 b (db_i (decide (dv_w x n i = nI j))) (nI 4) (nI g) = some (v, b1) ∧ ((r = true ∧ db_O v (db_n (db_bk b 4) q) ∧ a1.1 d f = v ∧ dv_Fr d f a a1 ∧ (∃ i1, i ≤ i1 ∧ dv_CT x n i1 a1 ∧ dv_RT x n i1 b1) ∧ dv_Fn b b1) ∨ (r = false ∧ dv_Fl a1 b1 ∧ dv_Fa a a1 ∧ dv_Fb b b1)) := by
  have hC1 : dv_CT x n i (db_uI a d f (-(nI 1))) := dv_CT_u hC hd
  have h66 := dv_66 hC1 hj
  by_cases e : dv_w x n i = nI j
  · rw [if_pos e, decide_eq_true e] at h66
    have hk := dv_w_kd hj e
    have hC2 := dv_CT_s hC1 (show ¬ dv_kd x n i = 0 by omega)
    obtain ⟨b0, eb0, r1, r2⟩ := dv_nx hR
    have h0' : b0.1 669 12 = nI 0 := by rw [r2.2.1 12 (by omega)]; exact h0
    have ebk := dv_bk_e (q := 4) (r2.1 674 (by decide)).1
    have hL2 : dv_Lk_146 (db_uI (db_uI a d f (-(nI 1))) 13 9 (nI (i + 1))) b0 q := dv_Lk_c_146 hL rfl (by rw [db_uI_n (by decide), db_uI_n (by omega)]) (by rw [db_uI_n (by decide), db_uI_n (by omega)]) (by rw [db_uI_n (by decide), db_uI_n (by omega)]) (by rw [ebk]) (dv_bw_e (r2.1 676 (by decide)).2)
    obtain ⟨r, a2, v, b2, e1, e2, h⟩ := dv_oName_146 hq hg hg4 hd hw hr hC2 r1 h0' hL2
    rw [decide_eq_true e]
    rcases h with ⟨rfl, ⟨k, k1, rfl⟩, g1, g2, g3, g4, g5⟩ | ⟨rfl, rfl, g1, g2, g3⟩
    · refine ⟨true, a2, nI k, b2, ?_, ?_, .inl ⟨rfl, .inr ⟨k, by rw [← ebk]; exact k1, rfl⟩, g1, ⟨fun p h1 h2 => ?_, ?_, fun p hp => ?_, fun p hp => ?_⟩, ⟨i + 1 + 1, by omega, g3, g4⟩, dv_Fn_t r2 g5⟩⟩
      · unfold db_f74
        simp (disch := omega) only [db_lit, eq_self, db_pI_e, db_pL_e, db_bind_some, db_bd_some, nI_add, pk_mul, nI_toInt, db_m1_t, dz_cn, Int.ofNat_le, Int.ofNat_lt, decide_true, decide_false, db_ct, db_cf, not_true_eq_false, not_false_eq_true, db_87e, db_37e, db_31e, db_28e, db_281e, db_211e, db_27, db_269w, db_litL, pk_lT, db_iL, db_p0_e, db_p0_n, db_p0_j, db_sub1, nI_eq, if_true, if_false, Bool.false_eq_true, Nat.one_ne_zero, hw, db_m1_l, h66, e1]
      · unfold db_f270
        simp (disch := omega) only [db_lit, eq_self, db_pI_e, db_pL_e, db_bind_some, db_bd_some, nI_add, pk_mul, nI_toInt, db_m1_t, dz_cn, Int.ofNat_le, Int.ofNat_lt, decide_true, decide_false, db_ct, db_cf, not_true_eq_false, not_false_eq_true, db_87e, db_37e, db_31e, db_28e, db_281e, db_211e, db_27, db_269w, db_litL, pk_lT, db_iL, db_p0_e, db_p0_n, db_p0_j, db_sub1, nI_eq, if_true, if_false, Bool.false_eq_true, Nat.one_ne_zero, h0, (show db_i true = nI 1 from rfl), eb0, e2, Nat.lt_irrefl]
      · rw [g2.1 p h1 h2, db_uI_n h2, db_uI_n h1]
      · rw [g2.2.1]; rfl
      · rw [g2.2.2.1 p hp, db_uI_j hp, db_uI_n (by omega)]
      · rw [g2.2.2.2 p hp, db_uI_n (by omega), db_uI_j hp]
    · refine ⟨false, a2, nI 0, b2, ?_, ?_, .inr ⟨rfl, g1, dv_Fa_t (dv_Fa_u (dv_Fa_u dv_Fa_r (.inl hd)) (.inr (by omega))) g2, dv_Fb_t (dv_Fb_n r2) g3⟩⟩
      · unfold db_f74
        simp (disch := omega) only [db_lit, eq_self, db_pI_e, db_pL_e, db_bind_some, db_bd_some, nI_add, pk_mul, nI_toInt, db_m1_t, dz_cn, Int.ofNat_le, Int.ofNat_lt, decide_true, decide_false, db_ct, db_cf, not_true_eq_false, not_false_eq_true, db_87e, db_37e, db_31e, db_28e, db_281e, db_211e, db_27, db_269w, db_litL, pk_lT, db_iL, db_p0_e, db_p0_n, db_p0_j, db_sub1, nI_eq, if_true, if_false, Bool.false_eq_true, Nat.one_ne_zero, hw, db_m1_l, h66, e1]
      · unfold db_f270
        simp (disch := omega) only [db_lit, eq_self, db_pI_e, db_pL_e, db_bind_some, db_bd_some, nI_add, pk_mul, nI_toInt, db_m1_t, dz_cn, Int.ofNat_le, Int.ofNat_lt, decide_true, decide_false, db_ct, db_cf, not_true_eq_false, not_false_eq_true, db_87e, db_37e, db_31e, db_28e, db_281e, db_211e, db_27, db_269w, db_litL, pk_lT, db_iL, db_p0_e, db_p0_n, db_p0_j, db_sub1, nI_eq, if_true, if_false, Bool.false_eq_true, Nat.one_ne_zero, h0, (show db_i true = nI 1 from rfl), eb0, e2, Nat.lt_irrefl]
  · rw [if_neg e, decide_eq_false e] at h66
    rw [decide_eq_false e]
    refine ⟨true, db_uI a d f (-(nI 1)), -(nI 1), b, ?_, ?_, .inl ⟨rfl, .inl rfl, db_uI_1, ⟨fun p h1 h2 => db_uI_n h1, rfl, fun p hp => by rw [db_uI_n (by omega)], fun p hp => db_uI_j hp⟩, ⟨i, Nat.le_refl _, hC1, hR⟩, dv_Fn_r⟩⟩
    · unfold db_f74
      simp (disch := omega) only [db_lit, eq_self, db_pI_e, db_pL_e, db_bind_some, db_bd_some, nI_add, pk_mul, nI_toInt, db_m1_t, dz_cn, Int.ofNat_le, Int.ofNat_lt, decide_true, decide_false, db_ct, db_cf, not_true_eq_false, not_false_eq_true, db_87e, db_37e, db_31e, db_28e, db_281e, db_211e, db_27, db_269w, db_litL, pk_lT, db_iL, db_p0_e, db_p0_n, db_p0_j, db_sub1, nI_eq, if_true, if_false, Bool.false_eq_true, Nat.one_ne_zero, hw, db_m1_l, h66]
    · unfold db_f270
      simp (disch := omega) only [db_lit, eq_self, db_pI_e, db_pL_e, db_bind_some, db_bd_some, nI_add, pk_mul, nI_toInt, db_m1_t, dz_cn, Int.ofNat_le, Int.ofNat_lt, decide_true, decide_false, db_ct, db_cf, not_true_eq_false, not_false_eq_true, db_87e, db_37e, db_31e, db_28e, db_281e, db_211e, db_27, db_269w, db_litL, pk_lT, db_iL, db_p0_e, db_p0_n, db_p0_j, db_sub1, nI_eq, if_true, if_false, Bool.false_eq_true, Nat.one_ne_zero, h0, (show db_i false = nI 0 from rfl), Nat.lt_irrefl]
/-! the reference's rest of a rule, piece by piece -/
noncomputable def dv_r9 (s36 : db_S) : Option db_S := (cond (db_cnd .ne (s36.1 669 12) 0) (some s36) ((db_rI s36 674 (1923 : Int32)).bind fun x37 => ((db_wI s36 674 (1923 : Int32) (x37 + (1 : Int32))).bind fun s38 => (some s38))))
noncomputable def dv_r8 (q1 : Int32) (s16 : db_S) : Option db_S := ((db_f248 s16).bind fun q17 => (db_bd (db_f270 s16 (db_i q17) (4 : Int32) (2 : Int32)) fun q19 s20 => ((db_wI s20 674 ((1999 : Int32) + q1) q19).bind fun s => dv_r9 s)))
noncomputable def dv_r7 (q1 : Int32) (s16 : db_S) : Option db_S := ((db_f247 s16).bind fun q17 => (db_bd (db_f270 s16 (db_i q17) (4 : Int32) (1 : Int32)) fun q19 s20 => ((db_wI s20 674 ((1987 : Int32) + q1) q19).bind fun s => dv_r8 q1 s)))
noncomputable def dv_r6 (q1 : Int32) (s16 : db_S) : Option db_S := ((db_f246 s16).bind fun q17 => (db_bd (db_f270 s16 (db_i q17) (4 : Int32) (0 : Int32)) fun q19 s20 => ((db_wI s20 674 ((1975 : Int32) + q1) q19).bind fun s => dv_r7 q1 s)))
noncomputable def dv_r5 (q1 : Int32) (s16 : db_S) : Option db_S := ((db_f245 s16).bind fun q17 => (db_bd (db_f270 s16 (db_i q17) (4 : Int32) (0 : Int32)) fun q19 s20 => ((db_wI s20 674 ((1963 : Int32) + q1) q19).bind fun s => dv_r6 q1 s)))
noncomputable def dv_r4 (q1 : Int32) (s13 : db_S) : Option db_S := (db_bd (db_f267 s13 (99 : Int32)) fun q14 s15 => ((db_wI s15 674 ((1951 : Int32) + q1) q14).bind fun s => dv_r5 q1 s))
noncomputable def dv_r3 (q1 : Int32) (s9 : db_S) : Option db_S := ((db_f243 s9).bind fun q10 => ((db_f264 s9 (db_i q10)).bind fun s => dv_r4 q1 s))
noncomputable def dv_r2 (q1 : Int32) (s6 : db_S) : Option db_S := (db_bd (db_f265 s6 (4 : Int32) (0 : Int32)) fun q7 s8 => ((db_wI s8 674 ((1939 : Int32) + q1) q7).bind fun s => dv_r3 q1 s))
noncomputable def dv_r1 (q1 : Int32) (s2 : db_S) : Option db_S := ((db_f242 s2).bind fun q3 => ((db_f264 s2 (db_i q3)).bind fun s => dv_r2 q1 s))
theorem dv_263e : db_f263 b = db_bd (db_f232 b (3 : Int32) (12 : Int32)) fun q1 s2 => dv_r1 q1 s2 := Eq.trans rfl rfl
theorem dv_r9b (h : dv_Bad b) : ∃ z, dv_r9 b = some z ∧ dv_Bq b z := by
  obtain ⟨f, f1, f2, f3⟩ := h
  refine ⟨b, ?_, dv_Bq_r⟩
  unfold dv_r9
  simp (disch := omega) only [db_lit, eq_self, db_pI_e, db_pL_e, db_bind_some, db_bd_some, nI_add, pk_mul, nI_toInt, db_m1_t, dz_cn, Int.ofNat_le, Int.ofNat_lt, decide_true, decide_false, db_ct, db_cf, not_true_eq_false, not_false_eq_true, db_87e, db_37e, db_31e, db_28e, db_281e, db_211e, db_27, db_269w, db_litL, pk_lT, db_iL, db_p0_e, db_p0_n, db_p0_j, db_sub1, nI_eq, if_true, if_false, Bool.false_eq_true, Nat.one_ne_zero, f3, (show ¬ f = 0 by omega)]
theorem dv_r8b {k : Nat} (hk : k < 12) (h : dv_Bad b) : ∃ z, dv_r8 (nI k) b = some z ∧ dv_Bq b z := by
  obtain ⟨p, hp⟩ := dv_y14 (b := b)
  have hq : dv_Bq b (db_uI b 674 (1999 + k) (-(nI 1))) := dv_Bq_4 dv_Bq_r (by omega)
  obtain ⟨z, ez, hz⟩ := dv_r9b (dv_Bad_q h hq)
  refine ⟨z, ?_, dv_Bq_t hq hz⟩
  unfold dv_r8
  simp (disch := omega) only [db_lit, eq_self, db_pI_e, db_pL_e, db_bind_some, db_bd_some, nI_add, pk_mul, nI_toInt, db_m1_t, dz_cn, Int.ofNat_le, Int.ofNat_lt, decide_true, decide_false, db_ct, db_cf, not_true_eq_false, not_false_eq_true, db_87e, db_37e, db_31e, db_28e, db_281e, db_211e, db_27, db_269w, db_litL, pk_lT, db_iL, db_p0_e, db_p0_n, db_p0_j, db_sub1, nI_eq, if_true, if_false, Bool.false_eq_true, Nat.one_ne_zero, hp, dv_270b h, db_h_674, ez]
theorem dv_r7b {k : Nat} (hk : k < 12) (h : dv_Bad b) : ∃ z, dv_r7 (nI k) b = some z ∧ dv_Bq b z := by
  obtain ⟨p, hp⟩ := dv_y13 (b := b)
  have hq : dv_Bq b (db_uI b 674 (1987 + k) (-(nI 1))) := dv_Bq_4 dv_Bq_r (by omega)
  obtain ⟨z, ez, hz⟩ := dv_r8b hk (dv_Bad_q h hq)
  refine ⟨z, ?_, dv_Bq_t hq hz⟩
  unfold dv_r7
  simp (disch := omega) only [db_lit, eq_self, db_pI_e, db_pL_e, db_bind_some, db_bd_some, nI_add, pk_mul, nI_toInt, db_m1_t, dz_cn, Int.ofNat_le, Int.ofNat_lt, decide_true, decide_false, db_ct, db_cf, not_true_eq_false, not_false_eq_true, db_87e, db_37e, db_31e, db_28e, db_281e, db_211e, db_27, db_269w, db_litL, pk_lT, db_iL, db_p0_e, db_p0_n, db_p0_j, db_sub1, nI_eq, if_true, if_false, Bool.false_eq_true, Nat.one_ne_zero, hp, dv_270b h, db_h_674, ez]
theorem dv_r6b {k : Nat} (hk : k < 12) (h : dv_Bad b) : ∃ z, dv_r6 (nI k) b = some z ∧ dv_Bq b z := by
  obtain ⟨p, hp⟩ := dv_y12 (b := b)
  have hq : dv_Bq b (db_uI b 674 (1975 + k) (-(nI 1))) := dv_Bq_4 dv_Bq_r (by omega)
  obtain ⟨z, ez, hz⟩ := dv_r7b hk (dv_Bad_q h hq)
  refine ⟨z, ?_, dv_Bq_t hq hz⟩
  unfold dv_r6
  simp (disch := omega) only [db_lit, eq_self, db_pI_e, db_pL_e, db_bind_some, db_bd_some, nI_add, pk_mul, nI_toInt, db_m1_t, dz_cn, Int.ofNat_le, Int.ofNat_lt, decide_true, decide_false, db_ct, db_cf, not_true_eq_false, not_false_eq_true, db_87e, db_37e, db_31e, db_28e, db_281e, db_211e, db_27, db_269w, db_litL, pk_lT, db_iL, db_p0_e, db_p0_n, db_p0_j, db_sub1, nI_eq, if_true, if_false, Bool.false_eq_true, Nat.one_ne_zero, hp, dv_270b h, db_h_674, ez]
theorem dv_r5b {k : Nat} (hk : k < 12) (h : dv_Bad b) : ∃ z, dv_r5 (nI k) b = some z ∧ dv_Bq b z := by
  obtain ⟨p, hp⟩ := dv_y11 (b := b)
  have hq : dv_Bq b (db_uI b 674 (1963 + k) (-(nI 1))) := dv_Bq_4 dv_Bq_r (by omega)
  obtain ⟨z, ez, hz⟩ := dv_r6b hk (dv_Bad_q h hq)
  refine ⟨z, ?_, dv_Bq_t hq hz⟩
  unfold dv_r5
  simp (disch := omega) only [db_lit, eq_self, db_pI_e, db_pL_e, db_bind_some, db_bd_some, nI_add, pk_mul, nI_toInt, db_m1_t, dz_cn, Int.ofNat_le, Int.ofNat_lt, decide_true, decide_false, db_ct, db_cf, not_true_eq_false, not_false_eq_true, db_87e, db_37e, db_31e, db_28e, db_281e, db_211e, db_27, db_269w, db_litL, pk_lT, db_iL, db_p0_e, db_p0_n, db_p0_j, db_sub1, nI_eq, if_true, if_false, Bool.false_eq_true, Nat.one_ne_zero, hp, dv_270b h, db_h_674, ez]
theorem dv_r4b {k : Nat} (hk : k < 12) (h : dv_Bad b) : ∃ z, dv_r4 (nI k) b = some z ∧ dv_Bq b z := by
  have hq : dv_Bq b (db_uI b 674 (1951 + k) (nI 0)) := dv_Bq_4 dv_Bq_r (by omega)
  obtain ⟨z, ez, hz⟩ := dv_r5b hk (dv_Bad_q h hq)
  refine ⟨z, ?_, dv_Bq_t hq hz⟩
  unfold dv_r4
  simp (disch := omega) only [db_lit, eq_self, db_pI_e, db_pL_e, db_bind_some, db_bd_some, nI_add, pk_mul, nI_toInt, db_m1_t, dz_cn, Int.ofNat_le, Int.ofNat_lt, decide_true, decide_false, db_ct, db_cf, not_true_eq_false, not_false_eq_true, db_87e, db_37e, db_31e, db_28e, db_281e, db_211e, db_27, db_269w, db_litL, pk_lT, db_iL, db_p0_e, db_p0_n, db_p0_j, db_sub1, nI_eq, if_true, if_false, Bool.false_eq_true, Nat.one_ne_zero, dv_267b h, db_h_674, ez]
theorem dv_r3b {k : Nat} (hk : k < 12) (h : dv_Bad b) : ∃ z, dv_r3 (nI k) b = some z ∧ dv_Bq b z := by
  obtain ⟨p, hp⟩ := dv_y9 (b := b)
  obtain ⟨z, ez, hz⟩ := dv_r4b hk h
  refine ⟨z, ?_, hz⟩
  unfold dv_r3
  simp (disch := omega) only [db_lit, eq_self, db_pI_e, db_pL_e, db_bind_some, db_bd_some, nI_add, pk_mul, nI_toInt, db_m1_t, dz_cn, Int.ofNat_le, Int.ofNat_lt, decide_true, decide_false, db_ct, db_cf, not_true_eq_false, not_false_eq_true, db_87e, db_37e, db_31e, db_28e, db_281e, db_211e, db_27, db_269w, db_litL, pk_lT, db_iL, db_p0_e, db_p0_n, db_p0_j, db_sub1, nI_eq, if_true, if_false, Bool.false_eq_true, Nat.one_ne_zero, hp, dv_264b h, ez]
theorem dv_r2b {k : Nat} (hk : k < 12) (h : dv_Bad b) : ∃ z, dv_r2 (nI k) b = some z ∧ dv_Bq b z := by
  have hq : dv_Bq b (db_uI b 674 (1939 + k) (nI 0)) := dv_Bq_4 dv_Bq_r (by omega)
  obtain ⟨z, ez, hz⟩ := dv_r3b hk (dv_Bad_q h hq)
  refine ⟨z, ?_, dv_Bq_t hq hz⟩
  unfold dv_r2
  simp (disch := omega) only [db_lit, eq_self, db_pI_e, db_pL_e, db_bind_some, db_bd_some, nI_add, pk_mul, nI_toInt, db_m1_t, dz_cn, Int.ofNat_le, Int.ofNat_lt, decide_true, decide_false, db_ct, db_cf, not_true_eq_false, not_false_eq_true, db_87e, db_37e, db_31e, db_28e, db_281e, db_211e, db_27, db_269w, db_litL, pk_lT, db_iL, db_p0_e, db_p0_n, db_p0_j, db_sub1, nI_eq, if_true, if_false, Bool.false_eq_true, Nat.one_ne_zero, dv_265b h, db_h_674, ez]
theorem dv_r1b {k : Nat} (hk : k < 12) (h : dv_Bad b) : ∃ z, dv_r1 (nI k) b = some z ∧ dv_Bq b z := by
  obtain ⟨p, hp⟩ := dv_y8 (b := b)
  obtain ⟨z, ez, hz⟩ := dv_r2b hk h
  refine ⟨z, ?_, hz⟩
  unfold dv_r1
  simp (disch := omega) only [db_lit, eq_self, db_pI_e, db_pL_e, db_bind_some, db_bd_some, nI_add, pk_mul, nI_toInt, db_m1_t, dz_cn, Int.ofNat_le, Int.ofNat_lt, decide_true, decide_false, db_ct, db_cf, not_true_eq_false, not_false_eq_true, db_87e, db_37e, db_31e, db_28e, db_281e, db_211e, db_27, db_269w, db_litL, pk_lT, db_iL, db_p0_e, db_p0_n, db_p0_j, db_sub1, nI_eq, if_true, if_false, Bool.false_eq_true, Nat.one_ne_zero, hp, dv_264b h, ez]
/-! the class's -/
noncomputable def dv_u8 (y2 : Nat) (s18 : db_S) : Option (Bool × db_S) := (db_bd (db_f74 s18 y2 (5 : Int32) (14 : Int32) (2 : Int32)) fun q19 s20 => (cond q19 (some (true, s20)) (some (false, s20))))
noncomputable def dv_u7 (y2 : Nat) (s : db_S) : Option (Bool × db_S) := (db_bd (db_f74 s y2 (4 : Int32) (13 : Int32) (1 : Int32)) fun q s' => (cond q (dv_u8 y2 s') (some (false, s'))))
noncomputable def dv_u6 (y2 : Nat) (s : db_S) : Option (Bool × db_S) := (db_bd (db_f74 s y2 (3 : Int32) (12 : Int32) (0 : Int32)) fun q s' => (cond q (dv_u7 y2 s') (some (false, s'))))
noncomputable def dv_u5 (y2 : Nat) (s : db_S) : Option (Bool × db_S) := (db_bd (db_f74 s y2 (2 : Int32) (11 : Int32) (0 : Int32)) fun q s' => (cond q (dv_u6 y2 s') (some (false, s'))))
noncomputable def dv_u4 (y2 : Nat) (s : db_S) : Option (Bool × db_S) := (db_bd (db_f72 s (99 : Int32) y2 (1 : Int32)) fun q s' => (cond q (dv_u5 y2 s') (some (false, s'))))
noncomputable def dv_u3 (y2 : Nat) (s : db_S) : Option (Bool × db_S) := (db_bd (db_f68 s (9 : Int32)) fun q s' => (cond q (dv_u4 y2 s') (some (false, s'))))
noncomputable def dv_u2 (y2 : Nat) (s : db_S) : Option (Bool × db_S) := (db_bd (db_f69_146 s (0 : Int32) y2 (0 : Int32)) fun q s' => (cond q (dv_u3 y2 s') (some (false, s'))))
noncomputable def dv_u1 (y2 : Nat) (s : db_S) : Option (Bool × db_S) := (db_bd (db_f68 s (8 : Int32)) fun q s' => (cond q (dv_u2 y2 s') (some (false, s'))))
theorem dv_67e : db_f67 a = (db_rI a 147 (3 : Int32)).bind fun x1 => (db_rR 150 x1).bind fun y2 => db_bd (db_f61_146 a (3 : Int32)) fun q3 s4 => (cond q3 (dv_u1 y2 s4) (some (false, s4))) := Eq.trans rfl rfl
/-! both -/
theorem dv_CRL {k m q : Nat} (hk : k < 12) (h : dv_CR x n k c a1 b1 m i a b) (hq : q < 6) (hL : dv_Lk_146 a1 b1 q) : dv_Lk_146 a b q := by
  obtain ⟨-, -, -, p1, p2, -, -, p3, p4, -⟩ := h
  refine dv_Lk_c_146 hL (by rw [p2]) (p1 203 (by omega) (by omega)) (p1 204 (by omega) (by omega)) (by rw [p1 146 (by omega) (by omega)]) ?_ (dv_bw_e p4)
  rw [← dv_bk_4 (by omega), ← dv_bk_4 (by omega)]
  exact p3 _ (fun f hf => by omega)
theorem dv_CRn {k m q : Nat} (hk : k < 12) (h : dv_CR x n k c a1 b1 m i a b) (hq : q < 6) (hc : db_bk b1 4 q = c q) : db_n (db_bk b 4) q = db_n c q := by
  obtain ⟨-, -, -, -, -, -, -, p3, -, -⟩ := h
  refine dv_n_e ?_
  rw [← hc, ← dv_bk_4 (by omega), ← dv_bk_4 (by omega)]
  exact p3 _ (fun f hf => by omega)
theorem dv_CRt {k m i1 : Nat} {a2 b2 : db_S} (hk : k < 12) (h : dv_CR x n k c a1 b1 m i a b) (hC : dv_CT x n i1 a2) (hR : dv_RT x n i1 b2) (ha : a2 = db_uI a 13 9 (nI i1)) (hb : dv_Fn b b2) : dv_CR x n k c a1 b1 m i1 a2 b2 := by
  obtain ⟨-, -, h0, p1, p2, p5, p6, p3, p4, p7⟩ := h
  subst ha
  refine ⟨hC, hR, by rw [hb.2.1 12 (by omega)]; exact h0, fun p h1 h2 => by rw [db_uI_n h2]; exact p1 p h1 h2, p2, dv_Fa_u p5 (.inr (by omega)), fun f hf => ?_, fun j hj => by rw [(hb.1 674 (by decide)).1]; exact p3 j hj, by rw [(hb.1 676 (by decide)).2]; exact p4, dv_Fb_t p7 (dv_Fb_n hb)⟩
  rw [db_uI_n (by omega), (hb.1 674 (by decide)).1]
  exact p6 f hf
/-- a field more -/
theorem dv_CRf {k m i1 : Nat} {a2 b2 : db_S} (hk : k < 12) (hm : m < 6) (h : dv_CR x n k c a1 b1 m i a b) (hC : dv_CT x n i1 a2) (hR : dv_RT x n i1 b2) (ha : dv_Fr (151 + k) m a a2) (hav : a2.1 (151 + k) m = v) (hv : dv_Vl c m v) (hb : dv_Fn b b2) : dv_CR x n k c a1 b1 (m + 1) i1 a2 (db_uI b2 674 (1939 + 12 * m + k) v) := by
  obtain ⟨-, -, h0, p1, p2, p5, p6, p3, p4, p7⟩ := h
  obtain ⟨q1, q2, q3, q4⟩ := ha
  refine ⟨hC, dv_RT_4 hR, by rw [db_uI_n (by decide), hb.2.1 12 (by omega)]; exact h0, fun p h1 h2 => by rw [q1 p h1 h2]; exact p1 p h1 h2, q2.trans p2, dv_Fa_t p5 ⟨fun p h1 h2 => ?_, fun j h1 h2 h3 => q3 j h3, by rw [q2]⟩, fun f hf => ?_, fun j hj => ?_, ?_, dv_Fb_4 (dv_Fb_t p7 (dv_Fb_n hb)) (by omega)⟩
  · rw [q2]
    exact ⟨q1 p (by omega) h1, rfl⟩
  · by_cases e : f = m
    · subst e
      rw [hav, db_uI_1]
      exact ⟨rfl, hv⟩
    · rw [q4 f e, db_uI_j (by omega), (hb.1 674 (by decide)).1]
      exact p6 f (by omega)
  · rw [db_uI_j (hj m hm), (hb.1 674 (by decide)).1]
    exact p3 j hj
  · rw [db_uI_2, (hb.1 676 (by decide)).2]
    exact p4
theorem dv_RE_f {k i0 : Nat} {fa : Option (Bool × db_S)} {fb : Option db_S} {a2 b2 b3 : db_S} {m : Nat} (h : dv_CR x n k c a1 b1 m i a b) (h1 : fa = some (false, a2)) (h2 : fb = some b3) (h3 : dv_Fl a2 b2) (h4 : dv_Fa a a2) (h5 : dv_Fb b b2) (h6 : dv_Bq b2 b3) : dv_RE x n k c a1 b1 i0 fa fb := ⟨false, a2, b3, h1, h2, .inr ⟨rfl, dv_Fl_q h3 h6, dv_Fa_t h.2.2.2.2.2.1 h4, dv_Fb_t h.2.2.2.2.2.2.2.2.2 (dv_Fb_t h5 h6.1)⟩⟩
theorem dv_RE_m {k i0 i1 : Nat} {fa : Option (Bool × db_S)} {fb : Option db_S} (h : dv_RE x n k c a1 b1 i1 fa fb) (hi : i0 ≤ i1) : dv_RE x n k c a1 b1 i0 fa fb := by
  obtain ⟨r, a, b, e1, e2, h⟩ := h
  rcases h with ⟨h1, i2, b0, h2, h3⟩ | h
  · exact ⟨r, a, b, e1, e2, .inl ⟨h1, i2, b0, by omega, h3⟩⟩
  · exact ⟨r, a, b, e1, e2, .inr h⟩
variable {k : Nat}
theorem dv_rr {f : Nat} (hk : k < 12) (hf : f < 6) : (∀ (s : db_S) (v : Int32), db_wI s (151 + k) (nI f) v = some (db_uI s (151 + k) f v)) ∧ ∀ s : db_S, db_rI s (151 + k) (nI f) = some (s.1 (151 + k) f) := ⟨fun s v => db_h_151 hk hf, fun s => db_g_151 hk hf⟩
theorem dv_R8 (hk : k < 12) (hc0 : db_bk b1 4 0 = c 0) (hc1 : db_bk b1 4 1 = c 1) (hc2 : db_bk b1 4 2 = c 2) (hL0 : dv_Lk_146 a1 b1 0) (hL1 : dv_Lk_146 a1 b1 1) (hL2 : dv_Lk_146 a1 b1 2) (hcn : b1.1 674 1923 = nI k) (h : dv_CR x n k c a1 b1 5 i a b) : dv_RE x n k c a1 b1 i (dv_u8 (151 + k) a) (dv_r8 (nI k) b) := by
  obtain ⟨r, a2, v, b2, e1, e2, hh⟩ := dv_oOpt (q := 2) (g := 2) (d := 151 + k) (f := 5) (j := 14) (by omega) rfl (by omega) (by omega) (by omega) (by omega) (dv_rr hk (by omega)).1 (dv_rr hk (by omega)).2 h.1 h.2.1 h.2.2.1 (dv_CRL hk h (by omega) hL2)
  have hx := dv_x14 h.2.1
  rcases hh with ⟨rfl, hv, g1, g2, ⟨i1, hi1, g3, g4⟩, g5⟩ | ⟨rfl, g1, g2, g3⟩
  · rw [dv_CRn hk h (by omega) hc2] at hv
    have hn := dv_CRf hk (by omega) h g3 g4 g2 g1 (show dv_Vl c 5 v from ⟨fun h => absurd h (by decide), fun h => absurd h (by decide), fun h => absurd h (by decide), fun h => absurd h (by decide), fun _ => hv⟩) g5
    rw [show 1939 + 12 * 5 + k = 1999 + k by omega] at hn
    have h12 := hn.2.2.1
    have e23 : (db_uI b2 674 (1999 + k) v).1 674 1923 = nI k := by rw [hn.2.2.2.2.2.2.2.1 1923 (fun f hf => by omega)]; exact hcn
    refine ⟨true, a2, _, ?_, ?_, .inl ⟨rfl, i1, db_uI b2 674 (1999 + k) v, hi1, hn, rfl⟩⟩
    · unfold dv_u8
      simp (disch := omega) only [db_lit, eq_self, db_pI_e, db_pL_e, db_bind_some, db_bd_some, nI_add, pk_mul, nI_toInt, db_m1_t, dz_cn, Int.ofNat_le, Int.ofNat_lt, decide_true, decide_false, db_ct, db_cf, not_true_eq_false, not_false_eq_true, db_87e, db_37e, db_31e, db_28e, db_281e, db_211e, db_27, db_269w, db_litL, pk_lT, db_iL, db_p0_e, db_p0_n, db_p0_j, db_sub1, nI_eq, if_true, if_false, Bool.false_eq_true, Nat.one_ne_zero, e1]
    · unfold dv_r8 dv_r9
      simp (disch := omega) only [db_lit, eq_self, db_pI_e, db_pL_e, db_bind_some, db_bd_some, nI_add, pk_mul, nI_toInt, db_m1_t, dz_cn, Int.ofNat_le, Int.ofNat_lt, decide_true, decide_false, db_ct, db_cf, not_true_eq_false, not_false_eq_true, db_87e, db_37e, db_31e, db_28e, db_281e, db_211e, db_27, db_269w, db_litL, pk_lT, db_iL, db_p0_e, db_p0_n, db_p0_j, db_sub1, nI_eq, if_true, if_false, Bool.false_eq_true, Nat.one_ne_zero, hx, e2, db_h_674, h12, db_g_674, e23]
  · obtain ⟨z, ez, hz⟩ := dv_r9b (dv_Bad_q g1.1 (dv_Bq_4 (j := 1999 + k) (v := v) dv_Bq_r (by omega)))
    refine dv_RE_f h (a2 := a2) (b2 := b2) (b3 := z) ?_ ?_ g1 g2 g3 (dv_Bq_t (dv_Bq_4 dv_Bq_r (by omega)) hz)
    · unfold dv_u8
      simp (disch := omega) only [db_lit, eq_self, db_pI_e, db_pL_e, db_bind_some, db_bd_some, nI_add, pk_mul, nI_toInt, db_m1_t, dz_cn, Int.ofNat_le, Int.ofNat_lt, decide_true, decide_false, db_ct, db_cf, not_true_eq_false, not_false_eq_true, db_87e, db_37e, db_31e, db_28e, db_281e, db_211e, db_27, db_269w, db_litL, pk_lT, db_iL, db_p0_e, db_p0_n, db_p0_j, db_sub1, nI_eq, if_true, if_false, Bool.false_eq_true, Nat.one_ne_zero, e1]
    · unfold dv_r8
      simp (disch := omega) only [db_lit, eq_self, db_pI_e, db_pL_e, db_bind_some, db_bd_some, nI_add, pk_mul, nI_toInt, db_m1_t, dz_cn, Int.ofNat_le, Int.ofNat_lt, decide_true, decide_false, db_ct, db_cf, not_true_eq_false, not_false_eq_true, db_87e, db_37e, db_31e, db_28e, db_281e, db_211e, db_27, db_269w, db_litL, pk_lT, db_iL, db_p0_e, db_p0_n, db_p0_j, db_sub1, nI_eq, if_true, if_false, Bool.false_eq_true, Nat.one_ne_zero, hx, e2, db_h_674, ez]
theorem dv_R7 (hk : k < 12) (hc0 : db_bk b1 4 0 = c 0) (hc1 : db_bk b1 4 1 = c 1) (hc2 : db_bk b1 4 2 = c 2) (hL0 : dv_Lk_146 a1 b1 0) (hL1 : dv_Lk_146 a1 b1 1) (hL2 : dv_Lk_146 a1 b1 2) (hcn : b1.1 674 1923 = nI k) (h : dv_CR x n k c a1 b1 4 i a b) : dv_RE x n k c a1 b1 i (dv_u7 (151 + k) a) (dv_r7 (nI k) b) := by
  obtain ⟨r, a2, v, b2, e1, e2, hh⟩ := dv_oOpt (q := 1) (g := 1) (d := 151 + k) (f := 4) (j := 13) (by omega) rfl (by omega) (by omega) (by omega) (by omega) (dv_rr hk (by omega)).1 (dv_rr hk (by omega)).2 h.1 h.2.1 h.2.2.1 (dv_CRL hk h (by omega) hL1)
  have hx := dv_x13 h.2.1
  rcases hh with ⟨rfl, hv, g1, g2, ⟨i1, hi1, g3, g4⟩, g5⟩ | ⟨rfl, g1, g2, g3⟩
  · rw [dv_CRn hk h (by omega) hc1] at hv
    have hn := dv_CRf hk (by omega) h g3 g4 g2 g1 (show dv_Vl c 4 v from ⟨fun h => absurd h (by decide), fun h => absurd h (by decide), fun h => absurd h (by decide), fun _ => hv, fun h => absurd h (by decide)⟩) g5
    rw [show 1939 + 12 * 4 + k = 1987 + k by omega] at hn
    obtain ⟨rr, aa, bb, f1, f2, f3⟩ := dv_RE_m (dv_R8 hk hc0 hc1 hc2 hL0 hL1 hL2 hcn hn) hi1
    refine ⟨rr, aa, bb, ?_, ?_, f3⟩
    · unfold dv_u7
      simp (disch := omega) only [db_lit, eq_self, db_pI_e, db_pL_e, db_bind_some, db_bd_some, nI_add, pk_mul, nI_toInt, db_m1_t, dz_cn, Int.ofNat_le, Int.ofNat_lt, decide_true, decide_false, db_ct, db_cf, not_true_eq_false, not_false_eq_true, db_87e, db_37e, db_31e, db_28e, db_281e, db_211e, db_27, db_269w, db_litL, pk_lT, db_iL, db_p0_e, db_p0_n, db_p0_j, db_sub1, nI_eq, if_true, if_false, Bool.false_eq_true, Nat.one_ne_zero, e1, f1]
    · unfold dv_r7
      simp (disch := omega) only [db_lit, eq_self, db_pI_e, db_pL_e, db_bind_some, db_bd_some, nI_add, pk_mul, nI_toInt, db_m1_t, dz_cn, Int.ofNat_le, Int.ofNat_lt, decide_true, decide_false, db_ct, db_cf, not_true_eq_false, not_false_eq_true, db_87e, db_37e, db_31e, db_28e, db_281e, db_211e, db_27, db_269w, db_litL, pk_lT, db_iL, db_p0_e, db_p0_n, db_p0_j, db_sub1, nI_eq, if_true, if_false, Bool.false_eq_true, Nat.one_ne_zero, hx, e2, db_h_674, f2]
  · obtain ⟨z, ez, hz⟩ := dv_r8b hk (dv_Bad_q g1.1 (dv_Bq_4 (j := 1987 + k) (v := v) dv_Bq_r (by omega)))
    refine dv_RE_f h (a2 := a2) (b2 := b2) (b3 := z) ?_ ?_ g1 g2 g3 (dv_Bq_t (dv_Bq_4 dv_Bq_r (by omega)) hz)
    · unfold dv_u7
      simp (disch := omega) only [db_lit, eq_self, db_pI_e, db_pL_e, db_bind_some, db_bd_some, nI_add, pk_mul, nI_toInt, db_m1_t, dz_cn, Int.ofNat_le, Int.ofNat_lt, decide_true, decide_false, db_ct, db_cf, not_true_eq_false, not_false_eq_true, db_87e, db_37e, db_31e, db_28e, db_281e, db_211e, db_27, db_269w, db_litL, pk_lT, db_iL, db_p0_e, db_p0_n, db_p0_j, db_sub1, nI_eq, if_true, if_false, Bool.false_eq_true, Nat.one_ne_zero, e1]
    · unfold dv_r7
      simp (disch := omega) only [db_lit, eq_self, db_pI_e, db_pL_e, db_bind_some, db_bd_some, nI_add, pk_mul, nI_toInt, db_m1_t, dz_cn, Int.ofNat_le, Int.ofNat_lt, decide_true, decide_false, db_ct, db_cf, not_true_eq_false, not_false_eq_true, db_87e, db_37e, db_31e, db_28e, db_281e, db_211e, db_27, db_269w, db_litL, pk_lT, db_iL, db_p0_e, db_p0_n, db_p0_j, db_sub1, nI_eq, if_true, if_false, Bool.false_eq_true, Nat.one_ne_zero, hx, e2, db_h_674, ez]
theorem dv_R6 (hk : k < 12) (hc0 : db_bk b1 4 0 = c 0) (hc1 : db_bk b1 4 1 = c 1) (hc2 : db_bk b1 4 2 = c 2) (hL0 : dv_Lk_146 a1 b1 0) (hL1 : dv_Lk_146 a1 b1 1) (hL2 : dv_Lk_146 a1 b1 2) (hcn : b1.1 674 1923 = nI k) (h : dv_CR x n k c a1 b1 3 i a b) : dv_RE x n k c a1 b1 i (dv_u6 (151 + k) a) (dv_r6 (nI k) b) := by
  obtain ⟨r, a2, v, b2, e1, e2, hh⟩ := dv_oOpt (q := 0) (g := 0) (d := 151 + k) (f := 3) (j := 12) (by omega) rfl (by omega) (by omega) (by omega) (by omega) (dv_rr hk (by omega)).1 (dv_rr hk (by omega)).2 h.1 h.2.1 h.2.2.1 (dv_CRL hk h (by omega) hL0)
  have hx := dv_x12 h.2.1
  rcases hh with ⟨rfl, hv, g1, g2, ⟨i1, hi1, g3, g4⟩, g5⟩ | ⟨rfl, g1, g2, g3⟩
  · rw [dv_CRn hk h (by omega) hc0] at hv
    have hn := dv_CRf hk (by omega) h g3 g4 g2 g1 (show dv_Vl c 3 v from ⟨fun h => absurd h (by decide), fun h => absurd h (by decide), fun _ => hv, fun h => absurd h (by decide), fun h => absurd h (by decide)⟩) g5
    rw [show 1939 + 12 * 3 + k = 1975 + k by omega] at hn
    obtain ⟨rr, aa, bb, f1, f2, f3⟩ := dv_RE_m (dv_R7 hk hc0 hc1 hc2 hL0 hL1 hL2 hcn hn) hi1
    refine ⟨rr, aa, bb, ?_, ?_, f3⟩
    · unfold dv_u6
      simp (disch := omega) only [db_lit, eq_self, db_pI_e, db_pL_e, db_bind_some, db_bd_some, nI_add, pk_mul, nI_toInt, db_m1_t, dz_cn, Int.ofNat_le, Int.ofNat_lt, decide_true, decide_false, db_ct, db_cf, not_true_eq_false, not_false_eq_true, db_87e, db_37e, db_31e, db_28e, db_281e, db_211e, db_27, db_269w, db_litL, pk_lT, db_iL, db_p0_e, db_p0_n, db_p0_j, db_sub1, nI_eq, if_true, if_false, Bool.false_eq_true, Nat.one_ne_zero, e1, f1]
    · unfold dv_r6
      simp (disch := omega) only [db_lit, eq_self, db_pI_e, db_pL_e, db_bind_some, db_bd_some, nI_add, pk_mul, nI_toInt, db_m1_t, dz_cn, Int.ofNat_le, Int.ofNat_lt, decide_true, decide_false, db_ct, db_cf, not_true_eq_false, not_false_eq_true, db_87e, db_37e, db_31e, db_28e, db_281e, db_211e, db_27, db_269w, db_litL, pk_lT, db_iL, db_p0_e, db_p0_n, db_p0_j, db_sub1, nI_eq, if_true, if_false, Bool.false_eq_true, Nat.one_ne_zero, hx, e2, db_h_674, f2]
  · obtain ⟨z, ez, hz⟩ := dv_r7b hk (dv_Bad_q g1.1 (dv_Bq_4 (j := 1975 + k) (v := v) dv_Bq_r (by omega)))
    refine dv_RE_f h (a2 := a2) (b2 := b2) (b3 := z) ?_ ?_ g1 g2 g3 (dv_Bq_t (dv_Bq_4 dv_Bq_r (by omega)) hz)
    · unfold dv_u6
      simp (disch := omega) only [db_lit, eq_self, db_pI_e, db_pL_e, db_bind_some, db_bd_some, nI_add, pk_mul, nI_toInt, db_m1_t, dz_cn, Int.ofNat_le, Int.ofNat_lt, decide_true, decide_false, db_ct, db_cf, not_true_eq_false, not_false_eq_true, db_87e, db_37e, db_31e, db_28e, db_281e, db_211e, db_27, db_269w, db_litL, pk_lT, db_iL, db_p0_e, db_p0_n, db_p0_j, db_sub1, nI_eq, if_true, if_false, Bool.false_eq_true, Nat.one_ne_zero, e1]
    · unfold dv_r6
      simp (disch := omega) only [db_lit, eq_self, db_pI_e, db_pL_e, db_bind_some, db_bd_some, nI_add, pk_mul, nI_toInt, db_m1_t, dz_cn, Int.ofNat_le, Int.ofNat_lt, decide_true, decide_false, db_ct, db_cf, not_true_eq_false, not_false_eq_true, db_87e, db_37e, db_31e, db_28e, db_281e, db_211e, db_27, db_269w, db_litL, pk_lT, db_iL, db_p0_e, db_p0_n, db_p0_j, db_sub1, nI_eq, if_true, if_false, Bool.false_eq_true, Nat.one_ne_zero, hx, e2, db_h_674, ez]
theorem dv_R5 (hk : k < 12) (hc0 : db_bk b1 4 0 = c 0) (hc1 : db_bk b1 4 1 = c 1) (hc2 : db_bk b1 4 2 = c 2) (hL0 : dv_Lk_146 a1 b1 0) (hL1 : dv_Lk_146 a1 b1 1) (hL2 : dv_Lk_146 a1 b1 2) (hcn : b1.1 674 1923 = nI k) (h : dv_CR x n k c a1 b1 2 i a b) : dv_RE x n k c a1 b1 i (dv_u5 (151 + k) a) (dv_r5 (nI k) b) := by
  obtain ⟨r, a2, v, b2, e1, e2, hh⟩ := dv_oOpt (q := 0) (g := 0) (d := 151 + k) (f := 2) (j := 11) (by omega) rfl (by omega) (by omega) (by omega) (by omega) (dv_rr hk (by omega)).1 (dv_rr hk (by omega)).2 h.1 h.2.1 h.2.2.1 (dv_CRL hk h (by omega) hL0)
  have hx := dv_x11 h.2.1
  rcases hh with ⟨rfl, hv, g1, g2, ⟨i1, hi1, g3, g4⟩, g5⟩ | ⟨rfl, g1, g2, g3⟩
  · rw [dv_CRn hk h (by omega) hc0] at hv
    have hn := dv_CRf hk (by omega) h g3 g4 g2 g1 (show dv_Vl c 2 v from ⟨fun h => absurd h (by decide), fun h => absurd h (by decide), fun _ => hv, fun h => absurd h (by decide), fun h => absurd h (by decide)⟩) g5
    rw [show 1939 + 12 * 2 + k = 1963 + k by omega] at hn
    obtain ⟨rr, aa, bb, f1, f2, f3⟩ := dv_RE_m (dv_R6 hk hc0 hc1 hc2 hL0 hL1 hL2 hcn hn) hi1
    refine ⟨rr, aa, bb, ?_, ?_, f3⟩
    · unfold dv_u5
      simp (disch := omega) only [db_lit, eq_self, db_pI_e, db_pL_e, db_bind_some, db_bd_some, nI_add, pk_mul, nI_toInt, db_m1_t, dz_cn, Int.ofNat_le, Int.ofNat_lt, decide_true, decide_false, db_ct, db_cf, not_true_eq_false, not_false_eq_true, db_87e, db_37e, db_31e, db_28e, db_281e, db_211e, db_27, db_269w, db_litL, pk_lT, db_iL, db_p0_e, db_p0_n, db_p0_j, db_sub1, nI_eq, if_true, if_false, Bool.false_eq_true, Nat.one_ne_zero, e1, f1]
    · unfold dv_r5
      simp (disch := omega) only [db_lit, eq_self, db_pI_e, db_pL_e, db_bind_some, db_bd_some, nI_add, pk_mul, nI_toInt, db_m1_t, dz_cn, Int.ofNat_le, Int.ofNat_lt, decide_true, decide_false, db_ct, db_cf, not_true_eq_false, not_false_eq_true, db_87e, db_37e, db_31e, db_28e, db_281e, db_211e, db_27, db_269w, db_litL, pk_lT, db_iL, db_p0_e, db_p0_n, db_p0_j, db_sub1, nI_eq, if_true, if_false, Bool.false_eq_true, Nat.one_ne_zero, hx, e2, db_h_674, f2]
  · obtain ⟨z, ez, hz⟩ := dv_r6b hk (dv_Bad_q g1.1 (dv_Bq_4 (j := 1963 + k) (v := v) dv_Bq_r (by omega)))
    refine dv_RE_f h (a2 := a2) (b2 := b2) (b3 := z) ?_ ?_ g1 g2 g3 (dv_Bq_t (dv_Bq_4 dv_Bq_r (by omega)) hz)
    · unfold dv_u5
      simp (disch := omega) only [db_lit, eq_self, db_pI_e, db_pL_e, db_bind_some, db_bd_some, nI_add, pk_mul, nI_toInt, db_m1_t, dz_cn, Int.ofNat_le, Int.ofNat_lt, decide_true, decide_false, db_ct, db_cf, not_true_eq_false, not_false_eq_true, db_87e, db_37e, db_31e, db_28e, db_281e, db_211e, db_27, db_269w, db_litL, pk_lT, db_iL, db_p0_e, db_p0_n, db_p0_j, db_sub1, nI_eq, if_true, if_false, Bool.false_eq_true, Nat.one_ne_zero, e1]
    · unfold dv_r5
      simp (disch := omega) only [db_lit, eq_self, db_pI_e, db_pL_e, db_bind_some, db_bd_some, nI_add, pk_mul, nI_toInt, db_m1_t, dz_cn, Int.ofNat_le, Int.ofNat_lt, decide_true, decide_false, db_ct, db_cf, not_true_eq_false, not_false_eq_true, db_87e, db_37e, db_31e, db_28e, db_281e, db_211e, db_27, db_269w, db_litL, pk_lT, db_iL, db_p0_e, db_p0_n, db_p0_j, db_sub1, nI_eq, if_true, if_false, Bool.false_eq_true, Nat.one_ne_zero, hx, e2, db_h_674, ez]
theorem dv_R4 (hk : k < 12) (hc0 : db_bk b1 4 0 = c 0) (hc1 : db_bk b1 4 1 = c 1) (hc2 : db_bk b1 4 2 = c 2) (hL0 : dv_Lk_146 a1 b1 0) (hL1 : dv_Lk_146 a1 b1 1) (hL2 : dv_Lk_146 a1 b1 2) (hcn : b1.1 674 1923 = nI k) (h : dv_CR x n k c a1 b1 1 i a b) : dv_RE x n k c a1 b1 i (dv_u4 (151 + k) a) (dv_r4 (nI k) b) := by
  obtain ⟨r, a2, v, b2, e1, e2, hh⟩ := dv_oSig (hi := 99) (d := 151 + k) (f := 1) (by omega) (by omega) (dv_rr hk (by omega)).1 (dv_rr hk (by omega)).2 h.1 h.2.1 h.2.2.1
  rcases hh with ⟨rfl, hv, g1, g2, i1, hi1, g3, g4, g5⟩ | ⟨rfl, g1, g2, g3⟩
  · have hn := dv_CRf hk (by omega) h g3 g4 g2 g1 (show dv_Vl c 1 v from ⟨fun h => absurd h (by decide), fun _ => ⟨by omega, by omega⟩, fun h => absurd h (by decide), fun h => absurd h (by decide), fun h => absurd h (by decide)⟩) g5
    rw [show 1939 + 12 * 1 + k = 1951 + k by omega] at hn
    obtain ⟨rr, aa, bb, f1, f2, f3⟩ := dv_RE_m (i0 := i) (dv_R5 hk hc0 hc1 hc2 hL0 hL1 hL2 hcn hn) (by omega)
    refine ⟨rr, aa, bb, ?_, ?_, f3⟩
    · unfold dv_u4
      simp (disch := omega) only [db_lit, eq_self, db_pI_e, db_pL_e, db_bind_some, db_bd_some, nI_add, pk_mul, nI_toInt, db_m1_t, dz_cn, Int.ofNat_le, Int.ofNat_lt, decide_true, decide_false, db_ct, db_cf, not_true_eq_false, not_false_eq_true, db_87e, db_37e, db_31e, db_28e, db_281e, db_211e, db_27, db_269w, db_litL, pk_lT, db_iL, db_p0_e, db_p0_n, db_p0_j, db_sub1, nI_eq, if_true, if_false, Bool.false_eq_true, Nat.one_ne_zero, e1, f1]
    · unfold dv_r4
      simp (disch := omega) only [db_lit, eq_self, db_pI_e, db_pL_e, db_bind_some, db_bd_some, nI_add, pk_mul, nI_toInt, db_m1_t, dz_cn, Int.ofNat_le, Int.ofNat_lt, decide_true, decide_false, db_ct, db_cf, not_true_eq_false, not_false_eq_true, db_87e, db_37e, db_31e, db_28e, db_281e, db_211e, db_27, db_269w, db_litL, pk_lT, db_iL, db_p0_e, db_p0_n, db_p0_j, db_sub1, nI_eq, if_true, if_false, Bool.false_eq_true, Nat.one_ne_zero, e2, db_h_674, f2]
  · obtain ⟨z, ez, hz⟩ := dv_r5b hk (dv_Bad_q g1.1 (dv_Bq_4 (j := 1951 + k) (v := v) dv_Bq_r (by omega)))
    refine dv_RE_f h (a2 := a2) (b2 := b2) (b3 := z) ?_ ?_ g1 g2 g3 (dv_Bq_t (dv_Bq_4 dv_Bq_r (by omega)) hz)
    · unfold dv_u4
      simp (disch := omega) only [db_lit, eq_self, db_pI_e, db_pL_e, db_bind_some, db_bd_some, nI_add, pk_mul, nI_toInt, db_m1_t, dz_cn, Int.ofNat_le, Int.ofNat_lt, decide_true, decide_false, db_ct, db_cf, not_true_eq_false, not_false_eq_true, db_87e, db_37e, db_31e, db_28e, db_281e, db_211e, db_27, db_269w, db_litL, pk_lT, db_iL, db_p0_e, db_p0_n, db_p0_j, db_sub1, nI_eq, if_true, if_false, Bool.false_eq_true, Nat.one_ne_zero, e1]
    · unfold dv_r4
      simp (disch := omega) only [db_lit, eq_self, db_pI_e, db_pL_e, db_bind_some, db_bd_some, nI_add, pk_mul, nI_toInt, db_m1_t, dz_cn, Int.ofNat_le, Int.ofNat_lt, decide_true, decide_false, db_ct, db_cf, not_true_eq_false, not_false_eq_true, db_87e, db_37e, db_31e, db_28e, db_281e, db_211e, db_27, db_269w, db_litL, pk_lT, db_iL, db_p0_e, db_p0_n, db_p0_j, db_sub1, nI_eq, if_true, if_false, Bool.false_eq_true, Nat.one_ne_zero, e2, db_h_674, ez]
theorem dv_R3 (hk : k < 12) (hc0 : db_bk b1 4 0 = c 0) (hc1 : db_bk b1 4 1 = c 1) (hc2 : db_bk b1 4 2 = c 2) (hL0 : dv_Lk_146 a1 b1 0) (hL1 : dv_Lk_146 a1 b1 1) (hL2 : dv_Lk_146 a1 b1 2) (hcn : b1.1 674 1923 = nI k) (h : dv_CR x n k c a1 b1 1 i a b) : dv_RE x n k c a1 b1 i (dv_u3 (151 + k) a) (dv_r3 (nI k) b) := by
  obtain ⟨r, a2, b2, e1, e2, hh⟩ := dv_oTake (j := 9) h.1 h.2.1 h.2.2.1 (by omega)
  have hx := dv_x9 h.2.1
  rcases hh with ⟨rfl, g1, g3, g4, g5⟩ | ⟨rfl, g1, g2, g3⟩
  · have hn := dv_CRt hk h g3 g4 g1 g5
    obtain ⟨rr, aa, bb, f1, f2, f3⟩ := dv_RE_m (i0 := i) (dv_R4 hk hc0 hc1 hc2 hL0 hL1 hL2 hcn hn) (by omega)
    refine ⟨rr, aa, bb, ?_, ?_, f3⟩
    · unfold dv_u3
      simp (disch := omega) only [db_lit, eq_self, db_pI_e, db_pL_e, db_bind_some, db_bd_some, nI_add, pk_mul, nI_toInt, db_m1_t, dz_cn, Int.ofNat_le, Int.ofNat_lt, decide_true, decide_false, db_ct, db_cf, not_true_eq_false, not_false_eq_true, db_87e, db_37e, db_31e, db_28e, db_281e, db_211e, db_27, db_269w, db_litL, pk_lT, db_iL, db_p0_e, db_p0_n, db_p0_j, db_sub1, nI_eq, if_true, if_false, Bool.false_eq_true, Nat.one_ne_zero, e1, f1]
    · unfold dv_r3
      simp (disch := omega) only [db_lit, eq_self, db_pI_e, db_pL_e, db_bind_some, db_bd_some, nI_add, pk_mul, nI_toInt, db_m1_t, dz_cn, Int.ofNat_le, Int.ofNat_lt, decide_true, decide_false, db_ct, db_cf, not_true_eq_false, not_false_eq_true, db_87e, db_37e, db_31e, db_28e, db_281e, db_211e, db_27, db_269w, db_litL, pk_lT, db_iL, db_p0_e, db_p0_n, db_p0_j, db_sub1, nI_eq, if_true, if_false, Bool.false_eq_true, Nat.one_ne_zero, hx, e2, f2]
  · obtain ⟨z, ez, hz⟩ := dv_r4b hk g1.1
    refine dv_RE_f h (a2 := a2) (b2 := b2) (b3 := z) ?_ ?_ g1 g2 g3 hz
    · unfold dv_u3
      simp (disch := omega) only [db_lit, eq_self, db_pI_e, db_pL_e, db_bind_some, db_bd_some, nI_add, pk_mul, nI_toInt, db_m1_t, dz_cn, Int.ofNat_le, Int.ofNat_lt, decide_true, decide_false, db_ct, db_cf, not_true_eq_false, not_false_eq_true, db_87e, db_37e, db_31e, db_28e, db_281e, db_211e, db_27, db_269w, db_litL, pk_lT, db_iL, db_p0_e, db_p0_n, db_p0_j, db_sub1, nI_eq, if_true, if_false, Bool.false_eq_true, Nat.one_ne_zero, e1]
    · unfold dv_r3
      simp (disch := omega) only [db_lit, eq_self, db_pI_e, db_pL_e, db_bind_some, db_bd_some, nI_add, pk_mul, nI_toInt, db_m1_t, dz_cn, Int.ofNat_le, Int.ofNat_lt, decide_true, decide_false, db_ct, db_cf, not_true_eq_false, not_false_eq_true, db_87e, db_37e, db_31e, db_28e, db_281e, db_211e, db_27, db_269w, db_litL, pk_lT, db_iL, db_p0_e, db_p0_n, db_p0_j, db_sub1, nI_eq, if_true, if_false, Bool.false_eq_true, Nat.one_ne_zero, hx, e2, ez]
theorem dv_R2 (hk : k < 12) (hc0 : db_bk b1 4 0 = c 0) (hc1 : db_bk b1 4 1 = c 1) (hc2 : db_bk b1 4 2 = c 2) (hL0 : dv_Lk_146 a1 b1 0) (hL1 : dv_Lk_146 a1 b1 1) (hL2 : dv_Lk_146 a1 b1 2) (hcn : b1.1 674 1923 = nI k) (h : dv_CR x n k c a1 b1 0 i a b) : dv_RE x n k c a1 b1 i (dv_u2 (151 + k) a) (dv_r2 (nI k) b) := by
  obtain ⟨r, a2, v, b2, e1, e2, hh⟩ := dv_oName_146 (q := 0) (g := 0) (d := 151 + k) (f := 0) (by omega) rfl (by omega) (by omega) (dv_rr hk (by omega)).1 (dv_rr hk (by omega)).2 h.1 h.2.1 h.2.2.1 (dv_CRL hk h (by omega) hL0)
  rcases hh with ⟨rfl, hv, g1, g2, g3, g4, g5⟩ | ⟨rfl, hv, g1, g2, g3⟩
  · rw [dv_CRn hk h (by omega) hc0] at hv
    have hn := dv_CRf hk (by omega) h g3 g4 g2 g1 (show dv_Vl c 0 v from ⟨fun _ => hv, fun h => absurd h (by decide), fun h => absurd h (by decide), fun h => absurd h (by decide), fun h => absurd h (by decide)⟩) g5
    rw [show 1939 + 12 * 0 + k = 1939 + k by omega] at hn
    obtain ⟨rr, aa, bb, f1, f2, f3⟩ := dv_RE_m (i0 := i) (dv_R3 hk hc0 hc1 hc2 hL0 hL1 hL2 hcn hn) (by omega)
    refine ⟨rr, aa, bb, ?_, ?_, f3⟩
    · unfold dv_u2
      simp (disch := omega) only [db_lit, eq_self, db_pI_e, db_pL_e, db_bind_some, db_bd_some, nI_add, pk_mul, nI_toInt, db_m1_t, dz_cn, Int.ofNat_le, Int.ofNat_lt, decide_true, decide_false, db_ct, db_cf, not_true_eq_false, not_false_eq_true, db_87e, db_37e, db_31e, db_28e, db_281e, db_211e, db_27, db_269w, db_litL, pk_lT, db_iL, db_p0_e, db_p0_n, db_p0_j, db_sub1, nI_eq, if_true, if_false, Bool.false_eq_true, Nat.one_ne_zero, e1, f1]
    · unfold dv_r2
      simp (disch := omega) only [db_lit, eq_self, db_pI_e, db_pL_e, db_bind_some, db_bd_some, nI_add, pk_mul, nI_toInt, db_m1_t, dz_cn, Int.ofNat_le, Int.ofNat_lt, decide_true, decide_false, db_ct, db_cf, not_true_eq_false, not_false_eq_true, db_87e, db_37e, db_31e, db_28e, db_281e, db_211e, db_27, db_269w, db_litL, pk_lT, db_iL, db_p0_e, db_p0_n, db_p0_j, db_sub1, nI_eq, if_true, if_false, Bool.false_eq_true, Nat.one_ne_zero, e2, db_h_674, f2]
  · obtain ⟨z, ez, hz⟩ := dv_r3b hk (dv_Bad_q g1.1 (dv_Bq_4 (j := 1939 + k) (v := v) dv_Bq_r (by omega)))
    refine dv_RE_f h (a2 := a2) (b2 := b2) (b3 := z) ?_ ?_ g1 g2 g3 (dv_Bq_t (dv_Bq_4 dv_Bq_r (by omega)) hz)
    · unfold dv_u2
      simp (disch := omega) only [db_lit, eq_self, db_pI_e, db_pL_e, db_bind_some, db_bd_some, nI_add, pk_mul, nI_toInt, db_m1_t, dz_cn, Int.ofNat_le, Int.ofNat_lt, decide_true, decide_false, db_ct, db_cf, not_true_eq_false, not_false_eq_true, db_87e, db_37e, db_31e, db_28e, db_281e, db_211e, db_27, db_269w, db_litL, pk_lT, db_iL, db_p0_e, db_p0_n, db_p0_j, db_sub1, nI_eq, if_true, if_false, Bool.false_eq_true, Nat.one_ne_zero, e1]
    · unfold dv_r2
      simp (disch := omega) only [db_lit, eq_self, db_pI_e, db_pL_e, db_bind_some, db_bd_some, nI_add, pk_mul, nI_toInt, db_m1_t, dz_cn, Int.ofNat_le, Int.ofNat_lt, decide_true, decide_false, db_ct, db_cf, not_true_eq_false, not_false_eq_true, db_87e, db_37e, db_31e, db_28e, db_281e, db_211e, db_27, db_269w, db_litL, pk_lT, db_iL, db_p0_e, db_p0_n, db_p0_j, db_sub1, nI_eq, if_true, if_false, Bool.false_eq_true, Nat.one_ne_zero, e2, db_h_674, ez]
theorem dv_R1 (hk : k < 12) (hc0 : db_bk b1 4 0 = c 0) (hc1 : db_bk b1 4 1 = c 1) (hc2 : db_bk b1 4 2 = c 2) (hL0 : dv_Lk_146 a1 b1 0) (hL1 : dv_Lk_146 a1 b1 1) (hL2 : dv_Lk_146 a1 b1 2) (hcn : b1.1 674 1923 = nI k) (h : dv_CR x n k c a1 b1 0 i a b) : dv_RE x n k c a1 b1 i (dv_u1 (151 + k) a) (dv_r1 (nI k) b) := by
  obtain ⟨r, a2, b2, e1, e2, hh⟩ := dv_oTake (j := 8) h.1 h.2.1 h.2.2.1 (by omega)
  have hx := dv_x8 h.2.1
  rcases hh with ⟨rfl, g1, g3, g4, g5⟩ | ⟨rfl, g1, g2, g3⟩
  · have hn := dv_CRt hk h g3 g4 g1 g5
    obtain ⟨rr, aa, bb, f1, f2, f3⟩ := dv_RE_m (i0 := i) (dv_R2 hk hc0 hc1 hc2 hL0 hL1 hL2 hcn hn) (by omega)
    refine ⟨rr, aa, bb, ?_, ?_, f3⟩
    · unfold dv_u1
      simp (disch := omega) only [db_lit, eq_self, db_pI_e, db_pL_e, db_bind_some, db_bd_some, nI_add, pk_mul, nI_toInt, db_m1_t, dz_cn, Int.ofNat_le, Int.ofNat_lt, decide_true, decide_false, db_ct, db_cf, not_true_eq_false, not_false_eq_true, db_87e, db_37e, db_31e, db_28e, db_281e, db_211e, db_27, db_269w, db_litL, pk_lT, db_iL, db_p0_e, db_p0_n, db_p0_j, db_sub1, nI_eq, if_true, if_false, Bool.false_eq_true, Nat.one_ne_zero, e1, f1]
    · unfold dv_r1
      simp (disch := omega) only [db_lit, eq_self, db_pI_e, db_pL_e, db_bind_some, db_bd_some, nI_add, pk_mul, nI_toInt, db_m1_t, dz_cn, Int.ofNat_le, Int.ofNat_lt, decide_true, decide_false, db_ct, db_cf, not_true_eq_false, not_false_eq_true, db_87e, db_37e, db_31e, db_28e, db_281e, db_211e, db_27, db_269w, db_litL, pk_lT, db_iL, db_p0_e, db_p0_n, db_p0_j, db_sub1, nI_eq, if_true, if_false, Bool.false_eq_true, Nat.one_ne_zero, hx, e2, f2]
  · obtain ⟨z, ez, hz⟩ := dv_r2b hk g1.1
    refine dv_RE_f h (a2 := a2) (b2 := b2) (b3 := z) ?_ ?_ g1 g2 g3 hz
    · unfold dv_u1
      simp (disch := omega) only [db_lit, eq_self, db_pI_e, db_pL_e, db_bind_some, db_bd_some, nI_add, pk_mul, nI_toInt, db_m1_t, dz_cn, Int.ofNat_le, Int.ofNat_lt, decide_true, decide_false, db_ct, db_cf, not_true_eq_false, not_false_eq_true, db_87e, db_37e, db_31e, db_28e, db_281e, db_211e, db_27, db_269w, db_litL, pk_lT, db_iL, db_p0_e, db_p0_n, db_p0_j, db_sub1, nI_eq, if_true, if_false, Bool.false_eq_true, Nat.one_ne_zero, e1]
    · unfold dv_r1
      simp (disch := omega) only [db_lit, eq_self, db_pI_e, db_pL_e, db_bind_some, db_bd_some, nI_add, pk_mul, nI_toInt, db_m1_t, dz_cn, Int.ofNat_le, Int.ofNat_lt, decide_true, decide_false, db_ct, db_cf, not_true_eq_false, not_false_eq_true, db_87e, db_37e, db_31e, db_28e, db_281e, db_211e, db_27, db_269w, db_litL, pk_lT, db_iL, db_p0_e, db_p0_n, db_p0_j, db_sub1, nI_eq, if_true, if_false, Bool.false_eq_true, Nat.one_ne_zero, hx, e2, ez]
/-- a rule -/
theorem dv_pRule (hC : dv_CT x n (i + 1) a) (hR : dv_RT x n i b) (h0 : b.1 669 12 = nI 0) (hD : dv_DR a (db_bk b 4) (db_bw b 4)) (hk : db_bk b 4 3 = nI k) (hkm : k < 12) : dv_Pt x n i a b (db_f67 a) (db_f263 b) := by
  obtain ⟨r, a1, v, b1, e1, e2, h⟩ := dv_oNew (q := 3) (g := 3) (by omega) (by omega) rfl (by omega) hC hR h0 hD hk hkm
  have e2 : db_f232 b (nI 3) (nI 12) = some (v, b1) := e2
  have e147 : a.1 147 3 = nI k := by rw [hD.2.1 3 (by omega)]; exact hk
  rcases h with ⟨rfl, rfl, g1, g2, g3, g4, g5, g6⟩ | ⟨rfl, rfl, g1, g2, g3⟩
  · obtain ⟨l0, x1, x2, x3, x4, x5, x6, x7, x8, x9, x10⟩ := id g6
    have ebk : ∀ q, db_bk b1 4 q = db_bk b 4 q := fun q => by rw [dv_bk_e x9]
    -- names behind the new one
    have hN := dv_Nx_N (c1 := db_cu (db_bk b 4) 3 (nI (k + 1))) (a2 := a1) (by omega) (by omega) hD hk hkm g6 db_cu_1 (fun p _ h => db_cu_n h) rfl rfl rfl rfl
    have hL : ∀ q, q < 3 → dv_Lk_146 a1 b1 q := by
      intro q hq
      obtain ⟨-, c1, c2, c3⟩ := dv_Lk_D hD (show q < 6 by omega) (by omega)
      obtain ⟨m, m1, m2, m3, m4⟩ := hN
      have en : db_n (db_bk b1 4) q = db_n (db_bk b 4) q := dv_n_e (ebk q)
      have htm := dv_tm_lt hD (show 3 < 6 by omega) (by omega) hk hkm
      refine ⟨⟨dv_tm (db_bk b 4) + 1, by omega, x4, fun l => ?_⟩, by rw [en, ebk]; exact c1, by rw [en]; exact c2, by rw [en]; exact c3⟩
      have h18 : m = dv_tm (db_bk b 4) + 1 := by
        refine db_nI_inj ?_ (by omega) (m2.symm.trans x4)
        have f0 := dv_n_e (c1 := db_cu (db_bk b 4) 3 (nI (k + 1))) (c := db_bk b 4) (k := 0) (db_cu_n (by omega))
        have f1 := dv_n_e (c1 := db_cu (db_bk b 4) 3 (nI (k + 1))) (c := db_bk b 4) (k := 1) (db_cu_n (by omega))
        have f2 := dv_n_e (c1 := db_cu (db_bk b 4) 3 (nI (k + 1))) (c := db_bk b 4) (k := 2) (db_cu_n (by omega))
        have f5 := dv_n_e (c1 := db_cu (db_bk b 4) 3 (nI (k + 1))) (c := db_bk b 4) (k := 5) (db_cu_n (by omega))
        have f3 : db_n (db_cu (db_bk b 4) 3 (nI (k + 1))) 3 = k + 1 := dw_nI_n db_cu_1 (by omega)
        obtain ⟨⟨k0, k1, k2, k3, k4, k5⟩, -⟩ := hD
        have j0 := k0.2
        have j1 := k1.2
        have j2 := k2.2
        have j5 := k5.2
        rw [m1, f0, f1, f2, f3, f5]
        omega
      rw [← h18, m3 l q (by omega) (by omega)]
      unfold db_nm
      rw [en, dv_n_e (c1 := db_cu (db_bk b 4) 3 (nI (k + 1))) (c := db_bk b 4) (k := q) (db_cu_n (by omega))]
    have hcn : b1.1 674 1923 = nI k := by rw [x9, show (1923 : Nat) = 1920 + 3 from rfl, dv_bk_4 (by omega)]; exact hk
    have hCR : dv_CR x n k (db_bk b 4) a1 b1 0 (i + 2) a1 b1 := ⟨g1, g2, g3, fun _ _ _ => rfl, rfl, dv_Fa_r, fun f hf => absurd hf (by omega), fun _ _ => rfl, rfl, dv_Fb_r⟩
    obtain ⟨rr, a2, b2, f1, f2, f3⟩ := dv_R1 hkm (ebk 0) (ebk 1) (ebk 2) (hL 0 (by omega)) (hL 1 (by omega)) (hL 2 (by omega)) hcn hCR
    refine ⟨rr, a2, b2, ?_, ?_, ?_⟩
    · rw [dv_67e]
      simp (disch := omega) only [db_lit, eq_self, db_pI_e, db_pL_e, db_bind_some, db_bd_some, nI_add, pk_mul, nI_toInt, db_m1_t, dz_cn, Int.ofNat_le, Int.ofNat_lt, decide_true, decide_false, db_ct, db_cf, not_true_eq_false, not_false_eq_true, db_87e, db_37e, db_31e, db_28e, db_281e, db_211e, db_27, db_269w, db_litL, pk_lT, db_iL, db_p0_e, db_p0_n, db_p0_j, db_sub1, nI_eq, if_true, if_false, Bool.false_eq_true, Nat.one_ne_zero, db_g_147, e147, db_q_150, e1, f1]
    · rw [dv_263e]
      simp (disch := omega) only [db_lit, eq_self, db_pI_e, db_pL_e, db_bind_some, db_bd_some, nI_add, pk_mul, nI_toInt, db_m1_t, dz_cn, Int.ofNat_le, Int.ofNat_lt, decide_true, decide_false, db_ct, db_cf, not_true_eq_false, not_false_eq_true, db_87e, db_37e, db_31e, db_28e, db_281e, db_211e, db_27, db_269w, db_litL, pk_lT, db_iL, db_p0_e, db_p0_n, db_p0_j, db_sub1, nI_eq, if_true, if_false, Bool.false_eq_true, Nat.one_ne_zero, e2, f2]
    · rcases f3 with ⟨rfl, i1, b0, hi1, hE, rfl⟩ | ⟨rfl, q1, q2, q3⟩
      · refine .inl ⟨rfl, ⟨i1, by omega, hE.1, dv_RT_4 hE.2.1⟩, by rw [db_uI_n (by decide)]; exact hE.2.2.1, ?_, dv_Fa_t g4 hE.2.2.2.2.2.1, dv_Fb_4 (dv_Fb_t g5 hE.2.2.2.2.2.2.2.2.2) (by omega)⟩
        obtain ⟨-, -, -, y1, y2, -, y3, y4, y5, -⟩ := hE
        have ec : db_bk (db_uI b0 674 1923 (nI (k + 1))) 4 = db_cu (db_bk b0 4) 3 (nI (k + 1)) := by
          rw [show (1923 : Nat) = 1920 + 3 from rfl, dv_bk_u (by omega)]
        have eo : ∀ j, j < 480 → (∀ f, f < 6 → j ≠ 19 + 12 * f + k) → db_bk b0 4 j = db_bk b 4 j := fun j hj hf => by
          rw [← dv_bk_4 hj, y4 _ (fun f h => by have := hf f h; omega), dv_bk_4 hj, ebk]
        have ef : ∀ f, f < 6 → db_cu (db_bk b0 4) 3 (nI (k + 1)) (19 + 12 * f + k) = a2.1 (151 + k) f := fun f hf => by
          rw [db_cu_n (by omega), ← dv_bk_4 (by omega), show 1920 + (19 + 12 * f + k) = 1939 + 12 * f + k by omega]
          exact (y3 f hf).1.symm
        rw [ec, dv_bw_e (b1 := db_uI b0 674 1923 (nI (k + 1))) (b := b1) (by rw [db_uI_2]; exact y5)]
        refine dv_DR_s (q0 := 3) (k := k) hD (by omega) hk hkm db_cu_1 (fun q h1 h => by rw [db_cu_n h]; exact eo q (by omega) (fun f _ => by omega)) (fun j h1 h2 h3 => ?_) ?_ (fun q h1 h => ?_) (fun p j h1 h2 h3 => ?_) (dv_Nx_N (by omega) (by omega) hD hk hkm g6 db_cu_1 (fun p h1 h => by rw [db_cu_n h]; exact eo p (by omega) (fun f _ => by omega)) ?_ ?_ ?_ ?_) (fun h => absurd h (by decide)) (fun h => absurd h (by decide)) (fun _ => ?_) (fun h => absurd h (by decide)) (fun h => absurd h (by decide))
        · rw [db_cu_n (by omega)]
          exact eo j h2 (fun f hf hj => h3 (by unfold dv_Nw; omega))
        · rw [y1 147 (by omega) (by omega), x5, if_pos rfl]
        · rw [y1 147 (by omega) (by omega), x5, if_neg h]
        · unfold dv_Na at h3
          rw [y1 p (by omega) (by omega), x1 p (by omega) (by omega) (by omega) (by omega) (by omega)]
        · rw [y1 146 (by omega) (by omega)]
        · rw [y2]
        · rw [y1 203 (by omega) (by omega)]
        · rw [y1 204 (by omega) (by omega)]
        · have z0 := ef 0 (by omega)
          have z1 := ef 1 (by omega)
          have z2 := ef 2 (by omega)
          have z3 := ef 3 (by omega)
          have z4 := ef 4 (by omega)
          have z5 := ef 5 (by omega)
          rw [show 19 + 12 * 0 + k = 19 + k by omega] at z0
          rw [show 19 + 12 * 1 + k = 31 + k by omega] at z1
          rw [show 19 + 12 * 2 + k = 43 + k by omega] at z2
          rw [show 19 + 12 * 3 + k = 55 + k by omega] at z3
          rw [show 19 + 12 * 4 + k = 67 + k by omega] at z4
          rw [show 19 + 12 * 5 + k = 79 + k by omega] at z5
          rw [z0, z1, z2, z3, z4, z5]
          exact ⟨⟨rfl, rfl, rfl, rfl, rfl, rfl⟩, (y3 0 (by omega)).2.1 rfl, (y3 1 (by omega)).2.2.1 rfl, (y3 2 (by omega)).2.2.2.1 (.inl rfl), (y3 3 (by omega)).2.2.2.1 (.inr rfl), (y3 4 (by omega)).2.2.2.2.1 rfl, (y3 5 (by omega)).2.2.2.2.2 rfl⟩
      · exact .inr ⟨rfl, q1, dv_Fa_t g4 q2, dv_Fb_t g5 q3⟩
  · obtain ⟨z, ez, hz⟩ := dv_r1b (k := 0) (by omega) g1.1
    refine ⟨false, a1, z, ?_, ?_, .inr ⟨rfl, dv_Fl_q g1 hz, g2, dv_Fb_t g3 hz.1⟩⟩
    · rw [dv_67e]
      simp (disch := omega) only [db_lit, eq_self, db_pI_e, db_pL_e, db_bind_some, db_bd_some, nI_add, pk_mul, nI_toInt, db_m1_t, dz_cn, Int.ofNat_le, Int.ofNat_lt, decide_true, decide_false, db_ct, db_cf, not_true_eq_false, not_false_eq_true, db_87e, db_37e, db_31e, db_28e, db_281e, db_211e, db_27, db_269w, db_litL, pk_lT, db_iL, db_p0_e, db_p0_n, db_p0_j, db_sub1, nI_eq, if_true, if_false, Bool.false_eq_true, Nat.one_ne_zero, db_g_147, e147, db_q_150, e1]
    · rw [dv_263e]
      simp (disch := omega) only [db_lit, eq_self, db_pI_e, db_pL_e, db_bind_some, db_bd_some, nI_add, pk_mul, nI_toInt, db_m1_t, dz_cn, Int.ofNat_le, Int.ofNat_lt, decide_true, decide_false, db_ct, db_cf, not_true_eq_false, not_false_eq_true, db_87e, db_37e, db_31e, db_28e, db_281e, db_211e, db_27, db_269w, db_litL, pk_lT, db_iL, db_p0_e, db_p0_n, db_p0_j, db_sub1, nI_eq, if_true, if_false, Bool.false_eq_true, Nat.one_ne_zero, e2, ez]
end DVRU
