/-! NIGHTS: the call -/
/-- a book whose nights change -/
theorem dv_B1_n {U o : Nat} {s s' : db_S} {c c' : db_C} {w : Nat → Int64} (hB : db_B1 U o s c w) (hT : ∀ k, k < 199 → c' k = c k) (hf : ∀ a, o ≤ a → a < o + 63 → s'.1 a = s.1 a) (hg : s'.2 (o + 56) = s.2 (o + 56)) (hP : db_PN (o + 63) s' c') : db_B1 U o s' c' w := by
  obtain ⟨hO, hR, -⟩ := hB
  obtain ⟨r1, r2, r3, r4, r5, r6, r7, r8, r9, ⟨m, m1, m2, m3⟩, r11, r12, r13, r14⟩ := hR
  obtain ⟨⟨k0, k1, k2, k3, k4, k5⟩, o2, o3, o4, o5, o6, o7, o8⟩ := hO
  have j0 := k0.2
  have j1 := k1.2
  have j2 := k2.2
  have j3 := k3.2
  have j4 := k4.2
  have j5 := k5.2
  have hc : ∀ k, k < 6 → c' k = c k := fun k hk => hT k (by omega)
  have hn : ∀ k, k < 6 → db_n c' k = db_n c k := fun k hk => by unfold db_n; rw [hc k hk]
  have hK : ∀ k m, k < 199 → db_K c k m → db_K c' k m := fun k m hk h => by
    have e : db_n c' k = db_n c k := by unfold db_n; rw [hT k hk]
    exact ⟨by rw [e, hT k hk]; exact h.1, by rw [e]; exact h.2⟩
  have hhit : ∀ a b, db_hit c' a b = db_hit c a b := fun a b => db_hit_c (hc 4 (by omega)) j4 fun k q1 q2 => hT k (by omega)
  have hst := db_st_c (hc 3 (by omega)) hhit
  have hnl : ∀ d, d < 8 → db_n c' (127 + d) = db_n c (127 + d) := fun d hd => by unfold db_n; rw [hT _ (by omega)]
  refine ⟨⟨⟨hK 0 _ (by omega) k0, hK 1 _ (by omega) k1, hK 2 _ (by omega) k2, hK 3 _ (by omega) k3, hK 4 _ (by omega) k4, hK 5 _ (by omega) k5⟩, ?_, ?_, ?_, ?_, ?_, ?_, ?_⟩, ⟨?_, ?_, ?_, ?_, ?_, ?_, ?_, ?_, ?_, ⟨m, m1, ?_, ?_⟩, ?_, ?_, ?_, ?_⟩, hP⟩
  · intro r hr
    rw [hn 3 (by omega)] at hr
    rw [hn 0 (by omega), hn 1 (by omega), hn 2 (by omega), hT (19 + r) (by omega), hT (31 + r) (by omega), hT (43 + r) (by omega), hT (55 + r) (by omega), hT (67 + r) (by omega), hT (79 + r) (by omega), hT (91 + r) (by omega)]
    exact o2 r hr
  · intro k hk
    rw [hn 4 (by omega)] at hk
    rw [hn 3 (by omega), hT (103 + k) (by omega), hT (115 + k) (by omega)]
    exact o3 k hk
  · intro d hd
    rw [hn 5 (by omega)] at hd
    obtain ⟨⟨q1, q2⟩, q3, q4, q5, q6⟩ := o4 d hd
    have hl := hnl d (by omega)
    have hl6 := q1.2
    refine ⟨⟨hK _ _ (by omega) q1, by rw [hl]; exact q2⟩, fun k hk => ?_, hK _ _ (by omega) q4, hK _ _ (by omega) q5, ?_⟩
    · rw [hl] at hk
      rw [hn 0 (by omega), hT (151 + 6 * d + k) (by omega)]
      exact q3 k hk
    · have e : db_n c' (143 + d) = db_n c (143 + d) := by unfold db_n; rw [hT _ (by omega)]
      rw [e]; exact q6
  · intro p hpp
    rw [hn 1 (by omega)] at hpp
    rw [hT (8 + p) (by omega), hT (12 + p) (by omega)]
    exact o5 p hpp
  · intro p hpp
    rw [hn 2 (by omega)] at hpp
    rw [hT (16 + p) (by omega)]
    exact o6 p hpp
  · rw [hn 3 (by omega), hT 7 (by omega)]; exact o7
  · rw [hT 6 (by omega)]; exact o8
  · intro k hk
    rw [hf _ (by omega) (by omega), hc k hk]; exact r1 k hk
  · intro k hk
    rw [hn 1 (by omega)] at hk
    rw [hf _ (by omega) (by omega), hT (8 + k) (by omega)]; exact r2 k hk
  · intro k hk
    rw [hn 2 (by omega)] at hk
    rw [hf _ (by omega) (by omega), hT (16 + k) (by omega)]; exact r3 k hk
  · intro r hr
    rw [hn 3 (by omega)] at hr
    rw [hf _ (by omega) (by omega), hT (19 + r) (by omega), hT (31 + r) (by omega), hT (43 + r) (by omega), hT (55 + r) (by omega), hT (67 + r) (by omega), hT (79 + r) (by omega)]
    exact r4 r hr
  · intro k hk
    rw [hn 4 (by omega)] at hk
    rw [hf _ (by omega) (by omega), hT (103 + k) (by omega), hT (115 + k) (by omega)]
    exact r5 k hk
  · intro d hd
    rw [hn 5 (by omega)] at hd
    have hl := hnl d (by omega)
    obtain ⟨q1, q2, q3, q4⟩ := r6 d hd
    have hl6 := (o4 d hd).1.1.2
    rw [hl, hf (o + 39) (by omega) (by omega), hf (o + 40) (by omega) (by omega), hf (o + 41) (by omega) (by omega), hf (o + 31 + d) (by omega) (by omega), hT (127 + d) (by omega), hT (135 + d) (by omega), hT (143 + d) (by omega)]
    refine ⟨q1, q2, q3, fun k hk => ?_⟩
    rw [hT (151 + 6 * d + k) (by omega)]
    exact q4 k hk
  · intro r hr
    rw [hn 3 (by omega)] at hr
    rw [hf (o + 42) (by omega) (by omega), hf (o + 43) (by omega) (by omega), hn 3 (by omega)]
    simp only [hhit]
    exact r7 r hr
  · rw [hf o (by omega) (by omega), hn 3 (by omega)]
    simp only [hst]
    exact r8
  · intro t ht
    rw [hn 0 (by omega)] at ht
    have e19 : ∀ r, r < db_n c 3 → c' (19 + r) = c (19 + r) := fun r hr => hT _ (by omega)
    have ect : ∀ n, n ≤ db_n c 3 → fb_ct (fun r => decide (c' (19 + r) = nI t)) n = fb_ct (fun r => decide (c (19 + r) = nI t)) n := fun n hnn => fb_ct_cong fun k hk => by rw [e19 k (by omega)]
    rw [hf (o + 55) (by omega) (by omega), hf (o + 45 + t) (by omega) (by omega), hn 3 (by omega), ect _ (Nat.le_refl _)]
    refine ⟨(r9 t ht).1, fun r hr er => ?_⟩
    rw [e19 r hr] at er
    rw [ect r (by omega)]
    exact (r9 t ht).2 r hr er
  · rw [hf o (by omega) (by omega)]; exact m2
  · intro x q hq hq4
    rw [hg, hf (o + 57) (by omega) (by omega), hf (o + 58) (by omega) (by omega), m3 x q hq hq4]
    unfold db_nm
    rw [hn q hq]
  · intro r hr
    rw [hn 3 (by omega)] at hr
    rw [hf (o + 61) (by omega) (by omega), hT (91 + r) (by omega)]
    exact r11 r hr
  · intro p hpp
    rw [hn 1 (by omega)] at hpp
    rw [hf (o + 62) (by omega) (by omega), hT (12 + p) (by omega)]
    exact r12 p hpp
  · rw [hf (o + 60) (by omega) (by omega), hT 7 (by omega)]; exact r13
  · rw [hf (o + 60) (by omega) (by omega), hT 6 (by omega)]; exact r14
section DVNT
variable {U : Nat} {a b a1 b1 A0 B0 s t y : db_S} {x : Nat → Int32} {n n0 i z : Nat} {c c' : db_C} {w : Nat → Int64} {v : Int32}
/-- the names stand -/
theorem dv_Lk_B {q : Nat} (hB : db_B1 U 20 s (db_bk s 0) (db_bw s 0)) (hq : q < 6) (h4 : q ≠ 4) : dv_Lk_20 s s q := by
  obtain ⟨⟨⟨k0, k1, k2, k3, k4, k5⟩, -⟩, ⟨-, -, -, -, -, -, -, -, -, ⟨m, m1, m2, m3⟩, -⟩, -⟩ := hB
  have hK : db_bk s 0 q = nI (db_n (db_bk s 0) q) ∧ db_fr q + db_n (db_bk s 0) q ≤ 37 ∧ db_n (db_bk s 0) q ≤ 12 := by
    have j0 := k0.2
    have j1 := k1.2
    have j2 := k2.2
    have j3 := k3.2
    have j5 := k5.2
    rcases (by omega : q = 0 ∨ q = 1 ∨ q = 2 ∨ q = 3 ∨ q = 5) with rfl | rfl | rfl | rfl | rfl
    · exact ⟨k0.1, by rw [show db_fr 0 = 0 from rfl]; omega, by omega⟩
    · exact ⟨k1.1, by rw [show db_fr 1 = 10 from rfl]; omega, by omega⟩
    · exact ⟨k2.1, by rw [show db_fr 2 = 14 from rfl]; omega, by omega⟩
    · exact ⟨k3.1, by rw [show db_fr 3 = 17 from rfl]; omega, by omega⟩
    · exact ⟨k5.1, by rw [show db_fr 5 = 29 from rfl]; omega, by omega⟩
  exact ⟨⟨m, m1, m2, fun l => m3 l q hq h4⟩, hK.1, hK.2.1, hK.2.2⟩
/-- the nights' loop -/
def dv_NL (x : Nat → Int32) (n : Nat) (A0 B0 : db_S) (fb : Option (Int32 × db_S)) : Prop := (∃ a b s z i, fb = db_f276_b50 b ∧ dv_kd x n i = 0 ∧ dv_NS x n 0 i s z a b ∧ dv_Fa A0 a ∧ dv_Fb B0 b ∧ dv_pl (db_pr 208 a) (dv_cc b) 3 0 s 0 z ∧ dv_Ln A0 a 0 i ∧ a.1 208 0 = A0.1 208 0) ∨ (∃ a b, fb = db_f276_b50 b ∧ dv_Lf A0 a 0 ∧ dv_Fl a b ∧ dv_Fa A0 a ∧ dv_Fb B0 b)
theorem dv_28b {F : Nat} (h : dv_Bad b) : db_f276_b28 (F + 1) b = db_f276_b50 b := by
  obtain ⟨f, f1, f2, f3⟩ := h
  rw [db_f276_b28]
  simp (disch := omega) only [db_lit, eq_self, db_pI_e, db_pL_e, db_bind_some, db_bd_some, nI_add, pk_mul, nI_toInt, db_m1_t, dz_cn, Int.ofNat_le, Int.ofNat_lt, decide_true, decide_false, db_ct, db_cf, not_true_eq_false, not_false_eq_true, db_87e, db_37e, db_31e, db_28e, db_281e, db_211e, db_27, db_269w, db_litL, pk_lT, db_iL, db_p0_e, db_p0_n, db_p0_j, db_sub1, nI_eq, if_true, if_false, Bool.false_eq_true, Nat.one_ne_zero, f3, (show ¬ f = 0 by omega)]
theorem dv_nL (hL1 : dv_Lk_20 A0 B0 1) (hL2 : dv_Lk_20 A0 B0 2) (hL3 : dv_Lk_20 A0 B0 3) (hL5 : dv_Lk_20 A0 B0 5) : ∀ (t i s z : Nat) (a b : db_S) (F : Nat), 1000 ≤ i + t → t + 1 < F → dv_NS x n 0 i s z a b → dv_Fa A0 a → dv_Fb B0 b → dv_pl (db_pr 208 a) (dv_cc b) 3 0 s 0 z → dv_Ln A0 a 0 i → a.1 208 0 = A0.1 208 0 → dv_NL x n A0 B0 (db_f276_b28 F b) := by
  intro t
  induction t with
  | zero =>
    intro i s z a b F hi hF hN
    have := dv_i900 hN.1
    omega
  | succ t IH =>
    intro i s z a b F hi hF hN hA hB hP hL h2
    cases F with
    | zero => omega
    | succ F =>
    have h12 := hN.2.2.1
    have h14 := dv_14 hN.2.1
    have hk4 : dv_kd x n i ≤ 4 := dv_K4
    rw [db_f276_b28]
    by_cases hkd : dv_kd x n i = 0
    · refine .inl ⟨a, b, s, z, i, ?_, hkd, hN, hA, hB, hP, hL, h2⟩
      simp (disch := omega) only [db_lit, eq_self, db_pI_e, db_pL_e, db_bind_some, db_bd_some, nI_add, pk_mul, nI_toInt, db_m1_t, dz_cn, Int.ofNat_le, Int.ofNat_lt, decide_true, decide_false, db_ct, db_cf, not_true_eq_false, not_false_eq_true, db_87e, db_37e, db_31e, db_28e, db_281e, db_211e, db_27, db_269w, db_litL, pk_lT, db_iL, db_p0_e, db_p0_n, db_p0_j, db_sub1, nI_eq, if_true, if_false, Bool.false_eq_true, Nat.one_ne_zero, h12, h14, hkd]
    · have hstep := dv_step hL1 hL2 hL3 hL5 1000 i 0 s z a b db_FR (by omega) (by unfold db_FR; omega) hN hA hB (.inl rfl) (fun h => absurd h hkd)
      rcases hstep with ⟨a5, b5, j5, s5, z5, g1, g2, g3, g4, g5, g6, g7, g8, g9, g10⟩ | ⟨a5, b5, g1, g2, g3, g4, g5⟩
      · have hrec := IH j5 s5 z5 a5 b5 F (by omega) (by omega) g3 (dv_Fa_t hA g6) (dv_Fb_t hB g7) (dv_pl_a ((dv_plT g7 g9 hN.2.2.2.2.2.2.2.1 hP) (s - 0) (by omega)) g8 (by omega)) (dv_Ln_t hL g10) (g9.2.2.2.trans h2)
        have eq : cond (db_cnd .ne (b.1 669 12) 0) (db_f276_b50 b) (cond (db_cnd .eq (b.1 669 14) 0) (db_f276_b50 b) ((db_f277 db_FR b (0 : Int32)).bind fun s2 => (db_f276_b28 F s2))) = db_f276_b28 F b5 := by
          simp (disch := omega) only [db_lit, eq_self, db_pI_e, db_pL_e, db_bind_some, db_bd_some, nI_add, pk_mul, nI_toInt, db_m1_t, dz_cn, Int.ofNat_le, Int.ofNat_lt, decide_true, decide_false, db_ct, db_cf, not_true_eq_false, not_false_eq_true, db_87e, db_37e, db_31e, db_28e, db_281e, db_211e, db_27, db_269w, db_litL, pk_lT, db_iL, db_p0_e, db_p0_n, db_p0_j, db_sub1, nI_eq, if_true, if_false, Bool.false_eq_true, Nat.one_ne_zero, h12, h14, hkd, g1]
        rw [eq]
        exact hrec
      · refine .inr ⟨a5, b5, ?_, dv_Ln_f hL g2, g3, dv_Fa_t hA g4, dv_Fb_t hB g5⟩
        simp (disch := omega) only [db_lit, eq_self, db_pI_e, db_pL_e, db_bind_some, db_bd_some, nI_add, pk_mul, nI_toInt, db_m1_t, dz_cn, Int.ofNat_le, Int.ofNat_lt, decide_true, decide_false, db_ct, db_cf, not_true_eq_false, not_false_eq_true, db_87e, db_37e, db_31e, db_28e, db_281e, db_211e, db_27, db_269w, db_litL, pk_lT, db_iL, db_p0_e, db_p0_n, db_p0_j, db_sub1, nI_eq, if_true, if_false, Bool.false_eq_true, Nat.one_ne_zero, h12, h14, hkd, g1]
        cases F with
        | zero => omega
        | succ F => exact dv_28b g3.1
/-- the copy of the nights -/
theorem dv_82n {m : Nat} (hm : m ≤ 30) (h : s.1 669 24 = nI m) : dz_T (db_f276_b82 db_FU s (nI 0)) (fun z => z.1 = nI m ∧ (∀ b, b ≠ 674 → z.2.1 b = s.1 b) ∧ z.2.2 = s.2 ∧ (∀ j, j < 9 * m → z.2.1 674 (201 + j) = s.1 674 (2121 + j)) ∧ ∀ j, ¬ (201 ≤ j ∧ j < 201 + 9 * m) → z.2.1 674 j = s.1 674 j) := by
  refine db_loop (L := fun m a k => db_f276_b82 m a (nI k)) (N := 9 * m) (fun k z => (∀ b, b ≠ 674 → z.1 b = s.1 b) ∧ z.2 = s.2 ∧ (∀ j, j < k → z.1 674 (201 + j) = s.1 674 (2121 + j)) ∧ ∀ j, ¬ (201 ≤ j ∧ j < 201 + k) → z.1 674 j = s.1 674 j) ?_ ?_ (n := db_FU) (by unfold db_FU; omega) ⟨fun b _ => rfl, rfl, fun j hj => absurd hj (by omega), fun j _ => rfl⟩
  · rintro f a ⟨g1, g2, g3, g4⟩
    show dz_T (db_f276_b82 (f + 1) a (nI (9 * m))) _
    have h24 : a.1 669 24 = nI m := by rw [g1 669 (by decide)]; exact h
    rw [db_f276_b82]
    simp (disch := omega) only [db_lit, eq_self, db_pI_e, db_pL_e, db_bind_some, db_bd_some, nI_add, pk_mul, nI_toInt, db_m1_t, dz_cn, Int.ofNat_le, Int.ofNat_lt, decide_true, decide_false, db_ct, db_cf, not_true_eq_false, not_false_eq_true, h24, Nat.le_refl]
    exact ⟨(nI m, a), rfl, rfl, g1, g2, g3, g4⟩
  · rintro f k a hk ⟨g1, g2, g3, g4⟩ hrec
    show dz_T (db_f276_b82 (f + 1) a (nI k)) _
    have h24 : a.1 669 24 = nI m := by rw [g1 669 (by decide)]; exact h
    have h9 : ¬ 9 * m ≤ k := by omega
    rw [db_f276_b82]
    simp (disch := omega) only [db_lit, eq_self, db_pI_e, db_pL_e, db_bind_some, db_bd_some, nI_add, pk_mul, nI_toInt, db_m1_t, dz_cn, Int.ofNat_le, Int.ofNat_lt, decide_true, decide_false, db_ct, db_cf, not_true_eq_false, not_false_eq_true, h24, h9, db_g_674, db_h_674]
    refine hrec _ ⟨fun b hb => by rw [db_uI_n hb]; exact g1 b hb, g2, fun j hj => ?_, fun j hj => ?_⟩
    · by_cases e : j = k
      · subst e
        rw [db_uI_1, g4 _ (by omega)]
      · rw [db_uI_j (by omega)]; exact g3 j (by omega)
    · rw [db_uI_j (by omega)]; exact g4 j (by omega)
theorem dv_b50b (h : dv_Bad b) : db_f276_b50 b = some (-(nI 1), db_uI (db_uI (db_uI b 669 10 (b.1 669 12)) 669 11 (b.1 669 13)) 669 0 (nI 10)) := by
  obtain ⟨f, f1, f2, f3⟩ := h
  have e1 : ∀ v, (db_uI b 669 10 v).1 669 12 = nI f := fun v => by rw [db_uI_j (by decide)]; exact f3
  have e2 : ∀ v, (db_uI b 669 10 v).1 669 13 = b.1 669 13 := fun v => by rw [db_uI_j (by decide)]
  have e3 : ∀ v v2, (db_uI (db_uI b 669 10 v) 669 11 v2).1 669 12 = nI f := fun v v2 => by rw [db_uI_j (by decide), db_uI_j (by decide)]; exact f3
  unfold db_f276_b50 db_f274 db_f274_b24
  simp (disch := omega) only [db_lit, eq_self, db_pI_e, db_pL_e, db_bind_some, db_bd_some, nI_add, pk_mul, nI_toInt, db_m1_t, dz_cn, Int.ofNat_le, Int.ofNat_lt, decide_true, decide_false, db_ct, db_cf, not_true_eq_false, not_false_eq_true, db_87e, db_37e, db_31e, db_28e, db_281e, db_211e, db_27, db_269w, db_litL, pk_lT, db_iL, db_p0_e, db_p0_n, db_p0_j, db_sub1, nI_eq, if_true, if_false, Bool.false_eq_true, Nat.one_ne_zero, f3, e1, e2, e3, (show ¬ f = 0 by omega)]
end DVNT
