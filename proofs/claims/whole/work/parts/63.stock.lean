/-! STOCK, the reference's; the call -/
def dw_Fs (s z : db_S) : Prop := (∀ j, j ≠ 29 → j ≠ 30 → j ≠ 31 → j ≠ 32 → z.1 669 j = s.1 669 j) ∧ (∀ k, 480 ≤ k → z.1 674 k = s.1 674 k) ∧ (∀ a, a ≠ 669 → a ≠ 674 → a ≠ 675 → a ≠ 677 → a ≠ 678 → a ≠ 679 → z.1 a = s.1 a) ∧ z.2 = s.2
theorem dw_Fs_r {s : db_S} : dw_Fs s s := ⟨fun _ _ _ _ _ => rfl, fun _ _ => rfl, fun _ _ _ _ _ _ _ => rfl, rfl⟩
theorem dw_Fs_t {s s1 s2 : db_S} (h : dw_Fs s s1) (k : dw_Fs s1 s2) : dw_Fs s s2 := ⟨fun j a b c d => (k.1 j a b c d).trans (h.1 j a b c d), fun j a => (k.2.1 j a).trans (h.2.1 j a), fun j a b c d e f => (k.2.2.1 j a b c d e f).trans (h.2.2.1 j a b c d e f), k.2.2.2.trans h.2.2.2⟩
def dw_o3 (o : Option Nat) : Int32 := match o with
  | none => -(nI 1)
  | some b => nI b
def dw_o4 (c : db_C) (o : Option Nat) : Int32 := match o with
  | none => nI 0
  | some b => nI (dw_pz c b)
section DBSM
variable {U : Nat} {s z : db_S} {c : db_C} {w : Nat → Int64} {v x y p q : Int32}
theorem dw_355 : dz_T (db_f355 s) (fun z => (∀ b, b ≠ 675 → z.1 b = s.1 b) ∧ z.2 = s.2 ∧ ∀ j, j < 199 → z.1 675 j = s.1 674 j) := by
  unfold db_f355
  refine db_loop (L := fun m a k => db_f355_b2 m a (nI k)) (N := 199) (fun k z => (∀ b, b ≠ 675 → z.1 b = s.1 b) ∧ z.2 = s.2 ∧ ∀ j, j < k → z.1 675 j = s.1 674 j) ?_ ?_ (n := db_FU) (by unfold db_FU; omega) ⟨fun b _ => rfl, rfl, fun j hj => absurd hj (by omega)⟩
  · rintro m a h
    show dz_T (db_f355_b2 (m + 1) a (nI 199)) _
    rw [db_f355_b2]
    simp (disch := omega) only [db_lit, eq_self, db_pI_e, db_pL_e, db_bind_some, db_bd_some, nI_add, pk_mul, nI_toInt, db_m1_t, dz_cn, Int.ofNat_le, Int.ofNat_lt, decide_true, decide_false, db_ct, db_cf, not_true_eq_false, not_false_eq_true, Nat.le_refl]
    exact ⟨_, rfl, h⟩
  · rintro m k a hk ⟨h1, h2, h3⟩ hrec
    show dz_T (db_f355_b2 (m + 1) a (nI k)) _
    rw [db_f355_b2]
    have h7 : ¬ 199 ≤ k := by omega
    have e : a.1 674 k = s.1 674 k := by rw [h1 674 (by decide)]
    simp (disch := omega) only [db_lit, eq_self, db_pI_e, db_pL_e, db_bind_some, db_bd_some, nI_add, pk_mul, nI_toInt, db_m1_t, dz_cn, Int.ofNat_le, Int.ofNat_lt, decide_true, decide_false, db_ct, db_cf, not_true_eq_false, not_false_eq_true, h7, db_g_674, e, db_h_675]
    refine hrec _ ⟨fun b hb => by rw [db_uI_n hb]; exact h1 b hb, h2, fun j hj => ?_⟩
    by_cases e2 : j = k
    · subst e2; exact db_uI_1
    · rw [db_uI_j e2]; exact h3 j (by omega)
theorem dw_356 : dz_T (db_f356 s) (fun z => (∀ b, b ≠ 674 → z.1 b = s.1 b) ∧ z.2 = s.2 ∧ (∀ j, j < 199 → z.1 674 j = s.1 675 j) ∧ ∀ j, 199 ≤ j → z.1 674 j = s.1 674 j) := by
  unfold db_f356
  refine db_loop (L := fun m a k => db_f356_b2 m a (nI k)) (N := 199) (fun k z => (∀ b, b ≠ 674 → z.1 b = s.1 b) ∧ z.2 = s.2 ∧ (∀ j, j < k → z.1 674 j = s.1 675 j) ∧ ∀ j, 199 ≤ j → z.1 674 j = s.1 674 j) ?_ ?_ (n := db_FU) (by unfold db_FU; omega) ⟨fun b _ => rfl, rfl, fun j hj => absurd hj (by omega), fun j _ => rfl⟩
  · rintro m a h
    show dz_T (db_f356_b2 (m + 1) a (nI 199)) _
    rw [db_f356_b2]
    simp (disch := omega) only [db_lit, eq_self, db_pI_e, db_pL_e, db_bind_some, db_bd_some, nI_add, pk_mul, nI_toInt, db_m1_t, dz_cn, Int.ofNat_le, Int.ofNat_lt, decide_true, decide_false, db_ct, db_cf, not_true_eq_false, not_false_eq_true, Nat.le_refl]
    exact ⟨_, rfl, h⟩
  · rintro m k a hk ⟨h1, h2, h3, h4⟩ hrec
    show dz_T (db_f356_b2 (m + 1) a (nI k)) _
    rw [db_f356_b2]
    have h7 : ¬ 199 ≤ k := by omega
    have e : a.1 675 k = s.1 675 k := by rw [h1 675 (by decide)]
    simp (disch := omega) only [db_lit, eq_self, db_pI_e, db_pL_e, db_bind_some, db_bd_some, nI_add, pk_mul, nI_toInt, db_m1_t, dz_cn, Int.ofNat_le, Int.ofNat_lt, decide_true, decide_false, db_ct, db_cf, not_true_eq_false, not_false_eq_true, h7, db_g_675, e, db_h_674]
    refine hrec _ ⟨fun b hb => by rw [db_uI_n hb]; exact h1 b hb, h2, fun j hj => ?_, fun j hj => ?_⟩
    · by_cases e2 : j = k
      · subst e2; exact db_uI_1
      · rw [db_uI_j e2]; exact h3 j (by omega)
    · rw [db_uI_j (by omega)]; exact h4 j hj
/-- the reference reads a stock -/
theorem dw_354r {P : Int32 × db_S → Prop} {h54 : db_S → Int32 → Int32 → Int32 → Int32 → Int32 → Int32 → Option (Int32 × db_S)} {v4 v5 v6 : Int32} (hc : db_A s c) (h5 : ∀ j, j < 199 → s.1 675 j = c j) (hO : db_Ok U c) (hU : U + 48 ≤ 1000000000) (hOk : ∀ d, d ≤ db_n c 5 → db_Ok (U + 6 * d) (dw_sk p q v6 c d).1) (hp : db_O p (db_n c 1)) (hq : db_O q (db_n c 2))
    (hk : ∀ z, dw_Fs s z → db_A z c → dz_T (cond (db_cnd .ne (dw_sk p q v6 c (db_n c 5)).2 x) (db_f354_b176 h54 z x p q v4 v5 v6) (cond (db_cnd .lt v4 0) (db_f354_b168 h54 z x p q v6 (nI (dw_pn c v6 (db_n c 5)))) (cond (db_cnd .lt (nI (dw_pn c v6 (db_n c 5))) v5) (db_f354_b168 h54 z x p q v6 (nI (dw_pn c v6 (db_n c 5)))) (db_f354_b176 h54 z x p q v4 v5 v6)))) P) : dz_T (db_f354_b80 h54 db_FU s x p q v4 v5 v6 (nI 0) (nI 0) (nI 0)) P := by
  have h12 := hO.1.2.2.2.1.2
  have k5 := hO.1.2.2.2.2.2
  have h8 := k5.2
  refine db_loop (L := fun m (a : db_S × Int32 × Int32) d => db_f354_b80 h54 m a.1 x p q v4 v5 v6 a.2.1 a.2.2 (nI d)) (N := db_n c 5) (fun d a => a.2.1 = (dw_sk p q v6 c d).2 ∧ a.2.2 = nI (dw_pn c v6 d) ∧ dw_Fs s a.1 ∧ a.1.1 675 = s.1 675 ∧ db_A a.1 (dw_sk p q v6 c d).1) ?_ ?_ (n := db_FU) (a := (s, nI 0, nI 0)) (by unfold db_FU; omega) ⟨rfl, rfl, dw_Fs_r, rfl, hc⟩
  · rintro m ⟨a, v7, v8⟩ ⟨h1, h2, h3, h4, h6⟩
    dsimp only at h1 h2 h3 h4 h6
    show dz_T (db_f354_b80 h54 (m + 1) a x p q v4 v5 v6 v7 v8 (nI (db_n c 5))) _
    rw [db_f354_b80]
    have e5 : a.1 674 5 = nI (db_n c 5) := by rw [h6 5 (by omega), dw_sk_n h12 (by omega)]; exact k5.1
    simp (disch := omega) only [db_lit, eq_self, db_pI_e, db_pL_e, db_bind_some, db_bd_some, nI_add, pk_mul, nI_toInt, db_m1_t, dz_cn, Int.ofNat_le, Int.ofNat_lt, decide_true, decide_false, db_ct, db_cf, not_true_eq_false, not_false_eq_true, db_g_674, e5, Nat.le_refl]
    obtain ⟨z, e, g1, g2, g3, g4⟩ := dw_356 (s := a)
    subst h1
    subst h2
    have hA : db_A z c := fun j hj => by
      by_cases hj2 : j < 199
      · rw [g3 j hj2, h4]; exact h5 j hj2
      · rw [g4 j (by omega), h6 j hj, dw_sk_n h12 (by omega)]
    have hF : dw_Fs s z := dw_Fs_t h3 ⟨fun j _ _ _ _ => by rw [g1 669 (by decide)], fun k hk => g4 k (by omega), fun b b1 b2 _ _ _ _ => g1 b b2, g2⟩
    have := hk z hF hA
    rw [e]
    simp only [dz_cn] at this
    exact this
  · rintro m d ⟨a, v7, v8⟩ hd ⟨h1, h2, h3, h4, h6⟩ hrec
    dsimp only at h1 h2 h3 h4 h6
    show dz_T (db_f354_b80 h54 (m + 1) a x p q v4 v5 v6 v7 v8 (nI d)) _
    rw [db_f354_b80]
    have h7 : ¬ db_n c 5 ≤ d := by omega
    have hst : dw_sk p q v6 c (d + 1) = if bt v6 d = true then (db_we (dw_sk p q v6 c d).1 (db_dr (dw_sk p q v6 c d).1 d) (db_n (dw_sk p q v6 c d).1 (127 + d)) p q (dw_sk p q v6 c d).1 (db_n (dw_sk p q v6 c d).1 (127 + d)), (dw_sk p q v6 c d).2 + db_rq (dw_sk p q v6 c d).1 d p q) else dw_sk p q v6 c d := rfl
    have hpt : dw_pn c v6 (d + 1) = dw_pn c v6 d + (if bt v6 d = true then db_n c (135 + d) else 0) := rfl
    have e5 : a.1 674 5 = nI (db_n c 5) := by rw [h6 5 (by omega), dw_sk_n h12 (by omega)]; exact k5.1
    have e135 : a.1 674 (135 + d) = nI (db_n c (135 + d)) := by
      rw [h6 _ (by omega), dw_sk_n h12 (by omega)]
      exact ((hO.2.2.2.1 d hd).2.2.1).1
    have m5 := dw_sk_m (p := p) (q := q) (x := v6) (c := c) (k := 5) h12 (by omega) d
    have m1 := dw_sk_m (p := p) (q := q) (x := v6) (c := c) (k := 1) h12 (by omega) d
    have m2 := dw_sk_m (p := p) (q := q) (x := v6) (c := c) (k := 2) h12 (by omega) d
    have m3 := dw_sk_m (p := p) (q := q) (x := v6) (c := c) (k := 3) h12 (by omega) d
    have hOd := hOk d (by omega)
    unfold db_f354_b137
    simp (disch := omega) only [db_lit, eq_self, db_pI_e, db_pL_e, db_bind_some, db_bd_some, nI_add, pk_mul, nI_toInt, db_m1_t, dz_cn, Int.ofNat_le, Int.ofNat_lt, decide_true, decide_false, db_ct, db_cf, not_true_eq_false, not_false_eq_true, db_g_674, e5, h7, db_287]
    cases hb : bt v6 d with
    | false =>
      rw [hb] at hst hpt
      rw [db_cf]
      refine hrec (a, v7, v8) ⟨by rw [hst]; exact h1, by rw [hpt]; exact h2, h3, h4, by rw [hst]; exact h6⟩
    | true =>
      rw [hb, if_pos rfl] at hst hpt
      rw [db_ct]
      simp (disch := omega) only [db_lit, eq_self, db_pI_e, db_pL_e, db_bind_some, db_bd_some, nI_add, pk_mul, nI_toInt, db_m1_t, dz_cn, Int.ofNat_le, Int.ofNat_lt, decide_true, decide_false, db_ct, db_cf, not_true_eq_false, not_false_eq_true, db_g_674, e135]
      generalize hcc : (dw_sk p q v6 c d).1 = cc at *
      have hL := (hOd.2.2.2.1 d (by rw [m5]; exact hd)).1.1
      have hL6 := hL.2
      refine db_T_gd (db_316 (p := p) (q := q) h6 hOd (show d < db_n cc 5 by rw [m5]; exact hd) (by rw [m1]; exact hp) (by rw [m2]; exact hq)) fun u s8 hv => ?_
      obtain ⟨q1, ⟨q2, q3, q4⟩, q5, q6⟩ := hv
      dsimp only at q1 q2 q3 q4 q5 q6
      subst q1
      have hA8 : db_A s8 cc := db_A_e (q2 674 (by decide) (by decide) (by decide) (by decide)) h6
      refine db_T_go (db_334 (c := cc) (cc := cc) (row := db_dr cc d) (n := db_n cc (127 + d)) (p := p) (q := q) (by omega) (by rw [m3]; exact h12) q5 q6 hA8) fun s10 hv => ?_
      obtain ⟨r1, -, r3, r4, r5, r6⟩ := hv
      refine hrec (s10, v7 + db_rq cc d p q, v8 + nI (db_n c (135 + d))) ⟨?_, ?_, ?_, ?_, ?_⟩
      · rw [hst]
        show v7 + _ = _ + _
        rw [h1]
      · rw [hpt]
        show v8 + _ = _
        rw [h2, nI_add]
      · refine dw_Fs_t h3 ⟨fun j j1 j2 j3 j4 => ?_, fun k hk => ?_, fun b b1 b2 b3 b4 b5 b6 => ?_, r6.trans q4⟩
        · rw [r3 j j4, q3 j j1 j2]
        · rw [r4 k hk, q2 674 (by decide) (by decide) (by decide) (by decide)]
        · rw [r5 b b1 b2, q2 b b1 b4 b5 b6]
      · show s10.1 675 = _
        rw [r5 675 (by decide) (by decide), q2 675 (by decide) (by decide) (by decide) (by decide), h4]
      · rw [hst]
        exact r1
/-- the reference's search -/
theorem dw_354 (hc : db_A s c) (hO : db_Ok U c) (hU : U + 48 ≤ 1000000000) (hOk : ∀ k d, d ≤ db_n c 5 → db_Ok (U + 6 * d) (dw_sk p q (nI k) c d).1) (hp : db_O p (db_n c 1)) (hq : db_O q (db_n c 2)) : dz_T (db_f354_b54 db_FU s x p q (-(nI 1)) (nI 0) (nI 0)) (fun z => ∃ y, dw_Fs s y ∧ db_A y c ∧ ((dw_bs c p q x (2 ^ db_n c 5) = none ∧ z = (-(nI 1), db_uI y 669 0 (nI 8))) ∨ ∃ b, dw_bs c p q x (2 ^ db_n c 5) = some b ∧ z = (nI (dw_pz c b), db_uI y 669 35 (nI b)))) := by
  have k5 := hO.1.2.2.2.2.2
  have h8 := k5.2
  have hpow : 2 ^ db_n c 5 ≤ 2 ^ 8 := Nat.pow_le_pow_right (by decide) h8
  have hpl : ∀ k, dw_pz c k ≤ 99 * 8 := fun k => Nat.le_trans (dw_pn_le hO _ (Nat.le_refl _)) (by omega)
  have hpw := dw_pw _ (show db_n c 5 < 9 by omega)
  refine db_loop (L := fun m (a : db_S × Int32 × Int32) k => db_f354_b54 m a.1 x p q a.2.1 a.2.2 (nI k)) (N := 2 ^ db_n c 5) (fun k a => a.2.1 = dw_o3 (dw_bs c p q x k) ∧ a.2.2 = dw_o4 c (dw_bs c p q x k) ∧ dw_Fs s a.1 ∧ db_A a.1 c) ?_ ?_ (n := db_FU) (a := (s, -(nI 1), nI 0)) (by unfold db_FU; omega) ⟨rfl, rfl, dw_Fs_r, hc⟩
  · rintro m ⟨a, v4, v5⟩ ⟨h1, h2, h3, h4⟩
    dsimp only at h1 h2 h3 h4
    show dz_T (db_f354_b54 (m + 1) a x p q v4 v5 (nI (2 ^ db_n c 5))) _
    rw [db_f354_b54]
    have e5 : a.1 674 5 = nI (db_n c 5) := by rw [h4 5 (by omega)]; exact k5.1
    simp (disch := omega) only [db_lit, eq_self, db_pI_e, db_pL_e, db_bind_some, db_bd_some, nI_add, pk_mul, nI_toInt, db_m1_t, dz_cn, Int.ofNat_le, Int.ofNat_lt, decide_true, decide_false, db_ct, db_cf, not_true_eq_false, not_false_eq_true, db_87e, db_37e, db_31e, db_28e, db_281e, db_211e, db_27, db_269w, db_litL, pk_lT, db_iL, db_p0_e, db_p0_n, db_p0_j, db_sub1, nI_eq, if_true, if_false, Bool.false_eq_true, db_g_674, e5, hpw, Nat.le_refl]
    cases hb : dw_bs c p q x (2 ^ db_n c 5) with
    | none =>
      rw [hb] at h1 h2
      have e : v4 = -(nI 1) := h1
      have hm : ¬ ((0 : Nat) : Int) ≤ (-1 : Int) := by omega
      simp (disch := omega) only [db_lit, eq_self, db_pI_e, db_pL_e, db_bind_some, db_bd_some, nI_add, pk_mul, nI_toInt, db_m1_t, dz_cn, Int.ofNat_le, Int.ofNat_lt, decide_true, decide_false, db_ct, db_cf, not_true_eq_false, not_false_eq_true, db_87e, db_37e, db_31e, db_28e, db_281e, db_211e, db_27, db_269w, db_litL, pk_lT, db_iL, db_p0_e, db_p0_n, db_p0_j, db_sub1, nI_eq, if_true, if_false, Bool.false_eq_true, e, hm]
      exact ⟨_, rfl, a, h3, h4, .inl ⟨trivial, rfl⟩⟩
    | some b =>
      rw [hb] at h1 h2
      have hlt := dw_bs_lt hb
      have e : v4 = nI b := h1
      have e' : v5 = nI (dw_pz c b) := h2
      simp (disch := omega) only [db_lit, eq_self, db_pI_e, db_pL_e, db_bind_some, db_bd_some, nI_add, pk_mul, nI_toInt, db_m1_t, dz_cn, Int.ofNat_le, Int.ofNat_lt, decide_true, decide_false, db_ct, db_cf, not_true_eq_false, not_false_eq_true, db_87e, db_37e, db_31e, db_28e, db_281e, db_211e, db_27, db_269w, db_litL, pk_lT, db_iL, db_p0_e, db_p0_n, db_p0_j, db_sub1, nI_eq, if_true, if_false, Bool.false_eq_true, e, e', Nat.zero_le]
      exact ⟨_, rfl, a, h3, h4, .inr ⟨b, rfl, rfl⟩⟩
  · rintro m k ⟨a, v4, v5⟩ hk ⟨h1, h2, h3, h4⟩ hrec
    dsimp only at h1 h2 h3 h4
    show dz_T (db_f354_b54 (m + 1) a x p q v4 v5 (nI k)) _
    rw [db_f354_b54]
    have h7 : ¬ 2 ^ db_n c 5 ≤ k := by omega
    have e5 : a.1 674 5 = nI (db_n c 5) := by rw [h4 5 (by omega)]; exact k5.1
    have hst : dw_bs c p q x (k + 1) = if dw_hit c p q x k = true then (match dw_bs c p q x k with | none => some k | some b => if dw_pz c k < dw_pz c b then some k else some b) else dw_bs c p q x k := rfl
    have hpk := hpl k
    simp (disch := omega) only [db_lit, eq_self, db_pI_e, db_pL_e, db_bind_some, db_bd_some, nI_add, pk_mul, nI_toInt, db_m1_t, dz_cn, Int.ofNat_le, Int.ofNat_lt, decide_true, decide_false, db_ct, db_cf, not_true_eq_false, not_false_eq_true, db_g_674, e5, hpw, h7]
    obtain ⟨s6, e6, f1, f2, f3⟩ := dw_355 (s := a)
    rw [e6, db_bind_some]
    have hF6 : dw_Fs s s6 := dw_Fs_t h3 ⟨fun j _ _ _ _ => by rw [f1 669 (by decide)], fun k hk => by rw [f1 674 (by decide)], fun b _ _ b3 _ _ _ => f1 b b3, f2⟩
    refine dw_354r (U := U) (c := c) (db_A_e (f1 674 (by decide)) h4) (fun j hj => by rw [f3 j hj]; exact h4 j (by omega)) hO hU (hOk k) hp hq fun z hz1 hz2 => ?_
    have hFz := dw_Fs_t hF6 hz1
    have hno : dw_bs c p q x (k + 1) = dw_bs c p q x k → dz_T (db_f354_b176 (db_f354_b54 m) z x p q v4 v5 (nI k)) (fun z => ∃ y, dw_Fs s y ∧ db_A y c ∧ ((dw_bs c p q x (2 ^ db_n c 5) = none ∧ z = (-(nI 1), db_uI y 669 0 (nI 8))) ∨ ∃ b, dw_bs c p q x (2 ^ db_n c 5) = some b ∧ z = (nI (dw_pz c b), db_uI y 669 35 (nI b)))) := by
      intro e
      unfold db_f354_b176
      simp (disch := omega) only [db_lit, eq_self, db_pI_e, db_pL_e, db_bind_some, db_bd_some, nI_add, pk_mul, nI_toInt, db_m1_t, dz_cn, Int.ofNat_le, Int.ofNat_lt, decide_true, decide_false, db_ct, db_cf, not_true_eq_false, not_false_eq_true]
      exact hrec (z, v4, v5) ⟨by rw [e]; exact h1, by rw [e]; exact h2, hFz, hz2⟩
    have hyes : dw_bs c p q x (k + 1) = some k → dz_T (db_f354_b168 (db_f354_b54 m) z x p q (nI k) (nI (dw_pn c (nI k) (db_n c 5)))) (fun z => ∃ y, dw_Fs s y ∧ db_A y c ∧ ((dw_bs c p q x (2 ^ db_n c 5) = none ∧ z = (-(nI 1), db_uI y 669 0 (nI 8))) ∨ ∃ b, dw_bs c p q x (2 ^ db_n c 5) = some b ∧ z = (nI (dw_pz c b), db_uI y 669 35 (nI b)))) := by
      intro e
      unfold db_f354_b168 db_f354_b176
      simp (disch := omega) only [db_lit, eq_self, db_pI_e, db_pL_e, db_bind_some, db_bd_some, nI_add, pk_mul, nI_toInt, db_m1_t, dz_cn, Int.ofNat_le, Int.ofNat_lt, decide_true, decide_false, db_ct, db_cf, not_true_eq_false, not_false_eq_true]
      exact hrec (z, nI k, nI (dw_pz c k)) ⟨by rw [e]; rfl, by rw [e]; rfl, hFz, hz2⟩
    by_cases hh : (dw_sk p q (nI k) c (db_n c 5)).2 = x
    · have hit : dw_hit c p q x k = true := decide_eq_true hh
      rw [if_pos hit] at hst
      rw [db_cnd_ne, decide_eq_false (fun h => h hh), db_cf]
      cases hb : dw_bs c p q x k with
      | none =>
        rw [hb] at h1 hst
        have e : v4 = -(nI 1) := h1
        rw [e, show db_cnd .lt (-(nI 1)) 0 = true by decide, db_ct]
        exact hyes hst
      | some b =>
        rw [hb] at h1 h2 hst hno
        have hlt := dw_bs_lt hb
        have e : v4 = nI b := h1
        have e' : v5 = nI (dw_pz c b) := h2
        have hpb := hpl b
        have c1 : db_cnd .lt v4 0 = false := by
          rw [db_cnd_lt, e, nI_toInt (by omega)]
          exact decide_eq_false (by show ¬ (b : Int) < (nI 0).toInt; rw [nI_toInt (by omega)]; omega)
        have c2 : db_cnd .lt (nI (dw_pn c (nI k) (db_n c 5))) v5 = decide (dw_pz c k < dw_pz c b) := by
          show db_cnd .lt (nI (dw_pz c k)) v5 = _
          rw [db_cnd_lt, e', nI_toInt (by omega), nI_toInt (by omega), decide_eq_decide]
          omega
        rw [c1, db_cf, c2]
        by_cases hl : dw_pz c k < dw_pz c b
        · rw [decide_eq_true hl, db_ct]
          exact hyes (hst.trans (if_pos hl))
        · rw [decide_eq_false hl, db_cf]
          exact hno (hst.trans (if_neg hl))
    · have hit : ¬ dw_hit c p q x k = true := fun h => hh (of_decide_eq_true h)
      rw [if_neg hit] at hst
      rw [db_cnd_ne, decide_eq_true hh, db_ct]
      exact hno hst
theorem db_k43 (hI : db_Inv U s) (hU : U + 48 ≤ 1000000000) : dz_G U s (fun s => db_f173 s x p q) (fun s => db_f354 s x p q) := by
  have hB := db_cur hI
  obtain ⟨hO, hR, -⟩ := db_cur hI
  have k1 := hO.1.2.1
  have k2 := hO.1.2.2.1
  have k5 := hO.1.2.2.2.2.2
  have h8 := k5.2
  have hpow : 2 ^ db_n (db_bk s 0) 5 ≤ 2 ^ 8 := Nat.pow_le_pow_right (by decide) h8
  have hpl : ∀ k, dw_pz (db_bk s 0) k ≤ 99 * 8 := fun k => Nat.le_trans (dw_pn_le hO _ (Nat.le_refl _)) (by omega)
  cases hpq : (db_im p (db_n (db_bk s 0) 1) && db_im q (db_n (db_bk s 0) 2)) with
  | false =>
    refine db_Gn 2 hI ?_ fun s1 hS hA => ?_
    · unfold db_f173
      simp (disch := omega) only [db_lit, eq_self, db_pI_e, db_pL_e, db_bind_some, db_bd_some, nI_add, pk_mul, nI_toInt, db_m1_t, dz_cn, Int.ofNat_le, Int.ofNat_lt, decide_true, decide_false, db_ct, db_cf, not_true_eq_false, not_false_eq_true, db_87e, db_37e, db_31e, db_28e, db_281e, db_211e, db_27, db_269w, db_litL, pk_lT, db_iL, db_p0_e, db_p0_n, db_p0_j, db_sub1, nI_eq, if_true, if_false, Bool.false_eq_true, db_126 hR hO, hpq]
    · unfold db_f354
      simp (disch := omega) only [db_lit, eq_self, db_pI_e, db_pL_e, db_bind_some, db_bd_some, nI_add, pk_mul, nI_toInt, db_m1_t, dz_cn, Int.ofNat_le, Int.ofNat_lt, decide_true, decide_false, db_ct, db_cf, not_true_eq_false, not_false_eq_true, db_87e, db_37e, db_31e, db_28e, db_281e, db_211e, db_27, db_269w, db_litL, pk_lT, db_iL, db_p0_e, db_p0_n, db_p0_j, db_sub1, nI_eq, if_true, if_false, Bool.false_eq_true, db_315 (db_p0_A hA) k1 k2, hpq]
  | true =>
    have hpq' : db_im p (db_n (db_bk s 0) 1) = true ∧ db_im q (db_n (db_bk s 0) 2) = true := by simpa using hpq
    have hp := db_im_t hpq'.1
    have hq := db_im_t hpq'.2
    have e999 : (-999 : Int32).toInt = -999 ∧ (-999 : Int64).toInt = -999 := by decide
    have e269 : ∀ t : db_S, db_f269 t x.toInt64 (-999) 999 = some (db_wi x (-999) ((999 : Nat) : Int)) := fun t => by
      rw [db_269w, e999.2]
      rfl
    cases hx : db_wi x (-999) ((999 : Nat) : Int) with
    | false =>
      refine db_Gn 5 hI ?_ fun s1 hS hA => ?_
      · unfold db_f173 db_f162
        rw [db_126 hR hO, hpq, db_bind_some, db_ct, db_27, e999.1]
        simp (disch := omega) only [db_lit, eq_self, db_pI_e, db_pL_e, db_bind_some, db_bd_some, nI_add, pk_mul, nI_toInt, db_m1_t, dz_cn, Int.ofNat_le, Int.ofNat_lt, decide_true, decide_false, db_ct, db_cf, not_true_eq_false, not_false_eq_true, db_87e, db_37e, db_31e, db_28e, db_281e, db_211e, db_27, db_269w, db_litL, pk_lT, db_iL, db_p0_e, db_p0_n, db_p0_j, db_sub1, nI_eq, if_true, if_false, Bool.false_eq_true, hx]
      · unfold db_f354
        simp only [e269]
        simp (disch := omega) only [db_lit, eq_self, db_pI_e, db_pL_e, db_bind_some, db_bd_some, nI_add, pk_mul, nI_toInt, db_m1_t, dz_cn, Int.ofNat_le, Int.ofNat_lt, decide_true, decide_false, db_ct, db_cf, not_true_eq_false, not_false_eq_true, db_87e, db_37e, db_31e, db_28e, db_281e, db_211e, db_27, db_269w, db_litL, pk_lT, db_iL, db_p0_e, db_p0_n, db_p0_j, db_sub1, nI_eq, if_true, if_false, Bool.false_eq_true, db_315 (db_p0_A hA) k1 k2, hpq, hx]
    | true =>
      obtain ⟨⟨v, a⟩, ea, a1, a2, ⟨a3, a4, a5⟩, a6⟩ := dw_174 (x := x) hB hU hp hq
      dsimp only at a1 a2 a3 a4 a5 a6
      have hfin : ∀ st : Int32, dz_T (db_f354 (db_uI a 4 0 st) x p q) (fun z => ∃ y, dw_Fs (db_p0 (db_uI a 4 0 st)) y ∧ db_A y (db_bk s 0) ∧ ((dw_bs (db_bk s 0) p q x (2 ^ db_n (db_bk s 0) 5) = none ∧ z = (-(nI 1), db_uI y 669 0 (nI 8))) ∨ ∃ b, dw_bs (db_bk s 0) p q x (2 ^ db_n (db_bk s 0) 5) = some b ∧ z = (nI (dw_pz (db_bk s 0) b), db_uI y 669 35 (nI b)))) := by
        intro st
        have hA1 : db_A (db_p0 (db_uI a 4 0 st)) (db_bk s 0) := db_p0_A (fun j hj => by rw [db_uI_n (by decide), a3 674 (by decide) (by decide) (by decide) (by decide) (by decide) (by decide) (by decide) (by decide)]; exact db_bk_A j hj)
        unfold db_f354
        simp only [e269]
        simp (disch := omega) only [db_lit, eq_self, db_pI_e, db_pL_e, db_bind_some, db_bd_some, nI_add, pk_mul, nI_toInt, db_m1_t, dz_cn, Int.ofNat_le, Int.ofNat_lt, decide_true, decide_false, db_ct, db_cf, not_true_eq_false, not_false_eq_true, db_87e, db_37e, db_31e, db_28e, db_281e, db_211e, db_27, db_269w, db_litL, pk_lT, db_iL, db_p0_e, db_p0_n, db_p0_j, db_sub1, nI_eq, if_true, if_false, Bool.false_eq_true, db_315 hA1 k1 k2, hpq, hx, db_m1_l]
        exact dw_354 hA1 hO hU (fun k d hd => dw_sk_Ok hB hU hd) hp hq
      -- all that lasts
      have hinv : ∀ (st st2 b35 : Int32) (y s2 : db_S), dw_Fs (db_p0 (db_uI a 4 0 st)) y → db_A y (db_bk s 0) → (∀ b j, ¬ (b = 669 ∧ (j = 0 ∨ j = 35)) → s2.1 b j = y.1 b j) → s2.2 = y.2 → s2.1 669 0 = st → (s2.1 669 35 = a.1 274 2 ∧ db_O (a.1 274 2) 256) → db_Inv U s2 := by
        intro st st2 b35 y s2 hF hAy g1 g2 g3 g4
        obtain ⟨f1, f2, f3, f4⟩ := hF
        have y669 : ∀ j, j ≠ 29 → j ≠ 30 → j ≠ 31 → j ≠ 32 → j ≠ 0 → j ≠ 1 → y.1 669 j = s.1 669 j := fun j j1 j2 j3 j4 j5 j6 => by
          rw [f1 j j1 j2 j3 j4, db_p0_j j5 j6, db_uI_n (by decide), a3 669 (by decide) (by decide) (by decide) (by decide) (by decide) (by decide) (by decide) (by decide)]
        have ycl : ∀ b, b ≠ 669 → b ≠ 674 → b ≠ 675 → b ≠ 677 → b ≠ 678 → b ≠ 679 → b ≠ 4 → y.1 b = a.1 b := fun b b1 b2 b3 b4 b5 b6 b7 => by
          rw [f3 b b1 b2 b3 b4 b5 b6, db_p0_n b1, db_uI_n b7]
        have yl : y.2 = s.2 := by rw [f4, db_p0_2, db_uI_2, a5]
        have y4 : ∀ j, y.1 4 j = (db_uI a 4 0 st).1 4 j := fun j => by rw [f3 4 (by decide) (by decide) (by decide) (by decide) (by decide) (by decide), db_p0_n (by decide)]
        have y274 : ∀ j, s2.1 274 j = a.1 274 j := fun j => by rw [g1 274 j (by omega), ycl 274 (by decide) (by decide) (by decide) (by decide) (by decide) (by decide) (by decide)]
        have s40 : s2.1 4 0 = st := by rw [g1 4 0 (by omega), y4 0, db_uI_1]
        have hI' : db_Inv U ((fun b j => if (b = 274 ∧ j = 2) ∨ (b = 669 ∧ j = 35) then s.1 b j else s2.1 b j), s2.2) := by
          have hB2 : db_B1 U 20 ((fun b j => if (b = 274 ∧ j = 2) ∨ (b = 669 ∧ j = 35) then s.1 b j else s2.1 b j), s2.2) (db_bk s 0) (db_bw s 0) := by
            refine db_B1_c (fun b q1 q2 q3 => funext fun j => ?_) ?_ a6
            · show (if (b = 274 ∧ j = 2) ∨ (b = 669 ∧ j = 35) then s.1 b j else s2.1 b j) = _
              rw [if_neg (by omega), g1 b j (by omega), ycl b (by omega) (by omega) (by omega) (by omega) (by omega) (by omega) (by omega)]
            · show s2.2 (20 + 56) = _
              rw [g2, yl, a5]
          have ebk : db_bk ((fun b j => if (b = 274 ∧ j = 2) ∨ (b = 669 ∧ j = 35) then s.1 b j else s2.1 b j), s2.2) 0 = db_bk s 0 := by
            funext k
            by_cases hk : k < 480
            · rw [db_bk_0 hk]
              show (if (674 = 274 ∧ k = 2) ∨ (674 = 669 ∧ k = 35) then s.1 674 k else s2.1 674 k) = _
              rw [if_neg (by omega), g1 674 k (by omega)]
              exact hAy k hk
            · unfold db_bk
              rw [if_neg hk, if_neg hk]
          have ebw : db_bw ((fun b j => if (b = 274 ∧ j = 2) ∨ (b = 669 ∧ j = 35) then s.1 b j else s2.1 b j), s2.2) 0 = db_bw s 0 := by
            funext k
            unfold db_bw
            show (if k < 37 then s2.2 676 _ else 0) = _
            rw [g2, yl]
          refine db_Inv_u hI (Nat.le_refl U) (fun b j he n1 n2 n3 n4 n5 => ⟨?_, ?_⟩) ?_ (by rw [ebk, ebw]; exact hB2)
          · show (if (b = 274 ∧ j = 2) ∨ (b = 669 ∧ j = 35) then s.1 b j else s2.1 b j) = _
            by_cases e : (b = 274 ∧ j = 2) ∨ (b = 669 ∧ j = 35)
            · rw [if_pos e]
            · rw [if_neg e, g1 b j (by omega)]
              unfold db_es at he
              by_cases b9 : b = 669
              · subst b9
                unfold db_em at he
                exact y669 j (by omega) (by omega) (by omega) (by omega) (by omega) (by omega)
              · by_cases b7 : b = 674
                · subst b7
                  rw [f2 j (by omega), db_p0_n (by decide), db_uI_n (by decide), a3 674 (by decide) (by decide) (by decide) (by decide) (by decide) (by decide) (by decide) (by decide)]
                · by_cases b4 : b = 4
                  · subst b4
                    rw [y4 j, db_uI_j (by omega), a3 4 (by decide) (by decide) (by decide) (by decide) (by decide) (by decide) (by decide) (by decide)]
                  · unfold db_em db_ec at he
                    rw [ycl b b9 b7 (by omega) (by omega) (by omega) (by omega) b4]
                    by_cases b274 : b = 274
                    · subst b274
                      exact a4 j (by omega)
                    · rw [a3 b (by omega) (by omega) (by omega) (by omega) b274 (by omega) (by omega) (by omega)]
          · show s2.2 b j = _
            rw [g2, yl]
          · show (if (4 = 274 ∧ 0 = 2) ∨ (4 = 669 ∧ 0 = 35) then s.1 4 0 else s2.1 4 0) = (if (669 = 274 ∧ 0 = 2) ∨ (669 = 669 ∧ 0 = 35) then s.1 669 0 else s2.1 669 0)
            rw [if_neg (by decide), if_neg (by decide), s40, g3]
        refine db_Inv_stock hI' (Nat.le_refl U) (fun b j he hne => ⟨?_, rfl⟩) (by rw [s40, g3]) ?_
        · show s2.1 b j = (if (b = 274 ∧ j = 2) ∨ (b = 669 ∧ j = 35) then s.1 b j else s2.1 b j)
          rw [if_neg (by omega)]
        · rw [y274 2, g4.1]
          exact ⟨rfl, g4.2⟩
      cases ho : dw_bs (db_bk s 0) p q x (2 ^ db_n (db_bk s 0) 5) with
      | none =>
        rw [ho] at a1 a2
        have a1 : v = -(nI 1) := a1
        have a2 : a.1 274 2 = s.1 274 2 := a2
        obtain ⟨z, ez, y, y1, y2, h | ⟨b, hb, -⟩⟩ := hfin (nI 8)
        · obtain ⟨-, rfl⟩ := h
          refine ⟨-(nI 1), db_uI a 4 0 (nI 8), db_uI y 669 0 (nI 8), ?_, ez, hinv (nI 8) 0 0 y _ y1 y2 (fun b j hne => ?_) rfl db_uI_1 ?_⟩
          · show db_f173 s x p q = _
            unfold db_f173 db_f162
            rw [db_126 hR hO, hpq, db_bind_some, db_ct, db_27, e999.1]
            simp (disch := omega) only [db_lit, eq_self, db_pI_e, db_pL_e, db_bind_some, db_bd_some, nI_add, pk_mul, nI_toInt, db_m1_t, dz_cn, Int.ofNat_le, Int.ofNat_lt, decide_true, decide_false, db_ct, db_cf, not_true_eq_false, not_false_eq_true, db_87e, db_37e, db_31e, db_28e, db_281e, db_211e, db_27, db_269w, db_litL, pk_lT, db_iL, db_p0_e, db_p0_n, db_p0_j, db_sub1, nI_eq, if_true, if_false, Bool.false_eq_true, hx, ea, a1, db_m1_l]
          · rw [db_uI_if, if_neg (by omega)]
          · have hst := hI.2.2.2.2.2.2.2.2.2.1
            rw [a2, db_uI_j (by decide)]
            refine ⟨?_, hst.2⟩
            rw [y1.1 35 (by decide) (by decide) (by decide) (by decide), db_p0_j (by decide) (by decide), db_uI_n (by decide), a3 669 (by decide) (by decide) (by decide) (by decide) (by decide) (by decide) (by decide) (by decide)]
            exact hst.1.symm
        · rw [ho] at hb
          cases hb
      | some b =>
        rw [ho] at a1 a2
        have hlt := dw_bs_lt ho
        have a1 : v = nI (dw_pz (db_bk s 0) b) := a1
        have a2 : a.1 274 2 = nI b := a2
        have hpb := hpl b
        obtain ⟨z, ez, y, y1, y2, ⟨hb, -⟩ | ⟨b', hb, hz⟩⟩ := hfin (nI 0)
        · rw [ho] at hb
          cases hb
        · rw [ho] at hb
          cases hb
          subst hz
          have hne := db_m1_ne (k := dw_pz (db_bk s 0) b) (by omega)
          refine ⟨nI (dw_pz (db_bk s 0) b), db_uI a 4 0 (nI 0), db_uI y 669 35 (nI b), ?_, ez, hinv (nI 0) 0 0 y _ y1 y2 (fun b' j hne => ?_) rfl ?_ ?_⟩
          · show db_f173 s x p q = _
            unfold db_f173 db_f162
            rw [db_126 hR hO, hpq, db_bind_some, db_ct, db_27, e999.1]
            simp (disch := omega) only [db_lit, eq_self, db_pI_e, db_pL_e, db_bind_some, db_bd_some, nI_add, pk_mul, nI_toInt, db_m1_t, dz_cn, Int.ofNat_le, Int.ofNat_lt, decide_true, decide_false, db_ct, db_cf, not_true_eq_false, not_false_eq_true, db_87e, db_37e, db_31e, db_28e, db_281e, db_211e, db_27, db_269w, db_litL, pk_lT, db_iL, db_p0_e, db_p0_n, db_p0_j, db_sub1, nI_eq, if_true, if_false, Bool.false_eq_true, hx, ea, a1, db_m1_l, hne]
          · rw [db_uI_if, if_neg (by omega)]
          · rw [db_uI_j (by decide), y1.1 0 (by decide) (by decide) (by decide) (by decide)]
            exact db_p0_0
          · rw [a2, db_uI_1]
            exact ⟨rfl, .inr ⟨b, by omega, rfl⟩⟩
end DBSM
