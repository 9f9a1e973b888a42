/-! STOCK -/
/-- the dreams of a stock read in order, with their wear -/
def dw_sk (p q x : Int32) (c : db_C) : Nat → db_C × Int32
  | 0 => (c, nI 0)
  | d + 1 => if bt x d = true then (db_we (dw_sk p q x c d).1 (db_dr (dw_sk p q x c d).1 d) (db_n (dw_sk p q x c d).1 (127 + d)) p q (dw_sk p q x c d).1 (db_n (dw_sk p q x c d).1 (127 + d)), (dw_sk p q x c d).2 + db_rq (dw_sk p q x c d).1 d p q) else dw_sk p q x c d
/-- what they cost -/
def dw_pn (c : db_C) (x : Int32) : Nat → Nat
  | 0 => 0
  | d + 1 => dw_pn c x d + (if bt x d = true then db_n c (135 + d) else 0)
def dw_pz (c : db_C) (k : Nat) : Nat := dw_pn c (nI k) (db_n c 5)
def dw_hit (c : db_C) (p q x : Int32) (k : Nat) : Bool := decide ((dw_sk p q (nI k) c (db_n c 5)).2 = x)
/-- the best of the first stocks -/
def dw_bs (c : db_C) (p q x : Int32) : Nat → Option Nat
  | 0 => none
  | k + 1 => if dw_hit c p q x k = true then (match dw_bs c p q x k with
    | none => some k
    | some b => if dw_pz c k < dw_pz c b then some k else some b) else dw_bs c p q x k
def dw_o1 (s : db_S) (o : Option Nat) (a j : Nat) : Int32 := match o with
  | none => s.1 a j
  | some b => nI b
def dw_o2 (c : db_C) (o : Option Nat) : Int32 := match o with
  | none => -(nI 1)
  | some b => nI (dw_pz c b)
section DBSK
variable {U : Nat} {s z : db_S} {c : db_C} {w : Nat → Int64} {v x y p q : Int32}
theorem dw_sk_n {k : Nat} (h12 : db_n c 3 ≤ 12) (hk : ¬ (91 ≤ k ∧ k ≤ 102)) : ∀ d, (dw_sk p q x c d).1 k = c k
  | 0 => rfl
  | d + 1 => by
    have e3 : db_n (dw_sk p q x c d).1 3 = db_n c 3 := by unfold db_n; rw [dw_sk_n h12 (by omega) d]
    rw [dw_sk]
    by_cases e : bt x d = true
    · rw [if_pos e]
      show db_we _ _ _ _ _ _ _ k = _
      rw [db_we_n (by rw [e3]; exact h12) hk, dw_sk_n h12 hk d]
    · rw [if_neg e]
      exact dw_sk_n h12 hk d
theorem dw_sk_m {k : Nat} (h12 : db_n c 3 ≤ 12) (hk : ¬ (91 ≤ k ∧ k ≤ 102)) (d : Nat) : db_n (dw_sk p q x c d).1 k = db_n c k := by
  unfold db_n
  rw [dw_sk_n h12 hk d]
theorem dw_sk_b (hO : db_Ok U c) (hU : U + 48 ≤ 1000000000) {r : Nat} (hr : r < db_n c 3) : ∀ d, d ≤ db_n c 5 → 0 ≤ ((dw_sk p q x c d).1 (91 + r)).toInt ∧ ((dw_sk p q x c d).1 (91 + r)).toInt ≤ ((U + 6 * d : Nat) : Int)
  | 0, _ => by
    have h := (hO.2.1 r hr).2.2.2.2.2.2
    exact ⟨h.1, by have := h.2; show (c (91 + r)).toInt ≤ _; omega⟩
  | d + 1, hd => by
    have h12 := hO.1.2.2.2.1.2
    have h8 := hO.1.2.2.2.2.2.2
    have ih := dw_sk_b hO hU hr d (by omega)
    rw [dw_sk]
    by_cases e : bt x d = true
    · rw [if_pos e]
      have hL := (hO.2.2.2.1 d (by omega)).1.1.2
      have eL := dw_sk_m (p := p) (q := q) (x := x) (c := c) (k := 127 + d) h12 (by omega) d
      have g := db_we_b (c0 := (dw_sk p q x c d).1) (row := db_dr (dw_sk p q x c d).1 d) (n := db_n (dw_sk p q x c d).1 (127 + d)) (p := p) (q := q) (cc := (dw_sk p q x c d).1) (r := r) (U := U + 6 * d) ih.1 ih.2 (db_n (dw_sk p q x c d).1 (127 + d)) (by rw [eL]; omega)
      exact ⟨g.1, Int.le_trans g.2 (by rw [eL]; omega)⟩
    · rw [if_neg e]
      exact ⟨ih.1, Int.le_trans ih.2 (by omega)⟩
theorem dw_sk_B1 {a : db_S} (hB : db_B1 U 20 s c w) (hU : U + 48 ≤ 1000000000) {d : Nat} (hd : d ≤ db_n c 5) (h1 : ∀ b, 20 ≤ b → b < 145 → b ≠ 81 → a.1 b = s.1 b) (h2 : a.2 76 = s.2 76) (h3 : ∀ r, r < db_n c 3 → a.1 81 r = (dw_sk p q x c d).1 (91 + r)) : db_B1 (U + 6 * d) 20 a (dw_sk p q x c d).1 w := by
  have hO := hB.1
  have hR := hB.2.1
  have h12 := hO.1.2.2.2.1.2
  have j1 := hO.1.2.1.2
  refine db_B1_u hB (fun k hk => dw_sk_n h12 hk.2.2.2.2 d) (fun b q1 q2 q3 q4 q5 q6 => h1 b q1 (by omega) (by omega)) h2 (fun r hr => ⟨h3 r hr, dw_sk_b hO hU hr d hd⟩) (fun p hp => ?_) ⟨?_, ?_⟩ ⟨?_, ?_⟩
  · rw [dw_sk_n h12 (by omega) d, h1 _ (by omega) (by omega) (by omega)]
    exact ⟨db_82 hR hp, (hO.2.2.2.2.1 p hp).2⟩
  · rw [dw_sk_n h12 (by omega) d, h1 _ (by omega) (by omega) (by omega)]
    exact (db_802 hR).1
  · rw [dw_sk_n h12 (by omega) d]; exact hO.2.2.2.2.2.2.1
  · rw [dw_sk_n h12 (by omega) d, h1 _ (by omega) (by omega) (by omega)]
    exact (db_802 hR).2
  · rw [dw_sk_n h12 (by omega) d]
    have := hO.2.2.2.2.2.2.2
    exact ⟨this.1, Int.le_trans this.2 (by omega)⟩
theorem dw_sk_Ok (hB : db_B1 U 20 s c w) (hU : U + 48 ≤ 1000000000) {d : Nat} (hd : d ≤ db_n c 5) : db_Ok (U + 6 * d) (dw_sk p q x c d).1 :=
  (dw_sk_B1 (a := (fun b j => if b = 81 then (dw_sk p q x c d).1 (91 + j) else s.1 b j, s.2)) (p := p) (q := q) (x := x) hB hU hd (fun b q1 q2 q3 => funext fun j => if_neg q3) rfl (fun r hr => (if_pos rfl : (if 81 = 81 then (dw_sk p q x c d).1 (91 + r) else s.1 81 r) = _))).1
theorem dw_pn_le (hO : db_Ok U c) : ∀ d, d ≤ db_n c 5 → dw_pn c x d ≤ 99 * d
  | 0, _ => Nat.le_refl _
  | d + 1, hd => by
    have ih := dw_pn_le hO d (by omega)
    have h := (hO.2.2.2.1 d (by omega)).2.2.1.2
    rw [dw_pn]
    by_cases e : bt x d = true
    · rw [if_pos e]; omega
    · rw [if_neg e]; omega
/-- what the class keeps aside -/
def dw_sv (s : db_S) : Prop := (∀ j, j < 12 → s.1 277 j = s.1 81 j) ∧ (∀ j, j < 4 → s.1 278 j = s.1 82 j) ∧ s.1 276 2 = s.1 80 2 ∧ s.1 276 3 = s.1 80 3
def dw_gg (s z : db_S) : Prop := (∀ b, b ≠ 80 → b ≠ 81 → b ≠ 82 → b ≠ 273 → z.1 b = s.1 b) ∧ z.2 = s.2 ∧ (∀ j, j < 12 → z.1 81 j = s.1 81 j) ∧ (∀ j, j < 4 → z.1 82 j = s.1 82 j) ∧ ∀ j, z.1 80 j = s.1 80 j
theorem dw_276 : ∃ z, db_f175_276_80 s = some z ∧ (∀ b, b ≠ 276 → b ≠ 277 → b ≠ 278 → z.1 b = s.1 b) ∧ z.2 = s.2 ∧ dw_sv z := by
  obtain ⟨z1, e1, f1, g1⟩ := db_83 (s := s) (a := 81) (d := 277) (L := 12) rfl rfl rfl rfl rfl rfl (by omega)
  obtain ⟨z2, e2, f2, g2⟩ := db_83 (s := z1) (a := 82) (d := 278) (L := 4) rfl rfl rfl rfl rfl rfl (by omega)
  refine ⟨db_uI (db_uI z2 276 2 (z2.1 80 2)) 276 3 ((db_uI z2 276 2 (z2.1 80 2)).1 80 3), ?_, fun b b1 b2 b3 => ?_, ?_, fun j hj => ?_, fun j hj => ?_, ?_, ?_⟩
  · unfold db_f175_276_80
    simp (disch := omega) only [db_lit, eq_self, db_pI_e, db_pL_e, db_bind_some, db_bd_some, nI_add, pk_mul, nI_toInt, db_m1_t, dz_cn, Int.ofNat_le, Int.ofNat_lt, decide_true, decide_false, db_ct, db_cf, not_true_eq_false, not_false_eq_true, e1, e2]
  · rw [db_uI_n b1, db_uI_n b1, f2.1 b b3, f1.1 b b2]
  · rw [db_uI_2, db_uI_2, f2.2, f1.2]
  · rw [db_uI_n (by decide), db_uI_n (by decide), f2.1 277 (by decide), g1 j hj, db_uI_n (by decide), db_uI_n (by decide), f2.1 81 (by decide), f1.1 81 (by decide)]
  · rw [db_uI_n (by decide), db_uI_n (by decide), g2 j hj, f1.1 82 (by decide), db_uI_n (by decide), db_uI_n (by decide), f2.1 82 (by decide), f1.1 82 (by decide)]
  · rw [db_uI_j (by decide), db_uI_1, db_uI_n (by decide), db_uI_n (by decide)]
  · rw [db_uI_1, db_uI_n (by decide), db_uI_n (by decide), db_uI_n (by decide)]
theorem dw_r276 {a : db_S} (h : dw_sv s) (h1 : ∀ b, b ≠ 81 → b ≠ 273 → a.1 b = s.1 b) (h2 : a.2 = s.2) : ∃ z, db_f175_80_276 a = some z ∧ dw_gg s z := by
  obtain ⟨v1, v2, v3, v4⟩ := h
  obtain ⟨z1, e1, f1, g1⟩ := db_83 (s := a) (a := 277) (d := 81) (L := 12) rfl rfl rfl rfl rfl rfl (by omega)
  obtain ⟨z2, e2, f2, g2⟩ := db_83 (s := z1) (a := 278) (d := 82) (L := 4) rfl rfl rfl rfl rfl rfl (by omega)
  have ez : ∀ b, b ≠ 81 → b ≠ 82 → b ≠ 273 → z2.1 b = s.1 b := fun b b1 b2 b3 => by rw [f2.1 b b2, f1.1 b b1, h1 b b1 b3]
  refine ⟨db_uI (db_uI z2 80 2 (z2.1 276 2)) 80 3 ((db_uI z2 80 2 (z2.1 276 2)).1 276 3), ?_, fun b b1 b2 b3 b4 => ?_, ?_, fun j hj => ?_, fun j hj => ?_, fun j => ?_⟩
  · unfold db_f175_80_276
    simp (disch := omega) only [db_lit, eq_self, db_pI_e, db_pL_e, db_bind_some, db_bd_some, nI_add, pk_mul, nI_toInt, db_m1_t, dz_cn, Int.ofNat_le, Int.ofNat_lt, decide_true, decide_false, db_ct, db_cf, not_true_eq_false, not_false_eq_true, e1, e2]
  · rw [db_uI_n b1, db_uI_n b1, ez b b2 b3 b4]
  · rw [db_uI_2, db_uI_2, f2.2, f1.2, h2]
  · rw [db_uI_n (by decide), db_uI_n (by decide), f2.1 81 (by decide), g1 j hj, h1 277 (by decide) (by decide)]
    exact v1 j hj
  · rw [db_uI_n (by decide), db_uI_n (by decide), g2 j hj, f1.1 278 (by decide), h1 278 (by decide) (by decide)]
    exact v2 j hj
  · by_cases j3 : j = 3
    · subst j3
      rw [db_uI_1, db_uI_n (by decide), ez 276 (by decide) (by decide) (by decide)]
      exact v4
    · rw [db_uI_j j3]
      by_cases j2 : j = 2
      · subst j2
        rw [db_uI_1, ez 276 (by decide) (by decide) (by decide)]
        exact v3
      · rw [db_uI_j j2, ez 80 (by decide) (by decide) (by decide)]
/-- the class reads a stock -/
theorem dw_177 (hB : db_B1 U 20 s c w) (hU : U + 48 ≤ 1000000000) (hp : db_O p (db_n c 1)) (hq : db_O q (db_n c 2)) (hs : dw_sv s) : dz_T (db_f177 s x p q) (fun z => z.1 = (dw_sk p q x c (db_n c 5)).2 ∧ dw_gg s z.2) := by
  have hO := hB.1
  have h12 := hO.1.2.2.2.1.2
  have k5 := hO.1.2.2.2.2.2
  have h8 := k5.2
  unfold db_f177
  refine db_loop (L := fun m (a : db_S × Int32) d => db_f177_b6 m a.1 x p q a.2 (nI d)) (N := db_n c 5) (fun d a => a.2 = (dw_sk p q x c d).2 ∧ (∀ b, b ≠ 81 → b ≠ 273 → a.1.1 b = s.1 b) ∧ a.1.2 = s.2 ∧ ∀ r, r < db_n c 3 → a.1.1 81 r = (dw_sk p q x c d).1 (91 + r)) ?_ ?_ (n := db_FU) (a := (s, nI 0)) (by unfold db_FU; omega) ⟨rfl, fun b _ _ => rfl, rfl, fun r hr => db_81 hB.2.1 hr⟩
  · rintro m ⟨a, v⟩ ⟨h1, h2, h3, h4⟩
    dsimp only at h1 h2 h3 h4
    show dz_T (db_f177_b6 (m + 1) a x p q v (nI (db_n c 5))) _
    rw [db_f177_b6]
    have e21 : a.1 21 5 = nI (db_n c 5) := by rw [h2 21 (by decide) (by decide), db_21 hB.2.1 (by decide)]; exact k5.1
    obtain ⟨z, e, hz⟩ := dw_r276 hs h2 h3
    simp (disch := omega) only [db_lit, eq_self, db_pI_e, db_pL_e, db_bind_some, db_bd_some, nI_add, pk_mul, nI_toInt, db_m1_t, dz_cn, Int.ofNat_le, Int.ofNat_lt, decide_true, decide_false, db_ct, db_cf, not_true_eq_false, not_false_eq_true, db_g_21, e21, Nat.le_refl, e]
    exact ⟨_, rfl, h1, hz⟩
  · rintro m d ⟨a, v⟩ hd ⟨h1, h2, h3, h4⟩ hrec
    dsimp only at h1 h2 h3 h4
    show dz_T (db_f177_b6 (m + 1) a x p q v (nI d)) _
    rw [db_f177_b6]
    have e21 : a.1 21 5 = nI (db_n c 5) := by rw [h2 21 (by decide) (by decide), db_21 hB.2.1 (by decide)]; exact k5.1
    have h7 : ¬ db_n c 5 ≤ d := by omega
    have hst : dw_sk p q x c (d + 1) = if bt x d = true then (db_we (dw_sk p q x c d).1 (db_dr (dw_sk p q x c d).1 d) (db_n (dw_sk p q x c d).1 (127 + d)) p q (dw_sk p q x c d).1 (db_n (dw_sk p q x c d).1 (127 + d)), (dw_sk p q x c d).2 + db_rq (dw_sk p q x c d).1 d p q) else dw_sk p q x c d := rfl
    have hB' := dw_sk_B1 (p := p) (q := q) (x := x) (a := a) hB hU (show d ≤ db_n c 5 by omega) (fun b b1 b2 b3 => h2 b b3 (by omega)) (by rw [h3]) h4
    have e5 := dw_sk_m (p := p) (q := q) (x := x) (c := c) (k := 5) h12 (by omega) d
    have e1 := dw_sk_m (p := p) (q := q) (x := x) (c := c) (k := 1) h12 (by omega) d
    have e2 := dw_sk_m (p := p) (q := q) (x := x) (c := c) (k := 2) h12 (by omega) d
    have e3 := dw_sk_m (p := p) (q := q) (x := x) (c := c) (k := 3) h12 (by omega) d
    simp (disch := omega) only [db_lit, eq_self, db_pI_e, db_pL_e, db_bind_some, db_bd_some, nI_add, pk_mul, nI_toInt, db_m1_t, dz_cn, Int.ofNat_le, Int.ofNat_lt, decide_true, decide_false, db_ct, db_cf, not_true_eq_false, not_false_eq_true, db_g_21, e21, h7, db_112]
    cases hb : bt x d with
    | false =>
      rw [hb] at hst
      unfold db_f177_b63
      simp (disch := omega) only [db_lit, eq_self, db_pI_e, db_pL_e, db_bind_some, db_bd_some, nI_add, pk_mul, nI_toInt, db_m1_t, dz_cn, Int.ofNat_le, Int.ofNat_lt, decide_true, decide_false, db_ct, db_cf, not_true_eq_false, not_false_eq_true]
      exact hrec (a, v) ⟨by rw [hst]; exact h1, h2, h3, by rw [hst]; exact h4⟩
    | true =>
      rw [hb, if_pos rfl] at hst
      rw [db_ct]
      generalize hcc : (dw_sk p q x c d).1 = cc at *
      have hL := (hB'.1.2.2.2.1 d (by rw [e5]; exact hd)).1.1
      have hL6 := hL.2
      refine db_T_gd (db_127 (p := p) (q := q) hB'.2.1 hB'.1 (by omega) (show d < db_n cc 5 by rw [e5]; exact hd) (by rw [e1]; exact hp) (by rw [e2]; exact hq)) fun u s7 hv => ?_
      obtain ⟨q1, q2, q3⟩ := hv
      dsimp only at q1 q2 q3
      subst q1
      have e59 : s7.1 59 d = nI (db_n cc (127 + d)) := by
        rw [q2.1 59 (by decide), (db_59 hB'.2.1 (show d < db_n cc 5 by rw [e5]; exact hd)).1]
        exact hL.1
      simp (disch := omega) only [db_lit, eq_self, db_pI_e, db_pL_e, db_bind_some, db_bd_some, nI_add, pk_mul, nI_toInt, db_m1_t, dz_cn, Int.ofNat_le, Int.ofNat_lt, decide_true, decide_false, db_ct, db_cf, not_true_eq_false, not_false_eq_true, db_g_59, e59]
      refine db_T_gd (db_138 (c := cc) (cc := cc) (row := db_dr cc d) (n := db_n cc (127 + d)) (p := p) (q := q) (by omega) (by rw [e3]; exact h12) q3 (fun r hr => by rw [q2.1 81 (by decide)]; exact h4 r (by rw [← e3]; exact hr))) fun u2 s10 hv => ?_
      obtain ⟨-, r2, r3⟩ := hv
      dsimp only at r2 r3
      unfold db_f177_b63
      simp (disch := omega) only [db_lit, eq_self, db_pI_e, db_pL_e, db_bind_some, db_bd_some, nI_add, pk_mul, nI_toInt, db_m1_t, dz_cn, Int.ofNat_le, Int.ofNat_lt, decide_true, decide_false, db_ct, db_cf, not_true_eq_false, not_false_eq_true]
      refine hrec (s10, v + db_rq cc d p q) ⟨?_, fun b b1 b2 => ?_, ?_, fun r hr => ?_⟩
      · rw [hst]
        show v + _ = _ + _
        rw [h1]
      · show s10.1 b = _
        rw [r2.1 b b1, q2.1 b b2, h2 b b1 b2]
      · show s10.2 = _
        rw [r2.2, q2.2, h3]
      · rw [hst]
        exact r3 r (by rw [e3]; exact hr)
/-- the class's price -/
theorem dw_176 (hB : db_B1 U 20 s c w) : db_f176 s x = some (nI (dw_pn c x (db_n c 5))) := by
  have hO := hB.1
  have k5 := hO.1.2.2.2.2.2
  have h8 := k5.2
  have e21 : s.1 21 5 = nI (db_n c 5) := by rw [db_21 hB.2.1 (by decide)]; exact k5.1
  unfold db_f176
  refine db_fold (L := fun m v d => db_f176_b4 s m x v (nI d)) (N := db_n c 5) (fun d => nI (dw_pn c x d)) (fun m => ?_) (fun m d hd => ?_) (by unfold db_FU; omega)
  · show db_f176_b4 s (m + 1) x _ (nI (db_n c 5)) = _
    rw [db_f176_b4]
    simp (disch := omega) only [db_lit, eq_self, db_pI_e, db_pL_e, db_bind_some, db_bd_some, nI_add, pk_mul, nI_toInt, db_m1_t, dz_cn, Int.ofNat_le, Int.ofNat_lt, decide_true, decide_false, db_ct, db_cf, not_true_eq_false, not_false_eq_true, db_g_21, e21, Nat.le_refl]
  · show db_f176_b4 s (m + 1) x (nI (dw_pn c x d)) (nI d) = db_f176_b4 s m x (nI (dw_pn c x (d + 1))) (nI (d + 1))
    rw [db_f176_b4]
    have h7 : ¬ db_n c 5 ≤ d := by omega
    have e60 : s.1 60 d = nI (db_n c (135 + d)) := by
      rw [(db_59 hB.2.1 hd).2.1]
      exact ((hO.2.2.2.1 d hd).2.2.1).1
    have hst : dw_pn c x (d + 1) = dw_pn c x d + (if bt x d = true then db_n c (135 + d) else 0) := rfl
    unfold db_f176_b39
    simp (disch := omega) only [db_lit, eq_self, db_pI_e, db_pL_e, db_bind_some, db_bd_some, nI_add, pk_mul, nI_toInt, db_m1_t, dz_cn, Int.ofNat_le, Int.ofNat_lt, decide_true, decide_false, db_ct, db_cf, not_true_eq_false, not_false_eq_true, db_g_21, e21, h7, db_112, db_g_60, e60]
    cases hb : bt x d with
    | false => rw [hst, hb]; rfl
    | true => rw [hst, hb]; rfl
end DBSK
