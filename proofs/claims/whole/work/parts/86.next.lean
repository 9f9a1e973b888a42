/-! THE REFERENCE'S NEXT TOKEN -/
def dv_lk (x : Nat → Int32) (n p : Nat) : Int32 := if p < n then x p &&& nI 255 else nI 0
/-- the text as the reference has it -/
def dv_TX (x : Nat → Int32) (n : Nat) (s : db_S) : Prop := n ≤ 900 ∧ s.1 669 9 = nI n ∧ ∀ j, j < n → s.1 673 j = x j ∧ -128 ≤ (x j).toInt ∧ (x j).toInt < 128
/-- what next changes -/
def dv_Fn (s z : db_S) : Prop := (∀ b, b ≠ 669 → z.1 b = s.1 b ∧ z.2 b = s.2 b) ∧ (∀ j, ¬ (14 ≤ j ∧ j ≤ 18) → z.1 669 j = s.1 669 j) ∧ ∀ j, j ≠ 19 → z.2 669 j = s.2 669 j
/-- the reference's token is the one at place a -/
def dv_TR (x : Nat → Int32) (n a : Nat) (s : db_S) : Prop := s.1 669 14 = nI (dv_K x n a) ∧ s.1 669 15 = nI a ∧ s.1 669 16 = nI (dv_Q x n a) ∧ (dv_K x n a = 1 → s.2 669 19 = dv_L x n a ∧ s.1 669 18 = nI (dv_W x n a - a)) ∧ (dv_K x n a = 2 ∨ dv_K x n a = 3 → s.1 669 17 = dv_V x n a)
section DVNX
variable {s : db_S} {x : Nat → Int32} {n : Nat} {y : Int32}
theorem dv_Fn_r : dv_Fn s s := ⟨fun _ _ => ⟨rfl, rfl⟩, fun _ _ => rfl, fun _ _ => rfl⟩
theorem dv_Fn_u {z : db_S} {j : Nat} {v : Int32} (h : dv_Fn s z) (hj : 14 ≤ j ∧ j ≤ 18) : dv_Fn s (db_uI z 669 j v) := ⟨fun b hb => by rw [db_uI_n hb, db_uI_2]; exact h.1 b hb, fun i hi => by rw [db_uI_j (by omega)]; exact h.2.1 i hi, fun i hi => by rw [db_uI_2]; exact h.2.2 i hi⟩
theorem dv_Fn_l {z : db_S} {v : Int64} (h : dv_Fn s z) : dv_Fn s (db_uL z 669 19 v) := ⟨fun b hb => by rw [db_uL_n hb, db_uL_2]; exact h.1 b hb, fun i hi => by rw [db_uL_2]; exact h.2.1 i hi, fun i hi => by rw [db_uL_j hi]; exact h.2.2 i hi⟩
theorem dv_Fn_t {s1 z : db_S} (h : dv_Fn s s1) (k : dv_Fn s1 z) : dv_Fn s z := ⟨fun b hb => ⟨(k.1 b hb).1.trans (h.1 b hb).1, (k.1 b hb).2.trans (h.1 b hb).2⟩, fun j hj => (k.2.1 j hj).trans (h.2.1 j hj), fun j hj => (k.2.2 j hj).trans (h.2.2 j hj)⟩
theorem dv_TX_F {z : db_S} (h : dv_TX x n s) (k : dv_Fn s z) : dv_TX x n z := ⟨h.1, by rw [k.2.1 9 (by omega)]; exact h.2.1, fun j hj => by rw [(k.1 673 (by decide)).1]; exact h.2.2 j hj⟩
theorem dv_224 (h : dv_TX x n s) {p : Nat} (hp : p ≤ 901) : db_f224 s (nI p) = some (dv_lk x n p) := by
  obtain ⟨hn, h9, hx⟩ := h
  unfold db_f224 dv_lk
  by_cases e : p < n
  · rw [if_pos e]
    simp (disch := omega) only [db_lit, eq_self, db_pI_e, db_pL_e, db_bind_some, db_bd_some, nI_add, pk_mul, nI_toInt, db_m1_t, dz_cn, Int.ofNat_le, Int.ofNat_lt, decide_true, decide_false, db_ct, db_cf, not_true_eq_false, not_false_eq_true, h9, (show ¬ n ≤ p by omega), db_g_673, (hx p e).1]
  · rw [if_neg e]
    simp (disch := omega) only [db_lit, eq_self, db_pI_e, db_pL_e, db_bind_some, db_bd_some, nI_add, pk_mul, nI_toInt, db_m1_t, dz_cn, Int.ofNat_le, Int.ofNat_lt, decide_true, decide_false, db_ct, db_cf, not_true_eq_false, not_false_eq_true, h9, (show n ≤ p by omega)]
theorem dv_225 : db_f225 s y = some (dv_lt y) := dv_11 (s := s) (y := y)
theorem dv_226 : db_f226 s y = some (dv_dg y) := dv_52 (s := s) (y := y)
theorem dv_227 : db_f227 s y = some (dv_sg y) := by
  unfold db_f227 dv_sg
  simp (disch := omega) only [db_lit, eq_self, db_pI_e, db_pL_e, db_bind_some, db_bd_some, nI_add, pk_mul, nI_toInt, db_m1_t, dz_cn, Int.ofNat_le, Int.ofNat_lt, decide_true, decide_false, db_ct, db_cf, not_true_eq_false, not_false_eq_true]
  by_cases h1 : y = nI 59
  · rw [decide_eq_true h1, db_ct, Bool.true_or]
  · rw [decide_eq_false h1, db_cf, Bool.false_or]
    by_cases h2 : y = nI 60
    · rw [decide_eq_true h2, db_ct, Bool.true_or]
    · rw [decide_eq_false h2, db_cf, Bool.false_or]
      by_cases h3 : y = nI 62
      · rw [decide_eq_true h3, db_ct, Bool.or_true]
      · rw [decide_eq_false h3, db_cf, Bool.or_false]
        by_cases h4 : y = nI 61
        · rw [decide_eq_true h4, decide_eq_false (fun h => h h4), db_cf]
        · rw [decide_eq_false h4, decide_eq_true h4, db_ct]
theorem dv_lk_c (h : dv_TX x n s) {p : Nat} : dv_lt (dv_lk x n p) = (decide (p < n) && dv_lt (x p)) ∧ dv_dg (dv_lk x n p) = (decide (p < n) && dv_dg (x p)) ∧ dv_sg (dv_lk x n p) = (decide (p < n) && dv_sg (x p)) := by
  unfold dv_lk
  by_cases e : p < n
  · obtain ⟨-, h1, h2⟩ := h.2.2 p e
    obtain ⟨q1, q2, q3, q4⟩ := dv_255c h1 h2
    rw [if_pos e, decide_eq_true e, Bool.true_and, Bool.true_and, Bool.true_and]
    exact ⟨q1, q2, q4⟩
  · rw [if_neg e, decide_eq_false e, Bool.false_and, Bool.false_and, Bool.false_and]
    exact ⟨by decide, by decide, by decide⟩
theorem dv_lk_n (h : dv_TX x n s) {p : Nat} (hp : p < n) (h0 : 0 ≤ (x p).toInt) : dv_lk x n p = x p := by
  unfold dv_lk
  rw [if_pos hp, dv_255p h0 (h.2.2 p hp).2.2]
theorem dv_lk_b (h : dv_TX x n s) {p : Nat} (hp : p < n) : (decide (dv_lk x n p = nI 10) || decide (dv_lk x n p = nI 32)) = dv_bl (x p) := by
  obtain ⟨-, h1, h2⟩ := h.2.2 p hp
  have := (dv_255c h1 h2).2.2.1
  unfold dv_lk
  rw [if_pos hp]
  exact this
/-- words -/
theorem dv_109 {a : Nat} (han : a ≤ n) : ∀ (t i m : Nat) (s : db_S), dv_TX x n s → s.1 669 15 = nI a → s.1 669 16 = nI i → s.2 669 19 = (if i - a ≤ 8 then lN (dv_pk x a (i - a)) else -1) → i + t = dv_W x n a → a ≤ i → t < m → dz_T (db_f223_b109 m s) (fun z => dv_Fn s z ∧ z.1 669 14 = s.1 669 14 ∧ z.1 669 15 = nI a ∧ z.1 669 16 = nI (dv_W x n a) ∧ z.1 669 18 = nI (dv_W x n a - a) ∧ z.2 669 19 = dv_L x n a) := by
  intro t
  induction t with
  | zero =>
    intro i m s h h15 h16 h19 hi ha hm
    cases m with
    | zero => omega
    | succ m =>
      have hn := h.1
      obtain ⟨w1, w2, w3, w4⟩ := dv_W_sp (x := x) hn a
      have hi' : i = dv_W x n a := by omega
      subst hi'
      have hlt : dv_lt (dv_lk x n (dv_W x n a)) = false := by
        rw [(dv_lk_c h).1]
        by_cases e : dv_W x n a < n
        · rw [w4 e, Bool.and_false]
        · rw [decide_eq_false e, Bool.false_and]
      rw [db_f223_b109]
      simp (disch := omega) only [db_lit, eq_self, db_pI_e, db_pL_e, db_bind_some, db_bd_some, nI_add, pk_mul, nI_toInt, db_m1_t, dz_cn, Int.ofNat_le, Int.ofNat_lt, decide_true, decide_false, db_ct, db_cf, not_true_eq_false, not_false_eq_true, h16, h15, dv_224 h (show dv_W x n a ≤ 901 by omega), dv_225, hlt, pk_sub ha]
      refine ⟨_, rfl, dv_Fn_u dv_Fn_r (by omega), db_uI_j (by decide), ?_, ?_, db_uI_1, ?_⟩
      · rw [db_uI_j (by decide)]; exact h15
      · rw [db_uI_j (by decide)]; exact h16
      · rw [db_uI_2]; exact h19
  | succ t IH =>
    intro i m s h h15 h16 h19 hi ha hm
    cases m with
    | zero => omega
    | succ m =>
      have hn := h.1
      obtain ⟨w1, w2, w3, w4⟩ := dv_W_sp (x := x) hn a
      obtain ⟨h1, h2⟩ := w3 i ha (by omega)
      obtain ⟨c, c1, c2, hc⟩ := dv_lt_n h2
      have hlk : dv_lk x n i = nI c := by rw [dv_lk_n h h1 (by rw [hc, nI_toInt (by omega)]; omega), hc]
      have hlt : dv_lt (nI c) = true := by rw [← hc]; exact h2
      rw [db_f223_b109]
      unfold db_f223_b166
      have go : ∀ v : Int64, v = (if i + 1 - a ≤ 8 then lN (dv_pk x a (i + 1 - a)) else -1) → dz_T (db_f223_b109 m (db_uI (db_uL s 669 19 v) 669 16 (nI (i + 1)))) (fun z => dv_Fn s z ∧ z.1 669 14 = s.1 669 14 ∧ z.1 669 15 = nI a ∧ z.1 669 16 = nI (dv_W x n a) ∧ z.1 669 18 = nI (dv_W x n a - a) ∧ z.2 669 19 = dv_L x n a) := by
        intro v hv
        have hF : dv_Fn s (db_uI (db_uL s 669 19 v) 669 16 (nI (i + 1))) := dv_Fn_u (dv_Fn_l dv_Fn_r) (by omega)
        refine db_T_mono (IH (i + 1) m _ (dv_TX_F h hF) (by rw [db_uI_j (by decide), db_uL_2]; exact h15) db_uI_1 (by rw [db_uI_2, db_uL_1]; exact hv) (by omega) (by omega) (by omega)) fun z hz => ?_
        obtain ⟨z1, z2, z3⟩ := hz
        refine ⟨dv_Fn_t hF z1, z2.trans ?_, z3⟩
        rw [db_uI_j (by decide), db_uL_2]
      by_cases e : 8 ≤ i - a
      · simp (disch := omega) only [db_lit, eq_self, db_pI_e, db_pL_e, db_bind_some, db_bd_some, nI_add, pk_mul, nI_toInt, db_m1_t, dz_cn, Int.ofNat_le, Int.ofNat_lt, decide_true, decide_false, db_ct, db_cf, not_true_eq_false, not_false_eq_true, h16, h15, dv_224 h (show i ≤ 901 by omega), hlk, dv_225, hlt, pk_sub ha, e]
        have e16 : (db_uL s 669 19 (-1)).1 669 16 = nI i := by rw [db_uL_2]; exact h16
        simp (disch := omega) only [db_lit, eq_self, db_pI_e, db_pL_e, db_bind_some, db_bd_some, nI_add, pk_mul, nI_toInt, db_m1_t, dz_cn, Int.ofNat_le, Int.ofNat_lt, decide_true, decide_false, db_ct, db_cf, not_true_eq_false, not_false_eq_true, e16]
        exact go (-1) (by rw [if_neg (by omega)])
      · rw [if_pos (by omega)] at h19
        simp (disch := omega) only [db_lit, eq_self, db_pI_e, db_pL_e, db_bind_some, db_bd_some, nI_add, pk_mul, nI_toInt, db_m1_t, dz_cn, Int.ofNat_le, Int.ofNat_lt, decide_true, decide_false, db_ct, db_cf, not_true_eq_false, not_false_eq_true, h16, h15, dv_224 h (show i ≤ 901 by omega), hlk, dv_225, hlt, pk_sub ha, e, h19]
        have ev : lN (dv_pk x a (i - a)) * 32 + (nI c).toInt64 - 96 = lN (dv_pk x a (i - a) * 32 + (c - 96)) := by
          rw [nI_l (by omega), show (32 : Int64) = lN 32 from rfl, show (96 : Int64) = lN 96 from rfl, lN_mul, lN_add, lN_sub (by omega), show dv_pk x a (i - a) * 32 + c - 96 = dv_pk x a (i - a) * 32 + (c - 96) by omega]
        rw [ev]
        have e16 : (db_uL s 669 19 (lN (dv_pk x a (i - a) * 32 + (c - 96)))).1 669 16 = nI i := by rw [db_uL_2]; exact h16
        simp (disch := omega) only [db_lit, eq_self, db_pI_e, db_pL_e, db_bind_some, db_bd_some, nI_add, pk_mul, nI_toInt, db_m1_t, dz_cn, Int.ofNat_le, Int.ofNat_lt, decide_true, decide_false, db_ct, db_cf, not_true_eq_false, not_false_eq_true, e16]
        refine go _ ?_
        rw [if_pos (by omega), show i + 1 - a = (i - a) + 1 by omega, dv_pk, show a + (i - a) = i by omega, hc, nI_clamp (by omega)]
/-- numbers -/
theorem dv_210 {a : Nat} (han : a ≤ n) : ∀ (t i m : Nat) (s : db_S), dv_TX x n s → s.1 669 15 = nI a → s.1 669 16 = nI i → s.1 669 17 = nI (dv_nu x a (min 4 (i - a))) → i + t = dv_D x n a → a ≤ i → t < m → dz_T (db_f223_b210 m s) (fun z => dv_Fn s z ∧ z.1 669 14 = (if dv_D x n a - a ≤ 4 then nI 2 else nI 4) ∧ z.1 669 15 = nI a ∧ z.1 669 16 = nI (dv_D x n a) ∧ z.1 669 17 = nI (dv_nu x a (min 4 (dv_D x n a - a)))) := by
  intro t
  induction t with
  | zero =>
    intro i m s h h15 h16 h17 hi ha hm
    cases m with
    | zero => omega
    | succ m =>
      have hn := h.1
      obtain ⟨w1, w2, w3, w4⟩ := dv_D_sp (x := x) hn a
      have hi' : i = dv_D x n a := by omega
      subst hi'
      have hlt : dv_dg (dv_lk x n (dv_D x n a)) = false := by
        rw [(dv_lk_c h).2.1]
        by_cases e : dv_D x n a < n
        · rw [w4 e, Bool.and_false]
        · rw [decide_eq_false e, Bool.false_and]
      rw [db_f223_b210]
      unfold db_f223_b292
      simp (disch := omega) only [db_lit, eq_self, db_pI_e, db_pL_e, db_bind_some, db_bd_some, nI_add, pk_mul, nI_toInt, db_m1_t, dz_cn, Int.ofNat_le, Int.ofNat_lt, decide_true, decide_false, db_ct, db_cf, not_true_eq_false, not_false_eq_true, h16, h15, dv_224 h (show dv_D x n a ≤ 901 by omega), dv_226, hlt, pk_sub ha]
      by_cases e : dv_D x n a - a ≤ 4
      · simp (disch := omega) only [db_lit, eq_self, db_pI_e, db_pL_e, db_bind_some, db_bd_some, nI_add, pk_mul, nI_toInt, db_m1_t, dz_cn, Int.ofNat_le, Int.ofNat_lt, decide_true, decide_false, db_ct, db_cf, not_true_eq_false, not_false_eq_true, e, if_true]
        exact ⟨_, rfl, dv_Fn_u dv_Fn_r (by omega), db_uI_1, by rw [db_uI_j (by decide)]; exact h15, by rw [db_uI_j (by decide)]; exact h16, by rw [db_uI_j (by decide)]; exact h17⟩
      · simp (disch := omega) only [db_lit, eq_self, db_pI_e, db_pL_e, db_bind_some, db_bd_some, nI_add, pk_mul, nI_toInt, db_m1_t, dz_cn, Int.ofNat_le, Int.ofNat_lt, decide_true, decide_false, db_ct, db_cf, not_true_eq_false, not_false_eq_true, e, if_false]
        exact ⟨_, rfl, dv_Fn_u dv_Fn_r (by omega), db_uI_1, by rw [db_uI_j (by decide)]; exact h15, by rw [db_uI_j (by decide)]; exact h16, by rw [db_uI_j (by decide)]; exact h17⟩
  | succ t IH =>
    intro i m s h h15 h16 h17 hi ha hm
    cases m with
    | zero => omega
    | succ m =>
      have hn := h.1
      obtain ⟨w1, w2, w3, w4⟩ := dv_D_sp (x := x) hn a
      obtain ⟨h1, h2⟩ := w3 i ha (by omega)
      obtain ⟨c, c1, c2, hc⟩ := dv_dg_n h2
      have hlk : dv_lk x n i = nI c := by rw [dv_lk_n h h1 (by rw [hc, nI_toInt (by omega)]; omega), hc]
      have hlt : dv_dg (nI c) = true := by rw [← hc]; exact h2
      rw [db_f223_b210]
      unfold db_f223_b260
      have go : ∀ z0 : db_S, dv_Fn s z0 → z0.1 669 15 = nI a → z0.1 669 17 = nI (dv_nu x a (min 4 (i + 1 - a))) → dz_T (db_f223_b210 m (db_uI z0 669 16 (nI (i + 1)))) (fun z => dv_Fn s z ∧ z.1 669 14 = (if dv_D x n a - a ≤ 4 then nI 2 else nI 4) ∧ z.1 669 15 = nI a ∧ z.1 669 16 = nI (dv_D x n a) ∧ z.1 669 17 = nI (dv_nu x a (min 4 (dv_D x n a - a)))) := by
        intro z0 k1 k2 k3
        have hF : dv_Fn s (db_uI z0 669 16 (nI (i + 1))) := dv_Fn_u k1 (by omega)
        refine db_T_mono (IH (i + 1) m _ (dv_TX_F h hF) (by rw [db_uI_j (by decide)]; exact k2) db_uI_1 (by rw [db_uI_j (by decide)]; exact k3) (by omega) (by omega) (by omega)) fun z hz => ?_
        exact ⟨dv_Fn_t hF hz.1, hz.2⟩
      by_cases e : 4 ≤ i - a
      · simp (disch := omega) only [db_lit, eq_self, db_pI_e, db_pL_e, db_bind_some, db_bd_some, nI_add, pk_mul, nI_toInt, db_m1_t, dz_cn, Int.ofNat_le, Int.ofNat_lt, decide_true, decide_false, db_ct, db_cf, not_true_eq_false, not_false_eq_true, h16, h15, dv_224 h (show i ≤ 901 by omega), hlk, dv_226, hlt, pk_sub ha, e]
        exact go s dv_Fn_r h15 (by rw [h17, show min 4 (i + 1 - a) = min 4 (i - a) by omega])
      · have e16 : ∀ v, (db_uI s 669 17 v).1 669 16 = nI i := fun v => by rw [db_uI_j (by decide)]; exact h16
        simp (disch := omega) only [db_lit, eq_self, db_pI_e, db_pL_e, db_bind_some, db_bd_some, nI_add, pk_mul, nI_toInt, db_m1_t, dz_cn, Int.ofNat_le, Int.ofNat_lt, decide_true, decide_false, db_ct, db_cf, not_true_eq_false, not_false_eq_true, h16, h15, dv_224 h (show i ≤ 901 by omega), hlk, dv_226, hlt, pk_sub ha, e, h17, e16, pk_sub (show 48 ≤ 10 * dv_nu x a (min 4 (i - a)) + c by omega)]
        refine go _ (dv_Fn_u dv_Fn_r (by omega)) (by rw [db_uI_j (by decide)]; exact h15) ?_
        rw [db_uI_1, show min 4 (i + 1 - a) = (i - a) + 1 by omega, dv_nu, show min 4 (i - a) = i - a by omega, show a + (i - a) = i by omega, hc, nI_clamp (by omega)]
        congr 1
        omega
/-- the token at the place -/
theorem dv_b58 {a : Nat} (h : dv_TX x n s) (h15 : s.1 669 15 = nI a) (ha : a ≤ n) : dz_T (db_f223_b58 s) (fun z => dv_TR x n a z ∧ dv_Fn s z) := by
  have hn := h.1
  have b15 : (db_uI s 669 16 (nI a)).1 669 15 = nI a := by rw [db_uI_j (by decide)]; exact h15
  have b9 : (db_uI s 669 16 (nI a)).1 669 9 = nI n := by rw [db_uI_j (by decide)]; exact h.2.1
  have hF : dv_Fn s (db_uI s 669 16 (nI a)) := dv_Fn_u dv_Fn_r (by omega)
  have hX : dv_TX x n (db_uI s 669 16 (nI a)) := dv_TX_F h hF
  unfold db_f223_b58
  simp (disch := omega) only [db_lit, eq_self, db_pI_e, db_pL_e, db_bind_some, db_bd_some, nI_add, pk_mul, nI_toInt, db_m1_t, dz_cn, Int.ofNat_le, Int.ofNat_lt, decide_true, decide_false, db_ct, db_cf, not_true_eq_false, not_false_eq_true, h15, b15, b9]
  by_cases e : a < n
  · simp (disch := omega) only [db_lit, eq_self, db_pI_e, db_pL_e, db_bind_some, db_bd_some, nI_add, pk_mul, nI_toInt, db_m1_t, dz_cn, Int.ofNat_le, Int.ofNat_lt, decide_true, decide_false, db_ct, db_cf, not_true_eq_false, not_false_eq_true, e, dv_224 hX (show a ≤ 901 by omega), dv_225, dv_226]
    obtain ⟨c1, c2, c3⟩ := dv_lk_c h (p := a)
    rw [decide_eq_true e, Bool.true_and] at c1 c2 c3
    rw [c1, c2]
    unfold dv_TR dv_K dv_Q dv_V
    rw [if_neg (show ¬ n ≤ a by omega), if_neg (show ¬ n ≤ a by omega)]
    cases h1 : dv_lt (x a) with
    | true =>
      simp only [db_ct, db_cf, Bool.false_eq_true, eq_self, if_true, if_false]
      have hF2 : dv_Fn s (db_uL (db_uI (db_uI s 669 16 (nI a)) 669 14 (nI 1)) 669 19 0) := dv_Fn_l (dv_Fn_u hF (by omega))
      have w1 := (dv_W_sp (x := x) hn a).1
      have w2 := (dv_W_sp (x := x) hn a).2.1
      refine db_T_mono (dv_109 (a := a) ha (dv_W x n a - a) a db_FU _ (dv_TX_F h hF2) (by rw [db_uL_2, db_uI_j (by decide)]; exact b15) (by rw [db_uL_2, db_uI_j (by decide), db_uI_1]) (by rw [db_uL_1, Nat.sub_self, if_pos (by omega)]; rfl) (by omega) (Nat.le_refl _) (by unfold db_FU; omega)) fun z hz => ?_
      obtain ⟨z1, z2, z3, z4, z5, z6⟩ := hz
      refine ⟨⟨?_, z3, z4, fun _ => ⟨z6, z5⟩, fun h => by rcases h with h | h <;> exact absurd h (by decide)⟩, dv_Fn_t hF2 z1⟩
      rw [z2, db_uL_2, db_uI_1]
    | false =>
      simp only [db_ct, db_cf, Bool.false_eq_true, eq_self, if_true, if_false]
      cases h2 : dv_dg (x a) with
      | true =>
        simp only [db_ct, db_cf, Bool.false_eq_true, eq_self, if_true, if_false]
        have hF2 : dv_Fn s (db_uI (db_uI s 669 16 (nI a)) 669 17 (nI 0)) := dv_Fn_u hF (by omega)
        have w1 := (dv_D_sp (x := x) hn a).1
        have w2 := (dv_D_sp (x := x) hn a).2.1
        refine db_T_mono (dv_210 (a := a) ha (dv_D x n a - a) a db_FU _ (dv_TX_F h hF2) (by rw [db_uI_j (by decide)]; exact b15) (by rw [db_uI_j (by decide), db_uI_1]) (by rw [db_uI_1, Nat.sub_self]; rfl) (by omega) (Nat.le_refl _) (by unfold db_FU; omega)) fun z hz => ?_
        obtain ⟨z1, z2, z3, z4, z5⟩ := hz
        refine ⟨⟨?_, z3, z4, fun h => ?_, fun _ => z5⟩, dv_Fn_t hF2 z1⟩
        · rw [z2]
          by_cases e : dv_D x n a - a ≤ 4
          · rw [if_pos e, if_pos e]
          · rw [if_neg e, if_neg e]
        · exfalso
          by_cases e : dv_D x n a - a ≤ 4
          · rw [if_pos e] at h; omega
          · rw [if_neg e] at h; omega
      | false =>
        simp only [db_ct, db_cf, Bool.false_eq_true, eq_self, if_true, if_false]
        have b15' : (db_uI s 669 16 (nI a)).1 669 15 + (1 : Int32) = nI (a + 1) := by rw [b15]; exact nI_add a 1
        unfold db_f223_b327
        simp (disch := omega) only [db_lit, eq_self, db_pI_e, db_pL_e, db_bind_some, db_bd_some, nI_add, pk_mul, nI_toInt, db_m1_t, dz_cn, Int.ofNat_le, Int.ofNat_lt, decide_true, decide_false, db_ct, db_cf, not_true_eq_false, not_false_eq_true, b15, dv_227, c3]
        cases h3 : dv_sg (x a) with
        | true =>
          simp only [db_ct, db_cf, Bool.false_eq_true, eq_self, if_true, if_false]
          refine ⟨_, rfl, ⟨db_uI_1, ?_, ?_, fun h => absurd h (by decide), fun _ => ?_⟩, dv_Fn_u (dv_Fn_u (dv_Fn_u hF (by omega)) (by omega)) (by omega)⟩
          · rw [db_uI_j (by decide), db_uI_j (by decide), db_uI_j (by decide)]; exact b15
          · rw [db_uI_j (by decide), db_uI_j (by decide), db_uI_1]
          · rw [db_uI_j (by decide), db_uI_1]
            refine dv_lk_n h e ?_
            unfold dv_sg at h3
            simp only [Bool.or_eq_true, decide_eq_true_eq] at h3
            rcases h3 with h3 | h3 | h3 | h3 <;> rw [h3] <;> decide
        | false =>
          simp only [db_ct, db_cf, Bool.false_eq_true, eq_self, if_true, if_false]
          refine ⟨_, rfl, ⟨db_uI_1, ?_, ?_, fun h => absurd h (by decide), fun h => absurd h (by decide)⟩, dv_Fn_u (dv_Fn_u (dv_Fn_u hF (by omega)) (by omega)) (by omega)⟩
          · rw [db_uI_j (by decide), db_uI_j (by decide), db_uI_j (by decide)]; exact b15
          · rw [db_uI_j (by decide), db_uI_j (by decide), db_uI_1]
  · simp (disch := omega) only [db_lit, eq_self, db_pI_e, db_pL_e, db_bind_some, db_bd_some, nI_add, pk_mul, nI_toInt, db_m1_t, dz_cn, Int.ofNat_le, Int.ofNat_lt, decide_true, decide_false, db_ct, db_cf, not_true_eq_false, not_false_eq_true, e]
    have hK : dv_K x n a = 0 := dv_K0.mpr (by omega)
    unfold dv_TR dv_Q
    rw [hK, if_pos (by omega)]
    refine ⟨_, rfl, ⟨db_uI_1, ?_, ?_, fun h => absurd h (by decide), fun h => absurd h (by decide)⟩, dv_Fn_u hF (by omega)⟩
    · rw [db_uI_j (by decide)]; exact b15
    · rw [db_uI_j (by decide), db_uI_1]
theorem dv_8 {p : Nat} (hp : p ≤ n) : ∀ (t i m : Nat) (s : db_S), dv_TX x n s → s.1 669 15 = nI i → i + t = dv_A x n p → p ≤ i → t < m → dz_T (db_f223_b8 m s) (fun z => dv_TR x n (dv_A x n p) z ∧ dv_Fn s z) := by
  intro t
  induction t with
  | zero =>
    intro i m s h h15 hi ha hm
    cases m with
    | zero => omega
    | succ m =>
      have hn := h.1
      obtain ⟨w1, w2, w3, w4⟩ := dv_A_sp (x := x) hn p
      have hi' : i = dv_A x n p := by omega
      subst hi'
      rw [db_f223_b8]
      by_cases e : n ≤ dv_A x n p
      · simp (disch := omega) only [db_lit, eq_self, db_pI_e, db_pL_e, db_bind_some, db_bd_some, nI_add, pk_mul, nI_toInt, db_m1_t, dz_cn, Int.ofNat_le, Int.ofNat_lt, decide_true, decide_false, db_ct, db_cf, not_true_eq_false, not_false_eq_true, h15, h.2.1, e]
        exact dv_b58 h h15 (by omega)
      · have hb := dv_lk_b h (p := dv_A x n p) (by omega)
        rw [w4 (by omega), Bool.or_eq_false_iff, decide_eq_false_iff_not, decide_eq_false_iff_not] at hb
        simp (disch := omega) only [db_lit, eq_self, db_pI_e, db_pL_e, db_bind_some, db_bd_some, nI_add, pk_mul, nI_toInt, db_m1_t, dz_cn, Int.ofNat_le, Int.ofNat_lt, decide_true, decide_false, db_ct, db_cf, not_true_eq_false, not_false_eq_true, h15, h.2.1, e, dv_224 h (show dv_A x n p ≤ 901 by omega), hb.1, hb.2]
        exact dv_b58 h h15 (by omega)
  | succ t IH =>
    intro i m s h h15 hi ha hm
    cases m with
    | zero => omega
    | succ m =>
      have hn := h.1
      obtain ⟨w1, w2, w3, w4⟩ := dv_A_sp (x := x) hn p
      obtain ⟨h1, h2⟩ := w3 i ha (by omega)
      have hb := dv_lk_b h (p := i) h1
      rw [h2, Bool.or_eq_true, decide_eq_true_eq, decide_eq_true_eq] at hb
      have hF : dv_Fn s (db_uI s 669 15 (nI (i + 1))) := dv_Fn_u dv_Fn_r (by omega)
      have go : dz_T (db_f223_b8 m (db_uI s 669 15 (nI (i + 1)))) (fun z => dv_TR x n (dv_A x n p) z ∧ dv_Fn s z) :=
        db_T_mono (IH (i + 1) m _ (dv_TX_F h hF) db_uI_1 (by omega) (by omega) (by omega)) fun z hz => ⟨hz.1, dv_Fn_t hF hz.2⟩
      rw [db_f223_b8]
      unfold db_f223_b45
      rcases hb with hb | hb
      · simp (disch := omega) only [db_lit, eq_self, db_pI_e, db_pL_e, db_bind_some, db_bd_some, nI_add, pk_mul, nI_toInt, db_m1_t, dz_cn, Int.ofNat_le, Int.ofNat_lt, decide_true, decide_false, db_ct, db_cf, not_true_eq_false, not_false_eq_true, h15, h.2.1, (show ¬ n ≤ i by omega), dv_224 h (show i ≤ 901 by omega), hb]
        exact go
      · have h10 : ¬ nI 32 = nI 10 := by decide
        simp (disch := omega) only [db_lit, eq_self, db_pI_e, db_pL_e, db_bind_some, db_bd_some, nI_add, pk_mul, nI_toInt, db_m1_t, dz_cn, Int.ofNat_le, Int.ofNat_lt, decide_true, decide_false, db_ct, db_cf, not_true_eq_false, not_false_eq_true, h15, h.2.1, (show ¬ n ≤ i by omega), dv_224 h (show i ≤ 901 by omega), hb, h10]
        exact go
/-- the next token behind place p -/
theorem dv_223 {p : Nat} (h : dv_TX x n s) (h16 : s.1 669 16 = nI p) (hp : p ≤ n) : dz_T (db_f223 s) (fun z => dv_TR x n (dv_A x n p) z ∧ dv_Fn s z) := by
  have hn := h.1
  obtain ⟨w1, w2, w3, w4⟩ := dv_A_sp (x := x) hn p
  have hF : dv_Fn s (db_uI s 669 15 (nI p)) := dv_Fn_u dv_Fn_r (by omega)
  unfold db_f223
  simp (disch := omega) only [db_lit, eq_self, db_pI_e, db_pL_e, db_bind_some, db_bd_some, nI_add, pk_mul, nI_toInt, db_m1_t, dz_cn, Int.ofNat_le, Int.ofNat_lt, decide_true, decide_false, db_ct, db_cf, not_true_eq_false, not_false_eq_true, h16]
  exact db_T_mono (dv_8 hp (dv_A x n p - p) p db_FU _ (dv_TX_F h hF) db_uI_1 (by omega) (Nat.le_refl _) (by unfold db_FU; omega)) fun z hz => ⟨hz.1, dv_Fn_t hF hz.2⟩
end DVNX
