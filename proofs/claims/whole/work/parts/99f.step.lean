/-! A STEP OF THE NIGHTS: its head -/
/-- both at the i-th token, d blocks open, s steps, z rows -/
def dv_NS (x : Nat → Int32) (n d i s z : Nat) (a b : db_S) : Prop := dv_CT x n i a ∧ dv_RT x n i b ∧ b.1 669 12 = nI 0 ∧ a.1 207 4 = nI d ∧ a.1 208 1 = nI s ∧ b.1 669 24 = nI s ∧ a.1 208 2 = nI z ∧ s ≤ 30 ∧ z + d ≤ 2 * s ∧ d ≤ 3
/-- the class behind a step's word -/
def dv_hA (blk : Bool) (d i s z k : Nat) (a : db_S) : db_S := db_uI (db_uI (db_uI (db_uI (if blk = true then db_uI (db_uI a 270 d (nI z)) 207 4 (nI (d + 1)) else a) 208 1 (nI (s + 1))) 13 9 (nI (i + 1))) (210 + z) 0 (nI (18 + k))) 208 2 (nI (z + 1))
def dv_bl4 (k : Nat) : Bool := decide (k = 4) || decide (k = 5)
section DVHD
variable {a b a1 b1 z' : db_S} {x : Nat → Int32} {n d i s z k : Nat} {v u : Int32}
theorem dv_g4 {β : Type} {t : Nat → Option β} {y : Nat} (h : 4 ≤ y) : db_g4 y t = t y := by
  unfold db_g4
  rw [show Nat.ble 4 y = true from Nat.ble_eq_true_of_le h]
  rfl
theorem dv_92 {w : Nat} (hz : z < 60) (h2 : a.1 208 2 = nI z) : db_f92 a v = some (210 + z, db_uI (db_uI a (210 + z) 0 v) 208 2 (nI (z + 1))) := by
  have e : (db_uI a (210 + z) 0 v).1 208 2 = nI z := by rw [db_uI_n (by omega)]; exact h2
  unfold db_f92
  rw [h2]
  simp (disch := omega) only [db_lit, eq_self, db_pI_e, db_pL_e, db_bind_some, db_bd_some, nI_add, pk_mul, nI_toInt, db_m1_t, dz_cn, Int.ofNat_le, Int.ofNat_lt, decide_true, decide_false, db_ct, db_cf, not_true_eq_false, not_false_eq_true, db_87e, db_37e, db_31e, db_28e, db_281e, db_211e, db_27, db_269w, db_litL, pk_lT, db_iL, db_p0_e, db_p0_n, db_p0_j, db_sub1, nI_eq, if_true, if_false, Bool.false_eq_true, Nat.one_ne_zero, db_q_209, (dv_rr2 hz (show 0 < 6 by omega)).1, e]
theorem dv_131 (hC : dv_CT x n i a) (hk : ¬ dv_kd x n i = 0) (h1 : a.1 208 1 = nI s) (h2 : a.1 208 2 = nI z) (hz : z < 60) : db_f90_b131 a v = db_bd (db_f93 (db_uI (db_uI (db_uI (db_uI a 208 1 (nI (s + 1))) 13 9 (nI (i + 1))) (210 + z) 0 v) 208 2 (nI (z + 1))) v (210 + z)) fun q7 s8 => (some (q7, s8)) := by
  have hC1 : dv_CT x n i (db_uI a 208 1 (nI (s + 1))) := dv_CT_u hC (by omega)
  have e2 : (db_uI (db_uI a 208 1 (nI (s + 1))) 13 9 (nI (i + 1))).1 208 2 = nI z := by rw [db_uI_n (by decide), db_uI_j (by decide)]; exact h2
  unfold db_f90_b131
  simp (disch := omega) only [db_lit, eq_self, db_pI_e, db_pL_e, db_bind_some, db_bd_some, nI_add, pk_mul, nI_toInt, db_m1_t, dz_cn, Int.ofNat_le, Int.ofNat_lt, decide_true, decide_false, db_ct, db_cf, not_true_eq_false, not_false_eq_true, db_87e, db_37e, db_31e, db_28e, db_281e, db_211e, db_27, db_269w, db_litL, pk_lT, db_iL, db_p0_e, db_p0_n, db_p0_j, db_sub1, nI_eq, if_true, if_false, Bool.false_eq_true, Nat.one_ne_zero, h1, dv_60 hC1 hk, dv_92 (w := 0) hz e2, dv_g4 (show 4 ≤ 210 + z by omega)]
theorem dv_90h (hN : dv_NS x n d i s z a b) (hk : k ≤ 6) (hw : dv_w x n i = nI (18 + k)) (hs : s < 30) (hd : dv_bl4 k = true → d < 3) : db_f90 a = db_bd (db_f93 (dv_hA (dv_bl4 k) d i s z k a) (nI (18 + k)) (210 + z)) fun q7 s8 => (some (q7, s8)) := by
  obtain ⟨hC, hR, h0, n1, n2, n3, n4, n5, n6, n7⟩ := hN
  have hkd := dv_w_kd (show 18 + k < 28 by omega) hw
  have h57 := dv_57 hC
  rw [hw] at h57
  have hwi : db_wi (nI (18 + k)) ((18 : Nat) : Int) ((24 : Nat) : Int) = true := by rw [dv_wi_n (by omega), decide_eq_true (by omega), decide_eq_true (by omega)]; rfl
  have h131 := dv_131 (v := nI (18 + k)) hC (show ¬ dv_kd x n i = 0 by omega) n2 n4 (by omega)
  have hopen : d < 3 → dv_CT x n i (db_uI (db_uI a 270 d (nI z)) 207 4 (nI (d + 1))) := fun _ => dv_CT_u (dv_CT_u hC (by omega)) (by omega)
  have o1 : (db_uI (db_uI a 270 d (nI z)) 207 4 (nI (d + 1))).1 208 1 = nI s := by rw [db_uI_n (by decide), db_uI_n (by decide)]; exact n2
  have o2 : (db_uI (db_uI a 270 d (nI z)) 207 4 (nI (d + 1))).1 208 2 = nI z := by rw [db_uI_n (by decide), db_uI_n (by decide)]; exact n4
  have o3 : (db_uI a 270 d (nI z)).1 207 4 = nI d := by rw [db_uI_n (by decide)]; exact n1
  unfold db_f90 db_f90_b73 db_f90_b78 db_f90_b101 dv_hA
  by_cases hb : dv_bl4 k = true
  · have hd3 := hd hb
    have h131b := dv_131 (v := nI (18 + k)) (hopen hd3) (show ¬ dv_kd x n i = 0 by omega) o1 o2 (by omega)
    rw [if_pos hb]
    have hk45 : k = 4 ∨ k = 5 := by
      unfold dv_bl4 at hb
      rw [Bool.or_eq_true, decide_eq_true_eq, decide_eq_true_eq] at hb
      exact hb
    rcases hk45 with rfl | rfl
    · simp (disch := omega) only [db_lit, eq_self, db_pI_e, db_pL_e, db_bind_some, db_bd_some, nI_add, pk_mul, nI_toInt, db_m1_t, dz_cn, Int.ofNat_le, Int.ofNat_lt, decide_true, decide_false, db_ct, db_cf, not_true_eq_false, not_false_eq_true, db_87e, db_37e, db_31e, db_28e, db_281e, db_211e, db_27, db_269w, db_litL, pk_lT, db_iL, db_p0_e, db_p0_n, db_p0_j, db_sub1, nI_eq, if_true, if_false, Bool.false_eq_true, Nat.one_ne_zero, h57, hwi, (show ¬ 18 + 4 = 25 by omega), n2, hs, n1, hd3, db_h_270, n4, o3]
      exact h131b
    · simp (disch := omega) only [db_lit, eq_self, db_pI_e, db_pL_e, db_bind_some, db_bd_some, nI_add, pk_mul, nI_toInt, db_m1_t, dz_cn, Int.ofNat_le, Int.ofNat_lt, decide_true, decide_false, db_ct, db_cf, not_true_eq_false, not_false_eq_true, db_87e, db_37e, db_31e, db_28e, db_281e, db_211e, db_27, db_269w, db_litL, pk_lT, db_iL, db_p0_e, db_p0_n, db_p0_j, db_sub1, nI_eq, if_true, if_false, Bool.false_eq_true, Nat.one_ne_zero, h57, hwi, (show ¬ 18 + 5 = 25 by omega), (show ¬ 18 + 5 = 22 by omega), n2, hs, n1, hd3, db_h_270, n4, o3]
      exact h131b
  · rw [if_neg hb]
    have h4 : k ≠ 4 := fun h => hb (by subst h; rfl)
    have h5 : k ≠ 5 := fun h => hb (by subst h; rfl)
    simp (disch := omega) only [db_lit, eq_self, db_pI_e, db_pL_e, db_bind_some, db_bd_some, nI_add, pk_mul, nI_toInt, db_m1_t, dz_cn, Int.ofNat_le, Int.ofNat_lt, decide_true, decide_false, db_ct, db_cf, not_true_eq_false, not_false_eq_true, db_87e, db_37e, db_31e, db_28e, db_281e, db_211e, db_27, db_269w, db_litL, pk_lT, db_iL, db_p0_e, db_p0_n, db_p0_j, db_sub1, nI_eq, if_true, if_false, Bool.false_eq_true, Nat.one_ne_zero, h57, hwi, (show ¬ 18 + k = 25 by omega), (show ¬ 18 + k = 22 by omega), (show ¬ 18 + k = 23 by omega), n2, hs]
    exact h131
/-- what the class has behind the word -/
theorem dv_hA_f {blk : Bool} (hN : dv_NS x n d i s z a b) (hkd : ¬ dv_kd x n i = 0) (hs : s < 30) (hd : blk = true → d < 3) : dv_CT x n (i + 1) (dv_hA blk d i s z k a) ∧ (dv_hA blk d i s z k a).1 207 4 = nI (if blk = true then d + 1 else d) ∧ (dv_hA blk d i s z k a).1 208 1 = nI (s + 1) ∧ (dv_hA blk d i s z k a).1 208 2 = nI (z + 1) ∧ (dv_hA blk d i s z k a).1 (210 + z) 0 = nI (18 + k) ∧ (blk = true → (dv_hA blk d i s z k a).1 270 d = nI z) ∧ (∀ r, r ≠ z → (dv_hA blk d i s z k a).1 (210 + r) = a.1 (210 + r) ∨ 60 ≤ r) ∧ (∀ j, j < d → (dv_hA blk d i s z k a).1 270 j = a.1 270 j) ∧ dv_Fa a (dv_hA blk d i s z k a) := by
  obtain ⟨hC, hR, h0, n1, n2, n3, n4, n5, n6, n7⟩ := hN
  have hz : z < 60 := by omega
  have hlt := dv_kd_lt hC hkd
  have hFa : dv_Fa a (dv_hA blk d i s z k a) := by
    unfold dv_hA
    cases blk with
    | true => exact dv_Fa_u (dv_Fa_u (dv_Fa_u (dv_Fa_u (dv_Fa_u (dv_Fa_u dv_Fa_r (.inl (by omega))) (.inl (by omega))) (.inl (by omega))) (.inr (by omega))) (.inl (by omega))) (.inl (by omega))
    | false => exact dv_Fa_u (dv_Fa_u (dv_Fa_u (dv_Fa_u dv_Fa_r (.inl (by omega))) (.inr (by omega))) (.inl (by omega))) (.inl (by omega))
  have hCT : dv_CT x n (i + 1) (dv_hA blk d i s z k a) := by
    unfold dv_hA
    refine dv_CT_u (dv_CT_u (dv_CT_s (dv_CT_u ?_ (by omega)) hkd) (by omega)) (by omega)
    cases blk with
    | true => exact dv_CT_u (dv_CT_u hC (by omega)) (by omega)
    | false => exact hC
  refine ⟨hCT, ?_, ?_, ?_, ?_, fun h => ?_, fun r hr => ?_, fun j hj => ?_, hFa⟩
  · unfold dv_hA
    rw [db_uI_n (by decide), db_uI_n (by omega), db_uI_n (by decide), db_uI_n (by decide)]
    cases blk with
    | true => rw [if_pos rfl, if_pos rfl, db_uI_1]
    | false => rw [if_neg (by decide), if_neg (by decide)]; exact n1
  · unfold dv_hA
    rw [db_uI_j (by decide), db_uI_n (by omega), db_uI_n (by decide), db_uI_1]
  · unfold dv_hA
    rw [db_uI_1]
  · unfold dv_hA
    rw [db_uI_n (by omega), db_uI_1]
  · unfold dv_hA
    rw [db_uI_n (by decide), db_uI_n (by omega), db_uI_n (by decide), db_uI_n (by decide), if_pos h, db_uI_n (by decide), db_uI_1]
  · by_cases h60 : 60 ≤ r
    · exact .inr h60
    · left
      unfold dv_hA
      rw [db_uI_n (by omega), db_uI_n (by omega), db_uI_n (by omega), db_uI_n (by omega)]
      cases blk with
      | true => rw [if_pos rfl, db_uI_n (by omega), db_uI_n (by omega)]
      | false => rw [if_neg (by decide)]
  · unfold dv_hA
    rw [db_uI_n (by decide), db_uI_n (by omega), db_uI_n (by decide), db_uI_n (by decide)]
    cases blk with
    | true => rw [if_pos rfl, db_uI_n (by decide), db_uI_j (by omega)]
    | false => rw [if_neg (by decide)]
/-- the reference's head -/
theorem dv_stk {k : Nat} (hk : k ≤ 6) : dv_st (nI (18 + k)) = nI k := by
  rcases (by omega : k = 0 ∨ k = 1 ∨ k = 2 ∨ k = 3 ∨ k = 4 ∨ k = 5 ∨ k = 6) with rfl | rfl | rfl | rfl | rfl | rfl | rfl <;> rfl
theorem dv_277e {r277 : db_S → Int32 → Option db_S} (h : dv_RT x n i b) (hk : k ≤ 6) (hw : dv_w x n i = nI (18 + k)) (hd : d ≤ 3) : db_f277_e r277 b (nI d) = db_f277_b29 r277 b (nI d) (nI k) (if dv_bl4 k = true then nI 1 else nI 0) := by
  have hx := dv_x254 h
  rw [hw, dv_stk hk] at hx
  unfold db_f277_e db_f277_b15 db_f277_b20
  by_cases h4 : k = 4
  · subst h4
    simp (disch := omega) only [db_lit, eq_self, db_pI_e, db_pL_e, db_bind_some, db_bd_some, nI_add, pk_mul, nI_toInt, db_m1_t, dz_cn, Int.ofNat_le, Int.ofNat_lt, decide_true, decide_false, db_ct, db_cf, not_true_eq_false, not_false_eq_true, db_87e, db_37e, db_31e, db_28e, db_281e, db_211e, db_27, db_269w, db_litL, pk_lT, db_iL, db_p0_e, db_p0_n, db_p0_j, db_sub1, nI_eq, if_true, if_false, Bool.false_eq_true, Nat.one_ne_zero, hx, Nat.zero_le, (show dv_bl4 4 = true from rfl)]
  · by_cases h5 : k = 5
    · subst h5
      simp (disch := omega) only [db_lit, eq_self, db_pI_e, db_pL_e, db_bind_some, db_bd_some, nI_add, pk_mul, nI_toInt, db_m1_t, dz_cn, Int.ofNat_le, Int.ofNat_lt, decide_true, decide_false, db_ct, db_cf, not_true_eq_false, not_false_eq_true, db_87e, db_37e, db_31e, db_28e, db_281e, db_211e, db_27, db_269w, db_litL, pk_lT, db_iL, db_p0_e, db_p0_n, db_p0_j, db_sub1, nI_eq, if_true, if_false, Bool.false_eq_true, Nat.one_ne_zero, hx, Nat.zero_le, (show ¬ 5 = 4 by omega), (show dv_bl4 5 = true from rfl)]
    · have hb : dv_bl4 k = false := by
        unfold dv_bl4
        rw [decide_eq_false h4, decide_eq_false h5]
        rfl
      simp (disch := omega) only [db_lit, eq_self, db_pI_e, db_pL_e, db_bind_some, db_bd_some, nI_add, pk_mul, nI_toInt, db_m1_t, dz_cn, Int.ofNat_le, Int.ofNat_lt, decide_true, decide_false, db_ct, db_cf, not_true_eq_false, not_false_eq_true, db_87e, db_37e, db_31e, db_28e, db_281e, db_211e, db_27, db_269w, db_litL, pk_lT, db_iL, db_p0_e, db_p0_n, db_p0_j, db_sub1, nI_eq, if_true, if_false, Bool.false_eq_true, Nat.one_ne_zero, hx, Nat.zero_le, h4, h5, hb]
theorem dv_277h {r277 : db_S → Int32 → Option db_S} (hN : dv_NS x n d i s z a b) (hk : k ≤ 6) (hw : dv_w x n i = nI (18 + k)) (hs : s < 30) (hd : dv_bl4 k = true → d < 3) : ∃ B, db_f277_e r277 b (nI d) = ((db_f278 B (nI (2121 + 9 * s))).bind fun s6 => ((db_f273 s6 (59 : Int32)).bind fun q7 => ((db_f264 s6 (db_i q7)).bind fun s10 => (db_f277_b140 r277 db_FU s10 (nI d) (if dv_bl4 k = true then nI 1 else nI 0) (nI (2121 + 9 * s)))))) ∧ dv_RT x n (i + 1) B ∧ B.1 669 12 = nI 0 ∧ B.1 669 24 = nI (s + 1) ∧ B.1 674 (2121 + 9 * s) = nI k ∧ (∀ j, j ≠ 2121 + 9 * s → B.1 674 j = b.1 674 j) ∧ dv_Fb b B := by
  obtain ⟨hC, hR, h0, n1, n2, n3, n4, n5, n6, n7⟩ := hN
  have hR1 : dv_RT x n i (db_uI b 669 24 (nI (s + 1))) := dv_RT_F hR (by rw [db_uI_j (by decide)]) (db_uI_n (by decide)) (fun j j1 j2 => by rw [db_uI_j (by omega)]) rfl
  obtain ⟨b1, eb1, r1, f1⟩ := dv_nx hR1
  refine ⟨db_uI b1 674 (2121 + 9 * s) (nI k), ?_, dv_RT_4 r1, ?_, ?_, db_uI_1, fun j hj => ?_, dv_Fb_4 (dv_Fb_t (dv_Fb_9 dv_Fb_r (.inr rfl)) (dv_Fb_n f1)) (by omega)⟩
  · rw [dv_277e hR hk hw n7]
    have hs30 : ¬ nI s = nI 30 := by rw [nI_eq (by omega) (by omega)]; omega
    have e81 : db_f277_b81 r277 b (nI d) (nI k) (if dv_bl4 k = true then nI 1 else nI 0) = ((db_f278 (db_uI b1 674 (2121 + 9 * s) (nI k)) (nI (2121 + 9 * s))).bind fun s6 => ((db_f273 s6 (59 : Int32)).bind fun q7 => ((db_f264 s6 (db_i q7)).bind fun s10 => (db_f277_b140 r277 db_FU s10 (nI d) (if dv_bl4 k = true then nI 1 else nI 0) (nI (2121 + 9 * s)))))) := by
      unfold db_f277_b81
      simp (disch := omega) only [db_lit, eq_self, db_pI_e, db_pL_e, db_bind_some, db_bd_some, nI_add, pk_mul, nI_toInt, db_m1_t, dz_cn, Int.ofNat_le, Int.ofNat_lt, decide_true, decide_false, db_ct, db_cf, not_true_eq_false, not_false_eq_true, db_87e, db_37e, db_31e, db_28e, db_281e, db_211e, db_27, db_269w, db_litL, pk_lT, db_iL, db_p0_e, db_p0_n, db_p0_j, db_sub1, nI_eq, if_true, if_false, Bool.false_eq_true, Nat.one_ne_zero, h0, n3, Nat.le_refl, eb1, db_h_674]
    rw [← e81]
    unfold db_f277_b29 db_f277_b55
    by_cases hb : dv_bl4 k = true
    · have hd3 := hd hb
      have hdn : ¬ nI d = nI 3 := by rw [nI_eq (by omega) (by omega)]; omega
      rw [if_pos hb]
      simp (disch := omega) only [db_lit, eq_self, db_pI_e, db_pL_e, db_bind_some, db_bd_some, nI_add, pk_mul, nI_toInt, db_m1_t, dz_cn, Int.ofNat_le, Int.ofNat_lt, decide_true, decide_false, db_ct, db_cf, not_true_eq_false, not_false_eq_true, db_87e, db_37e, db_31e, db_28e, db_281e, db_211e, db_27, db_269w, db_litL, pk_lT, db_iL, db_p0_e, db_p0_n, db_p0_j, db_sub1, nI_eq, if_true, if_false, Bool.false_eq_true, Nat.one_ne_zero, h0, n3, hs30, hdn]
    · rw [if_neg hb]
      simp (disch := omega) only [db_lit, eq_self, db_pI_e, db_pL_e, db_bind_some, db_bd_some, nI_add, pk_mul, nI_toInt, db_m1_t, dz_cn, Int.ofNat_le, Int.ofNat_lt, decide_true, decide_false, db_ct, db_cf, not_true_eq_false, not_false_eq_true, db_87e, db_37e, db_31e, db_28e, db_281e, db_211e, db_27, db_269w, db_litL, pk_lT, db_iL, db_p0_e, db_p0_n, db_p0_j, db_sub1, nI_eq, if_true, if_false, Bool.false_eq_true, Nat.one_ne_zero, h0, n3, hs30]
  · rw [db_uI_n (by decide), f1.2.1 12 (by omega), db_uI_j (by decide)]; exact h0
  · rw [db_uI_n (by decide), f1.2.1 24 (by omega), db_uI_1]
  · rw [db_uI_j hj, (f1.1 674 (by decide)).1, db_uI_n (by decide)]
/-- no more steps; no deeper -/
theorem dv_81b {r277 : db_S → Int32 → Option db_S} {v1 v2 v3 : Int32} (h : dv_Bad b) : db_f277_b81 r277 b v1 v2 v3 = some b := by
  obtain ⟨f, f1, f2, f3⟩ := h
  unfold db_f277_b81
  simp (disch := omega) only [db_lit, eq_self, db_pI_e, db_pL_e, db_bind_some, db_bd_some, nI_add, pk_mul, nI_toInt, db_m1_t, dz_cn, Int.ofNat_le, Int.ofNat_lt, decide_true, decide_false, db_ct, db_cf, not_true_eq_false, not_false_eq_true, db_87e, db_37e, db_31e, db_28e, db_281e, db_211e, db_27, db_269w, db_litL, pk_lT, db_iL, db_p0_e, db_p0_n, db_p0_j, db_sub1, nI_eq, if_true, if_false, Bool.false_eq_true, Nat.one_ne_zero, f3, (show ¬ f ≤ 0 by omega)]
theorem dv_55b {r277 : db_S → Int32 → Option db_S} {v1 v2 v3 : Int32} (h : dv_Bad b) : db_f277_b55 r277 b v1 v2 v3 = some b := by
  obtain ⟨f, f1, f2, f3⟩ := id h
  unfold db_f277_b55
  simp (disch := omega) only [db_lit, eq_self, db_pI_e, db_pL_e, db_bind_some, db_bd_some, nI_add, pk_mul, nI_toInt, db_m1_t, dz_cn, Int.ofNat_le, Int.ofNat_lt, decide_true, decide_false, db_ct, db_cf, not_true_eq_false, not_false_eq_true, db_87e, db_37e, db_31e, db_28e, db_281e, db_211e, db_27, db_269w, db_litL, pk_lT, db_iL, db_p0_e, db_p0_n, db_p0_j, db_sub1, nI_eq, if_true, if_false, Bool.false_eq_true, Nat.one_ne_zero, f3, (show ¬ f = 0 by omega), dv_81b h]
theorem dv_29b {r277 : db_S → Int32 → Option db_S} {v1 v2 v3 : Int32} (h : dv_Bad b) : db_f277_b29 r277 b v1 v2 v3 = some b := by
  obtain ⟨f, f1, f2, f3⟩ := id h
  unfold db_f277_b29
  simp (disch := omega) only [db_lit, eq_self, db_pI_e, db_pL_e, db_bind_some, db_bd_some, nI_add, pk_mul, nI_toInt, db_m1_t, dz_cn, Int.ofNat_le, Int.ofNat_lt, decide_true, decide_false, db_ct, db_cf, not_true_eq_false, not_false_eq_true, db_87e, db_37e, db_31e, db_28e, db_281e, db_211e, db_27, db_269w, db_litL, pk_lT, db_iL, db_p0_e, db_p0_n, db_p0_j, db_sub1, nI_eq, if_true, if_false, Bool.false_eq_true, Nat.one_ne_zero, f3, (show ¬ f = 0 by omega), dv_55b h]
theorem dv_90o (hN : dv_NS x n d i s z a b) (hk : k ≤ 6) (hw : dv_w x n i = nI (18 + k)) (hs : ¬ s < 30) : db_f90 a = some (false, dv_fa x n i 6 a) ∧ ∀ r277, db_f277_e r277 b (nI d) = some (dv_fb x n i 6 b) := by
  obtain ⟨hC, hR, h0, n1, n2, n3, n4, n5, n6, n7⟩ := hN
  have hkd := dv_w_kd (show 18 + k < 28 by omega) hw
  have h57 := dv_57 hC
  rw [hw] at h57
  have hwi : db_wi (nI (18 + k)) ((18 : Nat) : Int) ((24 : Nat) : Int) = true := by rw [dv_wi_n (by omega), decide_eq_true (by omega), decide_eq_true (by omega)]; rfl
  have hs30 : s = 30 := by omega
  subst hs30
  refine ⟨?_, fun r277 => ?_⟩
  · unfold db_f90
    simp (disch := omega) only [db_lit, eq_self, db_pI_e, db_pL_e, db_bind_some, db_bd_some, nI_add, pk_mul, nI_toInt, db_m1_t, dz_cn, Int.ofNat_le, Int.ofNat_lt, decide_true, decide_false, db_ct, db_cf, not_true_eq_false, not_false_eq_true, db_87e, db_37e, db_31e, db_28e, db_281e, db_211e, db_27, db_269w, db_litL, pk_lT, db_iL, db_p0_e, db_p0_n, db_p0_j, db_sub1, nI_eq, if_true, if_false, Bool.false_eq_true, Nat.one_ne_zero, h57, hwi, (show ¬ 18 + k = 25 by omega), n2, Nat.lt_irrefl, dv_58 hC 6]
  · rw [dv_277e hR hk hw n7]
    have e6 := dv_234i hR h0 (f := 6) (by omega)
    unfold db_f277_b29
    simp (disch := omega) only [db_lit, eq_self, db_pI_e, db_pL_e, db_bind_some, db_bd_some, nI_add, pk_mul, nI_toInt, db_m1_t, dz_cn, Int.ofNat_le, Int.ofNat_lt, decide_true, decide_false, db_ct, db_cf, not_true_eq_false, not_false_eq_true, db_87e, db_37e, db_31e, db_28e, db_281e, db_211e, db_27, db_269w, db_litL, pk_lT, db_iL, db_p0_e, db_p0_n, db_p0_j, db_sub1, nI_eq, if_true, if_false, Bool.false_eq_true, Nat.one_ne_zero, h0, n3, e6, dv_55b (dv_fb_B (x := x) (n := n) (i := i) (b := b) (f := 6) (by omega) (by omega))]
theorem dv_90d (hN : dv_NS x n d i s z a b) (hk : k ≤ 6) (hw : dv_w x n i = nI (18 + k)) (hs : s < 30) (hb : dv_bl4 k = true) (hd : ¬ d < 3) : db_f90 a = some (false, dv_fa x n i 7 a) ∧ ∀ r277, db_f277_e r277 b (nI d) = some (dv_fb x n i 7 b) := by
  obtain ⟨hC, hR, h0, n1, n2, n3, n4, n5, n6, n7⟩ := hN
  have hkd := dv_w_kd (show 18 + k < 28 by omega) hw
  have h57 := dv_57 hC
  rw [hw] at h57
  have hwi : db_wi (nI (18 + k)) ((18 : Nat) : Int) ((24 : Nat) : Int) = true := by rw [dv_wi_n (by omega), decide_eq_true (by omega), decide_eq_true (by omega)]; rfl
  have hd3 : d = 3 := by omega
  subst hd3
  have hk45 : k = 4 ∨ k = 5 := by
    unfold dv_bl4 at hb
    rw [Bool.or_eq_true, decide_eq_true_eq, decide_eq_true_eq] at hb
    exact hb
  refine ⟨?_, fun r277 => ?_⟩
  · unfold db_f90 db_f90_b73 db_f90_b78
    rcases hk45 with rfl | rfl
    · simp (disch := omega) only [db_lit, eq_self, db_pI_e, db_pL_e, db_bind_some, db_bd_some, nI_add, pk_mul, nI_toInt, db_m1_t, dz_cn, Int.ofNat_le, Int.ofNat_lt, decide_true, decide_false, db_ct, db_cf, not_true_eq_false, not_false_eq_true, db_87e, db_37e, db_31e, db_28e, db_281e, db_211e, db_27, db_269w, db_litL, pk_lT, db_iL, db_p0_e, db_p0_n, db_p0_j, db_sub1, nI_eq, if_true, if_false, Bool.false_eq_true, Nat.one_ne_zero, h57, hwi, (show ¬ 18 + 4 = 25 by omega), n2, hs, n1, Nat.lt_irrefl, dv_58 hC 7]
    · simp (disch := omega) only [db_lit, eq_self, db_pI_e, db_pL_e, db_bind_some, db_bd_some, nI_add, pk_mul, nI_toInt, db_m1_t, dz_cn, Int.ofNat_le, Int.ofNat_lt, decide_true, decide_false, db_ct, db_cf, not_true_eq_false, not_false_eq_true, db_87e, db_37e, db_31e, db_28e, db_281e, db_211e, db_27, db_269w, db_litL, pk_lT, db_iL, db_p0_e, db_p0_n, db_p0_j, db_sub1, nI_eq, if_true, if_false, Bool.false_eq_true, Nat.one_ne_zero, h57, hwi, (show ¬ 18 + 5 = 25 by omega), (show ¬ 18 + 5 = 22 by omega), n2, hs, n1, Nat.lt_irrefl, dv_58 hC 7]
  · rw [dv_277e hR hk hw n7, if_pos hb]
    have e7 := dv_234i hR h0 (f := 7) (by omega)
    have hs30 : ¬ nI s = nI 30 := by rw [nI_eq (by omega) (by omega)]; omega
    unfold db_f277_b29 db_f277_b55
    simp (disch := omega) only [db_lit, eq_self, db_pI_e, db_pL_e, db_bind_some, db_bd_some, nI_add, pk_mul, nI_toInt, db_m1_t, dz_cn, Int.ofNat_le, Int.ofNat_lt, decide_true, decide_false, db_ct, db_cf, not_true_eq_false, not_false_eq_true, db_87e, db_37e, db_31e, db_28e, db_281e, db_211e, db_27, db_269w, db_litL, pk_lT, db_iL, db_p0_e, db_p0_n, db_p0_j, db_sub1, nI_eq, if_true, if_false, Bool.false_eq_true, Nat.one_ne_zero, h0, n3, hs30, e7, dv_81b (dv_fb_B (x := x) (n := n) (i := i) (b := b) (f := 7) (by omega) (by omega))]
/-- no step's word -/
theorem dv_stn {v : Int32} (h : ∀ k, k ≤ 6 → ¬ v = nI (18 + k)) : dv_st v = -(nI 1) := by
  unfold dv_st
  rw [if_neg (h 0 (by omega)), if_neg (h 1 (by omega)), if_neg (h 2 (by omega)), if_neg (h 3 (by omega)), if_neg (h 4 (by omega)), if_neg (h 5 (by omega)), if_neg (h 6 (by omega))]
theorem dv_277n {r277 : db_S → Int32 → Option db_S} {v1 : Int32} (hR : dv_RT x n i b) (h0 : b.1 669 12 = nI 0) (hw : ∀ k, k ≤ 6 → ¬ dv_w x n i = nI (18 + k)) : db_f277_e r277 b v1 = some (dv_fb x n i 2 b) := by
  have hx := dv_x254 hR
  rw [dv_stn hw] at hx
  have hB := dv_fb_B (x := x) (n := n) (i := i) (b := b) (f := 2) (by omega) (by omega)
  have hm4 : (-(nI 1) : Int32) = nI 4 ↔ False := ⟨fun h => by rw [db_m1_en (by omega)] at h; exact h, False.elim⟩
  have hm5 : (-(nI 1) : Int32) = nI 5 ↔ False := ⟨fun h => by rw [db_m1_en (by omega)] at h; exact h, False.elim⟩
  have hm0 : ¬ ((0 : Nat) : Int) ≤ (-1 : Int) := by omega
  unfold db_f277_e db_f277_b20
  simp (disch := omega) only [db_lit, eq_self, db_pI_e, db_pL_e, db_bind_some, db_bd_some, nI_add, pk_mul, nI_toInt, db_m1_t, dz_cn, Int.ofNat_le, Int.ofNat_lt, decide_true, decide_false, db_ct, db_cf, not_true_eq_false, not_false_eq_true, db_87e, db_37e, db_31e, db_28e, db_281e, db_211e, db_27, db_269w, db_litL, pk_lT, db_iL, db_p0_e, db_p0_n, db_p0_j, db_sub1, nI_eq, if_true, if_false, Bool.false_eq_true, Nat.one_ne_zero, hx, hm4, hm5, hm0, dv_257 hR h0, dv_29b hB]
theorem dv_90n (hC : dv_CT x n i a) (hd : a.1 207 4 = nI d) (hd3 : d ≤ 3) (hw : ∀ k, k ≤ 6 → ¬ dv_w x n i = nI (18 + k)) (he : d = 0 ∨ ¬ dv_w x n i = nI 25) : db_f90 a = some (false, dv_fa x n i 2 a) := by
  have h57 := dv_57 hC
  unfold db_f90
  by_cases e : dv_w x n i = nI 25
  · have hd0 : d = 0 := by
      rcases he with h | h
      · exact h
      · exact absurd e h
    subst hd0
    rw [e] at h57
    unfold db_f91
    simp (disch := omega) only [db_lit, eq_self, db_pI_e, db_pL_e, db_bind_some, db_bd_some, nI_add, pk_mul, nI_toInt, db_m1_t, dz_cn, Int.ofNat_le, Int.ofNat_lt, decide_true, decide_false, db_ct, db_cf, not_true_eq_false, not_false_eq_true, db_87e, db_37e, db_31e, db_28e, db_281e, db_211e, db_27, db_269w, db_litL, pk_lT, db_iL, db_p0_e, db_p0_n, db_p0_j, db_sub1, nI_eq, if_true, if_false, Bool.false_eq_true, Nat.one_ne_zero, h57, hd, dv_58 hC 2]
  · have hwi : db_wi (dv_w x n i) ((18 : Nat) : Int) ((24 : Nat) : Int) = false := by
      rcases dv_w_O (x := x) (n := n) (i := i) with h | ⟨q, q1, q2⟩
      · rw [h]
        decide
      · rw [q2, dv_wi_n (by omega)]
        by_cases e1 : 18 ≤ q
        · by_cases e2 : q ≤ 24
          · exfalso
            refine hw (q - 18) (by omega) ?_
            rw [q2, show 18 + (q - 18) = q by omega]
          · rw [decide_eq_false e2, Bool.and_false]
        · rw [decide_eq_false e1, Bool.false_and]
    simp (disch := omega) only [db_lit, eq_self, db_pI_e, db_pL_e, db_bind_some, db_bd_some, nI_add, pk_mul, nI_toInt, db_m1_t, dz_cn, Int.ofNat_le, Int.ofNat_lt, decide_true, decide_false, db_ct, db_cf, not_true_eq_false, not_false_eq_true, db_87e, db_37e, db_31e, db_28e, db_281e, db_211e, db_27, db_269w, db_litL, pk_lT, db_iL, db_p0_e, db_p0_n, db_p0_j, db_sub1, nI_eq, if_true, if_false, Bool.false_eq_true, Nat.one_ne_zero, h57, e, hwi, dv_58 hC 2]
end DVHD
