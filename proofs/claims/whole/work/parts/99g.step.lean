/-! A STEP OF THE NIGHTS, its body with it -/
def dv_FR (z s d : Nat) (a a' b b' : db_S) : Prop := (∀ r, r < z → a'.1 (210 + r) = a.1 (210 + r)) ∧ (∀ j, j < 2121 + 9 * s → b'.1 674 j = b.1 674 j) ∧ (∀ j, j < d → a'.1 270 j = a.1 270 j) ∧ a'.1 208 0 = a.1 208 0
def dv_SO (x : Nat → Int32) (n d i s z : Nat) (a b : db_S) (fb : Option db_S) : Prop := (∃ a' b' i' s' z', fb = some b' ∧ i < i' ∧ dv_NS x n d i' s' z' a' b' ∧ s < s' ∧ z < z' ∧ dv_Fa a a' ∧ dv_Fb b b' ∧ dv_pl (db_pr 208 a') (dv_cc b') (3 - d) s s' z z' ∧ dv_FR z s d a a' b b' ∧ dv_Ln a a' i i') ∨ (∃ a' b', fb = some b' ∧ dv_Lf a a' i ∧ dv_Fl a' b' ∧ dv_Fa a a' ∧ dv_Fb b b')
def dv_WO (x : Nat → Int32) (n d i s z : Nat) (a b : db_S) (r277 : db_S → Int32 → Option db_S) (v4 : Int32) (fb : Option db_S) : Prop := (∃ a' b' i' s' z', fb = db_f277_b168 r277 b' (nI 1) v4 ∧ i ≤ i' ∧ dv_w x n i' = nI 25 ∧ dv_NS x n d i' s' z' a' b' ∧ s ≤ s' ∧ z ≤ z' ∧ dv_Fa a a' ∧ dv_Fb b b' ∧ dv_pl (db_pr 208 a') (dv_cc b') (3 - d) s s' z z' ∧ dv_FR z s d a a' b b' ∧ dv_Ln a a' i i') ∨ (∃ a' b', fb = db_f277_b168 r277 b' (nI 1) v4 ∧ dv_Lf a a' i ∧ dv_Fl a' b' ∧ dv_Fa a a' ∧ dv_Fb b b')
section DVSP
variable {a b a1 b1 a2 b2 A0 B0 : db_S} {x : Nat → Int32} {n d i s z k s1 z1 : Nat} {v u : Int32}
theorem dv_FR_t {D : Nat} (h : dv_FR z s D a a1 b b1) (k : dv_FR z1 s1 D a1 a2 b1 b2) (hz : z ≤ z1) (hs : s ≤ s1) : dv_FR z s D a a2 b b2 := ⟨fun r hr => (k.1 r (by omega)).trans (h.1 r hr), fun j hj => (k.2.1 j (by omega)).trans (h.2.1 j hj), fun j hj => (k.2.2.1 j hj).trans (h.2.2.1 j hj), k.2.2.2.trans h.2.2.2⟩
theorem dv_SR5 {c c' : db_C} {Q Q' : Nat → Int32} {W : Nat} (hn : ∀ k, k < 6 → c' k = c k) (hw : ∀ g, g < 8 → c' (W + g) = c (W + g)) (hQ : ∀ f, f < 5 → Q' f = Q f) (h : db_SR Q c W) : db_SR Q' c' W := by
  have e0 : c' W = c W := hw 0 (by omega)
  have n1 : db_n c' 1 = db_n c 1 := dv_n_e (hn 1 (by omega))
  have n2 : db_n c' 2 = db_n c 2 := dv_n_e (hn 2 (by omega))
  have n3 : db_n c' 3 = db_n c 3 := dv_n_e (hn 3 (by omega))
  have n5 : db_n c' 5 = db_n c 5 := dv_n_e (hn 5 (by omega))
  unfold db_SR at h ⊢
  rw [e0, n1, n2, n3, n5, hw 1 (by omega), hw 2 (by omega), hw 3 (by omega), hw 6 (by omega), hw 7 (by omega), hQ 0 (by omega), hQ 1 (by omega), hQ 2 (by omega), hQ 3 (by omega), hQ 4 (by omega)]
  exact h
theorem dv_cc_F (hb : dv_Fb b b1) : ∀ k, k < 6 → dv_cc b1 k = dv_cc b k := fun k hk => by
  rw [dv_cc_0 (by omega), dv_cc_0 (by omega)]
  unfold db_bk
  rw [if_pos (by omega), if_pos (by omega), hb.2.2.2.1 _ (by omega)]
theorem dv_cc_j {j : Nat} (h1 : 201 ≤ j) (h2 : j < 480) : dv_cc b j = b.1 674 (1920 + j) := by
  unfold dv_cc
  rw [if_neg (by omega), dv_bk_4 h2]
theorem dv_prr {r : Nat} (hr : r < 60) : db_pr 208 a r = a.1 (210 + r) := if_pos hr
/-- steps read stay read -/
theorem dv_plT {D D' : Nat} (hb : dv_Fb b1 b2) (hF : dv_FR z1 s1 D a1 a2 b1 b2) (hs : s1 ≤ 30) (h : dv_pl (db_pr 208 a1) (dv_cc b1) D' s s1 z z1) : dv_pl (db_pr 208 a2) (dv_cc b2) D' s s1 z z1 := fun f hf => dv_plc (dv_cc_F hb) (fun k h1 h2 => by rw [dv_cc_j (by omega) (by omega), dv_cc_j (by omega) (by omega), hF.2.1 _ (by omega)]) (fun r h1 h2 => by
    by_cases hr : r < 60
    · rw [dv_prr hr, dv_prr hr, hF.1 r h2]
    · unfold db_pr
      rw [if_neg hr, if_neg hr]) (h f hf)
/-- the reference behind a fault -/
theorem dv_168b {r277 : db_S → Int32 → Option db_S} (hs : s < 30) (h : dv_Bad b) {v3 : Int32} : ∃ y, db_f277_b168 r277 b v3 (nI (2121 + 9 * s)) = some y ∧ dv_Bq b y := by
  obtain ⟨p, hp⟩ := dv_y25 (b := b)
  obtain ⟨q, hq, -⟩ := dv_273t (b := b) (y := nI 59)
  refine ⟨_, ?_, dv_Bq_4 (j := 2121 + 9 * s + 8) (v := b.1 669 24) dv_Bq_r (by omega)⟩
  unfold db_f277_b168 db_f277_b190
  by_cases e : v3 = nI 0
  · simp (disch := omega) only [db_lit, eq_self, db_pI_e, db_pL_e, db_bind_some, db_bd_some, nI_add, pk_mul, nI_toInt, db_m1_t, dz_cn, Int.ofNat_le, Int.ofNat_lt, decide_true, decide_false, db_ct, db_cf, not_true_eq_false, not_false_eq_true, db_87e, db_37e, db_31e, db_28e, db_281e, db_211e, db_27, db_269w, db_litL, pk_lT, db_iL, db_p0_e, db_p0_n, db_p0_j, db_sub1, nI_eq, if_true, if_false, Bool.false_eq_true, Nat.one_ne_zero, e, db_h_674]
  · simp (disch := omega) only [db_lit, eq_self, db_pI_e, db_pL_e, db_bind_some, db_bd_some, nI_add, pk_mul, nI_toInt, db_m1_t, dz_cn, Int.ofNat_le, Int.ofNat_lt, decide_true, decide_false, db_ct, db_cf, not_true_eq_false, not_false_eq_true, db_87e, db_37e, db_31e, db_28e, db_281e, db_211e, db_27, db_269w, db_litL, pk_lT, db_iL, db_p0_e, db_p0_n, db_p0_j, db_sub1, nI_eq, if_true, if_false, Bool.false_eq_true, Nat.one_ne_zero, e, hp, dv_264b h, hq, db_h_674]
theorem dv_140b {r277 : db_S → Int32 → Option db_S} (hs : s < 30) (h : dv_Bad b) {v1 v3 : Int32} {F : Nat} (hF : 0 < F) : db_f277_b140 r277 F b v1 v3 (nI (2121 + 9 * s)) = db_f277_b168 r277 b v3 (nI (2121 + 9 * s)) := by
  obtain ⟨f, f1, f2, f3⟩ := id h
  cases F with
  | zero => omega
  | succ F =>
    rw [db_f277_b140]
    by_cases e : v3 = nI 0
    · simp (disch := omega) only [db_lit, eq_self, db_pI_e, db_pL_e, db_bind_some, db_bd_some, nI_add, pk_mul, nI_toInt, db_m1_t, dz_cn, Int.ofNat_le, Int.ofNat_lt, decide_true, decide_false, db_ct, db_cf, not_true_eq_false, not_false_eq_true, db_87e, db_37e, db_31e, db_28e, db_281e, db_211e, db_27, db_269w, db_litL, pk_lT, db_iL, db_p0_e, db_p0_n, db_p0_j, db_sub1, nI_eq, if_true, if_false, Bool.false_eq_true, Nat.one_ne_zero, e]
    · simp (disch := omega) only [db_lit, eq_self, db_pI_e, db_pL_e, db_bind_some, db_bd_some, nI_add, pk_mul, nI_toInt, db_m1_t, dz_cn, Int.ofNat_le, Int.ofNat_lt, decide_true, decide_false, db_ct, db_cf, not_true_eq_false, not_false_eq_true, db_87e, db_37e, db_31e, db_28e, db_281e, db_211e, db_27, db_269w, db_litL, pk_lT, db_iL, db_p0_e, db_p0_n, db_p0_j, db_sub1, nI_eq, if_true, if_false, Bool.false_eq_true, Nat.one_ne_zero, e, f3, (show ¬ f = 0 by omega)]
theorem dv_hA_0 {blk : Bool} : (dv_hA blk d i s z k a).1 208 0 = a.1 208 0 := by
  unfold dv_hA
  rw [db_uI_j (by decide), db_uI_n (by omega), db_uI_n (by decide), db_uI_j (by decide)]
  cases blk with
  | true => rw [if_pos rfl, db_uI_n (by decide), db_uI_n (by decide)]
  | false => rw [if_neg (by decide)]
/-- the class ends a block -/
theorem dv_91 {zo : Nat} (hC : dv_CT x n i a) (hw : dv_w x n i = nI 25) (hd : a.1 207 4 = nI (d + 1)) (hd3 : d < 3) (h270 : a.1 270 d = nI zo) (hzo : zo < z) (hz : a.1 208 2 = nI z) (hz6 : z < 60) : db_f90 a = some (true, db_uI (db_uI (db_uI (db_uI (db_uI (db_uI a 207 4 (nI d)) (210 + zo) 5 (nI z)) (210 + z) 0 (nI 25)) 208 2 (nI (z + 1))) (210 + z) 5 (nI zo)) 13 9 (nI (i + 1))) ∧ dv_CT x n (i + 1) (db_uI (db_uI (db_uI (db_uI (db_uI (db_uI a 207 4 (nI d)) (210 + zo) 5 (nI z)) (210 + z) 0 (nI 25)) 208 2 (nI (z + 1))) (210 + z) 5 (nI zo)) 13 9 (nI (i + 1))) := by
  have hkd := dv_w_kd (by decide) hw
  have h57 := dv_57 hC
  rw [hw] at h57
  have hC5 : dv_CT x n i (db_uI (db_uI (db_uI (db_uI (db_uI a 207 4 (nI d)) (210 + zo) 5 (nI z)) (210 + z) 0 (nI 25)) 208 2 (nI (z + 1))) (210 + z) 5 (nI zo)) := dv_CT_u (dv_CT_u (dv_CT_u (dv_CT_u (dv_CT_u hC (by omega)) (by omega)) (by omega)) (by omega)) (by omega)
  refine ⟨?_, dv_CT_s hC5 (by omega)⟩
  have e1 : (db_uI a 207 4 (nI d)).1 207 4 = nI d := db_uI_1
  have e2 : (db_uI a 207 4 (nI d)).1 270 d = nI zo := by rw [db_uI_n (by decide)]; exact h270
  have e3 : (db_uI a 207 4 (nI d)).1 208 2 = nI z := by rw [db_uI_n (by decide)]; exact hz
  have e4 : (db_uI (db_uI a 207 4 (nI d)) (210 + zo) 5 (nI z)).1 208 2 = nI z := by rw [db_uI_n (by omega)]; exact e3
  have e5 : (db_uI (db_uI (db_uI (db_uI a 207 4 (nI d)) (210 + zo) 5 (nI z)) (210 + z) 0 (nI 25)) 208 2 (nI (z + 1))).1 207 4 = nI d := by rw [db_uI_n (by decide), db_uI_n (by omega), db_uI_n (by omega)]; exact e1
  have e6 : (db_uI (db_uI (db_uI (db_uI a 207 4 (nI d)) (210 + zo) 5 (nI z)) (210 + z) 0 (nI 25)) 208 2 (nI (z + 1))).1 270 d = nI zo := by rw [db_uI_n (by decide), db_uI_n (by omega), db_uI_n (by omega)]; exact e2
  have e92 := dv_92 (w := 0) (v := nI 25) hz6 e4
  have hsub : nI (d + 1) - nI 1 = nI d := by rw [pk_sub (by omega), Nat.add_sub_cancel]
  unfold db_f90 db_f91
  simp (disch := omega) only [db_lit, eq_self, db_pI_e, db_pL_e, db_bind_some, db_bd_some, nI_add, pk_mul, nI_toInt, db_m1_t, dz_cn, Int.ofNat_le, Int.ofNat_lt, decide_true, decide_false, db_ct, db_cf, not_true_eq_false, not_false_eq_true, db_87e, db_37e, db_31e, db_28e, db_281e, db_211e, db_27, db_269w, db_litL, pk_lT, db_iL, db_p0_e, db_p0_n, db_p0_j, db_sub1, nI_eq, if_true, if_false, Bool.false_eq_true, Nat.one_ne_zero, h57, hd, (show ¬ d + 1 = 0 by omega), hsub, e1, db_g_270, e2, db_q_209, (dv_rr2 (show zo < 60 by omega) (show 5 < 6 by omega)).1, e3, e92, dv_g4 (show 4 ≤ 210 + z by omega), e5, e6, (dv_rr2 hz6 (show 5 < 6 by omega)).1, dv_60 hC5 (show ¬ dv_kd x n i = 0 by omega)]
/-- a step -/
theorem dv_step (hL1 : dv_Lk_20 A0 B0 1) (hL2 : dv_Lk_20 A0 B0 2) (hL3 : dv_Lk_20 A0 B0 3) (hL5 : dv_Lk_20 A0 B0 5) : ∀ (t i d s z : Nat) (a b : db_S) (G : Nat), 1000 ≤ i + t → 4 ≤ G + d → dv_NS x n d i s z a b → dv_Fa A0 a → dv_Fb B0 b → (d = 0 ∨ ¬ dv_w x n i = nI 25) → (dv_kd x n i = 0 → 0 < d) → dv_SO x n d i s z a b (db_f277 G b (nI d)) := by
  intro t
  induction t with
  | zero =>
    intro i d s z a b G ht hG hN
    have := dv_i900 hN.1
    omega
  | succ t IH =>
    intro i d s z a b G ht hG hN hA hB he hk0
    obtain ⟨hC, hR, h0, n1, n2, n3, n4, n5, n6, n7⟩ := id hN
    cases G with
    | zero => omega
    | succ G =>
    rw [db_f277]
    by_cases hw : ∃ k, k ≤ 6 ∧ dv_w x n i = nI (18 + k)
    · obtain ⟨k, hk, hw⟩ := hw
      have hkd1 := dv_w_kd (show 18 + k < 28 by omega) hw
      have hkd : ¬ dv_kd x n i = 0 := by omega
      by_cases hs : s < 30
      · by_cases hbd : dv_bl4 k = true ∧ ¬ d < 3
        · obtain ⟨e1, e2⟩ := dv_90d hN hk hw hs hbd.1 hbd.2
          exact .inr ⟨_, _, e2 _, dv_Lf_1 hC hkd e1, dv_Fl_f (by omega) (by omega), dv_Fa_fa dv_Fa_r, dv_Fb_fb dv_Fb_r⟩
        · have hd3 : dv_bl4 k = true → d < 3 := fun h => Nat.lt_of_not_le fun h2 => hbd ⟨h, by omega⟩
          have hz6 : z < 60 := by omega
          have e90 := dv_90h hN hk hw hs hd3
          obtain ⟨hAC, hA207, hA1, hA2, hA0, hA270, hArow, hAst, hAF⟩ := dv_hA_f (k := k) hN hkd hs hd3
          obtain ⟨B, eB, hBR, hB0, hB24, hBk, hBo, hBF⟩ := dv_277h (r277 := db_f277 G) hN hk hw hs hd3
          have hA208 : (dv_hA (dv_bl4 k) d i s z k a).1 208 0 = a.1 208 0 := dv_hA_0
          generalize hAA : dv_hA (dv_bl4 k) d i s z k a = A at *
          have hFA := dv_Fa_t hA hAF
          have hFB := dv_Fb_t hB hBF
          have hCN : dv_CN x n z s A B (i + 1) A B := ⟨hAC, hBR, hB0, fun _ _ _ => rfl, rfl, dv_Fa_r, fun _ _ => rfl, rfl, rfl, dv_Fb_r⟩
          have hNE := dv_rest hz6 hs hk (dv_LkF (by omega) hFA hFB hL1) (dv_LkF (by omega) hFA hFB hL2) (dv_LkF (by omega) hFA hFB hL3) (dv_LkF (by omega) hFA hFB hL5) hA0 hBk hCN
          rw [eB]
          obtain ⟨rr, a2, b2, f1, f2, hh⟩ := hNE
          rcases hh with ⟨rfl, ⟨i1, hi1, hN2⟩, hSR⟩ | ⟨rfl, g1, g2, g3⟩
          · have e90' : db_f90 a = some (true, a2) := by rw [e90, f1]; rfl
            obtain ⟨c1, c2, c3, c4, c5, c6, c7, c8, c9, c10⟩ := id hN2
            obtain ⟨r, a3, b3, f3, f4, hh⟩ := dv_oStop c1 c2 c3
            have hq : ∃ q, db_f273 b2 (nI 59) = some q := by
              obtain ⟨q, hq, -⟩ := dv_273t (b := b2) (y := nI 59)
              exact ⟨q, hq⟩
            obtain ⟨q, hq⟩ := hq
            rw [hq, db_bind_some] at f4
            have eR : ((db_f278 B (nI (2121 + 9 * s))).bind fun s6 => ((db_f273 s6 (59 : Int32)).bind fun q7 => ((db_f264 s6 (db_i q7)).bind fun s10 => (db_f277_b140 (db_f277 G) db_FU s10 (nI d) (if dv_bl4 k = true then nI 1 else nI 0) (nI (2121 + 9 * s)))))) = db_f277_b140 (db_f277 G) db_FU b3 (nI d) (if dv_bl4 k = true then nI 1 else nI 0) (nI (2121 + 9 * s)) := by
              simp (disch := omega) only [db_lit, eq_self, db_pI_e, db_pL_e, db_bind_some, db_bd_some, nI_add, pk_mul, nI_toInt, db_m1_t, dz_cn, Int.ofNat_le, Int.ofNat_lt, decide_true, decide_false, db_ct, db_cf, not_true_eq_false, not_false_eq_true, db_87e, db_37e, db_31e, db_28e, db_281e, db_211e, db_27, db_269w, db_litL, pk_lT, db_iL, db_p0_e, db_p0_n, db_p0_j, db_sub1, nI_eq, if_true, if_false, Bool.false_eq_true, Nat.one_ne_zero, f2, hq, f4]
            rw [eR]
            rcases hh with ⟨rfl, k1, k2, k3, k4⟩ | ⟨rfl, k1, k2, k3⟩
            · -- through the first row
              have hN3 : dv_CN x n z s A B (i1 + 1) a3 b3 := by rw [k1] at k2 ⊢; exact dv_CNt hz6 hN2 k2 k3 k4
              obtain ⟨q1, q2, q3, q4, q5, q6, q7, q8, q9, q10⟩ := id hN3
              have hLn : dv_Ln a a3 i (i1 + 1) := dv_Ln_1 hC hkd e90' f3 (by omega)
              have e674 : b3.1 674 = b2.1 674 := (k4.1 674 (by decide)).1
              have hF3a : dv_Fa a a3 := dv_Fa_t hAF q6
              have hF3b : dv_Fb b b3 := dv_Fb_t hBF q10
              have hrow3 : a3.1 (210 + z) = a2.1 (210 + z) := by rw [k1, db_uI_n (by omega)]
              have hSR3 : db_SR (a3.1 (210 + z)) (dv_cc b3) (201 + 9 * s) := dv_SR5 (dv_cc_F (dv_Fb_n k4)) (fun g hg => by rw [dv_cc_4 hs (by omega), dv_cc_4 hs (by omega), e674]) (fun f _ => by rw [hrow3]) hSR
              have h24 : b3.1 669 24 = nI (s + 1) := q9.trans hB24
              have hkk : dv_cc b3 (201 + 9 * s) = nI k := by rw [dv_cc_40 hs, q7 _ (by omega)]; exact hBk
              have hrows : ∀ r, r < z → a3.1 (210 + r) = a.1 (210 + r) := fun r hr => by
                rw [q4 (210 + r) (by omega) (by omega)]
                rcases hArow r (by omega) with h | h
                · exact h
                · omega
              have hst3 : ∀ j, j < d → a3.1 270 j = a.1 270 j := fun j hj => by rw [q4 270 (by omega) (by omega)]; exact hAst j hj
              have h208 : a3.1 208 0 = a.1 208 0 := by rw [q4 208 (by omega) (by omega)]; exact hA208
              have hent : ∀ j, j < 2121 + 9 * s → b3.1 674 j = b.1 674 j := fun j hj => by rw [q7 j (by omega), hBo j (by omega)]
              by_cases hb : dv_bl4 k = true
              · -- a block
                have hd := hd3 hb
                rw [if_pos hb] at hA207 ⊢
                have hN4 : dv_NS x n (d + 1) (i1 + 1) (s + 1) (z + 1) a3 b3 := ⟨q1, q2, q3, by rw [q4 207 (by omega) (by omega)]; exact hA207, by rw [q4 208 (by omega) (by omega)]; exact hA1, h24, by rw [q4 208 (by omega) (by omega)]; exact hA2, by omega, by omega, by omega⟩
                have h270 : a3.1 270 d = nI z := by rw [q4 270 (by omega) (by omega)]; exact hA270 hb
                -- its steps
                have hW : ∀ t', t' ≤ t → ∀ (j s' z' : Nat) (a b : db_S) (F : Nat), 1000 ≤ j + t' → t' < F → dv_NS x n (d + 1) j s' z' a b → dv_Fa A0 a → dv_Fb B0 b → dv_WO x n (d + 1) j s' z' a b (db_f277 G) (nI (2121 + 9 * s)) (db_f277_b140 (db_f277 G) F b (nI d) (nI 1) (nI (2121 + 9 * s))) := by
                  intro t'
                  induction t' with
                  | zero =>
                    intro _ j s' z' a b F hj hF hN
                    have := dv_i900 hN.1
                    omega
                  | succ t' IHW =>
                    intro ht' j s' z' a b F hj hF hN hA hB
                    cases F with
                    | zero => omega
                    | succ F =>
                    have hx := dv_x25 hN.2.1
                    have h12 := hN.2.2.1
                    rw [db_f277_b140]
                    by_cases e25 : dv_w x n j = nI 25
                    · refine .inl ⟨a, b, j, s', z', ?_, Nat.le_refl _, e25, hN, Nat.le_refl _, Nat.le_refl _, dv_Fa_r, dv_Fb_r, dv_pl_0, ⟨fun _ _ => rfl, fun _ _ => rfl, fun _ _ => rfl, rfl⟩, dv_Ln_r⟩
                      simp (disch := omega) only [db_lit, eq_self, db_pI_e, db_pL_e, db_bind_some, db_bd_some, nI_add, pk_mul, nI_toInt, db_m1_t, dz_cn, Int.ofNat_le, Int.ofNat_lt, decide_true, decide_false, db_ct, db_cf, not_true_eq_false, not_false_eq_true, db_87e, db_37e, db_31e, db_28e, db_281e, db_211e, db_27, db_269w, db_litL, pk_lT, db_iL, db_p0_e, db_p0_n, db_p0_j, db_sub1, nI_eq, if_true, if_false, Bool.false_eq_true, Nat.one_ne_zero, h12, hx, e25]
                    · have hstep := IH j (d + 1) s' z' a b G (by omega) (by omega) hN hA hB (.inr e25) (fun _ => by omega)
                      rcases hstep with ⟨a5, b5, j5, s5, z5, g1, g2, g3, g4, g5, g6, g7, g8, g9, g10⟩ | ⟨a5, b5, g1, g2, g3, g4, g5⟩
                      · have hrec := IHW (by omega) j5 s5 z5 a5 b5 F (by omega) (by omega) g3 (dv_Fa_t hA g6) (dv_Fb_t hB g7)
                        have eq : (cond (db_cnd .eq (nI 1) 0) (db_f277_b168 (db_f277 G) b (nI 1) (nI (2121 + 9 * s))) (cond (db_cnd .ne (b.1 669 12) 0) (db_f277_b168 (db_f277 G) b (nI 1) (nI (2121 + 9 * s))) ((db_f256 b).bind fun q1 => (cond q1 (db_f277_b168 (db_f277 G) b (nI 1) (nI (2121 + 9 * s))) ((db_f277 G b (nI d + (1 : Int32))).bind fun s4 => (db_f277_b140 (db_f277 G) F s4 (nI d) (nI 1) (nI (2121 + 9 * s)))))))) = db_f277_b140 (db_f277 G) F b5 (nI d) (nI 1) (nI (2121 + 9 * s)) := by
                          simp (disch := omega) only [db_lit, eq_self, db_pI_e, db_pL_e, db_bind_some, db_bd_some, nI_add, pk_mul, nI_toInt, db_m1_t, dz_cn, Int.ofNat_le, Int.ofNat_lt, decide_true, decide_false, db_ct, db_cf, not_true_eq_false, not_false_eq_true, db_87e, db_37e, db_31e, db_28e, db_281e, db_211e, db_27, db_269w, db_litL, pk_lT, db_iL, db_p0_e, db_p0_n, db_p0_j, db_sub1, nI_eq, if_true, if_false, Bool.false_eq_true, Nat.one_ne_zero, h12, hx, e25, g1]
                        rw [eq]
                        rcases hrec with ⟨a6, b6, j6, s6, z6, m1, m2, m3, m4, m5, m6, m7, m8, m9, m10, m11⟩ | ⟨a6, b6, m1, m2, m3, m4, m5⟩
                        · have hp1 := dv_plT m8 m10 g3.2.2.2.2.2.2.2.1 g8
                          refine .inl ⟨a6, b6, j6, s6, z6, m1, by omega, m3, m4, by omega, by omega, dv_Fa_t g6 m7, dv_Fb_t g7 m8, dv_pl_a (hp1 (s5 - s') (by omega)) m9 m5, dv_FR_t g9 m10 (by omega) (by omega), dv_Ln_t g10 m11⟩
                        · exact .inr ⟨a6, b6, m1, dv_Ln_f g10 m2, m3, dv_Fa_t g6 m4, dv_Fb_t g7 m5⟩
                      · refine .inr ⟨a5, b5, ?_, g2, g3, g4, g5⟩
                        simp (disch := omega) only [db_lit, eq_self, db_pI_e, db_pL_e, db_bind_some, db_bd_some, nI_add, pk_mul, nI_toInt, db_m1_t, dz_cn, Int.ofNat_le, Int.ofNat_lt, decide_true, decide_false, db_ct, db_cf, not_true_eq_false, not_false_eq_true, db_87e, db_37e, db_31e, db_28e, db_281e, db_211e, db_27, db_269w, db_litL, pk_lT, db_iL, db_p0_e, db_p0_n, db_p0_j, db_sub1, nI_eq, if_true, if_false, Bool.false_eq_true, Nat.one_ne_zero, h12, hx, e25, g1]
                        exact dv_140b hs g3.1 (by omega)
                have hWW := hW (min t 1000) (Nat.min_le_left _ _) (i1 + 1) (s + 1) (z + 1) a3 b3 db_FU (by omega) (by unfold db_FU; omega) hN4 (dv_Fa_t hA hF3a) (dv_Fb_t hB hF3b)
                rcases hWW with ⟨a4, b4, j4, s4, z4, m1, m2, m3, m4, m5, m6, m7, m8, m9, m10, m11⟩ | ⟨a4, b4, m1, m2, m3, m4, m5⟩
                · obtain ⟨p1, p2, p3, p4, p5, p6, p7, p8, p9, p10⟩ := id m4
                  rw [m1]
                  have hkd4 := dv_w_kd (by decide) m3
                  have h270' : a4.1 270 d = nI z := (m10.2.2.1 d (by omega)).trans h270
                  obtain ⟨w1, w2⟩ := dv_91 p1 m3 p4 hd h270' (by omega) p7 (by omega)
                  generalize hA5 : db_uI (db_uI (db_uI (db_uI (db_uI (db_uI a4 207 4 (nI d)) (210 + z) 5 (nI z4)) (210 + z4) 0 (nI 25)) 208 2 (nI (z4 + 1))) (210 + z4) 5 (nI z)) 13 9 (nI (j4 + 1)) = A5 at w1 w2
                  obtain ⟨B5, eB5, r5, fn5⟩ := dv_264t p2 p3
                  have h05 : B5.1 669 12 = nI 0 := by rw [fn5.2.1 12 (by omega)]; exact p3
                  obtain ⟨r, a6, b6, f5, f6, hh⟩ := dv_oStop w2 r5 h05
                  have hq5 : ∃ q, db_f273 B5 (nI 59) = some q := by
                    obtain ⟨q, hq, -⟩ := dv_273t (b := B5) (y := nI 59)
                    exact ⟨q, hq⟩
                  obtain ⟨q', hq'⟩ := hq5
                  rw [hq', db_bind_some] at f6
                  have hx := dv_x25 p2
                  have e168 : db_f277_b168 (db_f277 G) b4 (nI 1) (nI (2121 + 9 * s)) = some (db_uI b6 674 (2121 + 9 * s + 8) (b6.1 669 24)) := by
                    unfold db_f277_b168 db_f277_b190
                    simp (disch := omega) only [db_lit, eq_self, db_pI_e, db_pL_e, db_bind_some, db_bd_some, nI_add, pk_mul, nI_toInt, db_m1_t, dz_cn, Int.ofNat_le, Int.ofNat_lt, decide_true, decide_false, db_ct, db_cf, not_true_eq_false, not_false_eq_true, db_87e, db_37e, db_31e, db_28e, db_281e, db_211e, db_27, db_269w, db_litL, pk_lT, db_iL, db_p0_e, db_p0_n, db_p0_j, db_sub1, nI_eq, if_true, if_false, Bool.false_eq_true, Nat.one_ne_zero, hx, m3, (show db_i true = nI 1 from rfl), eB5, hq', f6, db_h_674]
                  rw [e168]
                  have hF5 : dv_Fa a4 A5 := by
                    rw [← hA5]
                    exact dv_Fa_u (dv_Fa_u (dv_Fa_u (dv_Fa_u (dv_Fa_u (dv_Fa_u dv_Fa_r (.inl (by omega))) (.inl (by omega))) (.inl (by omega))) (.inl (by omega))) (.inl (by omega))) (.inr (by omega))
                  rcases hh with ⟨rfl, y1, y2, y3, y4⟩ | ⟨rfl, y1, y2, y3⟩
                  · have hFend : dv_Fa a a6 := dv_Fa_t hF3a (dv_Fa_t m7 (dv_Fa_t hF5 (by rw [y1]; exact dv_Fa_u dv_Fa_r (.inr (by omega)))))
                    have hFbend : dv_Fb b b6 := dv_Fb_t hF3b (dv_Fb_t m8 (dv_Fb_t (dv_Fb_n fn5) (dv_Fb_n y4)))
                    have e6 : b6.1 674 = b4.1 674 := by rw [(y4.1 674 (by decide)).1, (fn5.1 674 (by decide)).1]
                    have e624 : b6.1 669 24 = nI s4 := by rw [y4.2.1 24 (by omega), fn5.2.1 24 (by omega)]; exact p6
                    -- the class's rows
                    have rw0 : ∀ r, r ≠ z → r ≠ z4 → r < 60 → a6.1 (210 + r) = a4.1 (210 + r) := fun r r1 r2 r3 => by
                      rw [y1, db_uI_n (by omega), ← hA5, db_uI_n (by omega), db_uI_n (by omega), db_uI_n (by omega), db_uI_n (by omega), db_uI_n (by omega), db_uI_n (by omega)]
                    have rwz : ∀ f, f ≠ 5 → a6.1 (210 + z) f = a4.1 (210 + z) f := fun f hf => by
                      rw [y1, db_uI_n (by omega), ← hA5, db_uI_n (by omega), db_uI_n (by omega), db_uI_n (by omega), db_uI_n (by omega), db_uI_j hf, db_uI_n (by omega)]
                    have rwz5 : a6.1 (210 + z) 5 = nI z4 := by
                      rw [y1, db_uI_n (by omega), ← hA5, db_uI_n (by omega), db_uI_n (by omega), db_uI_n (by omega), db_uI_n (by omega), db_uI_1]
                    have rwe0 : a6.1 (210 + z4) 0 = nI 25 := by
                      rw [y1, db_uI_n (by omega), ← hA5, db_uI_n (by omega), db_uI_j (by decide), db_uI_n (by omega), db_uI_1]
                    have rwe5 : a6.1 (210 + z4) 5 = nI z := by
                      rw [y1, db_uI_n (by omega), ← hA5, db_uI_n (by omega), db_uI_1]
                    have st0 : ∀ j, a6.1 270 j = a4.1 270 j := fun j => by
                      rw [y1, db_uI_n (by omega), ← hA5, db_uI_n (by omega), db_uI_n (by omega), db_uI_n (by omega), db_uI_n (by omega), db_uI_n (by omega), db_uI_n (by omega)]
                    have s208 : a6.1 208 1 = nI s4 := by
                      rw [y1, db_uI_n (by omega), ← hA5, db_uI_n (by omega), db_uI_n (by omega), db_uI_j (by decide), db_uI_n (by omega), db_uI_n (by omega), db_uI_n (by omega)]; exact p5
                    have s2080 : a6.1 208 0 = a4.1 208 0 := by
                      rw [y1, db_uI_n (by omega), ← hA5, db_uI_n (by omega), db_uI_n (by omega), db_uI_j (by decide), db_uI_n (by omega), db_uI_n (by omega), db_uI_n (by omega)]
                    have s2082 : a6.1 208 2 = nI (z4 + 1) := by
                      rw [y1, db_uI_n (by omega), ← hA5, db_uI_n (by omega), db_uI_n (by omega), db_uI_1]
                    have s207 : a6.1 207 4 = nI d := by
                      rw [y1, db_uI_n (by omega), ← hA5, db_uI_n (by omega), db_uI_n (by omega), db_uI_n (by omega), db_uI_n (by omega), db_uI_n (by omega), db_uI_1]
                    rw [e624]
                    have hFb7 : dv_Fb b6 (db_uI b6 674 (2121 + 9 * s + 8) (nI s4)) := dv_Fb_4 dv_Fb_r (by omega)
                    refine .inl ⟨a6, _, j4 + 1 + 1, s4, z4 + 1, rfl, by omega, ⟨y2, dv_RT_4 y3, ?_, s207, s208, ?_, s2082, p8, by omega, by omega⟩, by omega, by omega, hFend, dv_Fb_t hFbend hFb7, ?_, ⟨fun r hr => ?_, fun j hj => ?_, fun j hj => ?_, s2080.trans (m10.2.2.2.trans h208)⟩, dv_Ln_t hLn (dv_Ln_t m11 (dv_Ln_1 p1 (by omega) w1 f5 (by omega)))⟩
                    · rw [db_uI_n (by decide), y4.2.1 12 (by omega)]; exact h05
                    · rw [db_uI_n (by decide)]; exact e624
                    · -- the block
                      have hc6 : ∀ k, k < 6 → dv_cc (db_uI b6 674 (2121 + 9 * s + 8) (nI s4)) k = dv_cc b4 k := dv_cc_F (dv_Fb_t (dv_Fb_n fn5) (dv_Fb_t (dv_Fb_n y4) hFb7))
                      have hcj : ∀ j, 201 ≤ j → j < 480 → j ≠ 201 + 9 * s + 8 → dv_cc (db_uI b6 674 (2121 + 9 * s + 8) (nI s4)) j = dv_cc b4 j := fun j j1 j2 j3 => by
                        rw [dv_cc_j j1 j2, dv_cc_j j1 j2, db_uI_j (by omega), e6]
                      have hc3 : ∀ g, g < 9 → dv_cc b4 (201 + 9 * s + g) = dv_cc b3 (201 + 9 * s + g) := fun g hg => by
                        rw [dv_cc_4 hs hg, dv_cc_4 hs hg, m10.2.1 _ (by omega)]
                      have hQ : a4.1 (210 + z) = a3.1 (210 + z) := m10.1 z (by omega)
                      refine dv_pl_b (i := s) (e := s4) (a := z) (g := z4) (by omega) ?_ ?_ ?_ (by omega) (by omega) ?_ ?_ ?_ ?_
                      · rw [dv_cc_4 hs (by omega), db_uI_1]
                      · rw [dv_prr hz6]
                        refine dv_SR5 (c := dv_cc b3) (fun k hk => ?_) (fun g hg => ?_) (fun f hf => ?_) hSR3
                        · rw [hc6 k hk]
                          exact dv_cc_F m8 k hk
                        · rw [hcj _ (by omega) (by omega) (by omega), hc3 g (by omega)]
                        · rw [rwz f (by omega), hQ]
                      · have : dv_cc (db_uI b6 674 (2121 + 9 * s + 8) (nI s4)) (201 + 9 * s) = nI k := by
                          rw [hcj _ (by omega) (by omega) (by omega)]
                          exact (hc3 0 (by omega)).trans hkk
                        rw [this]
                        unfold dv_bl4 at hb
                        rw [Bool.or_eq_true, decide_eq_true_eq, decide_eq_true_eq] at hb
                        rcases hb with rfl | rfl
                        · exact .inl rfl
                        · exact .inr rfl
                      · rw [dv_prr hz6]; exact rwz5
                      · rw [dv_prr (by omega)]; exact rwe0
                      · rw [dv_prr (by omega)]; exact rwe5
                      · intro f hf
                        have hm9 := m9 f hf
                        rw [show 3 - d - 1 = 3 - (d + 1) by omega]
                        refine dv_plc hc6 (fun k h1 h2 => hcj k (by omega) (by omega) (by omega)) (fun r h1 h2 => ?_) hm9
                        rw [dv_prr (by omega), dv_prr (by omega), rw0 r (by omega) (by omega) (by omega)]
                    · rw [rw0 r (by omega) (by omega) (by omega), m10.1 r (by omega)]
                      exact hrows r hr
                    · rw [db_uI_j (by omega), e6, m10.2.1 j (by omega)]
                      exact hent j hj
                    · rw [st0 j, m10.2.2.1 j (by omega)]
                      exact hst3 j hj
                  · refine .inr ⟨a6, _, rfl, dv_Ln_f hLn (dv_Ln_f m11 (dv_Lf_2 p1 (by omega) w1 f5)), dv_Fl_q y1 (dv_Bq_4 dv_Bq_r (by omega)), dv_Fa_t hF3a (dv_Fa_t m7 (dv_Fa_t hF5 y2)), dv_Fb_4 (dv_Fb_t hF3b (dv_Fb_t m8 (dv_Fb_t (dv_Fb_n fn5) y3))) (by omega)⟩
                · obtain ⟨y, ey, hy⟩ := dv_168b (r277 := db_f277 G) (v3 := nI 1) hs m3.1
                  rw [m1, ey]
                  exact .inr ⟨a4, y, rfl, dv_Ln_f hLn m2, dv_Fl_q m3 hy, dv_Fa_t hF3a m4, dv_Fb_t hF3b (dv_Fb_t m5 hy.1)⟩
              · -- no block
                have hbf : dv_bl4 k = false := by
                  cases h : dv_bl4 k with
                  | true => exact absurd h hb
                  | false => rfl
                rw [if_neg hb] at hA207 ⊢
                have e140 : db_f277_b140 (db_f277 G) db_FU b3 (nI d) (nI 0) (nI (2121 + 9 * s)) = some (db_uI b3 674 (2121 + 9 * s + 8) (nI (s + 1))) := by
                  rw [show db_FU = 999999 + 1 from rfl, db_f277_b140]
                  unfold db_f277_b168 db_f277_b190
                  simp (disch := omega) only [db_lit, eq_self, db_pI_e, db_pL_e, db_bind_some, db_bd_some, nI_add, pk_mul, nI_toInt, db_m1_t, dz_cn, Int.ofNat_le, Int.ofNat_lt, decide_true, decide_false, db_ct, db_cf, not_true_eq_false, not_false_eq_true, db_87e, db_37e, db_31e, db_28e, db_281e, db_211e, db_27, db_269w, db_litL, pk_lT, db_iL, db_p0_e, db_p0_n, db_p0_j, db_sub1, nI_eq, if_true, if_false, Bool.false_eq_true, Nat.one_ne_zero, h24, db_h_674]
                rw [e140]
                have hFb4 : dv_Fb b3 (db_uI b3 674 (2121 + 9 * s + 8) (nI (s + 1))) := dv_Fb_4 dv_Fb_r (by omega)
                refine .inl ⟨a3, _, i1 + 1, s + 1, z + 1, rfl, by omega, ⟨q1, dv_RT_4 q2, by rw [db_uI_n (by decide)]; exact q3, by rw [q4 207 (by omega) (by omega)]; exact hA207, by rw [q4 208 (by omega) (by omega)]; exact hA1, by rw [db_uI_n (by decide)]; exact h24, by rw [q4 208 (by omega) (by omega)]; exact hA2, by omega, by omega, n7⟩, by omega, by omega, hF3a, dv_Fb_t hF3b hFb4, dv_pl_1 ?_ ?_ ?_, ⟨hrows, fun j hj => by rw [db_uI_j (by omega)]; exact hent j hj, hst3, h208⟩, hLn⟩
                · rw [dv_cc_4 hs (by omega), db_uI_1]
                · rw [dv_prr hz6]
                  exact dv_SR5 (dv_cc_F hFb4) (fun g hg => by rw [dv_cc_4 hs (by omega), dv_cc_4 hs (by omega), db_uI_j (by omega)]) (fun f _ => rfl) hSR3
                · have : dv_cc (db_uI b3 674 (2121 + 9 * s + 8) (nI (s + 1))) (201 + 9 * s) = nI k := by
                    rw [dv_cc_40 hs, db_uI_j (by omega), ← dv_cc_40 hs]; exact hkk
                  rw [this]
                  unfold dv_bl4 at hbf
                  rw [Bool.or_eq_false_iff, decide_eq_false_iff_not, decide_eq_false_iff_not] at hbf
                  exact ⟨by rw [Ne, nI_eq (by omega) (by omega)]; exact hbf.1, by rw [Ne, nI_eq (by omega) (by omega)]; exact hbf.2⟩
            · obtain ⟨y, ey, hy⟩ := dv_168b (r277 := db_f277 G) (v3 := if dv_bl4 k = true then nI 1 else nI 0) hs k1.1
              rw [dv_140b hs k1.1 (by unfold db_FU; omega), ey]
              exact .inr ⟨a3, y, rfl, dv_Lf_2 hC hkd e90' f3, dv_Fl_q k1 hy, dv_Fa_t hAF (dv_Fa_t c6 k2), dv_Fb_t hBF (dv_Fb_t c10 (dv_Fb_t k3 hy.1))⟩
          · have e90' : db_f90 a = some (false, a2) := by rw [e90, f1]; rfl
            obtain ⟨q, hq, -⟩ := dv_273t (b := b2) (y := nI 59)
            obtain ⟨y, ey, hy⟩ := dv_168b (r277 := db_f277 G) (v3 := if dv_bl4 k = true then nI 1 else nI 0) hs g1.1
            have eR : ((db_f278 B (nI (2121 + 9 * s))).bind fun s6 => ((db_f273 s6 (59 : Int32)).bind fun q7 => ((db_f264 s6 (db_i q7)).bind fun s10 => (db_f277_b140 (db_f277 G) db_FU s10 (nI d) (if dv_bl4 k = true then nI 1 else nI 0) (nI (2121 + 9 * s)))))) = some y := by
              simp (disch := omega) only [db_lit, eq_self, db_pI_e, db_pL_e, db_bind_some, db_bd_some, nI_add, pk_mul, nI_toInt, db_m1_t, dz_cn, Int.ofNat_le, Int.ofNat_lt, decide_true, decide_false, db_ct, db_cf, not_true_eq_false, not_false_eq_true, db_87e, db_37e, db_31e, db_28e, db_281e, db_211e, db_27, db_269w, db_litL, pk_lT, db_iL, db_p0_e, db_p0_n, db_p0_j, db_sub1, nI_eq, if_true, if_false, Bool.false_eq_true, Nat.one_ne_zero, f2, hq, dv_264b g1.1]
              rw [dv_140b hs g1.1 (by unfold db_FU; omega), ey]
            rw [eR]
            exact .inr ⟨a2, y, rfl, dv_Lf_1 hC hkd e90', dv_Fl_q g1 hy, dv_Fa_t hAF g2, dv_Fb_t hBF (dv_Fb_t g3 hy.1)⟩
      · obtain ⟨e1, e2⟩ := dv_90o hN hk hw hs
        exact .inr ⟨_, _, e2 _, dv_Lf_1 hC hkd e1, dv_Fl_f (by omega) (by omega), dv_Fa_fa dv_Fa_r, dv_Fb_fb dv_Fb_r⟩
    · have hwn : ∀ k, k ≤ 6 → ¬ dv_w x n i = nI (18 + k) := fun k hk h => hw ⟨k, hk, h⟩
      have e2 := dv_277n (r277 := db_f277 G) (v1 := nI d) hR h0 hwn
      by_cases hkd : dv_kd x n i = 0
      · exact .inr ⟨_, _, e2, dv_Lf_e hC hkd n1 (hk0 hkd) n7, dv_Fl_f (by omega) (by omega), dv_Fa_fa dv_Fa_r, dv_Fb_fb dv_Fb_r⟩
      · exact .inr ⟨_, _, e2, dv_Lf_1 hC hkd (dv_90n hC n1 n7 hwn he), dv_Fl_f (by omega) (by omega), dv_Fa_fa dv_Fa_r, dv_Fb_fb dv_Fb_r⟩
end DVSP
