/-! LIVES: one thing done, the class's -/
/-- the class's state on the way -/
def dw_Rc (U : Nat) (s0 : db_S) (w : Nat → Int64) (c : db_C) (g : Nat → Int32) (sd : Nat) (s : db_S) : Prop := db_B1 U 20 s c w ∧ s.1 284 9 = nI sd ∧ (∀ j, j < 5 → s.1 286 j = g j) ∧ db_Ed s0 s
section DBPC
variable {U : Nat} {s0 s : db_S} {c : db_C} {w : Nat → Int64} {x y z p q : Int32} {g : Nat → Int32} {sd : Nat}
theorem dw_137 (h : dw_Rc U s0 w c g sd s) (hU : U + 6 ≤ 1000000000) {d pp : Nat} (hd : d < db_n c 5) (hp : pp < db_n c 1) (hq : db_O q (db_n c 2)) : dz_T (db_f137 s (nI d) (nI pp) q) (fun z => z.1 = (dw_nt c g d pp q).1 ∧ dw_Rc (U + 6) s0 w (dw_nt c g d pp q).2.1 (dw_nt c g d pp q).2.2 sd z.2 ∧ ∀ b, 287 ≤ b → b ≤ 290 → z.2.1 b = s.1 b) := by
  obtain ⟨hB, h5, h6, hE⟩ := h
  refine db_T_mono (db_137 hB hU hd hp hq) fun z hz => ?_
  obtain ⟨t1, t2, t3, t4⟩ := hz
  have e9 : z.2.1 284 9 = nI sd := by rw [t4 284 (by decide) (by decide) (by decide) (by decide) (by decide)]; exact h5
  have e290 : ∀ b, 287 ≤ b → b ≤ 290 → z.2.1 b = s.1 b := fun b b1 b2 => t4 b (by omega) (by omega) (by omega) (by omega) (by omega)
  unfold dw_nt
  cases hok : db_nok c d pp q with
  | false =>
    rw [hok] at t1
    obtain ⟨u1, u2⟩ := t2 t1
    refine ⟨t1, ⟨db_B1_mono (by omega) (db_B1_c (fun a q1 q2 q3 => funext fun j => (u1 a j (by unfold db_ec; omega)).1) (funext fun j => (u1 _ j (by unfold db_ec; omega)).2) hB), e9, fun j hj => by rw [u2]; exact h6 j hj, db_Ed_t hE (db_Ec_Ed u1)⟩, e290⟩
  | true =>
    rw [hok] at t1
    obtain ⟨u1, u2, u3, u4, u5, u6⟩ := t3 t1
    rw [if_pos rfl]
    refine ⟨t1, ⟨u1, e9, fun j hj => ?_, db_Ed_t hE u2⟩, e290⟩
    show z.2.1 286 j = db_cu (db_cu (db_cu g 1 (g 1 + nI 1)) 2 (g 2 + db_ng c d pp q)) 3 (g 3 + nI (dz_nw c d pp q)) j
    rcases (by omega : j = 0 ∨ j = 1 ∨ j = 2 ∨ j = 3 ∨ j = 4) with rfl | rfl | rfl | rfl | rfl
    · rw [u6 0 (by decide) (by decide) (by decide), db_cu_n (by decide), db_cu_n (by decide), db_cu_n (by decide)]; exact h6 0 hj
    · rw [u3, db_cu_n (by decide), db_cu_n (by decide), db_cu_1, h6 1 hj]
    · rw [u4, db_cu_n (by decide), db_cu_1, h6 2 hj]
    · rw [u5, db_cu_1, h6 3 hj]
    · rw [u6 4 (by decide) (by decide) (by decide), db_cu_n (by decide), db_cu_n (by decide), db_cu_n (by decide)]; exact h6 4 hj
/-- refused or not -/
theorem dw_196b {a : Nat} {b : Bool} {v3 : Int32} (h : dw_Rc U s0 w c g sd s) (ha : a < 60) (hv : v3 = if b then nI 1 else nI 0) : dz_T (db_f196_b196 s (nI a) v3) (fun z => z.1 = nI (a + 1) ∧ dw_Rc U s0 w c (db_cu g 0 (g 0 + if b then nI 0 else nI 1)) sd z.2 ∧ ∀ b, 287 ≤ b → b ≤ 290 → z.2.1 b = s.1 b) := by
  obtain ⟨hB, h5, h6, hE⟩ := h
  have hfin : ∀ u : Int32, dz_T (db_f196_b212 s (nI a) (nI 0) (s.1 286 0) u) (fun z => z.1 = nI (a + 1) ∧ dw_Rc U s0 w c (db_cu g 0 (g 0 + u)) sd z.2 ∧ ∀ b, 287 ≤ b → b ≤ 290 → z.2.1 b = s.1 b) := by
    intro u
    unfold db_f196_b212
    simp (disch := omega) only [db_lit, eq_self, db_pI_e, db_pL_e, db_bind_some, db_bd_some, nI_add, pk_mul, nI_toInt, db_m1_t, dz_cn, Int.ofNat_le, Int.ofNat_lt, decide_true, decide_false, db_ct, db_cf, not_true_eq_false, not_false_eq_true, db_h_286]
    refine ⟨_, rfl, rfl, ⟨db_B1_c (fun a q1 q2 q3 => db_uI_n (by omega)) rfl hB, ?_, fun j hj => ?_, db_Ed_u hE (.inl (by unfold db_ec; omega))⟩, ?_⟩
    · show (db_uI s 286 0 _).1 284 9 = _
      rw [db_uI_n (by decide)]; exact h5
    · show (db_uI s 286 0 _).1 286 j = db_cu g 0 _ j
      by_cases e : j = 0
      · subst e; rw [db_uI_1, db_cu_1, h6 0 hj]
      · rw [db_uI_j e, db_cu_n e]; exact h6 j hj
    · intro b b1 b2
      show (db_uI s 286 0 _).1 b = _
      rw [db_uI_n (by omega)]
  unfold db_f196_b196
  subst hv
  cases b with
  | true =>
    have e10 : ¬ nI 1 = nI 0 := by decide
    simp (disch := omega) only [db_lit, eq_self, db_pI_e, db_pL_e, db_bind_some, db_bd_some, nI_add, pk_mul, nI_toInt, db_m1_t, dz_cn, Int.ofNat_le, Int.ofNat_lt, decide_true, decide_false, db_ct, db_cf, not_true_eq_false, not_false_eq_true, db_g_286, Bool.false_eq_true, if_true, if_false, e10]
    exact hfin (nI 0)
  | false =>
    simp (disch := omega) only [db_lit, eq_self, db_pI_e, db_pL_e, db_bind_some, db_bd_some, nI_add, pk_mul, nI_toInt, db_m1_t, dz_cn, Int.ofNat_le, Int.ofNat_lt, decide_true, decide_false, db_ct, db_cf, not_true_eq_false, not_false_eq_true, db_g_286, Bool.false_eq_true, if_true, if_false]
    exact hfin (nI 1)
theorem dw_i (b : Bool) : db_i b = if b then nI 1 else nI 0 := by cases b <;> rfl
/-- the class does it -/
theorem dw_196 {a W : Nat} (h : dw_Rc U s0 w c g sd s) (hU : U + 6 ≤ 1000000000) (ha : a < 60) (hW : W + 9 ≤ 480) (hS : db_SR (s.1 (85 + a)) c W) (hk : ∃ k, k ≤ 3 ∧ c W = nI k) (hsd : sd < 65536) : dz_T (db_f196 s (nI a)) (fun z => z.1 = nI (a + 1) ∧ dw_Rc (U + 6) s0 w (dw_pm W c g sd).2.1 (db_cu (dw_pm W c g sd).2.2.1 0 ((dw_pm W c g sd).2.2.1 0 + if (dw_pm W c g sd).1 then nI 0 else nI 1)) (dw_pm W c g sd).2.2.2 z.2 ∧ ∀ b, 287 ≤ b → b ≤ 290 → z.2.1 b = s.1 b) := by
  obtain ⟨k, k6, e0, r0, b0, b1, b2, -⟩ := hS
  obtain ⟨k', hk3, e0'⟩ := hk
  have hkk : k = k' := db_nI_inj (by omega) (by omega) (e0.symm.trans e0')
  subst hkk
  have hB := h.1
  have hO := hB.1
  have hR := hB.2.1
  have j1 := hO.1.2.1.2
  have j3 := hO.1.2.2.2.1.2
  have k5 := hO.1.2.2.2.2.2
  have j5 := k5.2
  have mono : ∀ {U' : Nat} {c' : db_C} {g' : Nat → Int32} {sd' : Nat} {s' : db_S}, U' ≤ U + 6 → dw_Rc U' s0 w c' g' sd' s' → dw_Rc (U + 6) s0 w c' g' sd' s' := fun hh hr => ⟨db_B1_mono hh hr.1, hr.2⟩
  unfold dw_pm db_f196
  rcases (by omega : k = 0 ∨ k = 1 ∨ k = 2 ∨ k = 3) with rfl | rfl | rfl | rfl
  · obtain ⟨d, hd, ed, rd⟩ := b0 rfl
    obtain ⟨⟨pp, hp, ep, rp⟩, hq, rq⟩ := b1 (by omega)
    rw [if_pos e0, dw_nI_n ed (by omega), dw_nI_n ep (by omega)]
    simp (disch := omega) only [db_lit, eq_self, db_pI_e, db_pL_e, db_bind_some, db_bd_some, nI_add, pk_mul, nI_toInt, db_m1_t, dz_cn, Int.ofNat_le, Int.ofNat_lt, decide_true, decide_false, db_ct, db_cf, not_true_eq_false, not_false_eq_true, db_87e, db_37e, db_31e, db_28e, db_281e, db_211e, db_27, db_269w, db_litL, pk_lT, db_iL, db_p0_e, db_p0_n, db_p0_j, db_sub1, nI_eq, if_true, if_false, Bool.false_eq_true, db_q_84, db_g_85, r0, rd, rp, rq]
    refine db_T_gd (dw_137 h hU hd hp hq) fun v s7 hz => ?_
    obtain ⟨t1, t2, t3⟩ := hz
    dsimp only at t1 t2 t3
    refine db_T_mono (dw_196b (b := (dw_nt c g d pp (c (W + 3))).1) (v3 := db_i v) t2 ha (by rw [dw_i, t1])) fun z hz => ?_
    exact ⟨hz.1, hz.2.1, fun b b1 b2 => (hz.2.2 b b1 b2).trans (t3 b b1 b2)⟩
  · obtain ⟨⟨pp, hp, ep, rp⟩, hq, rq⟩ := b1 (by omega)
    rw [if_neg (by rw [e0]; decide), if_pos e0, dw_nI_n ep (by omega)]
    have e21 : s.1 21 5 = nI (db_n c 5) := by rw [db_21 hR (by decide)]; exact k5.1
    by_cases h5 : db_n c 5 = 0
    · rw [if_pos h5]
      unfold db_f196_b102 db_f196_b103
      simp (disch := omega) only [db_lit, eq_self, db_pI_e, db_pL_e, db_bind_some, db_bd_some, nI_add, pk_mul, nI_toInt, db_m1_t, dz_cn, Int.ofNat_le, Int.ofNat_lt, decide_true, decide_false, db_ct, db_cf, not_true_eq_false, not_false_eq_true, db_87e, db_37e, db_31e, db_28e, db_281e, db_211e, db_27, db_269w, db_litL, pk_lT, db_iL, db_p0_e, db_p0_n, db_p0_j, db_sub1, nI_eq, if_true, if_false, Bool.false_eq_true, db_q_84, db_g_85, r0, db_g_21, e21, h5, (show ¬ 18 + 1 = 18 by omega), Nat.le_refl]
      refine db_T_mono (dw_196b (b := false) (v3 := nI 0) h ha rfl) fun z hz => ?_
      exact ⟨hz.1, mono (by omega) hz.2.1, hz.2.2⟩
    · rw [if_neg h5]
      have hle : ¬ db_n c 5 ≤ 0 := by omega
      have h' : dw_Rc U s0 w c g (dw_sn sd) (db_uI s 284 9 (nI (dw_sn sd))) := ⟨db_B1_c (fun a q1 q2 q3 => db_uI_n (by omega)) rfl hB, db_uI_1, fun j hj => by rw [db_uI_n (by decide)]; exact h.2.2.1 j hj, db_Ed_u h.2.2.2 (.inl (by unfold db_ec; omega))⟩
      have f197 := dw_197 hR hO (by omega) hsd h.2.1
      have g2 : (db_uI s 284 9 (nI (dw_sn sd))).1 (85 + a) = s.1 (85 + a) := db_uI_n (by omega)
      simp (disch := omega) only [db_lit, eq_self, db_pI_e, db_pL_e, db_bind_some, db_bd_some, nI_add, pk_mul, nI_toInt, db_m1_t, dz_cn, Int.ofNat_le, Int.ofNat_lt, decide_true, decide_false, db_ct, db_cf, not_true_eq_false, not_false_eq_true, db_87e, db_37e, db_31e, db_28e, db_281e, db_211e, db_27, db_269w, db_litL, pk_lT, db_iL, db_p0_e, db_p0_n, db_p0_j, db_sub1, nI_eq, if_true, if_false, Bool.false_eq_true, db_q_84, db_g_85, r0, db_g_21, e21, hle, (show ¬ 18 + 1 = 18 by omega), f197, g2, rp, rq]
      refine db_T_gd (dw_137 h' hU (dw_dw_lt sd (by omega)) hp hq) fun v s7 hz => ?_
      obtain ⟨t1, t2, t3⟩ := hz
      dsimp only at t1 t2 t3
      have t3' : ∀ b, 287 ≤ b → b ≤ 290 → s7.1 b = s.1 b := fun b b1 b2 => by rw [t3 b b1 b2, db_uI_n (by omega)]
      unfold db_f196_b102 db_f196_b103
      cases v with
      | true =>
        rw [db_ct]
        refine db_T_mono (dw_196b (b := (dw_nt c g (dw_dw c sd) pp (c (W + 3))).1) (v3 := nI 1) t2 ha (by rw [← t1]; rfl)) fun z hz => ?_
        exact ⟨hz.1, hz.2.1, fun b b1 b2 => (hz.2.2 b b1 b2).trans (t3' b b1 b2)⟩
      | false =>
        rw [db_cf]
        refine db_T_mono (dw_196b (b := (dw_nt c g (dw_dw c sd) pp (c (W + 3))).1) (v3 := nI 0) t2 ha (by rw [← t1]; rfl)) fun z hz => ?_
        exact ⟨hz.1, hz.2.1, fun b b1 b2 => (hz.2.2 b b1 b2).trans (t3' b b1 b2)⟩
  · obtain ⟨r, hr, er, rr⟩ := b2 (.inl rfl)
    rw [if_neg (by rw [e0]; decide), if_neg (by rw [e0]; decide), if_pos e0, dw_nI_n er (by omega)]
    unfold db_f121_80
    simp (disch := omega) only [db_lit, eq_self, db_pI_e, db_pL_e, db_bind_some, db_bd_some, nI_add, pk_mul, nI_toInt, db_m1_t, dz_cn, Int.ofNat_le, Int.ofNat_lt, decide_true, decide_false, db_ct, db_cf, not_true_eq_false, not_false_eq_true, db_87e, db_37e, db_31e, db_28e, db_281e, db_211e, db_27, db_269w, db_litL, pk_lT, db_iL, db_p0_e, db_p0_n, db_p0_j, db_sub1, nI_eq, if_true, if_false, Bool.false_eq_true, db_q_84, db_g_85, r0, rr, (show ¬ 18 + 2 = 18 by omega), (show ¬ 18 + 2 = 19 by omega), (db_802 hR).1, db_112 (show r < 31 by omega)]
    cases hb : bt (c 7) r with
    | true =>
      simp (disch := omega) only [db_lit, eq_self, db_pI_e, db_pL_e, db_bind_some, db_bd_some, nI_add, pk_mul, nI_toInt, db_m1_t, dz_cn, Int.ofNat_le, Int.ofNat_lt, decide_true, decide_false, db_ct, db_cf, not_true_eq_false, not_false_eq_true, db_87e, db_37e, db_31e, db_28e, db_281e, db_211e, db_27, db_269w, db_litL, pk_lT, db_iL, db_p0_e, db_p0_n, db_p0_j, db_sub1, nI_eq, if_true, if_false, Bool.false_eq_true]
      refine db_T_mono (dw_196b (b := false) (v3 := db_i false) h ha rfl) fun z hz => ?_
      exact ⟨hz.1, mono (by omega) hz.2.1, hz.2.2⟩
    | false =>
      obtain ⟨f, hf⟩ := hO.2.2.2.2.2.2.1
      have hB7 := db_B1_7 hB ⟨_, (congrArg (fun t => t ||| db_b1 r) hf).trans (db_mk_set hr (by omega))⟩
      have h' : dw_Rc U s0 w (db_cu c 7 (c 7 ||| db_b1 r)) g sd (db_uI s 80 2 (c 7 ||| db_b1 r)) := ⟨hB7, by rw [db_uI_n (by decide)]; exact h.2.1, fun j hj => by rw [db_uI_n (by decide)]; exact h.2.2.1 j hj, db_Ed_u h.2.2.2 (.inr (by omega))⟩
      simp (disch := omega) only [db_lit, eq_self, db_pI_e, db_pL_e, db_bind_some, db_bd_some, nI_add, pk_mul, nI_toInt, db_m1_t, dz_cn, Int.ofNat_le, Int.ofNat_lt, decide_true, decide_false, db_ct, db_cf, not_true_eq_false, not_false_eq_true, db_87e, db_37e, db_31e, db_28e, db_281e, db_211e, db_27, db_269w, db_litL, pk_lT, db_iL, db_p0_e, db_p0_n, db_p0_j, db_sub1, nI_eq, if_true, if_false, Bool.false_eq_true]
      refine db_T_mono (dw_196b (b := true) (v3 := db_i true) h' ha rfl) fun z hz => ?_
      exact ⟨hz.1, mono (by omega) hz.2.1, fun b b1 b2 => by rw [hz.2.2 b b1 b2, db_uI_n (by omega)]⟩
  · obtain ⟨r, hr, er, rr⟩ := b2 (.inr rfl)
    rw [if_neg (by rw [e0]; decide), if_neg (by rw [e0]; decide), if_neg (by rw [e0]; decide), dw_nI_n er (by omega)]
    have e81 : s.1 81 r = c (91 + r) := db_81 hR hr
    have e00 : (nI 0).toInt = 0 := rfl
    have h' : dw_Rc U s0 w (db_cu c (91 + r) (nI 0)) g sd (db_uI s 81 r (nI 0)) := ⟨db_B1_91 hB hr (by omega) (by omega), by rw [db_uI_n (by decide)]; exact h.2.1, fun j hj => by rw [db_uI_n (by decide)]; exact h.2.2.1 j hj, db_Ed_u h.2.2.2 (.inr (by omega))⟩
    unfold db_f196_b140
    simp (disch := omega) only [db_lit, eq_self, db_pI_e, db_pL_e, db_bind_some, db_bd_some, nI_add, pk_mul, nI_toInt, db_m1_t, dz_cn, Int.ofNat_le, Int.ofNat_lt, decide_true, decide_false, db_ct, db_cf, not_true_eq_false, not_false_eq_true, db_87e, db_37e, db_31e, db_28e, db_281e, db_211e, db_27, db_269w, db_litL, pk_lT, db_iL, db_p0_e, db_p0_n, db_p0_j, db_sub1, nI_eq, if_true, if_false, Bool.false_eq_true, db_q_84, db_g_85, r0, rr, (show ¬ 18 + 3 = 18 by omega), (show ¬ 18 + 3 = 19 by omega), (show ¬ 18 + 3 = 20 by omega), db_g_81, db_h_81, e81]
    by_cases hx : (c (91 + r)).toInt ≤ ((0 : Nat) : Int)
    · have hx' : ¬ 0 < (c (91 + r)).toInt := by omega
      rw [decide_eq_true hx, db_ct, decide_eq_false hx']
      refine db_T_mono (dw_196b (b := false) (v3 := nI 0) h' ha rfl) fun z hz => ?_
      exact ⟨hz.1, mono (by omega) hz.2.1, fun b b1 b2 => by rw [hz.2.2 b b1 b2, db_uI_n (by omega)]⟩
    · have hx' : 0 < (c (91 + r)).toInt := by omega
      rw [decide_eq_false hx, db_cf, decide_eq_true hx']
      refine db_T_mono (dw_196b (b := true) (v3 := nI 1) h' ha rfl) fun z hz => ?_
      exact ⟨hz.1, mono (by omega) hz.2.1, fun b b1 b2 => by rw [hz.2.2 b b1 b2, db_uI_n (by omega)]⟩
end DBPC
