/-! THE CALLS THAT CHANGE NOTHING, two: readings -/
theorem db_mk_at {f : Nat → Bool} {n k : Nat} (hk : k < n) (hn : n ≤ 31) : bt (db_mk f n) k = f k := by
  rw [db_mk_bt (by omega) (by omega), decide_eq_true hk, Bool.true_and]
theorem db_or0 {x : Int32} : x ||| nI 0 = x := b_ext fun i hi => by rw [b_or, show nI 0 = (0 : Int32) from rfl, b_0, Bool.or_false]
theorem db_BR_Ec {U : Nat} {s s' : db_S} {c : db_C} {w : Nat → Int64} (hO : db_Ok U c) (h : db_Ec s s') (hR : db_BR 20 s c w) : db_BR 20 s' c w :=
  db_BR_c hO (fun a h1 h2 h3 => funext fun j => (h a j (by unfold db_ec; omega)).1) (funext fun j => (h 76 j (by unfold db_ec; omega)).2) hR
section DBQ2
variable {U : Nat} {s : db_S} {c : db_C} {w : Nat → Int64} {v x y z p q : Int32}
/-- the class's reading, with what lasts -/
theorem db_c127 (hR : db_BR 20 s c w) (hO : db_Ok U c) (hU : U ≤ 1000000000) {d : Nat} (hd : d < db_n c 5) (hp : db_O p (db_n c 1)) (hq : db_O q (db_n c 2)) : dz_T (db_f127 s (nI d) p q) (fun z => z.1 = db_rq c d p q ∧ (db_Ec s z.2 ∧ db_BR 20 z.2 c w) ∧ ∀ i, i < db_n c (127 + d) → z.2.1 273 i = db_o (db_co c (db_dr c d) (db_n c (127 + d)) p q i)) := by
  refine db_T_mono (db_127 hR hO hU hd hp hq) fun z hz => ?_
  exact ⟨hz.1, ⟨db_F1_Ec hz.2.1 (fun j => by unfold db_ec; omega), db_BR_F1 hO (by omega) hz.2.1 hR⟩, hz.2.2⟩
/-- the reference's, likewise -/
theorem db_m316 (hc : db_A s c) (hO : db_Ok U c) {d : Nat} (hd : d < db_n c 5) (hp : db_O p (db_n c 1)) (hq : db_O q (db_n c 2)) : dz_T (db_f316 s (nI d) p q) (fun z => z.1 = db_rq c d p q ∧ (db_Em s z.2 ∧ z.2.1 674 = s.1 674 ∧ db_A z.2 c) ∧ z.2.1 669 29 = nI (db_n c (127 + d)) ∧ ∀ i, i < db_n c (127 + d) → z.2.1 679 i = db_o (db_co c (db_dr c d) (db_n c (127 + d)) p q i)) := by
  refine db_T_mono (db_316 hc hO hd hp hq) fun z hz => ?_
  obtain ⟨h1, ⟨h2, h3, h4⟩, h5, h6⟩ := hz
  have e : z.2.1 674 = s.1 674 := h2 674 (by decide) (by decide) (by decide) (by decide)
  refine ⟨h1, ⟨fun a j hj => ⟨?_, by rw [h4]⟩, e, db_A_e e hc⟩, h5, h6⟩
  by_cases ha : a = 669
  · subst ha
    unfold db_em at hj
    exact h3 j (by omega) (by omega)
  · unfold db_em at hj
    rw [h2 a ha (by omega) (by omega) (by omega)]
theorem db_314 (hc : db_A s c) (hO : db_Ok U c) : db_f314 s x p q = if (db_is x (db_n c 5) && (db_im p (db_n c 1) && db_im q (db_n c 2))) = true then some (true, s) else some (false, db_uI s 669 0 (nI 2)) := by
  unfold db_f314 db_f314_b17
  simp (disch := omega) only [db_lit, eq_self, db_pI_e, db_pL_e, db_bind_some, db_bd_some, nI_add, pk_mul, nI_toInt, db_m1_t, dz_cn, Int.ofNat_le, Int.ofNat_lt, decide_true, decide_false, db_ct, db_cf, not_true_eq_false, not_false_eq_true, db_87e, db_37e, db_31e, db_28e, db_281e, db_211e, db_27, db_269w, db_litL, pk_lT, db_iL, db_p0_e, db_p0_n, db_p0_j, db_sub1, nI_eq, if_true, if_false, Bool.false_eq_true, db_297 hc hO.1.2.2.2.2.2, db_315 hc hO.1.2.1 hO.1.2.2.1]
  cases db_is x (db_n c 5) <;> cases db_im p (db_n c 1) <;> cases db_im q (db_n c 2) <;> rfl
theorem db_rdg (h : (db_is x (db_n c 5) && (db_im p (db_n c 1) && db_im q (db_n c 2))) = true) : (∃ d, d < db_n c 5 ∧ x = nI d) ∧ db_O p (db_n c 1) ∧ db_O q (db_n c 2) := by
  simp only [Bool.and_eq_true] at h
  exact ⟨db_is_t h.1, db_im_t h.2.1, db_im_t h.2.2⟩
theorem db_k26 (hI : db_Inv U s) (hU : U ≤ 1000000000) : dz_G U s (fun s => db_f124 s x p q) (fun s => db_f313 s x p q) := by
  obtain ⟨hO, hR, -⟩ := db_cur hI
  cases h : (db_is x (db_n (db_bk s 0) 5) && (db_im p (db_n (db_bk s 0) 1) && db_im q (db_n (db_bk s 0) 2))) with
  | false =>
    refine db_Gn 2 hI ?_ fun s1 hS hA => ?_
    · unfold db_f124
      simp (disch := omega) only [db_lit, eq_self, db_pI_e, db_pL_e, db_bind_some, db_bd_some, nI_add, pk_mul, nI_toInt, db_m1_t, dz_cn, Int.ofNat_le, Int.ofNat_lt, decide_true, decide_false, db_ct, db_cf, not_true_eq_false, not_false_eq_true, db_87e, db_37e, db_31e, db_28e, db_281e, db_211e, db_27, db_269w, db_litL, pk_lT, db_iL, db_p0_e, db_p0_n, db_p0_j, db_sub1, nI_eq, if_true, if_false, Bool.false_eq_true, db_125 hR hO, h]
    · unfold db_f313
      simp (disch := omega) only [db_lit, eq_self, db_pI_e, db_pL_e, db_bind_some, db_bd_some, nI_add, pk_mul, nI_toInt, db_m1_t, dz_cn, Int.ofNat_le, Int.ofNat_lt, decide_true, decide_false, db_ct, db_cf, not_true_eq_false, not_false_eq_true, db_87e, db_37e, db_31e, db_28e, db_281e, db_211e, db_27, db_269w, db_litL, pk_lT, db_iL, db_p0_e, db_p0_n, db_p0_j, db_sub1, nI_eq, if_true, if_false, Bool.false_eq_true, db_314 (db_p0_A hA) hO, h]
  | true =>
    obtain ⟨⟨d, hd, rfl⟩, hp, hq⟩ := db_rdg h
    refine db_Gq (db_rq (db_bk s 0) d p q) (nI 0) hI ?_ fun s1 hS hA => ?_
    · unfold db_f124
      simp (disch := omega) only [db_lit, eq_self, db_pI_e, db_pL_e, db_bind_some, db_bd_some, nI_add, pk_mul, nI_toInt, db_m1_t, dz_cn, Int.ofNat_le, Int.ofNat_lt, decide_true, decide_false, db_ct, db_cf, not_true_eq_false, not_false_eq_true, db_87e, db_37e, db_31e, db_28e, db_281e, db_211e, db_27, db_269w, db_litL, pk_lT, db_iL, db_p0_e, db_p0_n, db_p0_j, db_sub1, nI_eq, if_true, if_false, Bool.false_eq_true, db_125 hR hO, h]
      refine db_T_gd (db_c127 hR hO hU hd hp hq) fun v s2 hv => ?_
      exact ⟨_, rfl, hv.1, db_Sc_u hv.2.1.1⟩
    · unfold db_f313
      simp (disch := omega) only [db_lit, eq_self, db_pI_e, db_pL_e, db_bind_some, db_bd_some, nI_add, pk_mul, nI_toInt, db_m1_t, dz_cn, Int.ofNat_le, Int.ofNat_lt, decide_true, decide_false, db_ct, db_cf, not_true_eq_false, not_false_eq_true, db_87e, db_37e, db_31e, db_28e, db_281e, db_211e, db_27, db_269w, db_litL, pk_lT, db_iL, db_p0_e, db_p0_n, db_p0_j, db_sub1, nI_eq, if_true, if_false, Bool.false_eq_true, db_314 (db_p0_A hA) hO, h]
      refine db_T_gd (db_m316 (db_p0_A hA) hO hd hp hq) fun v s2 hv => ?_
      exact ⟨_, rfl, hv.1, db_Sm_0 hv.2.1.1⟩
theorem db_k28 (hI : db_Inv U s) (hU : U ≤ 1000000000) : dz_G U s (fun s => db_f134 s x y p q) (fun s => db_f326 s x y p q) := by
  obtain ⟨hO, hR, -⟩ := db_cur hI
  cases h : (db_is x (db_n (db_bk s 0) 5) && (db_im p (db_n (db_bk s 0) 1) && db_im q (db_n (db_bk s 0) 2))) with
  | false =>
    refine db_Gn 2 hI ?_ fun s1 hS hA => ?_
    · unfold db_f134
      simp (disch := omega) only [db_lit, eq_self, db_pI_e, db_pL_e, db_bind_some, db_bd_some, nI_add, pk_mul, nI_toInt, db_m1_t, dz_cn, Int.ofNat_le, Int.ofNat_lt, decide_true, decide_false, db_ct, db_cf, not_true_eq_false, not_false_eq_true, db_87e, db_37e, db_31e, db_28e, db_281e, db_211e, db_27, db_269w, db_litL, pk_lT, db_iL, db_p0_e, db_p0_n, db_p0_j, db_sub1, nI_eq, if_true, if_false, Bool.false_eq_true, db_125 hR hO, h]
    · unfold db_f326
      simp (disch := omega) only [db_lit, eq_self, db_pI_e, db_pL_e, db_bind_some, db_bd_some, nI_add, pk_mul, nI_toInt, db_m1_t, dz_cn, Int.ofNat_le, Int.ofNat_lt, decide_true, decide_false, db_ct, db_cf, not_true_eq_false, not_false_eq_true, db_87e, db_37e, db_31e, db_28e, db_281e, db_211e, db_27, db_269w, db_litL, pk_lT, db_iL, db_p0_e, db_p0_n, db_p0_j, db_sub1, nI_eq, if_true, if_false, Bool.false_eq_true, db_314 (db_p0_A hA) hO, h]
  | true =>
    obtain ⟨⟨d, hd, rfl⟩, hp, hq⟩ := db_rdg h
    have k8 := hO.1.2.2.2.2.2.2
    have hL := (hO.2.2.2.1 d hd).1.1
    have hL6 := hL.2
    have hR12 := hO.1.2.2.2.1.2
    cases hw : db_is y (db_n (db_bk s 0) (127 + d)) with
    | false =>
      refine db_Gq (-(nI 1)) (nI 8) hI ?_ fun s1 hS hA => ?_
      · unfold db_f134
        simp (disch := omega) only [db_lit, eq_self, db_pI_e, db_pL_e, db_bind_some, db_bd_some, nI_add, pk_mul, nI_toInt, db_m1_t, dz_cn, Int.ofNat_le, Int.ofNat_lt, decide_true, decide_false, db_ct, db_cf, not_true_eq_false, not_false_eq_true, db_87e, db_37e, db_31e, db_28e, db_281e, db_211e, db_27, db_269w, db_litL, pk_lT, db_iL, db_p0_e, db_p0_n, db_p0_j, db_sub1, nI_eq, if_true, if_false, Bool.false_eq_true, db_125 hR hO, h, db_g_59, (db_59 hR hd).1, hL.1, db_wi_is', hw]
        exact ⟨_, rfl, rfl, db_Sc_u db_Ec_r⟩
      · unfold db_f326 db_f326_b57
        simp (disch := omega) only [db_lit, eq_self, db_pI_e, db_pL_e, db_bind_some, db_bd_some, nI_add, pk_mul, nI_toInt, db_m1_t, dz_cn, Int.ofNat_le, Int.ofNat_lt, decide_true, decide_false, db_ct, db_cf, not_true_eq_false, not_false_eq_true, db_87e, db_37e, db_31e, db_28e, db_281e, db_211e, db_27, db_269w, db_litL, pk_lT, db_iL, db_p0_e, db_p0_n, db_p0_j, db_sub1, nI_eq, if_true, if_false, Bool.false_eq_true, db_314 (db_p0_A hA) hO, h]
        refine db_T_gd (db_m316 (db_p0_A hA) hO hd hp hq) fun v s2 hv => ?_
        obtain ⟨-, ⟨v2, -, -⟩, v3, v4⟩ := hv
        dsimp only at v2 v3 v4
        simp (disch := omega) only [db_lit, eq_self, db_pI_e, db_pL_e, db_bind_some, db_bd_some, nI_add, pk_mul, nI_toInt, db_m1_t, dz_cn, Int.ofNat_le, Int.ofNat_lt, decide_true, decide_false, db_ct, db_cf, not_true_eq_false, not_false_eq_true, db_87e, db_37e, db_31e, db_28e, db_281e, db_211e, db_27, db_269w, db_litL, pk_lT, db_iL, db_p0_e, db_p0_n, db_p0_j, db_sub1, nI_eq, if_true, if_false, Bool.false_eq_true, v3, db_wi_is', hw]
        exact ⟨_, rfl, rfl, db_Sm_u v2⟩
    | true =>
      obtain ⟨k, hk, rfl⟩ := db_is_t hw
      cases ho : db_co (db_bk s 0) (db_dr (db_bk s 0) d) (db_n (db_bk s 0) (127 + d)) p q k with
      | none =>
        refine db_Gq (-(nI 1)) (nI 8) hI ?_ fun s1 hS hA => ?_
        · unfold db_f134
          simp (disch := omega) only [db_lit, eq_self, db_pI_e, db_pL_e, db_bind_some, db_bd_some, nI_add, pk_mul, nI_toInt, db_m1_t, dz_cn, Int.ofNat_le, Int.ofNat_lt, decide_true, decide_false, db_ct, db_cf, not_true_eq_false, not_false_eq_true, db_87e, db_37e, db_31e, db_28e, db_281e, db_211e, db_27, db_269w, db_litL, pk_lT, db_iL, db_p0_e, db_p0_n, db_p0_j, db_sub1, nI_eq, if_true, if_false, Bool.false_eq_true, db_125 hR hO, h, db_g_59, (db_59 hR hd).1, hL.1, db_wi_is', hw]
          refine db_T_gd (db_c127 hR hO hU hd hp hq) fun v s2 hv => ?_
          obtain ⟨-, ⟨v2, -⟩, v4⟩ := hv
          dsimp only at v2 v4
          have e := v4 k hk
          rw [ho] at e
          have e : s2.1 273 k = -(nI 1) := e
          simp (disch := omega) only [db_lit, eq_self, db_pI_e, db_pL_e, db_bind_some, db_bd_some, nI_add, pk_mul, nI_toInt, db_m1_t, dz_cn, Int.ofNat_le, Int.ofNat_lt, decide_true, decide_false, db_ct, db_cf, not_true_eq_false, not_false_eq_true, db_87e, db_37e, db_31e, db_28e, db_281e, db_211e, db_27, db_269w, db_litL, pk_lT, db_iL, db_p0_e, db_p0_n, db_p0_j, db_sub1, nI_eq, if_true, if_false, Bool.false_eq_true, db_g_273, e]
          exact ⟨_, rfl, rfl, db_Sc_u v2⟩
        · unfold db_f326 db_f326_b57
          simp (disch := omega) only [db_lit, eq_self, db_pI_e, db_pL_e, db_bind_some, db_bd_some, nI_add, pk_mul, nI_toInt, db_m1_t, dz_cn, Int.ofNat_le, Int.ofNat_lt, decide_true, decide_false, db_ct, db_cf, not_true_eq_false, not_false_eq_true, db_87e, db_37e, db_31e, db_28e, db_281e, db_211e, db_27, db_269w, db_litL, pk_lT, db_iL, db_p0_e, db_p0_n, db_p0_j, db_sub1, nI_eq, if_true, if_false, Bool.false_eq_true, db_314 (db_p0_A hA) hO, h]
          refine db_T_gd (db_m316 (db_p0_A hA) hO hd hp hq) fun v s2 hv => ?_
          obtain ⟨-, ⟨v2, -, -⟩, v3, v4⟩ := hv
          dsimp only at v2 v3 v4
          have e := v4 k hk
          rw [ho] at e
          have e : s2.1 679 k = -(nI 1) := e
          simp (disch := omega) only [db_lit, eq_self, db_pI_e, db_pL_e, db_bind_some, db_bd_some, nI_add, pk_mul, nI_toInt, db_m1_t, dz_cn, Int.ofNat_le, Int.ofNat_lt, decide_true, decide_false, db_ct, db_cf, not_true_eq_false, not_false_eq_true, db_87e, db_37e, db_31e, db_28e, db_281e, db_211e, db_27, db_269w, db_litL, pk_lT, db_iL, db_p0_e, db_p0_n, db_p0_j, db_sub1, nI_eq, if_true, if_false, Bool.false_eq_true, v3, db_wi_is', hw, db_g_679, e]
          rw [show decide (((0 : Nat) : Int) ≤ -1) = false by decide, db_cf]
          exact ⟨_, rfl, rfl, db_Sm_u v2⟩
      | some r =>
        have hr := db_fst_lt ho
        have h0 : 0 ≤ r := by omega
        refine db_Gq (nI r) (nI 0) hI ?_ fun s1 hS hA => ?_
        · unfold db_f134
          simp (disch := omega) only [db_lit, eq_self, db_pI_e, db_pL_e, db_bind_some, db_bd_some, nI_add, pk_mul, nI_toInt, db_m1_t, dz_cn, Int.ofNat_le, Int.ofNat_lt, decide_true, decide_false, db_ct, db_cf, not_true_eq_false, not_false_eq_true, db_87e, db_37e, db_31e, db_28e, db_281e, db_211e, db_27, db_269w, db_litL, pk_lT, db_iL, db_p0_e, db_p0_n, db_p0_j, db_sub1, nI_eq, if_true, if_false, Bool.false_eq_true, db_125 hR hO, h, db_g_59, (db_59 hR hd).1, hL.1, db_wi_is', hw]
          refine db_T_gd (db_c127 hR hO hU hd hp hq) fun v s2 hv => ?_
          obtain ⟨-, ⟨v2, -⟩, v4⟩ := hv
          dsimp only at v2 v4
          have e := v4 k hk
          rw [ho] at e
          have e : s2.1 273 k = nI r := e
          simp (disch := omega) only [db_lit, eq_self, db_pI_e, db_pL_e, db_bind_some, db_bd_some, nI_add, pk_mul, nI_toInt, db_m1_t, dz_cn, Int.ofNat_le, Int.ofNat_lt, decide_true, decide_false, db_ct, db_cf, not_true_eq_false, not_false_eq_true, db_87e, db_37e, db_31e, db_28e, db_281e, db_211e, db_27, db_269w, db_litL, pk_lT, db_iL, db_p0_e, db_p0_n, db_p0_j, db_sub1, nI_eq, if_true, if_false, Bool.false_eq_true, db_g_273, e, db_m1_ne]
          exact ⟨_, rfl, rfl, db_Sc_u v2⟩
        · unfold db_f326
          simp (disch := omega) only [db_lit, eq_self, db_pI_e, db_pL_e, db_bind_some, db_bd_some, nI_add, pk_mul, nI_toInt, db_m1_t, dz_cn, Int.ofNat_le, Int.ofNat_lt, decide_true, decide_false, db_ct, db_cf, not_true_eq_false, not_false_eq_true, db_87e, db_37e, db_31e, db_28e, db_281e, db_211e, db_27, db_269w, db_litL, pk_lT, db_iL, db_p0_e, db_p0_n, db_p0_j, db_sub1, nI_eq, if_true, if_false, Bool.false_eq_true, db_314 (db_p0_A hA) hO, h]
          refine db_T_gd (db_m316 (db_p0_A hA) hO hd hp hq) fun v s2 hv => ?_
          obtain ⟨-, ⟨v2, -, -⟩, v3, v4⟩ := hv
          dsimp only at v2 v3 v4
          have e := v4 k hk
          rw [ho] at e
          have e : s2.1 679 k = nI r := e
          simp (disch := omega) only [db_lit, eq_self, db_pI_e, db_pL_e, db_bind_some, db_bd_some, nI_add, pk_mul, nI_toInt, db_m1_t, dz_cn, Int.ofNat_le, Int.ofNat_lt, decide_true, decide_false, db_ct, db_cf, not_true_eq_false, not_false_eq_true, db_87e, db_37e, db_31e, db_28e, db_281e, db_211e, db_27, db_269w, db_litL, pk_lT, db_iL, db_p0_e, db_p0_n, db_p0_j, db_sub1, nI_eq, if_true, if_false, Bool.false_eq_true, v3, db_wi_is', hw, db_g_679, e, h0]
          exact ⟨_, rfl, rfl, db_Sm_0 v2⟩
theorem db_k29 (hI : db_Inv U s) (hU : U ≤ 1000000000) : dz_G U s (fun s => db_f135 s x y p q) (fun s => db_f327 s x y p q) := by
  obtain ⟨hO, hR, -⟩ := db_cur hI
  cases h : (db_is x (db_n (db_bk s 0) 5) && (db_im p (db_n (db_bk s 0) 1) && db_im q (db_n (db_bk s 0) 2))) with
  | false =>
    refine db_Gn 2 hI ?_ fun s1 hS hA => ?_
    · unfold db_f135
      simp (disch := omega) only [db_lit, eq_self, db_pI_e, db_pL_e, db_bind_some, db_bd_some, nI_add, pk_mul, nI_toInt, db_m1_t, dz_cn, Int.ofNat_le, Int.ofNat_lt, decide_true, decide_false, db_ct, db_cf, not_true_eq_false, not_false_eq_true, db_87e, db_37e, db_31e, db_28e, db_281e, db_211e, db_27, db_269w, db_litL, pk_lT, db_iL, db_p0_e, db_p0_n, db_p0_j, db_sub1, nI_eq, if_true, if_false, Bool.false_eq_true, db_125 hR hO, h]
    · unfold db_f327
      simp (disch := omega) only [db_lit, eq_self, db_pI_e, db_pL_e, db_bind_some, db_bd_some, nI_add, pk_mul, nI_toInt, db_m1_t, dz_cn, Int.ofNat_le, Int.ofNat_lt, decide_true, decide_false, db_ct, db_cf, not_true_eq_false, not_false_eq_true, db_87e, db_37e, db_31e, db_28e, db_281e, db_211e, db_27, db_269w, db_litL, pk_lT, db_iL, db_p0_e, db_p0_n, db_p0_j, db_sub1, nI_eq, if_true, if_false, Bool.false_eq_true, db_314 (db_p0_A hA) hO, h]
  | true =>
    obtain ⟨⟨d, hd, rfl⟩, hp, hq⟩ := db_rdg h
    have k8 := hO.1.2.2.2.2.2.2
    have hL := (hO.2.2.2.1 d hd).1.1
    have hL6 := hL.2
    have hR12 := hO.1.2.2.2.1.2
    cases hw : db_is y (db_n (db_bk s 0) (127 + d)) with
    | false =>
      refine db_Gq (-(nI 1)) (nI 8) hI ?_ fun s1 hS hA => ?_
      · unfold db_f135
        simp (disch := omega) only [db_lit, eq_self, db_pI_e, db_pL_e, db_bind_some, db_bd_some, nI_add, pk_mul, nI_toInt, db_m1_t, dz_cn, Int.ofNat_le, Int.ofNat_lt, decide_true, decide_false, db_ct, db_cf, not_true_eq_false, not_false_eq_true, db_87e, db_37e, db_31e, db_28e, db_281e, db_211e, db_27, db_269w, db_litL, pk_lT, db_iL, db_p0_e, db_p0_n, db_p0_j, db_sub1, nI_eq, if_true, if_false, Bool.false_eq_true, db_125 hR hO, h, db_g_59, (db_59 hR hd).1, hL.1, db_wi_is', hw]
        exact ⟨_, rfl, rfl, db_Sc_u db_Ec_r⟩
      · unfold db_f327
        simp (disch := omega) only [db_lit, eq_self, db_pI_e, db_pL_e, db_bind_some, db_bd_some, nI_add, pk_mul, nI_toInt, db_m1_t, dz_cn, Int.ofNat_le, Int.ofNat_lt, decide_true, decide_false, db_ct, db_cf, not_true_eq_false, not_false_eq_true, db_87e, db_37e, db_31e, db_28e, db_281e, db_211e, db_27, db_269w, db_litL, pk_lT, db_iL, db_p0_e, db_p0_n, db_p0_j, db_sub1, nI_eq, if_true, if_false, Bool.false_eq_true, db_314 (db_p0_A hA) hO, h]
        refine db_T_gd (db_m316 (db_p0_A hA) hO hd hp hq) fun v s2 hv => ?_
        obtain ⟨-, ⟨v2, -, -⟩, v3, v4⟩ := hv
        dsimp only at v2 v3 v4
        simp (disch := omega) only [db_lit, eq_self, db_pI_e, db_pL_e, db_bind_some, db_bd_some, nI_add, pk_mul, nI_toInt, db_m1_t, dz_cn, Int.ofNat_le, Int.ofNat_lt, decide_true, decide_false, db_ct, db_cf, not_true_eq_false, not_false_eq_true, db_87e, db_37e, db_31e, db_28e, db_281e, db_211e, db_27, db_269w, db_litL, pk_lT, db_iL, db_p0_e, db_p0_n, db_p0_j, db_sub1, nI_eq, if_true, if_false, Bool.false_eq_true, v3, db_wi_is', hw]
        exact ⟨_, rfl, rfl, db_Sm_u v2⟩
    | true =>
      obtain ⟨k, hk, rfl⟩ := db_is_t hw
      cases ho : db_co (db_bk s 0) (db_dr (db_bk s 0) d) (db_n (db_bk s 0) (127 + d)) p q k with
      | none =>
        refine db_Gq (nI 0) (nI 0) hI ?_ fun s1 hS hA => ?_
        · unfold db_f135 db_f135_b97
          simp (disch := omega) only [db_lit, eq_self, db_pI_e, db_pL_e, db_bind_some, db_bd_some, nI_add, pk_mul, nI_toInt, db_m1_t, dz_cn, Int.ofNat_le, Int.ofNat_lt, decide_true, decide_false, db_ct, db_cf, not_true_eq_false, not_false_eq_true, db_87e, db_37e, db_31e, db_28e, db_281e, db_211e, db_27, db_269w, db_litL, pk_lT, db_iL, db_p0_e, db_p0_n, db_p0_j, db_sub1, nI_eq, if_true, if_false, Bool.false_eq_true, db_125 hR hO, h, db_g_59, (db_59 hR hd).1, hL.1, db_wi_is', hw]
          refine db_T_gd (db_c127 hR hO hU hd hp hq) fun v s2 hv => ?_
          obtain ⟨-, ⟨v2, -⟩, v4⟩ := hv
          dsimp only at v2 v4
          have e := v4 k hk
          rw [ho] at e
          have e : s2.1 273 k = -(nI 1) := e
          simp (disch := omega) only [db_lit, eq_self, db_pI_e, db_pL_e, db_bind_some, db_bd_some, nI_add, pk_mul, nI_toInt, db_m1_t, dz_cn, Int.ofNat_le, Int.ofNat_lt, decide_true, decide_false, db_ct, db_cf, not_true_eq_false, not_false_eq_true, db_87e, db_37e, db_31e, db_28e, db_281e, db_211e, db_27, db_269w, db_litL, pk_lT, db_iL, db_p0_e, db_p0_n, db_p0_j, db_sub1, nI_eq, if_true, if_false, Bool.false_eq_true, db_g_273, e]
          exact ⟨_, rfl, rfl, db_Sc_u v2⟩
        · unfold db_f327
          simp (disch := omega) only [db_lit, eq_self, db_pI_e, db_pL_e, db_bind_some, db_bd_some, nI_add, pk_mul, nI_toInt, db_m1_t, dz_cn, Int.ofNat_le, Int.ofNat_lt, decide_true, decide_false, db_ct, db_cf, not_true_eq_false, not_false_eq_true, db_87e, db_37e, db_31e, db_28e, db_281e, db_211e, db_27, db_269w, db_litL, pk_lT, db_iL, db_p0_e, db_p0_n, db_p0_j, db_sub1, nI_eq, if_true, if_false, Bool.false_eq_true, db_314 (db_p0_A hA) hO, h]
          refine db_T_gd (db_m316 (db_p0_A hA) hO hd hp hq) fun v s2 hv => ?_
          obtain ⟨-, ⟨v2, -, -⟩, v3, v4⟩ := hv
          dsimp only at v2 v3 v4
          have e := v4 k hk
          rw [ho] at e
          have e : s2.1 679 k = -(nI 1) := e
          simp (disch := omega) only [db_lit, eq_self, db_pI_e, db_pL_e, db_bind_some, db_bd_some, nI_add, pk_mul, nI_toInt, db_m1_t, dz_cn, Int.ofNat_le, Int.ofNat_lt, decide_true, decide_false, db_ct, db_cf, not_true_eq_false, not_false_eq_true, db_87e, db_37e, db_31e, db_28e, db_281e, db_211e, db_27, db_269w, db_litL, pk_lT, db_iL, db_p0_e, db_p0_n, db_p0_j, db_sub1, nI_eq, if_true, if_false, Bool.false_eq_true, v3, db_wi_is', hw, db_g_679, e]
          rw [show decide (((0 : Nat) : Int) ≤ -1) = false by decide, db_cf]
          exact ⟨_, rfl, rfl, db_Sm_0 v2⟩
      | some r =>
        have hr := db_fst_lt ho
        have h0 : 0 ≤ r := by omega
        refine db_Gq (if db_ow (db_bk s 0) p q then -(db_wo (db_bk s 0) r) else db_wo (db_bk s 0) r) (nI 0) hI ?_ fun s1 hS hA => ?_
        · unfold db_f135 db_f135_b97
          simp (disch := omega) only [db_lit, eq_self, db_pI_e, db_pL_e, db_bind_some, db_bd_some, nI_add, pk_mul, nI_toInt, db_m1_t, dz_cn, Int.ofNat_le, Int.ofNat_lt, decide_true, decide_false, db_ct, db_cf, not_true_eq_false, not_false_eq_true, db_87e, db_37e, db_31e, db_28e, db_281e, db_211e, db_27, db_269w, db_litL, pk_lT, db_iL, db_p0_e, db_p0_n, db_p0_j, db_sub1, nI_eq, if_true, if_false, Bool.false_eq_true, db_125 hR hO, h, db_g_59, (db_59 hR hd).1, hL.1, db_wi_is', hw]
          refine db_T_gd (db_c127 hR hO hU hd hp hq) fun v s2 hv => ?_
          obtain ⟨-, ⟨v2, v2'⟩, v4⟩ := hv
          dsimp only at v2 v2' v4
          have e := v4 k hk
          rw [ho] at e
          have e : s2.1 273 k = nI r := e
          simp (disch := omega) only [db_lit, eq_self, db_pI_e, db_pL_e, db_bind_some, db_bd_some, nI_add, pk_mul, nI_toInt, db_m1_t, dz_cn, Int.ofNat_le, Int.ofNat_lt, decide_true, decide_false, db_ct, db_cf, not_true_eq_false, not_false_eq_true, db_87e, db_37e, db_31e, db_28e, db_281e, db_211e, db_27, db_269w, db_litL, pk_lT, db_iL, db_p0_e, db_p0_n, db_p0_j, db_sub1, nI_eq, if_true, if_false, Bool.false_eq_true, db_g_273, e, db_m1_ne, db_128 v2' hO hp hq, db_104 v2' hO hU hr]
          refine ⟨_, rfl, ?_, db_Sc_u v2⟩
          show (if db_ow (db_bk s 0) p q then -(nI 1) else nI 1) * db_wo (db_bk s 0) r = _
          cases db_ow (db_bk s 0) p q
          · exact Int32.one_mul _
          · show -(nI 1) * _ = -_
            rw [Int32.neg_mul]
            congr 1
            exact Int32.one_mul _
        · unfold db_f327
          simp (disch := omega) only [db_lit, eq_self, db_pI_e, db_pL_e, db_bind_some, db_bd_some, nI_add, pk_mul, nI_toInt, db_m1_t, dz_cn, Int.ofNat_le, Int.ofNat_lt, decide_true, decide_false, db_ct, db_cf, not_true_eq_false, not_false_eq_true, db_87e, db_37e, db_31e, db_28e, db_281e, db_211e, db_27, db_269w, db_litL, pk_lT, db_iL, db_p0_e, db_p0_n, db_p0_j, db_sub1, nI_eq, if_true, if_false, Bool.false_eq_true, db_314 (db_p0_A hA) hO, h]
          refine db_T_gd (db_m316 (db_p0_A hA) hO hd hp hq) fun v s2 hv => ?_
          obtain ⟨-, ⟨v2, -, v2'⟩, v3, v4⟩ := hv
          dsimp only at v2 v2' v3 v4
          have e := v4 k hk
          rw [ho] at e
          have e : s2.1 679 k = nI r := e
          simp (disch := omega) only [db_lit, eq_self, db_pI_e, db_pL_e, db_bind_some, db_bd_some, nI_add, pk_mul, nI_toInt, db_m1_t, dz_cn, Int.ofNat_le, Int.ofNat_lt, decide_true, decide_false, db_ct, db_cf, not_true_eq_false, not_false_eq_true, db_87e, db_37e, db_31e, db_28e, db_281e, db_211e, db_27, db_269w, db_litL, pk_lT, db_iL, db_p0_e, db_p0_n, db_p0_j, db_sub1, nI_eq, if_true, if_false, Bool.false_eq_true, v3, db_wi_is', hw, db_g_679, e, h0, db_322 v2' hp hO.1.2.1.2 hq hO.1.2.2.1.2, db_290 v2']
          cases db_ow (db_bk s 0) p q
          · exact ⟨_, rfl, rfl, db_Sm_0 v2⟩
          · exact ⟨_, rfl, rfl, db_Sm_0 v2⟩
/-- the rules that count, as a set -/
def db_cs (c : db_C) (row : Nat → Int32) (n : Nat) (p q : Int32) : Nat → Int32
  | 0 => nI 0
  | i + 1 => db_cs c row n p q i ||| (match db_co c row n p q i with
    | none => nI 0
    | some r => db_b1 r)
def dz_cq (c : db_C) (d : Nat) (p q : Int32) : Int32 := db_cs c (db_dr c d) (db_n c (127 + d)) p q (db_n c (127 + d))
theorem db_c140 (hR : db_BR 20 s c w) (hO : db_Ok U c) (hU : U ≤ 1000000000) {d : Nat} (hd : d < db_n c 5) (hp : db_O p (db_n c 1)) (hq : db_O q (db_n c 2)) : dz_T (db_f140 s (nI d) p q) (fun z => z.1 = dz_cq c d p q ∧ db_Ec s z.2 ∧ db_BR 20 z.2 c w) := by
  have k8 := hO.1.2.2.2.2.2.2
  have hL := (hO.2.2.2.1 d hd).1.1
  have hL6 := hL.2
  have hR12 := hO.1.2.2.2.1.2
  unfold db_f140
  refine db_T_gd (db_c127 hR hO hU hd hp hq) fun v s2 hv => ?_
  obtain ⟨-, ⟨v2, v3⟩, v4⟩ := hv
  dsimp only at v2 v3 v4
  have key : db_f140_b14 db_FU s2 (nI d) (nI 0) (nI 0) = some (dz_cq c d p q, s2) := by
    refine db_fold (L := fun n v k => db_f140_b14 n s2 (nI d) v (nI k)) (N := db_n c (127 + d)) (db_cs c (db_dr c d) (db_n c (127 + d)) p q) (fun n => ?_) (fun n k hk => ?_) (by unfold db_FU; omega)
    · show db_f140_b14 (n + 1) s2 (nI d) _ (nI (db_n c (127 + d))) = _
      rw [db_f140_b14]
      simp (disch := omega) only [db_lit, eq_self, db_pI_e, db_pL_e, db_bind_some, db_bd_some, nI_add, pk_mul, nI_toInt, db_m1_t, dz_cn, Int.ofNat_le, Int.ofNat_lt, decide_true, decide_false, db_ct, db_cf, not_true_eq_false, not_false_eq_true, db_87e, db_37e, db_31e, db_28e, db_281e, db_211e, db_27, db_269w, db_litL, pk_lT, db_iL, db_p0_e, db_p0_n, db_p0_j, db_sub1, nI_eq, if_true, if_false, Bool.false_eq_true, db_g_59, (db_59 v3 hd).1, hL.1, Nat.le_refl]
      rfl
    · show db_f140_b14 (n + 1) s2 (nI d) _ (nI k) = db_f140_b14 n s2 (nI d) (db_cs c (db_dr c d) (db_n c (127 + d)) p q k ||| (match db_co c (db_dr c d) (db_n c (127 + d)) p q k with | none => nI 0 | some r => db_b1 r)) (nI (k + 1))
      rw [db_f140_b14]
      have h7 : ¬ db_n c (127 + d) ≤ k := by omega
      have e := v4 k hk
      cases ho : db_co c (db_dr c d) (db_n c (127 + d)) p q k with
      | none =>
        rw [ho] at e
        have e : s2.1 273 k = -(nI 1) := e
        simp (disch := omega) only [db_lit, eq_self, db_pI_e, db_pL_e, db_bind_some, db_bd_some, nI_add, pk_mul, nI_toInt, db_m1_t, dz_cn, Int.ofNat_le, Int.ofNat_lt, decide_true, decide_false, db_ct, db_cf, not_true_eq_false, not_false_eq_true, db_87e, db_37e, db_31e, db_28e, db_281e, db_211e, db_27, db_269w, db_litL, pk_lT, db_iL, db_p0_e, db_p0_n, db_p0_j, db_sub1, nI_eq, if_true, if_false, Bool.false_eq_true, db_g_59, (db_59 v3 hd).1, hL.1, h7, db_g_273, e, db_f140_b53]
        rw [db_or0]
      | some r =>
        rw [ho] at e
        have e : s2.1 273 k = nI r := e
        have hr := db_fst_lt ho
        simp (disch := omega) only [db_lit, eq_self, db_pI_e, db_pL_e, db_bind_some, db_bd_some, nI_add, pk_mul, nI_toInt, db_m1_t, dz_cn, Int.ofNat_le, Int.ofNat_lt, decide_true, decide_false, db_ct, db_cf, not_true_eq_false, not_false_eq_true, db_87e, db_37e, db_31e, db_28e, db_281e, db_211e, db_27, db_269w, db_litL, pk_lT, db_iL, db_p0_e, db_p0_n, db_p0_j, db_sub1, nI_eq, if_true, if_false, Bool.false_eq_true, db_g_59, (db_59 v3 hd).1, hL.1, h7, db_g_273, e, db_f140_b53, db_m1_ne]
        rfl
  exact ⟨_, key, rfl, v2, v3⟩
theorem db_m329 {row : Nat → Int32} {n : Nat} (hn : n ≤ 8) (hO : db_Ok U c) (h29 : s.1 669 29 = nI n) (h9 : ∀ i, i < n → s.1 679 i = db_o (db_co c row n p q i)) : db_f329 s = some (db_cs c row n p q n) := by
  have hR12 := hO.1.2.2.2.1.2
  unfold db_f329
  refine db_fold (L := fun m v k => db_f329_b4 s m v (nI k)) (N := n) (db_cs c row n p q) (fun m => ?_) (fun m k hk => ?_) (n := db_FU) (by unfold db_FU; omega)
  · show db_f329_b4 s (m + 1) _ (nI n) = _
    rw [db_f329_b4]
    simp (disch := omega) only [db_lit, eq_self, db_pI_e, db_pL_e, db_bind_some, db_bd_some, nI_add, pk_mul, nI_toInt, db_m1_t, dz_cn, Int.ofNat_le, Int.ofNat_lt, decide_true, decide_false, db_ct, db_cf, not_true_eq_false, not_false_eq_true, db_87e, db_37e, db_31e, db_28e, db_281e, db_211e, db_27, db_269w, db_litL, pk_lT, db_iL, db_p0_e, db_p0_n, db_p0_j, db_sub1, nI_eq, if_true, if_false, Bool.false_eq_true, h29, Nat.le_refl]
  · show db_f329_b4 s (m + 1) _ (nI k) = db_f329_b4 s m (db_cs c row n p q k ||| (match db_co c row n p q k with | none => nI 0 | some r => db_b1 r)) (nI (k + 1))
    rw [db_f329_b4]
    have h7 : ¬ n ≤ k := by omega
    have e := h9 k hk
    cases ho : db_co c row n p q k with
    | none =>
      rw [ho] at e
      have e : s.1 679 k = -(nI 1) := e
      simp (disch := omega) only [db_lit, eq_self, db_pI_e, db_pL_e, db_bind_some, db_bd_some, nI_add, pk_mul, nI_toInt, db_m1_t, dz_cn, Int.ofNat_le, Int.ofNat_lt, decide_true, decide_false, db_ct, db_cf, not_true_eq_false, not_false_eq_true, db_87e, db_37e, db_31e, db_28e, db_281e, db_211e, db_27, db_269w, db_litL, pk_lT, db_iL, db_p0_e, db_p0_n, db_p0_j, db_sub1, nI_eq, if_true, if_false, Bool.false_eq_true, h29, h7, db_g_679, e, db_f329_b34]
      rw [show decide (((0 : Nat) : Int) ≤ -1) = false by decide, db_cf]
    | some r =>
      rw [ho] at e
      have e : s.1 679 k = nI r := e
      have hr := db_fst_lt ho
      have h0 : 0 ≤ r := by omega
      simp (disch := omega) only [db_lit, eq_self, db_pI_e, db_pL_e, db_bind_some, db_bd_some, nI_add, pk_mul, nI_toInt, db_m1_t, dz_cn, Int.ofNat_le, Int.ofNat_lt, decide_true, decide_false, db_ct, db_cf, not_true_eq_false, not_false_eq_true, db_87e, db_37e, db_31e, db_28e, db_281e, db_211e, db_27, db_269w, db_litL, pk_lT, db_iL, db_p0_e, db_p0_n, db_p0_j, db_sub1, nI_eq, if_true, if_false, Bool.false_eq_true, h29, h7, db_g_679, e, db_f329_b34, h0]
      rfl
theorem db_k31 (hI : db_Inv U s) (hU : U ≤ 1000000000) : dz_G U s (fun s => db_f139 s x p q) (fun s => db_f328 s x p q) := by
  obtain ⟨hO, hR, -⟩ := db_cur hI
  cases h : (db_is x (db_n (db_bk s 0) 5) && (db_im p (db_n (db_bk s 0) 1) && db_im q (db_n (db_bk s 0) 2))) with
  | false =>
    refine db_Gn 2 hI ?_ fun s1 hS hA => ?_
    · unfold db_f139
      simp (disch := omega) only [db_lit, eq_self, db_pI_e, db_pL_e, db_bind_some, db_bd_some, nI_add, pk_mul, nI_toInt, db_m1_t, dz_cn, Int.ofNat_le, Int.ofNat_lt, decide_true, decide_false, db_ct, db_cf, not_true_eq_false, not_false_eq_true, db_87e, db_37e, db_31e, db_28e, db_281e, db_211e, db_27, db_269w, db_litL, pk_lT, db_iL, db_p0_e, db_p0_n, db_p0_j, db_sub1, nI_eq, if_true, if_false, Bool.false_eq_true, db_125 hR hO, h]
    · unfold db_f328
      simp (disch := omega) only [db_lit, eq_self, db_pI_e, db_pL_e, db_bind_some, db_bd_some, nI_add, pk_mul, nI_toInt, db_m1_t, dz_cn, Int.ofNat_le, Int.ofNat_lt, decide_true, decide_false, db_ct, db_cf, not_true_eq_false, not_false_eq_true, db_87e, db_37e, db_31e, db_28e, db_281e, db_211e, db_27, db_269w, db_litL, pk_lT, db_iL, db_p0_e, db_p0_n, db_p0_j, db_sub1, nI_eq, if_true, if_false, Bool.false_eq_true, db_314 (db_p0_A hA) hO, h]
  | true =>
    obtain ⟨⟨d, hd, rfl⟩, hp, hq⟩ := db_rdg h
    have hL6 := (hO.2.2.2.1 d hd).1.1.2
    refine db_Gq (dz_cq (db_bk s 0) d p q) (nI 0) hI ?_ fun s1 hS hA => ?_
    · unfold db_f139
      simp (disch := omega) only [db_lit, eq_self, db_pI_e, db_pL_e, db_bind_some, db_bd_some, nI_add, pk_mul, nI_toInt, db_m1_t, dz_cn, Int.ofNat_le, Int.ofNat_lt, decide_true, decide_false, db_ct, db_cf, not_true_eq_false, not_false_eq_true, db_87e, db_37e, db_31e, db_28e, db_281e, db_211e, db_27, db_269w, db_litL, pk_lT, db_iL, db_p0_e, db_p0_n, db_p0_j, db_sub1, nI_eq, if_true, if_false, Bool.false_eq_true, db_125 hR hO, h]
      refine db_T_gd (db_c140 hR hO hU hd hp hq) fun v s2 hv => ?_
      exact ⟨_, rfl, hv.1, db_Sc_u hv.2.1⟩
    · unfold db_f328
      simp (disch := omega) only [db_lit, eq_self, db_pI_e, db_pL_e, db_bind_some, db_bd_some, nI_add, pk_mul, nI_toInt, db_m1_t, dz_cn, Int.ofNat_le, Int.ofNat_lt, decide_true, decide_false, db_ct, db_cf, not_true_eq_false, not_false_eq_true, db_87e, db_37e, db_31e, db_28e, db_281e, db_211e, db_27, db_269w, db_litL, pk_lT, db_iL, db_p0_e, db_p0_n, db_p0_j, db_sub1, nI_eq, if_true, if_false, Bool.false_eq_true, db_314 (db_p0_A hA) hO, h]
      refine db_T_gd (db_m316 (db_p0_A hA) hO hd hp hq) fun v s2 hv => ?_
      obtain ⟨-, ⟨v2, -, -⟩, v3, v4⟩ := hv
      dsimp only at v2 v3 v4
      simp (disch := omega) only [db_lit, eq_self, db_pI_e, db_pL_e, db_bind_some, db_bd_some, nI_add, pk_mul, nI_toInt, db_m1_t, dz_cn, Int.ofNat_le, Int.ofNat_lt, decide_true, decide_false, db_ct, db_cf, not_true_eq_false, not_false_eq_true, db_87e, db_37e, db_31e, db_28e, db_281e, db_211e, db_27, db_269w, db_litL, pk_lT, db_iL, db_p0_e, db_p0_n, db_p0_j, db_sub1, nI_eq, if_true, if_false, Bool.false_eq_true, db_m329 (by omega) hO v3 v4]
      exact ⟨_, rfl, rfl, db_Sm_0 v2⟩
theorem db_k19 (hI : db_Inv U s) : dz_G U s (fun s => db_f111 s x) (fun s => db_f302 s x) := by
  obtain ⟨hO, hR, -⟩ := db_cur hI
  have k3 := db_Ok_K hO (show 3 < 6 by omega)
  have k12 := k3.2
  cases h : db_is x (db_n (db_bk s 0) 3) with
  | false =>
    refine db_Gn 2 hI ?_ fun s1 hS hA => ?_
    · unfold db_f111
      simp (disch := omega) only [db_lit, eq_self, db_pI_e, db_pL_e, db_bind_some, db_bd_some, nI_add, pk_mul, nI_toInt, db_m1_t, dz_cn, Int.ofNat_le, Int.ofNat_lt, decide_true, decide_false, db_ct, db_cf, not_true_eq_false, not_false_eq_true, db_87e, db_37e, db_31e, db_28e, db_281e, db_211e, db_27, db_269w, db_litL, pk_lT, db_iL, db_p0_e, db_p0_n, db_p0_j, db_sub1, nI_eq, if_true, if_false, Bool.false_eq_true, db_103 hR hO, h]
    · unfold db_f302
      simp (disch := omega) only [db_lit, eq_self, db_pI_e, db_pL_e, db_bind_some, db_bd_some, nI_add, pk_mul, nI_toInt, db_m1_t, dz_cn, Int.ofNat_le, Int.ofNat_lt, decide_true, decide_false, db_ct, db_cf, not_true_eq_false, not_false_eq_true, db_87e, db_37e, db_31e, db_28e, db_281e, db_211e, db_27, db_269w, db_litL, pk_lT, db_iL, db_p0_e, db_p0_n, db_p0_j, db_sub1, nI_eq, if_true, if_false, Bool.false_eq_true, db_289 (db_p0_A hA) k3, h]
  | true =>
    obtain ⟨r, hr, rfl⟩ := db_is_t h
    have h3 := db_rs_lt (c := db_bk s 0) 12 r
    refine db_Gq (nI (db_st (db_bk s 0) r)) (nI 0) hI ?_ fun s1 hS hA => ?_
    · unfold db_f111 db_f111_b55
      simp (disch := omega) only [db_lit, eq_self, db_pI_e, db_pL_e, db_bind_some, db_bd_some, nI_add, pk_mul, nI_toInt, db_m1_t, dz_cn, Int.ofNat_le, Int.ofNat_lt, decide_true, decide_false, db_ct, db_cf, not_true_eq_false, not_false_eq_true, db_87e, db_37e, db_31e, db_28e, db_281e, db_211e, db_27, db_269w, db_litL, pk_lT, db_iL, db_p0_e, db_p0_n, db_p0_j, db_sub1, nI_eq, if_true, if_false, Bool.false_eq_true, db_103 hR hO, h, (db_2013 hR).1, (db_2013 hR).2, db_112 (show r < 31 by omega), db_mk_at hr (show db_n (db_bk s 0) 3 ≤ 31 by omega)]
      rcases (show db_st (db_bk s 0) r = 0 ∨ db_st (db_bk s 0) r = 1 ∨ db_st (db_bk s 0) r = 2 by unfold db_st; omega) with e | e | e
      · rw [e]; exact ⟨_, rfl, rfl, db_Sc_u db_Ec_r⟩
      · rw [e]; exact ⟨_, rfl, rfl, db_Sc_u db_Ec_r⟩
      · rw [e]; exact ⟨_, rfl, rfl, db_Sc_u db_Ec_r⟩
    · unfold db_f302
      simp (disch := omega) only [db_lit, eq_self, db_pI_e, db_pL_e, db_bind_some, db_bd_some, nI_add, pk_mul, nI_toInt, db_m1_t, dz_cn, Int.ofNat_le, Int.ofNat_lt, decide_true, decide_false, db_ct, db_cf, not_true_eq_false, not_false_eq_true, db_87e, db_37e, db_31e, db_28e, db_281e, db_211e, db_27, db_269w, db_litL, pk_lT, db_iL, db_p0_e, db_p0_n, db_p0_j, db_sub1, nI_eq, if_true, if_false, Bool.false_eq_true, db_289 (db_p0_A hA) k3, h]
      refine db_T_go (db_284 (db_p0_A hA) (db_Ok_K hO (by omega)) k3) fun s2 hv => ?_
      simp (disch := omega) only [db_lit, eq_self, db_pI_e, db_pL_e, db_bind_some, db_bd_some, nI_add, pk_mul, nI_toInt, db_m1_t, dz_cn, Int.ofNat_le, Int.ofNat_lt, decide_true, decide_false, db_ct, db_cf, not_true_eq_false, not_false_eq_true, db_87e, db_37e, db_31e, db_28e, db_281e, db_211e, db_27, db_269w, db_litL, pk_lT, db_iL, db_p0_e, db_p0_n, db_p0_j, db_sub1, nI_eq, if_true, if_false, Bool.false_eq_true, db_g_677, hv.2 r (by omega)]
      exact ⟨_, rfl, rfl, db_Sm_0 (db_F1_Em hv.1 (fun j => by unfold db_em; omega))⟩
theorem db_306 (hc : db_A s c) (hO : db_Ok U c) {a : Nat} : db_f306 s (nI a) = some (db_mk (fun b => db_hit c a b) (db_n c 3)) := by
  have k3 := db_Ok_K hO (show 3 < 6 by omega)
  have k12 := k3.2
  unfold db_f306
  refine db_fold (L := fun n v k => db_f306_b4 s n (nI a) v (nI k)) (N := db_n c 3) (db_mk (fun b => db_hit c a b)) (fun n => ?_) (fun n k hk => ?_) (n := db_FU) (by unfold db_FU; omega)
  · show db_f306_b4 s (n + 1) (nI a) _ (nI (db_n c 3)) = _
    rw [db_f306_b4]
    simp (disch := omega) only [db_lit, eq_self, db_pI_e, db_pL_e, db_bind_some, db_bd_some, nI_add, pk_mul, nI_toInt, db_m1_t, dz_cn, Int.ofNat_le, Int.ofNat_lt, decide_true, decide_false, db_ct, db_cf, not_true_eq_false, not_false_eq_true, db_87e, db_37e, db_31e, db_28e, db_281e, db_211e, db_27, db_269w, db_litL, pk_lT, db_iL, db_p0_e, db_p0_n, db_p0_j, db_sub1, nI_eq, if_true, if_false, Bool.false_eq_true, db_g_674, hc, k3.1, Nat.le_refl]
  · show db_f306_b4 s (n + 1) (nI a) _ (nI k) = db_f306_b4 s n (nI a) (db_mk (fun b => db_hit c a b) k ||| (if db_hit c a k = true then db_b1 k else nI 0)) (nI (k + 1))
    rw [db_f306_b4]
    have h7 : ¬ db_n c 3 ≤ k := by omega
    simp (disch := omega) only [db_lit, eq_self, db_pI_e, db_pL_e, db_bind_some, db_bd_some, nI_add, pk_mul, nI_toInt, db_m1_t, dz_cn, Int.ofNat_le, Int.ofNat_lt, decide_true, decide_false, db_ct, db_cf, not_true_eq_false, not_false_eq_true, db_87e, db_37e, db_31e, db_28e, db_281e, db_211e, db_27, db_269w, db_litL, pk_lT, db_iL, db_p0_e, db_p0_n, db_p0_j, db_sub1, nI_eq, if_true, if_false, Bool.false_eq_true, db_g_674, hc, k3.1, h7, db_286 hc (db_Ok_K hO (show 4 < 6 by omega)), db_f306_b31]
    cases db_hit c a k <;> rfl
theorem db_k22 (hI : db_Inv U s) : dz_G U s (fun s => db_f119 s x y) (fun s => db_f308 s x y) := by
  obtain ⟨hO, hR, -⟩ := db_cur hI
  have k3 := db_Ok_K hO (show 3 < 6 by omega)
  have k12 := k3.2
  cases h : db_is x (db_n (db_bk s 0) 3) with
  | false =>
    refine db_Gn 2 hI ?_ fun s1 hS hA => ?_
    · unfold db_f119
      simp (disch := omega) only [db_lit, eq_self, db_pI_e, db_pL_e, db_bind_some, db_bd_some, nI_add, pk_mul, nI_toInt, db_m1_t, dz_cn, Int.ofNat_le, Int.ofNat_lt, decide_true, decide_false, db_ct, db_cf, not_true_eq_false, not_false_eq_true, db_87e, db_37e, db_31e, db_28e, db_281e, db_211e, db_27, db_269w, db_litL, pk_lT, db_iL, db_p0_e, db_p0_n, db_p0_j, db_sub1, nI_eq, if_true, if_false, Bool.false_eq_true, db_103 hR hO, h]
    · unfold db_f308
      simp (disch := omega) only [db_lit, eq_self, db_pI_e, db_pL_e, db_bind_some, db_bd_some, nI_add, pk_mul, nI_toInt, db_m1_t, dz_cn, Int.ofNat_le, Int.ofNat_lt, decide_true, decide_false, db_ct, db_cf, not_true_eq_false, not_false_eq_true, db_87e, db_37e, db_31e, db_28e, db_281e, db_211e, db_27, db_269w, db_litL, pk_lT, db_iL, db_p0_e, db_p0_n, db_p0_j, db_sub1, nI_eq, if_true, if_false, Bool.false_eq_true, db_289 (db_p0_A hA) k3, h]
  | true =>
    obtain ⟨r, hr, rfl⟩ := db_is_t h
    cases hw : db_wi y ((0 : Nat) : Int) ((1 : Nat) : Int) with
    | false =>
      refine db_Gn 5 hI ?_ fun s1 hS hA => ?_
      · unfold db_f119
        simp (disch := omega) only [db_lit, eq_self, db_pI_e, db_pL_e, db_bind_some, db_bd_some, nI_add, pk_mul, nI_toInt, db_m1_t, dz_cn, Int.ofNat_le, Int.ofNat_lt, decide_true, decide_false, db_ct, db_cf, not_true_eq_false, not_false_eq_true, db_87e, db_37e, db_31e, db_28e, db_281e, db_211e, db_27, db_269w, db_litL, pk_lT, db_iL, db_p0_e, db_p0_n, db_p0_j, db_sub1, nI_eq, if_true, if_false, Bool.false_eq_true, db_103 hR hO, h, hw]
      · unfold db_f308
        simp (disch := omega) only [db_lit, eq_self, db_pI_e, db_pL_e, db_bind_some, db_bd_some, nI_add, pk_mul, nI_toInt, db_m1_t, dz_cn, Int.ofNat_le, Int.ofNat_lt, decide_true, decide_false, db_ct, db_cf, not_true_eq_false, not_false_eq_true, db_87e, db_37e, db_31e, db_28e, db_281e, db_211e, db_27, db_269w, db_litL, pk_lT, db_iL, db_p0_e, db_p0_n, db_p0_j, db_sub1, nI_eq, if_true, if_false, Bool.false_eq_true, db_289 (db_p0_A hA) k3, h, hw]
    | true =>
      obtain ⟨k, hk, -, rfl⟩ := db_wi_t (by decide) (by decide) hw
      rcases (by omega : k = 0 ∨ k = 1) with rfl | rfl
      · refine db_Gy (db_mk (fun b => db_hit (db_bk s 0) r b) (db_n (db_bk s 0) 3)) hI ?_ fun s1 hS hA => ?_
        · unfold db_f119 db_f119_b56
          simp (disch := omega) only [db_lit, eq_self, db_pI_e, db_pL_e, db_bind_some, db_bd_some, nI_add, pk_mul, nI_toInt, db_m1_t, dz_cn, Int.ofNat_le, Int.ofNat_lt, decide_true, decide_false, db_ct, db_cf, not_true_eq_false, not_false_eq_true, db_87e, db_37e, db_31e, db_28e, db_281e, db_211e, db_27, db_269w, db_litL, pk_lT, db_iL, db_p0_e, db_p0_n, db_p0_j, db_sub1, nI_eq, if_true, if_false, Bool.false_eq_true, db_103 hR hO, h, hw, db_g_62, (db_62 hR hr).1]
        · unfold db_f308
          simp (disch := omega) only [db_lit, eq_self, db_pI_e, db_pL_e, db_bind_some, db_bd_some, nI_add, pk_mul, nI_toInt, db_m1_t, dz_cn, Int.ofNat_le, Int.ofNat_lt, decide_true, decide_false, db_ct, db_cf, not_true_eq_false, not_false_eq_true, db_87e, db_37e, db_31e, db_28e, db_281e, db_211e, db_27, db_269w, db_litL, pk_lT, db_iL, db_p0_e, db_p0_n, db_p0_j, db_sub1, nI_eq, if_true, if_false, Bool.false_eq_true, db_289 (db_p0_A hA) k3, h, hw, db_306 (db_p0_A hA) hO]
      · refine db_Gy (db_mk (fun a => db_hit (db_bk s 0) a r) (db_n (db_bk s 0) 3)) hI ?_ fun s1 hS hA => ?_
        · unfold db_f119 db_f119_b56
          simp (disch := omega) only [db_lit, eq_self, db_pI_e, db_pL_e, db_bind_some, db_bd_some, nI_add, pk_mul, nI_toInt, db_m1_t, dz_cn, Int.ofNat_le, Int.ofNat_lt, decide_true, decide_false, db_ct, db_cf, not_true_eq_false, not_false_eq_true, db_87e, db_37e, db_31e, db_28e, db_281e, db_211e, db_27, db_269w, db_litL, pk_lT, db_iL, db_p0_e, db_p0_n, db_p0_j, db_sub1, nI_eq, if_true, if_false, Bool.false_eq_true, db_103 hR hO, h, hw, db_g_63, (db_62 hR hr).2, (show ¬ 1 = 0 by omega)]
        · unfold db_f308
          simp (disch := omega) only [db_lit, eq_self, db_pI_e, db_pL_e, db_bind_some, db_bd_some, nI_add, pk_mul, nI_toInt, db_m1_t, dz_cn, Int.ofNat_le, Int.ofNat_lt, decide_true, decide_false, db_ct, db_cf, not_true_eq_false, not_false_eq_true, db_87e, db_37e, db_31e, db_28e, db_281e, db_211e, db_27, db_269w, db_litL, pk_lT, db_iL, db_p0_e, db_p0_n, db_p0_j, db_sub1, nI_eq, if_true, if_false, Bool.false_eq_true, db_289 (db_p0_A hA) k3, h, hw, (show ¬ 1 = 0 by omega)]
          have hA' := db_p0_A hA
          generalize db_p0 s1 = s2 at hA'
          refine db_fold (L := fun n v k => db_f308_b55 n s2 (nI r) v (nI k)) (N := db_n (db_bk s 0) 3) (db_mk (fun a => db_hit (db_bk s 0) a r)) (fun n => ?_) (fun n k hk => ?_) (n := db_FU) (by unfold db_FU; omega)
          · show db_f308_b55 (n + 1) s2 (nI r) _ (nI (db_n (db_bk s 0) 3)) = _
            rw [db_f308_b55]
            simp (disch := omega) only [db_lit, eq_self, db_pI_e, db_pL_e, db_bind_some, db_bd_some, nI_add, pk_mul, nI_toInt, db_m1_t, dz_cn, Int.ofNat_le, Int.ofNat_lt, decide_true, decide_false, db_ct, db_cf, not_true_eq_false, not_false_eq_true, db_87e, db_37e, db_31e, db_28e, db_281e, db_211e, db_27, db_269w, db_litL, pk_lT, db_iL, db_p0_e, db_p0_n, db_p0_j, db_sub1, nI_eq, if_true, if_false, Bool.false_eq_true, db_g_674, hA', k3.1, Nat.le_refl]
          · show db_f308_b55 (n + 1) s2 (nI r) _ (nI k) = db_f308_b55 n s2 (nI r) (db_mk (fun a => db_hit (db_bk s 0) a r) k ||| (if db_hit (db_bk s 0) k r = true then db_b1 k else nI 0)) (nI (k + 1))
            rw [db_f308_b55]
            have h7 : ¬ db_n (db_bk s 0) 3 ≤ k := by omega
            simp (disch := omega) only [db_lit, eq_self, db_pI_e, db_pL_e, db_bind_some, db_bd_some, nI_add, pk_mul, nI_toInt, db_m1_t, dz_cn, Int.ofNat_le, Int.ofNat_lt, decide_true, decide_false, db_ct, db_cf, not_true_eq_false, not_false_eq_true, db_87e, db_37e, db_31e, db_28e, db_281e, db_211e, db_27, db_269w, db_litL, pk_lT, db_iL, db_p0_e, db_p0_n, db_p0_j, db_sub1, nI_eq, if_true, if_false, Bool.false_eq_true, db_g_674, hA', k3.1, h7, db_286 hA' (db_Ok_K hO (show 4 < 6 by omega)), db_f308_b85]
            cases db_hit (db_bk s 0) k r <;> rfl
theorem db_k37 (hI : db_Inv U s) : dz_G U s (fun s => db_f156 s x) (fun s => db_f342 s x) := by
  obtain ⟨n, n1, n2, n3, n4⟩ := hI.2.2.2.2.2.2.2.2.1
  cases hw : db_is x n with
  | false =>
    refine db_Gn 8 hI ?_ fun s1 hS hA => ?_
    · unfold db_f156
      simp (disch := omega) only [db_lit, eq_self, db_pI_e, db_pL_e, db_bind_some, db_bd_some, nI_add, pk_mul, nI_toInt, db_m1_t, dz_cn, Int.ofNat_le, Int.ofNat_lt, decide_true, decide_false, db_ct, db_cf, not_true_eq_false, not_false_eq_true, db_87e, db_37e, db_31e, db_28e, db_281e, db_211e, db_27, db_269w, db_litL, pk_lT, db_iL, db_p0_e, db_p0_n, db_p0_j, db_sub1, nI_eq, if_true, if_false, Bool.false_eq_true, n2, db_wi_is', hw]
    · unfold db_f342
      have e := (hS.1 669 34 (by unfold db_ec; omega) (by omega)).1
      simp (disch := omega) only [db_lit, eq_self, db_pI_e, db_pL_e, db_bind_some, db_bd_some, nI_add, pk_mul, nI_toInt, db_m1_t, dz_cn, Int.ofNat_le, Int.ofNat_lt, decide_true, decide_false, db_ct, db_cf, not_true_eq_false, not_false_eq_true, db_87e, db_37e, db_31e, db_28e, db_281e, db_211e, db_27, db_269w, db_litL, pk_lT, db_iL, db_p0_e, db_p0_n, db_p0_j, db_sub1, nI_eq, if_true, if_false, Bool.false_eq_true, e, n3, db_wi_is', hw]
  | true =>
    obtain ⟨k, hk, rfl⟩ := db_is_t hw
    refine db_Gy (s.1 680 k) hI ?_ fun s1 hS hA => ?_
    · unfold db_f156
      simp (disch := omega) only [db_lit, eq_self, db_pI_e, db_pL_e, db_bind_some, db_bd_some, nI_add, pk_mul, nI_toInt, db_m1_t, dz_cn, Int.ofNat_le, Int.ofNat_lt, decide_true, decide_false, db_ct, db_cf, not_true_eq_false, not_false_eq_true, db_87e, db_37e, db_31e, db_28e, db_281e, db_211e, db_27, db_269w, db_litL, pk_lT, db_iL, db_p0_e, db_p0_n, db_p0_j, db_sub1, nI_eq, if_true, if_false, Bool.false_eq_true, n2, db_wi_is', hw, db_g_275, n4 k hk]
    · unfold db_f342
      have e := (hS.1 669 34 (by unfold db_ec; omega) (by omega)).1
      have e2 := (hS.1 680 k (by unfold db_ec; omega) (by omega)).1
      simp (disch := omega) only [db_lit, eq_self, db_pI_e, db_pL_e, db_bind_some, db_bd_some, nI_add, pk_mul, nI_toInt, db_m1_t, dz_cn, Int.ofNat_le, Int.ofNat_lt, decide_true, decide_false, db_ct, db_cf, not_true_eq_false, not_false_eq_true, db_87e, db_37e, db_31e, db_28e, db_281e, db_211e, db_27, db_269w, db_litL, pk_lT, db_iL, db_p0_e, db_p0_n, db_p0_j, db_sub1, nI_eq, if_true, if_false, Bool.false_eq_true, e, n3, db_wi_is', hw, db_g_680, e2]
theorem db_k44 (hI : db_Inv U s) : dz_G U s (fun s => db_f178 s) (fun s => db_f357 s) := by
  obtain ⟨n1, n2⟩ := hI.2.2.2.2.2.2.2.2.2.1
  rcases n2 with n2 | ⟨k, hk, n2⟩
  · refine db_Gn 8 hI ?_ fun s1 hS hA => ?_
    · unfold db_f178
      simp (disch := omega) only [db_lit, eq_self, db_pI_e, db_pL_e, db_bind_some, db_bd_some, nI_add, pk_mul, nI_toInt, db_m1_t, dz_cn, Int.ofNat_le, Int.ofNat_lt, decide_true, decide_false, db_ct, db_cf, not_true_eq_false, not_false_eq_true, db_87e, db_37e, db_31e, db_28e, db_281e, db_211e, db_27, db_269w, db_litL, pk_lT, db_iL, db_p0_e, db_p0_n, db_p0_j, db_sub1, nI_eq, if_true, if_false, Bool.false_eq_true, n2]
    · unfold db_f357
      have e := (hS.1 669 35 (by unfold db_ec; omega) (by omega)).1
      rw [← n1, n2] at e
      simp (disch := omega) only [db_lit, eq_self, db_pI_e, db_pL_e, db_bind_some, db_bd_some, nI_add, pk_mul, nI_toInt, db_m1_t, dz_cn, Int.ofNat_le, Int.ofNat_lt, decide_true, decide_false, db_ct, db_cf, not_true_eq_false, not_false_eq_true, db_87e, db_37e, db_31e, db_28e, db_281e, db_211e, db_27, db_269w, db_litL, pk_lT, db_iL, db_p0_e, db_p0_n, db_p0_j, db_sub1, nI_eq, if_true, if_false, Bool.false_eq_true, e]
      rfl
  · refine db_Gy (nI k) hI ?_ fun s1 hS hA => ?_
    · unfold db_f178
      simp (disch := omega) only [db_lit, eq_self, db_pI_e, db_pL_e, db_bind_some, db_bd_some, nI_add, pk_mul, nI_toInt, db_m1_t, dz_cn, Int.ofNat_le, Int.ofNat_lt, decide_true, decide_false, db_ct, db_cf, not_true_eq_false, not_false_eq_true, db_87e, db_37e, db_31e, db_28e, db_281e, db_211e, db_27, db_269w, db_litL, pk_lT, db_iL, db_p0_e, db_p0_n, db_p0_j, db_sub1, nI_eq, if_true, if_false, Bool.false_eq_true, n2, db_m1_ne]
    · unfold db_f357
      have e := (hS.1 669 35 (by unfold db_ec; omega) (by omega)).1
      rw [← n1, n2] at e
      have h0 : 0 ≤ k := by omega
      simp (disch := omega) only [db_lit, eq_self, db_pI_e, db_pL_e, db_bind_some, db_bd_some, nI_add, pk_mul, nI_toInt, db_m1_t, dz_cn, Int.ofNat_le, Int.ofNat_lt, decide_true, decide_false, db_ct, db_cf, not_true_eq_false, not_false_eq_true, db_87e, db_37e, db_31e, db_28e, db_281e, db_211e, db_27, db_269w, db_litL, pk_lT, db_iL, db_p0_e, db_p0_n, db_p0_j, db_sub1, nI_eq, if_true, if_false, Bool.false_eq_true, e, h0]
theorem db_k52 (hI : db_Inv U s) : dz_G U s (fun s => db_f201 s x) (fun s => db_f374 s x) := by
  obtain ⟨n1, n2⟩ := hI.2.2.2.2.2.2.2.2.2.2
  cases hw : db_wi x ((0 : Nat) : Int) ((4 : Nat) : Int) with
  | false =>
    refine db_Gn 5 hI ?_ fun s1 hS hA => ?_
    · unfold db_f201
      simp (disch := omega) only [db_lit, eq_self, db_pI_e, db_pL_e, db_bind_some, db_bd_some, nI_add, pk_mul, nI_toInt, db_m1_t, dz_cn, Int.ofNat_le, Int.ofNat_lt, decide_true, decide_false, db_ct, db_cf, not_true_eq_false, not_false_eq_true, db_87e, db_37e, db_31e, db_28e, db_281e, db_211e, db_27, db_269w, db_litL, pk_lT, db_iL, db_p0_e, db_p0_n, db_p0_j, db_sub1, nI_eq, if_true, if_false, Bool.false_eq_true, hw]
    · unfold db_f374
      simp (disch := omega) only [db_lit, eq_self, db_pI_e, db_pL_e, db_bind_some, db_bd_some, nI_add, pk_mul, nI_toInt, db_m1_t, dz_cn, Int.ofNat_le, Int.ofNat_lt, decide_true, decide_false, db_ct, db_cf, not_true_eq_false, not_false_eq_true, db_87e, db_37e, db_31e, db_28e, db_281e, db_211e, db_27, db_269w, db_litL, pk_lT, db_iL, db_p0_e, db_p0_n, db_p0_j, db_sub1, nI_eq, if_true, if_false, Bool.false_eq_true, hw]
  | true =>
    obtain ⟨k, hk, -, rfl⟩ := db_wi_t (by decide) (by decide) hw
    by_cases e0 : s.1 284 0 = nI 0
    · refine db_Gn 8 hI ?_ fun s1 hS hA => ?_
      · unfold db_f201
        simp (disch := omega) only [db_lit, eq_self, db_pI_e, db_pL_e, db_bind_some, db_bd_some, nI_add, pk_mul, nI_toInt, db_m1_t, dz_cn, Int.ofNat_le, Int.ofNat_lt, decide_true, decide_false, db_ct, db_cf, not_true_eq_false, not_false_eq_true, db_87e, db_37e, db_31e, db_28e, db_281e, db_211e, db_27, db_269w, db_litL, pk_lT, db_iL, db_p0_e, db_p0_n, db_p0_j, db_sub1, nI_eq, if_true, if_false, Bool.false_eq_true, hw, e0]
      · unfold db_f374
        have e := (hS.1 669 40 (by unfold db_ec; omega) (by omega)).1
        rw [← n1, e0] at e
        simp (disch := omega) only [db_lit, eq_self, db_pI_e, db_pL_e, db_bind_some, db_bd_some, nI_add, pk_mul, nI_toInt, db_m1_t, dz_cn, Int.ofNat_le, Int.ofNat_lt, decide_true, decide_false, db_ct, db_cf, not_true_eq_false, not_false_eq_true, db_87e, db_37e, db_31e, db_28e, db_281e, db_211e, db_27, db_269w, db_litL, pk_lT, db_iL, db_p0_e, db_p0_n, db_p0_j, db_sub1, nI_eq, if_true, if_false, Bool.false_eq_true, hw, e]
    · refine db_Gy (s.1 683 k) hI ?_ fun s1 hS hA => ?_
      · unfold db_f201
        simp (disch := omega) only [db_lit, eq_self, db_pI_e, db_pL_e, db_bind_some, db_bd_some, nI_add, pk_mul, nI_toInt, db_m1_t, dz_cn, Int.ofNat_le, Int.ofNat_lt, decide_true, decide_false, db_ct, db_cf, not_true_eq_false, not_false_eq_true, db_87e, db_37e, db_31e, db_28e, db_281e, db_211e, db_27, db_269w, db_litL, pk_lT, db_iL, db_p0_e, db_p0_n, db_p0_j, db_sub1, nI_eq, if_true, if_false, Bool.false_eq_true, hw, e0, db_g_285, n2 k (by omega)]
      · unfold db_f374
        have e := (hS.1 669 40 (by unfold db_ec; omega) (by omega)).1
        rw [← n1] at e
        have e2 := (hS.1 683 k (by unfold db_ec; omega) (by omega)).1
        simp (disch := omega) only [db_lit, eq_self, db_pI_e, db_pL_e, db_bind_some, db_bd_some, nI_add, pk_mul, nI_toInt, db_m1_t, dz_cn, Int.ofNat_le, Int.ofNat_lt, decide_true, decide_false, db_ct, db_cf, not_true_eq_false, not_false_eq_true, db_87e, db_37e, db_31e, db_28e, db_281e, db_211e, db_27, db_269w, db_litL, pk_lT, db_iL, db_p0_e, db_p0_n, db_p0_j, db_sub1, nI_eq, if_true, if_false, Bool.false_eq_true, hw, e, e0, db_g_683, e2]
end DBQ2
