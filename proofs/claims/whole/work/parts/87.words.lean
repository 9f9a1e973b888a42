/-! WORDS, in both -/
/-- the word at hand as a keyword's number; may a name stand here -/
def dv_kd (x : Nat → Int32) (n i : Nat) : Nat := dv_K x n (dv_P x n i)
def dv_w (x : Nat → Int32) (n i : Nat) : Int32 := if dv_kd x n i = 1 then dv_kw (dv_L x n (dv_P x n i)) else -(nI 1)
def dv_nm (x : Nat → Int32) (n i : Nat) : Bool := decide (dv_kd x n i = 1) && (decide (¬ dv_L x n (dv_P x n i) = -(lN 1)) && decide (dv_w x n i = -(nI 1)))
/-- the class at the i-th token; the reference there -/
def dv_CT (x : Nat → Int32) (n i : Nat) (a : db_S) : Prop := n ≤ 900 ∧ a.1 13 9 = nI i ∧ dv_ok x n i ∧ dv_TA x n a
def dv_RT (x : Nat → Int32) (n i : Nat) (b : db_S) : Prop := dv_TX x n b ∧ dv_TR x n (dv_P x n i) b
section DVWD
variable {a b : db_S} {x : Nat → Int32} {n i : Nat} {y : Int32} {l : Int64}
theorem dv_kw_inj : ∀ i, i < 28 → ∀ j, j < 28 → db_kwl.getD i 0 = db_kwl.getD j 0 → i = j := by decide +kernel
theorem dv_kw_eq {j k : Nat} (hj : j < 28) (hk : k < 28) (h : db_kw j = db_kw k) : j = k := by
  have h1 := dv_kw_lt j hj
  have h2 := dv_kw_lt k hk
  unfold db_kw at h
  rw [pk_lEQ (by omega) (by omega)] at h
  exact dv_kw_inj j hj k hk h
theorem dv_kw_iff {j : Nat} (hj : j < 28) : dv_kw l = nI j ↔ l = db_kw j := by
  unfold dv_kw
  constructor
  · intro h
    cases e : db_fst (fun i => decide (db_kw i = l)) 28 with
    | none =>
      rw [e] at h
      have h' : -(nI 1) = nI j := h
      rw [db_m1_en (by omega)] at h'
      exact h'.elim
    | some k =>
      rw [e] at h
      have hk := db_fst_some.mp e
      have h' : nI k = nI j := h
      have := db_nI_inj (by omega) (by omega) h'
      subst this
      exact (of_decide_eq_true hk.2.1).symm
  · rintro rfl
    have e : db_fst (fun i => decide (db_kw i = db_kw j)) 28 = some j := db_fst_some.mpr ⟨hj, decide_eq_true rfl, fun k hk => decide_eq_false fun h => by have := dv_kw_eq (by omega) hj h; omega⟩
    rw [e]
    rfl
theorem dv_kw_O : db_O (dv_kw l) 28 := by
  unfold dv_kw
  cases e : db_fst (fun i => decide (db_kw i = l)) 28 with
  | none => exact .inl rfl
  | some k => exact .inr ⟨k, db_fst_lt e, rfl⟩
theorem dv_w_O : db_O (dv_w x n i) 28 := by
  unfold dv_w
  by_cases h : dv_kd x n i = 1
  · rw [if_pos h]; exact dv_kw_O
  · rw [if_neg h]; exact .inl rfl
theorem dv_w_kd {j : Nat} (hj : j < 28) (h : dv_w x n i = nI j) : dv_kd x n i = 1 := by
  unfold dv_w at h
  by_cases e : dv_kd x n i = 1
  · exact e
  · rw [if_neg e, db_m1_en (by omega)] at h
    exact h.elim
theorem dv_w_iff {j : Nat} (hj : j < 28) : dv_w x n i = nI j ↔ dv_kd x n i = 1 ∧ dv_L x n (dv_P x n i) = db_kw j := by
  constructor
  · intro h
    have e := dv_w_kd hj h
    refine ⟨e, ?_⟩
    unfold dv_w at h
    rw [if_pos e] at h
    exact (dv_kw_iff hj).mp h
  · rintro ⟨h1, h2⟩
    unfold dv_w
    rw [if_pos h1]
    exact (dv_kw_iff hj).mpr h2
/-- short words are no long ones -/
theorem dv_pk_lt {a : Nat} : ∀ k, (∀ j, j < k → dv_lt (x (a + j)) = true) → dv_pk x a k < 32 ^ k
  | 0, _ => by rw [dv_pk]; omega
  | k + 1, h => by
    have ih := dv_pk_lt k (fun j hj => h j (by omega))
    obtain ⟨c, c1, c2, hc⟩ := dv_lt_n (h k (by omega))
    rw [dv_pk, hc, nI_clamp (by omega), Nat.pow_succ]
    omega
theorem dv_L_long {a : Nat} (hn : n ≤ 900) : dv_L x n a = -(lN 1) ↔ ¬ dv_W x n a - a ≤ 8 := by
  unfold dv_L
  by_cases h : dv_W x n a - a ≤ 8
  · rw [if_pos h]
    refine ⟨fun e => ?_, fun e => absurd h e⟩
    exfalso
    have hp := dv_pk_lt (x := x) (a := a) (dv_W x n a - a) (fun j hj => ((dv_W_sp (x := x) hn a).2.2.1 (a + j) (by omega) (by omega)).2)
    have h32 : 32 ^ (dv_W x n a - a) ≤ 32 ^ 8 := Nat.pow_le_pow_right (by decide) h
    have := congrArg Int64.toInt e
    rw [pk_lT (by omega), show (-(lN 1)).toInt = -1 by decide] at this
    omega
  · rw [if_neg h]
    exact ⟨fun _ => h, fun _ => rfl⟩
/-! the class -/
theorem dv_i900 (h : dv_CT x n i a) : i ≤ 900 ∧ dv_P x n i ≤ n := by
  obtain ⟨hn, -, h2, -⟩ := h
  have h3 := dv_ok_le hn h2
  obtain ⟨p1, p2, p3⟩ := dv_b_le (x := x) hn i
  omega
theorem dv_g16 (h : dv_CT x n i a) : db_rI a 16 (nI i) = some (nI (dv_kd x n i)) := by
  have := dv_i900 h
  rw [db_g_16 (by omega), (h.2.2.2 i h.2.2.1).2.1]
  rfl
theorem dv_57 (h : dv_CT x n i a) : db_f57 a = some (dv_w x n i) := by
  have hi := dv_i900 h
  have h16 := dv_g16 h
  have h4 := dv_K4 (x := x) (n := n) (a := dv_P x n i)
  have h4' : dv_kd x n i ≤ 4 := h4
  unfold db_f57 dv_w
  rw [h.2.1]
  by_cases e : dv_kd x n i = 1
  · have h18 := ((h.2.2.2 i h.2.2.1).2.2.1 e).2
    simp (disch := omega) only [db_lit, eq_self, db_pI_e, db_pL_e, db_bind_some, db_bd_some, nI_add, pk_mul, nI_toInt, db_m1_t, dz_cn, Int.ofNat_le, Int.ofNat_lt, decide_true, decide_false, db_ct, db_cf, not_true_eq_false, not_false_eq_true, db_87e, db_37e, db_31e, db_28e, db_281e, db_211e, db_27, db_269w, db_litL, pk_lT, db_iL, db_p0_e, db_p0_n, db_p0_j, db_sub1, nI_eq, if_true, if_false, Bool.false_eq_true, Nat.one_ne_zero, h16, e, db_g_18, h18]
  · simp (disch := omega) only [db_lit, eq_self, db_pI_e, db_pL_e, db_bind_some, db_bd_some, nI_add, pk_mul, nI_toInt, db_m1_t, dz_cn, Int.ofNat_le, Int.ofNat_lt, decide_true, decide_false, db_ct, db_cf, not_true_eq_false, not_false_eq_true, db_87e, db_37e, db_31e, db_28e, db_281e, db_211e, db_27, db_269w, db_litL, pk_lT, db_iL, db_p0_e, db_p0_n, db_p0_j, db_sub1, nI_eq, if_true, if_false, Bool.false_eq_true, Nat.one_ne_zero, h16, e, db_m1_l]
theorem dv_55 (h : dv_CT x n i a) : db_f55 a = some (decide (dv_kd x n i = 0)) := by
  have h16 := dv_g16 h
  have h4 : dv_kd x n i ≤ 4 := dv_K4
  unfold db_f55
  rw [h.2.1]
  by_cases e : dv_kd x n i = 0
  · simp (disch := omega) only [db_lit, eq_self, db_pI_e, db_pL_e, db_bind_some, db_bd_some, nI_add, pk_mul, nI_toInt, db_m1_t, dz_cn, Int.ofNat_le, Int.ofNat_lt, decide_true, decide_false, db_ct, db_cf, not_true_eq_false, not_false_eq_true, db_87e, db_37e, db_31e, db_28e, db_281e, db_211e, db_27, db_269w, db_litL, pk_lT, db_iL, db_p0_e, db_p0_n, db_p0_j, db_sub1, nI_eq, if_true, if_false, Bool.false_eq_true, Nat.one_ne_zero, h16, e]
  · simp (disch := omega) only [db_lit, eq_self, db_pI_e, db_pL_e, db_bind_some, db_bd_some, nI_add, pk_mul, nI_toInt, db_m1_t, dz_cn, Int.ofNat_le, Int.ofNat_lt, decide_true, decide_false, db_ct, db_cf, not_true_eq_false, not_false_eq_true, db_87e, db_37e, db_31e, db_28e, db_281e, db_211e, db_27, db_269w, db_litL, pk_lT, db_iL, db_p0_e, db_p0_n, db_p0_j, db_sub1, nI_eq, if_true, if_false, Bool.false_eq_true, Nat.one_ne_zero, h16, e]
theorem dv_62 (h : dv_CT x n i a) : db_f62 a = some (dv_nm x n i) := by
  have hi := dv_i900 h
  have h16 := dv_g16 h
  have h4 : dv_kd x n i ≤ 4 := dv_K4
  unfold db_f62 dv_nm
  rw [h.2.1]
  by_cases e : dv_kd x n i = 1
  · obtain ⟨h19, h18⟩ := (h.2.2.2 i h.2.2.1).2.2.1 e
    have hw : dv_w x n i = dv_kw (dv_L x n (dv_P x n i)) := by unfold dv_w; rw [if_pos e]
    simp (disch := omega) only [db_lit, eq_self, db_pI_e, db_pL_e, db_bind_some, db_bd_some, nI_add, pk_mul, nI_toInt, db_m1_t, dz_cn, Int.ofNat_le, Int.ofNat_lt, decide_true, decide_false, db_ct, db_cf, not_true_eq_false, not_false_eq_true, db_87e, db_37e, db_31e, db_28e, db_281e, db_211e, db_27, db_269w, db_litL, pk_lT, db_iL, db_p0_e, db_p0_n, db_p0_j, db_sub1, nI_eq, if_true, if_false, Bool.false_eq_true, Nat.one_ne_zero, h16, e, db_g_19, h19, db_g_18, h18, dv_lc, db_m1_l, hw]
    by_cases e1 : dv_L x n (dv_P x n i) = -(lN 1)
    · rw [decide_eq_true e1, decide_eq_false (show ¬ ¬ dv_L x n (dv_P x n i) = -(lN 1) from fun h => h e1)]
      rfl
    · rw [decide_eq_false e1, decide_eq_true e1]
      by_cases e2 : dv_kw (dv_L x n (dv_P x n i)) = -(nI 1)
      · rw [decide_eq_true e2, decide_eq_false (fun h => h e2)]
        rfl
      · rw [decide_eq_false e2, decide_eq_true e2]
        rfl
  · simp (disch := omega) only [db_lit, eq_self, db_pI_e, db_pL_e, db_bind_some, db_bd_some, nI_add, pk_mul, nI_toInt, db_m1_t, dz_cn, Int.ofNat_le, Int.ofNat_lt, decide_true, decide_false, db_ct, db_cf, not_true_eq_false, not_false_eq_true, db_87e, db_37e, db_31e, db_28e, db_281e, db_211e, db_27, db_269w, db_litL, pk_lT, db_iL, db_p0_e, db_p0_n, db_p0_j, db_sub1, nI_eq, if_true, if_false, Bool.false_eq_true, Nat.one_ne_zero, h16, e]
    rfl
/-- a name's letters -/
theorem dv_n_L (h : dv_nm x n i = true) : dv_kd x n i = 1 ∧ ¬ dv_L x n (dv_P x n i) = -(lN 1) := by
  unfold dv_nm at h
  simp only [Bool.and_eq_true, decide_eq_true_eq] at h
  exact ⟨h.1, h.2.1⟩
theorem dv_g19 (h : dv_CT x n i a) (hk : dv_kd x n i = 1) : db_rL a 19 (nI i) = some (dv_L x n (dv_P x n i)) := by
  have := dv_i900 h
  rw [db_g_19 (by omega), ((h.2.2.2 i h.2.2.1).2.2.1 hk).1]
theorem dv_g18 (h : dv_CT x n i a) (hk : dv_kd x n i = 2 ∨ dv_kd x n i = 3) : db_rI a 18 (nI i) = some (dv_V x n (dv_P x n i)) := by
  have := dv_i900 h
  rw [db_g_18 (by omega), (h.2.2.2 i h.2.2.1).2.2.2.1 hk]
/-! the reference -/
theorem dv_230 (h : dv_RT x n i b) {j : Nat} (hj : j < 28) : db_f230 b (db_kw j) = some (decide (dv_w x n i = nI j)) := by
  obtain ⟨hX, t1, t2, t3, t4, t5⟩ := h
  have h4 : dv_kd x n i ≤ 4 := dv_K4
  have t1' : b.1 669 14 = nI (dv_kd x n i) := t1
  unfold db_f230
  by_cases e : dv_kd x n i = 1
  · have t4' := (t4 e).1
    simp (disch := omega) only [db_lit, eq_self, db_pI_e, db_pL_e, db_bind_some, db_bd_some, nI_add, pk_mul, nI_toInt, db_m1_t, dz_cn, Int.ofNat_le, Int.ofNat_lt, decide_true, decide_false, db_ct, db_cf, not_true_eq_false, not_false_eq_true, db_87e, db_37e, db_31e, db_28e, db_281e, db_211e, db_27, db_269w, db_litL, pk_lT, db_iL, db_p0_e, db_p0_n, db_p0_j, db_sub1, nI_eq, if_true, if_false, Bool.false_eq_true, Nat.one_ne_zero, t1', e, t4', dv_lc]
    by_cases e2 : dv_L x n (dv_P x n i) = db_kw j
    · rw [decide_eq_false (fun h => h e2), db_cf, decide_eq_true ((dv_w_iff hj).mpr ⟨e, e2⟩)]
    · rw [decide_eq_true e2, db_ct, decide_eq_false (fun h => e2 ((dv_w_iff hj).mp h).2)]
  · simp (disch := omega) only [db_lit, eq_self, db_pI_e, db_pL_e, db_bind_some, db_bd_some, nI_add, pk_mul, nI_toInt, db_m1_t, dz_cn, Int.ofNat_le, Int.ofNat_lt, decide_true, decide_false, db_ct, db_cf, not_true_eq_false, not_false_eq_true, db_87e, db_37e, db_31e, db_28e, db_281e, db_211e, db_27, db_269w, db_litL, pk_lT, db_iL, db_p0_e, db_p0_n, db_p0_j, db_sub1, nI_eq, if_true, if_false, Bool.false_eq_true, Nat.one_ne_zero, t1', e]
    rw [decide_eq_false (fun h => e (dv_w_kd hj h))]

theorem dv_s0 : db_f229 b 116 104 105 110 103 0 = some (db_kw 0) := by
  unfold db_f229 db_f229_b41 db_f229_b65 db_f229_b91
  decide +kernel
theorem dv_s1 : db_f229 b 112 101 114 115 111 110 = some (db_kw 1) := by
  unfold db_f229 db_f229_b41 db_f229_b65 db_f229_b91
  decide +kernel
theorem dv_s2 : db_f229 b 115 101 97 115 111 110 = some (db_kw 2) := by
  unfold db_f229 db_f229_b41 db_f229_b65 db_f229_b91
  decide +kernel
theorem dv_s3 : db_f229 b 114 117 108 101 0 0 = some (db_kw 3) := by
  unfold db_f229 db_f229_b41 db_f229_b65 db_f229_b91
  decide +kernel
theorem dv_s4 : db_f229 b 110 111 116 101 0 0 = some (db_kw 4) := by
  unfold db_f229 db_f229_b41 db_f229_b65 db_f229_b91
  decide +kernel
theorem dv_s5 : db_f229 b 100 114 101 97 109 0 = some (db_kw 5) := by
  unfold db_f229 db_f229_b41 db_f229_b65 db_f229_b91
  decide +kernel
theorem dv_s6 : db_f229 b 119 105 100 111 119 0 = some (db_kw 6) := by
  unfold db_f229 db_f229_b41 db_f229_b65 db_f229_b91
  decide +kernel
theorem dv_s7 : db_f229 b 116 117 114 110 115 0 = some (db_kw 7) := by
  unfold db_f229 db_f229_b41 db_f229_b65 db_f229_b91
  decide +kernel
theorem dv_s8 : db_f229 b 111 102 0 0 0 0 = some (db_kw 8) := by
  unfold db_f229 db_f229_b41 db_f229_b65 db_f229_b91
  decide +kernel
theorem dv_s9 : db_f229 b 109 101 97 110 115 0 = some (db_kw 9) := by
  unfold db_f229 db_f229_b41 db_f229_b65 db_f229_b91
  decide +kernel
theorem dv_s10 : db_f229 b 108 101 115 115 0 0 = some (db_kw 10) := by
  unfold db_f229 db_f229_b41 db_f229_b65 db_f229_b91
  decide +kernel
theorem dv_s11 : db_f229 b 98 121 0 0 0 0 = some (db_kw 11) := by
  unfold db_f229 db_f229_b41 db_f229_b65 db_f229_b91
  decide +kernel
theorem dv_s12 : db_f229 b 117 110 108 101 115 115 = some (db_kw 12) := by
  unfold db_f229 db_f229_b41 db_f229_b65 db_f229_b91
  decide +kernel
theorem dv_s13 : db_f229 b 102 111 114 0 0 0 = some (db_kw 13) := by
  unfold db_f229 db_f229_b41 db_f229_b65 db_f229_b91
  decide +kernel
theorem dv_s14 : db_f229 b 105 110 0 0 0 0 = some (db_kw 14) := by
  unfold db_f229 db_f229_b41 db_f229_b65 db_f229_b91
  decide +kernel
theorem dv_s16 : db_f229 b 99 111 115 116 115 0 = some (db_kw 16) := by
  unfold db_f229 db_f229_b41 db_f229_b65 db_f229_b91
  decide +kernel
theorem dv_s17 : db_f229 b 99 104 97 110 99 101 = some (db_kw 17) := by
  unfold db_f229 db_f229_b41 db_f229_b65 db_f229_b91
  decide +kernel
theorem dv_s18 : db_f229 b 110 105 103 104 116 0 = some (db_kw 18) := by
  unfold db_f229 db_f229_b41 db_f229_b65 db_f229_b91
  decide +kernel
theorem dv_s19 : db_f229 b 97 110 121 0 0 0 = some (db_kw 19) := by
  unfold db_f229 db_f229_b41 db_f229_b65 db_f229_b91
  decide +kernel
theorem dv_s20 : db_f229 b 115 116 114 105 107 101 = some (db_kw 20) := by
  unfold db_f229 db_f229_b41 db_f229_b65 db_f229_b91
  decide +kernel
theorem dv_s21 : db_f229 b 112 114 105 110 116 0 = some (db_kw 21) := by
  unfold db_f229 db_f229_b41 db_f229_b65 db_f229_b91
  decide +kernel
theorem dv_s22 : db_f229 b 119 104 101 110 0 0 = some (db_kw 22) := by
  unfold db_f229 db_f229_b41 db_f229_b65 db_f229_b91
  decide +kernel
theorem dv_s23 : db_f229 b 108 111 111 112 0 0 = some (db_kw 23) := by
  unfold db_f229 db_f229_b41 db_f229_b65 db_f229_b91
  decide +kernel
theorem dv_s24 : db_f229 b 115 116 111 112 0 0 = some (db_kw 24) := by
  unfold db_f229 db_f229_b41 db_f229_b65 db_f229_b91
  decide +kernel
theorem dv_s25 : db_f229 b 101 110 100 0 0 0 = some (db_kw 25) := by
  unfold db_f229 db_f229_b41 db_f229_b65 db_f229_b91
  decide +kernel
theorem dv_s26 : db_f229 b 115 117 109 0 0 0 = some (db_kw 26) := by
  unfold db_f229 db_f229_b41 db_f229_b65 db_f229_b91
  decide +kernel
theorem dv_s27 : db_f229 b 119 111 114 110 0 0 = some (db_kw 27) := by
  unfold db_f229 db_f229_b41 db_f229_b65 db_f229_b91
  decide +kernel
theorem dv_s15 : (db_kw 20 * (32 : Int64)) + (19 : Int64) = db_kw 15 := by decide +kernel
theorem dv_x0 (h : dv_RT x n i b) : db_f228 b = some (decide (dv_w x n i = nI 0)) := by
  unfold db_f228
  rw [dv_s0, db_bind_some, dv_230 h (by decide), db_bind_some]
theorem dv_x1 (h : dv_RT x n i b) : db_f237 b = some (decide (dv_w x n i = nI 1)) := by
  unfold db_f237
  rw [dv_s1, db_bind_some, dv_230 h (by decide), db_bind_some]
theorem dv_x2 (h : dv_RT x n i b) : db_f239 b = some (decide (dv_w x n i = nI 2)) := by
  unfold db_f239
  rw [dv_s2, db_bind_some, dv_230 h (by decide), db_bind_some]
theorem dv_x3 (h : dv_RT x n i b) : db_f241 b = some (decide (dv_w x n i = nI 3)) := by
  unfold db_f241
  rw [dv_s3, db_bind_some, dv_230 h (by decide), db_bind_some]
theorem dv_x4 (h : dv_RT x n i b) : db_f249 b = some (decide (dv_w x n i = nI 4)) := by
  unfold db_f249
  rw [dv_s4, db_bind_some, dv_230 h (by decide), db_bind_some]
theorem dv_x5 (h : dv_RT x n i b) : db_f251 b = some (decide (dv_w x n i = nI 5)) := by
  unfold db_f251
  rw [dv_s5, db_bind_some, dv_230 h (by decide), db_bind_some]
theorem dv_x6 (h : dv_RT x n i b) : db_f238 b = some (decide (dv_w x n i = nI 6)) := by
  unfold db_f238
  rw [dv_s6, db_bind_some, dv_230 h (by decide), db_bind_some]
theorem dv_x7 (h : dv_RT x n i b) : db_f240 b = some (decide (dv_w x n i = nI 7)) := by
  unfold db_f240
  rw [dv_s7, db_bind_some, dv_230 h (by decide), db_bind_some]
theorem dv_x8 (h : dv_RT x n i b) : db_f242 b = some (decide (dv_w x n i = nI 8)) := by
  unfold db_f242
  rw [dv_s8, db_bind_some, dv_230 h (by decide), db_bind_some]
theorem dv_x9 (h : dv_RT x n i b) : db_f243 b = some (decide (dv_w x n i = nI 9)) := by
  unfold db_f243
  rw [dv_s9, db_bind_some, dv_230 h (by decide), db_bind_some]
theorem dv_x10 (h : dv_RT x n i b) : db_f244 b = some (decide (dv_w x n i = nI 10)) := by
  unfold db_f244
  rw [dv_s10, db_bind_some, dv_230 h (by decide), db_bind_some]
theorem dv_x11 (h : dv_RT x n i b) : db_f245 b = some (decide (dv_w x n i = nI 11)) := by
  unfold db_f245
  rw [dv_s11, db_bind_some, dv_230 h (by decide), db_bind_some]
theorem dv_x12 (h : dv_RT x n i b) : db_f246 b = some (decide (dv_w x n i = nI 12)) := by
  unfold db_f246
  rw [dv_s12, db_bind_some, dv_230 h (by decide), db_bind_some]
theorem dv_x13 (h : dv_RT x n i b) : db_f247 b = some (decide (dv_w x n i = nI 13)) := by
  unfold db_f247
  rw [dv_s13, db_bind_some, dv_230 h (by decide), db_bind_some]
theorem dv_x14 (h : dv_RT x n i b) : db_f248 b = some (decide (dv_w x n i = nI 14)) := by
  unfold db_f248
  rw [dv_s14, db_bind_some, dv_230 h (by decide), db_bind_some]
theorem dv_x16 (h : dv_RT x n i b) : db_f252 b = some (decide (dv_w x n i = nI 16)) := by
  unfold db_f252
  rw [dv_s16, db_bind_some, dv_230 h (by decide), db_bind_some]
theorem dv_x17 (h : dv_RT x n i b) : db_f253 b = some (decide (dv_w x n i = nI 17)) := by
  unfold db_f253
  rw [dv_s17, db_bind_some, dv_230 h (by decide), db_bind_some]
theorem dv_x25 (h : dv_RT x n i b) : db_f256 b = some (decide (dv_w x n i = nI 25)) := by
  unfold db_f256
  rw [dv_s25, db_bind_some, dv_230 h (by decide), db_bind_some]
theorem dv_x15 (h : dv_RT x n i b) : db_f250 b = some (decide (dv_w x n i = nI 15)) := by
  unfold db_f250
  rw [dv_s20, db_bind_some, dv_s15, dv_230 h (by decide), db_bind_some]
/-- the step's word -/
def dv_st (v : Int32) : Int32 := if v = nI 18 then nI 0 else if v = nI 19 then nI 1 else if v = nI 20 then nI 2 else if v = nI 21 then nI 3 else if v = nI 22 then nI 4 else if v = nI 23 then nI 5 else if v = nI 24 then nI 6 else -(nI 1)
theorem dv_x254 (h : dv_RT x n i b) : db_f254 b = some (dv_st (dv_w x n i)) := by
  unfold db_f254 dv_st
  rw [dv_s18, db_bind_some, dv_230 h (by decide), db_bind_some]
  by_cases e0 : dv_w x n i = nI 18
  · rw [decide_eq_true e0, db_ct, if_pos e0]
    rfl
  rw [decide_eq_false e0, db_cf, if_neg e0]
  rw [dv_s19, db_bind_some, dv_230 h (by decide), db_bind_some]
  by_cases e1 : dv_w x n i = nI 19
  · rw [decide_eq_true e1, db_ct, if_pos e1]
    rfl
  rw [decide_eq_false e1, db_cf, if_neg e1]
  rw [dv_s20, db_bind_some, dv_230 h (by decide), db_bind_some]
  by_cases e2 : dv_w x n i = nI 20
  · rw [decide_eq_true e2, db_ct, if_pos e2]
    rfl
  rw [decide_eq_false e2, db_cf, if_neg e2]
  rw [dv_s21, db_bind_some, dv_230 h (by decide), db_bind_some]
  by_cases e3 : dv_w x n i = nI 21
  · rw [decide_eq_true e3, db_ct, if_pos e3]
    rfl
  rw [decide_eq_false e3, db_cf, if_neg e3]
  rw [dv_s22, db_bind_some, dv_230 h (by decide), db_bind_some]
  by_cases e4 : dv_w x n i = nI 22
  · rw [decide_eq_true e4, db_ct, if_pos e4]
    rfl
  rw [decide_eq_false e4, db_cf, if_neg e4]
  rw [dv_s23, db_bind_some, dv_230 h (by decide), db_bind_some]
  by_cases e5 : dv_w x n i = nI 23
  · rw [decide_eq_true e5, db_ct, if_pos e5]
    rfl
  rw [decide_eq_false e5, db_cf, if_neg e5]
  rw [dv_s24, db_bind_some, dv_230 h (by decide), db_bind_some]
  by_cases e6 : dv_w x n i = nI 24
  · rw [decide_eq_true e6, db_ct, if_pos e6]
    rfl
  rw [decide_eq_false e6, db_cf, if_neg e6]
  rfl
theorem dv_x255 (h : dv_RT x n i b) : db_f255 b = some (if dv_w x n i = nI 26 then nI 0 else if dv_w x n i = nI 27 then nI 1 else -(nI 1)) := by
  unfold db_f255
  rw [dv_s26, db_bind_some, dv_230 h (by decide), db_bind_some]
  by_cases e0 : dv_w x n i = nI 26
  · rw [decide_eq_true e0, db_ct, if_pos e0]
    rfl
  rw [decide_eq_false e0, db_cf, if_neg e0]
  rw [dv_s27, db_bind_some, dv_230 h (by decide), db_bind_some]
  by_cases e1 : dv_w x n i = nI 27
  · rw [decide_eq_true e1, db_ct, if_pos e1]
    rfl
  rw [decide_eq_false e1, db_cf, if_neg e1]
  rfl
theorem dv_cor {p q : Bool} : cond p (some true) (some q) = some (p || q) := by cases p <;> rfl
theorem dv_stp {v : Int32} : db_cnd .ge (dv_st v) 0 = (decide (v = nI 18) || (decide (v = nI 19) || (decide (v = nI 20) || (decide (v = nI 21) || (decide (v = nI 22) || (decide (v = nI 23) || (decide (v = nI 24)))))))) := by
  unfold dv_st
  by_cases e0 : v = nI 18
  · rw [if_pos e0, decide_eq_true e0]
    simp only [Bool.true_or, Bool.or_true]; decide
  rw [if_neg e0, decide_eq_false e0]
  by_cases e1 : v = nI 19
  · rw [if_pos e1, decide_eq_true e1]
    simp only [Bool.true_or, Bool.or_true]; decide
  rw [if_neg e1, decide_eq_false e1]
  by_cases e2 : v = nI 20
  · rw [if_pos e2, decide_eq_true e2]
    simp only [Bool.true_or, Bool.or_true]; decide
  rw [if_neg e2, decide_eq_false e2]
  by_cases e3 : v = nI 21
  · rw [if_pos e3, decide_eq_true e3]
    simp only [Bool.true_or, Bool.or_true]; decide
  rw [if_neg e3, decide_eq_false e3]
  by_cases e4 : v = nI 22
  · rw [if_pos e4, decide_eq_true e4]
    simp only [Bool.true_or, Bool.or_true]; decide
  rw [if_neg e4, decide_eq_false e4]
  by_cases e5 : v = nI 23
  · rw [if_pos e5, decide_eq_true e5]
    simp only [Bool.true_or, Bool.or_true]; decide
  rw [if_neg e5, decide_eq_false e5]
  by_cases e6 : v = nI 24
  · rw [if_pos e6, decide_eq_true e6]
    simp only [Bool.true_or, Bool.or_true]; decide
  rw [if_neg e6, decide_eq_false e6]
  decide
theorem dv_tsp {v : Int32} : db_cnd .ge (if v = nI 26 then nI 0 else if v = nI 27 then nI 1 else -(nI 1)) 0 = (decide (v = nI 26) || decide (v = nI 27)) := by
  by_cases e0 : v = nI 26
  · rw [if_pos e0, decide_eq_true e0]
    simp only [Bool.true_or, Bool.or_true]; decide
  rw [if_neg e0, decide_eq_false e0]
  by_cases e1 : v = nI 27
  · rw [if_pos e1, decide_eq_true e1]
    simp only [Bool.true_or, Bool.or_true]; decide
  rw [if_neg e1, decide_eq_false e1]
  decide
def dv_kp (v : Int32) : Bool := decide (v = nI 0) || (decide (v = nI 1) || (decide (v = nI 6) || (decide (v = nI 2) || (decide (v = nI 7) || (decide (v = nI 3) || (decide (v = nI 8) || (decide (v = nI 9) || (decide (v = nI 10) || (decide (v = nI 11) || (decide (v = nI 12) || (decide (v = nI 13) || (decide (v = nI 14) || (decide (v = nI 4) || (decide (v = nI 15) || (decide (v = nI 5) || (decide (v = nI 16) || (decide (v = nI 17) || ((decide (v = nI 18) || (decide (v = nI 19) || (decide (v = nI 20) || (decide (v = nI 21) || (decide (v = nI 22) || (decide (v = nI 23) || (decide (v = nI 24)))))))) || ((decide (v = nI 26) || decide (v = nI 27)) || (decide (v = nI 25)))))))))))))))))))))
theorem dv_kp_n : ∀ j, j < 28 → dv_kp (nI j) = true := by decide +kernel
theorem dv_kp_m : dv_kp (-(nI 1)) = false := by decide +kernel
theorem dv_kp_e {v : Int32} (h : db_O v 28) : dv_kp v = decide (¬ v = -(nI 1)) := by
  rcases h with rfl | ⟨k, hk, rfl⟩
  · rw [dv_kp_m]; decide
  · rw [dv_kp_n k hk, decide_eq_true (by rw [db_m1_ne (by omega)]; exact id)]
theorem dv_cse {p : Bool} : cond p (some true) (some false) = some p := by cases p <;> rfl
theorem dv_236 (h : dv_RT x n i b) : db_f236 b = some (decide (¬ dv_w x n i = -(nI 1))) := by
  unfold db_f236
  rw [← dv_kp_e dv_w_O]
  simp only [dv_x0 h, dv_x1 h, dv_x6 h, dv_x2 h, dv_x7 h, dv_x3 h, dv_x8 h, dv_x9 h, dv_x10 h, dv_x11 h, dv_x12 h, dv_x13 h, dv_x14 h, dv_x4 h, dv_x15 h, dv_x5 h, dv_x16 h, dv_x17 h, dv_x254 h, dv_x255 h, dv_x25 h, db_bind_some, dv_stp, dv_tsp, dv_cse, dv_cor, dv_kp, Bool.or_assoc, Bool.or_false]
theorem dv_235 (h : dv_RT x n i b) : db_f235 b = some (dv_nm x n i) := by
  obtain ⟨hX, t1, t2, t3, t4, t5⟩ := id h
  have hn := hX.1
  have h4 : dv_kd x n i ≤ 4 := dv_K4
  have t1' : b.1 669 14 = nI (dv_kd x n i) := t1
  unfold db_f235 dv_nm
  by_cases e : dv_kd x n i = 1
  · have t4' := (t4 e).2
    have hL := dv_L_long (x := x) (a := dv_P x n i) hn
    obtain ⟨w1, w2, w3, w4⟩ := dv_W_sp (x := x) hn (dv_P x n i)
    obtain ⟨p1, p2, p3⟩ := dv_b_le (x := x) hn i
    by_cases e2 : dv_W x n (dv_P x n i) - dv_P x n i ≤ 8
    · have e3 : ¬ dv_L x n (dv_P x n i) = -(lN 1) := fun h => hL.mp h e2
      simp (disch := omega) only [db_lit, eq_self, db_pI_e, db_pL_e, db_bind_some, db_bd_some, nI_add, pk_mul, nI_toInt, db_m1_t, dz_cn, Int.ofNat_le, Int.ofNat_lt, decide_true, decide_false, db_ct, db_cf, not_true_eq_false, not_false_eq_true, db_87e, db_37e, db_31e, db_28e, db_281e, db_211e, db_27, db_269w, db_litL, pk_lT, db_iL, db_p0_e, db_p0_n, db_p0_j, db_sub1, nI_eq, if_true, if_false, Bool.false_eq_true, Nat.one_ne_zero, t1', e, t4', (show ¬ 8 < dv_W x n (dv_P x n i) - dv_P x n i by omega), dv_236 h, e3]
      by_cases e4 : dv_w x n i = -(nI 1)
      · rw [decide_eq_true e4, decide_eq_false (fun h => h e4)]
        rfl
      · rw [decide_eq_false e4, decide_eq_true e4]
        rfl
    · have e3 : dv_L x n (dv_P x n i) = -(lN 1) := hL.mpr e2
      simp (disch := omega) only [db_lit, eq_self, db_pI_e, db_pL_e, db_bind_some, db_bd_some, nI_add, pk_mul, nI_toInt, db_m1_t, dz_cn, Int.ofNat_le, Int.ofNat_lt, decide_true, decide_false, db_ct, db_cf, not_true_eq_false, not_false_eq_true, db_87e, db_37e, db_31e, db_28e, db_281e, db_211e, db_27, db_269w, db_litL, pk_lT, db_iL, db_p0_e, db_p0_n, db_p0_j, db_sub1, nI_eq, if_true, if_false, Bool.false_eq_true, Nat.one_ne_zero, t1', e, t4', (show 8 < dv_W x n (dv_P x n i) - dv_P x n i by omega), e3]
      rfl
  · simp (disch := omega) only [db_lit, eq_self, db_pI_e, db_pL_e, db_bind_some, db_bd_some, nI_add, pk_mul, nI_toInt, db_m1_t, dz_cn, Int.ofNat_le, Int.ofNat_lt, decide_true, decide_false, db_ct, db_cf, not_true_eq_false, not_false_eq_true, db_87e, db_37e, db_31e, db_28e, db_281e, db_211e, db_27, db_269w, db_litL, pk_lT, db_iL, db_p0_e, db_p0_n, db_p0_j, db_sub1, nI_eq, if_true, if_false, Bool.false_eq_true, Nat.one_ne_zero, t1', e]
    rfl
/-- the next token -/
theorem dv_nx (h : dv_RT x n i b) : dz_T (db_f223 b) (fun z => dv_RT x n (i + 1) z ∧ dv_Fn b z) := by
  obtain ⟨hX, t1, t2, t3, t4, t5⟩ := h
  have hn := hX.1
  obtain ⟨p1, p2, p3⟩ := dv_b_le (x := x) hn (i + 1)
  exact db_T_mono (dv_223 (p := dv_b x n (i + 1)) hX t3 p1) fun z hz => ⟨⟨dv_TX_F hX hz.2, hz.1⟩, hz.2⟩
end DVWD
