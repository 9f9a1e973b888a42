/-! LUCKY -/
/-- not above 0 for some hearer -/
def dz_lk (c : db_C) (row : Nat → Int32) (n : Nat) : Bool := db_ex (fun i => db_ex (fun j => decide ((db_re c row n (db_pm i) (db_pm j)).toInt ≤ 0)) (db_n c 2 + 1)) (db_n c 1 + 1)
def db_pr2 (c : db_C) (n i : Nat) : Bool := !dz_lk c (db_rr (db_n c 0) n i) n
section DBV2
variable {U : Nat} {s : db_S} {c : db_C} {w : Nat → Int64} {v x y z p q : Int32}
theorem db_lk_h {row : Nat → Int32} {n : Nat} (j2 : db_n c 2 ≤ 3) : dz_lk c row n = db_ex (fun h => decide ((db_re c row n (db_pm (h / (db_n c 2 + 1))) (db_pm (h % (db_n c 2 + 1)))).toInt ≤ 0)) ((db_n c 1 + 1) * (db_n c 2 + 1)) := by
  unfold dz_lk
  rw [Bool.eq_iff_iff, db_ex_iff, db_ex_iff]
  constructor
  · rintro ⟨i, hi, h⟩
    obtain ⟨j, hj, h⟩ := db_ex_iff.mp h
    obtain ⟨dm1, dm2⟩ := @db_dm (db_n c 2) i j j2 hj
    refine ⟨i * (db_n c 2 + 1) + j, ?_, ?_⟩
    · rcases (by omega : db_n c 2 = 0 ∨ db_n c 2 = 1 ∨ db_n c 2 = 2 ∨ db_n c 2 = 3) with e | e | e | e <;> rw [e] at hj ⊢ <;> omega
    · rw [dm1, dm2]; exact h
  · rintro ⟨h, hh, hp⟩
    obtain ⟨m1, m2⟩ := db_md j2 hh
    exact ⟨_, m1, db_ex_iff.mpr ⟨_, m2, hp⟩⟩
theorem db_sgn {row : Nat → Int32} {n : Nat} : (if db_ow c p q then -(nI 1) else nI 1) * db_su c row n p q n = db_re c row n p q := by
  unfold db_re
  cases db_ow c p q
  · exact Int32.one_mul _
  · show -(nI 1) * _ = -_
    rw [Int32.neg_mul]
    congr 1
    exact Int32.one_mul _
theorem db_172 {s0 : db_S} {n : Nat} {g : Nat → Nat} (hO : db_Ok U c) (hU : U ≤ 1000000000) (hn : n ≤ 4) (hRk : db_Rk c w s0 s g) (hl : ∀ j, g j < db_n c 0) (hH : db_Hr c s ((db_n c 1 + 1) * (db_n c 2 + 1))) (hHn : s.1 274 10 = nI ((db_n c 1 + 1) * (db_n c 2 + 1))) : dz_T (db_f172 s (nI n)) (fun z => z.1 = (!dz_lk c (fun k => nI (g k)) n) ∧ db_Rk c w s0 z.2 g ∧ db_F1 273 s z.2) := by
  have j1 := hO.1.2.1.2
  have j2 := hO.1.2.2.1.2
  have hN : (db_n c 1 + 1) * (db_n c 2 + 1) ≤ 20 := by
    rcases (by omega : db_n c 2 = 0 ∨ db_n c 2 = 1 ∨ db_n c 2 = 2 ∨ db_n c 2 = 3) with e | e | e | e <;> rw [e] <;> omega
  rw [db_lk_h j2]
  generalize hNe : (db_n c 1 + 1) * (db_n c 2 + 1) = N at *
  unfold db_f172
  refine db_loop (L := fun m z k => db_f172_b2 m z (nI n) (nI k)) (N := N) (fun k z => (db_Rk c w s0 z g ∧ db_F1 273 s z) ∧ ∀ h, h < k → decide ((db_re c (fun k => nI (g k)) n (db_pm (h / (db_n c 2 + 1))) (db_pm (h % (db_n c 2 + 1)))).toInt ≤ 0) = false) ?_ ?_ (n := db_FU) (by unfold db_FU; omega) ⟨⟨hRk, db_F1_r⟩, lt_0⟩
  · rintro m z ⟨⟨h1, h1'⟩, h2⟩
    show dz_T (db_f172_b2 (m + 1) z (nI n) (nI N)) _
    rw [db_f172_b2]
    have e10 : z.1 274 10 = nI N := by rw [h1'.1 274 (by decide)]; exact hHn
    simp (disch := omega) only [db_lit, eq_self, db_pI_e, db_pL_e, db_bind_some, db_bd_some, nI_add, pk_mul, nI_toInt, db_m1_t, dz_cn, Int.ofNat_le, Int.ofNat_lt, decide_true, decide_false, db_ct, db_cf, not_true_eq_false, not_false_eq_true, db_87e, db_37e, db_31e, db_28e, db_281e, db_211e, db_27, db_269w, db_litL, pk_lT, db_iL, db_p0_e, db_p0_n, db_p0_j, db_sub1, nI_eq, if_true, if_false, Bool.false_eq_true, e10, Nat.le_refl]
    exact ⟨_, rfl, by rw [db_ex_no.mpr h2]; rfl, h1, h1'⟩
  · rintro m k z hk ⟨⟨h1, h1'⟩, h2⟩ hrec
    show dz_T (db_f172_b2 (m + 1) z (nI n) (nI k)) _
    rw [db_f172_b2]
    have e10 : z.1 274 10 = nI N := by rw [h1'.1 274 (by decide)]; exact hHn
    have h7 : ¬ N ≤ k := by omega
    have e280 : z.1 280 k = _ := (congrFun (h1'.1 280 (by decide)) k).trans (hH k hk).1
    have e281 : z.1 281 k = _ := (congrFun (h1'.1 281 (by decide)) k).trans (hH k hk).2
    simp (disch := omega) only [db_lit, eq_self, db_pI_e, db_pL_e, db_bind_some, db_bd_some, nI_add, pk_mul, nI_toInt, db_m1_t, dz_cn, Int.ofNat_le, Int.ofNat_lt, decide_true, decide_false, db_ct, db_cf, not_true_eq_false, not_false_eq_true, db_87e, db_37e, db_31e, db_28e, db_281e, db_211e, db_27, db_269w, db_litL, pk_lT, db_iL, db_p0_e, db_p0_n, db_p0_j, db_sub1, nI_eq, if_true, if_false, Bool.false_eq_true, e10, h7, db_g_280, e280, db_g_281, e281]
    refine db_T_gd (db_Rk_read (p := db_pm (k / (db_n c 2 + 1))) (q := db_pm (k % (db_n c 2 + 1))) hO hU hn h1 hl) fun r z2 hr => ?_
    obtain ⟨r1, r2, r3⟩ := hr
    dsimp only at r1 r2 r3
    subst r1
    rw [db_sgn]
    by_cases e : (db_re c (fun k => nI (g k)) n (db_pm (k / (db_n c 2 + 1))) (db_pm (k % (db_n c 2 + 1)))).toInt ≤ 0
    · rw [decide_eq_false (show ¬ ((0 : Nat) : Int) < (db_re c (fun k => nI (g k)) n (db_pm (k / (db_n c 2 + 1))) (db_pm (k % (db_n c 2 + 1)))).toInt by omega), db_cf]
      refine ⟨_, rfl, ?_, r2, db_F1_t h1' r3⟩
      rw [db_ex_iff.mpr ⟨k, hk, decide_eq_true e⟩]; rfl
    · rw [decide_eq_true (show ((0 : Nat) : Int) < (db_re c (fun k => nI (g k)) n (db_pm (k / (db_n c 2 + 1))) (db_pm (k % (db_n c 2 + 1)))).toInt by omega), db_ct]
      exact hrec z2 ⟨⟨r2, db_F1_t h1' r3⟩, lt_s h2 (decide_eq_false e)⟩
theorem db_353 {s0 : db_S} {n : Nat} {g : Nat → Nat} (hO : db_Ok U c) (hn : n ≤ 4) (hRw : db_Rw c s0 s n g) : dz_T (db_f353 s) (fun z => z.1 = (!dz_lk c (fun k => nI (g k)) n) ∧ db_Rw c s0 z.2 n g) := by
  have k1 := hO.1.2.1
  have k2 := hO.1.2.2.1
  have j1 := k1.2
  have j2 := k2.2
  unfold db_f353
  refine db_loop (L := fun m z i => db_f353_b2 m z (db_pm i)) (N := db_n c 1 + 1) (fun k z => db_Rw c s0 z n g ∧ ∀ i, i < k → db_ex (fun j => decide ((db_re c (fun k => nI (g k)) n (db_pm i) (db_pm j)).toInt ≤ 0)) (db_n c 2 + 1) = false) ?_ ?_ (n := db_FU) (by unfold db_FU; omega) ⟨hRw, lt_0⟩
  · rintro m z ⟨h1, h2⟩
    show dz_T (db_f353_b2 (m + 1) z (db_pm (db_n c 1 + 1))) _
    rw [db_f353_b2]
    have hA := h1.2.1
    simp (disch := omega) only [db_lit, eq_self, db_pI_e, db_pL_e, db_bind_some, db_bd_some, nI_add, pk_mul, nI_toInt, db_m1_t, dz_cn, Int.ofNat_le, Int.ofNat_lt, decide_true, decide_false, db_ct, db_cf, not_true_eq_false, not_false_eq_true, db_87e, db_37e, db_31e, db_28e, db_281e, db_211e, db_27, db_269w, db_litL, pk_lT, db_iL, db_p0_e, db_p0_n, db_p0_j, db_sub1, nI_eq, if_true, if_false, Bool.false_eq_true, db_g_674, hA, k1.1, db_pm_ge, Nat.le_refl]
    exact ⟨_, rfl, by unfold dz_lk; rw [db_ex_no.mpr h2]; rfl, h1⟩
  · rintro m i z hi ⟨h1, h2⟩ hrec
    show dz_T (db_f353_b2 (m + 1) z (db_pm i)) _
    rw [db_f353_b2]
    have hA := h1.2.1
    have h7 : ¬ db_n c 1 + 1 ≤ i := by omega
    simp (disch := omega) only [db_lit, eq_self, db_pI_e, db_pL_e, db_bind_some, db_bd_some, nI_add, pk_mul, nI_toInt, db_m1_t, dz_cn, Int.ofNat_le, Int.ofNat_lt, decide_true, decide_false, db_ct, db_cf, not_true_eq_false, not_false_eq_true, db_87e, db_37e, db_31e, db_28e, db_281e, db_211e, db_27, db_269w, db_litL, pk_lT, db_iL, db_p0_e, db_p0_n, db_p0_j, db_sub1, nI_eq, if_true, if_false, Bool.false_eq_true, db_g_674, hA, k1.1, db_pm_ge, h7]
    refine db_loop (L := fun l z j => db_f353_b14 (db_f353_b2 m) l z (db_pm i) (db_pm j)) (N := db_n c 2 + 1) (fun k z => db_Rw c s0 z n g ∧ ∀ j, j < k → decide ((db_re c (fun k => nI (g k)) n (db_pm i) (db_pm j)).toInt ≤ 0) = false) ?_ ?_ (n := db_FU) (by unfold db_FU; omega) ⟨h1, lt_0⟩
    · rintro l z ⟨h1, h3⟩
      show dz_T (db_f353_b14 (db_f353_b2 m) (l + 1) z (db_pm i) (db_pm (db_n c 2 + 1))) _
      rw [db_f353_b14]
      have hA := h1.2.1
      simp (disch := omega) only [db_lit, eq_self, db_pI_e, db_pL_e, db_bind_some, db_bd_some, nI_add, pk_mul, nI_toInt, db_m1_t, dz_cn, Int.ofNat_le, Int.ofNat_lt, decide_true, decide_false, db_ct, db_cf, not_true_eq_false, not_false_eq_true, db_87e, db_37e, db_31e, db_28e, db_281e, db_211e, db_27, db_269w, db_litL, pk_lT, db_iL, db_p0_e, db_p0_n, db_p0_j, db_sub1, nI_eq, if_true, if_false, Bool.false_eq_true, db_g_674, hA, k2.1, db_pm_ge, Nat.le_refl, db_pm_s]
      exact hrec z ⟨h1, lt_s h2 (db_ex_no.mpr h3)⟩
    · rintro l j z hj ⟨h1, h3⟩ hrec2
      show dz_T (db_f353_b14 (db_f353_b2 m) (l + 1) z (db_pm i) (db_pm j)) _
      rw [db_f353_b14]
      have hA := h1.2.1
      have h8 : ¬ db_n c 2 + 1 ≤ j := by omega
      simp (disch := omega) only [db_lit, eq_self, db_pI_e, db_pL_e, db_bind_some, db_bd_some, nI_add, pk_mul, nI_toInt, db_m1_t, dz_cn, Int.ofNat_le, Int.ofNat_lt, decide_true, decide_false, db_ct, db_cf, not_true_eq_false, not_false_eq_true, db_87e, db_37e, db_31e, db_28e, db_281e, db_211e, db_27, db_269w, db_litL, pk_lT, db_iL, db_p0_e, db_p0_n, db_p0_j, db_sub1, nI_eq, if_true, if_false, Bool.false_eq_true, db_g_674, hA, k2.1, db_pm_ge, h8]
      refine db_T_gd (db_Rw_read hO hn h1 (db_pm_O hi) (db_pm_O hj)) fun r z2 hr => ?_
      obtain ⟨r1, r2⟩ := hr
      dsimp only at r1 r2
      subst r1
      by_cases e : (db_re c (fun k => nI (g k)) n (db_pm i) (db_pm j)).toInt ≤ 0
      · rw [decide_eq_false (show ¬ ((0 : Nat) : Int) < (db_re c (fun k => nI (g k)) n (db_pm i) (db_pm j)).toInt by omega), db_cf]
        refine ⟨_, rfl, ?_, r2⟩
        have : dz_lk c (fun k => nI (g k)) n = true := db_ex_iff.mpr ⟨i, hi, db_ex_iff.mpr ⟨j, hj, decide_eq_true e⟩⟩
        rw [this]; rfl
      · rw [decide_eq_true (show ((0 : Nat) : Int) < (db_re c (fun k => nI (g k)) n (db_pm i) (db_pm j)).toInt by omega), db_ct, db_pm_s]
        exact hrec2 z2 ⟨r2, lt_s h3 (decide_eq_false e)⟩
theorem db_k42 (hI : db_Inv U s) (hU : U ≤ 1000000000) : dz_G U s (fun s => db_f169 s) (fun s => db_f352 s) := by
  obtain ⟨hO, hR, -⟩ := db_cur hI
  have k0 := hO.1.1
  have j0 := k0.2
  have kk3 := db_Ok_K hO (show 3 < 6 by omega)
  have kk4 := db_Ok_K hO (show 4 < 6 by omega)
  refine db_Gf (N := 3) (T := db_n (db_bk s 0) 0) (S := fun n => db_fst (db_pr2 (db_bk s 0) n) (db_n (db_bk s 0) 0 ^ n)) (by omega) hI ?_ fun s1 hA => ?_
  · generalize hcc : db_bk s 0 = c at *
    generalize hww : db_bw s 0 = w at *
    have hcl : dz_T (db_f170 s) (fun z => match db_s4 (fun n => db_fst (db_pr2 c n) (db_n c 0 ^ n)) 3 with
        | none => z.1 = -(nI 1) ∧ db_Ec s z.2
        | some (n, i) => z.1 = nI n ∧ db_KPx s z.2 n (db_ri (db_n c 0) n i)) := by
      unfold db_f170
      refine db_T_go (db_171 hR hO) fun s2 hs => ?_
      obtain ⟨g1, g2, g3, g4, g5⟩ := hs
      have hR2 : db_BR 20 s2 c w := db_BR_c hO (fun b b1 b2 b3 => g3 b (by omega) (by omega) (by omega)) (by rw [g5]) hR
      have hE2 : db_Ec s s2 := fun a j ha => by
        refine ⟨?_, by rw [g5]⟩
        unfold db_ec at ha
        by_cases e : a = 274
        · subst e; exact g4 j (by omega)
        · rw [g3 a e (by omega) (by omega)]
      refine db_loop (L := fun m a k => db_f170_b6 m a (nI (k + 1))) (N := 3) (fun k a => (db_Ec s a ∧ db_BR 20 a c w ∧ db_Hr c a ((db_n c 1 + 1) * (db_n c 2 + 1)) ∧ a.1 274 10 = nI ((db_n c 1 + 1) * (db_n c 2 + 1))) ∧ db_s4 (fun n => db_fst (db_pr2 c n) (db_n c 0 ^ n)) k = none) ?_ ?_ (n := db_FU) (by unfold db_FU; omega) ⟨⟨hE2, hR2, g1, g2⟩, rfl⟩
      · rintro m a ⟨⟨t1, t2, -⟩, t3⟩
        show dz_T (db_f170_b6 (m + 1) a (nI 4)) _
        rw [db_f170_b6, t3]
        simp (disch := omega) only [db_lit, eq_self, db_pI_e, db_pL_e, db_bind_some, db_bd_some, nI_add, pk_mul, nI_toInt, db_m1_t, dz_cn, Int.ofNat_le, Int.ofNat_lt, decide_true, decide_false, db_ct, db_cf, not_true_eq_false, not_false_eq_true, db_87e, db_37e, db_31e, db_28e, db_281e, db_211e, db_27, db_269w, db_litL, pk_lT, db_iL, db_p0_e, db_p0_n, db_p0_j, db_sub1, nI_eq, if_true, if_false, Bool.false_eq_true, (show 3 < 4 by omega)]
        exact ⟨_, rfl, rfl, t1⟩
      · rintro m k a hk ⟨⟨t1, t2, t4, t5⟩, t3⟩ hrec
        show dz_T (db_f170_b6 (m + 1) a (nI (k + 1))) _
        rw [db_f170_b6]
        have h7 : ¬ 3 < k + 1 := by omega
        have hpb := db_pow_b j0 (show k + 1 ≤ 4 by omega)
        simp (disch := omega) only [db_lit, eq_self, db_pI_e, db_pL_e, db_bind_some, db_bd_some, nI_add, pk_mul, nI_toInt, db_m1_t, dz_cn, Int.ofNat_le, Int.ofNat_lt, decide_true, decide_false, db_ct, db_cf, not_true_eq_false, not_false_eq_true, db_87e, db_37e, db_31e, db_28e, db_281e, db_211e, db_27, db_269w, db_litL, pk_lT, db_iL, db_p0_e, db_p0_n, db_p0_j, db_sub1, nI_eq, if_true, if_false, Bool.false_eq_true, h7]
        refine db_T_gd (db_164 (s := a) (T := db_n c 0) (by rw [db_21 t2 (by omega)]; exact k0.1) j0 (show k + 1 ≤ 4 by omega)) fun r s2 hr => ?_
        obtain ⟨r1, r2, r3⟩ := hr
        dsimp only at r1 r2 r3
        subst r1
        have hRk : db_Rk c w s s2 (db_ri (db_n c 0) (k + 1) 0) := ⟨db_Ec_t t1 (db_F1_Ec r2 (fun j => by unfold db_ec; omega)), db_BR_F1 hO (by omega) r2 t2, r3⟩
        have hHe : ∀ b, db_F1 279 a b → db_Hr c b ((db_n c 1 + 1) * (db_n c 2 + 1)) ∧ b.1 274 10 = nI ((db_n c 1 + 1) * (db_n c 2 + 1)) := fun b hb => ⟨fun h hh => by rw [hb.1 280 (by decide), hb.1 281 (by decide)]; exact t4 h hh, by rw [hb.1 274 (by decide)]; exact t5⟩
        refine db_loop (L := fun l a i => db_f170_b19 (db_f170_b6 m) l a (nI (k + 1)) (nI (db_n c 0 ^ (k + 1))) (nI i)) (N := db_n c 0 ^ (k + 1)) (fun i b => (db_Rk c w s b (db_ri (db_n c 0) (k + 1) i) ∧ db_Hr c b ((db_n c 1 + 1) * (db_n c 2 + 1)) ∧ b.1 274 10 = nI ((db_n c 1 + 1) * (db_n c 2 + 1))) ∧ ∀ i', i' < i → db_pr2 c (k + 1) i' = false) ?_ ?_ (n := db_FU) (by unfold db_FU; omega) ⟨⟨hRk, hHe s2 r2⟩, lt_0⟩
        · rintro l b ⟨⟨u1, u3, u4⟩, u2⟩
          show dz_T (db_f170_b19 (db_f170_b6 m) (l + 1) b (nI (k + 1)) (nI (db_n c 0 ^ (k + 1))) (nI (db_n c 0 ^ (k + 1)))) _
          rw [db_f170_b19]
          simp (disch := omega) only [db_lit, eq_self, db_pI_e, db_pL_e, db_bind_some, db_bd_some, nI_add, pk_mul, nI_toInt, db_m1_t, dz_cn, Int.ofNat_le, Int.ofNat_lt, decide_true, decide_false, db_ct, db_cf, not_true_eq_false, not_false_eq_true, db_87e, db_37e, db_31e, db_28e, db_281e, db_211e, db_27, db_269w, db_litL, pk_lT, db_iL, db_p0_e, db_p0_n, db_p0_j, db_sub1, nI_eq, if_true, if_false, Bool.false_eq_true, Nat.le_refl]
          exact hrec b ⟨⟨u1.1, u1.2.1, u3, u4⟩, db_s4_n t3 (db_fst_none.mpr u2)⟩
        · rintro l i b hi ⟨⟨u1, u3, u4⟩, u2⟩ hrec2
          show dz_T (db_f170_b19 (db_f170_b6 m) (l + 1) b (nI (k + 1)) (nI (db_n c 0 ^ (k + 1))) (nI i)) _
          rw [db_f170_b19]
          have h8 : ¬ db_n c 0 ^ (k + 1) ≤ i := by omega
          have hT0 : 0 < db_n c 0 := by
            rcases Nat.eq_zero_or_pos (db_n c 0) with e | e
            · rw [e, Nat.zero_pow (by omega)] at hi; omega
            · exact e
          have hlt := db_ri_lt (n := k + 1) hT0 i
          simp (disch := omega) only [db_lit, eq_self, db_pI_e, db_pL_e, db_bind_some, db_bd_some, nI_add, pk_mul, nI_toInt, db_m1_t, dz_cn, Int.ofNat_le, Int.ofNat_lt, decide_true, decide_false, db_ct, db_cf, not_true_eq_false, not_false_eq_true, db_87e, db_37e, db_31e, db_28e, db_281e, db_211e, db_27, db_269w, db_litL, pk_lT, db_iL, db_p0_e, db_p0_n, db_p0_j, db_sub1, nI_eq, if_true, if_false, Bool.false_eq_true, h8]
          refine db_T_gd (db_172 hO hU (show k + 1 ≤ 4 by omega) u1 hlt u3 u4) fun r a2 hr => ?_
          obtain ⟨v1, v2, v3⟩ := hr
          dsimp only at v1 v2 v3
          subst v1
          have hw : (!dz_lk c (fun j => nI (db_ri (db_n c 0) (k + 1) i j)) (k + 1)) = db_pr2 c (k + 1) i := rfl
          rw [hw]
          cases hpr : db_pr2 c (k + 1) i with
          | true =>
            rw [db_ct]
            obtain ⟨a3, e3, K3⟩ := db_165 (show k + 1 ≤ 4 by omega) v2
            simp (disch := omega) only [db_lit, eq_self, db_pI_e, db_pL_e, db_bind_some, db_bd_some, nI_add, pk_mul, nI_toInt, db_m1_t, dz_cn, Int.ofNat_le, Int.ofNat_lt, decide_true, decide_false, db_ct, db_cf, not_true_eq_false, not_false_eq_true, db_87e, db_37e, db_31e, db_28e, db_281e, db_211e, db_27, db_269w, db_litL, pk_lT, db_iL, db_p0_e, db_p0_n, db_p0_j, db_sub1, nI_eq, if_true, if_false, Bool.false_eq_true, e3]
            have hs4 := db_s4_s (S := fun n => db_fst (db_pr2 c n) (db_n c 0 ^ n)) t3 (i := i) (db_fst_some.mpr ⟨hi, hpr, u2⟩)
            have := db_s4_k hs4 (3 - (k + 1))
            rw [show k + 1 + (3 - (k + 1)) = 3 by omega] at this
            rw [this]
            exact ⟨_, rfl, rfl, K3⟩
          | false =>
            rw [db_cf]
            obtain ⟨a3, e3, t6, t7⟩ := db_Rk_next hO (by omega) (show k + 1 ≤ 4 by omega) v2 hlt
            simp (disch := omega) only [db_lit, eq_self, db_pI_e, db_pL_e, db_bind_some, db_bd_some, nI_add, pk_mul, nI_toInt, db_m1_t, dz_cn, Int.ofNat_le, Int.ofNat_lt, decide_true, decide_false, db_ct, db_cf, not_true_eq_false, not_false_eq_true, db_87e, db_37e, db_31e, db_28e, db_281e, db_211e, db_27, db_269w, db_litL, pk_lT, db_iL, db_p0_e, db_p0_n, db_p0_j, db_sub1, nI_eq, if_true, if_false, Bool.false_eq_true, e3]
            refine hrec2 a3 ⟨⟨t6, fun h hh => ?_, ?_⟩, lt_s u2 hpr⟩
            · rw [t7.1 280 (by decide), t7.1 281 (by decide), v3.1 280 (by decide), v3.1 281 (by decide)]; exact u3 h hh
            · rw [t7.1 274 (by decide), v3.1 274 (by decide)]; exact u4
    unfold db_f169
    refine db_T_gd hcl fun r a hr => ?_
    cases hS : db_s4 (fun n => db_fst (db_pr2 c n) (db_n c 0 ^ n)) 3 with
    | none =>
      rw [hS] at hr
      obtain ⟨r1, r2⟩ := hr
      dsimp only at r1 r2
      simp (disch := omega) only [db_lit, eq_self, db_pI_e, db_pL_e, db_bind_some, db_bd_some, nI_add, pk_mul, nI_toInt, db_m1_t, dz_cn, Int.ofNat_le, Int.ofNat_lt, decide_true, decide_false, db_ct, db_cf, not_true_eq_false, not_false_eq_true, db_87e, db_37e, db_31e, db_28e, db_281e, db_211e, db_27, db_269w, db_litL, pk_lT, db_iL, db_p0_e, db_p0_n, db_p0_j, db_sub1, nI_eq, if_true, if_false, Bool.false_eq_true]
      rw [decide_eq_false (fun g => g r1), db_cf]
      exact ⟨_, rfl, rfl, db_Sc_u r2⟩
    | some e =>
      obtain ⟨n, i⟩ := e
      have := db_s4_le hS
      rw [hS] at hr
      obtain ⟨r1, r2⟩ := hr
      dsimp only at r1 r2
      simp (disch := omega) only [db_lit, eq_self, db_pI_e, db_pL_e, db_bind_some, db_bd_some, nI_add, pk_mul, nI_toInt, db_m1_t, dz_cn, Int.ofNat_le, Int.ofNat_lt, decide_true, decide_false, db_ct, db_cf, not_true_eq_false, not_false_eq_true, db_87e, db_37e, db_31e, db_28e, db_281e, db_211e, db_27, db_269w, db_litL, pk_lT, db_iL, db_p0_e, db_p0_n, db_p0_j, db_sub1, nI_eq, if_true, if_false, Bool.false_eq_true]
      rw [decide_eq_true (by rw [r1, db_m1_ne (by omega)]; exact id), db_ct]
      exact ⟨_, rfl, r1, a, rfl, r2⟩
  · generalize hcc : db_bk s 0 = c at *
    unfold db_f352
    simp (disch := omega) only [db_lit, eq_self, db_pI_e, db_pL_e, db_bind_some, db_bd_some, nI_add, pk_mul, nI_toInt, db_m1_t, dz_cn, Int.ofNat_le, Int.ofNat_lt, decide_true, decide_false, db_ct, db_cf, not_true_eq_false, not_false_eq_true, db_87e, db_37e, db_31e, db_28e, db_281e, db_211e, db_27, db_269w, db_litL, pk_lT, db_iL, db_p0_e, db_p0_n, db_p0_j, db_sub1, nI_eq, if_true, if_false, Bool.false_eq_true]
    refine db_T_gd (db_283 (db_p0_A hA) kk4 kk3) fun r s2 hr => ?_
    obtain ⟨r1, r2⟩ := hr
    dsimp only at r1 r2
    subst r1
    have hE2 : db_Em (db_p0 s1) (db_uI s2 669 30 (db_fo c)) := db_Em_uI (db_F1_Em r2 (fun j => by unfold db_em; omega)) (by unfold db_em; omega)
    have hA2 : db_A (db_uI s2 669 30 (db_fo c)) c := db_A_e (by rw [db_uI_n (by decide)]; exact r2.1 674 (by decide)) (db_p0_A hA)
    have e30 : (db_uI s2 669 30 (db_fo c)).1 669 30 = db_fo c := db_uI_1
    generalize db_uI s2 669 30 (db_fo c) = s3 at hE2 hA2 e30
    refine db_loop (L := fun m a k => db_f352_b20 m a (nI (k + 1))) (N := 3) (fun k a => (db_Em (db_p0 s1) a ∧ db_A a c ∧ a.1 669 30 = db_fo c) ∧ db_s4 (fun n => db_fst (db_pr2 c n) (db_n c 0 ^ n)) k = none) ?_ ?_ (n := db_FU) (by unfold db_FU; omega) ⟨⟨hE2, hA2, e30⟩, rfl⟩
    · rintro m a ⟨⟨g1, g2, -⟩, g3⟩
      show dz_T (db_f352_b20 (m + 1) a (nI 4)) _
      rw [db_f352_b20, g3]
      unfold db_f352_b71
      simp (disch := omega) only [db_lit, eq_self, db_pI_e, db_pL_e, db_bind_some, db_bd_some, nI_add, pk_mul, nI_toInt, db_m1_t, dz_cn, Int.ofNat_le, Int.ofNat_lt, decide_true, decide_false, db_ct, db_cf, not_true_eq_false, not_false_eq_true, db_87e, db_37e, db_31e, db_28e, db_281e, db_211e, db_27, db_269w, db_litL, pk_lT, db_iL, db_p0_e, db_p0_n, db_p0_j, db_sub1, nI_eq, if_true, if_false, Bool.false_eq_true, Nat.le_refl]
      exact ⟨_, rfl, rfl, db_Sm_u g1⟩
    · rintro m k a hk ⟨⟨g1, g2, g2'⟩, g3⟩ hrec
      show dz_T (db_f352_b20 (m + 1) a (nI (k + 1))) _
      rw [db_f352_b20]
      unfold db_f352_b71
      have h7 : ¬ 4 ≤ k + 1 := by omega
      have hpb := db_pow_b j0 (show k + 1 ≤ 4 by omega)
      simp (disch := omega) only [db_lit, eq_self, db_pI_e, db_pL_e, db_bind_some, db_bd_some, nI_add, pk_mul, nI_toInt, db_m1_t, dz_cn, Int.ofNat_le, Int.ofNat_lt, decide_true, decide_false, db_ct, db_cf, not_true_eq_false, not_false_eq_true, db_87e, db_37e, db_31e, db_28e, db_281e, db_211e, db_27, db_269w, db_litL, pk_lT, db_iL, db_p0_e, db_p0_n, db_p0_j, db_sub1, nI_eq, if_true, if_false, Bool.false_eq_true, h7, db_g_674, g2, k0.1]
      by_cases hT0 : db_n c 0 = 0
      · rw [decide_eq_true (show db_n c 0 ≤ 0 by omega), db_ct]
        have hS0 : ∀ n, db_s4 (fun n => db_fst (db_pr2 c n) (db_n c 0 ^ n)) n = none := by
          intro n
          induction n with
          | zero => rfl
          | succ n ih => exact db_s4_n ih (db_fst_none.mpr fun i hi => by rw [hT0, Nat.zero_pow (by omega)] at hi; omega)
        rw [hS0 3]
        exact ⟨_, rfl, rfl, db_Sm_u g1⟩
      · have hT0 : 0 < db_n c 0 := by omega
        rw [decide_eq_false (show ¬ db_n c 0 ≤ 0 by omega), db_cf]
        refine db_T_go (db_348 (s := a) (n := k + 1) (by omega)) fun s4 hs4 => ?_
        obtain ⟨t1, t2, t3, t4, t5⟩ := hs4
        have hA4 : db_A s4 c := db_A_e (t1 674 (by decide) (by decide)) g2
        have hE4 : db_Em (db_p0 s1) s4 := db_Em_t g1 fun a' j ha => by
          refine ⟨?_, by rw [t3]⟩
          unfold db_em at ha
          by_cases e : a' = 669
          · subst e; exact t2 j (by omega)
          · rw [t1 a' e (by omega)]
        have hpos : 0 < db_n c 0 ^ (k + 1) := Nat.pow_pos hT0
        have e1 : nI 1 = db_i (decide (0 < db_n c 0 ^ (k + 1))) := by rw [decide_eq_true hpos]; rfl
        rw [show db_f352_b41 (db_f352_b20 m) db_FU s4 (nI (k + 1)) (nI 1) = db_f352_b41 (db_f352_b20 m) db_FU s4 (nI (k + 1)) (db_i (decide (0 < db_n c 0 ^ (k + 1)))) from congrArg _ e1]
        have hRw : db_Rw c (db_p0 s1) s4 (k + 1) (db_ri (db_n c 0) (k + 1) 0) := ⟨hE4, hA4, t4, by rw [t2 30 (by decide)]; exact g2', fun j hj => t5 j hj⟩
        refine db_loop (L := fun l a i => db_f352_b41 (db_f352_b20 m) l a (nI (k + 1)) (db_i (decide (i < db_n c 0 ^ (k + 1))))) (N := db_n c 0 ^ (k + 1)) (fun i a => db_Rw c (db_p0 s1) a (k + 1) (db_ri (db_n c 0) (k + 1) i) ∧ ∀ i', i' < i → db_pr2 c (k + 1) i' = false) ?_ ?_ (n := db_FU) (by unfold db_FU; omega) ⟨hRw, lt_0⟩
        · rintro l a ⟨u1, u2⟩
          show dz_T (db_f352_b41 (db_f352_b20 m) (l + 1) a (nI (k + 1)) (db_i (decide (db_n c 0 ^ (k + 1) < db_n c 0 ^ (k + 1))))) _
          rw [db_f352_b41]
          simp (disch := omega) only [db_lit, eq_self, db_pI_e, db_pL_e, db_bind_some, db_bd_some, nI_add, pk_mul, nI_toInt, db_m1_t, dz_cn, Int.ofNat_le, Int.ofNat_lt, decide_true, decide_false, db_ct, db_cf, not_true_eq_false, not_false_eq_true, db_87e, db_37e, db_31e, db_28e, db_281e, db_211e, db_27, db_269w, db_litL, pk_lT, db_iL, db_p0_e, db_p0_n, db_p0_j, db_sub1, nI_eq, if_true, if_false, Bool.false_eq_true, db_i0, Nat.lt_irrefl, Bool.not_false]
          exact hrec a ⟨⟨u1.1, u1.2.1, u1.2.2.2.1⟩, db_s4_n g3 (db_fst_none.mpr u2)⟩
        · rintro l i a hi ⟨u1, u2⟩ hrec2
          show dz_T (db_f352_b41 (db_f352_b20 m) (l + 1) a (nI (k + 1)) (db_i (decide (i < db_n c 0 ^ (k + 1))))) _
          rw [db_f352_b41]
          simp (disch := omega) only [db_lit, eq_self, db_pI_e, db_pL_e, db_bind_some, db_bd_some, nI_add, pk_mul, nI_toInt, db_m1_t, dz_cn, Int.ofNat_le, Int.ofNat_lt, decide_true, decide_false, db_ct, db_cf, not_true_eq_false, not_false_eq_true, db_87e, db_37e, db_31e, db_28e, db_281e, db_211e, db_27, db_269w, db_litL, pk_lT, db_iL, db_p0_e, db_p0_n, db_p0_j, db_sub1, nI_eq, if_true, if_false, Bool.false_eq_true, db_i0, hi, Bool.not_true]
          have hlt := db_ri_lt (n := k + 1) hT0 i
          refine db_T_gd (db_353 hO (show k + 1 ≤ 4 by omega) u1) fun r a2 hr => ?_
          obtain ⟨x1, x2⟩ := hr
          dsimp only at x1 x2
          subst x1
          have hw : (!dz_lk c (fun j => nI (db_ri (db_n c 0) (k + 1) i j)) (k + 1)) = db_pr2 c (k + 1) i := rfl
          rw [hw]
          cases hpr : db_pr2 c (k + 1) i with
          | true =>
            rw [db_ct]
            have hs4 := db_s4_s (S := fun n => db_fst (db_pr2 c n) (db_n c 0 ^ n)) g3 (i := i) (db_fst_some.mpr ⟨hi, hpr, u2⟩)
            have := db_s4_k hs4 (3 - (k + 1))
            rw [show k + 1 + (3 - (k + 1)) = 3 by omega] at this
            rw [this]
            refine db_T_gd (db_349 (show k + 1 ≤ 4 by omega) x2) fun r a3 hr => ?_
            exact ⟨_, rfl, hr.1, hr.2⟩
          | false =>
            rw [db_cf]
            obtain ⟨a3, y1, y2⟩ := db_Rw_next k0.1 j0 (by omega) (show k + 1 ≤ 4 by omega) x2 hlt
            have hnv : (!db_nv (db_n c 0) (db_ri (db_n c 0) (k + 1) i) (k + 1)) = decide (i + 1 < db_n c 0 ^ (k + 1)) := by
              rw [db_ri_nv hT0 hi, ← decide_not, decide_eq_decide]
              omega
            rw [hnv] at y1
            simp (disch := omega) only [db_lit, eq_self, db_pI_e, db_pL_e, db_bind_some, db_bd_some, nI_add, pk_mul, nI_toInt, db_m1_t, dz_cn, Int.ofNat_le, Int.ofNat_lt, decide_true, decide_false, db_ct, db_cf, not_true_eq_false, not_false_eq_true, db_87e, db_37e, db_31e, db_28e, db_281e, db_211e, db_27, db_269w, db_litL, pk_lT, db_iL, db_p0_e, db_p0_n, db_p0_j, db_sub1, nI_eq, if_true, if_false, Bool.false_eq_true, y1]
            exact hrec2 a3 ⟨y2, lt_s u2 hpr⟩
end DBV2
