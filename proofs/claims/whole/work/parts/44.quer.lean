/-! WHOSE, WHEN, BARGAIN, IDLE, QUARRELS -/
/-- the dream whose reading by its costs is the most -/
def db_bg (c : db_C) (p q : Int32) : Nat → Option Nat
  | 0 => none
  | k + 1 => match db_bg c p q k with
    | none => some k
    | some b => if (db_rq c b p q * (c (135 + k) + nI 1)).toInt < (db_rq c k p q * (c (135 + b) + nI 1)).toInt then some k else some b
theorem db_bg_lt {c : db_C} {p q : Int32} : ∀ {k b : Nat}, db_bg c p q k = some b → b < k
  | 0, _, h => nomatch h
  | k + 1, b, h => by
    rw [db_bg] at h
    cases hm : db_bg c p q k with
    | none =>
      rw [hm] at h
      cases h; omega
    | some b' =>
      have := db_bg_lt hm
      rw [hm] at h
      dsimp only at h
      split at h
      · cases h; omega
      · cases h; omega
theorem db_p0_Em {s a : db_S} (h : db_Em (db_p0 s) a) {st : Int32} : db_Sm st s (db_uI a 669 0 st) := db_Sm_u h
section DBQ5
variable {U : Nat} {s : db_S} {c : db_C} {w : Nat → Int64} {v x y z p q : Int32}
theorem db_k45 (hI : db_Inv U s) (hU : U ≤ 1000000000) : dz_G U s (fun s => db_f179 s x q v) (fun s => db_f358 s x q v) := by
  obtain ⟨hO, hR, -⟩ := db_cur hI
  have k1 := hO.1.2.1
  have j1 := k1.2
  generalize hcc : db_bk s 0 = c at *
  generalize hww : db_bw s 0 = w at *
  cases h : (db_is x (db_n c 5) && (db_im (-(nI 1)) (db_n c 1) && db_im q (db_n c 2))) with
  | false =>
    refine db_Gn 2 hI ?_ fun s1 hS hA => ?_
    · unfold db_f179
      simp (disch := omega) only [db_lit, eq_self, db_pI_e, db_pL_e, db_bind_some, db_bd_some, nI_add, pk_mul, nI_toInt, db_m1_t, dz_cn, Int.ofNat_le, Int.ofNat_lt, decide_true, decide_false, db_ct, db_cf, not_true_eq_false, not_false_eq_true, db_87e, db_37e, db_31e, db_28e, db_281e, db_211e, db_27, db_269w, db_litL, pk_lT, db_iL, db_p0_e, db_p0_n, db_p0_j, db_sub1, nI_eq, if_true, if_false, Bool.false_eq_true, db_125 hR hO, h]
    · rw [hcc] at hA
      unfold db_f358
      simp (disch := omega) only [db_lit, eq_self, db_pI_e, db_pL_e, db_bind_some, db_bd_some, nI_add, pk_mul, nI_toInt, db_m1_t, dz_cn, Int.ofNat_le, Int.ofNat_lt, decide_true, decide_false, db_ct, db_cf, not_true_eq_false, not_false_eq_true, db_87e, db_37e, db_31e, db_28e, db_281e, db_211e, db_27, db_269w, db_litL, pk_lT, db_iL, db_p0_e, db_p0_n, db_p0_j, db_sub1, nI_eq, if_true, if_false, Bool.false_eq_true, db_314 (db_p0_A hA) hO, h]
  | true =>
    obtain ⟨⟨d, hd, rfl⟩, -, hq⟩ := db_rdg h
    have hmk : ∀ k, db_mk (fun p => decide (db_rq c d (nI p) q = v)) (k + 1) = db_mk (fun p => decide (db_rq c d (nI p) q = v)) k ||| (if decide (db_rq c d (nI k) q = v) = true then db_b1 k else nI 0) := fun k => rfl
    refine db_Gq (db_mk (fun p => decide (db_rq c d (nI p) q = v)) (db_n c 1)) (nI 0) hI ?_ fun s1 hS hA => ?_
    · unfold db_f179
      simp (disch := omega) only [db_lit, eq_self, db_pI_e, db_pL_e, db_bind_some, db_bd_some, nI_add, pk_mul, nI_toInt, db_m1_t, dz_cn, Int.ofNat_le, Int.ofNat_lt, decide_true, decide_false, db_ct, db_cf, not_true_eq_false, not_false_eq_true, db_87e, db_37e, db_31e, db_28e, db_281e, db_211e, db_27, db_269w, db_litL, pk_lT, db_iL, db_p0_e, db_p0_n, db_p0_j, db_sub1, nI_eq, if_true, if_false, Bool.false_eq_true, db_125 hR hO, h]
      refine db_loop (L := fun n (a : db_S × Int32) k => db_f179_b22 n a.1 (nI d) q v a.2 (nI k)) (N := db_n c 1) (fun k a => a.2 = db_mk (fun p => decide (db_rq c d (nI p) q = v)) k ∧ db_Ec s a.1 ∧ db_BR 20 a.1 c w) ?_ ?_ (n := db_FU) (a := (s, nI 0)) (by unfold db_FU; omega) ⟨rfl, db_Ec_r, hR⟩
      · rintro n ⟨a, u⟩ ⟨h1, h2, h3⟩
        dsimp only at h1 h2 h3
        show dz_T (db_f179_b22 (n + 1) a (nI d) q v u (nI (db_n c 1))) _
        rw [db_f179_b22]
        simp (disch := omega) only [db_lit, eq_self, db_pI_e, db_pL_e, db_bind_some, db_bd_some, nI_add, pk_mul, nI_toInt, db_m1_t, dz_cn, Int.ofNat_le, Int.ofNat_lt, decide_true, decide_false, db_ct, db_cf, not_true_eq_false, not_false_eq_true, db_87e, db_37e, db_31e, db_28e, db_281e, db_211e, db_27, db_269w, db_litL, pk_lT, db_iL, db_p0_e, db_p0_n, db_p0_j, db_sub1, nI_eq, if_true, if_false, Bool.false_eq_true, db_g_21, db_21 h3, k1.1, Nat.le_refl]
        exact ⟨_, rfl, h1, db_Sc_u h2⟩
      · rintro n k ⟨a, u⟩ hk ⟨h1, h2, h3⟩ hrec
        dsimp only at h1 h2 h3
        show dz_T (db_f179_b22 (n + 1) a (nI d) q v u (nI k)) _
        rw [db_f179_b22]
        have h7 : ¬ db_n c 1 ≤ k := by omega
        simp (disch := omega) only [db_lit, eq_self, db_pI_e, db_pL_e, db_bind_some, db_bd_some, nI_add, pk_mul, nI_toInt, db_m1_t, dz_cn, Int.ofNat_le, Int.ofNat_lt, decide_true, decide_false, db_ct, db_cf, not_true_eq_false, not_false_eq_true, db_87e, db_37e, db_31e, db_28e, db_281e, db_211e, db_27, db_269w, db_litL, pk_lT, db_iL, db_p0_e, db_p0_n, db_p0_j, db_sub1, nI_eq, if_true, if_false, Bool.false_eq_true, db_g_21, db_21 h3, k1.1, h7]
        refine db_T_gd (db_c127 h3 hO hU hd (.inr ⟨k, hk, rfl⟩) hq) fun r a2 hr => ?_
        obtain ⟨r1, ⟨r2, r3⟩, -⟩ := hr
        dsimp only at r1 r2 r3
        subst r1
        unfold db_f179_b60
        simp (disch := omega) only [db_lit, eq_self, db_pI_e, db_pL_e, db_bind_some, db_bd_some, nI_add, pk_mul, nI_toInt, db_m1_t, dz_cn, Int.ofNat_le, Int.ofNat_lt, decide_true, decide_false, db_ct, db_cf, not_true_eq_false, not_false_eq_true, db_87e, db_37e, db_31e, db_28e, db_281e, db_211e, db_27, db_269w, db_litL, pk_lT, db_iL, db_p0_e, db_p0_n, db_p0_j, db_sub1, nI_eq, if_true, if_false, Bool.false_eq_true]
        by_cases e : db_rq c d (nI k) q = v
        · rw [decide_eq_false (fun g => g e), db_cf]
          refine hrec (a2, u ||| db_b1 k) ⟨?_, db_Ec_t h2 r2, r3⟩
          show u ||| db_b1 k = _
          rw [hmk, decide_eq_true e, if_pos rfl, h1]
        · rw [decide_eq_true e, db_ct]
          refine hrec (a2, u) ⟨?_, db_Ec_t h2 r2, r3⟩
          show u = _
          rw [hmk, decide_eq_false e, if_neg (by decide), h1, db_or0]
    · rw [hcc] at hA
      unfold db_f358
      simp (disch := omega) only [db_lit, eq_self, db_pI_e, db_pL_e, db_bind_some, db_bd_some, nI_add, pk_mul, nI_toInt, db_m1_t, dz_cn, Int.ofNat_le, Int.ofNat_lt, decide_true, decide_false, db_ct, db_cf, not_true_eq_false, not_false_eq_true, db_87e, db_37e, db_31e, db_28e, db_281e, db_211e, db_27, db_269w, db_litL, pk_lT, db_iL, db_p0_e, db_p0_n, db_p0_j, db_sub1, nI_eq, if_true, if_false, Bool.false_eq_true, db_314 (db_p0_A hA) hO, h]
      refine db_loop (L := fun n (a : db_S × Int32) k => db_f358_b28 n a.1 (nI d) q v a.2 (nI k)) (N := db_n c 1) (fun k a => a.2 = db_mk (fun p => decide (db_rq c d (nI p) q = v)) k ∧ db_Em (db_p0 s1) a.1 ∧ db_A a.1 c) ?_ ?_ (n := db_FU) (a := (db_p0 s1, nI 0)) (by unfold db_FU; omega) ⟨rfl, db_Em_r, db_p0_A hA⟩
      · rintro n ⟨a, u⟩ ⟨h1, h2, h3⟩
        dsimp only at h1 h2 h3
        show dz_T (db_f358_b28 (n + 1) a (nI d) q v u (nI (db_n c 1))) _
        rw [db_f358_b28]
        simp (disch := omega) only [db_lit, eq_self, db_pI_e, db_pL_e, db_bind_some, db_bd_some, nI_add, pk_mul, nI_toInt, db_m1_t, dz_cn, Int.ofNat_le, Int.ofNat_lt, decide_true, decide_false, db_ct, db_cf, not_true_eq_false, not_false_eq_true, db_87e, db_37e, db_31e, db_28e, db_281e, db_211e, db_27, db_269w, db_litL, pk_lT, db_iL, db_p0_e, db_p0_n, db_p0_j, db_sub1, nI_eq, if_true, if_false, Bool.false_eq_true, db_g_674, h3, k1.1, Nat.le_refl]
        exact ⟨_, rfl, h1, db_Sm_0 h2⟩
      · rintro n k ⟨a, u⟩ hk ⟨h1, h2, h3⟩ hrec
        dsimp only at h1 h2 h3
        show dz_T (db_f358_b28 (n + 1) a (nI d) q v u (nI k)) _
        rw [db_f358_b28]
        have h7 : ¬ db_n c 1 ≤ k := by omega
        simp (disch := omega) only [db_lit, eq_self, db_pI_e, db_pL_e, db_bind_some, db_bd_some, nI_add, pk_mul, nI_toInt, db_m1_t, dz_cn, Int.ofNat_le, Int.ofNat_lt, decide_true, decide_false, db_ct, db_cf, not_true_eq_false, not_false_eq_true, db_87e, db_37e, db_31e, db_28e, db_281e, db_211e, db_27, db_269w, db_litL, pk_lT, db_iL, db_p0_e, db_p0_n, db_p0_j, db_sub1, nI_eq, if_true, if_false, Bool.false_eq_true, db_g_674, h3, k1.1, h7]
        refine db_T_gd (db_m316 h3 hO hd (.inr ⟨k, hk, rfl⟩) hq) fun r a2 hr => ?_
        obtain ⟨r1, ⟨r2, -, r3⟩, -⟩ := hr
        dsimp only at r1 r2 r3
        subst r1
        unfold db_f358_b61
        simp (disch := omega) only [db_lit, eq_self, db_pI_e, db_pL_e, db_bind_some, db_bd_some, nI_add, pk_mul, nI_toInt, db_m1_t, dz_cn, Int.ofNat_le, Int.ofNat_lt, decide_true, decide_false, db_ct, db_cf, not_true_eq_false, not_false_eq_true, db_87e, db_37e, db_31e, db_28e, db_281e, db_211e, db_27, db_269w, db_litL, pk_lT, db_iL, db_p0_e, db_p0_n, db_p0_j, db_sub1, nI_eq, if_true, if_false, Bool.false_eq_true]
        by_cases e : db_rq c d (nI k) q = v
        · rw [decide_eq_false (fun g => g e), db_cf]
          refine hrec (a2, u ||| db_b1 k) ⟨?_, db_Em_t h2 r2, r3⟩
          show u ||| db_b1 k = _
          rw [hmk, decide_eq_true e, if_pos rfl, h1]
        · rw [decide_eq_true e, db_ct]
          refine hrec (a2, u ||| nI 0) ⟨?_, db_Em_t h2 r2, r3⟩
          show u ||| nI 0 = _
          rw [hmk, decide_eq_false e, if_neg (by decide), h1]
theorem db_k46 (hI : db_Inv U s) (hU : U ≤ 1000000000) : dz_G U s (fun s => db_f180 s x p v) (fun s => db_f359 s x p v) := by
  obtain ⟨hO, hR, -⟩ := db_cur hI
  have k1 := hO.1.2.2.1
  have j1 := k1.2
  generalize hcc : db_bk s 0 = c at *
  generalize hww : db_bw s 0 = w at *
  cases h : (db_is x (db_n c 5) && (db_im p (db_n c 1) && db_im (-(nI 1)) (db_n c 2))) with
  | false =>
    refine db_Gn 2 hI ?_ fun s1 hS hA => ?_
    · unfold db_f180
      simp (disch := omega) only [db_lit, eq_self, db_pI_e, db_pL_e, db_bind_some, db_bd_some, nI_add, pk_mul, nI_toInt, db_m1_t, dz_cn, Int.ofNat_le, Int.ofNat_lt, decide_true, decide_false, db_ct, db_cf, not_true_eq_false, not_false_eq_true, db_87e, db_37e, db_31e, db_28e, db_281e, db_211e, db_27, db_269w, db_litL, pk_lT, db_iL, db_p0_e, db_p0_n, db_p0_j, db_sub1, nI_eq, if_true, if_false, Bool.false_eq_true, db_125 hR hO, h]
    · rw [hcc] at hA
      unfold db_f359
      simp (disch := omega) only [db_lit, eq_self, db_pI_e, db_pL_e, db_bind_some, db_bd_some, nI_add, pk_mul, nI_toInt, db_m1_t, dz_cn, Int.ofNat_le, Int.ofNat_lt, decide_true, decide_false, db_ct, db_cf, not_true_eq_false, not_false_eq_true, db_87e, db_37e, db_31e, db_28e, db_281e, db_211e, db_27, db_269w, db_litL, pk_lT, db_iL, db_p0_e, db_p0_n, db_p0_j, db_sub1, nI_eq, if_true, if_false, Bool.false_eq_true, db_314 (db_p0_A hA) hO, h]
  | true =>
    obtain ⟨⟨d, hd, rfl⟩, hp, -⟩ := db_rdg h
    have hmk : ∀ k, db_mk (fun s => decide (db_rq c d p (nI s) = v)) (k + 1) = db_mk (fun s => decide (db_rq c d p (nI s) = v)) k ||| (if decide (db_rq c d p (nI k) = v) = true then db_b1 k else nI 0) := fun k => rfl
    refine db_Gq (db_mk (fun s => decide (db_rq c d p (nI s) = v)) (db_n c 2)) (nI 0) hI ?_ fun s1 hS hA => ?_
    · unfold db_f180
      simp (disch := omega) only [db_lit, eq_self, db_pI_e, db_pL_e, db_bind_some, db_bd_some, nI_add, pk_mul, nI_toInt, db_m1_t, dz_cn, Int.ofNat_le, Int.ofNat_lt, decide_true, decide_false, db_ct, db_cf, not_true_eq_false, not_false_eq_true, db_87e, db_37e, db_31e, db_28e, db_281e, db_211e, db_27, db_269w, db_litL, pk_lT, db_iL, db_p0_e, db_p0_n, db_p0_j, db_sub1, nI_eq, if_true, if_false, Bool.false_eq_true, db_125 hR hO, h]
      refine db_loop (L := fun n (a : db_S × Int32) k => db_f180_b22 n a.1 (nI d) p v a.2 (nI k)) (N := db_n c 2) (fun k a => a.2 = db_mk (fun s => decide (db_rq c d p (nI s) = v)) k ∧ db_Ec s a.1 ∧ db_BR 20 a.1 c w) ?_ ?_ (n := db_FU) (a := (s, nI 0)) (by unfold db_FU; omega) ⟨rfl, db_Ec_r, hR⟩
      · rintro n ⟨a, u⟩ ⟨h1, h2, h3⟩
        dsimp only at h1 h2 h3
        show dz_T (db_f180_b22 (n + 1) a (nI d) p v u (nI (db_n c 2))) _
        rw [db_f180_b22]
        simp (disch := omega) only [db_lit, eq_self, db_pI_e, db_pL_e, db_bind_some, db_bd_some, nI_add, pk_mul, nI_toInt, db_m1_t, dz_cn, Int.ofNat_le, Int.ofNat_lt, decide_true, decide_false, db_ct, db_cf, not_true_eq_false, not_false_eq_true, db_87e, db_37e, db_31e, db_28e, db_281e, db_211e, db_27, db_269w, db_litL, pk_lT, db_iL, db_p0_e, db_p0_n, db_p0_j, db_sub1, nI_eq, if_true, if_false, Bool.false_eq_true, db_g_21, db_21 h3, k1.1, Nat.le_refl]
        exact ⟨_, rfl, h1, db_Sc_u h2⟩
      · rintro n k ⟨a, u⟩ hk ⟨h1, h2, h3⟩ hrec
        dsimp only at h1 h2 h3
        show dz_T (db_f180_b22 (n + 1) a (nI d) p v u (nI k)) _
        rw [db_f180_b22]
        have h7 : ¬ db_n c 2 ≤ k := by omega
        simp (disch := omega) only [db_lit, eq_self, db_pI_e, db_pL_e, db_bind_some, db_bd_some, nI_add, pk_mul, nI_toInt, db_m1_t, dz_cn, Int.ofNat_le, Int.ofNat_lt, decide_true, decide_false, db_ct, db_cf, not_true_eq_false, not_false_eq_true, db_87e, db_37e, db_31e, db_28e, db_281e, db_211e, db_27, db_269w, db_litL, pk_lT, db_iL, db_p0_e, db_p0_n, db_p0_j, db_sub1, nI_eq, if_true, if_false, Bool.false_eq_true, db_g_21, db_21 h3, k1.1, h7]
        refine db_T_gd (db_c127 h3 hO hU hd hp (.inr ⟨k, hk, rfl⟩)) fun r a2 hr => ?_
        obtain ⟨r1, ⟨r2, r3⟩, -⟩ := hr
        dsimp only at r1 r2 r3
        subst r1
        unfold db_f180_b60
        simp (disch := omega) only [db_lit, eq_self, db_pI_e, db_pL_e, db_bind_some, db_bd_some, nI_add, pk_mul, nI_toInt, db_m1_t, dz_cn, Int.ofNat_le, Int.ofNat_lt, decide_true, decide_false, db_ct, db_cf, not_true_eq_false, not_false_eq_true, db_87e, db_37e, db_31e, db_28e, db_281e, db_211e, db_27, db_269w, db_litL, pk_lT, db_iL, db_p0_e, db_p0_n, db_p0_j, db_sub1, nI_eq, if_true, if_false, Bool.false_eq_true]
        by_cases e : db_rq c d p (nI k) = v
        · rw [decide_eq_false (fun g => g e), db_cf]
          refine hrec (a2, u ||| db_b1 k) ⟨?_, db_Ec_t h2 r2, r3⟩
          show u ||| db_b1 k = _
          rw [hmk, decide_eq_true e, if_pos rfl, h1]
        · rw [decide_eq_true e, db_ct]
          refine hrec (a2, u) ⟨?_, db_Ec_t h2 r2, r3⟩
          show u = _
          rw [hmk, decide_eq_false e, if_neg (by decide), h1, db_or0]
    · rw [hcc] at hA
      unfold db_f359
      simp (disch := omega) only [db_lit, eq_self, db_pI_e, db_pL_e, db_bind_some, db_bd_some, nI_add, pk_mul, nI_toInt, db_m1_t, dz_cn, Int.ofNat_le, Int.ofNat_lt, decide_true, decide_false, db_ct, db_cf, not_true_eq_false, not_false_eq_true, db_87e, db_37e, db_31e, db_28e, db_281e, db_211e, db_27, db_269w, db_litL, pk_lT, db_iL, db_p0_e, db_p0_n, db_p0_j, db_sub1, nI_eq, if_true, if_false, Bool.false_eq_true, db_314 (db_p0_A hA) hO, h]
      refine db_loop (L := fun n (a : db_S × Int32) k => db_f359_b28 n a.1 (nI d) p v a.2 (nI k)) (N := db_n c 2) (fun k a => a.2 = db_mk (fun s => decide (db_rq c d p (nI s) = v)) k ∧ db_Em (db_p0 s1) a.1 ∧ db_A a.1 c) ?_ ?_ (n := db_FU) (a := (db_p0 s1, nI 0)) (by unfold db_FU; omega) ⟨rfl, db_Em_r, db_p0_A hA⟩
      · rintro n ⟨a, u⟩ ⟨h1, h2, h3⟩
        dsimp only at h1 h2 h3
        show dz_T (db_f359_b28 (n + 1) a (nI d) p v u (nI (db_n c 2))) _
        rw [db_f359_b28]
        simp (disch := omega) only [db_lit, eq_self, db_pI_e, db_pL_e, db_bind_some, db_bd_some, nI_add, pk_mul, nI_toInt, db_m1_t, dz_cn, Int.ofNat_le, Int.ofNat_lt, decide_true, decide_false, db_ct, db_cf, not_true_eq_false, not_false_eq_true, db_87e, db_37e, db_31e, db_28e, db_281e, db_211e, db_27, db_269w, db_litL, pk_lT, db_iL, db_p0_e, db_p0_n, db_p0_j, db_sub1, nI_eq, if_true, if_false, Bool.false_eq_true, db_g_674, h3, k1.1, Nat.le_refl]
        exact ⟨_, rfl, h1, db_Sm_0 h2⟩
      · rintro n k ⟨a, u⟩ hk ⟨h1, h2, h3⟩ hrec
        dsimp only at h1 h2 h3
        show dz_T (db_f359_b28 (n + 1) a (nI d) p v u (nI k)) _
        rw [db_f359_b28]
        have h7 : ¬ db_n c 2 ≤ k := by omega
        simp (disch := omega) only [db_lit, eq_self, db_pI_e, db_pL_e, db_bind_some, db_bd_some, nI_add, pk_mul, nI_toInt, db_m1_t, dz_cn, Int.ofNat_le, Int.ofNat_lt, decide_true, decide_false, db_ct, db_cf, not_true_eq_false, not_false_eq_true, db_87e, db_37e, db_31e, db_28e, db_281e, db_211e, db_27, db_269w, db_litL, pk_lT, db_iL, db_p0_e, db_p0_n, db_p0_j, db_sub1, nI_eq, if_true, if_false, Bool.false_eq_true, db_g_674, h3, k1.1, h7]
        refine db_T_gd (db_m316 h3 hO hd hp (.inr ⟨k, hk, rfl⟩)) fun r a2 hr => ?_
        obtain ⟨r1, ⟨r2, -, r3⟩, -⟩ := hr
        dsimp only at r1 r2 r3
        subst r1
        unfold db_f359_b61
        simp (disch := omega) only [db_lit, eq_self, db_pI_e, db_pL_e, db_bind_some, db_bd_some, nI_add, pk_mul, nI_toInt, db_m1_t, dz_cn, Int.ofNat_le, Int.ofNat_lt, decide_true, decide_false, db_ct, db_cf, not_true_eq_false, not_false_eq_true, db_87e, db_37e, db_31e, db_28e, db_281e, db_211e, db_27, db_269w, db_litL, pk_lT, db_iL, db_p0_e, db_p0_n, db_p0_j, db_sub1, nI_eq, if_true, if_false, Bool.false_eq_true]
        by_cases e : db_rq c d p (nI k) = v
        · rw [decide_eq_false (fun g => g e), db_cf]
          refine hrec (a2, u ||| db_b1 k) ⟨?_, db_Em_t h2 r2, r3⟩
          show u ||| db_b1 k = _
          rw [hmk, decide_eq_true e, if_pos rfl, h1]
        · rw [decide_eq_true e, db_ct]
          refine hrec (a2, u ||| nI 0) ⟨?_, db_Em_t h2 r2, r3⟩
          show u ||| nI 0 = _
          rw [hmk, decide_eq_false e, if_neg (by decide), h1]
theorem db_k48 (hI : db_Inv U s) (hU : U ≤ 1000000000) : dz_G U s (fun s => db_f184 s p q) (fun s => db_f362 s p q) := by
  obtain ⟨hO, hR, -⟩ := db_cur hI
  have k5 := hO.1.2.2.2.2.2
  have j5 := k5.2
  generalize hcc : db_bk s 0 = c at *
  generalize hww : db_bw s 0 = w at *
  cases h : (db_im p (db_n c 1) && db_im q (db_n c 2)) with
  | false =>
    refine db_Gn 2 hI ?_ fun s1 hS hA => ?_
    · unfold db_f184
      simp (disch := omega) only [db_lit, eq_self, db_pI_e, db_pL_e, db_bind_some, db_bd_some, nI_add, pk_mul, nI_toInt, db_m1_t, dz_cn, Int.ofNat_le, Int.ofNat_lt, decide_true, decide_false, db_ct, db_cf, not_true_eq_false, not_false_eq_true, db_87e, db_37e, db_31e, db_28e, db_281e, db_211e, db_27, db_269w, db_litL, pk_lT, db_iL, db_p0_e, db_p0_n, db_p0_j, db_sub1, nI_eq, if_true, if_false, Bool.false_eq_true, db_126 hR hO, h]
    · rw [hcc] at hA
      unfold db_f362
      simp (disch := omega) only [db_lit, eq_self, db_pI_e, db_pL_e, db_bind_some, db_bd_some, nI_add, pk_mul, nI_toInt, db_m1_t, dz_cn, Int.ofNat_le, Int.ofNat_lt, decide_true, decide_false, db_ct, db_cf, not_true_eq_false, not_false_eq_true, db_87e, db_37e, db_31e, db_28e, db_281e, db_211e, db_27, db_269w, db_litL, pk_lT, db_iL, db_p0_e, db_p0_n, db_p0_j, db_sub1, nI_eq, if_true, if_false, Bool.false_eq_true, db_315 (db_p0_A hA) hO.1.2.1 hO.1.2.2.1, h]
  | true =>
    have h' := h
    simp only [Bool.and_eq_true] at h'
    have hp := db_im_t h'.1
    have hq := db_im_t h'.2
    have hbg : ∀ k, db_bg c p q (k + 1) = (match db_bg c p q k with | none => some k | some b => if (db_rq c b p q * (c (135 + k) + nI 1)).toInt < (db_rq c k p q * (c (135 + b) + nI 1)).toInt then some k else some b) := fun k => rfl
    -- the class's search
    have hcl : dz_T (db_f185 s p q) (fun z => z.1 = db_o (db_bg c p q (db_n c 5)) ∧ db_Ec s z.2) := by
      unfold db_f185
      refine db_loop (L := fun n (a : db_S × Int32 × Int32) k => db_f185_b8 n a.1 p q a.2.1 a.2.2 (nI k)) (N := db_n c 5) (fun k a => a.2.1 = db_o (db_bg c p q k) ∧ (∀ b, db_bg c p q k = some b → a.2.2 = db_rq c b p q) ∧ db_Ec s a.1 ∧ db_BR 20 a.1 c w) ?_ ?_ (n := db_FU) (a := (s, -(nI 1), nI 0)) (by unfold db_FU; omega) ⟨rfl, fun b hb => (nomatch hb), db_Ec_r, hR⟩
      · rintro n ⟨a, u, u2⟩ ⟨h1, h1', h2, h3⟩
        dsimp only at h1 h1' h2 h3
        show dz_T (db_f185_b8 (n + 1) a p q u u2 (nI (db_n c 5))) _
        rw [db_f185_b8]
        simp (disch := omega) only [db_lit, eq_self, db_pI_e, db_pL_e, db_bind_some, db_bd_some, nI_add, pk_mul, nI_toInt, db_m1_t, dz_cn, Int.ofNat_le, Int.ofNat_lt, decide_true, decide_false, db_ct, db_cf, not_true_eq_false, not_false_eq_true, db_87e, db_37e, db_31e, db_28e, db_281e, db_211e, db_27, db_269w, db_litL, pk_lT, db_iL, db_p0_e, db_p0_n, db_p0_j, db_sub1, nI_eq, if_true, if_false, Bool.false_eq_true, db_g_21, db_21 h3, k5.1, Nat.le_refl]
        exact ⟨_, rfl, h1, h2⟩
      · rintro n k ⟨a, u, u2⟩ hk ⟨h1, h1', h2, h3⟩ hrec
        dsimp only at h1 h1' h2 h3
        show dz_T (db_f185_b8 (n + 1) a p q u u2 (nI k)) _
        rw [db_f185_b8]
        have h7 : ¬ db_n c 5 ≤ k := by omega
        simp (disch := omega) only [db_lit, eq_self, db_pI_e, db_pL_e, db_bind_some, db_bd_some, nI_add, pk_mul, nI_toInt, db_m1_t, dz_cn, Int.ofNat_le, Int.ofNat_lt, decide_true, decide_false, db_ct, db_cf, not_true_eq_false, not_false_eq_true, db_87e, db_37e, db_31e, db_28e, db_281e, db_211e, db_27, db_269w, db_litL, pk_lT, db_iL, db_p0_e, db_p0_n, db_p0_j, db_sub1, nI_eq, if_true, if_false, Bool.false_eq_true, db_g_21, db_21 h3, k5.1, h7]
        refine db_T_gd (db_c127 h3 hO hU hk hp hq) fun r a2 hr => ?_
        obtain ⟨r1, ⟨r2, r3⟩, -⟩ := hr
        dsimp only at r1 r2 r3
        subst r1
        unfold db_f185_b72 db_f185_b79
        simp (disch := omega) only [db_lit, eq_self, db_pI_e, db_pL_e, db_bind_some, db_bd_some, nI_add, pk_mul, nI_toInt, db_m1_t, dz_cn, Int.ofNat_le, Int.ofNat_lt, decide_true, decide_false, db_ct, db_cf, not_true_eq_false, not_false_eq_true, db_87e, db_37e, db_31e, db_28e, db_281e, db_211e, db_27, db_269w, db_litL, pk_lT, db_iL, db_p0_e, db_p0_n, db_p0_j, db_sub1, nI_eq, if_true, if_false, Bool.false_eq_true]
        cases hm : db_bg c p q k with
        | none =>
          rw [hm] at h1
          have h1 : u = -(nI 1) := h1
          rw [decide_eq_true h1, db_ct]
          refine hrec (a2, nI k, db_rq c k p q) ⟨?_, fun b hb => ?_, db_Ec_t h2 r2, r3⟩
          · rw [hbg, hm]; rfl
          · rw [hbg, hm] at hb; cases hb; rfl
        | some b =>
          have hb := db_bg_lt hm
          rw [hm] at h1
          have h1 : u = nI b := h1
          rw [decide_eq_false (by rw [h1, db_m1_ne (by omega)]; exact id), db_cf, h1, h1' b hm]
          simp (disch := omega) only [db_lit, eq_self, db_pI_e, db_pL_e, db_bind_some, db_bd_some, nI_add, pk_mul, nI_toInt, db_m1_t, dz_cn, Int.ofNat_le, Int.ofNat_lt, decide_true, decide_false, db_ct, db_cf, not_true_eq_false, not_false_eq_true, db_87e, db_37e, db_31e, db_28e, db_281e, db_211e, db_27, db_269w, db_litL, pk_lT, db_iL, db_p0_e, db_p0_n, db_p0_j, db_sub1, nI_eq, if_true, if_false, Bool.false_eq_true, db_g_60, (db_59 r3 (show b < db_n c 5 by omega)).2.1, (db_59 r3 hk).2.1]
          by_cases e : (db_rq c b p q * (c (135 + k) + nI 1)).toInt < (db_rq c k p q * (c (135 + b) + nI 1)).toInt
          · rw [decide_eq_false (show ¬ (db_rq c k p q * (c (135 + b) + nI 1)).toInt ≤ (db_rq c b p q * (c (135 + k) + nI 1)).toInt by omega), db_cf]
            refine hrec (a2, nI k, db_rq c k p q) ⟨?_, fun b' hb' => ?_, db_Ec_t h2 r2, r3⟩
            · rw [hbg, hm]; show nI k = db_o (if _ then _ else _); rw [if_pos e]; rfl
            · rw [hbg, hm] at hb'; dsimp only at hb'; rw [if_pos e] at hb'; cases hb'; rfl
          · rw [decide_eq_true (show (db_rq c k p q * (c (135 + b) + nI 1)).toInt ≤ (db_rq c b p q * (c (135 + k) + nI 1)).toInt by omega), db_ct]
            refine hrec (a2, nI b, db_rq c b p q) ⟨?_, fun b' hb' => ?_, db_Ec_t h2 r2, r3⟩
            · rw [hbg, hm]; show nI b = db_o (if _ then _ else _); rw [if_neg e]; rfl
            · rw [hbg, hm] at hb'; dsimp only at hb'; rw [if_neg e] at hb'; cases hb'; rfl
    -- the reference's
    have hml : ∀ s2 : db_S, db_A s2 c → dz_T (db_f362_b30 db_FU s2 p q (-(nI 1)) (nI 0)) (fun z => ∃ a, db_Em s2 a ∧ ((db_bg c p q (db_n c 5) = none ∧ z.1 = -(nI 1) ∧ z.2 = db_uI a 669 0 (nI 8)) ∨ ∃ b, db_bg c p q (db_n c 5) = some b ∧ z.1 = nI b ∧ z.2 = a)) := by
      intro s2 hA2
      refine db_loop (L := fun n (a : db_S × Int32) k => db_f362_b30 n a.1 p q a.2 (nI k)) (N := db_n c 5) (fun k a => a.2 = db_o (db_bg c p q k) ∧ db_Em s2 a.1 ∧ db_A a.1 c) ?_ ?_ (n := db_FU) (a := (s2, -(nI 1))) (by unfold db_FU; omega) ⟨rfl, db_Em_r, hA2⟩
      · rintro n ⟨a, u⟩ ⟨h1, h2, h3⟩
        dsimp only at h1 h2 h3
        show dz_T (db_f362_b30 (n + 1) a p q u (nI (db_n c 5))) _
        rw [db_f362_b30]
        simp (disch := omega) only [db_lit, eq_self, db_pI_e, db_pL_e, db_bind_some, db_bd_some, nI_add, pk_mul, nI_toInt, db_m1_t, dz_cn, Int.ofNat_le, Int.ofNat_lt, decide_true, decide_false, db_ct, db_cf, not_true_eq_false, not_false_eq_true, db_87e, db_37e, db_31e, db_28e, db_281e, db_211e, db_27, db_269w, db_litL, pk_lT, db_iL, db_p0_e, db_p0_n, db_p0_j, db_sub1, nI_eq, if_true, if_false, Bool.false_eq_true, db_g_674, h3, k5.1, Nat.le_refl]
        cases hm : db_bg c p q (db_n c 5) with
        | none =>
          rw [hm] at h1
          rw [h1, show decide (((0 : Nat) : Int) ≤ (db_o none).toInt) = false by decide, db_cf]
          exact ⟨_, rfl, a, h2, .inl ⟨rfl, rfl, rfl⟩⟩
        | some b =>
          have hb := db_bg_lt hm
          rw [hm] at h1
          have h1 : u = nI b := h1
          rw [h1, nI_toInt (by omega), decide_eq_true (show ((0 : Nat) : Int) ≤ (b : Int) by omega), db_ct]
          exact ⟨_, rfl, a, h2, .inr ⟨b, rfl, rfl, rfl⟩⟩
      · rintro n k ⟨a, u⟩ hk ⟨h1, h2, h3⟩ hrec
        dsimp only at h1 h2 h3
        show dz_T (db_f362_b30 (n + 1) a p q u (nI k)) _
        rw [db_f362_b30]
        have h7 : ¬ db_n c 5 ≤ k := by omega
        unfold db_f362_b90 db_f362_b93
        simp (disch := omega) only [db_lit, eq_self, db_pI_e, db_pL_e, db_bind_some, db_bd_some, nI_add, pk_mul, nI_toInt, db_m1_t, dz_cn, Int.ofNat_le, Int.ofNat_lt, decide_true, decide_false, db_ct, db_cf, not_true_eq_false, not_false_eq_true, db_87e, db_37e, db_31e, db_28e, db_281e, db_211e, db_27, db_269w, db_litL, pk_lT, db_iL, db_p0_e, db_p0_n, db_p0_j, db_sub1, nI_eq, if_true, if_false, Bool.false_eq_true, db_g_674, h3, k5.1, h7]
        cases hm : db_bg c p q k with
        | none =>
          rw [hm] at h1
          rw [h1, show decide ((db_o none).toInt < ((0 : Nat) : Int)) = true by decide, db_ct]
          exact hrec (a, nI k) ⟨by rw [hbg, hm]; rfl, h2, h3⟩
        | some b =>
          have hb := db_bg_lt hm
          rw [hm] at h1
          have h1 : u = nI b := h1
          rw [h1, nI_toInt (by omega), decide_eq_false (show ¬ (b : Int) < ((0 : Nat) : Int) by omega), db_cf]
          refine db_T_gd (db_m316 h3 hO hk hp hq) fun r a2 hr => ?_
          obtain ⟨r1, ⟨r2, -, r3⟩, -⟩ := hr
          dsimp only at r1 r2 r3
          subst r1
          simp (disch := omega) only [db_lit, eq_self, db_pI_e, db_pL_e, db_bind_some, db_bd_some, nI_add, pk_mul, nI_toInt, db_m1_t, dz_cn, Int.ofNat_le, Int.ofNat_lt, decide_true, decide_false, db_ct, db_cf, not_true_eq_false, not_false_eq_true, db_87e, db_37e, db_31e, db_28e, db_281e, db_211e, db_27, db_269w, db_litL, pk_lT, db_iL, db_p0_e, db_p0_n, db_p0_j, db_sub1, nI_eq, if_true, if_false, Bool.false_eq_true, db_g_674, r3]
          refine db_T_gd (db_m316 r3 hO (show b < db_n c 5 by omega) hp hq) fun r' a3 hr => ?_
          obtain ⟨t1, ⟨t2, -, t3⟩, -⟩ := hr
          dsimp only at t1 t2 t3
          subst t1
          simp (disch := omega) only [db_lit, eq_self, db_pI_e, db_pL_e, db_bind_some, db_bd_some, nI_add, pk_mul, nI_toInt, db_m1_t, dz_cn, Int.ofNat_le, Int.ofNat_lt, decide_true, decide_false, db_ct, db_cf, not_true_eq_false, not_false_eq_true, db_87e, db_37e, db_31e, db_28e, db_281e, db_211e, db_27, db_269w, db_litL, pk_lT, db_iL, db_p0_e, db_p0_n, db_p0_j, db_sub1, nI_eq, if_true, if_false, Bool.false_eq_true, db_g_674, t3]
          by_cases e : (db_rq c b p q * (c (135 + k) + nI 1)).toInt < (db_rq c k p q * (c (135 + b) + nI 1)).toInt
          · rw [decide_eq_false (show ¬ (db_rq c k p q * (c (135 + b) + nI 1)).toInt ≤ (db_rq c b p q * (c (135 + k) + nI 1)).toInt by omega), db_cf]
            refine hrec (a3, nI k) ⟨?_, db_Em_t h2 (db_Em_t r2 t2), t3⟩
            rw [hbg, hm]; show nI k = db_o (if _ then _ else _); rw [if_pos e]; rfl
          · rw [decide_eq_true (show (db_rq c k p q * (c (135 + b) + nI 1)).toInt ≤ (db_rq c b p q * (c (135 + k) + nI 1)).toInt by omega), db_ct]
            refine hrec (a3, nI b) ⟨?_, db_Em_t h2 (db_Em_t r2 t2), t3⟩
            rw [hbg, hm]; show nI b = db_o (if _ then _ else _); rw [if_neg e]; rfl
    cases hm : db_bg c p q (db_n c 5) with
    | none =>
      refine db_Gq (-(nI 1)) (nI 8) hI ?_ fun s1 hS hA => ?_
      · unfold db_f184
        simp (disch := omega) only [db_lit, eq_self, db_pI_e, db_pL_e, db_bind_some, db_bd_some, nI_add, pk_mul, nI_toInt, db_m1_t, dz_cn, Int.ofNat_le, Int.ofNat_lt, decide_true, decide_false, db_ct, db_cf, not_true_eq_false, not_false_eq_true, db_87e, db_37e, db_31e, db_28e, db_281e, db_211e, db_27, db_269w, db_litL, pk_lT, db_iL, db_p0_e, db_p0_n, db_p0_j, db_sub1, nI_eq, if_true, if_false, Bool.false_eq_true, db_126 hR hO, h]
        refine db_T_gd hcl fun r a hr => ?_
        obtain ⟨r1, r2⟩ := hr
        dsimp only at r1 r2
        rw [hm] at r1
        rw [decide_eq_false (fun g => g r1), db_cf]
        exact ⟨_, rfl, rfl, db_Sc_u r2⟩
      · rw [hcc] at hA
        unfold db_f362
        simp (disch := omega) only [db_lit, eq_self, db_pI_e, db_pL_e, db_bind_some, db_bd_some, nI_add, pk_mul, nI_toInt, db_m1_t, dz_cn, Int.ofNat_le, Int.ofNat_lt, decide_true, decide_false, db_ct, db_cf, not_true_eq_false, not_false_eq_true, db_87e, db_37e, db_31e, db_28e, db_281e, db_211e, db_27, db_269w, db_litL, pk_lT, db_iL, db_p0_e, db_p0_n, db_p0_j, db_sub1, nI_eq, if_true, if_false, Bool.false_eq_true, db_315 (db_p0_A hA) hO.1.2.1 hO.1.2.2.1, h]
        refine db_T_mono (hml _ (db_p0_A hA)) fun z hz => ?_
        obtain ⟨a, a1, ⟨-, a2, a3⟩ | ⟨b, b1, -⟩⟩ := hz
        · exact ⟨a2, by rw [a3]; exact db_Sm_u a1⟩
        · rw [hm] at b1; cases b1
    | some b =>
      have hb := db_bg_lt hm
      refine db_Gq (nI b) (nI 0) hI ?_ fun s1 hS hA => ?_
      · unfold db_f184
        simp (disch := omega) only [db_lit, eq_self, db_pI_e, db_pL_e, db_bind_some, db_bd_some, nI_add, pk_mul, nI_toInt, db_m1_t, dz_cn, Int.ofNat_le, Int.ofNat_lt, decide_true, decide_false, db_ct, db_cf, not_true_eq_false, not_false_eq_true, db_87e, db_37e, db_31e, db_28e, db_281e, db_211e, db_27, db_269w, db_litL, pk_lT, db_iL, db_p0_e, db_p0_n, db_p0_j, db_sub1, nI_eq, if_true, if_false, Bool.false_eq_true, db_126 hR hO, h]
        refine db_T_gd hcl fun r a hr => ?_
        obtain ⟨r1, r2⟩ := hr
        dsimp only at r1 r2
        rw [hm] at r1
        have r1 : r = nI b := r1
        rw [decide_eq_true (by rw [r1, db_m1_ne (by omega)]; exact id), db_ct]
        exact ⟨_, rfl, r1, db_Sc_u r2⟩
      · rw [hcc] at hA
        unfold db_f362
        simp (disch := omega) only [db_lit, eq_self, db_pI_e, db_pL_e, db_bind_some, db_bd_some, nI_add, pk_mul, nI_toInt, db_m1_t, dz_cn, Int.ofNat_le, Int.ofNat_lt, decide_true, decide_false, db_ct, db_cf, not_true_eq_false, not_false_eq_true, db_87e, db_37e, db_31e, db_28e, db_281e, db_211e, db_27, db_269w, db_litL, pk_lT, db_iL, db_p0_e, db_p0_n, db_p0_j, db_sub1, nI_eq, if_true, if_false, Bool.false_eq_true, db_315 (db_p0_A hA) hO.1.2.1 hO.1.2.2.1, h]
        refine db_T_mono (hml _ (db_p0_A hA)) fun z hz => ?_
        obtain ⟨a, a1, ⟨a2, -⟩ | ⟨b', b1, b2, b3⟩⟩ := hz
        · rw [hm] at a2; cases a2
        · rw [hm] at b1; cases b1
          exact ⟨b2, by rw [b3]; exact db_Sm_0 a1⟩
end DBQ5
