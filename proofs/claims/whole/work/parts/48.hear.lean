/-! IDLE; ALL HEARERS; TWIN -/
def db_xd (c : db_C) (p q x : Int32) : Nat → Int32
  | 0 => x
  | d + 1 => db_xd c p q x d &&& (dz_cq c d p q ^^^ -(nI 1))
def db_xj (c : db_C) (p x : Int32) : Nat → Int32
  | 0 => x
  | j + 1 => db_xd c p (db_pm j) (db_xj c p x j) (db_n c 5)
def db_xi (c : db_C) (x : Int32) : Nat → Int32
  | 0 => x
  | i + 1 => db_xj c (db_pm i) (db_xi c x i) (db_n c 2 + 1)
def db_yj (c : db_C) (d : Nat) (p x : Int32) : Nat → Int32
  | 0 => x
  | j + 1 => db_yj c d p x j &&& (dz_cq c d p (db_pm j) ^^^ -(nI 1))
def db_yi (c : db_C) (d : Nat) (x : Int32) : Nat → Int32
  | 0 => x
  | i + 1 => db_yj c d (db_pm i) (db_yi c d x i) (db_n c 2 + 1)
def db_yd (c : db_C) (x : Int32) : Nat → Int32
  | 0 => x
  | d + 1 => db_yi c d (db_yd c x d) (db_n c 1 + 1)
theorem db_bn {x y : Int32} {r : Nat} (hr : r < 32) : bt (x &&& (y ^^^ -(nI 1))) r = (bt x r && !bt y r) := by
  rw [b_and, b_xor, show -(nI 1) = (-1 : Int32) from rfl, b_m1 r hr, Bool.xor_true]
theorem db_bx (b e f : Bool) : ((b && !e) && !f) = (b && !(e || f)) := by cases b <;> cases e <;> cases f <;> rfl
theorem db_xd_b {c : db_C} {p q x : Int32} {r : Nat} (hr : r < 32) : ∀ n, bt (db_xd c p q x n) r = (bt x r && !db_ex (fun d => bt (dz_cq c d p q) r) n)
  | 0 => by simp [db_xd, db_ex]
  | n + 1 => by
    rw [db_xd, db_bn hr, db_xd_b hr n, db_ex]
    cases bt x r <;> cases db_ex (fun d => bt (dz_cq c d p q) r) n <;> cases bt (dz_cq c n p q) r <;> rfl
theorem db_xj_b {c : db_C} {p x : Int32} {r : Nat} (hr : r < 32) : ∀ n, bt (db_xj c p x n) r = (bt x r && !db_ex (fun j => db_ex (fun d => bt (dz_cq c d p (db_pm j)) r) (db_n c 5)) n)
  | 0 => by simp [db_xj, db_ex]
  | n + 1 => by
    rw [db_xj, db_xd_b hr, db_xj_b hr n, db_ex, Bool.not_or, Bool.and_assoc]
theorem db_xi_b {c : db_C} {x : Int32} {r : Nat} (hr : r < 32) : ∀ n, bt (db_xi c x n) r = (bt x r && !db_ex (fun i => db_ex (fun j => db_ex (fun d => bt (dz_cq c d (db_pm i) (db_pm j)) r) (db_n c 5)) (db_n c 2 + 1)) n)
  | 0 => by simp [db_xi, db_ex]
  | n + 1 => by
    rw [db_xi, db_xj_b hr, db_xi_b hr n]
    exact db_bx _ _ _
theorem db_yj_b {c : db_C} {d : Nat} {p x : Int32} {r : Nat} (hr : r < 32) : ∀ n, bt (db_yj c d p x n) r = (bt x r && !db_ex (fun j => bt (dz_cq c d p (db_pm j)) r) n)
  | 0 => by simp [db_yj, db_ex]
  | n + 1 => by
    rw [db_yj, db_bn hr, db_yj_b hr n, db_ex]
    cases bt x r <;> cases db_ex (fun j => bt (dz_cq c d p (db_pm j)) r) n <;> cases bt (dz_cq c d p (db_pm n)) r <;> rfl
theorem db_yi_b {c : db_C} {d : Nat} {x : Int32} {r : Nat} (hr : r < 32) : ∀ n, bt (db_yi c d x n) r = (bt x r && !db_ex (fun i => db_ex (fun j => bt (dz_cq c d (db_pm i) (db_pm j)) r) (db_n c 2 + 1)) n)
  | 0 => by simp [db_yi, db_ex]
  | n + 1 => by
    rw [db_yi, db_yj_b hr, db_yi_b hr n]
    exact db_bx _ _ _
theorem db_yd_b {c : db_C} {x : Int32} {r : Nat} (hr : r < 32) : ∀ n, bt (db_yd c x n) r = (bt x r && !db_ex (fun d => db_ex (fun i => db_ex (fun j => bt (dz_cq c d (db_pm i) (db_pm j)) r) (db_n c 2 + 1)) (db_n c 1 + 1)) n)
  | 0 => by simp [db_yd, db_ex]
  | n + 1 => by
    rw [db_yd, db_yi_b hr, db_yd_b hr n]
    exact db_bx _ _ _
theorem db_xy {c : db_C} {x : Int32} : db_xi c x (db_n c 1 + 1) = db_yd c x (db_n c 5) := b_ext fun r hr => by
  rw [db_xi_b hr, db_yd_b hr]
  congr 2
  rw [Bool.eq_iff_iff, db_ex_iff, db_ex_iff]
  constructor
  · rintro ⟨i, hi, h⟩
    obtain ⟨j, hj, h⟩ := db_ex_iff.mp h
    obtain ⟨d, hd, h⟩ := db_ex_iff.mp h
    exact ⟨d, hd, db_ex_iff.mpr ⟨i, hi, db_ex_iff.mpr ⟨j, hj, h⟩⟩⟩
  · rintro ⟨d, hd, h⟩
    obtain ⟨i, hi, h⟩ := db_ex_iff.mp h
    obtain ⟨j, hj, h⟩ := db_ex_iff.mp h
    exact ⟨i, hi, db_ex_iff.mpr ⟨j, hj, db_ex_iff.mpr ⟨d, hd, h⟩⟩⟩
section DBH1
variable {U : Nat} {s : db_S} {c : db_C} {w : Nat → Int64} {v x y z p q : Int32}
theorem db_142 (hR : db_BR 20 s c w) (hO : db_Ok U c) (hU : U ≤ 1000000000) : dz_T (db_f142 s) (fun z => z.1 = db_xi c (nI (2 ^ db_n c 3 - 1)) (db_n c 1 + 1) ∧ db_Ec s z.2) := by
  have k1 := hO.1.2.1
  have k2 := hO.1.2.2.1
  have k5 := hO.1.2.2.2.2.2
  have j1 := k1.2
  have j2 := k2.2
  have j5 := k5.2
  have k12 := (db_Ok_K hO (show 3 < 6 by omega)).2
  have hp := db_pow12 k12
  unfold db_f142
  simp (disch := omega) only [db_lit, eq_self, db_pI_e, db_pL_e, db_bind_some, db_bd_some, nI_add, pk_mul, nI_toInt, db_m1_t, dz_cn, Int.ofNat_le, Int.ofNat_lt, decide_true, decide_false, db_ct, db_cf, not_true_eq_false, not_false_eq_true, db_87e, db_37e, db_31e, db_28e, db_281e, db_211e, db_27, db_269w, db_litL, pk_lT, db_iL, db_p0_e, db_p0_n, db_p0_j, db_sub1, nI_eq, if_true, if_false, Bool.false_eq_true, db_115 hR hO, pk_sub]
  refine db_loop (L := fun n (a : db_S × Int32) i => db_f142_b12 n a.1 a.2 (db_pm i)) (N := db_n c 1 + 1) (fun i a => a.2 = db_xi c (nI (2 ^ db_n c 3 - 1)) i ∧ db_Ec s a.1 ∧ db_BR 20 a.1 c w) ?_ ?_ (n := db_FU) (a := (s, nI (2 ^ db_n c 3 - 1))) (by unfold db_FU; omega) ⟨rfl, db_Ec_r, hR⟩
  · rintro n ⟨a, u⟩ ⟨h1, h2, h3⟩
    dsimp only at h1 h2 h3
    show dz_T (db_f142_b12 (n + 1) a u (db_pm (db_n c 1 + 1))) _
    rw [db_f142_b12]
    simp (disch := omega) only [db_lit, eq_self, db_pI_e, db_pL_e, db_bind_some, db_bd_some, nI_add, pk_mul, nI_toInt, db_m1_t, dz_cn, Int.ofNat_le, Int.ofNat_lt, decide_true, decide_false, db_ct, db_cf, not_true_eq_false, not_false_eq_true, db_87e, db_37e, db_31e, db_28e, db_281e, db_211e, db_27, db_269w, db_litL, pk_lT, db_iL, db_p0_e, db_p0_n, db_p0_j, db_sub1, nI_eq, if_true, if_false, Bool.false_eq_true, db_g_21, db_21 h3, k1.1, db_pm_ge, Nat.le_refl]
    exact ⟨_, rfl, h1, h2⟩
  · rintro n i ⟨a, u⟩ hi ⟨h1, h2, h3⟩ hrec
    dsimp only at h1 h2 h3
    show dz_T (db_f142_b12 (n + 1) a u (db_pm i)) _
    rw [db_f142_b12]
    have h7 : ¬ db_n c 1 + 1 ≤ i := by omega
    simp (disch := omega) only [db_lit, eq_self, db_pI_e, db_pL_e, db_bind_some, db_bd_some, nI_add, pk_mul, nI_toInt, db_m1_t, dz_cn, Int.ofNat_le, Int.ofNat_lt, decide_true, decide_false, db_ct, db_cf, not_true_eq_false, not_false_eq_true, db_87e, db_37e, db_31e, db_28e, db_281e, db_211e, db_27, db_269w, db_litL, pk_lT, db_iL, db_p0_e, db_p0_n, db_p0_j, db_sub1, nI_eq, if_true, if_false, Bool.false_eq_true, db_g_21, db_21 h3, k1.1, db_pm_ge, h7]
    have hpi := db_pm_O hi
    refine db_loop (L := fun m (a : db_S × Int32) j => db_f142_b27 (db_f142_b12 n) m a.1 a.2 (db_pm i) (db_pm j)) (N := db_n c 2 + 1) (fun j a => a.2 = db_xj c (db_pm i) (db_xi c (nI (2 ^ db_n c 3 - 1)) i) j ∧ db_Ec s a.1 ∧ db_BR 20 a.1 c w) ?_ ?_ (n := db_FU) (a := (a, u)) (by unfold db_FU; omega) ⟨h1, h2, h3⟩
    · rintro m ⟨a, u⟩ ⟨h1, h2, h3⟩
      dsimp only at h1 h2 h3
      show dz_T (db_f142_b27 (db_f142_b12 n) (m + 1) a u (db_pm i) (db_pm (db_n c 2 + 1))) _
      rw [db_f142_b27]
      simp (disch := omega) only [db_lit, eq_self, db_pI_e, db_pL_e, db_bind_some, db_bd_some, nI_add, pk_mul, nI_toInt, db_m1_t, dz_cn, Int.ofNat_le, Int.ofNat_lt, decide_true, decide_false, db_ct, db_cf, not_true_eq_false, not_false_eq_true, db_87e, db_37e, db_31e, db_28e, db_281e, db_211e, db_27, db_269w, db_litL, pk_lT, db_iL, db_p0_e, db_p0_n, db_p0_j, db_sub1, nI_eq, if_true, if_false, Bool.false_eq_true, db_g_21, db_21 h3, k2.1, db_pm_ge, Nat.le_refl, db_pm_s]
      exact hrec (a, u) ⟨h1, h2, h3⟩
    · rintro m j ⟨a, u⟩ hj ⟨h1, h2, h3⟩ hrec2
      dsimp only at h1 h2 h3
      show dz_T (db_f142_b27 (db_f142_b12 n) (m + 1) a u (db_pm i) (db_pm j)) _
      rw [db_f142_b27]
      have h8 : ¬ db_n c 2 + 1 ≤ j := by omega
      simp (disch := omega) only [db_lit, eq_self, db_pI_e, db_pL_e, db_bind_some, db_bd_some, nI_add, pk_mul, nI_toInt, db_m1_t, dz_cn, Int.ofNat_le, Int.ofNat_lt, decide_true, decide_false, db_ct, db_cf, not_true_eq_false, not_false_eq_true, db_87e, db_37e, db_31e, db_28e, db_281e, db_211e, db_27, db_269w, db_litL, pk_lT, db_iL, db_p0_e, db_p0_n, db_p0_j, db_sub1, nI_eq, if_true, if_false, Bool.false_eq_true, db_g_21, db_21 h3, k2.1, db_pm_ge, h8]
      have hqj := db_pm_O hj
      refine db_loop (L := fun l (a : db_S × Int32) d => db_f142_b43 (db_f142_b12 n) (db_f142_b27 (db_f142_b12 n) m) l a.1 a.2 (db_pm i) (db_pm j) (nI d)) (N := db_n c 5) (fun d a => a.2 = db_xd c (db_pm i) (db_pm j) (db_xj c (db_pm i) (db_xi c (nI (2 ^ db_n c 3 - 1)) i) j) d ∧ db_Ec s a.1 ∧ db_BR 20 a.1 c w) ?_ ?_ (n := db_FU) (a := (a, u)) (by unfold db_FU; omega) ⟨h1, h2, h3⟩
      · rintro l ⟨a, u⟩ ⟨h1, h2, h3⟩
        dsimp only at h1 h2 h3
        show dz_T (db_f142_b43 (db_f142_b12 n) (db_f142_b27 (db_f142_b12 n) m) (l + 1) a u (db_pm i) (db_pm j) (nI (db_n c 5))) _
        rw [db_f142_b43]
        simp (disch := omega) only [db_lit, eq_self, db_pI_e, db_pL_e, db_bind_some, db_bd_some, nI_add, pk_mul, nI_toInt, db_m1_t, dz_cn, Int.ofNat_le, Int.ofNat_lt, decide_true, decide_false, db_ct, db_cf, not_true_eq_false, not_false_eq_true, db_87e, db_37e, db_31e, db_28e, db_281e, db_211e, db_27, db_269w, db_litL, pk_lT, db_iL, db_p0_e, db_p0_n, db_p0_j, db_sub1, nI_eq, if_true, if_false, Bool.false_eq_true, db_g_21, db_21 h3, k5.1, Nat.le_refl, db_pm_s]
        exact hrec2 (a, u) ⟨h1, h2, h3⟩
      · rintro l d ⟨a, u⟩ hd ⟨h1, h2, h3⟩ hrec3
        dsimp only at h1 h2 h3
        show dz_T (db_f142_b43 (db_f142_b12 n) (db_f142_b27 (db_f142_b12 n) m) (l + 1) a u (db_pm i) (db_pm j) (nI d)) _
        rw [db_f142_b43]
        have h9 : ¬ db_n c 5 ≤ d := by omega
        simp (disch := omega) only [db_lit, eq_self, db_pI_e, db_pL_e, db_bind_some, db_bd_some, nI_add, pk_mul, nI_toInt, db_m1_t, dz_cn, Int.ofNat_le, Int.ofNat_lt, decide_true, decide_false, db_ct, db_cf, not_true_eq_false, not_false_eq_true, db_87e, db_37e, db_31e, db_28e, db_281e, db_211e, db_27, db_269w, db_litL, pk_lT, db_iL, db_p0_e, db_p0_n, db_p0_j, db_sub1, nI_eq, if_true, if_false, Bool.false_eq_true, db_g_21, db_21 h3, k5.1, h9]
        refine db_T_gd (db_c140 h3 hO hU hd hpi hqj) fun r a2 hr => ?_
        obtain ⟨r1, r2, r3⟩ := hr
        dsimp only at r1 r2 r3
        subst r1
        refine hrec3 (a2, _) ⟨?_, db_Ec_t h2 r2, r3⟩
        show u &&& _ = _ &&& _
        rw [h1]
theorem db_k32 (hI : db_Inv U s) (hU : U ≤ 1000000000) : dz_G U s (fun s => db_f141 s) (fun s => db_f330 s) := by
  obtain ⟨hO, hR, -⟩ := db_cur hI
  have k1 := hO.1.2.1
  have k2 := hO.1.2.2.1
  have k5 := hO.1.2.2.2.2.2
  have j1 := k1.2
  have j2 := k2.2
  have j5 := k5.2
  have k3 := (db_Ok_K hO (show 3 < 6 by omega))
  have k12 := k3.2
  have hp := db_pow12 k12
  generalize hcc : db_bk s 0 = c at *
  refine db_Gq (db_xi c (nI (2 ^ db_n c 3 - 1)) (db_n c 1 + 1)) (nI 0) hI ?_ fun s1 hS hA => ?_
  · unfold db_f141
    refine db_T_gd (db_142 hR hO hU) fun v a hv => ?_
    obtain ⟨h1, h2⟩ := hv
    dsimp only at h1 h2
    subst h1
    simp (disch := omega) only [db_lit, eq_self, db_pI_e, db_pL_e, db_bind_some, db_bd_some, nI_add, pk_mul, nI_toInt, db_m1_t, dz_cn, Int.ofNat_le, Int.ofNat_lt, decide_true, decide_false, db_ct, db_cf, not_true_eq_false, not_false_eq_true, db_87e, db_37e, db_31e, db_28e, db_281e, db_211e, db_27, db_269w, db_litL, pk_lT, db_iL, db_p0_e, db_p0_n, db_p0_j, db_sub1, nI_eq, if_true, if_false, Bool.false_eq_true]
    exact ⟨_, rfl, rfl, db_Sc_u h2⟩
  · rw [hcc] at hA
    rw [db_xy]
    unfold db_f330
    simp (disch := omega) only [db_lit, eq_self, db_pI_e, db_pL_e, db_bind_some, db_bd_some, nI_add, pk_mul, nI_toInt, db_m1_t, dz_cn, Int.ofNat_le, Int.ofNat_lt, decide_true, decide_false, db_ct, db_cf, not_true_eq_false, not_false_eq_true, db_87e, db_37e, db_31e, db_28e, db_281e, db_211e, db_27, db_269w, db_litL, pk_lT, db_iL, db_p0_e, db_p0_n, db_p0_j, db_sub1, nI_eq, if_true, if_false, Bool.false_eq_true, db_g_674, hA, k3.1]
    rw [show nI 1 <<< (nI (db_n c 3) &&& nI 31) = nI (2 ^ db_n c 3) from db_b1_n (by omega), pk_sub hp.2]
    refine db_loop (L := fun n (a : db_S × Int32) d => db_f330_b23 n a.1 a.2 (nI d)) (N := db_n c 5) (fun d a => a.2 = db_yd c (nI (2 ^ db_n c 3 - 1)) d ∧ db_Em (db_p0 s1) a.1 ∧ db_A a.1 c) ?_ ?_ (n := db_FU) (a := (db_p0 s1, nI (2 ^ db_n c 3 - 1))) (by unfold db_FU; omega) ⟨rfl, db_Em_r, db_p0_A hA⟩
    · rintro n ⟨a, u⟩ ⟨h1, h2, h3⟩
      dsimp only at h1 h2 h3
      show dz_T (db_f330_b23 (n + 1) a u (nI (db_n c 5))) _
      rw [db_f330_b23]
      simp (disch := omega) only [db_lit, eq_self, db_pI_e, db_pL_e, db_bind_some, db_bd_some, nI_add, pk_mul, nI_toInt, db_m1_t, dz_cn, Int.ofNat_le, Int.ofNat_lt, decide_true, decide_false, db_ct, db_cf, not_true_eq_false, not_false_eq_true, db_87e, db_37e, db_31e, db_28e, db_281e, db_211e, db_27, db_269w, db_litL, pk_lT, db_iL, db_p0_e, db_p0_n, db_p0_j, db_sub1, nI_eq, if_true, if_false, Bool.false_eq_true, db_g_674, h3, k5.1, Nat.le_refl]
      exact ⟨_, rfl, h1, db_Sm_0 h2⟩
    · rintro n d ⟨a, u⟩ hd ⟨h1, h2, h3⟩ hrec
      dsimp only at h1 h2 h3
      show dz_T (db_f330_b23 (n + 1) a u (nI d)) _
      rw [db_f330_b23]
      have h7 : ¬ db_n c 5 ≤ d := by omega
      simp (disch := omega) only [db_lit, eq_self, db_pI_e, db_pL_e, db_bind_some, db_bd_some, nI_add, pk_mul, nI_toInt, db_m1_t, dz_cn, Int.ofNat_le, Int.ofNat_lt, decide_true, decide_false, db_ct, db_cf, not_true_eq_false, not_false_eq_true, db_87e, db_37e, db_31e, db_28e, db_281e, db_211e, db_27, db_269w, db_litL, pk_lT, db_iL, db_p0_e, db_p0_n, db_p0_j, db_sub1, nI_eq, if_true, if_false, Bool.false_eq_true, db_g_674, h3, k5.1, h7]
      refine db_loop (L := fun m (a : db_S × Int32) i => db_f330_b35 (db_f330_b23 n) m a.1 a.2 (nI d) (db_pm i)) (N := db_n c 1 + 1) (fun i a => a.2 = db_yi c d (db_yd c (nI (2 ^ db_n c 3 - 1)) d) i ∧ db_Em (db_p0 s1) a.1 ∧ db_A a.1 c) ?_ ?_ (n := db_FU) (a := (a, u)) (by unfold db_FU; omega) ⟨h1, h2, h3⟩
      · rintro m ⟨a, u⟩ ⟨h1, h2, h3⟩
        dsimp only at h1 h2 h3
        show dz_T (db_f330_b35 (db_f330_b23 n) (m + 1) a u (nI d) (db_pm (db_n c 1 + 1))) _
        rw [db_f330_b35]
        simp (disch := omega) only [db_lit, eq_self, db_pI_e, db_pL_e, db_bind_some, db_bd_some, nI_add, pk_mul, nI_toInt, db_m1_t, dz_cn, Int.ofNat_le, Int.ofNat_lt, decide_true, decide_false, db_ct, db_cf, not_true_eq_false, not_false_eq_true, db_87e, db_37e, db_31e, db_28e, db_281e, db_211e, db_27, db_269w, db_litL, pk_lT, db_iL, db_p0_e, db_p0_n, db_p0_j, db_sub1, nI_eq, if_true, if_false, Bool.false_eq_true, db_g_674, h3, k1.1, db_pm_ge, Nat.le_refl]
        exact hrec (a, u) ⟨h1, h2, h3⟩
      · rintro m i ⟨a, u⟩ hi ⟨h1, h2, h3⟩ hrec2
        dsimp only at h1 h2 h3
        show dz_T (db_f330_b35 (db_f330_b23 n) (m + 1) a u (nI d) (db_pm i)) _
        rw [db_f330_b35]
        have h8 : ¬ db_n c 1 + 1 ≤ i := by omega
        simp (disch := omega) only [db_lit, eq_self, db_pI_e, db_pL_e, db_bind_some, db_bd_some, nI_add, pk_mul, nI_toInt, db_m1_t, dz_cn, Int.ofNat_le, Int.ofNat_lt, decide_true, decide_false, db_ct, db_cf, not_true_eq_false, not_false_eq_true, db_87e, db_37e, db_31e, db_28e, db_281e, db_211e, db_27, db_269w, db_litL, pk_lT, db_iL, db_p0_e, db_p0_n, db_p0_j, db_sub1, nI_eq, if_true, if_false, Bool.false_eq_true, db_g_674, h3, k1.1, db_pm_ge, h8]
        have hpi := db_pm_O hi
        refine db_loop (L := fun l (a : db_S × Int32) j => db_f330_b48 (db_f330_b23 n) (db_f330_b35 (db_f330_b23 n) m) l a.1 a.2 (nI d) (db_pm i) (db_pm j)) (N := db_n c 2 + 1) (fun j a => a.2 = db_yj c d (db_pm i) (db_yi c d (db_yd c (nI (2 ^ db_n c 3 - 1)) d) i) j ∧ db_Em (db_p0 s1) a.1 ∧ db_A a.1 c) ?_ ?_ (n := db_FU) (a := (a, u)) (by unfold db_FU; omega) ⟨h1, h2, h3⟩
        · rintro l ⟨a, u⟩ ⟨h1, h2, h3⟩
          dsimp only at h1 h2 h3
          show dz_T (db_f330_b48 (db_f330_b23 n) (db_f330_b35 (db_f330_b23 n) m) (l + 1) a u (nI d) (db_pm i) (db_pm (db_n c 2 + 1))) _
          rw [db_f330_b48]
          simp (disch := omega) only [db_lit, eq_self, db_pI_e, db_pL_e, db_bind_some, db_bd_some, nI_add, pk_mul, nI_toInt, db_m1_t, dz_cn, Int.ofNat_le, Int.ofNat_lt, decide_true, decide_false, db_ct, db_cf, not_true_eq_false, not_false_eq_true, db_87e, db_37e, db_31e, db_28e, db_281e, db_211e, db_27, db_269w, db_litL, pk_lT, db_iL, db_p0_e, db_p0_n, db_p0_j, db_sub1, nI_eq, if_true, if_false, Bool.false_eq_true, db_g_674, h3, k2.1, db_pm_ge, Nat.le_refl, db_pm_s]
          exact hrec2 (a, u) ⟨h1, h2, h3⟩
        · rintro l j ⟨a, u⟩ hj ⟨h1, h2, h3⟩ hrec3
          dsimp only at h1 h2 h3
          show dz_T (db_f330_b48 (db_f330_b23 n) (db_f330_b35 (db_f330_b23 n) m) (l + 1) a u (nI d) (db_pm i) (db_pm j)) _
          rw [db_f330_b48]
          have h9 : ¬ db_n c 2 + 1 ≤ j := by omega
          have hL6 := (hO.2.2.2.1 d hd).1.1.2
          simp (disch := omega) only [db_lit, eq_self, db_pI_e, db_pL_e, db_bind_some, db_bd_some, nI_add, pk_mul, nI_toInt, db_m1_t, dz_cn, Int.ofNat_le, Int.ofNat_lt, decide_true, decide_false, db_ct, db_cf, not_true_eq_false, not_false_eq_true, db_87e, db_37e, db_31e, db_28e, db_281e, db_211e, db_27, db_269w, db_litL, pk_lT, db_iL, db_p0_e, db_p0_n, db_p0_j, db_sub1, nI_eq, if_true, if_false, Bool.false_eq_true, db_g_674, h3, k2.1, db_pm_ge, h9]
          refine db_T_gd (db_m316 h3 hO hd hpi (db_pm_O hj)) fun r a2 hr => ?_
          obtain ⟨-, ⟨r2, -, r3⟩, r4, r5⟩ := hr
          dsimp only at r2 r3 r4 r5
          simp (disch := omega) only [db_lit, eq_self, db_pI_e, db_pL_e, db_bind_some, db_bd_some, nI_add, pk_mul, nI_toInt, db_m1_t, dz_cn, Int.ofNat_le, Int.ofNat_lt, decide_true, decide_false, db_ct, db_cf, not_true_eq_false, not_false_eq_true, db_87e, db_37e, db_31e, db_28e, db_281e, db_211e, db_27, db_269w, db_litL, pk_lT, db_iL, db_p0_e, db_p0_n, db_p0_j, db_sub1, nI_eq, if_true, if_false, Bool.false_eq_true, db_m329 (show db_n c (127 + d) ≤ 8 by omega) hO r4 r5, db_pm_s]
          refine hrec3 (a2, _) ⟨?_, db_Em_t h2 r2, r3⟩
          show u &&& _ = _ &&& _
          rw [h1]
          rfl
end DBH1
