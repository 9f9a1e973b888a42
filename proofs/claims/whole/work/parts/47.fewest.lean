/-! QUARRELS counted; FEWEST -/
theorem db_fq_comm {a b : Int32} : db_fq a b = db_fq b a := by
  unfold db_fq
  rw [show decide (a = b) = decide (b = a) from decide_eq_decide.mpr ⟨Eq.symm, Eq.symm⟩]
  cases decide (a.toInt < 0) <;> cases decide (b.toInt < 0) <;> rfl
theorem db_qu_comm {c : db_C} {a b : Nat} : db_qu c a b = db_qu c b a := by
  unfold db_qu db_sg
  rw [@db_fq_comm (c (67 + a)), @db_fq_comm (c (79 + a)), show decide (c (19 + a) = c (19 + b)) = decide (c (19 + b) = c (19 + a)) from decide_eq_decide.mpr ⟨Eq.symm, Eq.symm⟩]
  cases decide (0 < (c (31 + a)).toInt) <;> cases decide ((c (31 + b)).toInt < 0) <;> cases decide ((c (31 + a)).toInt < 0) <;> cases decide (0 < (c (31 + b)).toInt) <;> cases decide (c (19 + b) = c (19 + a)) <;> cases db_fq (c (67 + b)) (c (67 + a)) <;> cases db_fq (c (79 + b)) (c (79 + a)) <;> cases db_uq c a b <;> cases db_uq c b a <;> rfl
/-- each couple is counted twice -/
theorem db_twice {f : Nat → Nat → Bool} (h0 : ∀ a, f a a = false) (hs : ∀ a b, f a b = f b a) : ∀ n, fb_sm (fun r => fb_ct (f r) n) n = 2 * fb_sm (fun a => fb_ct (f a) a) n
  | 0 => rfl
  | n + 1 => by
    rw [fb_sm_succ, fb_sm_succ]
    have e1 : fb_sm (fun r => fb_ct (f r) (n + 1)) n = fb_sm (fun r => fb_ct (f r) n + (if f r n then 1 else 0)) n := fb_sm_cong fun k _ => fb_ct_succ (f k) n
    have e2 : ∀ m, fb_sm (fun r => if f r n then 1 else 0) m = fb_ct (f n) m := by
      intro m
      induction m with
      | zero => rfl
      | succ m ih => rw [fb_sm_succ, fb_ct_succ, ih, hs m n]
    have e3 := fb_sm_add (fun r => fb_ct (f r) n) (fun r => if f r n then 1 else 0) n
    have ih := db_twice h0 hs n
    have e4 := fb_ct_succ (f n) n
    rw [h0 n] at e4
    simp only [Bool.false_eq_true, if_false] at e4
    rw [e1, e3, ih, e2 n, e4]
    omega
theorem db_pc_mk {f : Nat → Bool} {n : Nat} (hn : n ≤ 12) : db_pc (db_mk f n) = fb_ct f n := by
  unfold db_pc
  have h1 : fb_ct (fun i => bt (db_mk f n) i) 12 = fb_ct (fun i => decide (i < n) && f i) 12 := fb_ct_cong fun k hk => db_mk_bt (by omega) (by omega)
  rw [h1]
  have h2 : ∀ m, fb_ct (fun i => decide (i < n) && f i) (n + m) = fb_ct f n := by
    intro m
    induction m with
    | zero => exact fb_ct_cong fun k hk => by rw [decide_eq_true (show k < n by omega), Bool.true_and]
    | succ m ih =>
      rw [show n + (m + 1) = (n + m) + 1 by omega, fb_ct_succ, ih, decide_eq_false (show ¬ n + m < n by omega), Bool.false_and, if_neg (by decide), Nat.add_zero]
  have := h2 (12 - n)
  rw [show n + (12 - n) = 12 by omega] at this
  exact this
theorem db_sm_b {f : Nat → Nat} {b : Nat} (h : ∀ k, f k ≤ b) : ∀ n, fb_sm f n ≤ n * b
  | 0 => by rw [Nat.zero_mul]; exact Nat.le_refl _
  | n + 1 => by
    rw [fb_sm_succ, Nat.succ_mul]
    exact Nat.add_le_add (db_sm_b h n) (h n)
section DBF1
variable {U : Nat} {s : db_S} {c : db_C} {w : Nat → Int64} {v x y z p q : Int32}
theorem db_151 (hR : db_BR 20 s c w) (hO : db_Ok U c) {a : Nat} (ha : a < db_n c 3) : db_f151_20 s (nI a) = some (db_mk (db_qu c a) (db_n c 3)) := by
  have k3 := db_Ok_K hO (show 3 < 6 by omega)
  have k12 := k3.2
  unfold db_f151_20
  refine db_fold (L := fun n v k => db_f151_20_b4 s n (nI a) v (nI k)) (N := db_n c 3) (db_mk (db_qu c a)) (fun n => ?_) (fun n k hk => ?_) (n := db_FU) (by unfold db_FU; omega)
  · show db_f151_20_b4 s (n + 1) (nI a) _ (nI (db_n c 3)) = _
    rw [db_f151_20_b4]
    simp (disch := omega) only [db_lit, eq_self, db_pI_e, db_pL_e, db_bind_some, db_bd_some, nI_add, pk_mul, nI_toInt, db_m1_t, dz_cn, Int.ofNat_le, Int.ofNat_lt, decide_true, decide_false, db_ct, db_cf, not_true_eq_false, not_false_eq_true, db_87e, db_37e, db_31e, db_28e, db_281e, db_211e, db_27, db_269w, db_litL, pk_lT, db_iL, db_p0_e, db_p0_n, db_p0_j, db_sub1, nI_eq, if_true, if_false, Bool.false_eq_true, db_g_21, db_21 hR, k3.1, Nat.le_refl]
  · show db_f151_20_b4 s (n + 1) (nI a) _ (nI k) = db_f151_20_b4 s n (nI a) (db_mk (db_qu c a) k ||| (if db_qu c a k = true then db_b1 k else nI 0)) (nI (k + 1))
    rw [db_f151_20_b4]
    have h7 : ¬ db_n c 3 ≤ k := by omega
    simp (disch := omega) only [db_lit, eq_self, db_pI_e, db_pL_e, db_bind_some, db_bd_some, nI_add, pk_mul, nI_toInt, db_m1_t, dz_cn, Int.ofNat_le, Int.ofNat_lt, decide_true, decide_false, db_ct, db_cf, not_true_eq_false, not_false_eq_true, db_87e, db_37e, db_31e, db_28e, db_281e, db_211e, db_27, db_269w, db_litL, pk_lT, db_iL, db_p0_e, db_p0_n, db_p0_j, db_sub1, nI_eq, if_true, if_false, Bool.false_eq_true, db_g_21, db_21 hR, k3.1, h7, db_146 hR hO ha hk, db_f151_20_b29]
    cases db_qu c a k
    · rw [db_cf, if_neg (by decide), db_or0]
    · rfl
theorem db_152m {f : Nat → Bool} {n : Nat} (hn : n ≤ 12) : db_f152 s (db_mk f n) = some (nI (fb_ct f n)) := by
  obtain ⟨k, hk, e⟩ := @db_mk_nI f n (by omega)
  have := db_pow12 hn
  rw [e, db_152 (by omega), ← e, db_pc_mk hn]
theorem db_k35 (hI : db_Inv U s) : dz_G U s (fun s => db_f149 s) (fun s => db_f339 s) := by
  obtain ⟨hO, hR, -⟩ := db_cur hI
  have k3 := db_Ok_K hO (show 3 < 6 by omega)
  have k12 := k3.2
  generalize hcc : db_bk s 0 = c at *
  generalize hww : db_bw s 0 = w at *
  have hb1 : ∀ m, fb_sm (fun r => fb_ct (db_qu c r) (db_n c 3)) m ≤ m * 12 := db_sm_b fun k => by have := fb_ct_le (db_qu c k) (db_n c 3); omega
  refine db_Gy (nI (fb_sm (fun a => fb_ct (db_qu c a) a) (db_n c 3))) hI ?_ fun s1 hS hA => ?_
  · have key : db_f150_20 s = some (nI (fb_sm (fun a => fb_ct (db_qu c a) a) (db_n c 3))) := by
      unfold db_f150_20
      refine db_fold (L := fun n v k => db_f150_20_b4 s n v (nI k)) (N := db_n c 3) (fun k => nI (fb_sm (fun r => fb_ct (db_qu c r) (db_n c 3)) k)) (fun n => ?_) (fun n k hk => ?_) (n := db_FU) (by unfold db_FU; omega)
      · show db_f150_20_b4 s (n + 1) _ (nI (db_n c 3)) = _
        rw [db_f150_20_b4]
        simp (disch := omega) only [db_lit, eq_self, db_pI_e, db_pL_e, db_bind_some, db_bd_some, nI_add, pk_mul, nI_toInt, db_m1_t, dz_cn, Int.ofNat_le, Int.ofNat_lt, decide_true, decide_false, db_ct, db_cf, not_true_eq_false, not_false_eq_true, db_87e, db_37e, db_31e, db_28e, db_281e, db_211e, db_27, db_269w, db_litL, pk_lT, db_iL, db_p0_e, db_p0_n, db_p0_j, db_sub1, nI_eq, if_true, if_false, Bool.false_eq_true, db_g_21, db_21 hR, k3.1, Nat.le_refl]
        have := hb1 (db_n c 3)
        rw [pk_div (by omega) (by omega) (by omega), db_twice (fun a => db_qu_self) (fun a b => db_qu_comm), Nat.mul_div_cancel_left _ (by omega)]
      · show db_f150_20_b4 s (n + 1) (nI (fb_sm (fun r => fb_ct (db_qu c r) (db_n c 3)) k)) (nI k) = db_f150_20_b4 s n (nI (fb_sm (fun r => fb_ct (db_qu c r) (db_n c 3)) (k + 1))) (nI (k + 1))
        rw [db_f150_20_b4]
        have h7 : ¬ db_n c 3 ≤ k := by omega
        simp (disch := omega) only [db_lit, eq_self, db_pI_e, db_pL_e, db_bind_some, db_bd_some, nI_add, pk_mul, nI_toInt, db_m1_t, dz_cn, Int.ofNat_le, Int.ofNat_lt, decide_true, decide_false, db_ct, db_cf, not_true_eq_false, not_false_eq_true, db_87e, db_37e, db_31e, db_28e, db_281e, db_211e, db_27, db_269w, db_litL, pk_lT, db_iL, db_p0_e, db_p0_n, db_p0_j, db_sub1, nI_eq, if_true, if_false, Bool.false_eq_true, db_g_21, db_21 hR, k3.1, h7, db_151 hR hO hk, db_152m k12]
        rw [fb_sm_succ]
    unfold db_f149
    simp (disch := omega) only [db_lit, eq_self, db_pI_e, db_pL_e, db_bind_some, db_bd_some, nI_add, pk_mul, nI_toInt, db_m1_t, dz_cn, Int.ofNat_le, Int.ofNat_lt, decide_true, decide_false, db_ct, db_cf, not_true_eq_false, not_false_eq_true, db_87e, db_37e, db_31e, db_28e, db_281e, db_211e, db_27, db_269w, db_litL, pk_lT, db_iL, db_p0_e, db_p0_n, db_p0_j, db_sub1, nI_eq, if_true, if_false, Bool.false_eq_true, key]
  · rw [hcc] at hA
    unfold db_f339
    simp (disch := omega) only [db_lit, eq_self, db_pI_e, db_pL_e, db_bind_some, db_bd_some, nI_add, pk_mul, nI_toInt, db_m1_t, dz_cn, Int.ofNat_le, Int.ofNat_lt, decide_true, decide_false, db_ct, db_cf, not_true_eq_false, not_false_eq_true, db_87e, db_37e, db_31e, db_28e, db_281e, db_211e, db_27, db_269w, db_litL, pk_lT, db_iL, db_p0_e, db_p0_n, db_p0_j, db_sub1, nI_eq, if_true, if_false, Bool.false_eq_true]
    have hA2 := db_p0_A hA
    generalize db_p0 s1 = s2 at hA2
    refine db_fold (L := fun n v k => db_f339_b14 n s2 v (nI k)) (N := db_n c 3) (fun k => nI (fb_sm (fun a => fb_ct (db_qu c a) a) k)) (fun n => ?_) (fun n k hk => ?_) (n := db_FU) (by unfold db_FU; omega)
    · show db_f339_b14 (n + 1) s2 _ (nI (db_n c 3)) = _
      rw [db_f339_b14]
      simp (disch := omega) only [db_lit, eq_self, db_pI_e, db_pL_e, db_bind_some, db_bd_some, nI_add, pk_mul, nI_toInt, db_m1_t, dz_cn, Int.ofNat_le, Int.ofNat_lt, decide_true, decide_false, db_ct, db_cf, not_true_eq_false, not_false_eq_true, db_87e, db_37e, db_31e, db_28e, db_281e, db_211e, db_27, db_269w, db_litL, pk_lT, db_iL, db_p0_e, db_p0_n, db_p0_j, db_sub1, nI_eq, if_true, if_false, Bool.false_eq_true, db_g_674, hA2, k3.1, Nat.le_refl]
    · show db_f339_b14 (n + 1) s2 (nI (fb_sm (fun a => fb_ct (db_qu c a) a) k)) (nI k) = db_f339_b14 n s2 (nI (fb_sm (fun a => fb_ct (db_qu c a) a) (k + 1))) (nI (k + 1))
      rw [db_f339_b14]
      have h7 : ¬ db_n c 3 ≤ k := by omega
      simp (disch := omega) only [db_lit, eq_self, db_pI_e, db_pL_e, db_bind_some, db_bd_some, nI_add, pk_mul, nI_toInt, db_m1_t, dz_cn, Int.ofNat_le, Int.ofNat_lt, decide_true, decide_false, db_ct, db_cf, not_true_eq_false, not_false_eq_true, db_87e, db_37e, db_31e, db_28e, db_281e, db_211e, db_27, db_269w, db_litL, pk_lT, db_iL, db_p0_e, db_p0_n, db_p0_j, db_sub1, nI_eq, if_true, if_false, Bool.false_eq_true, db_g_674, hA2, k3.1, h7]
      refine db_fold (L := fun m v j => db_f339_b26 (db_f339_b14 n) m s2 v (nI k) (nI j)) (N := k) (fun j => nI (fb_sm (fun a => fb_ct (db_qu c a) a) k + fb_ct (db_qu c k) j)) (fun m => ?_) (fun m j hj => ?_) (n := db_FU) (by unfold db_FU; omega)
      · show db_f339_b26 (db_f339_b14 n) (m + 1) s2 _ (nI k) (nI k) = _
        rw [db_f339_b26]
        simp (disch := omega) only [db_lit, eq_self, db_pI_e, db_pL_e, db_bind_some, db_bd_some, nI_add, pk_mul, nI_toInt, db_m1_t, dz_cn, Int.ofNat_le, Int.ofNat_lt, decide_true, decide_false, db_ct, db_cf, not_true_eq_false, not_false_eq_true, db_87e, db_37e, db_31e, db_28e, db_281e, db_211e, db_27, db_269w, db_litL, pk_lT, db_iL, db_p0_e, db_p0_n, db_p0_j, db_sub1, nI_eq, if_true, if_false, Bool.false_eq_true, Nat.le_refl]
        rw [fb_sm_succ]
      · show db_f339_b26 (db_f339_b14 n) (m + 1) s2 (nI (fb_sm (fun a => fb_ct (db_qu c a) a) k + fb_ct (db_qu c k) j)) (nI k) (nI j) = db_f339_b26 (db_f339_b14 n) m s2 (nI (fb_sm (fun a => fb_ct (db_qu c a) a) k + fb_ct (db_qu c k) (j + 1))) (nI k) (nI (j + 1))
        rw [db_f339_b26]
        have h8 : ¬ k ≤ j := by omega
        simp (disch := omega) only [db_lit, eq_self, db_pI_e, db_pL_e, db_bind_some, db_bd_some, nI_add, pk_mul, nI_toInt, db_m1_t, dz_cn, Int.ofNat_le, Int.ofNat_lt, decide_true, decide_false, db_ct, db_cf, not_true_eq_false, not_false_eq_true, db_87e, db_37e, db_31e, db_28e, db_281e, db_211e, db_27, db_269w, db_litL, pk_lT, db_iL, db_p0_e, db_p0_n, db_p0_j, db_sub1, nI_eq, if_true, if_false, Bool.false_eq_true, h8, db_336 hA2 hO hk (show j < db_n c 3 by omega), db_f339_b46]
        rw [fb_ct_succ]
        cases db_qu c k j <;> rfl
/-- without this set no two quarrel -/
def dz_cv (c : db_C) (x : Int32) : Bool := !db_ex (fun r => !bt x r && db_ex (fun b => db_qu c r b && !bt x b) (db_n c 3)) (db_n c 3)
/-- the best so far -/
def db_bs (c : db_C) : Nat → Nat
  | 0 => 2 ^ db_n c 3 - 1
  | k + 1 => if db_pc (nI k) < db_pc (nI (db_bs c k)) ∧ dz_cv c (nI k) = true then k else db_bs c k
theorem db_bs_lt (h : db_n c 3 ≤ 12) : ∀ {k : Nat}, k ≤ 4096 → db_bs c k < 4096
  | 0, _ => by
    have := db_pow12 h
    show 2 ^ db_n c 3 - 1 < 4096
    omega
  | k + 1, hk => by
    rw [db_bs]
    split
    · omega
    · exact db_bs_lt h (by omega)
theorem db_pc_le {x : Int32} : db_pc x ≤ 12 := fb_ct_le _ 12
theorem db_159 (hR : db_BR 20 s c w) (hO : db_Ok U c) (h79 : ∀ r, r < db_n c 3 → s.1 79 r = db_mk (db_qu c r) (db_n c 3)) : db_f159_20 s x = some (dz_cv c x) := by
  have k3 := db_Ok_K hO (show 3 < 6 by omega)
  have k12 := k3.2
  unfold db_f159_20
  have := db_srch (L := fun n k => db_f159_20_b2 s n x (nI k)) (N := db_n c 3) (fun r => !bt x r && db_ex (fun b => db_qu c r b && !bt x b) (db_n c 3)) (fun o => !o.isSome) (fun n => ?_) (fun n k hk => ?_) (n := db_FU) (by unfold db_FU; omega)
  · refine Eq.trans this ?_
    unfold dz_cv
    cases hf : db_fst (fun r => !bt x r && db_ex (fun b => db_qu c r b && !bt x b) (db_n c 3)) (db_n c 3) with
    | none => rw [db_ex_no.mpr (db_fst_none.mp hf)]; rfl
    | some k =>
      have g := db_fst_some.mp hf
      rw [db_ex_iff.mpr ⟨k, g.1, g.2.1⟩]; rfl
  · show db_f159_20_b2 s (n + 1) x (nI (db_n c 3)) = _
    rw [db_f159_20_b2]
    simp (disch := omega) only [db_lit, eq_self, db_pI_e, db_pL_e, db_bind_some, db_bd_some, nI_add, pk_mul, nI_toInt, db_m1_t, dz_cn, Int.ofNat_le, Int.ofNat_lt, decide_true, decide_false, db_ct, db_cf, not_true_eq_false, not_false_eq_true, db_87e, db_37e, db_31e, db_28e, db_281e, db_211e, db_27, db_269w, db_litL, pk_lT, db_iL, db_p0_e, db_p0_n, db_p0_j, db_sub1, nI_eq, if_true, if_false, Bool.false_eq_true, db_g_21, db_21 hR, k3.1, Nat.le_refl]
    rfl
  · show db_f159_20_b2 s (n + 1) x (nI k) = _
    rw [db_f159_20_b2]
    have h7 : ¬ db_n c 3 ≤ k := by omega
    have e : db_ex (fun a => db_qu c k a && bt (x ^^^ -(nI 1)) a) (db_n c 3) = db_ex (fun b => db_qu c k b && !bt x b) (db_n c 3) := db_ex_cong fun j hj => by
      rw [b_xor, show -(nI 1) = (-1 : Int32) from rfl, b_m1 j (by omega)]
      cases bt x j <;> rfl
    simp (disch := omega) only [db_lit, eq_self, db_pI_e, db_pL_e, db_bind_some, db_bd_some, nI_add, pk_mul, nI_toInt, db_m1_t, dz_cn, Int.ofNat_le, Int.ofNat_lt, decide_true, decide_false, db_ct, db_cf, not_true_eq_false, not_false_eq_true, db_87e, db_37e, db_31e, db_28e, db_281e, db_211e, db_27, db_269w, db_litL, pk_lT, db_iL, db_p0_e, db_p0_n, db_p0_j, db_sub1, nI_eq, if_true, if_false, Bool.false_eq_true, db_g_21, db_21 hR, k3.1, h7, db_112 (show k < 31 by omega), db_g_79, h79 k hk, db_mk_and (show db_n c 3 ≤ 31 by omega), db_f159_20_b35, e]
    cases bt x k <;> cases db_ex (fun b => db_qu c k b && !bt x b) (db_n c 3) <;> rfl
/-- the class's search -/
theorem db_158 (hR : db_BR 20 s c w) (hO : db_Ok U c) : dz_T (db_f158_20 s) (fun z => z.1 = nI (db_bs c (2 ^ db_n c 3)) ∧ db_Ec s z.2) := by
  have k3 := db_Ok_K hO (show 3 < 6 by omega)
  have k12 := k3.2
  have hp := db_pow12 k12
  unfold db_f158_20
  simp (disch := omega) only [db_lit, eq_self, db_pI_e, db_pL_e, db_bind_some, db_bd_some, nI_add, pk_mul, nI_toInt, db_m1_t, dz_cn, Int.ofNat_le, Int.ofNat_lt, decide_true, decide_false, db_ct, db_cf, not_true_eq_false, not_false_eq_true, db_87e, db_37e, db_31e, db_28e, db_281e, db_211e, db_27, db_269w, db_litL, pk_lT, db_iL, db_p0_e, db_p0_n, db_p0_j, db_sub1, nI_eq, if_true, if_false, Bool.false_eq_true, db_115 hR hO, pk_sub]
  have hE : ∀ a, db_F1 79 s a → db_BR 20 a c w := fun a h => db_BR_c hO (fun b b1 b2 b3 => h.1 b (by omega)) (by rw [h.2]) hR
  refine db_loop (L := fun n a k => db_f158_20_b9 n a (nI (2 ^ db_n c 3 - 1)) (nI k)) (N := db_n c 3) (fun k a => db_F1 79 s a ∧ ∀ r, r < k → a.1 79 r = db_mk (db_qu c r) (db_n c 3)) ?_ ?_ (n := db_FU) (by unfold db_FU; omega) ⟨db_F1_r, lt_0⟩
  · rintro n a ⟨h1, h2⟩
    show dz_T (db_f158_20_b9 (n + 1) a (nI (2 ^ db_n c 3 - 1)) (nI (db_n c 3))) _
    rw [db_f158_20_b9]
    have hR2 := hE a h1
    simp (disch := omega) only [db_lit, eq_self, db_pI_e, db_pL_e, db_bind_some, db_bd_some, nI_add, pk_mul, nI_toInt, db_m1_t, dz_cn, Int.ofNat_le, Int.ofNat_lt, decide_true, decide_false, db_ct, db_cf, not_true_eq_false, not_false_eq_true, db_87e, db_37e, db_31e, db_28e, db_281e, db_211e, db_27, db_269w, db_litL, pk_lT, db_iL, db_p0_e, db_p0_n, db_p0_j, db_sub1, nI_eq, if_true, if_false, Bool.false_eq_true, db_g_21, db_21 hR2, k3.1, Nat.le_refl]
    have key : db_f158_20_b38 db_FU a (nI (2 ^ db_n c 3 - 1)) (nI 0) = some (nI (db_bs c (2 ^ db_n c 3)), a) := by
      refine db_fold (L := fun n v k => db_f158_20_b38 n a v (nI k)) (N := 2 ^ db_n c 3) (fun k => nI (db_bs c k)) (fun n => ?_) (fun n k hk => ?_) (by unfold db_FU; omega)
      · show db_f158_20_b38 (n + 1) a _ (nI (2 ^ db_n c 3)) = _
        rw [db_f158_20_b38]
        simp (disch := omega) only [db_lit, eq_self, db_pI_e, db_pL_e, db_bind_some, db_bd_some, nI_add, pk_mul, nI_toInt, db_m1_t, dz_cn, Int.ofNat_le, Int.ofNat_lt, decide_true, decide_false, db_ct, db_cf, not_true_eq_false, not_false_eq_true, db_87e, db_37e, db_31e, db_28e, db_281e, db_211e, db_27, db_269w, db_litL, pk_lT, db_iL, db_p0_e, db_p0_n, db_p0_j, db_sub1, nI_eq, if_true, if_false, Bool.false_eq_true, db_115 hR2 hO, Nat.le_refl]
      · show db_f158_20_b38 (n + 1) a (nI (db_bs c k)) (nI k) = db_f158_20_b38 n a (nI (if db_pc (nI k) < db_pc (nI (db_bs c k)) ∧ dz_cv c (nI k) = true then k else db_bs c k)) (nI (k + 1))
        rw [db_f158_20_b38]
        have h7 : ¬ 2 ^ db_n c 3 ≤ k := by omega
        have hbl := @db_bs_lt c k12 k (by omega)
        have p1 := @db_pc_le (nI k)
        have p2 := @db_pc_le (nI (db_bs c k))
        simp (disch := omega) only [db_lit, eq_self, db_pI_e, db_pL_e, db_bind_some, db_bd_some, nI_add, pk_mul, nI_toInt, db_m1_t, dz_cn, Int.ofNat_le, Int.ofNat_lt, decide_true, decide_false, db_ct, db_cf, not_true_eq_false, not_false_eq_true, db_87e, db_37e, db_31e, db_28e, db_281e, db_211e, db_27, db_269w, db_litL, pk_lT, db_iL, db_p0_e, db_p0_n, db_p0_j, db_sub1, nI_eq, if_true, if_false, Bool.false_eq_true, db_115 hR2 hO, h7, db_152 (show k < 4096 by omega), db_152 hbl, db_159 hR2 hO h2, db_f158_20_b67]
        by_cases e1 : db_pc (nI k) < db_pc (nI (db_bs c k))
        · rw [decide_eq_false (show ¬ db_pc (nI (db_bs c k)) ≤ db_pc (nI k) by omega), db_cf]
          cases hcv : dz_cv c (nI k)
          · rw [db_cf, if_neg (by rintro ⟨-, q⟩; cases q)]
          · rw [db_ct, if_pos ⟨e1, rfl⟩]
        · rw [decide_eq_true (show db_pc (nI (db_bs c k)) ≤ db_pc (nI k) by omega), db_ct, if_neg (fun q => e1 q.1)]
    exact ⟨_, key, rfl, db_F1_Ec h1 (fun j => by unfold db_ec; omega)⟩
  · rintro n k a hk ⟨h1, h2⟩ hrec
    show dz_T (db_f158_20_b9 (n + 1) a (nI (2 ^ db_n c 3 - 1)) (nI k)) _
    rw [db_f158_20_b9]
    have h7 : ¬ db_n c 3 ≤ k := by omega
    have hR2 := hE a h1
    simp (disch := omega) only [db_lit, eq_self, db_pI_e, db_pL_e, db_bind_some, db_bd_some, nI_add, pk_mul, nI_toInt, db_m1_t, dz_cn, Int.ofNat_le, Int.ofNat_lt, decide_true, decide_false, db_ct, db_cf, not_true_eq_false, not_false_eq_true, db_87e, db_37e, db_31e, db_28e, db_281e, db_211e, db_27, db_269w, db_litL, pk_lT, db_iL, db_p0_e, db_p0_n, db_p0_j, db_sub1, nI_eq, if_true, if_false, Bool.false_eq_true, db_g_21, db_21 hR2, k3.1, h7, db_151 hR2 hO hk, db_h_79]
    refine hrec _ ⟨db_F1_u h1, lt_s (fun i hi => ?_) db_uI_1⟩
    rw [db_uI_j (by omega)]
    exact h2 i hi
theorem db_345 {n : Nat} : db_f345 s x = some (nI (db_pc x)) := by
  unfold db_f345
  refine db_fold (L := fun n v k => db_f345_b4 s n x v (nI k)) (N := 12) (fun k => nI (fb_ct (fun i => bt x i) k)) (fun n => ?_) (fun n k hk => ?_) (n := db_FU) (by unfold db_FU; omega)
  · show db_f345_b4 s (n + 1) x _ (nI 12) = _
    rw [db_f345_b4]
    simp (disch := omega) only [db_lit, eq_self, db_pI_e, db_pL_e, db_bind_some, db_bd_some, nI_add, pk_mul, nI_toInt, db_m1_t, dz_cn, Int.ofNat_le, Int.ofNat_lt, decide_true, decide_false, db_ct, db_cf, not_true_eq_false, not_false_eq_true, db_87e, db_37e, db_31e, db_28e, db_281e, db_211e, db_27, db_269w, db_litL, pk_lT, db_iL, db_p0_e, db_p0_n, db_p0_j, db_sub1, nI_eq, if_true, if_false, Bool.false_eq_true, Nat.le_refl]
    rfl
  · show db_f345_b4 s (n + 1) x (nI (fb_ct (fun i => bt x i) k)) (nI k) = db_f345_b4 s n x (nI (fb_ct (fun i => bt x i) (k + 1))) (nI (k + 1))
    rw [db_f345_b4]
    have h7 : ¬ 12 ≤ k := by omega
    simp (disch := omega) only [db_lit, eq_self, db_pI_e, db_pL_e, db_bind_some, db_bd_some, nI_add, pk_mul, nI_toInt, db_m1_t, dz_cn, Int.ofNat_le, Int.ofNat_lt, decide_true, decide_false, db_ct, db_cf, not_true_eq_false, not_false_eq_true, db_87e, db_37e, db_31e, db_28e, db_281e, db_211e, db_27, db_269w, db_litL, pk_lT, db_iL, db_p0_e, db_p0_n, db_p0_j, db_sub1, nI_eq, if_true, if_false, Bool.false_eq_true, h7, db_287 (show k < 31 by omega), db_f345_b24]
    rw [fb_ct_succ]
    cases bt x k <;> rfl
/-- by couples -/
def db_cw (c : db_C) (x : Int32) (a : Nat) : Bool := db_ex (fun b => !(bt x a || (bt x b || !db_qu c a b))) a
theorem db_cv_cw : dz_cv c x = !db_ex (db_cw c x) (db_n c 3) := by
  unfold dz_cv
  congr 1
  rw [Bool.eq_iff_iff, db_ex_iff, db_ex_iff]
  constructor
  · rintro ⟨r, hr, h⟩
    simp only [Bool.and_eq_true, Bool.not_eq_true'] at h
    obtain ⟨b, hb, h2⟩ := db_ex_iff.mp h.2
    simp only [Bool.and_eq_true, Bool.not_eq_true'] at h2
    rcases Nat.lt_trichotomy r b with g | g | g
    · refine ⟨b, hb, db_ex_iff.mpr ⟨r, g, ?_⟩⟩
      rw [db_qu_comm, h2.1, h2.2, h.1]; rfl
    · subst g
      rw [db_qu_self] at h2
      cases h2.1
    · refine ⟨r, hr, db_ex_iff.mpr ⟨b, g, ?_⟩⟩
      rw [h2.1, h2.2, h.1]; rfl
  · rintro ⟨a, ha, h⟩
    obtain ⟨b, hb, h2⟩ := db_ex_iff.mp h
    simp only [Bool.not_eq_true', Bool.or_eq_false_iff, Bool.not_eq_false'] at h2
    refine ⟨a, ha, ?_⟩
    simp only [Bool.and_eq_true, Bool.not_eq_true']
    exact ⟨h2.1, db_ex_iff.mpr ⟨b, by omega, by rw [h2.2.2, h2.2.1]; rfl⟩⟩
/-- the reference's -/
theorem db_344 (hc : db_A s c) (hO : db_Ok U c) : db_f344 s = some (nI (db_bs c (2 ^ db_n c 3))) := by
  have k3 := db_Ok_K hO (show 3 < 6 by omega)
  have k12 := k3.2
  have hp := db_pow12 k12
  unfold db_f344
  simp (disch := omega) only [db_lit, eq_self, db_pI_e, db_pL_e, db_bind_some, db_bd_some, nI_add, pk_mul, nI_toInt, db_m1_t, dz_cn, Int.ofNat_le, Int.ofNat_lt, decide_true, decide_false, db_ct, db_cf, not_true_eq_false, not_false_eq_true, db_87e, db_37e, db_31e, db_28e, db_281e, db_211e, db_27, db_269w, db_litL, pk_lT, db_iL, db_p0_e, db_p0_n, db_p0_j, db_sub1, nI_eq, if_true, if_false, Bool.false_eq_true, db_g_674, hc, k3.1]
  rw [show nI 1 <<< (nI (db_n c 3) &&& nI 31) = nI (2 ^ db_n c 3) from db_b1_n (by omega), pk_sub hp.2]
  refine db_fold (L := fun n v k => db_f344_b13 s n v (nI k)) (N := 2 ^ db_n c 3) (fun k => nI (db_bs c k)) (fun n => ?_) (fun n k hk => ?_) (n := db_FU) (by unfold db_FU; omega)
  · show db_f344_b13 s (n + 1) _ (nI (2 ^ db_n c 3)) = _
    rw [db_f344_b13]
    simp (disch := omega) only [db_lit, eq_self, db_pI_e, db_pL_e, db_bind_some, db_bd_some, nI_add, pk_mul, nI_toInt, db_m1_t, dz_cn, Int.ofNat_le, Int.ofNat_lt, decide_true, decide_false, db_ct, db_cf, not_true_eq_false, not_false_eq_true, db_87e, db_37e, db_31e, db_28e, db_281e, db_211e, db_27, db_269w, db_litL, pk_lT, db_iL, db_p0_e, db_p0_n, db_p0_j, db_sub1, nI_eq, if_true, if_false, Bool.false_eq_true, db_g_674, hc, k3.1]
    rw [show nI 1 <<< (nI (db_n c 3) &&& nI 31) = nI (2 ^ db_n c 3) from db_b1_n (by omega), nI_toInt (show 2 ^ db_n c 3 < 2 ^ 31 by omega), decide_eq_true (Int.le_refl _), db_ct]
  · show db_f344_b13 s (n + 1) (nI (db_bs c k)) (nI k) = db_f344_b13 s n (nI (if db_pc (nI k) < db_pc (nI (db_bs c k)) ∧ dz_cv c (nI k) = true then k else db_bs c k)) (nI (k + 1))
    rw [db_f344_b13]
    have p1 := @db_pc_le (nI k)
    have p2 := @db_pc_le (nI (db_bs c k))
    simp (disch := omega) only [db_lit, eq_self, db_pI_e, db_pL_e, db_bind_some, db_bd_some, nI_add, pk_mul, nI_toInt, db_m1_t, dz_cn, Int.ofNat_le, Int.ofNat_lt, decide_true, decide_false, db_ct, db_cf, not_true_eq_false, not_false_eq_true, db_87e, db_37e, db_31e, db_28e, db_281e, db_211e, db_27, db_269w, db_litL, pk_lT, db_iL, db_p0_e, db_p0_n, db_p0_j, db_sub1, nI_eq, if_true, if_false, Bool.false_eq_true, db_g_674, hc, k3.1, @db_345 s (nI k) 0, @db_345 s (nI (db_bs c k)) 0, db_f344_b122]
    rw [show nI 1 <<< (nI (db_n c 3) &&& nI 31) = nI (2 ^ db_n c 3) from db_b1_n (by omega), nI_toInt (show 2 ^ db_n c 3 < 2 ^ 31 by omega), decide_eq_false (show ¬ ((2 ^ db_n c 3 : Nat) : Int) ≤ (k : Int) by omega), db_cf]
    by_cases e1 : db_pc (nI k) < db_pc (nI (db_bs c k))
    · rw [decide_eq_true e1, db_ct]
      -- the couples, row by row; v3 tells whether all is well so far
      have hgo : ∀ j, j ≤ db_n c 3 → ∀ i m, i + j = db_n c 3 → j < m → db_f344_b44 (db_f344_b13 s n) s m (nI (db_bs c k)) (nI k) (if db_ex (db_cw c (nI k)) i then nI 0 else nI 1) (nI i) = db_f344_b13 s n (nI (if dz_cv c (nI k) = true then k else db_bs c k)) (nI (k + 1)) := by
        intro j
        induction j with
        | zero =>
          intro _ i m hi hm
          obtain ⟨m, rfl⟩ : ∃ l, m = l + 1 := ⟨m - 1, by omega⟩
          obtain rfl : i = db_n c 3 := by omega
          rw [db_f344_b44]
          simp (disch := omega) only [db_lit, eq_self, db_pI_e, db_pL_e, db_bind_some, db_bd_some, nI_add, pk_mul, nI_toInt, db_m1_t, dz_cn, Int.ofNat_le, Int.ofNat_lt, decide_true, decide_false, db_ct, db_cf, not_true_eq_false, not_false_eq_true, db_87e, db_37e, db_31e, db_28e, db_281e, db_211e, db_27, db_269w, db_litL, pk_lT, db_iL, db_p0_e, db_p0_n, db_p0_j, db_sub1, nI_eq, if_true, if_false, Bool.false_eq_true, db_g_674, hc, k3.1, Nat.le_refl, db_f344_b122]
          rw [db_cv_cw]
          cases db_ex (db_cw c (nI k)) (db_n c 3) <;> rfl
        | succ j ih =>
          intro _ i m hi hm
          obtain ⟨m, rfl⟩ : ∃ l, m = l + 1 := ⟨m - 1, by omega⟩
          rw [db_f344_b44]
          have h8 : ¬ db_n c 3 ≤ i := by omega
          simp (disch := omega) only [db_lit, eq_self, db_pI_e, db_pL_e, db_bind_some, db_bd_some, nI_add, pk_mul, nI_toInt, db_m1_t, dz_cn, Int.ofNat_le, Int.ofNat_lt, decide_true, decide_false, db_ct, db_cf, not_true_eq_false, not_false_eq_true, db_87e, db_37e, db_31e, db_28e, db_281e, db_211e, db_27, db_269w, db_litL, pk_lT, db_iL, db_p0_e, db_p0_n, db_p0_j, db_sub1, nI_eq, if_true, if_false, Bool.false_eq_true, db_g_674, hc, k3.1, h8]
          have hex : db_ex (db_cw c (nI k)) (i + 1) = (db_ex (db_cw c (nI k)) i || db_cw c (nI k) i) := rfl
          have ih' := ih (by omega) (i + 1) m (by omega) (by omega)
          -- a row
          have hrow : ∀ l, l ≤ i → ∀ b t, b + l = i → l < t → db_f344_b58 (db_f344_b13 s n) (db_f344_b44 (db_f344_b13 s n) s m) s t (nI (db_bs c k)) (nI k) (if (db_ex (db_cw c (nI k)) i || db_ex (fun b => !(bt (nI k) i || (bt (nI k) b || !db_qu c i b))) b) then nI 0 else nI 1) (nI i) (nI b) = db_f344_b44 (db_f344_b13 s n) s m (nI (db_bs c k)) (nI k) (if db_ex (db_cw c (nI k)) (i + 1) then nI 0 else nI 1) (nI (i + 1)) := by
            intro l
            induction l with
            | zero =>
              intro _ b t hb ht
              obtain ⟨t, rfl⟩ : ∃ l, t = l + 1 := ⟨t - 1, by omega⟩
              obtain rfl : b = i := by omega
              rw [db_f344_b58]
              simp (disch := omega) only [db_lit, eq_self, db_pI_e, db_pL_e, db_bind_some, db_bd_some, nI_add, pk_mul, nI_toInt, db_m1_t, dz_cn, Int.ofNat_le, Int.ofNat_lt, decide_true, decide_false, db_ct, db_cf, not_true_eq_false, not_false_eq_true, db_87e, db_37e, db_31e, db_28e, db_281e, db_211e, db_27, db_269w, db_litL, pk_lT, db_iL, db_p0_e, db_p0_n, db_p0_j, db_sub1, nI_eq, if_true, if_false, Bool.false_eq_true, Nat.le_refl, db_f344_b110]
              rw [hex]
              rfl
            | succ l ihl =>
              intro _ b t hb ht
              obtain ⟨t, rfl⟩ : ∃ l, t = l + 1 := ⟨t - 1, by omega⟩
              rw [db_f344_b58]
              have h9 : ¬ i ≤ b := by omega
              have ihl' := ihl (by omega) (b + 1) t (by omega) (by omega)
              have hexb : db_ex (fun b => !(bt (nI k) i || (bt (nI k) b || !db_qu c i b))) (b + 1) = (db_ex (fun b => !(bt (nI k) i || (bt (nI k) b || !db_qu c i b))) b || !(bt (nI k) i || (bt (nI k) b || !db_qu c i b))) := rfl
              rw [hexb] at ihl'
              simp (disch := omega) only [db_lit, eq_self, db_pI_e, db_pL_e, db_bind_some, db_bd_some, nI_add, pk_mul, nI_toInt, db_m1_t, dz_cn, Int.ofNat_le, Int.ofNat_lt, decide_true, decide_false, db_ct, db_cf, not_true_eq_false, not_false_eq_true, db_87e, db_37e, db_31e, db_28e, db_281e, db_211e, db_27, db_269w, db_litL, pk_lT, db_iL, db_p0_e, db_p0_n, db_p0_j, db_sub1, nI_eq, if_true, if_false, Bool.false_eq_true, h9, db_287 (show i < 31 by omega), db_287 (show b < 31 by omega), db_336 hc hO (show i < db_n c 3 by omega) (show b < db_n c 3 by omega), db_f344_b98, db_f344_b103, db_f344_b110]
              cases hz : (db_ex (db_cw c (nI k)) i || db_ex (fun b => !(bt (nI k) i || (bt (nI k) b || !db_qu c i b))) b) with
              | true =>
                -- already ill: the row is left
                have : db_ex (db_cw c (nI k)) (i + 1) = true := by
                  rw [hex]
                  cases h1 : db_ex (db_cw c (nI k)) i with
                  | true => rfl
                  | false =>
                    rw [h1, Bool.false_or] at hz
                    obtain ⟨b', hb', hp'⟩ := db_ex_iff.mp hz
                    have : db_cw c (nI k) i = true := db_ex_iff.mpr ⟨b', by omega, hp'⟩
                    rw [this]; rfl
                rw [this]
                rfl
              | false =>
                rw [Bool.or_eq_false_iff] at hz
                rw [hz.1, hz.2] at ihl'
                rw [if_neg (by decide), decide_eq_false (show ¬ nI 1 = nI 0 by decide), db_cf]
                rw [← ihl']
                cases bt (nI k) i <;> cases bt (nI k) b <;> cases db_qu c i b <;> rfl
          have h0 := hrow i (Nat.le_refl i) 0 db_FU (by omega) (by unfold db_FU; omega)
          rw [show db_ex (fun b => !(bt (nI k) i || (bt (nI k) b || !db_qu c i b))) 0 = false from rfl, Bool.or_false] at h0
          rw [h0]
          exact ih'
      have h0 := hgo (db_n c 3) (Nat.le_refl _) 0 db_FU (by omega) (by unfold db_FU; omega)
      rw [show db_ex (db_cw c (nI k)) 0 = false from rfl, if_neg (by decide)] at h0
      rw [h0]
      cases hcv : dz_cv c (nI k)
      · rw [if_neg (by decide), if_neg (by rintro ⟨-, q⟩; cases q)]
      · rw [if_pos rfl, if_pos ⟨e1, rfl⟩]
    · rw [decide_eq_false e1, db_cf, if_neg (fun q => e1 q.1)]
theorem db_k38 (hI : db_Inv U s) : dz_G U s (fun s => db_f157 s) (fun s => db_f343 s) := by
  obtain ⟨hO, hR, -⟩ := db_cur hI
  have k12 := (db_Ok_K hO (show 3 < 6 by omega)).2
  have hp := db_pow12 k12
  have hbl := @db_bs_lt (db_bk s 0) k12 (2 ^ db_n (db_bk s 0) 3) (by omega)
  refine db_Gq (nI (db_pc (nI (db_bs (db_bk s 0) (2 ^ db_n (db_bk s 0) 3))))) (nI 0) hI ?_ fun s1 hS hA => ?_
  · unfold db_f157
    refine db_T_gd (db_158 hR hO) fun v a hv => ?_
    obtain ⟨h1, h2⟩ := hv
    dsimp only at h1 h2
    subst h1
    simp (disch := omega) only [db_lit, eq_self, db_pI_e, db_pL_e, db_bind_some, db_bd_some, nI_add, pk_mul, nI_toInt, db_m1_t, dz_cn, Int.ofNat_le, Int.ofNat_lt, decide_true, decide_false, db_ct, db_cf, not_true_eq_false, not_false_eq_true, db_87e, db_37e, db_31e, db_28e, db_281e, db_211e, db_27, db_269w, db_litL, pk_lT, db_iL, db_p0_e, db_p0_n, db_p0_j, db_sub1, nI_eq, if_true, if_false, Bool.false_eq_true, db_152 hbl]
    exact ⟨_, rfl, rfl, db_Sc_u h2⟩
  · unfold db_f343
    simp (disch := omega) only [db_lit, eq_self, db_pI_e, db_pL_e, db_bind_some, db_bd_some, nI_add, pk_mul, nI_toInt, db_m1_t, dz_cn, Int.ofNat_le, Int.ofNat_lt, decide_true, decide_false, db_ct, db_cf, not_true_eq_false, not_false_eq_true, db_87e, db_37e, db_31e, db_28e, db_281e, db_211e, db_27, db_269w, db_litL, pk_lT, db_iL, db_p0_e, db_p0_n, db_p0_j, db_sub1, nI_eq, if_true, if_false, Bool.false_eq_true, db_344 (db_p0_A hA) hO, @db_345 (db_p0 s1) (nI (db_bs (db_bk s 0) (2 ^ db_n (db_bk s 0) 3))) 0]
    exact ⟨_, rfl, rfl, db_Sm_0 db_Em_r⟩
theorem db_k39 (hI : db_Inv U s) : dz_G U s (fun s => db_f160 s) (fun s => db_f346 s) := by
  obtain ⟨hO, hR, -⟩ := db_cur hI
  refine db_Gq (nI (db_bs (db_bk s 0) (2 ^ db_n (db_bk s 0) 3))) (nI 0) hI ?_ fun s1 hS hA => ?_
  · unfold db_f160
    refine db_T_gd (db_158 hR hO) fun v a hv => ?_
    obtain ⟨h1, h2⟩ := hv
    dsimp only at h1 h2
    subst h1
    simp (disch := omega) only [db_lit, eq_self, db_pI_e, db_pL_e, db_bind_some, db_bd_some, nI_add, pk_mul, nI_toInt, db_m1_t, dz_cn, Int.ofNat_le, Int.ofNat_lt, decide_true, decide_false, db_ct, db_cf, not_true_eq_false, not_false_eq_true, db_87e, db_37e, db_31e, db_28e, db_281e, db_211e, db_27, db_269w, db_litL, pk_lT, db_iL, db_p0_e, db_p0_n, db_p0_j, db_sub1, nI_eq, if_true, if_false, Bool.false_eq_true]
    exact ⟨_, rfl, rfl, db_Sc_u h2⟩
  · unfold db_f346
    simp (disch := omega) only [db_lit, eq_self, db_pI_e, db_pL_e, db_bind_some, db_bd_some, nI_add, pk_mul, nI_toInt, db_m1_t, dz_cn, Int.ofNat_le, Int.ofNat_lt, decide_true, decide_false, db_ct, db_cf, not_true_eq_false, not_false_eq_true, db_87e, db_37e, db_31e, db_28e, db_281e, db_211e, db_27, db_269w, db_litL, pk_lT, db_iL, db_p0_e, db_p0_n, db_p0_j, db_sub1, nI_eq, if_true, if_false, Bool.false_eq_true, db_344 (db_p0_A hA) hO]
    exact ⟨_, rfl, rfl, db_Sm_0 db_Em_r⟩
end DBF1
