/-! THE REFERENCE'S READING: its pure functions are the spec's -/
theorem db_bt_1 : ∀ i, i < 32 → bt (nI 1) i = decide (i = 0) := by decide +kernel
theorem db_sh {x : Int32} {k : Nat} (hk : k < 31) : ((x >>> (nI k &&& nI 31)) &&& nI 1) = if bt x k then nI 1 else nI 0 := by
  apply b_ext
  intro i hi
  rw [b_and, show nI 31 = (31 : Int32) from rfl, b_sshr k (by omega) x hi, db_bt_1 i hi]
  by_cases h0 : i = 0
  · subst h0
    rw [if_pos (by omega)]
    show (bt x k && true) = _
    cases bt x k with
    | false => exact (b_0 0).symm
    | true => exact (db_bt_1 0 (by omega)).symm
  · simp only [h0, decide_false, Bool.and_false]
    cases bt x k with
    | false => exact (b_0 i).symm
    | true => exact ((db_bt_1 i hi).trans (decide_eq_false h0)).symm
theorem db_sh1 {x : Int32} {k : Nat} (hk : k < 31) : decide (¬ ((x >>> (nI k &&& nI 31)) &&& nI 1) = nI 1) = !bt x k := by
  rw [db_sh hk]
  cases bt x k <;> rfl
theorem db_sh0 {x : Int32} {k : Nat} (hk : k < 31) : decide (((x >>> (nI k &&& nI 31)) &&& nI 1) = nI 0) = !bt x k := by
  rw [db_sh hk]
  cases bt x k <;> rfl
theorem db_shn {x : Int32} {k : Nat} (hk : k < 31) : decide (¬ ((x >>> (nI k &&& nI 31)) &&& nI 1) = nI 0) = bt x k := by
  rw [db_sh hk]
  cases bt x k <;> rfl
theorem db_287 {s : db_S} {x : Int32} {k : Nat} (hk : k < 31) : db_f287 s x (nI k) = some (bt x k) := by
  unfold db_f287
  simp (disch := omega) only [db_lit, eq_self, db_pI_e, db_pL_e, db_bind_some, db_bd_some, nI_add, pk_mul, nI_toInt, db_m1_t, dz_cn, Int.ofNat_le, Int.ofNat_lt, decide_true, decide_false, db_ct, db_cf, not_true_eq_false, not_false_eq_true, db_sh1 hk]
  cases bt x k <;> rfl
theorem db_112 {s : db_S} {x : Int32} {k : Nat} (hk : k < 31) : db_f112 s x (nI k) = some (bt x k) := by
  unfold db_f112
  simp (disch := omega) only [db_lit, eq_self, db_pI_e, db_pL_e, db_bind_some, db_bd_some, nI_add, pk_mul, nI_toInt, db_m1_t, dz_cn, Int.ofNat_le, Int.ofNat_lt, decide_true, decide_false, db_ct, db_cf, not_true_eq_false, not_false_eq_true, db_sh0 hk]
  cases bt x k <;> rfl
theorem db_286 {s : db_S} {c : db_C} {a b : Nat} (hc : db_A s c) (hN : db_K c 4 12) : db_f286 s (nI a) (nI b) = some (db_hit c a b) := by
  unfold db_f286
  have h := hN.2
  refine db_exst (L := fun n k => db_f286_b2 s n (nI a) (nI b) (nI k)) (fun k => decide (c (103 + k) = nI a) && decide (c (115 + k) = nI b)) (fun n => ?_) (fun n k hk => ?_) (n := db_FU) (by unfold db_FU; omega)
  · show db_f286_b2 s (n + 1) (nI a) (nI b) (nI (db_n c 4)) = _
    rw [db_f286_b2]
    simp (disch := omega) only [db_lit, eq_self, db_pI_e, db_pL_e, db_bind_some, db_bd_some, nI_add, pk_mul, nI_toInt, db_m1_t, dz_cn, Int.ofNat_le, Int.ofNat_lt, decide_true, decide_false, db_ct, db_cf, not_true_eq_false, not_false_eq_true, db_g_674, hc, hN.1, Nat.le_refl]
  · show db_f286_b2 s (n + 1) (nI a) (nI b) (nI k) = _
    rw [db_f286_b2]
    have h1 : ¬ db_n c 4 ≤ k := by omega
    simp (disch := omega) only [db_lit, eq_self, db_pI_e, db_pL_e, db_bind_some, db_bd_some, nI_add, pk_mul, nI_toInt, db_m1_t, dz_cn, Int.ofNat_le, Int.ofNat_lt, decide_true, decide_false, db_ct, db_cf, not_true_eq_false, not_false_eq_true, db_g_674, hc, hN.1, h1, db_f286_b40]
    by_cases e1 : c (103 + k) = nI a <;> by_cases e2 : c (115 + k) = nI b <;> simp [e1, e2]
theorem db_so_lt {c : db_C} {st : Nat → Nat} {r : Nat} : db_so c st r < 3 := by
  unfold db_so
  split
  · omega
  · split <;> omega
theorem db_rd_lt {c : db_C} {st : Nat → Nat} (h : ∀ i, st i < 3) : ∀ n i, db_rd c st n i < 3
  | 0, i => h i
  | n + 1, i => by
    show (if i = n ∧ db_rd c st n n = 2 then db_so c (db_rd c st n) n else db_rd c st n i) < 3
    split
    · exact db_so_lt
    · exact db_rd_lt h n i
theorem db_rs_lt {c : db_C} : ∀ m i, db_rs c m i < 3
  | 0, _ => by show 2 < 3; omega
  | m + 1, i => db_rd_lt (db_rs_lt m) _ i
theorem db_285 {s : db_S} {c : db_C} {r : Nat} {st : Nat → Nat} (hc : db_A s c) (hN : db_K c 4 12) (hR : db_K c 3 12) (hst : ∀ a, a < 12 → s.1 677 a = nI (st a)) (hs3 : ∀ a, st a < 3) : db_f285 s (nI r) = some (nI (db_so c st r)) := by
  unfold db_f285
  have h := hR.2
  rw [← db_T_eq]
  refine db_loop (L := fun n v k => db_f285_b4 s n (nI r) v (nI k)) (N := db_n c 3) (fun k v => v = nI (if db_ex (fun a => db_hit c a r && decide (st a = 2)) k then 2 else 0) ∧ ∀ i, i < k → (db_hit c i r && decide (st i = 0)) = false) ?_ ?_ (n := db_FU) (by unfold db_FU; omega) ⟨rfl, lt_0⟩
  · rintro n v ⟨h1, h2⟩
    show dz_T (db_f285_b4 s (n + 1) (nI r) v (nI (db_n c 3))) _
    rw [db_f285_b4]
    simp (disch := omega) only [db_lit, eq_self, db_pI_e, db_pL_e, db_bind_some, db_bd_some, nI_add, pk_mul, nI_toInt, db_m1_t, dz_cn, Int.ofNat_le, Int.ofNat_lt, decide_true, decide_false, db_ct, db_cf, not_true_eq_false, not_false_eq_true, db_g_674, hc, hR.1, Nat.le_refl, db_T_some]
    rw [h1]
    unfold db_so
    rw [db_ex_no.mpr h2]
    rfl
  · rintro n k v hk ⟨h1, h2⟩ hrec
    show dz_T (db_f285_b4 s (n + 1) (nI r) v (nI k)) _
    rw [db_f285_b4]
    have h3 : ¬ db_n c 3 ≤ k := by omega
    have h4 := hst k (by omega)
    have h5 := hs3 k
    simp (disch := omega) only [db_lit, eq_self, db_pI_e, db_pL_e, db_bind_some, db_bd_some, nI_add, pk_mul, nI_toInt, db_m1_t, dz_cn, Int.ofNat_le, Int.ofNat_lt, decide_true, decide_false, db_ct, db_cf, not_true_eq_false, not_false_eq_true, db_g_674, hc, db_g_677, hR.1, h3, h4, db_286 hc hN, db_f285_b53, db_f285_b52]
    have hex : db_ex (fun a => db_hit c a r && decide (st a = 2)) (k + 1) = (db_ex (fun a => db_hit c a r && decide (st a = 2)) k || (db_hit c k r && decide (st k = 2))) := rfl
    cases hh : db_hit c k r with
    | false =>
      rw [cond_false]
      refine hrec _ ⟨?_, lt_s h2 (by rw [hh]; rfl)⟩
      rw [hex, hh, h1]
      simp
    | true =>
      rw [cond_true]
      rcases (by omega : st k = 0 ∨ st k = 1 ∨ st k = 2) with e | e | e
      · rw [e]
        show dz_T (some (nI 1)) _
        rw [db_T_some]
        unfold db_so
        rw [if_pos (db_ex_iff.mpr ⟨k, hk, by rw [hh, e]; rfl⟩)]
      · rw [e]
        show dz_T (db_f285_b4 s n (nI r) v (nI (k + 1))) _
        refine hrec _ ⟨?_, lt_s h2 (by rw [hh, e]; rfl)⟩
        rw [hex, hh, h1, e]
        simp
      · rw [e]
        show dz_T (db_f285_b4 s n (nI r) (nI 2) (nI (k + 1))) _
        refine hrec _ ⟨?_, lt_s h2 (by rw [hh, e]; rfl)⟩
        rw [hex, hh, e]
        simp
theorem db_284_i {s s1 : db_S} {c : db_C} {m : Nat} {h23 : db_S → Int32 → Option db_S} {P : db_S → Prop} (hc : db_A s c) (hN : db_K c 4 12) (hR : db_K c 3 12) (hF : db_F1 677 s s1) (hst : ∀ i, i < 12 → s1.1 677 i = nI (db_rs c m i)) (hk : ∀ s', db_F1 677 s s' → (∀ i, i < 12 → s'.1 677 i = nI (db_rs c (m + 1) i)) → dz_T (h23 s' (nI (m + 1))) P) : dz_T (db_f284_b31 h23 db_FU s1 (nI m) (nI 0)) P := by
  have h := hR.2
  refine db_loop (L := fun n a k => db_f284_b31 h23 n a (nI m) (nI k)) (N := db_n c 3) (fun k a => db_F1 677 s a ∧ ∀ i, i < 12 → a.1 677 i = nI (db_rd c (db_rs c m) k i)) ?_ ?_ (by unfold db_FU; omega) ⟨hF, hst⟩
  · rintro n a ⟨h1, h2⟩
    show dz_T (db_f284_b31 h23 (n + 1) a (nI m) (nI (db_n c 3))) _
    rw [db_f284_b31]
    have e := h1.1 674 (by decide)
    simp (disch := omega) only [db_lit, eq_self, db_pI_e, db_pL_e, db_bind_some, db_bd_some, nI_add, pk_mul, nI_toInt, db_m1_t, dz_cn, Int.ofNat_le, Int.ofNat_lt, decide_true, decide_false, db_ct, db_cf, not_true_eq_false, not_false_eq_true, db_g_674, hc, e, hR.1, Nat.le_refl]
    exact hk a h1 h2
  · rintro n k a hkN ⟨h1, h2⟩ hrec
    show dz_T (db_f284_b31 h23 (n + 1) a (nI m) (nI k)) _
    rw [db_f284_b31]
    have e := h1.1 674 (by decide)
    have h3 : ¬ db_n c 3 ≤ k := by omega
    have h4 := h2 k (by omega)
    have h5 := db_rd_lt (c := c) (db_rs_lt (c := c) m) k k
    have h285 := db_285 (r := k) (db_A_e e hc) hN hR h2 (db_rd_lt (db_rs_lt m) k)
    simp (disch := omega) only [db_lit, eq_self, db_pI_e, db_pL_e, db_bind_some, db_bd_some, nI_add, pk_mul, nI_toInt, db_m1_t, dz_cn, Int.ofNat_le, Int.ofNat_lt, decide_true, decide_false, db_ct, db_cf, not_true_eq_false, not_false_eq_true, db_g_674, hc, db_g_677, db_h_677, e, hR.1, h3, h4, h285, db_f284_b62]
    by_cases e2 : db_rd c (db_rs c m) k k = 2
    · rw [e2]
      show dz_T (db_f284_b31 h23 n (db_uI a 677 k (nI (db_so c (db_rd c (db_rs c m) k) k))) (nI m) (nI (k + 1))) P
      refine hrec _ ⟨db_F1_u h1, fun i hi => ?_⟩
      show _ = nI (if i = k ∧ _ then _ else _)
      by_cases hik : i = k
      · subst hik
        rw [db_uI_1, if_pos ⟨rfl, e2⟩]
      · rw [db_uI_j hik, if_neg (fun q => hik q.1)]
        exact h2 i hi
    · have e3 : decide (¬ nI (db_rd c (db_rs c m) k k) = nI 2) = true := decide_eq_true (fun q => e2 ((nI_eq (by omega) (by omega)).mp q))
      rw [e3, cond_true]
      refine hrec _ ⟨h1, fun i hi => ?_⟩
      show _ = nI (if i = k ∧ _ then _ else _)
      rw [if_neg (fun q => e2 q.2)]
      exact h2 i hi
/-- settle: who stands -/
theorem db_284 {s : db_S} {c : db_C} (hc : db_A s c) (hN : db_K c 4 12) (hR : db_K c 3 12) : dz_T (db_f284 s) (fun s' => db_F1 677 s s' ∧ ∀ i, i < 12 → s'.1 677 i = nI (db_st c i)) := by
  unfold db_f284
  refine db_loop (L := fun n a k => db_f284_b2 n a (nI k)) (N := 12) (fun k a => db_F1 677 s a ∧ ∀ i, i < k → a.1 677 i = nI 2) ?_ ?_ (n := db_FU) (by unfold db_FU; omega) ⟨db_F1_r, lt_0⟩
  · rintro n a ⟨h1, h2⟩
    show dz_T (db_f284_b2 (n + 1) a (nI 12)) _
    rw [db_f284_b2]
    simp (disch := omega) only [db_lit, eq_self, db_pI_e, db_pL_e, db_bind_some, db_bd_some, nI_add, pk_mul, nI_toInt, db_m1_t, dz_cn, Int.ofNat_le, Int.ofNat_lt, decide_true, decide_false, db_ct, db_cf, not_true_eq_false, not_false_eq_true, Nat.le_refl]
    refine db_loop (L := fun n a k => db_f284_b23 n a (nI k)) (N := 12) (fun k a => db_F1 677 s a ∧ ∀ i, i < 12 → a.1 677 i = nI (db_rs c k i)) ?_ ?_ (n := db_FU) (by unfold db_FU; omega) ⟨h1, h2⟩
    · rintro n a ⟨h1, h2⟩
      show dz_T (db_f284_b23 (n + 1) a (nI 12)) _
      rw [db_f284_b23]
      simp (disch := omega) only [db_lit, eq_self, db_pI_e, db_pL_e, db_bind_some, db_bd_some, nI_add, pk_mul, nI_toInt, db_m1_t, dz_cn, Int.ofNat_le, Int.ofNat_lt, decide_true, decide_false, db_ct, db_cf, not_true_eq_false, not_false_eq_true, Nat.le_refl, db_T_some]
      exact ⟨h1, h2⟩
    · rintro n k a hk ⟨h1, h2⟩ hrec
      show dz_T (db_f284_b23 (n + 1) a (nI k)) _
      rw [db_f284_b23]
      have h3 : ¬ 12 ≤ k := by omega
      simp (disch := omega) only [db_lit, eq_self, db_pI_e, db_pL_e, db_bind_some, db_bd_some, nI_add, pk_mul, nI_toInt, db_m1_t, dz_cn, Int.ofNat_le, Int.ofNat_lt, decide_true, decide_false, db_ct, db_cf, not_true_eq_false, not_false_eq_true, h3]
      exact db_284_i hc hN hR h1 h2 fun s' f1 f2 => hrec s' ⟨f1, f2⟩
  · rintro n k a hk ⟨h1, h2⟩ hrec
    show dz_T (db_f284_b2 (n + 1) a (nI k)) _
    rw [db_f284_b2]
    have h3 : ¬ 12 ≤ k := by omega
    simp (disch := omega) only [db_lit, eq_self, db_pI_e, db_pL_e, db_bind_some, db_bd_some, nI_add, pk_mul, nI_toInt, db_m1_t, dz_cn, Int.ofNat_le, Int.ofNat_lt, decide_true, decide_false, db_ct, db_cf, not_true_eq_false, not_false_eq_true, h3, db_h_677]
    refine hrec _ ⟨db_F1_u h1, lt_s (fun i hi => ?_) db_uI_1⟩
    rw [db_uI_j (by omega)]
    exact h2 i hi
/-- the rules in force -/
theorem db_283 {s : db_S} {c : db_C} (hc : db_A s c) (hN : db_K c 4 12) (hR : db_K c 3 12) : dz_T (db_f283 s) (fun z => z.1 = db_fo c ∧ db_F1 677 s z.2) := by
  unfold db_f283
  refine db_T_go (db_284 hc hN hR) fun s1 hs => ?_
  obtain ⟨hF, hst⟩ := hs
  have h := hR.2
  have e := hF.1 674 (by decide)
  have key : db_f283_b8 db_FU s1 (nI 0) (nI 0) = some (db_fo c, s1) := by
    refine db_fold (L := fun n v k => db_f283_b8 n s1 v (nI k)) (N := db_n c 3) (db_mk (fun r => decide (db_st c r = 0) && !bt (c 7) r)) (fun n => ?_) (fun n k hk => ?_) (by unfold db_FU; omega)
    · show db_f283_b8 (n + 1) s1 _ (nI (db_n c 3)) = _
      rw [db_f283_b8]
      simp (disch := omega) only [db_lit, eq_self, db_pI_e, db_pL_e, db_bind_some, db_bd_some, nI_add, pk_mul, nI_toInt, db_m1_t, dz_cn, Int.ofNat_le, Int.ofNat_lt, decide_true, decide_false, db_ct, db_cf, not_true_eq_false, not_false_eq_true, db_g_674, hc, e, hR.1, Nat.le_refl]
      rfl
    · show db_f283_b8 (n + 1) s1 _ (nI k) = _
      rw [db_f283_b8]
      have h3 : ¬ db_n c 3 ≤ k := by omega
      have h4 := hst k (by omega)
      simp (disch := omega) only [db_lit, eq_self, db_pI_e, db_pL_e, db_bind_some, db_bd_some, nI_add, pk_mul, nI_toInt, db_m1_t, dz_cn, Int.ofNat_le, Int.ofNat_lt, decide_true, decide_false, db_ct, db_cf, not_true_eq_false, not_false_eq_true, db_g_674, hc, db_g_677, e, hR.1, h3, h4, db_f283_b48, db_f283_b49, db_287 (show k < 31 by omega)]
      have h5 : db_mk (fun r => decide (db_st c r = 0) && !bt (c 7) r) (k + 1) = db_mk (fun r => decide (db_st c r = 0) && !bt (c 7) r) k ||| (if (decide (db_st c k = 0) && !bt (c 7) k) = true then db_b1 k else nI 0) := rfl
      have h6 := db_rs_lt (c := c) 12 k
      show cond (decide (¬ nI (db_st c k) = nI 0)) _ _ = db_f283_b8 n s1 _ (nI (k + 1))
      rw [h5]
      by_cases e0 : db_st c k = 0
      · rw [e0]
        cases bt (c 7) k <;> rfl
      · have e3 : decide (¬ nI (db_st c k) = nI 0) = true := decide_eq_true (fun q => e0 ((nI_eq (by unfold db_st; omega) (by omega)).mp q))
        rw [e3, cond_true, decide_eq_false e0]
        rfl
  exact ⟨_, key, rfl, hF⟩
theorem db_290 {s : db_S} {c : db_C} {r : Nat} (hc : db_A s c) (hr : r < 12) : db_f290 s (nI r) = some (db_wo c r) := by
  unfold db_f290 db_wo
  simp (disch := omega) only [db_lit, eq_self, db_pI_e, db_pL_e, db_bind_some, db_bd_some, nI_add, pk_mul, nI_toInt, db_m1_t, dz_cn, Int.ofNat_le, Int.ofNat_lt, decide_true, decide_false, db_ct, db_cf, not_true_eq_false, not_false_eq_true, db_g_674, hc]
  by_cases h : 0 ≤ (c (31 + r)).toInt
  · simp only [show ((0 : Nat) : Int) = 0 from rfl, h, decide_true, cond_true, if_true]; rfl
  · simp only [show ((0 : Nat) : Int) = 0 from rfl, h, decide_false, cond_false, if_false]; rfl
/-- within, of longs -/
theorem db_cl_lt {x a : Int64} : db_cnd .lt (lg_cmp x a) (nI 0) = decide (x < a) := decide_eq_decide.mpr (lg_cmp_lt x a)
theorem db_cl_gt {x a : Int64} : db_cnd .gt (lg_cmp x a) (nI 0) = decide (a < x) := decide_eq_decide.mpr (lg_cmp_gt x a)
theorem db_cl_le {x a : Int64} : db_cnd .le (lg_cmp x a) (nI 0) = decide (x ≤ a) := decide_eq_decide.mpr (lg_cmp_le x a)
theorem db_cl_ge {x a : Int64} : db_cnd .ge (lg_cmp x a) (nI 0) = decide (a ≤ x) := decide_eq_decide.mpr (lg_cmp_ge x a)
theorem db_269 {s : db_S} {x a b : Int64} : db_f269 s x a b = some (decide (a.toInt ≤ x.toInt) && decide (x.toInt ≤ b.toInt)) := by
  unfold db_f269
  rw [show (0 : Int32) = nI 0 from rfl, db_cl_lt, db_cl_gt]
  by_cases h1 : a.toInt ≤ x.toInt
  · have e1 : ¬ x < a := fun q => by rw [fa_lt64] at q; omega
    by_cases h2 : x.toInt ≤ b.toInt
    · have e2 : ¬ b < x := fun q => by rw [fa_lt64] at q; omega
      simp [h1, h2, e1, e2]
    · have e2 : b < x := by rw [fa_lt64]; omega
      simp [h2, e1, e2]
  · have e1 : x < a := by rw [fa_lt64]; omega
    simp [h1, e1]
theorem db_iL (x : Int32) : x.toInt64.toInt = x.toInt := Int32.toInt_toInt64 x
/-- is it one of n -/
def db_is (x : Int32) (n : Nat) : Bool := decide (0 ≤ x.toInt) && decide (x.toInt < n)
theorem db_is_t {x : Int32} {n : Nat} (h : db_is x n = true) : ∃ k, k < n ∧ x = nI k := by
  simp only [db_is, Bool.and_eq_true, decide_eq_true_eq] at h
  exact db_ofI h.1 h.2
theorem db_is_n {k n : Nat} (h : k < n) (hn : n < 2 ^ 31) : db_is (nI k) n = true := by
  have : k < 2 ^ 31 := by omega
  simp only [db_is, nI_toInt this, Bool.and_eq_true, decide_eq_true_eq]
  omega
/-- nobody or one of n -/
def db_im (x : Int32) (n : Nat) : Bool := decide (-1 ≤ x.toInt) && decide (x.toInt < n)
theorem db_im_t {x : Int32} {n : Nat} (h : db_im x n = true) : db_O x n := by
  simp only [db_im, Bool.and_eq_true, decide_eq_true_eq] at h
  by_cases h0 : 0 ≤ x.toInt
  · exact .inr (db_ofI h0 h.2)
  · refine .inl ?_
    rw [fa_eq, db_m1_t]
    omega
theorem db_im_O {x : Int32} {n : Nat} (hn : n < 2 ^ 31) (h : db_O x n) : db_im x n = true := by
  simp only [db_im, Bool.and_eq_true, decide_eq_true_eq]
  rcases h with h | ⟨k, hk, h⟩
  · rw [h, db_m1_t]; omega
  · have : k < 2 ^ 31 := by omega
    rw [h, nI_toInt this]; omega
theorem db_m1L : (nI 1 : Int32) = 1 := rfl
theorem db_sub1 {n : Nat} (hn : n < 2 ^ 31) : (nI n - nI 1).toInt = (n : Int) - 1 := by
  have h1 : (nI 1).toInt = 1 := by decide
  have h2 := nI_toInt hn
  rw [fb_subI (by omega) (by omega)]
  omega
theorem db_isx {x : Int32} {n : Nat} (hn : n < 2 ^ 31) : (decide ((0 : Int64).toInt ≤ x.toInt64.toInt) && decide (x.toInt64.toInt ≤ (nI n - nI 1).toInt64.toInt)) = db_is x n := by
  rw [db_iL, db_iL, db_sub1 hn, show (0 : Int64).toInt = 0 from rfl]
  unfold db_is
  congr 1
  rw [decide_eq_decide]
  omega
theorem db_imx {x : Int32} {n : Nat} (hn : n < 2 ^ 31) : (decide ((-1 : Int64).toInt ≤ x.toInt64.toInt) && decide (x.toInt64.toInt ≤ (nI n - nI 1).toInt64.toInt)) = db_im x n := by
  rw [db_iL, db_iL, db_sub1 hn, show (-1 : Int64).toInt = -1 by decide]
  unfold db_im
  congr 1
  rw [decide_eq_decide]
  omega
section DBM1
variable {s : db_S} {c : db_C} {x y : Int32}
theorem db_289 (hc : db_A s c) (h : db_K c 3 12) : db_f289 s x = some (db_is x (db_n c 3)) := by
  unfold db_f289
  have := h.2
  simp (disch := omega) only [db_lit, eq_self, db_pI_e, db_pL_e, db_bind_some, db_bd_some, nI_add, pk_mul, nI_toInt, db_m1_t, dz_cn, Int.ofNat_le, Int.ofNat_lt, decide_true, decide_false, db_ct, db_cf, not_true_eq_false, not_false_eq_true, db_g_674, hc, h.1, db_269, db_isx (show db_n c 3 < 2 ^ 31 by omega)]
theorem db_292 (hc : db_A s c) (h : db_K c 1 4) : db_f292 s x = some (db_is x (db_n c 1)) := by
  unfold db_f292
  have := h.2
  simp (disch := omega) only [db_lit, eq_self, db_pI_e, db_pL_e, db_bind_some, db_bd_some, nI_add, pk_mul, nI_toInt, db_m1_t, dz_cn, Int.ofNat_le, Int.ofNat_lt, decide_true, decide_false, db_ct, db_cf, not_true_eq_false, not_false_eq_true, db_g_674, hc, h.1, db_269, db_isx (show db_n c 1 < 2 ^ 31 by omega)]
theorem db_294 (hc : db_A s c) (h : db_K c 2 3) : db_f294 s x = some (db_is x (db_n c 2)) := by
  unfold db_f294
  have := h.2
  simp (disch := omega) only [db_lit, eq_self, db_pI_e, db_pL_e, db_bind_some, db_bd_some, nI_add, pk_mul, nI_toInt, db_m1_t, dz_cn, Int.ofNat_le, Int.ofNat_lt, decide_true, decide_false, db_ct, db_cf, not_true_eq_false, not_false_eq_true, db_g_674, hc, h.1, db_269, db_isx (show db_n c 2 < 2 ^ 31 by omega)]
theorem db_297 (hc : db_A s c) (h : db_K c 5 8) : db_f297 s x = some (db_is x (db_n c 5)) := by
  unfold db_f297
  have := h.2
  simp (disch := omega) only [db_lit, eq_self, db_pI_e, db_pL_e, db_bind_some, db_bd_some, nI_add, pk_mul, nI_toInt, db_m1_t, dz_cn, Int.ofNat_le, Int.ofNat_lt, decide_true, decide_false, db_ct, db_cf, not_true_eq_false, not_false_eq_true, db_g_674, hc, h.1, db_269, db_isx (show db_n c 5 < 2 ^ 31 by omega)]
theorem db_315 (hc : db_A s c) (h : db_K c 1 4) (h2 : db_K c 2 3) : db_f315 s x y = some (db_im x (db_n c 1) && db_im y (db_n c 2)) := by
  unfold db_f315
  have := h.2
  have := h2.2
  simp (disch := omega) only [db_lit, eq_self, db_pI_e, db_pL_e, db_bind_some, db_bd_some, nI_add, pk_mul, nI_toInt, db_m1_t, dz_cn, Int.ofNat_le, Int.ofNat_lt, decide_true, decide_false, db_ct, db_cf, not_true_eq_false, not_false_eq_true, db_g_674, hc, h.1, h2.1, db_269, db_imx (show db_n c 1 < 2 ^ 31 by omega), db_imx (show db_n c 2 < 2 ^ 31 by omega)]
  cases db_im x (db_n c 1) <;> cases db_im y (db_n c 2) <;> rfl
end DBM1
section DBM2
variable {s : db_S} {c : db_C} {n i : Nat} {t : Int32}
theorem db_320 (h29 : s.1 669 29 = nI n) (hn : n ≤ 8) (hi : i < n) : db_f320 s (nI i) t = some (db_be (s.1 678) n i t) := by
  have key : db_f320_b16 s (nI i) t = some (decide (i + 1 < n) && decide (s.1 678 (i + 1) = t)) := by
    unfold db_f320_b16
    by_cases h : i + 1 < n
    · have h1 : ¬ n - 1 ≤ i := by omega
      simp (disch := omega) only [db_lit, eq_self, db_pI_e, db_pL_e, db_bind_some, db_bd_some, nI_add, pk_mul, nI_toInt, db_m1_t, dz_cn, Int.ofNat_le, Int.ofNat_lt, decide_true, decide_false, db_ct, db_cf, not_true_eq_false, not_false_eq_true, h29, db_g_678, pk_sub, h1, h]
      by_cases e : s.1 678 (i + 1) = t <;> simp [e]
    · have h1 : n - 1 ≤ i := by omega
      simp (disch := omega) only [db_lit, eq_self, db_pI_e, db_pL_e, db_bind_some, db_bd_some, nI_add, pk_mul, nI_toInt, db_m1_t, dz_cn, Int.ofNat_le, Int.ofNat_lt, decide_true, decide_false, db_ct, db_cf, not_true_eq_false, not_false_eq_true, h29, db_g_678, pk_sub, h1, h]
      rfl
  unfold db_f320 db_be
  by_cases h : 0 < i
  · have h1 : ¬ i ≤ 0 := by omega
    simp (disch := omega) only [db_lit, eq_self, db_pI_e, db_pL_e, db_bind_some, db_bd_some, nI_add, pk_mul, nI_toInt, db_m1_t, dz_cn, Int.ofNat_le, Int.ofNat_lt, decide_true, decide_false, db_ct, db_cf, not_true_eq_false, not_false_eq_true, h1, db_g_678, pk_sub, h, key]
    by_cases e : s.1 678 (i - 1) = t <;> simp [e]
  · have h1 : i ≤ 0 := by omega
    simp (disch := omega) only [db_lit, eq_self, db_pI_e, db_pL_e, db_bind_some, db_bd_some, nI_add, pk_mul, nI_toInt, db_m1_t, dz_cn, Int.ofNat_le, Int.ofNat_lt, decide_true, decide_false, db_ct, db_cf, not_true_eq_false, not_false_eq_true, h1, h, key]
    simp
theorem db_321 (h29 : s.1 669 29 = nI n) (hn : n ≤ 8) : db_f321 s t = some (db_ir (s.1 678) n t) := by
  unfold db_f321
  refine db_exst (L := fun n k => db_f321_b2 s n t (nI k)) (fun k => decide (s.1 678 k = t)) (fun m => ?_) (fun m k hk => ?_) (n := db_FU) (by unfold db_FU; omega)
  · show db_f321_b2 s (m + 1) t (nI n) = _
    rw [db_f321_b2]
    simp (disch := omega) only [db_lit, eq_self, db_pI_e, db_pL_e, db_bind_some, db_bd_some, nI_add, pk_mul, nI_toInt, db_m1_t, dz_cn, Int.ofNat_le, Int.ofNat_lt, decide_true, decide_false, db_ct, db_cf, not_true_eq_false, not_false_eq_true, h29, Nat.le_refl]
  · show db_f321_b2 s (m + 1) t (nI k) = _
    rw [db_f321_b2]
    have h1 : ¬ n ≤ k := by omega
    simp (disch := omega) only [db_lit, eq_self, db_pI_e, db_pL_e, db_bind_some, db_bd_some, nI_add, pk_mul, nI_toInt, db_m1_t, dz_cn, Int.ofNat_le, Int.ofNat_lt, decide_true, decide_false, db_ct, db_cf, not_true_eq_false, not_false_eq_true, h29, h1, db_g_678]
    by_cases e : s.1 678 k = t <;> simp [e]
theorem db_319 {p q : Int32} {r : Nat} (hc : db_A s c) (h29 : s.1 669 29 = nI n) (hn : n ≤ 8) (hi : i < n) (hr : r < 12) : db_f319 s (nI r) (nI i) p q = some (db_ft c (s.1 678) n p q r i) := by
  have k1 : db_f319_b100 s (nI r) = some (decide ((c (55 + r)).toInt < 0) || !db_ir (s.1 678) n (c (55 + r))) := by
    unfold db_f319_b100
    simp (disch := omega) only [db_lit, eq_self, db_pI_e, db_pL_e, db_bind_some, db_bd_some, nI_add, pk_mul, nI_toInt, db_m1_t, dz_cn, Int.ofNat_le, Int.ofNat_lt, decide_true, decide_false, db_ct, db_cf, not_true_eq_false, not_false_eq_true, db_g_674, hc, db_321 h29 hn]
    by_cases e : (c (55 + r)).toInt < 0
    · simp [e]
    · simp [e]
      cases db_ir (s.1 678) n (c (55 + r)) <;> rfl
  have k2 : db_f319_b71 s (nI r) (nI i) = some ((decide ((c (43 + r)).toInt < 0) || db_be (s.1 678) n i (c (43 + r))) && (decide ((c (55 + r)).toInt < 0) || !db_ir (s.1 678) n (c (55 + r)))) := by
    unfold db_f319_b71
    simp (disch := omega) only [db_lit, eq_self, db_pI_e, db_pL_e, db_bind_some, db_bd_some, nI_add, pk_mul, nI_toInt, db_m1_t, dz_cn, Int.ofNat_le, Int.ofNat_lt, decide_true, decide_false, db_ct, db_cf, not_true_eq_false, not_false_eq_true, db_g_674, hc, db_320 h29 hn hi, k1]
    by_cases e : (c (43 + r)).toInt < 0
    · simp [e]
    · simp [e]
      cases db_be (s.1 678) n i (c (43 + r)) <;> rfl
  have k3 : db_f319_b43 s (nI r) (nI i) q = some ((decide ((c (79 + r)).toInt < 0) || decide (c (79 + r) = q)) && ((decide ((c (43 + r)).toInt < 0) || db_be (s.1 678) n i (c (43 + r))) && (decide ((c (55 + r)).toInt < 0) || !db_ir (s.1 678) n (c (55 + r))))) := by
    unfold db_f319_b43
    simp (disch := omega) only [db_lit, eq_self, db_pI_e, db_pL_e, db_bind_some, db_bd_some, nI_add, pk_mul, nI_toInt, db_m1_t, dz_cn, Int.ofNat_le, Int.ofNat_lt, decide_true, decide_false, db_ct, db_cf, not_true_eq_false, not_false_eq_true, db_g_674, hc, k2]
    by_cases e : (c (79 + r)).toInt < 0
    · simp [e]
    · by_cases e2 : c (79 + r) = q <;> simp [e, e2]
  unfold db_f319 db_ft db_op
  simp (disch := omega) only [db_lit, eq_self, db_pI_e, db_pL_e, db_bind_some, db_bd_some, nI_add, pk_mul, nI_toInt, db_m1_t, dz_cn, Int.ofNat_le, Int.ofNat_lt, decide_true, decide_false, db_ct, db_cf, not_true_eq_false, not_false_eq_true, db_g_674, hc, db_g_678, k3]
  by_cases e0 : c (19 + r) = s.1 678 i
  · by_cases e : (c (67 + r)).toInt < 0
    · simp [e0, e, Bool.and_assoc]
    · by_cases e2 : c (67 + r) = p <;> simp [e0, e, e2, Bool.and_assoc]
  · simp [e0]
end DBM2
theorem db_322 {s : db_S} {c : db_C} {p q : Int32} {a b : Nat} (hc : db_A s c) (hp : db_O p a) (ha : a ≤ 4) (hq : db_O q b) (hb : b ≤ 3) : db_f322 s p q = some (db_ow c p q) := by
  have k44 : ∀ x y : Bool, db_f322_b44 s (if x then nI 1 else nI 0) (if y then nI 1 else nI 0) = some (x != y) := by
    intro x y
    unfold db_f322_b44
    simp (disch := omega) only [db_lit, eq_self, db_pI_e, db_pL_e, db_bind_some, db_bd_some, nI_add, pk_mul, nI_toInt, db_m1_t, dz_cn, Int.ofNat_le, Int.ofNat_lt, decide_true, decide_false, db_ct, db_cf, not_true_eq_false, not_false_eq_true]
    cases x <;> cases y <;> rfl
  have k22 : ∀ x : Bool, db_f322_b22 s q (if x then nI 1 else nI 0) = some (x != (decide (0 ≤ q.toInt) && decide (c (16 + q.toNatClampNeg) = nI 1))) := by
    intro x
    unfold db_f322_b22 db_f322_b43
    have k0 := k44 x false
    have k1 := k44 x true
    simp only [if_true, Bool.false_eq_true, if_false] at k0 k1
    rcases hq with h | ⟨k, hk, h⟩
    · subst h
      simp (disch := omega) only [db_lit, eq_self, db_pI_e, db_pL_e, db_bind_some, db_bd_some, nI_add, pk_mul, nI_toInt, db_m1_t, dz_cn, Int.ofNat_le, Int.ofNat_lt, decide_true, decide_false, db_ct, db_cf, not_true_eq_false, not_false_eq_true, k0, k1]
      rw [show decide ((-1 : Int) < ((0 : Nat) : Int)) = true by decide, cond_true, show decide ((0 : Int) ≤ -1) = false by decide]
      rfl
    · subst h
      have h1 : ¬ k < 0 := by omega
      have h2 : (0 : Int) ≤ (k : Int) := by omega
      simp (disch := omega) only [db_lit, eq_self, db_pI_e, db_pL_e, db_bind_some, db_bd_some, nI_add, pk_mul, nI_toInt, db_m1_t, dz_cn, Int.ofNat_le, Int.ofNat_lt, decide_true, decide_false, db_ct, db_cf, not_true_eq_false, not_false_eq_true, k0, k1, h1, h2, db_g_674, hc, nI_clamp, Bool.true_and]
      by_cases e : c (16 + k) = nI 1 <;> simp [e]
  have k2 := k22 false
  have k3 := k22 true
  simp only [if_true, Bool.false_eq_true, if_false] at k2 k3
  unfold db_f322 db_f322_b21 db_ow
  rcases hp with h | ⟨k, hk, h⟩
  · subst h
    simp (disch := omega) only [db_lit, eq_self, db_pI_e, db_pL_e, db_bind_some, db_bd_some, nI_add, pk_mul, nI_toInt, db_m1_t, dz_cn, Int.ofNat_le, Int.ofNat_lt, decide_true, decide_false, db_ct, db_cf, not_true_eq_false, not_false_eq_true, k2, k3]
    rw [show decide ((-1 : Int) < ((0 : Nat) : Int)) = true by decide, cond_true, show decide ((0 : Int) ≤ -1) = false by decide]
    rfl
  · subst h
    have h1 : ¬ k < 0 := by omega
    have h2 : (0 : Int) ≤ (k : Int) := by omega
    simp (disch := omega) only [db_lit, eq_self, db_pI_e, db_pL_e, db_bind_some, db_bd_some, nI_add, pk_mul, nI_toInt, db_m1_t, dz_cn, Int.ofNat_le, Int.ofNat_lt, decide_true, decide_false, db_ct, db_cf, not_true_eq_false, not_false_eq_true, k2, k3, h1, h2, db_g_674, hc, nI_clamp, Bool.true_and]
    by_cases e : c (8 + k) = nI 1 <;> simp [e]
/-- a dream laid out -/
theorem db_317 {s : db_S} {c : db_C} {d : Nat} (hc : db_A s c) (hd : d < 8) (hL : db_K c (127 + d) 6) : dz_T (db_f317 s (nI d)) (fun s' => (∀ a, a ≠ 678 → a ≠ 669 → s'.1 a = s.1 a) ∧ (∀ j, j ≠ 29 → s'.1 669 j = s.1 669 j) ∧ s'.2 = s.2 ∧ s'.1 669 29 = nI (db_n c (127 + d)) ∧ ∀ k, k < db_n c (127 + d) → s'.1 678 k = db_dr c d k) := by
  unfold db_f317
  have h6 := hL.2
  simp (disch := omega) only [db_lit, eq_self, db_pI_e, db_pL_e, db_bind_some, db_bd_some, nI_add, pk_mul, nI_toInt, db_m1_t, dz_cn, Int.ofNat_le, Int.ofNat_lt, decide_true, decide_false, db_ct, db_cf, not_true_eq_false, not_false_eq_true, db_g_674, hc, hL.1]
  refine db_loop (L := fun n a k => db_f317_b15 n a (nI d) (nI k)) (N := db_n c (127 + d)) (fun k a => (∀ b, b ≠ 678 → b ≠ 669 → a.1 b = s.1 b) ∧ (∀ j, j ≠ 29 → a.1 669 j = s.1 669 j) ∧ a.2 = s.2 ∧ a.1 669 29 = nI (db_n c (127 + d)) ∧ ∀ i, i < k → a.1 678 i = db_dr c d i) ?_ ?_ (n := db_FU) (by unfold db_FU; omega) ⟨fun b h1 h2 => db_uI_n h2, fun j hj => db_uI_j hj, rfl, db_uI_1, lt_0⟩
  · rintro n a ⟨h1, h2, h3, h4, h5⟩
    show dz_T (db_f317_b15 (n + 1) a (nI d) (nI (db_n c (127 + d)))) _
    rw [db_f317_b15]
    simp (disch := omega) only [db_lit, eq_self, db_pI_e, db_pL_e, db_bind_some, db_bd_some, nI_add, pk_mul, nI_toInt, db_m1_t, dz_cn, Int.ofNat_le, Int.ofNat_lt, decide_true, decide_false, db_ct, db_cf, not_true_eq_false, not_false_eq_true, h4, Nat.le_refl, db_T_some]
    exact ⟨h1, h2, h3, trivial, h5⟩
  · rintro n k a hk ⟨h1, h2, h3, h4, h5⟩ hrec
    show dz_T (db_f317_b15 (n + 1) a (nI d) (nI k)) _
    rw [db_f317_b15]
    have h7 : ¬ db_n c (127 + d) ≤ k := by omega
    have e := h1 674 (by decide) (by decide)
    unfold db_f299
    simp (disch := omega) only [db_lit, eq_self, db_pI_e, db_pL_e, db_bind_some, db_bd_some, nI_add, pk_mul, nI_toInt, db_m1_t, dz_cn, Int.ofNat_le, Int.ofNat_lt, decide_true, decide_false, db_ct, db_cf, not_true_eq_false, not_false_eq_true, h4, h7, db_g_674, db_h_678, e, hc]
    refine hrec _ ⟨fun b q1 q2 => ?_, fun j hj => ?_, h3, ?_, lt_s (fun i hi => ?_) db_uI_1⟩
    · rw [db_uI_n q1]; exact h1 b q1 q2
    · rw [db_uI_n (by decide)]; exact h2 j hj
    · rw [db_uI_n (by decide)]; exact h4
    · rw [db_uI_j (by omega)]; exact h5 i hi
/-- a row read -/
theorem db_318 {s : db_S} {c : db_C} {p q : Int32} {n a b : Nat} (hc : db_A s c) (h29 : s.1 669 29 = nI n) (hn : n ≤ 8) (h30 : s.1 669 30 = db_fo c) (hR : db_K c 3 12) (hp : db_O p a) (ha : a ≤ 4) (hq : db_O q b) (hb : b ≤ 3) : dz_T (db_f318 s p q) (fun z => z.1 = db_re c (s.1 678) n p q ∧ db_F1 679 s z.2 ∧ ∀ i, i < n → z.2.1 679 i = db_o (db_co c (s.1 678) n p q i)) := by
  unfold db_f318
  have hR2 := hR.2
  refine db_loop (L := fun m (z : db_S × Int32) k => db_f318_b5 m z.1 p q z.2 (nI k)) (N := n) (fun k z => z.2 = db_su c (s.1 678) n p q k ∧ db_F1 679 s z.1 ∧ ∀ i, i < k → z.1.1 679 i = db_o (db_co c (s.1 678) n p q i)) ?_ ?_ (n := db_FU) (a := (s, nI 0)) (by unfold db_FU; omega) ⟨rfl, db_F1_r, lt_0⟩
  · rintro m ⟨s1, v⟩ ⟨h1, h2, h3⟩
    show dz_T (db_f318_b5 (m + 1) s1 p q v (nI n)) _
    dsimp only at h1 h2 h3
    rw [db_f318_b5]
    have e9 := h2.1 669 (by decide)
    have e4 := h2.1 674 (by decide)
    simp (disch := omega) only [db_lit, eq_self, db_pI_e, db_pL_e, db_bind_some, db_bd_some, nI_add, pk_mul, nI_toInt, db_m1_t, dz_cn, Int.ofNat_le, Int.ofNat_lt, decide_true, decide_false, db_ct, db_cf, not_true_eq_false, not_false_eq_true, e9, h29, Nat.le_refl, db_322 (db_A_e e4 hc) hp ha hq hb]
    unfold db_re
    cases ho : db_ow c p q
    · refine ⟨_, rfl, ?_, h2, h3⟩
      show v = _
      rw [h1]; rfl
    · refine ⟨_, rfl, ?_, h2, h3⟩
      show -v = _
      rw [h1]; rfl
  · rintro m k ⟨s1, v⟩ hk ⟨h1, h2, h3⟩ hrec
    dsimp only at h1 h2 h3
    show dz_T (db_f318_b5 (m + 1) s1 p q v (nI k)) _
    rw [db_f318_b5]
    have e9 := h2.1 669 (by decide)
    have e4 := h2.1 674 (by decide)
    have h7 : ¬ n ≤ k := by omega
    simp (disch := omega) only [db_lit, eq_self, db_pI_e, db_pL_e, db_bind_some, db_bd_some, nI_add, pk_mul, nI_toInt, db_m1_t, dz_cn, Int.ofNat_le, Int.ofNat_lt, decide_true, decide_false, db_ct, db_cf, not_true_eq_false, not_false_eq_true, e9, h29, h7, db_h_679]
    have h2' := db_F1_u (j := k) (x := -(nI 1)) h2
    have h3' : ∀ i, i < k → (db_uI s1 679 k (-(nI 1))).1 679 i = db_o (db_co c (s.1 678) n p q i) := fun i hi => by rw [db_uI_j (by omega)]; exact h3 i hi
    have hk0 : (db_uI s1 679 k (-(nI 1))).1 679 k = -(nI 1) := db_uI_1
    generalize db_uI s1 679 k (-(nI 1)) = s2 at h2' h3' hk0
    -- the end: the sum
    have hend : ∀ s3 : db_S, db_F1 679 s s3 → (∀ i, i < k → s3.1 679 i = db_o (db_co c (s.1 678) n p q i)) → s3.1 679 k = db_o (db_co c (s.1 678) n p q k) → dz_T (db_f318_b86 (db_f318_b5 m) s3 p q v (nI k)) (fun z => z.1 = db_re c (s.1 678) n p q ∧ db_F1 679 s z.2 ∧ ∀ i, i < n → z.2.1 679 i = db_o (db_co c (s.1 678) n p q i)) := by
      intro s3 f1 f2 f3
      unfold db_f318_b86 db_f318_b112
      have e4 := f1.1 674 (by decide)
      have hsu : db_su c (s.1 678) n p q (k + 1) = db_su c (s.1 678) n p q k + db_wq c (db_co c (s.1 678) n p q k) := rfl
      cases hco : db_co c (s.1 678) n p q k with
      | none =>
        rw [hco] at f3 hsu
        have f3' : s3.1 679 k = -(nI 1) := f3
        simp (disch := omega) only [db_lit, eq_self, db_pI_e, db_pL_e, db_bind_some, db_bd_some, nI_add, pk_mul, nI_toInt, db_m1_t, dz_cn, Int.ofNat_le, Int.ofNat_lt, decide_true, decide_false, db_ct, db_cf, not_true_eq_false, not_false_eq_true, db_g_679, f3']
        rw [show decide (((0 : Nat) : Int) ≤ -1) = false by decide, cond_false]
        refine hrec (s3, v + nI 0) ⟨?_, f1, lt_s f2 (by rw [f3, hco])⟩
        show v + nI 0 = _
        rw [hsu, h1]; rfl
      | some r =>
        rw [hco] at f3 hsu
        have f3' : s3.1 679 k = nI r := f3
        have hr := db_fst_lt hco
        have h0 : (0 : Nat) ≤ r := by omega
        simp (disch := omega) only [db_lit, eq_self, db_pI_e, db_pL_e, db_bind_some, db_bd_some, nI_add, pk_mul, nI_toInt, db_m1_t, dz_cn, Int.ofNat_le, Int.ofNat_lt, decide_true, decide_false, db_ct, db_cf, not_true_eq_false, not_false_eq_true, db_g_679, f3', h0, db_290 (db_A_e e4 hc) (show r < 12 by omega)]
        refine hrec (s3, v + db_wo c r) ⟨?_, f1, lt_s f2 (by rw [f3, hco])⟩
        show v + db_wo c r = _
        rw [hsu, h1]; rfl
    -- the search
    refine db_loop (L := fun l a j => db_f318_b25 (db_f318_b5 m) l a p q v (nI k) (nI j)) (N := db_n c 3) (fun j a => db_F1 679 s a ∧ (∀ i, i < k → a.1 679 i = db_o (db_co c (s.1 678) n p q i)) ∧ a.1 679 k = db_o (db_fst (fun r => bt (db_fo c) r && db_ft c (s.1 678) n p q r k) j)) ?_ ?_ (n := db_FU) (by unfold db_FU; omega) ⟨h2', h3', hk0⟩
    · rintro l a ⟨f1, f2, f3⟩
      show dz_T (db_f318_b25 (db_f318_b5 m) (l + 1) a p q v (nI k) (nI (db_n c 3))) _
      rw [db_f318_b25]
      have e4 := f1.1 674 (by decide)
      simp (disch := omega) only [db_lit, eq_self, db_pI_e, db_pL_e, db_bind_some, db_bd_some, nI_add, pk_mul, nI_toInt, db_m1_t, dz_cn, Int.ofNat_le, Int.ofNat_lt, decide_true, decide_false, db_ct, db_cf, not_true_eq_false, not_false_eq_true, db_g_674, hc, e4, hR.1, Nat.le_refl]
      exact hend a f1 f2 f3
    · rintro l j a hj ⟨f1, f2, f3⟩ hrec2
      show dz_T (db_f318_b25 (db_f318_b5 m) (l + 1) a p q v (nI k) (nI j)) _
      rw [db_f318_b25]
      have e4 := f1.1 674 (by decide)
      have e8 := f1.1 678 (by decide)
      have e9 := f1.1 669 (by decide)
      have h8 : ¬ db_n c 3 ≤ j := by omega
      have hft := db_319 (p := p) (q := q) (r := j) (db_A_e e4 hc) (by rw [e9]; exact h29) hn hk (by omega)
      rw [e8] at hft
      have hst : db_fst (fun r => bt (db_fo c) r && db_ft c (s.1 678) n p q r k) (j + 1) = (match db_fst (fun r => bt (db_fo c) r && db_ft c (s.1 678) n p q r k) j with | some k => some k | none => if (bt (db_fo c) j && db_ft c (s.1 678) n p q j k) = true then some j else none) := rfl
      cases hf : db_fst (fun r => bt (db_fo c) r && db_ft c (s.1 678) n p q r k) j with
      | some r =>
        rw [hf] at f3
        have f3' : a.1 679 k = nI r := f3
        have hr := db_fst_lt hf
        have h0 : (0 : Nat) ≤ r := by omega
        simp (disch := omega) only [db_lit, eq_self, db_pI_e, db_pL_e, db_bind_some, db_bd_some, nI_add, pk_mul, nI_toInt, db_m1_t, dz_cn, Int.ofNat_le, Int.ofNat_lt, decide_true, decide_false, db_ct, db_cf, not_true_eq_false, not_false_eq_true, db_g_674, hc, db_g_679, e4, hR.1, h8, f3', h0]
        refine hend a f1 f2 ?_
        rw [f3']
        have : db_co c (s.1 678) n p q k = some r := by
          have g := db_fst_some.mp hf
          exact db_fst_some.mpr ⟨by omega, g.2⟩
        rw [this]; rfl
      | none =>
        rw [hf] at f3 hst
        have f3' : a.1 679 k = -(nI 1) := f3
        simp (disch := omega) only [db_lit, eq_self, db_pI_e, db_pL_e, db_bind_some, db_bd_some, nI_add, pk_mul, nI_toInt, db_m1_t, dz_cn, Int.ofNat_le, Int.ofNat_lt, decide_true, decide_false, db_ct, db_cf, not_true_eq_false, not_false_eq_true, db_g_674, hc, db_g_679, e4, hR.1, h8, f3', e9, h30, db_287 (show j < 31 by omega), hft]
        rw [show decide (((0 : Nat) : Int) ≤ -1) = false by decide, cond_false]
        have hno : (bt (db_fo c) j && db_ft c (s.1 678) n p q j k) = false → dz_T (db_f318_b80 (db_f318_b5 m) (db_f318_b25 (db_f318_b5 m) l) a p q v (nI k) (nI j)) (fun z => z.1 = db_re c (s.1 678) n p q ∧ db_F1 679 s z.2 ∧ ∀ i, i < n → z.2.1 679 i = db_o (db_co c (s.1 678) n p q i)) := by
          intro hz
          unfold db_f318_b80
          simp (disch := omega) only [db_lit, eq_self, db_pI_e, db_pL_e, db_bind_some, db_bd_some, nI_add, pk_mul, nI_toInt, db_m1_t, dz_cn, Int.ofNat_le, Int.ofNat_lt, decide_true, decide_false, db_ct, db_cf, not_true_eq_false, not_false_eq_true]
          refine hrec2 a ⟨f1, f2, ?_⟩
          rw [f3', hst, hz]; rfl
        cases hb1 : bt (db_fo c) j
        · rw [cond_false]; exact hno (by rw [hb1]; rfl)
        · rw [cond_true]
          cases hb2 : db_ft c (s.1 678) n p q j k
          · rw [cond_false]; exact hno (by rw [hb1, hb2]; rfl)
          · rw [cond_true]
            unfold db_f318_b80
            simp (disch := omega) only [db_lit, eq_self, db_pI_e, db_pL_e, db_bind_some, db_bd_some, nI_add, pk_mul, nI_toInt, db_m1_t, dz_cn, Int.ofNat_le, Int.ofNat_lt, decide_true, decide_false, db_ct, db_cf, not_true_eq_false, not_false_eq_true, db_h_679]
            refine hrec2 (db_uI a 679 k (nI j)) ⟨db_F1_u f1, fun i hi => ?_, ?_⟩
            · rw [db_uI_j (by omega)]; exact f2 i hi
            · rw [db_uI_1, hst, hb1, hb2]; rfl
/-- only the row's own places count -/
theorem db_ft_row {c : db_C} {row row' : Nat → Int32} {n r i : Nat} {p q : Int32} (h : ∀ k, k < n → row k = row' k) (hi : i < n) : db_ft c row n p q r i = db_ft c row' n p q r i := by
  unfold db_ft
  have e1 : ∀ t, db_be row n i t = db_be row' n i t := by
    intro t
    unfold db_be
    have a1 : (decide (0 < i) && decide (row (i - 1) = t)) = (decide (0 < i) && decide (row' (i - 1) = t)) := by rw [h (i - 1) (by omega)]
    have a2 : (decide (i + 1 < n) && decide (row (i + 1) = t)) = (decide (i + 1 < n) && decide (row' (i + 1) = t)) := by
      by_cases hh : i + 1 < n
      · rw [h (i + 1) hh]
      · simp [hh]
    rw [a1, a2]
  have e2 : ∀ t, db_ir row n t = db_ir row' n t := fun t => db_ex_cong fun k hk => by rw [h k hk]
  rw [h i hi, e1, e2]
theorem db_co_row {c : db_C} {row row' : Nat → Int32} {n i : Nat} {p q : Int32} (h : ∀ k, k < n → row k = row' k) (hi : i < n) : db_co c row n p q i = db_co c row' n p q i := db_fst_cong fun r _ => by rw [db_ft_row h hi]
theorem db_su_row {c : db_C} {row row' : Nat → Int32} {n : Nat} {p q : Int32} (h : ∀ k, k < n → row k = row' k) : ∀ {i : Nat}, i ≤ n → db_su c row n p q i = db_su c row' n p q i
  | 0, _ => rfl
  | i + 1, hi => by
    show db_su c row n p q i + db_wq c (db_co c row n p q i) = db_su c row' n p q i + db_wq c (db_co c row' n p q i)
    rw [db_su_row h (by omega), db_co_row h (by omega)]
theorem db_re_row {c : db_C} {row row' : Nat → Int32} {n : Nat} {p q : Int32} (h : ∀ k, k < n → row k = row' k) : db_re c row n p q = db_re c row' n p q := by
  unfold db_re
  rw [db_su_row h (Nat.le_refl n)]
/-- a dream read -/
theorem db_316 {s : db_S} {c : db_C} {p q : Int32} {d U : Nat} (hc : db_A s c) (hO : db_Ok U c) (hd : d < db_n c 5) (hp : db_O p (db_n c 1)) (hq : db_O q (db_n c 2)) : dz_T (db_f316 s (nI d) p q) (fun z => z.1 = db_rq c d p q ∧ ((∀ a, a ≠ 669 → a ≠ 677 → a ≠ 678 → a ≠ 679 → z.2.1 a = s.1 a) ∧ (∀ j, j ≠ 29 → j ≠ 30 → z.2.1 669 j = s.1 669 j) ∧ z.2.2 = s.2) ∧ z.2.1 669 29 = nI (db_n c (127 + d)) ∧ ∀ i, i < db_n c (127 + d) → z.2.1 679 i = db_o (db_co c (db_dr c d) (db_n c (127 + d)) p q i)) := by
  unfold db_f316
  obtain ⟨⟨-, k1, k2, k3, k4, k5⟩, -, -, hD, -⟩ := hO
  have hd8 := k5.2
  have hL := (hD d hd).1.1
  refine db_T_gd (db_283 hc k4 k3) fun v s1 hv => ?_
  obtain ⟨hv, hF⟩ := hv
  dsimp only at hv
  subst hv
  simp (disch := omega) only [db_lit, eq_self, db_pI_e, db_pL_e, db_bind_some, db_bd_some, nI_add, pk_mul, nI_toInt, db_m1_t, dz_cn, Int.ofNat_le, Int.ofNat_lt, decide_true, decide_false, db_ct, db_cf, not_true_eq_false, not_false_eq_true]
  have e4 : (db_uI s1 669 30 (db_fo c)).1 674 = s.1 674 := by rw [db_uI_n (by decide), hF.1 674 (by decide)]
  have h317 := db_317 (d := d) (db_A_e e4 hc) (by omega) hL
  refine db_T_go h317 fun s2 hs => ?_
  obtain ⟨g1, g2, g3, g4, g5⟩ := hs
  have e42 : s2.1 674 = s.1 674 := by rw [g1 674 (by decide) (by decide), e4]
  have h30 : s2.1 669 30 = db_fo c := by rw [g2 30 (by decide), db_uI_1]
  have h318 := db_318 (db_A_e e42 hc) g4 (by have := hL.2; omega) h30 k3 hp k1.2 hq k2.2
  have hco : ∀ i, i < db_n c (127 + d) → db_co c (s2.1 678) (db_n c (127 + d)) p q i = db_co c (db_dr c d) (db_n c (127 + d)) p q i := fun i hi => db_co_row g5 hi
  refine db_T_gd h318 fun v s3 hv => ?_
  obtain ⟨q1, q2, q3⟩ := hv
  dsimp only at q1 q2 q3
  refine ⟨_, rfl, ?_, ⟨fun a a1 a2 a3 a4 => ?_, fun j j1 j2 => ?_, ?_⟩, ?_, fun i hi => ?_⟩
  · show v = _
    rw [q1]
    unfold db_rq
    exact db_re_row g5
  · show s3.1 a = _
    rw [q2.1 a a4, g1 a a3 a1, db_uI_n a1, hF.1 a a2]
  · show s3.1 669 j = _
    rw [q2.1 669 (by decide), g2 j j1, db_uI_j j2, hF.1 669 (by decide)]
  · show s3.2 = _
    rw [q2.2, g3, db_uI_2, hF.2]
  · show s3.1 669 29 = _
    rw [q2.1 669 (by decide), g4]
  · show s3.1 679 i = _
    rw [q3 i hi, hco i hi]
