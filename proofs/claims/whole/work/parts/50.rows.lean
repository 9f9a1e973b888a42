/-! ROWS OF THINGS, one behind another -/
def dz_up (g : Nat → Nat) (k v : Nat) : Nat → Nat := fun j => if j = k then v else g j
def db_nr (T : Nat) : (Nat → Nat) → Nat → (Nat → Nat)
  | g, 0 => g
  | g, k + 1 => if g k + 1 < T then dz_up g k (g k + 1) else db_nr T (dz_up g k 0) k
def db_nv (T : Nat) (g : Nat → Nat) : Nat → Bool
  | 0 => true
  | k + 1 => if g k + 1 < T then false else db_nv T g k
def db_vl (T : Nat) (g : Nat → Nat) : Nat → Nat
  | 0 => 0
  | k + 1 => db_vl T g k * T + g k
theorem dz_up_n {g : Nat → Nat} {k v j : Nat} (h : j ≠ k) : dz_up g k v j = g j := if_neg h
theorem dz_up_1 {g : Nat → Nat} {k v : Nat} : dz_up g k v k = v := if_pos rfl
theorem db_vl_up {T k v : Nat} {g : Nat → Nat} : ∀ {m : Nat}, m ≤ k → db_vl T (dz_up g k v) m = db_vl T g m
  | 0, _ => rfl
  | m + 1, h => by rw [db_vl, db_vl, db_vl_up (by omega), dz_up_n (by omega)]
theorem db_nv_up {T k v : Nat} {g : Nat → Nat} : ∀ {m : Nat}, m ≤ k → db_nv T (dz_up g k v) m = db_nv T g m
  | 0, _ => rfl
  | m + 1, h => by rw [db_nv, db_nv, db_nv_up (by omega), dz_up_n (by omega)]
theorem db_nr_ge {T : Nat} : ∀ {k j : Nat} {g : Nat → Nat}, k ≤ j → db_nr T g k j = g j
  | 0, _, _, _ => rfl
  | k + 1, j, g, h => by
    rw [db_nr]
    split
    · exact dz_up_n (by omega)
    · rw [db_nr_ge (by omega), dz_up_n (by omega)]
theorem db_nr_lt {T : Nat} (hT : 0 < T) : ∀ {k : Nat} {g : Nat → Nat}, (∀ j, g j < T) → ∀ j, db_nr T g k j < T
  | 0, _, h, j => h j
  | k + 1, g, h, j => by
    rw [db_nr]
    split
    · rename_i hk
      by_cases e : j = k
      · subst e; rw [dz_up_1]; exact hk
      · rw [dz_up_n e]; exact h j
    · refine db_nr_lt hT (fun j => ?_) j
      by_cases e : j = k
      · subst e; rw [dz_up_1]; exact hT
      · rw [dz_up_n e]; exact h j
theorem db_nr_vl {T : Nat} : ∀ {k : Nat} {g : Nat → Nat}, (∀ j, g j < T) → (db_nv T g k = false → db_vl T (db_nr T g k) k = db_vl T g k + 1) ∧ (db_nv T g k = true → db_vl T g k + 1 = T ^ k)
  | 0, g, h => ⟨fun h => (nomatch h), fun _ => rfl⟩
  | k + 1, g, h => by
    have hk := h k
    by_cases e : g k + 1 < T
    · have e1 : db_nv T g (k + 1) = false := if_pos e
      have e2 : db_nr T g (k + 1) = dz_up g k (g k + 1) := if_pos e
      refine ⟨fun _ => ?_, fun q => by rw [e1] at q; cases q⟩
      rw [e2, db_vl, db_vl, db_vl_up (Nat.le_refl k), dz_up_1]
      omega
    · have e1 : db_nv T g (k + 1) = db_nv T g k := if_neg e
      have e2 : db_nr T g (k + 1) = db_nr T (dz_up g k 0) k := if_neg e
      have hg : g k = T - 1 := by omega
      have h' : ∀ j, dz_up g k 0 j < T := fun j => by
        by_cases e : j = k
        · subst e; rw [dz_up_1]; omega
        · rw [dz_up_n e]; exact h j
      have ih := @db_nr_vl T k (dz_up g k 0) h'
      rw [db_nv_up (Nat.le_refl k), db_vl_up (Nat.le_refl k)] at ih
      refine ⟨fun q => ?_, fun q => ?_⟩
      · rw [e1] at q
        rw [e2, db_vl, db_vl, ih.1 q, db_nr_ge (Nat.le_refl k), dz_up_1, Nat.succ_mul]
        omega
      · rw [e1] at q
        have := ih.2 q
        rw [db_vl, Nat.pow_succ, ← this, Nat.succ_mul]
        omega
theorem db_vl_lt {T : Nat} {g : Nat → Nat} (h : ∀ j, g j < T) : ∀ k, db_vl T g k < T ^ k
  | 0 => Nat.one_pos
  | k + 1 => by
    have ih := db_vl_lt h k
    have := h k
    have h2 : (db_vl T g k + 1) * T ≤ T ^ k * T := Nat.mul_le_mul_right T ih
    rw [db_vl, Nat.pow_succ]
    rw [Nat.succ_mul] at h2
    omega
/-- the row of a number -/
def db_ri (T n : Nat) : Nat → Nat → Nat
  | 0 => fun _ => 0
  | i + 1 => db_nr T (db_ri T n i) n
theorem db_ri_lt {T n : Nat} (hT : 0 < T) : ∀ i j, db_ri T n i j < T
  | 0, _ => hT
  | i + 1, j => db_nr_lt hT (db_ri_lt hT i) j
theorem db_ri_0 {T n : Nat} : ∀ m, db_vl T (fun _ => 0) m = 0
  | 0 => rfl
  | m + 1 => by rw [db_vl, db_ri_0 (n := n) m]; omega
theorem db_ri_vl {T n : Nat} (hT : 0 < T) : ∀ i, i < T ^ n → db_vl T (db_ri T n i) n = i
  | 0, _ => db_ri_0 (n := n) n
  | i + 1, h => by
    have ih := db_ri_vl (n := n) hT i (by omega)
    have g := @db_nr_vl T n (db_ri T n i) (db_ri_lt hT i)
    cases hv : db_nv T (db_ri T n i) n with
    | false =>
      have := g.1 hv
      rw [ih] at this
      exact this
    | true =>
      have := g.2 hv
      omega
theorem db_ri_nv {T n i : Nat} (hT : 0 < T) (hi : i < T ^ n) : db_nv T (db_ri T n i) n = decide (i + 1 = T ^ n) := by
  have ih := db_ri_vl hT i hi
  have g := @db_nr_vl T n (db_ri T n i) (db_ri_lt hT i)
  cases hv : db_nv T (db_ri T n i) n with
  | false =>
    have := g.1 hv
    rw [ih] at this
    have h2 := db_vl_lt (db_nr_lt hT (db_ri_lt (n := n) hT i) (k := n)) n
    rw [this] at h2
    exact (decide_eq_false (by omega)).symm
  | true =>
    have := g.2 hv
    rw [ih] at this
    exact (decide_eq_true this).symm
theorem db_pow_b {T n : Nat} (hT : T ≤ 10) (hn : n ≤ 4) : T ^ n ≤ 10000 := by
  have h1 : T ^ n ≤ 10 ^ n := Nat.pow_le_pow_left hT n
  have h2 : 10 ^ n ≤ 10 ^ 4 := Nat.pow_le_pow_right (by decide) hn
  omega
theorem db_pm_d {k : Nat} : db_pm (k + 1) + -(nI 1) = db_pm k := by
  unfold db_pm
  rw [if_neg (show ¬ k + 1 = 0 by omega), show k + 1 - 1 = k by omega]
  by_cases h : k = 0
  · subst h; rw [if_pos rfl]; decide
  · rw [if_neg h]
    obtain ⟨j, rfl⟩ : ∃ j, k = j + 1 := ⟨k - 1, by omega⟩
    exact pk_m1 j
theorem db_pm_1 {k : Nat} : db_pm (k + 1) = nI k := by
  unfold db_pm
  rw [if_neg (by omega)]
  rfl
theorem db_pm_lt {i : Nat} (h : i < 100) : decide ((db_pm i).toInt < ((0 : Nat) : Int)) = decide (i = 0) := by
  rw [decide_eq_decide, db_pm_t h]
  omega
theorem db_pm_ge0 {i : Nat} (h : i < 100) : decide (((0 : Nat) : Int) ≤ (db_pm i).toInt) = !decide (i = 0) := by
  rw [← decide_not, decide_eq_decide, db_pm_t h]
  omega
/-- the row as the reader takes it -/
def db_rr (T n i : Nat) : Nat → Int32 := fun k => nI (db_ri T n i k)
section DBR1
variable {U : Nat} {s : db_S} {c : db_C} {w : Nat → Int64} {v x y z p q : Int32}
/-- the class's next row -/
theorem db_166 {T : Nat} (h0 : s.1 21 0 = nI T) (hT : T ≤ 10) : ∀ (k m : Nat) (g : Nat → Nat) (a : db_S), k ≤ 4 → k < m → db_F1 279 s a → (∀ j, j < 4 → a.1 279 j = nI (g j)) → (∀ j, g j < T) → ∃ z, db_f166_b4 m a (db_pm k) = some z ∧ db_F1 279 s z ∧ ∀ j, j < 4 → z.1 279 j = nI (db_nr T g k j)
  | 0, m, g, a, _, hm, hF, hg, _ => by
    obtain ⟨m, rfl⟩ : ∃ l, m = l + 1 := ⟨m - 1, by omega⟩
    refine ⟨a, ?_, hF, hg⟩
    rw [db_f166_b4]
    simp (disch := omega) only [db_lit, eq_self, db_pI_e, db_pL_e, db_bind_some, db_bd_some, nI_add, pk_mul, nI_toInt, db_m1_t, dz_cn, Int.ofNat_le, Int.ofNat_lt, decide_true, decide_false, db_ct, db_cf, not_true_eq_false, not_false_eq_true, db_87e, db_37e, db_31e, db_28e, db_281e, db_211e, db_27, db_269w, db_litL, pk_lT, db_iL, db_p0_e, db_p0_n, db_p0_j, db_sub1, nI_eq, if_true, if_false, Bool.false_eq_true, db_pm_lt]
  | k + 1, m, g, a, hk, hm, hF, hg, hl => by
    obtain ⟨m, rfl⟩ : ∃ l, m = l + 1 := ⟨m - 1, by omega⟩
    have e21 : a.1 21 0 = nI T := by rw [hF.1 21 (by decide)]; exact h0
    have hlk := hl k
    rw [db_f166_b4]
    have ek := hg k (by omega)
    have e4 : decide (k + 1 = 0) = false := decide_eq_false (by omega)
    by_cases e : g k + 1 < T
    · have e2 : ¬ T ≤ g k + 1 := by omega
      refine ⟨db_uI a 279 k (nI (g k + 1)), ?_, db_F1_u hF, fun j hj => ?_⟩
      · simp (disch := omega) only [db_lit, eq_self, db_pI_e, db_pL_e, db_bind_some, db_bd_some, nI_add, pk_mul, nI_toInt, db_m1_t, dz_cn, Int.ofNat_le, Int.ofNat_lt, decide_true, decide_false, db_ct, db_cf, not_true_eq_false, not_false_eq_true, db_87e, db_37e, db_31e, db_28e, db_281e, db_211e, db_27, db_269w, db_litL, pk_lT, db_iL, db_p0_e, db_p0_n, db_p0_j, db_sub1, nI_eq, if_true, if_false, Bool.false_eq_true, db_pm_lt, e4, db_pm_1, db_g_279, db_h_279, ek, db_g_21, e21, e2, (show ¬ k < 0 by omega)]
      · rw [db_nr, if_pos e]
        by_cases ej : j = k
        · subst ej; rw [db_uI_1, dz_up_1]
        · rw [db_uI_j ej, dz_up_n ej]; exact hg j hj
    · have e2 : T ≤ g k + 1 := by omega
      obtain ⟨z, z1, z2, z3⟩ := db_166 h0 hT k m (dz_up g k 0) (db_uI a 279 k (nI 0)) (by omega) (by omega) (db_F1_u hF) (fun j hj => by
        by_cases ej : j = k
        · subst ej; rw [db_uI_1, dz_up_1]
        · rw [db_uI_j ej, dz_up_n ej]; exact hg j hj) (fun j => by
        by_cases ej : j = k
        · subst ej; rw [dz_up_1]; omega
        · rw [dz_up_n ej]; exact hl j)
      refine ⟨z, ?_, z2, fun j hj => ?_⟩
      · simp (disch := omega) only [db_lit, eq_self, db_pI_e, db_pL_e, db_bind_some, db_bd_some, nI_add, pk_mul, nI_toInt, db_m1_t, dz_cn, Int.ofNat_le, Int.ofNat_lt, decide_true, decide_false, db_ct, db_cf, not_true_eq_false, not_false_eq_true, db_87e, db_37e, db_31e, db_28e, db_281e, db_211e, db_27, db_269w, db_litL, pk_lT, db_iL, db_p0_e, db_p0_n, db_p0_j, db_sub1, nI_eq, if_true, if_false, Bool.false_eq_true, db_pm_lt, e4]
        have hd : nI k + -(nI 1) = db_pm k := by rw [← db_pm_1, db_pm_d]
        simp (disch := omega) only [db_lit, eq_self, db_pI_e, db_pL_e, db_bind_some, db_bd_some, nI_add, pk_mul, nI_toInt, db_m1_t, dz_cn, Int.ofNat_le, Int.ofNat_lt, decide_true, decide_false, db_ct, db_cf, not_true_eq_false, not_false_eq_true, db_87e, db_37e, db_31e, db_28e, db_281e, db_211e, db_27, db_269w, db_litL, pk_lT, db_iL, db_p0_e, db_p0_n, db_p0_j, db_sub1, nI_eq, if_true, if_false, Bool.false_eq_true, db_pm_1, db_g_279, db_h_279, ek, db_g_21, e21, e2, hd]
        exact z1
      · rw [db_nr, if_neg e]
        exact z3 j hj
/-- the reference's -/
theorem db_350 {T N : Nat} (hN : N ≤ 4) (hc : db_A s c) (h0 : c 0 = nI T) (hT : T ≤ 10) : ∀ (k m : Nat) (g : Nat → Nat) (a : db_S), k ≤ N → k < m → db_F1 678 s a → (∀ j, j < N → a.1 678 j = nI (g j)) → (∀ j, g j < T) → ∃ z, db_f350_b7 m a (db_pm k) = some (!db_nv T g k, z) ∧ db_F1 678 s z ∧ ∀ j, j < N → z.1 678 j = nI (db_nr T g k j)
  | 0, m, g, a, _, hm, hF, hg, _ => by
    obtain ⟨m, rfl⟩ : ∃ l, m = l + 1 := ⟨m - 1, by omega⟩
    refine ⟨a, ?_, hF, hg⟩
    rw [db_f350_b7]
    unfold db_f350_b41
    simp (disch := omega) only [db_lit, eq_self, db_pI_e, db_pL_e, db_bind_some, db_bd_some, nI_add, pk_mul, nI_toInt, db_m1_t, dz_cn, Int.ofNat_le, Int.ofNat_lt, decide_true, decide_false, db_ct, db_cf, not_true_eq_false, not_false_eq_true, db_87e, db_37e, db_31e, db_28e, db_281e, db_211e, db_27, db_269w, db_litL, pk_lT, db_iL, db_p0_e, db_p0_n, db_p0_j, db_sub1, nI_eq, if_true, if_false, Bool.false_eq_true, db_pm_lt, db_pm_ge0]
    rfl
  | k + 1, m, g, a, hk, hm, hF, hg, hl => by
    obtain ⟨m, rfl⟩ : ∃ l, m = l + 1 := ⟨m - 1, by omega⟩
    have hA := db_A_e (hF.1 674 (by decide)) hc
    have hlk := hl k
    rw [db_f350_b7]
    unfold db_f350_b41
    have ek := hg k (by omega)
    have e4 : decide (k + 1 = 0) = false := decide_eq_false (by omega)
    by_cases e : g k + 1 < T
    · have e2 : ¬ g k = T - 1 := by omega
      have e0 : 0 ≤ k := by omega
      refine ⟨db_uI a 678 k (nI (g k + 1)), ?_, db_F1_u hF, fun j hj => ?_⟩
      · simp (disch := omega) only [db_lit, eq_self, db_pI_e, db_pL_e, db_bind_some, db_bd_some, nI_add, pk_mul, nI_toInt, db_m1_t, dz_cn, Int.ofNat_le, Int.ofNat_lt, decide_true, decide_false, db_ct, db_cf, not_true_eq_false, not_false_eq_true, db_87e, db_37e, db_31e, db_28e, db_281e, db_211e, db_27, db_269w, db_litL, pk_lT, db_iL, db_p0_e, db_p0_n, db_p0_j, db_sub1, nI_eq, if_true, if_false, Bool.false_eq_true, db_pm_lt, e4, db_pm_1, db_g_678, db_h_678, ek, db_g_674, hA, h0, pk_sub, e2, e0, (show ¬ k < 0 by omega)]
        rw [db_nv, if_pos e]
        rfl
      · rw [db_nr, if_pos e]
        by_cases ej : j = k
        · subst ej; rw [db_uI_1, dz_up_1]
        · rw [db_uI_j ej, dz_up_n ej]; exact hg j hj
    · have e2 : g k = T - 1 := by omega
      obtain ⟨z, z1, z2, z3⟩ := db_350 hN hc h0 hT k m (dz_up g k 0) (db_uI a 678 k (nI 0)) (by omega) (by omega) (db_F1_u hF) (fun j hj => by
        by_cases ej : j = k
        · subst ej; rw [db_uI_1, dz_up_1]
        · rw [db_uI_j ej, dz_up_n ej]; exact hg j hj) (fun j => by
        by_cases ej : j = k
        · subst ej; rw [dz_up_1]; omega
        · rw [dz_up_n ej]; exact hl j)
      rw [db_nv_up (Nat.le_refl k)] at z1
      refine ⟨z, ?_, z2, fun j hj => ?_⟩
      · rw [db_nv, if_neg e]
        simp (disch := omega) only [db_lit, eq_self, db_pI_e, db_pL_e, db_bind_some, db_bd_some, nI_add, pk_mul, nI_toInt, db_m1_t, dz_cn, Int.ofNat_le, Int.ofNat_lt, decide_true, decide_false, db_ct, db_cf, not_true_eq_false, not_false_eq_true, db_87e, db_37e, db_31e, db_28e, db_281e, db_211e, db_27, db_269w, db_litL, pk_lT, db_iL, db_p0_e, db_p0_n, db_p0_j, db_sub1, nI_eq, if_true, if_false, Bool.false_eq_true, db_pm_lt, e4]
        have hd : nI k + -(nI 1) = db_pm k := by rw [← db_pm_1, db_pm_d]
        simp (disch := omega) only [db_lit, eq_self, db_pI_e, db_pL_e, db_bind_some, db_bd_some, nI_add, pk_mul, nI_toInt, db_m1_t, dz_cn, Int.ofNat_le, Int.ofNat_lt, decide_true, decide_false, db_ct, db_cf, not_true_eq_false, not_false_eq_true, db_87e, db_37e, db_31e, db_28e, db_281e, db_211e, db_27, db_269w, db_litL, pk_lT, db_iL, db_p0_e, db_p0_n, db_p0_j, db_sub1, nI_eq, if_true, if_false, Bool.false_eq_true, db_pm_1, db_g_678, db_h_678, ek, db_g_674, hA, h0, pk_sub, e2, hd]
        exact z1
      · rw [db_nr, if_neg e]
        exact z3 j hj
/-- an array filled -/
theorem db_2 {a L : Nat} (hk : db_ka a = 1) (hl : db_la a = L) (hn : db_ln a = some (nI L)) (hL : L ≤ 1000) : dz_T (db_f2 s a v) (fun z => db_F1 a s z ∧ ∀ j, j < L → z.1 a j = v) := by
  unfold db_f2
  simp (disch := omega) only [db_lit, eq_self, db_pI_e, db_pL_e, db_bind_some, db_bd_some, nI_add, pk_mul, nI_toInt, db_m1_t, dz_cn, Int.ofNat_le, Int.ofNat_lt, decide_true, decide_false, db_ct, db_cf, not_true_eq_false, not_false_eq_true, hn]
  refine db_loop (L := fun n z k => db_f2_b5 n z a v (nI k) (nI L)) (N := L) (fun k z => db_F1 a s z ∧ ∀ j, j < k → z.1 a j = v) ?_ ?_ (n := db_FU) (by unfold db_FU; omega) ⟨db_F1_r, lt_0⟩
  · rintro n z ⟨h1, h2⟩
    show dz_T (db_f2_b5 (n + 1) z a v (nI L) (nI L)) _
    rw [db_f2_b5]
    simp (disch := omega) only [db_lit, eq_self, db_pI_e, db_pL_e, db_bind_some, db_bd_some, nI_add, pk_mul, nI_toInt, db_m1_t, dz_cn, Int.ofNat_le, Int.ofNat_lt, decide_true, decide_false, db_ct, db_cf, not_true_eq_false, not_false_eq_true, Nat.le_refl]
    exact db_T_some.mpr ⟨h1, h2⟩
  · rintro n k z hkL ⟨h1, h2⟩ hrec
    show dz_T (db_f2_b5 (n + 1) z a v (nI k) (nI L)) _
    rw [db_f2_b5]
    have h7 : ¬ L ≤ k := by omega
    have hw : db_wI z a (nI k) v = some (db_uI z a k v) := db_wI_n hk (by omega) (by omega)
    simp (disch := omega) only [db_lit, eq_self, db_pI_e, db_pL_e, db_bind_some, db_bd_some, nI_add, pk_mul, nI_toInt, db_m1_t, dz_cn, Int.ofNat_le, Int.ofNat_lt, decide_true, decide_false, db_ct, db_cf, not_true_eq_false, not_false_eq_true, h7, hw]
    refine hrec _ ⟨db_F1_u h1, lt_s (fun j hj => ?_) db_uI_1⟩
    rw [db_uI_j (by omega)]
    exact h2 j hj
/-- the class begins its rows -/
theorem db_164 {T n : Nat} (h0 : s.1 21 0 = nI T) (hT : T ≤ 10) (hn : n ≤ 4) : dz_T (db_f164 s (nI n)) (fun z => z.1 = nI (T ^ n) ∧ db_F1 279 s z.2 ∧ ∀ j, j < 4 → z.2.1 279 j = nI 0) := by
  unfold db_f164
  refine db_T_go (db_2 (L := 4) rfl rfl rfl (by omega)) fun s2 hs => ?_
  obtain ⟨h1, h2⟩ := hs
  have e21 : s2.1 21 0 = nI T := by rw [h1.1 21 (by decide)]; exact h0
  have key : db_f164_b12 db_FU s2 (nI n) (nI 1) (nI 0) = some (nI (T ^ n), s2) := by
    refine db_fold (L := fun m v k => db_f164_b12 m s2 (nI n) v (nI k)) (N := n) (fun k => nI (T ^ k)) (fun m => ?_) (fun m k hk => ?_) (by unfold db_FU; omega)
    · show db_f164_b12 (m + 1) s2 (nI n) _ (nI n) = _
      rw [db_f164_b12]
      simp (disch := omega) only [db_lit, eq_self, db_pI_e, db_pL_e, db_bind_some, db_bd_some, nI_add, pk_mul, nI_toInt, db_m1_t, dz_cn, Int.ofNat_le, Int.ofNat_lt, decide_true, decide_false, db_ct, db_cf, not_true_eq_false, not_false_eq_true, Nat.le_refl]
    · show db_f164_b12 (m + 1) s2 (nI n) (nI (T ^ k)) (nI k) = db_f164_b12 m s2 (nI n) (nI (T ^ (k + 1))) (nI (k + 1))
      rw [db_f164_b12]
      have h7 : ¬ n ≤ k := by omega
      simp (disch := omega) only [db_lit, eq_self, db_pI_e, db_pL_e, db_bind_some, db_bd_some, nI_add, pk_mul, nI_toInt, db_m1_t, dz_cn, Int.ofNat_le, Int.ofNat_lt, decide_true, decide_false, db_ct, db_cf, not_true_eq_false, not_false_eq_true, h7, db_g_21, e21]
      rw [Nat.pow_succ]
  exact ⟨_, key, rfl, h1, h2⟩
/-- the reference's first row -/
theorem db_348 {n : Nat} (hn : n ≤ 8) : dz_T (db_f348 s (nI n)) (fun z => (∀ a, a ≠ 669 → a ≠ 678 → z.1 a = s.1 a) ∧ (∀ j, j ≠ 29 → z.1 669 j = s.1 669 j) ∧ z.2 = s.2 ∧ z.1 669 29 = nI n ∧ ∀ j, j < n → z.1 678 j = nI 0) := by
  unfold db_f348
  simp (disch := omega) only [db_lit, eq_self, db_pI_e, db_pL_e, db_bind_some, db_bd_some, nI_add, pk_mul, nI_toInt, db_m1_t, dz_cn, Int.ofNat_le, Int.ofNat_lt, decide_true, decide_false, db_ct, db_cf, not_true_eq_false, not_false_eq_true]
  refine db_loop (L := fun m z k => db_f348_b7 m z (nI n) (nI k)) (N := n) (fun k z => (∀ a, a ≠ 669 → a ≠ 678 → z.1 a = s.1 a) ∧ (∀ j, j ≠ 29 → z.1 669 j = s.1 669 j) ∧ z.2 = s.2 ∧ z.1 669 29 = nI n ∧ ∀ j, j < k → z.1 678 j = nI 0) ?_ ?_ (n := db_FU) (by unfold db_FU; omega) ⟨fun a h1 _ => db_uI_n h1, fun j hj => db_uI_j hj, rfl, db_uI_1, lt_0⟩
  · rintro m z ⟨h1, h2, h3, h4, h5⟩
    show dz_T (db_f348_b7 (m + 1) z (nI n) (nI n)) _
    rw [db_f348_b7]
    simp (disch := omega) only [db_lit, eq_self, db_pI_e, db_pL_e, db_bind_some, db_bd_some, nI_add, pk_mul, nI_toInt, db_m1_t, dz_cn, Int.ofNat_le, Int.ofNat_lt, decide_true, decide_false, db_ct, db_cf, not_true_eq_false, not_false_eq_true, Nat.le_refl]
    exact db_T_some.mpr ⟨h1, h2, h3, h4, h5⟩
  · rintro m k z hk ⟨h1, h2, h3, h4, h5⟩ hrec
    show dz_T (db_f348_b7 (m + 1) z (nI n) (nI k)) _
    rw [db_f348_b7]
    have h7 : ¬ n ≤ k := by omega
    simp (disch := omega) only [db_lit, eq_self, db_pI_e, db_pL_e, db_bind_some, db_bd_some, nI_add, pk_mul, nI_toInt, db_m1_t, dz_cn, Int.ofNat_le, Int.ofNat_lt, decide_true, decide_false, db_ct, db_cf, not_true_eq_false, not_false_eq_true, h7, db_h_678]
    refine hrec _ ⟨fun a a1 a2 => ?_, fun j hj => ?_, h3, ?_, lt_s (fun j hj => ?_) db_uI_1⟩
    · rw [db_uI_n a2]; exact h1 a a1 a2
    · rw [db_uI_n (by decide)]; exact h2 j hj
    · rw [db_uI_n (by decide)]; exact h4
    · rw [db_uI_j (by omega)]; exact h5 j hj
/-- the class reads its row -/
theorem db_130r (hR : db_BR 20 s c w) (hO : db_Ok U c) (hU : U ≤ 1000000000) {n : Nat} {g : Nat → Nat} (hn : n ≤ 4) (hg : ∀ j, j < 4 → s.1 279 j = nI (g j)) (hl : ∀ j, g j < db_n c 0) : dz_T (db_f130 s 279 (nI n) (db_of c p q)) (fun z => z.1 = db_su c (fun k => nI (g k)) n p q n ∧ db_F1 273 s z.2) := by
  refine db_T_mono (db_130 (p := p) (q := q) (a := 279) (n := n) (g := g) hR hO hU rfl (by show n ≤ 4; exact hn) (by show (4 : Nat) < 2 ^ 31; decide) (by decide) (by omega) fun k hk => ⟨hg k (by omega), hl k⟩) fun z hz => ⟨?_, hz.2.1⟩
  rw [hz.1]
  exact db_su_row (fun k hk => hg k (by omega)) (Nat.le_refl n)
/-- what is looked for, unsigned or turned -/
theorem db_wanted {row : Nat → Int32} {n : Nat} : decide (db_su c row n p q n = (if db_ow c p q then -(nI 1) else nI 1) * v) = decide (db_re c row n p q = v) := by
  rw [decide_eq_decide]
  unfold db_re
  cases db_ow c p q
  · show _ = nI 1 * v ↔ db_su c row n p q n = v
    rw [show nI 1 * v = v from Int32.one_mul v]
  · show _ = -(nI 1) * v ↔ -(db_su c row n p q n) = v
    rw [Int32.neg_mul, show nI 1 * v = v from Int32.one_mul v]
    constructor
    · intro h; rw [h, Int32.neg_neg]
    · intro h; rw [← h, Int32.neg_neg]
/-- the rows with a property -/
def db_pr1 (c : db_C) (n : Nat) (p q v : Int32) (i : Nat) : Bool := decide (db_re c (db_rr (db_n c 0) n i) n p q = v)
/-- the reference's state between two rows -/
def db_Rw (c : db_C) (s0 s : db_S) (n : Nat) (g : Nat → Nat) : Prop := db_Em s0 s ∧ db_A s c ∧ s.1 669 29 = nI n ∧ s.1 669 30 = db_fo c ∧ ∀ j, j < n → s.1 678 j = nI (g j)
theorem db_Rw_read {s0 : db_S} {n : Nat} {g : Nat → Nat} (hO : db_Ok U c) (hn : n ≤ 4) (h : db_Rw c s0 s n g) (hp : db_O p (db_n c 1)) (hq : db_O q (db_n c 2)) : dz_T (db_f318 s p q) (fun z => z.1 = db_re c (fun k => nI (g k)) n p q ∧ db_Rw c s0 z.2 n g) := by
  obtain ⟨h1, h2, h3, h4, h5⟩ := h
  refine db_T_mono (db_318 h2 h3 (by omega) h4 hO.1.2.2.2.1 hp hO.1.2.1.2 hq hO.1.2.2.1.2) fun z hz => ?_
  obtain ⟨z1, z2, -⟩ := hz
  refine ⟨?_, db_Em_t h1 (db_F1_Em z2 (fun j => by unfold db_em; omega)), db_A_e (z2.1 674 (by decide)) h2, ?_, ?_, fun j hj => ?_⟩
  · rw [z1]; exact db_re_row (fun k hk => h5 k (by omega))
  · rw [z2.1 669 (by decide)]; exact h3
  · rw [z2.1 669 (by decide)]; exact h4
  · rw [z2.1 678 (by decide)]; exact h5 j hj
theorem db_Rw_next {s0 : db_S} {n T : Nat} {g : Nat → Nat} (h0 : c 0 = nI T) (hT : T ≤ 10) (hn1 : 1 ≤ n) (hn : n ≤ 4) (h : db_Rw c s0 s n g) (hl : ∀ j, g j < T) : ∃ z, db_f350 s = some (!db_nv T g n, z) ∧ db_Rw c s0 z n (db_nr T g n) := by
  obtain ⟨h1, h2, h3, h4, h5⟩ := h
  obtain ⟨z, z1, z2, z3⟩ := db_350 hn h2 h0 hT n db_FU g s (Nat.le_refl n) (by unfold db_FU; omega) db_F1_r h5 hl
  refine ⟨z, ?_, db_Em_t h1 (db_F1_Em z2 (fun j => by unfold db_em; omega)), db_A_e (z2.1 674 (by decide)) h2, ?_, ?_, z3⟩
  · unfold db_f350
    rw [h3, show nI n - 1 = db_pm n by
      obtain ⟨k, rfl⟩ : ∃ k, n = k + 1 := ⟨n - 1, by omega⟩
      rw [db_pm_1]
      exact pk_sub (by omega)]
    exact z1
  · rw [z2.1 669 (by decide)]; exact h3
  · rw [z2.1 669 (by decide)]; exact h4
/-- the class's state between two rows -/
def db_Rk (c : db_C) (w : Nat → Int64) (s0 s : db_S) (g : Nat → Nat) : Prop := db_Ec s0 s ∧ db_BR 20 s c w ∧ ∀ j, j < 4 → s.1 279 j = nI (g j)
theorem db_Rk_next {s0 : db_S} {n : Nat} {g : Nat → Nat} (hO : db_Ok U c) (hn1 : 1 ≤ n) (hn : n ≤ 4) (h : db_Rk c w s0 s g) (hl : ∀ j, g j < db_n c 0) : ∃ z, db_f166 s (nI n) = some z ∧ db_Rk c w s0 z (db_nr (db_n c 0) g n) ∧ db_F1 279 s z := by
  obtain ⟨h1, h2, h3⟩ := h
  have k0 := hO.1.1
  obtain ⟨z, z1, z2, z3⟩ := db_166 (s := s) (T := db_n c 0) (by rw [db_21 h2 (by omega)]; exact k0.1) k0.2 n db_FU g s hn (by unfold db_FU; omega) db_F1_r h3 hl
  refine ⟨z, ?_, ⟨db_Ec_t h1 (db_F1_Ec z2 (fun j => by unfold db_ec; omega)), db_BR_F1 hO (by omega) z2 h2, z3⟩, z2⟩
  unfold db_f166
  rw [show nI n - 1 = db_pm n by
    obtain ⟨k, rfl⟩ : ∃ k, n = k + 1 := ⟨n - 1, by omega⟩
    rw [db_pm_1]
    exact pk_sub (by omega)]
  exact z1
theorem db_Rk_read {s0 : db_S} {n : Nat} {g : Nat → Nat} (hO : db_Ok U c) (hU : U ≤ 1000000000) (hn : n ≤ 4) (h : db_Rk c w s0 s g) (hl : ∀ j, g j < db_n c 0) : dz_T (db_f130 s 279 (nI n) (db_of c p q)) (fun z => z.1 = db_su c (fun k => nI (g k)) n p q n ∧ db_Rk c w s0 z.2 g ∧ db_F1 273 s z.2) := by
  obtain ⟨h1, h2, h3⟩ := h
  refine db_T_mono (db_130r (p := p) (q := q) h2 hO hU hn h3 hl) fun z hz => ⟨hz.1, ⟨db_Ec_t h1 (db_F1_Ec hz.2 (fun j => by unfold db_ec; omega)), db_BR_F1 hO (by omega) hz.2 h2, fun j hj => ?_⟩, hz.2⟩
  rw [hz.2.1 279 (by decide)]
  exact h3 j hj
theorem db_i0 {b : Bool} : decide (db_i b = nI 0) = !b := by cases b <;> decide
theorem db_m999 : (-(nI 999)).toInt = -999 := by decide
theorem db_m999L : (-(lN 999)).toInt = -999 := by decide
/-- how many rows -/
theorem db_k41 (hI : db_Inv U s) (hU : U ≤ 1000000000) : dz_G U s (fun s => db_f167 s x v p q) (fun s => db_f351 s x v p q) := by
  obtain ⟨hO, hR, -⟩ := db_cur hI
  have k0 := hO.1.1
  have j0 := k0.2
  generalize hcc : db_bk s 0 = c at *
  generalize hww : db_bw s 0 = w at *
  have kk3 := db_Ok_K hO (show 3 < 6 by omega)
  have kk4 := db_Ok_K hO (show 4 < 6 by omega)
  cases h : (db_im p (db_n c 1) && db_im q (db_n c 2)) with
  | false =>
    refine db_Gn 2 hI ?_ fun s1 hS hA => ?_
    · unfold db_f167
      simp (disch := omega) only [db_lit, eq_self, db_pI_e, db_pL_e, db_bind_some, db_bd_some, nI_add, pk_mul, nI_toInt, db_m1_t, dz_cn, Int.ofNat_le, Int.ofNat_lt, decide_true, decide_false, db_ct, db_cf, not_true_eq_false, not_false_eq_true, db_87e, db_37e, db_31e, db_28e, db_281e, db_211e, db_27, db_269w, db_litL, pk_lT, db_iL, db_p0_e, db_p0_n, db_p0_j, db_sub1, nI_eq, if_true, if_false, Bool.false_eq_true, db_126 hR hO, h]
    · rw [hcc] at hA
      unfold db_f351
      simp (disch := omega) only [db_lit, eq_self, db_pI_e, db_pL_e, db_bind_some, db_bd_some, nI_add, pk_mul, nI_toInt, db_m1_t, dz_cn, Int.ofNat_le, Int.ofNat_lt, decide_true, decide_false, db_ct, db_cf, not_true_eq_false, not_false_eq_true, db_87e, db_37e, db_31e, db_28e, db_281e, db_211e, db_27, db_269w, db_litL, pk_lT, db_iL, db_p0_e, db_p0_n, db_p0_j, db_sub1, nI_eq, if_true, if_false, Bool.false_eq_true, db_315 (db_p0_A hA) hO.1.2.1 hO.1.2.2.1, h]
  | true =>
    have h' := h
    simp only [Bool.and_eq_true] at h'
    have hp := db_im_t h'.1
    have hq := db_im_t h'.2
    cases h1 : (db_wi x ((1 : Nat) : Int) ((4 : Nat) : Int) && db_wi v (-999) ((999 : Nat) : Int)) with
    | false =>
      refine db_Gn 5 hI ?_ fun s1 hS hA => ?_
      · unfold db_f167 db_f167_b32 db_f162
        simp (disch := omega) only [db_lit, eq_self, db_pI_e, db_pL_e, db_bind_some, db_bd_some, nI_add, pk_mul, nI_toInt, db_m1_t, dz_cn, Int.ofNat_le, Int.ofNat_lt, decide_true, decide_false, db_ct, db_cf, not_true_eq_false, not_false_eq_true, db_87e, db_37e, db_31e, db_28e, db_281e, db_211e, db_27, db_269w, db_litL, pk_lT, db_iL, db_p0_e, db_p0_n, db_p0_j, db_sub1, nI_eq, if_true, if_false, Bool.false_eq_true, db_126 hR hO, h, db_m999]
        cases hx : db_wi x ((1 : Nat) : Int) ((4 : Nat) : Int) with
        | false => rfl
        | true =>
          rw [hx, Bool.true_and] at h1
          rw [h1]; rfl
      · rw [hcc] at hA
        unfold db_f351 db_f351_b52
        simp (disch := omega) only [db_lit, eq_self, db_pI_e, db_pL_e, db_bind_some, db_bd_some, nI_add, pk_mul, nI_toInt, db_m1_t, dz_cn, Int.ofNat_le, Int.ofNat_lt, decide_true, decide_false, db_ct, db_cf, not_true_eq_false, not_false_eq_true, db_87e, db_37e, db_31e, db_28e, db_281e, db_211e, db_27, db_269w, db_litL, pk_lT, db_iL, db_p0_e, db_p0_n, db_p0_j, db_sub1, nI_eq, if_true, if_false, Bool.false_eq_true, db_315 (db_p0_A hA) hO.1.2.1 hO.1.2.2.1, h, db_m999L]
        cases hx : db_wi x ((1 : Nat) : Int) ((4 : Nat) : Int) with
        | false => rfl
        | true =>
          rw [hx, Bool.true_and] at h1
          rw [h1]; rfl
    | true =>
      have h1' := h1
      simp only [Bool.and_eq_true] at h1'
      obtain ⟨hx, hv⟩ := h1'
      obtain ⟨n, hn5, hn1, rfl⟩ := db_wi_t (by decide) (by decide) hx
      have hn1 : 1 ≤ n := by omega
      have hn4 : n ≤ 4 := by omega
      have hpb := db_pow_b j0 hn4
      have hct := fb_ct_le (db_pr1 c n p q v) (db_n c 0 ^ n)
      refine db_Gq (nI (fb_ct (db_pr1 c n p q v) (db_n c 0 ^ n))) (nI 0) hI ?_ fun s1 hS hA => ?_
      · unfold db_f167 db_f162
        simp (disch := omega) only [db_lit, eq_self, db_pI_e, db_pL_e, db_bind_some, db_bd_some, nI_add, pk_mul, nI_toInt, db_m1_t, dz_cn, Int.ofNat_le, Int.ofNat_lt, decide_true, decide_false, db_ct, db_cf, not_true_eq_false, not_false_eq_true, db_87e, db_37e, db_31e, db_28e, db_281e, db_211e, db_27, db_269w, db_litL, pk_lT, db_iL, db_p0_e, db_p0_n, db_p0_j, db_sub1, nI_eq, if_true, if_false, Bool.false_eq_true, db_126 hR hO, h, db_m999, hx, hv]
        have hcl : dz_T (db_f168 s (nI n) v p q) (fun z => z.1 = nI (fb_ct (db_pr1 c n p q v) (db_n c 0 ^ n)) ∧ db_Ec s z.2) := by
          unfold db_f168
          simp (disch := omega) only [db_lit, eq_self, db_pI_e, db_pL_e, db_bind_some, db_bd_some, nI_add, pk_mul, nI_toInt, db_m1_t, dz_cn, Int.ofNat_le, Int.ofNat_lt, decide_true, decide_false, db_ct, db_cf, not_true_eq_false, not_false_eq_true, db_87e, db_37e, db_31e, db_28e, db_281e, db_211e, db_27, db_269w, db_litL, pk_lT, db_iL, db_p0_e, db_p0_n, db_p0_j, db_sub1, nI_eq, if_true, if_false, Bool.false_eq_true, db_129 hR hO, db_128 hR hO hp hq]
          refine db_T_gd (db_164 (s := s) (T := db_n c 0) (by rw [db_21 hR (by omega)]; exact k0.1) j0 hn4) fun r s2 hr => ?_
          obtain ⟨r1, r2, r3⟩ := hr
          dsimp only at r1 r2 r3
          subst r1
          have hRk : db_Rk c w s s2 (db_ri (db_n c 0) n 0) := ⟨db_F1_Ec r2 (fun j => by unfold db_ec; omega), db_BR_F1 hO (by omega) r2 hR, r3⟩
          refine db_loop (L := fun m (a : db_S × Int32) i => db_f168_b39 m a.1 (nI n) (db_of c p q) ((if db_ow c p q then -(nI 1) else nI 1) * v) (nI (db_n c 0 ^ n)) a.2 (nI i)) (N := db_n c 0 ^ n) (fun i a => a.2 = nI (fb_ct (db_pr1 c n p q v) i) ∧ db_Rk c w s a.1 (db_ri (db_n c 0) n i)) ?_ ?_ (n := db_FU) (a := (s2, nI 0)) (by unfold db_FU; omega) ⟨rfl, hRk⟩
          · rintro m ⟨a, u⟩ ⟨g1, g2⟩
            dsimp only at g1 g2
            show dz_T (db_f168_b39 (m + 1) a (nI n) (db_of c p q) ((if db_ow c p q then -(nI 1) else nI 1) * v) (nI (db_n c 0 ^ n)) u (nI (db_n c 0 ^ n))) _
            rw [db_f168_b39]
            simp (disch := omega) only [db_lit, eq_self, db_pI_e, db_pL_e, db_bind_some, db_bd_some, nI_add, pk_mul, nI_toInt, db_m1_t, dz_cn, Int.ofNat_le, Int.ofNat_lt, decide_true, decide_false, db_ct, db_cf, not_true_eq_false, not_false_eq_true, db_87e, db_37e, db_31e, db_28e, db_281e, db_211e, db_27, db_269w, db_litL, pk_lT, db_iL, db_p0_e, db_p0_n, db_p0_j, db_sub1, nI_eq, if_true, if_false, Bool.false_eq_true, Nat.le_refl]
            exact ⟨_, rfl, g1, g2.1⟩
          · rintro m i ⟨a, u⟩ hi ⟨g1, g2⟩ hrec
            dsimp only at g1 g2
            show dz_T (db_f168_b39 (m + 1) a (nI n) (db_of c p q) ((if db_ow c p q then -(nI 1) else nI 1) * v) (nI (db_n c 0 ^ n)) u (nI i)) _
            rw [db_f168_b39]
            have h7 : ¬ db_n c 0 ^ n ≤ i := by omega
            have hT0 : 0 < db_n c 0 := by
              rcases Nat.eq_zero_or_pos (db_n c 0) with e | e
              · rw [e, Nat.zero_pow hn1] at hi; omega
              · exact e
            have hlt := db_ri_lt (n := n) hT0 i
            simp (disch := omega) only [db_lit, eq_self, db_pI_e, db_pL_e, db_bind_some, db_bd_some, nI_add, pk_mul, nI_toInt, db_m1_t, dz_cn, Int.ofNat_le, Int.ofNat_lt, decide_true, decide_false, db_ct, db_cf, not_true_eq_false, not_false_eq_true, db_87e, db_37e, db_31e, db_28e, db_281e, db_211e, db_27, db_269w, db_litL, pk_lT, db_iL, db_p0_e, db_p0_n, db_p0_j, db_sub1, nI_eq, if_true, if_false, Bool.false_eq_true, h7]
            refine db_T_gd (db_Rk_read (p := p) (q := q) hO hU hn4 g2 hlt) fun r a2 hr => ?_
            obtain ⟨t1, t2, -⟩ := hr
            dsimp only at t1 t2
            subst t1
            obtain ⟨a3, e3, t3, -⟩ := db_Rk_next hO hn1 hn4 t2 hlt
            unfold db_f168_b68
            simp (disch := omega) only [db_lit, eq_self, db_pI_e, db_pL_e, db_bind_some, db_bd_some, nI_add, pk_mul, nI_toInt, db_m1_t, dz_cn, Int.ofNat_le, Int.ofNat_lt, decide_true, decide_false, db_ct, db_cf, not_true_eq_false, not_false_eq_true, db_87e, db_37e, db_31e, db_28e, db_281e, db_211e, db_27, db_269w, db_litL, pk_lT, db_iL, db_p0_e, db_p0_n, db_p0_j, db_sub1, nI_eq, if_true, if_false, Bool.false_eq_true, e3, g1]
            have hstep : fb_ct (db_pr1 c n p q v) (i + 1) = fb_ct (db_pr1 c n p q v) i + (if db_pr1 c n p q v i then 1 else 0) := fb_ct_succ _ i
            have hw : decide (db_su c (fun k => nI (db_ri (db_n c 0) n i k)) n p q n = (if db_ow c p q then -(nI 1) else nI 1) * v) = db_pr1 c n p q v i := db_wanted
            cases hpr : db_pr1 c n p q v i with
            | true =>
              rw [hpr] at hw hstep
              rw [decide_eq_false (fun g => g (of_decide_eq_true hw)), db_cf]
              exact hrec (a3, nI (fb_ct (db_pr1 c n p q v) i + 1)) ⟨by rw [hstep]; rfl, t3⟩
            | false =>
              rw [hpr] at hw hstep
              rw [decide_eq_true (of_decide_eq_false hw), db_ct]
              exact hrec (a3, nI (fb_ct (db_pr1 c n p q v) i)) ⟨by rw [hstep]; rfl, t3⟩
        refine db_T_gd hcl fun r a hr => ?_
        exact ⟨_, rfl, hr.1, db_Sc_u hr.2⟩
      · rw [hcc] at hA
        unfold db_f351 db_f351_b88
        simp (disch := omega) only [db_lit, eq_self, db_pI_e, db_pL_e, db_bind_some, db_bd_some, nI_add, pk_mul, nI_toInt, db_m1_t, dz_cn, Int.ofNat_le, Int.ofNat_lt, decide_true, decide_false, db_ct, db_cf, not_true_eq_false, not_false_eq_true, db_87e, db_37e, db_31e, db_28e, db_281e, db_211e, db_27, db_269w, db_litL, pk_lT, db_iL, db_p0_e, db_p0_n, db_p0_j, db_sub1, nI_eq, if_true, if_false, Bool.false_eq_true, db_315 (db_p0_A hA) hO.1.2.1 hO.1.2.2.1, h, db_m999L, hx, hv]
        refine db_T_gd (db_283 (db_p0_A hA) kk4 kk3) fun r s2 hr => ?_
        obtain ⟨r1, r2⟩ := hr
        dsimp only at r1 r2
        subst r1
        have hE2 : db_Em (db_p0 s1) (db_uI s2 669 30 (db_fo c)) := db_Em_uI (db_F1_Em r2 (fun j => by unfold db_em; omega)) (by unfold db_em; omega)
        have hA2 : db_A (db_uI s2 669 30 (db_fo c)) c := db_A_e (by rw [db_uI_n (by decide)]; exact r2.1 674 (by decide)) (db_p0_A hA)
        have e30 : (db_uI s2 669 30 (db_fo c)).1 669 30 = db_fo c := db_uI_1
        generalize db_uI s2 669 30 (db_fo c) = s3 at hE2 hA2 e30
        refine db_T_go (db_348 (s := s3) (n := n) (by omega)) fun s4 hs4 => ?_
        obtain ⟨t1, t2, t3, t4, t5⟩ := hs4
        have hA4 : db_A s4 c := db_A_e (t1 674 (by decide) (by decide)) hA2
        have hE4 : db_Em (db_p0 s1) s4 := db_Em_t hE2 fun a j ha => by
          refine ⟨?_, by rw [t3]⟩
          unfold db_em at ha
          by_cases e : a = 669
          · subst e; exact t2 j (by omega)
          · rw [t1 a e (by omega)]
        simp (disch := omega) only [db_lit, eq_self, db_pI_e, db_pL_e, db_bind_some, db_bd_some, nI_add, pk_mul, nI_toInt, db_m1_t, dz_cn, Int.ofNat_le, Int.ofNat_lt, decide_true, decide_false, db_ct, db_cf, not_true_eq_false, not_false_eq_true, db_87e, db_37e, db_31e, db_28e, db_281e, db_211e, db_27, db_269w, db_litL, pk_lT, db_iL, db_p0_e, db_p0_n, db_p0_j, db_sub1, nI_eq, if_true, if_false, Bool.false_eq_true, db_g_674, hA4, k0.1]
        by_cases hT0 : db_n c 0 = 0
        · -- no things
          rw [decide_eq_true (show db_n c 0 ≤ 0 by omega), db_ct]
          unfold db_FU
          rw [show (1000000 : Nat) = 999999 + 1 from rfl, db_f351_b90]
          simp (disch := omega) only [db_lit, eq_self, db_pI_e, db_pL_e, db_bind_some, db_bd_some, nI_add, pk_mul, nI_toInt, db_m1_t, dz_cn, Int.ofNat_le, Int.ofNat_lt, decide_true, decide_false, db_ct, db_cf, not_true_eq_false, not_false_eq_true, db_87e, db_37e, db_31e, db_28e, db_281e, db_211e, db_27, db_269w, db_litL, pk_lT, db_iL, db_p0_e, db_p0_n, db_p0_j, db_sub1, nI_eq, if_true, if_false, Bool.false_eq_true]
          refine ⟨_, rfl, ?_, db_Sm_0 hE4⟩
          rw [hT0, Nat.zero_pow hn1]
          rfl
        · have hT0 : 0 < db_n c 0 := by omega
          rw [decide_eq_false (show ¬ db_n c 0 ≤ 0 by omega), db_cf]
          have hpos : 0 < db_n c 0 ^ n := Nat.pow_pos hT0
          have e1 : nI 1 = db_i (decide (0 < db_n c 0 ^ n)) := by rw [decide_eq_true hpos]; rfl
          rw [e1]
          have hRw : db_Rw c (db_p0 s1) s4 n (db_ri (db_n c 0) n 0) := ⟨hE4, hA4, t4, by rw [t2 30 (by decide)]; exact e30, fun j hj => t5 j hj⟩
          refine db_loop (L := fun m (a : db_S × Int32) i => db_f351_b90 m a.1 v p q a.2 (db_i (decide (i < db_n c 0 ^ n)))) (N := db_n c 0 ^ n) (fun i a => a.2 = nI (fb_ct (db_pr1 c n p q v) i) ∧ db_Rw c (db_p0 s1) a.1 n (db_ri (db_n c 0) n i)) ?_ ?_ (n := db_FU) (a := (s4, nI 0)) (by unfold db_FU; omega) ⟨rfl, hRw⟩
          · rintro m ⟨a, u⟩ ⟨g1, g2⟩
            dsimp only at g1 g2
            show dz_T (db_f351_b90 (m + 1) a v p q u (db_i (decide (db_n c 0 ^ n < db_n c 0 ^ n)))) _
            rw [db_f351_b90]
            simp (disch := omega) only [db_lit, eq_self, db_pI_e, db_pL_e, db_bind_some, db_bd_some, nI_add, pk_mul, nI_toInt, db_m1_t, dz_cn, Int.ofNat_le, Int.ofNat_lt, decide_true, decide_false, db_ct, db_cf, not_true_eq_false, not_false_eq_true, db_87e, db_37e, db_31e, db_28e, db_281e, db_211e, db_27, db_269w, db_litL, pk_lT, db_iL, db_p0_e, db_p0_n, db_p0_j, db_sub1, nI_eq, if_true, if_false, Bool.false_eq_true, db_i0, Nat.lt_irrefl, Bool.not_false]
            exact ⟨_, rfl, g1, db_Sm_0 g2.1⟩
          · rintro m i ⟨a, u⟩ hi ⟨g1, g2⟩ hrec
            dsimp only at g1 g2
            show dz_T (db_f351_b90 (m + 1) a v p q u (db_i (decide (i < db_n c 0 ^ n)))) _
            rw [db_f351_b90]
            simp (disch := omega) only [db_lit, eq_self, db_pI_e, db_pL_e, db_bind_some, db_bd_some, nI_add, pk_mul, nI_toInt, db_m1_t, dz_cn, Int.ofNat_le, Int.ofNat_lt, decide_true, decide_false, db_ct, db_cf, not_true_eq_false, not_false_eq_true, db_87e, db_37e, db_31e, db_28e, db_281e, db_211e, db_27, db_269w, db_litL, pk_lT, db_iL, db_p0_e, db_p0_n, db_p0_j, db_sub1, nI_eq, if_true, if_false, Bool.false_eq_true, db_i0, hi, Bool.not_true]
            have hlt := db_ri_lt (n := n) hT0 i
            refine db_T_gd (db_Rw_read hO hn4 g2 hp hq) fun r a2 hr => ?_
            obtain ⟨x1, x2⟩ := hr
            dsimp only at x1 x2
            subst x1
            obtain ⟨a3, y1, y2⟩ := db_Rw_next k0.1 j0 hn1 hn4 x2 hlt
            have hnv : (!db_nv (db_n c 0) (db_ri (db_n c 0) n i) n) = decide (i + 1 < db_n c 0 ^ n) := by
              rw [db_ri_nv hT0 hi, ← decide_not, decide_eq_decide]
              omega
            rw [hnv] at y1
            unfold db_f351_b113
            simp (disch := omega) only [db_lit, eq_self, db_pI_e, db_pL_e, db_bind_some, db_bd_some, nI_add, pk_mul, nI_toInt, db_m1_t, dz_cn, Int.ofNat_le, Int.ofNat_lt, decide_true, decide_false, db_ct, db_cf, not_true_eq_false, not_false_eq_true, db_87e, db_37e, db_31e, db_28e, db_281e, db_211e, db_27, db_269w, db_litL, pk_lT, db_iL, db_p0_e, db_p0_n, db_p0_j, db_sub1, nI_eq, if_true, if_false, Bool.false_eq_true, y1, g1]
            have hstep : fb_ct (db_pr1 c n p q v) (i + 1) = fb_ct (db_pr1 c n p q v) i + (if db_pr1 c n p q v i then 1 else 0) := fb_ct_succ _ i
            have hw : decide (db_re c (fun k => nI (db_ri (db_n c 0) n i k)) n p q = v) = db_pr1 c n p q v i := rfl
            cases hpr : db_pr1 c n p q v i with
            | true =>
              rw [hpr] at hw hstep
              rw [decide_eq_false (fun g => g (of_decide_eq_true hw)), db_cf]
              exact hrec (a3, nI (fb_ct (db_pr1 c n p q v) i + 1)) ⟨by rw [hstep]; rfl, y2⟩
            | false =>
              rw [hpr] at hw hstep
              rw [decide_eq_true (of_decide_eq_false hw), db_ct]
              exact hrec (a3, nI (fb_ct (db_pr1 c n p q v) i + 0)) ⟨by rw [hstep]; rfl, y2⟩
end DBR1
