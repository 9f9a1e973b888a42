/-! THE CLASS'S READING. db_BR o: the class's book at the cells from o on (told, life, plan) is the block c, its names w -/
def db_fr (q : Nat) : Nat := if q = 0 then 0 else if q = 1 then 10 else if q = 2 then 14 else if q = 3 then 17 else 29
/-- a name of a sort, told ahead -/
def db_nm (c : db_C) (w : Nat → Int64) (x : Int64) (q : Nat) : Option Nat := db_fst (fun k => decide (w (db_fr q + k) = x)) (db_n c q)
def db_nc (L : Nat → Int64) (S N : Nat → Int32) (m : Nat) (x : Int64) (q : Nat) : Int32 := match db_fst (fun i => decide (L i = x) && decide (S i = nI q)) m with
  | some i => N i
  | none => -(nI 1)
def db_BR (o : Nat) (s : db_S) (c : db_C) (w : Nat → Int64) : Prop :=
  (∀ k, k < 6 → s.1 (o + 1) k = c k) ∧
  (∀ p, p < db_n c 1 → s.1 (o + 2) p = c (8 + p)) ∧
  (∀ q, q < db_n c 2 → s.1 (o + 3) q = c (16 + q)) ∧
  (∀ r, r < db_n c 3 → s.1 (o + 5 + r) 0 = c (19 + r) ∧ s.1 (o + 5 + r) 1 = c (31 + r) ∧ s.1 (o + 5 + r) 2 = c (43 + r) ∧ s.1 (o + 5 + r) 3 = c (55 + r) ∧ s.1 (o + 5 + r) 4 = c (67 + r) ∧ s.1 (o + 5 + r) 5 = c (79 + r)) ∧
  (∀ k, k < db_n c 4 → s.1 (o + 18 + k) 0 = c (103 + k) ∧ s.1 (o + 18 + k) 1 = c (115 + k)) ∧
  (∀ d, d < db_n c 5 → s.1 (o + 39) d = c (127 + d) ∧ s.1 (o + 40) d = c (135 + d) ∧ s.1 (o + 41) d = c (143 + d) ∧ ∀ k, k < db_n c (127 + d) → s.1 (o + 31 + d) k = c (151 + 6 * d + k)) ∧
  (∀ r, r < db_n c 3 → s.1 (o + 42) r = db_mk (fun b => db_hit c r b) (db_n c 3) ∧ s.1 (o + 43) r = db_mk (fun a => db_hit c a r) (db_n c 3)) ∧
  (s.1 o 13 = db_mk (fun r => decide (db_st c r = 0)) (db_n c 3) ∧ s.1 o 14 = db_mk (fun r => decide (db_st c r = 1)) (db_n c 3)) ∧
  (∀ t, t < db_n c 0 → s.1 (o + 55) t = nI (fb_ct (fun r => decide (c (19 + r) = nI t)) (db_n c 3)) ∧ ∀ r, r < db_n c 3 → c (19 + r) = nI t → s.1 (o + 45 + t) (fb_ct (fun r => decide (c (19 + r) = nI t)) r) = nI r) ∧
  (∃ m, m ≤ 37 ∧ s.1 o 18 = nI m ∧ ∀ x q, q < 6 → q ≠ 4 → db_nc (s.2 (o + 56)) (s.1 (o + 57)) (s.1 (o + 58)) m x q = db_o (db_nm c w x q)) ∧
  (∀ r, r < db_n c 3 → s.1 (o + 61) r = c (91 + r)) ∧ (∀ p, p < db_n c 1 → s.1 (o + 62) p = c (12 + p)) ∧ s.1 (o + 60) 2 = c 7 ∧ s.1 (o + 60) 3 = c 6
section DBC1
variable {s : db_S} {c : db_C} {w : Nat → Int64} {U : Nat} {x y : Int32}
theorem db_21 (h : db_BR 20 s c w) {k : Nat} (hk : k < 6) : s.1 21 k = c k := h.1 k hk
theorem db_22 (h : db_BR 20 s c w) {k : Nat} (hk : k < db_n c 1) : s.1 22 k = c (8 + k) := h.2.1 k hk
theorem db_23 (h : db_BR 20 s c w) {k : Nat} (hk : k < db_n c 2) : s.1 23 k = c (16 + k) := h.2.2.1 k hk
theorem db_25 (h : db_BR 20 s c w) {r : Nat} (hr : r < db_n c 3) : s.1 (25 + r) 0 = c (19 + r) ∧ s.1 (25 + r) 1 = c (31 + r) ∧ s.1 (25 + r) 2 = c (43 + r) ∧ s.1 (25 + r) 3 = c (55 + r) ∧ s.1 (25 + r) 4 = c (67 + r) ∧ s.1 (25 + r) 5 = c (79 + r) := h.2.2.2.1 r hr
theorem db_38 (h : db_BR 20 s c w) {k : Nat} (hk : k < db_n c 4) : s.1 (38 + k) 0 = c (103 + k) ∧ s.1 (38 + k) 1 = c (115 + k) := h.2.2.2.2.1 k hk
theorem db_59 (h : db_BR 20 s c w) {d : Nat} (hd : d < db_n c 5) : s.1 59 d = c (127 + d) ∧ s.1 60 d = c (135 + d) ∧ s.1 61 d = c (143 + d) ∧ ∀ k, k < db_n c (127 + d) → s.1 (51 + d) k = c (151 + 6 * d + k) := h.2.2.2.2.2.1 d hd
theorem db_62 (h : db_BR 20 s c w) {r : Nat} (hr : r < db_n c 3) : s.1 62 r = db_mk (fun b => db_hit c r b) (db_n c 3) ∧ s.1 63 r = db_mk (fun a => db_hit c a r) (db_n c 3) := h.2.2.2.2.2.2.1 r hr
theorem db_2013 (h : db_BR 20 s c w) : s.1 20 13 = db_mk (fun r => decide (db_st c r = 0)) (db_n c 3) ∧ s.1 20 14 = db_mk (fun r => decide (db_st c r = 1)) (db_n c 3) := h.2.2.2.2.2.2.2.1
theorem db_75 (h : db_BR 20 s c w) {t : Nat} (ht : t < db_n c 0) : s.1 75 t = nI (fb_ct (fun r => decide (c (19 + r) = nI t)) (db_n c 3)) ∧ ∀ r, r < db_n c 3 → c (19 + r) = nI t → s.1 (65 + t) (fb_ct (fun r => decide (c (19 + r) = nI t)) r) = nI r := h.2.2.2.2.2.2.2.2.1 t ht
theorem db_81 (h : db_BR 20 s c w) {r : Nat} (hr : r < db_n c 3) : s.1 81 r = c (91 + r) := h.2.2.2.2.2.2.2.2.2.2.1 r hr
theorem db_82 (h : db_BR 20 s c w) {p : Nat} (hp : p < db_n c 1) : s.1 82 p = c (12 + p) := h.2.2.2.2.2.2.2.2.2.2.2.1 p hp
theorem db_802 (h : db_BR 20 s c w) : s.1 80 2 = c 7 ∧ s.1 80 3 = c 6 := h.2.2.2.2.2.2.2.2.2.2.2.2
theorem db_Ok_K (h : db_Ok U c) {k : Nat} (hk : k < 6) : db_K c k 12 := by
  obtain ⟨⟨k0, k1, k2, k3, k4, k5⟩, -⟩ := h
  have j0 := k0.2
  have j1 := k1.2
  have j2 := k2.2
  have j5 := k5.2
  rcases (by omega : k = 0 ∨ k = 1 ∨ k = 2 ∨ k = 3 ∨ k = 4 ∨ k = 5) with rfl | rfl | rfl | rfl | rfl | rfl
  · exact ⟨k0.1, by omega⟩
  · exact ⟨k1.1, by omega⟩
  · exact ⟨k2.1, by omega⟩
  · exact k3
  · exact k4
  · exact ⟨k5.1, by omega⟩
theorem db_103 (h : db_BR 20 s c w) (hO : db_Ok U c) {k : Nat} (hk : k < 6) : db_f103 s (nI k) x = some (db_is x (db_n c k)) := by
  unfold db_f103 db_is
  have hK := db_Ok_K hO hk
  have h2 := hK.2
  by_cases h0 : x.toInt < ((0 : Nat) : Int)
  · simp (disch := omega) only [db_lit, eq_self, db_pI_e, db_pL_e, db_bind_some, db_bd_some, nI_add, pk_mul, nI_toInt, db_m1_t, dz_cn, Int.ofNat_le, Int.ofNat_lt, decide_true, decide_false, db_ct, db_cf, not_true_eq_false, not_false_eq_true, h0]
    rw [show decide ((0 : Int) ≤ x.toInt) = false from decide_eq_false (by omega)]
    rfl
  · simp (disch := omega) only [db_lit, eq_self, db_pI_e, db_pL_e, db_bind_some, db_bd_some, nI_add, pk_mul, nI_toInt, db_m1_t, dz_cn, Int.ofNat_le, Int.ofNat_lt, decide_true, decide_false, db_ct, db_cf, not_true_eq_false, not_false_eq_true, h0, db_g_21, db_21 h hk, hK.1]
    rw [show decide ((0 : Int) ≤ x.toInt) = true from decide_eq_true (by omega), Bool.true_and]
    by_cases h1 : x.toInt < (db_n c k : Int)
    · have h3 : ¬ ((db_n c k : Int) ≤ x.toInt) := by omega
      simp only [h1, h3, decide_true, decide_false, cond_false]
    · have h3 : ((db_n c k : Int) ≤ x.toInt) := by omega
      simp only [h1, h3, decide_true, decide_false, cond_true]
theorem db_im_or {n : Nat} : db_im x n = (decide (x = -(nI 1)) || db_is x n) := by
  unfold db_im db_is
  have e : x = -(nI 1) ↔ x.toInt = -1 := by rw [fa_eq, db_m1_t]
  by_cases h : x.toInt = -1
  · simp [e, h]; omega
  · have h3 : (-1 ≤ x.toInt) ↔ (0 ≤ x.toInt) := by omega
    simp [e, h, h3]
theorem db_126 (h : db_BR 20 s c w) (hO : db_Ok U c) : db_f126 s x y = some (db_im x (db_n c 1) && db_im y (db_n c 2)) := by
  unfold db_f126 db_f126_b14
  rw [db_im_or, db_im_or]
  simp (disch := omega) only [db_lit, eq_self, db_pI_e, db_pL_e, db_bind_some, db_bd_some, nI_add, pk_mul, nI_toInt, db_m1_t, dz_cn, Int.ofNat_le, Int.ofNat_lt, decide_true, decide_false, db_ct, db_cf, not_true_eq_false, not_false_eq_true, db_103 h hO]
  by_cases e1 : x = -(nI 1) <;> by_cases e2 : y = -(nI 1) <;> cases db_is x (db_n c 1) <;> cases db_is y (db_n c 2) <;> simp [e1, e2]
theorem db_125 (h : db_BR 20 s c w) (hO : db_Ok U c) {z : Int32} : db_f125 s z x y = some (db_is z (db_n c 5) && (db_im x (db_n c 1) && db_im y (db_n c 2))) := by
  unfold db_f125
  simp (disch := omega) only [db_lit, eq_self, db_pI_e, db_pL_e, db_bind_some, db_bd_some, nI_add, pk_mul, nI_toInt, db_m1_t, dz_cn, Int.ofNat_le, Int.ofNat_lt, decide_true, decide_false, db_ct, db_cf, not_true_eq_false, not_false_eq_true, db_103 h hO, db_126 h hO]
  cases db_is z (db_n c 5) <;> cases db_im x (db_n c 1) <;> cases db_im y (db_n c 2) <;> rfl
theorem db_woL {a b : Int32} (h1 : -99 ≤ a.toInt) (h2 : a.toInt ≤ 99) (h3 : 0 ≤ b.toInt) (h4 : b.toInt ≤ 1000000000) : (cond (decide (a.toInt ≤ 0)) (cond (decide ((-a).toInt ≤ b.toInt)) (some (nI 0)) (some (a + b))) (cond (decide (a.toInt ≤ b.toInt)) (some (nI 0)) (some (a - b)))) = some (if 0 ≤ a.toInt then (if nI 0 < a - b then a - b else nI 0) else (if a + b < nI 0 then a + b else nI 0)) := by
  have e1 : (-a).toInt = -a.toInt := fb_negI (by omega)
  have e2 : (a + b).toInt = a.toInt + b.toInt := fb_addI (by omega) (by omega)
  have e3 : (a - b).toInt = a.toInt - b.toInt := fb_subI (by omega) (by omega)
  have e0 : (nI 0).toInt = 0 := by decide
  simp only [fa_lt, e1, e2, e3, e0]
  by_cases c1 : a.toInt ≤ 0
  · by_cases c2 : 0 ≤ a.toInt
    · have c3 : -a.toInt ≤ b.toInt := by omega
      have c4 : ¬ (0 < a.toInt - b.toInt) := by omega
      simp [c1, c2, c3, c4]
      intro hh; omega
    · by_cases c3 : -a.toInt ≤ b.toInt
      · have c4 : ¬ (a.toInt + b.toInt < 0) := by omega
        simp [c1, c2, c3, c4]
      · have c4 : (a.toInt + b.toInt < 0) := by omega
        simp [c1, c2, c3, c4]
  · have c2 : 0 ≤ a.toInt := by omega
    by_cases c3 : a.toInt ≤ b.toInt
    · have c4 : ¬ (0 < a.toInt - b.toInt) := by omega
      simp [c1, c2, c3, c4]
      intro hh; omega
    · have c4 : (0 < a.toInt - b.toInt) := by omega
      simp [c1, c2, c3, c4]
theorem db_104 (h : db_BR 20 s c w) (hO : db_Ok U c) (hU : U ≤ 1000000000) {r : Nat} (hr : r < db_n c 3) : db_f104 s (nI r) = some (db_wo c r) := by
  have hK := db_Ok_K hO (show 3 < 6 by omega)
  have h2 := hK.2
  obtain ⟨-, hR, -⟩ := hO
  obtain ⟨-, ⟨m1, m2⟩, -, -, -, -, u1, u2⟩ := hR r hr
  obtain ⟨q0, q1, -⟩ := db_25 h hr
  unfold db_f104 db_wo
  simp (disch := omega) only [db_lit, eq_self, db_pI_e, db_pL_e, db_bind_some, db_bd_some, nI_add, pk_mul, nI_toInt, db_m1_t, dz_cn, Int.ofNat_le, Int.ofNat_lt, decide_true, decide_false, db_ct, db_cf, not_true_eq_false, not_false_eq_true, db_q_24, db_g_25, db_g_81, q1, db_81 h hr]
  exact db_woL m1 m2 u1 (by omega)
theorem db_101 (h : db_BR 20 s c w) (hO : db_Ok U c) : db_f101 s = some (db_fo c) := by
  have hK := db_Ok_K hO (show 3 < 6 by omega)
  have h2 := hK.2
  obtain ⟨-, -, -, -, -, -, ⟨f, hf⟩, -⟩ := hO
  unfold db_f101
  rw [(db_2013 h).1, (db_802 h).1]
  congr 1
  refine db_mk_eq (by omega) fun i hi => ?_
  rw [b_and, b_xor, b_m1 i hi, db_mk_bt (by omega) hi]
  cases decide (i < db_n c 3) <;> cases decide (db_st c i = 0) <;> cases bt (c 7) i <;> rfl
/-- the rules open -/
def db_of (c : db_C) (p q : Int32) : Int32 := db_mk (fun r => db_op c r p q && bt (db_fo c) r) (db_n c 3)
theorem db_O_neg {n : Nat} (hn : n < 2 ^ 31) (h : db_O x n) : decide (x.toInt < 0) = decide (x = -(nI 1)) := by
  rw [decide_eq_decide, fa_eq, db_m1_t]
  rcases h with h | ⟨k, hk, h⟩
  · rw [h, db_m1_t]; omega
  · rw [h, nI_toInt (by omega)]; omega
theorem db_129 (h : db_BR 20 s c w) (hO : db_Ok U c) : db_f129 s x y = some (db_of c x y) := by
  have hK := db_Ok_K hO (show 3 < 6 by omega)
  have hK1 := db_Ok_K hO (show 1 < 6 by omega)
  have hK2 := db_Ok_K hO (show 2 < 6 by omega)
  have h2 := hK.2
  have h12 := hK1.2
  have h22 := hK2.2
  unfold db_f129
  rw [db_101 h hO, db_bind_some]
  have hR := hO.2.1
  refine db_fold (L := fun n v k => db_f129_b11 s n x y (db_fo c) v (nI k)) (N := db_n c 3) (db_mk (fun r => db_op c r x y && bt (db_fo c) r)) (fun n => ?_) (fun n k hk => ?_) (n := db_FU) (by unfold db_FU; omega)
  · show db_f129_b11 s (n + 1) x y (db_fo c) _ (nI (db_n c 3)) = _
    rw [db_f129_b11]
    simp (disch := omega) only [db_lit, eq_self, db_pI_e, db_pL_e, db_bind_some, db_bd_some, nI_add, pk_mul, nI_toInt, db_m1_t, dz_cn, Int.ofNat_le, Int.ofNat_lt, decide_true, decide_false, db_ct, db_cf, not_true_eq_false, not_false_eq_true, db_g_21, db_21 h, hK.1, Nat.le_refl]
    rfl
  · show db_f129_b11 s (n + 1) x y (db_fo c) _ (nI k) = db_f129_b11 s n x y (db_fo c) _ (nI (k + 1))
    rw [db_f129_b11]
    have h3 : ¬ db_n c 3 ≤ k := by omega
    obtain ⟨-, -, -, -, o1, o2, -⟩ := hR k hk
    obtain ⟨-, -, -, -, q4, q5⟩ := db_25 h hk
    simp (disch := omega) only [db_lit, eq_self, db_pI_e, db_pL_e, db_bind_some, db_bd_some, nI_add, pk_mul, nI_toInt, db_m1_t, dz_cn, Int.ofNat_le, Int.ofNat_lt, decide_true, decide_false, db_ct, db_cf, not_true_eq_false, not_false_eq_true, db_g_21, db_21 h, hK.1, h3, db_q_24, db_g_25, q4, q5, db_f129_b53, db_f129_b69, db_f129_b73, db_f129_b74, db_f129_b99, db_112 (show k < 31 by omega)]
    have h5 : db_mk (fun r => db_op c r x y && bt (db_fo c) r) (k + 1) = db_mk (fun r => db_op c r x y && bt (db_fo c) r) k ||| (if (db_op c k x y && bt (db_fo c) k) = true then db_b1 k else nI 0) := rfl
    rw [h5]
    have hor : ∀ z : Int32, z ||| nI 0 = z := fun z => b_ext fun i hi => by rw [b_or, show nI 0 = (0 : Int32) from rfl, b_0, Bool.or_false]
    have h01 : decide (nI 1 = nI 0) = false := by decide
    unfold db_op
    rw [db_O_neg (by omega) o1, db_O_neg (by omega) o2, h01]
    by_cases e1 : c (67 + k) = -(nI 1) <;> by_cases e2 : c (67 + k) = x <;> by_cases e3 : c (79 + k) = -(nI 1) <;> by_cases e4 : c (79 + k) = y <;> cases bt (db_fo c) k <;> simp [e1, e2, e3, e4, hor] <;> rfl
theorem db_128 (h : db_BR 20 s c w) (hO : db_Ok U c) (hp : db_O x (db_n c 1)) (hq : db_O y (db_n c 2)) : db_f128 s x y = some (if db_ow c x y then -(nI 1) else nI 1) := by
  have hK1 := hO.1.2.1.2
  have hK2 := hO.1.2.2.1.2
  have k47 : ∀ a b : Bool, db_f128_b47 s (if a then nI 1 else nI 0) (if b then nI 1 else nI 0) = some (if (a != b) then -(nI 1) else nI 1) := by
    intro a b
    unfold db_f128_b47
    simp (disch := omega) only [db_lit, eq_self, db_pI_e, db_pL_e, db_bind_some, db_bd_some, nI_add, pk_mul, nI_toInt, db_m1_t, dz_cn, Int.ofNat_le, Int.ofNat_lt, decide_true, decide_false, db_ct, db_cf, not_true_eq_false, not_false_eq_true]
    cases a <;> cases b <;> rfl
  have k22 : ∀ a : Bool, db_f128_b23 s y (if a then nI 1 else nI 0) = some (if (a != (decide (0 ≤ y.toInt) && decide (c (16 + y.toNatClampNeg) = nI 1))) then -(nI 1) else nI 1) := by
    intro a
    unfold db_f128_b23 db_f128_b46
    have k0 := k47 a false
    have k1 := k47 a true
    simp only [if_true, Bool.false_eq_true, if_false] at k0 k1
    rcases hq with e | ⟨k, hk, e⟩
    · subst e
      simp (disch := omega) only [db_lit, eq_self, db_pI_e, db_pL_e, db_bind_some, db_bd_some, nI_add, pk_mul, nI_toInt, db_m1_t, dz_cn, Int.ofNat_le, Int.ofNat_lt, decide_true, decide_false, db_ct, db_cf, not_true_eq_false, not_false_eq_true, k0, k1]
      rw [show decide ((0 : Int) ≤ -1) = false by decide]
      rfl
    · subst e
      have h2 : (0 : Int) ≤ (k : Int) := by omega
      simp (disch := omega) only [db_lit, eq_self, db_pI_e, db_pL_e, db_bind_some, db_bd_some, nI_add, pk_mul, nI_toInt, db_m1_t, dz_cn, Int.ofNat_le, Int.ofNat_lt, decide_true, decide_false, db_ct, db_cf, not_true_eq_false, not_false_eq_true, k0, k1, db_m1_ne, h2, db_g_23, db_23 h hk, nI_clamp, Bool.true_and]
      by_cases e : c (16 + k) = nI 1 <;> simp [e]
  have k2 := k22 false
  have k3 := k22 true
  simp only [if_true, Bool.false_eq_true, if_false] at k2 k3
  unfold db_f128 db_f128_b22 db_ow
  rcases hp with e | ⟨k, hk, e⟩
  · subst e
    simp (disch := omega) only [db_lit, eq_self, db_pI_e, db_pL_e, db_bind_some, db_bd_some, nI_add, pk_mul, nI_toInt, db_m1_t, dz_cn, Int.ofNat_le, Int.ofNat_lt, decide_true, decide_false, db_ct, db_cf, not_true_eq_false, not_false_eq_true, k2, k3]
    rw [show decide ((0 : Int) ≤ -1) = false by decide]
    rfl
  · subst e
    have h2 : (0 : Int) ≤ (k : Int) := by omega
    simp (disch := omega) only [db_lit, eq_self, db_pI_e, db_pL_e, db_bind_some, db_bd_some, nI_add, pk_mul, nI_toInt, db_m1_t, dz_cn, Int.ofNat_le, Int.ofNat_lt, decide_true, decide_false, db_ct, db_cf, not_true_eq_false, not_false_eq_true, k2, k3, db_m1_ne, h2, db_g_22, db_22 h hk, nI_clamp, Bool.true_and]
    by_cases e : c (8 + k) = nI 1 <;> simp [e]
end DBC1
theorem db_BR_c {o U : Nat} {s s' : db_S} {c : db_C} {w : Nat → Int64} (hO : db_Ok U c) (hf : ∀ a, o ≤ a → a < o + 63 → a ≠ o + 59 → s'.1 a = s.1 a) (hg : s'.2 (o + 56) = s.2 (o + 56)) (h : db_BR o s c w) : db_BR o s' c w := by
  obtain ⟨h1, h2, h3, h4, h5, h6, h7, h8, h9, ⟨m, m1, m2, m3⟩, h11, h12, h13, h14⟩ := h
  obtain ⟨⟨k0, k1, k2, k3, k4, k5⟩, -⟩ := hO
  have j0 := k0.2
  have j1 := k1.2
  have j2 := k2.2
  have j3 := k3.2
  have j4 := k4.2
  have j5 := k5.2
  refine ⟨fun k hk => ?_, fun k hk => ?_, fun k hk => ?_, fun k hk => ?_, fun k hk => ?_, fun k hk => ?_, fun k hk => ?_, ?_, fun k hk => ?_, ⟨m, m1, ?_, ?_⟩, fun k hk => ?_, fun k hk => ?_, ?_, ?_⟩
  · rw [hf _ (by omega) (by omega) (by omega)]; exact h1 k hk
  · rw [hf _ (by omega) (by omega) (by omega)]; exact h2 k hk
  · rw [hf _ (by omega) (by omega) (by omega)]; exact h3 k hk
  · rw [hf _ (by omega) (by omega) (by omega)]; exact h4 k hk
  · rw [hf _ (by omega) (by omega) (by omega)]; exact h5 k hk
  · rw [hf (o + 39) (by omega) (by omega) (by omega), hf (o + 40) (by omega) (by omega) (by omega), hf (o + 41) (by omega) (by omega) (by omega), hf (o + 31 + k) (by omega) (by omega) (by omega)]; exact h6 k hk
  · rw [hf (o + 42) (by omega) (by omega) (by omega), hf (o + 43) (by omega) (by omega) (by omega)]; exact h7 k hk
  · rw [hf _ (by omega) (by omega) (by omega)]; exact h8
  · rw [hf (o + 55) (by omega) (by omega) (by omega), hf (o + 45 + k) (by omega) (by omega) (by omega)]; exact h9 k hk
  · rw [hf _ (by omega) (by omega) (by omega)]; exact m2
  · rw [hf (o + 57) (by omega) (by omega) (by omega), hf (o + 58) (by omega) (by omega) (by omega), hg]; exact m3
  · rw [hf _ (by omega) (by omega) (by omega)]; exact h11 k hk
  · rw [hf _ (by omega) (by omega) (by omega)]; exact h12 k hk
  · rw [hf _ (by omega) (by omega) (by omega)]; exact h13
  · rw [hf _ (by omega) (by omega) (by omega)]; exact h14
theorem db_BR_F1 {a U : Nat} {s s' : db_S} {c : db_C} {w : Nat → Int64} (hO : db_Ok U c) (ha : 83 ≤ a ∨ a < 20) (hF : db_F1 a s s') (h : db_BR 20 s c w) : db_BR 20 s' c w := db_BR_c hO (fun b b1 b2 _ => hF.1 b (by omega)) (by rw [hF.2]) h
section DBC2
variable {s : db_S} {c : db_C} {w : Nat → Int64} {U : Nat} {p q : Int32}
/-- the first rule that fits, by sets -/
theorem db_131 (h : db_BR 20 s c w) (hO : db_Ok U c) {t : Nat} {op be pr : Int32} (ht : t < db_n c 0) : db_f131 s (nI t) op be pr = some (db_o (db_fst (fun r => decide (c (19 + r) = nI t) && (bt op r && ((decide (c (43 + r) = -(nI 1)) || bt be (c (43 + r)).toNatClampNeg) && (decide (c (55 + r) = -(nI 1)) || !bt pr (c (55 + r)).toNatClampNeg)))) (db_n c 3))) := by
  have hR2 := (db_Ok_K hO (show 3 < 6 by omega)).2
  have hT2 := hO.1.1.2
  have hR := hO.2.1
  obtain ⟨g1, g2⟩ := db_75 h ht
  unfold db_f131
  simp (disch := omega) only [db_lit, eq_self, db_pI_e, db_pL_e, db_bind_some, db_bd_some, nI_add, pk_mul, nI_toInt, db_m1_t, dz_cn, Int.ofNat_le, Int.ofNat_lt, decide_true, decide_false, db_ct, db_cf, not_true_eq_false, not_false_eq_true, db_q_64]
  rw [← db_T_eq]
  have hcl := fb_ct_le (fun r => decide (c (19 + r) = nI t)) (db_n c 3)
  refine db_loop (L := fun n (_ : Unit) k => db_f131_b14 s n (nI t) op be pr (65 + t) (nI k)) (N := fb_ct (fun r => decide (c (19 + r) = nI t)) (db_n c 3)) (fun i _ => ∀ r, r < db_n c 3 → c (19 + r) = nI t → fb_ct (fun r => decide (c (19 + r) = nI t)) r < i → (bt op r && ((decide (c (43 + r) = -(nI 1)) || bt be (c (43 + r)).toNatClampNeg) && (decide (c (55 + r) = -(nI 1)) || !bt pr (c (55 + r)).toNatClampNeg))) = false) ?_ ?_ (n := db_FU) (a := ()) (by unfold db_FU; omega) (fun r _ _ h => absurd h (Nat.not_lt_zero _))
  · intro n _ hI
    show dz_T (db_f131_b14 s (n + 1) (nI t) op be pr (65 + t) (nI (fb_ct _ _))) _
    rw [db_f131_b14]
    simp (disch := omega) only [db_lit, eq_self, db_pI_e, db_pL_e, db_bind_some, db_bd_some, nI_add, pk_mul, nI_toInt, db_m1_t, dz_cn, Int.ofNat_le, Int.ofNat_lt, decide_true, decide_false, db_ct, db_cf, not_true_eq_false, not_false_eq_true, db_g_75, g1, Nat.le_refl, db_T_some]
    have : db_fst (fun r => decide (c (19 + r) = nI t) && (bt op r && ((decide (c (43 + r) = -(nI 1)) || bt be (c (43 + r)).toNatClampNeg) && (decide (c (55 + r) = -(nI 1)) || !bt pr (c (55 + r)).toNatClampNeg)))) (db_n c 3) = none := by
      refine db_fst_none.mpr fun r hr => ?_
      by_cases e : c (19 + r) = nI t
      · rw [hI r hr e, Bool.and_false]
        have s1 := fb_ct_succ (fun r => decide (c (19 + r) = nI t)) r
        have s2 := fb_ct_mono (fun r => decide (c (19 + r) = nI t)) (show r + 1 ≤ db_n c 3 by omega)
        simp only [e, decide_true, if_true] at s1
        omega
      · simp [e]
    rw [this]
    rfl
  · intro n i _ hi hI hrec
    show dz_T (db_f131_b14 s (n + 1) (nI t) op be pr (65 + t) (nI i)) _
    rw [db_f131_b14]
    obtain ⟨r, hr, hpr, hct⟩ := fb_ct_kth hi
    have hpt : c (19 + r) = nI t := of_decide_eq_true hpr
    have hmem := g2 r hr hpt
    rw [hct] at hmem
    have h3 : ¬ fb_ct (fun r => decide (c (19 + r) = nI t)) (db_n c 3) ≤ i := by omega
    obtain ⟨-, -, q2, q3, -, -⟩ := db_25 h hr
    obtain ⟨-, -, o1, o2, -⟩ := hR r hr
    have hnext : (bt op r && ((decide (c (43 + r) = -(nI 1)) || bt be (c (43 + r)).toNatClampNeg) && (decide (c (55 + r) = -(nI 1)) || !bt pr (c (55 + r)).toNatClampNeg))) = false → dz_T (db_f131_b14 s n (nI t) op be pr (65 + t) (nI (i + 1))) (fun z => z = db_o (db_fst (fun r => decide (c (19 + r) = nI t) && (bt op r && ((decide (c (43 + r) = -(nI 1)) || bt be (c (43 + r)).toNatClampNeg) && (decide (c (55 + r) = -(nI 1)) || !bt pr (c (55 + r)).toNatClampNeg)))) (db_n c 3))) := by
      intro hz
      refine hrec () fun r' hr' hp' hl => ?_
      by_cases e : fb_ct (fun r => decide (c (19 + r) = nI t)) r' = i
      · have : r' = r := fb_ct_kth_one (p := fun r => decide (c (19 + r) = nI t)) (decide_eq_true hp') hpr (by rw [e, hct])
        subst this
        exact hz
      · exact hI r' hr' hp' (by omega)
    have hfound : (bt op r && ((decide (c (43 + r) = -(nI 1)) || bt be (c (43 + r)).toNatClampNeg) && (decide (c (55 + r) = -(nI 1)) || !bt pr (c (55 + r)).toNatClampNeg))) = true → dz_T (some (nI r)) (fun z => z = db_o (db_fst (fun r => decide (c (19 + r) = nI t) && (bt op r && ((decide (c (43 + r) = -(nI 1)) || bt be (c (43 + r)).toNatClampNeg) && (decide (c (55 + r) = -(nI 1)) || !bt pr (c (55 + r)).toNatClampNeg)))) (db_n c 3))) := by
      intro hz
      rw [db_T_some]
      have : db_fst (fun r => decide (c (19 + r) = nI t) && (bt op r && ((decide (c (43 + r) = -(nI 1)) || bt be (c (43 + r)).toNatClampNeg) && (decide (c (55 + r) = -(nI 1)) || !bt pr (c (55 + r)).toNatClampNeg)))) (db_n c 3) = some r := by
        refine db_fst_some.mpr ⟨hr, by rw [hz, hpr]; rfl, fun r' hr' => ?_⟩
        by_cases e : c (19 + r') = nI t
        · rw [hI r' (by omega) e, Bool.and_false]
          have s1 := fb_ct_succ (fun r => decide (c (19 + r) = nI t)) r'
          have s2 := fb_ct_mono (fun r => decide (c (19 + r) = nI t)) (show r' + 1 ≤ r by omega)
          simp only [e, decide_true, if_true] at s1
          omega
        · simp [e]
      rw [this]
      rfl
    have k79 : db_f131_b79 (db_f131_b14 s n) s (nI t) op be pr (65 + t) (nI i) (nI r) = cond (decide (c (55 + r) = -(nI 1)) || !bt pr (c (55 + r)).toNatClampNeg) (some (nI r)) (db_f131_b14 s n (nI t) op be pr (65 + t) (nI (i + 1))) := by
      unfold db_f131_b79
      rcases o2 with e | ⟨b, hb, e⟩
      · simp (disch := omega) only [db_lit, eq_self, db_pI_e, db_pL_e, db_bind_some, db_bd_some, nI_add, pk_mul, nI_toInt, db_m1_t, dz_cn, Int.ofNat_le, Int.ofNat_lt, decide_true, decide_false, db_ct, db_cf, not_true_eq_false, not_false_eq_true, db_q_24, db_g_25, q3, e]
        rfl
      · simp (disch := omega) only [db_lit, eq_self, db_pI_e, db_pL_e, db_bind_some, db_bd_some, nI_add, pk_mul, nI_toInt, db_m1_t, dz_cn, Int.ofNat_le, Int.ofNat_lt, decide_true, decide_false, db_ct, db_cf, not_true_eq_false, not_false_eq_true, db_q_24, db_g_25, q3, e, db_m1_ne, db_shn (show b < 31 by omega), nI_clamp, db_f131_b118]
        cases bt pr b <;> rfl
    simp (disch := omega) only [db_lit, eq_self, db_pI_e, db_pL_e, db_bind_some, db_bd_some, nI_add, pk_mul, nI_toInt, db_m1_t, dz_cn, Int.ofNat_le, Int.ofNat_lt, decide_true, decide_false, db_ct, db_cf, not_true_eq_false, not_false_eq_true, db_g_75, g1, h3, db_g_65, hmem, db_sh0 (show r < 31 by omega), db_q_24, db_g_25, q2, k79, db_f131_b118]
    cases hb0 : bt op r
    · rw [show (!false) = true from rfl, cond_true]
      exact hnext (by rw [hb0]; rfl)
    · rw [show (!true) = false from rfl, cond_false]
      rcases o1 with e | ⟨b, hb, e⟩
      · rw [decide_eq_true e, cond_true]
        cases hz : (decide (c (55 + r) = -(nI 1)) || !bt pr (c (55 + r)).toNatClampNeg)
        · rw [cond_false]; exact hnext (by rw [hz]; simp)
        · rw [cond_true]; exact hfound (by rw [hz, hb0, decide_eq_true e]; rfl)
      · have e1 : decide (c (43 + r) = -(nI 1)) = false := by rw [e]; exact db_m1_d (by omega)
        have e2 : (c (43 + r)).toNatClampNeg = b := by rw [e, nI_clamp (by omega)]
        rw [e1, cond_false, e, db_sh0 (show b < 31 by omega)]
        cases hb1 : bt be b
        · rw [show (!false) = true from rfl, cond_true]
          exact hnext (by rw [e1, e2, hb1]; simp)
        · rw [show (!true) = false from rfl, cond_false]
          cases hz : (decide (c (55 + r) = -(nI 1)) || !bt pr (c (55 + r)).toNatClampNeg)
          · rw [cond_false]; exact hnext (by rw [hz]; simp)
          · rw [cond_true]; exact hfound (by rw [hz, hb0, e1, e2, hb1]; rfl)
/-- by sets or by search: the same -/
theorem db_cofit (hO : db_Ok U c) {n i : Nat} {row : Nat → Int32} {g : Nat → Nat} (hn : n ≤ 8) (hi : i < n) (hg : ∀ k, k < n → row k = nI (g k) ∧ g k < db_n c 0) {t0 t1 : Int32} (h0 : t0 = if 0 < i then db_b1 (g (i - 1)) else nI 0) (h1 : t1 = if i + 1 < n then db_b1 (g (i + 1)) else nI 0) :
    db_fst (fun r => decide (c (19 + r) = nI (g i)) && (bt (db_of c p q) r && ((decide (c (43 + r) = -(nI 1)) || bt (t0 ||| t1) (c (43 + r)).toNatClampNeg) && (decide (c (55 + r) = -(nI 1)) || !bt (db_or g n) (c (55 + r)).toNatClampNeg)))) (db_n c 3) = db_co c row n p q i := by
  have hR2 := (db_Ok_K hO (show 3 < 6 by omega)).2
  have hT2 := hO.1.1.2
  refine db_fst_cong fun r hr => ?_
  obtain ⟨-, -, o1, o2, -⟩ := hO.2.1 r hr
  have e1 : bt (db_of c p q) r = (db_op c r p q && bt (db_fo c) r) := by
    unfold db_of
    rw [db_mk_bt (by omega) (by omega), decide_eq_true hr, Bool.true_and]
  have z0 : ∀ k, bt (nI 0) k = false := fun k => by rw [show nI 0 = (0 : Int32) from rfl, b_0]
  have eqg : ∀ k b, k < n → b < db_n c 0 → decide (row k = nI b) = decide (b = g k) := by
    intro k b hk hb
    obtain ⟨a1, a2⟩ := hg k hk
    rw [decide_eq_decide, a1, nI_eq (by omega) (by omega)]
    omega
  have e2 : (decide (c (43 + r) = -(nI 1)) || bt (t0 ||| t1) (c (43 + r)).toNatClampNeg) = (decide ((c (43 + r)).toInt < 0) || db_be row n i (c (43 + r))) := by
    rw [db_O_neg (by omega) o1]
    rcases o1 with e | ⟨b, hb, e⟩
    · simp [e]
    · congr 1
      rw [e, nI_clamp (by omega), b_or, h0, h1]
      unfold db_be
      congr 1
      · by_cases hh : 0 < i
        · have := (hg (i - 1) (by omega)).2
          rw [if_pos hh, db_b1_bt (by omega) (by omega), eqg (i - 1) b (by omega) hb]
          simp [hh]
        · rw [if_neg hh, z0]
          simp [hh]
      · by_cases hh : i + 1 < n
        · have := (hg (i + 1) hh).2
          rw [if_pos hh, db_b1_bt (by omega) (by omega), eqg (i + 1) b hh hb]
          simp [hh]
        · rw [if_neg hh, z0]
          simp [hh]
  have e3 : (decide (c (55 + r) = -(nI 1)) || !bt (db_or g n) (c (55 + r)).toNatClampNeg) = (decide ((c (55 + r)).toInt < 0) || !db_ir row n (c (55 + r))) := by
    rw [db_O_neg (by omega) o2]
    rcases o2 with e | ⟨b, hb, e⟩
    · simp [e]
    · congr 2
      rw [e, nI_clamp (by omega), db_or_bt (by omega) (fun k hk => by have := (hg k hk).2; omega)]
      exact db_ex_cong fun k hk => (eqg k b hk hb).symm
  have e4 : decide (c (19 + r) = nI (g i)) = decide (c (19 + r) = row i) := by rw [(hg i hi).1]
  unfold db_ft
  rw [e1, e2, e3, e4]
  cases decide (c (19 + r) = row i) <;> cases db_op c r p q <;> cases bt (db_fo c) r <;> simp
theorem db_130 (h : db_BR 20 s c w) (hO : db_Ok U c) (hU : U ≤ 1000000000) {a n : Nat} {g : Nat → Nat} (ha : db_ka a = 1) (hl : n ≤ db_la a) (hl2 : db_la a < 2 ^ 31) (ha3 : a ≠ 273) (hn : n ≤ 8) (hg : ∀ k, k < n → s.1 a k = nI (g k) ∧ g k < db_n c 0) : dz_T (db_f130 s a (nI n) (db_of c p q)) (fun z => z.1 = db_su c (s.1 a) n p q n ∧ db_F1 273 s z.2 ∧ ∀ i, i < n → z.2.1 273 i = db_o (db_co c (s.1 a) n p q i)) := by
  have hT2 := hO.1.1.2
  have hR2 := hO.1.2.2.2.1.2
  unfold db_f130
  have hrd : ∀ s' : db_S, s'.1 a = s.1 a → ∀ k, k < n → db_rI s' a (nI k) = some (nI (g k)) := fun s' e k hk => by rw [db_rI_n ha (by omega) hl2, e, (hg k hk).1]
  -- what is present
  have key : db_f130_b6 db_FU s a (nI n) (db_of c p q) (nI 0) (nI 0) = db_f130_b35 db_FU s a (nI n) (db_of c p q) (db_or g n) (nI 0) (nI 0) := by
    refine db_fold (L := fun m v k => db_f130_b6 m s a (nI n) (db_of c p q) v (nI k)) (N := n) (db_or g) (fun m => ?_) (fun m k hk => ?_) (by unfold db_FU; omega)
    · show db_f130_b6 (m + 1) s a (nI n) (db_of c p q) _ (nI n) = _
      rw [db_f130_b6]
      simp (disch := omega) only [db_lit, eq_self, db_pI_e, db_pL_e, db_bind_some, db_bd_some, nI_add, pk_mul, nI_toInt, db_m1_t, dz_cn, Int.ofNat_le, Int.ofNat_lt, decide_true, decide_false, db_ct, db_cf, not_true_eq_false, not_false_eq_true, Nat.le_refl]
    · show db_f130_b6 (m + 1) s a (nI n) (db_of c p q) _ (nI k) = db_f130_b6 m s a (nI n) (db_of c p q) (db_or g k ||| db_b1 (g k)) (nI (k + 1))
      rw [db_f130_b6]
      have h3 : ¬ n ≤ k := by omega
      simp (disch := omega) only [db_lit, eq_self, db_pI_e, db_pL_e, db_bind_some, db_bd_some, nI_add, pk_mul, nI_toInt, db_m1_t, dz_cn, Int.ofNat_le, Int.ofNat_lt, decide_true, decide_false, db_ct, db_cf, not_true_eq_false, not_false_eq_true, h3, hrd s rfl k hk]
      rfl
  simp (disch := omega) only [db_lit, eq_self, db_pI_e, db_pL_e, db_bind_some, db_bd_some, nI_add, pk_mul, nI_toInt, db_m1_t, dz_cn, Int.ofNat_le, Int.ofNat_lt, decide_true, decide_false, db_ct, db_cf, not_true_eq_false, not_false_eq_true, key]
  refine db_loop (L := fun m (z : db_S × Int32) k => db_f130_b35 m z.1 a (nI n) (db_of c p q) (db_or g n) z.2 (nI k)) (N := n) (fun k z => z.2 = db_su c (s.1 a) n p q k ∧ db_F1 273 s z.1 ∧ ∀ i, i < k → z.1.1 273 i = db_o (db_co c (s.1 a) n p q i)) ?_ ?_ (n := db_FU) (a := (s, nI 0)) (by unfold db_FU; omega) ⟨rfl, db_F1_r, lt_0⟩
  · rintro m ⟨s1, v⟩ ⟨h1, h2, h3⟩
    dsimp only at h1 h2 h3
    show dz_T (db_f130_b35 (m + 1) s1 a (nI n) (db_of c p q) (db_or g n) v (nI n)) _
    rw [db_f130_b35]
    simp (disch := omega) only [db_lit, eq_self, db_pI_e, db_pL_e, db_bind_some, db_bd_some, nI_add, pk_mul, nI_toInt, db_m1_t, dz_cn, Int.ofNat_le, Int.ofNat_lt, decide_true, decide_false, db_ct, db_cf, not_true_eq_false, not_false_eq_true, Nat.le_refl, db_T_some]
    exact ⟨h1, h2, h3⟩
  · rintro m k ⟨s1, v⟩ hk ⟨h1, h2, h3⟩ hrec
    dsimp only at h1 h2 h3
    show dz_T (db_f130_b35 (m + 1) s1 a (nI n) (db_of c p q) (db_or g n) v (nI k)) _
    rw [db_f130_b35]
    have e1 := h2.1 a ha3
    have hB := db_BR_F1 hO (by omega) h2 h
    have h7 : ¬ n ≤ k := by omega
    have hk31 : k < 2 ^ 31 := by omega
    -- with what stands beside
    have k78 : ∀ t0 t1 : Int32, t0 = (if 0 < k then db_b1 (g (k - 1)) else nI 0) → t1 = (if k + 1 < n then db_b1 (g (k + 1)) else nI 0) → dz_T (db_f130_b78 (db_f130_b35 m) s1 a (nI n) (db_of c p q) (db_or g n) v (nI k) t0 t1) (fun z => z.1 = db_su c (s.1 a) n p q n ∧ db_F1 273 s z.2 ∧ ∀ i, i < n → z.2.1 273 i = db_o (db_co c (s.1 a) n p q i)) := by
      intro t0 t1 ht0 ht1
      unfold db_f130_b78 db_f130_b128
      have h131 := @db_131 s1 c w U hB hO (g k) (db_of c p q) (t0 ||| t1) (db_or g n) (hg k hk).2
      rw [db_cofit (p := p) (q := q) hO hn hk hg ht0 ht1] at h131
      have h2' := db_F1_u (j := k) (x := db_o (db_co c (s.1 a) n p q k)) h2
      have hself : (db_uI s1 273 k (db_o (db_co c (s.1 a) n p q k))).1 273 k = db_o (db_co c (s.1 a) n p q k) := db_uI_1
      have hlo : ∀ i, i < k → (db_uI s1 273 k (db_o (db_co c (s.1 a) n p q k))).1 273 i = db_o (db_co c (s.1 a) n p q i) := fun i hi => by rw [db_uI_j (by omega)]; exact h3 i hi
      simp (disch := omega) only [db_lit, eq_self, db_pI_e, db_pL_e, db_bind_some, db_bd_some, nI_add, pk_mul, nI_toInt, db_m1_t, dz_cn, Int.ofNat_le, Int.ofNat_lt, decide_true, decide_false, db_ct, db_cf, not_true_eq_false, not_false_eq_true, hrd s1 e1 k hk, h131, db_h_273, db_g_273, hself]
      generalize db_uI s1 273 k (db_o (db_co c (s.1 a) n p q k)) = s2 at h2' hself hlo
      have hB2 := db_BR_F1 hO (by omega) h2' h
      have hsu : db_su c (s.1 a) n p q (k + 1) = db_su c (s.1 a) n p q k + db_wq c (db_co c (s.1 a) n p q k) := rfl
      cases hc : db_co c (s.1 a) n p q k with
      | none =>
        rw [hc] at hsu
        rw [show decide (db_o none = -(nI 1)) = true from decide_eq_true rfl, cond_true]
        refine hrec (s2, v) ⟨?_, h2', lt_s hlo (by rw [hself])⟩
        show v = _
        rw [hsu, ← h1]
        show v = v + nI 0
        exact (Int32.add_zero v).symm
      | some r =>
        rw [hc] at hsu
        have hr := db_fst_lt hc
        rw [show decide (db_o (some r) = -(nI 1)) = false by exact db_m1_d (by omega), cond_false]
        show dz_T ((db_f104 s2 (nI r)).bind fun q7 => db_f130_b35 m s2 a (nI n) (db_of c p q) (db_or g n) (v + q7) (nI (k + 1))) _
        rw [db_104 hB2 hO hU hr]
        refine hrec (s2, v + db_wo c r) ⟨?_, h2', lt_s hlo (by rw [hself])⟩
        show v + db_wo c r = _
        rw [hsu, h1]; rfl
    have k58 : ∀ t0 : Int32, t0 = (if 0 < k then db_b1 (g (k - 1)) else nI 0) → dz_T (db_f130_b58 (db_f130_b35 m) s1 a (nI n) (db_of c p q) (db_or g n) v (nI k) t0) (fun z => z.1 = db_su c (s.1 a) n p q n ∧ db_F1 273 s z.2 ∧ ∀ i, i < n → z.2.1 273 i = db_o (db_co c (s.1 a) n p q i)) := by
      intro t0 ht0
      unfold db_f130_b58
      by_cases hh : k + 1 < n
      · have h8 : ¬ n ≤ k + 1 := by omega
        simp (disch := omega) only [db_lit, eq_self, db_pI_e, db_pL_e, db_bind_some, db_bd_some, nI_add, pk_mul, nI_toInt, db_m1_t, dz_cn, Int.ofNat_le, Int.ofNat_lt, decide_true, decide_false, db_ct, db_cf, not_true_eq_false, not_false_eq_true, h8, hrd s1 e1 (k + 1) hh]
        exact k78 _ _ ht0 (by rw [if_pos hh]; rfl)
      · have h8 : n ≤ k + 1 := by omega
        simp (disch := omega) only [db_lit, eq_self, db_pI_e, db_pL_e, db_bind_some, db_bd_some, nI_add, pk_mul, nI_toInt, db_m1_t, dz_cn, Int.ofNat_le, Int.ofNat_lt, decide_true, decide_false, db_ct, db_cf, not_true_eq_false, not_false_eq_true, h8]
        exact k78 _ _ ht0 (by rw [if_neg hh])
    by_cases hh : 0 < k
    · have h8 : ¬ k ≤ 0 := by omega
      simp (disch := omega) only [db_lit, eq_self, db_pI_e, db_pL_e, db_bind_some, db_bd_some, nI_add, pk_mul, nI_toInt, db_m1_t, dz_cn, Int.ofNat_le, Int.ofNat_lt, decide_true, decide_false, db_ct, db_cf, not_true_eq_false, not_false_eq_true, h7, h8, pk_sub, hrd s1 e1 (k - 1) (by omega)]
      exact k58 _ (by rw [if_pos hh]; rfl)
    · have h8 : k ≤ 0 := by omega
      simp (disch := omega) only [db_lit, eq_self, db_pI_e, db_pL_e, db_bind_some, db_bd_some, nI_add, pk_mul, nI_toInt, db_m1_t, dz_cn, Int.ofNat_le, Int.ofNat_lt, decide_true, decide_false, db_ct, db_cf, not_true_eq_false, not_false_eq_true, h7, h8]
      exact k58 _ (by rw [if_neg hh])
theorem db_127 (h : db_BR 20 s c w) (hO : db_Ok U c) (hU : U ≤ 1000000000) {d : Nat} (hd : d < db_n c 5) (hp : db_O p (db_n c 1)) (hq : db_O q (db_n c 2)) : dz_T (db_f127 s (nI d) p q) (fun z => z.1 = db_rq c d p q ∧ db_F1 273 s z.2 ∧ ∀ i, i < db_n c (127 + d) → z.2.1 273 i = db_o (db_co c (db_dr c d) (db_n c (127 + d)) p q i)) := by
  have hd8 := hO.1.2.2.2.2.2.2
  have hT2 := hO.1.1.2
  obtain ⟨⟨hL, hL1⟩, hT, -⟩ := hO.2.2.2.1 d hd
  have hL6 := hL.2
  obtain ⟨a1, -, -, a4⟩ := db_59 h hd
  have hkl := db_kl_51 d (by omega)
  have hrow : ∀ k, k < db_n c (127 + d) → s.1 (51 + d) k = db_dr c d k := a4
  have hg : ∀ k, k < db_n c (127 + d) → s.1 (51 + d) k = nI (db_dr c d k).toNatClampNeg ∧ (db_dr c d k).toNatClampNeg < db_n c 0 := by
    intro k hk
    obtain ⟨t, ht, e⟩ := hT k hk
    rw [hrow k hk]
    unfold db_dr
    rw [e, nI_clamp (by omega)]
    exact ⟨rfl, ht⟩
  unfold db_f127
  simp (disch := omega) only [db_lit, eq_self, db_pI_e, db_pL_e, db_bind_some, db_bd_some, nI_add, pk_mul, nI_toInt, db_m1_t, dz_cn, Int.ofNat_le, Int.ofNat_lt, decide_true, decide_false, db_ct, db_cf, not_true_eq_false, not_false_eq_true, db_128 h hO hp hq, db_q_50, db_g_59, a1, hL.1, db_129 h hO]
  refine db_T_gd (db_130 (p := p) (q := q) h hO hU hkl.1 (by rw [hkl.2]; omega) (by rw [hkl.2]; decide) (by omega) (by omega) hg) fun v s1 hv => ?_
  obtain ⟨q1, q2, q3⟩ := hv
  dsimp only at q1 q2 q3
  refine ⟨_, rfl, ?_, q2, fun i hi => ?_⟩
  · show (if db_ow c p q then -(nI 1) else nI 1) * v = _
    unfold db_rq db_re
    rw [q1, db_su_row hrow (Nat.le_refl _)]
    cases db_ow c p q
    · exact Int32.one_mul _
    · show -(nI 1) * _ = -_
      rw [Int32.neg_mul]
      congr 1
      exact Int32.one_mul _
  · rw [q3 i hi, db_co_row hrow hi]
end DBC2
