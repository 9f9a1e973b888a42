/-! NIGHTS -/
/-- the rules that counted are used once more; how many -/
def db_we (c0 : db_C) (row : Nat → Int32) (n : Nat) (p q : Int32) (cc : db_C) : Nat → db_C
  | 0 => cc
  | i + 1 => match db_co c0 row n p q i with
    | none => db_we c0 row n p q cc i
    | some r => db_cu (db_we c0 row n p q cc i) (91 + r) (db_we c0 row n p q cc i (91 + r) + nI 1)
def db_wn (c0 : db_C) (row : Nat → Int32) (n : Nat) (p q : Int32) : Nat → Nat
  | 0 => 0
  | i + 1 => db_wn c0 row n p q i + (match db_co c0 row n p q i with
    | none => 0
    | some _ => 1)
theorem db_we_n {c0 cc : db_C} {row : Nat → Int32} {n k : Nat} {p q : Int32} (h12 : db_n c0 3 ≤ 12) (h : ¬ (91 ≤ k ∧ k ≤ 102)) : ∀ i, db_we c0 row n p q cc i k = cc k
  | 0 => rfl
  | i + 1 => by
    rw [db_we]
    cases ho : db_co c0 row n p q i with
    | none => exact db_we_n h12 h i
    | some r =>
      have hr := db_fst_lt ho
      show db_cu _ _ _ k = _
      rw [db_cu_n (by omega)]
      exact db_we_n h12 h i
theorem db_we_b {c0 cc : db_C} {row : Nat → Int32} {n U r : Nat} {p q : Int32} (h0 : 0 ≤ (cc (91 + r)).toInt) (h1 : (cc (91 + r)).toInt ≤ U) : ∀ i, U + i ≤ 1000000000 → 0 ≤ (db_we c0 row n p q cc i (91 + r)).toInt ∧ (db_we c0 row n p q cc i (91 + r)).toInt ≤ ((U + i : Nat) : Int)
  | 0, _ => ⟨h0, by show (cc (91 + r)).toInt ≤ _; omega⟩
  | i + 1, hi => by
    have ih := db_we_b h0 h1 (c0 := c0) (row := row) (n := n) (p := p) (q := q) i (by omega)
    rw [db_we]
    cases ho : db_co c0 row n p q i with
    | none => exact ⟨ih.1, Int.le_trans ih.2 (by omega)⟩
    | some r' =>
      show 0 ≤ (db_cu _ _ _ (91 + r)).toInt ∧ (db_cu _ _ _ (91 + r)).toInt ≤ _
      by_cases e : r = r'
      · subst e
        rw [db_cu_1]
        have e1 : (nI 1).toInt = 1 := by decide
        rw [fb_addI (by omega) (by omega)]
        omega
      · rw [db_cu_n (by omega)]
        exact ⟨ih.1, by have := ih.2; omega⟩
theorem db_wn_le {c0 : db_C} {row : Nat → Int32} {n : Nat} {p q : Int32} : ∀ i, db_wn c0 row n p q i ≤ i
  | 0 => Nat.le_refl _
  | i + 1 => by
    have := db_wn_le (c0 := c0) (row := row) (n := n) (p := p) (q := q) i
    rw [db_wn]
    cases db_co c0 row n p q i <;> simp <;> omega
/-- could the night be; the book behind it -/
def db_nok (c : db_C) (d p : Nat) (q : Int32) : Bool := db_wi (c (12 + p) + db_rq c d (nI p) q) (-9999) ((9999 : Nat) : Int)
def db_nx (c : db_C) (d p : Nat) (q : Int32) : db_C := db_we c (db_dr c d) (db_n c (127 + d)) (nI p) q (db_cu (db_cu c (12 + p) (c (12 + p) + db_rq c d (nI p) q)) 6 (c 6 + nI 1)) (db_n c (127 + d))
def dz_nw (c : db_C) (d p : Nat) (q : Int32) : Nat := db_wn c (db_dr c d) (db_n c (127 + d)) (nI p) q (db_n c (127 + d))
/-- read above 0 -/
def db_ng (c : db_C) (d p : Nat) (q : Int32) : Int32 := if (db_rq c d (nI p) q).toInt ≤ ((0 : Nat) : Int) then nI 0 else nI 1
theorem db_m9999 : (-(nI 9999)).toInt = -9999 := by decide
theorem db_m9999L : (-(lN 9999)).toInt = -9999 := by decide
section DBN1
variable {U : Nat} {s : db_S} {c : db_C} {w : Nat → Int64} {v x y z p q : Int32}
/-- the class's wearing, of the row read latest -/
theorem db_138 {row : Nat → Int32} {n : Nat} {cc : db_C} (hn : n ≤ 8) (h12 : db_n c 3 ≤ 12) (h3 : ∀ i, i < n → s.1 273 i = db_o (db_co c row n p q i)) (h1 : ∀ r, r < db_n c 3 → s.1 81 r = cc (91 + r)) : dz_T (db_f138 s (nI n)) (fun z => z.1 = nI (db_wn c row n p q n) ∧ db_F1 81 s z.2 ∧ ∀ r, r < db_n c 3 → z.2.1 81 r = db_we c row n p q cc n (91 + r)) := by
  unfold db_f138
  refine db_loop (L := fun m (z : db_S × Int32) k => db_f138_b4 m z.1 (nI n) z.2 (nI k)) (N := n) (fun k z => z.2 = nI (db_wn c row n p q k) ∧ db_F1 81 s z.1 ∧ ∀ r, r < db_n c 3 → z.1.1 81 r = db_we c row n p q cc k (91 + r)) ?_ ?_ (n := db_FU) (a := (s, nI 0)) (by unfold db_FU; omega) ⟨rfl, db_F1_r, h1⟩
  · rintro m ⟨a, v⟩ ⟨q1, q2, q3⟩
    dsimp only at q1 q2 q3
    show dz_T (db_f138_b4 (m + 1) a (nI n) v (nI n)) _
    rw [db_f138_b4]
    simp (disch := omega) only [db_lit, eq_self, db_pI_e, db_pL_e, db_bind_some, db_bd_some, nI_add, pk_mul, nI_toInt, db_m1_t, dz_cn, Int.ofNat_le, Int.ofNat_lt, decide_true, decide_false, db_ct, db_cf, not_true_eq_false, not_false_eq_true, Nat.le_refl, db_T_some]
    exact ⟨q1, q2, q3⟩
  · rintro m k ⟨a, v⟩ hk ⟨q1, q2, q3⟩ hrec
    dsimp only at q1 q2 q3
    show dz_T (db_f138_b4 (m + 1) a (nI n) v (nI k)) _
    rw [db_f138_b4]
    have h7 : ¬ n ≤ k := by omega
    have e := h3 k hk
    rw [← q2.1 273 (by decide)] at e
    have hwn : db_wn c row n p q (k + 1) = db_wn c row n p q k + (match db_co c row n p q k with | none => 0 | some _ => 1) := rfl
    have hwe : db_we c row n p q cc (k + 1) = (match db_co c row n p q k with | none => db_we c row n p q cc k | some r => db_cu (db_we c row n p q cc k) (91 + r) (db_we c row n p q cc k (91 + r) + nI 1)) := rfl
    cases ho : db_co c row n p q k with
    | none =>
      rw [ho] at e hwn hwe
      have e : a.1 273 k = -(nI 1) := e
      simp (disch := omega) only [db_lit, eq_self, db_pI_e, db_pL_e, db_bind_some, db_bd_some, nI_add, pk_mul, nI_toInt, db_m1_t, dz_cn, Int.ofNat_le, Int.ofNat_lt, decide_true, decide_false, db_ct, db_cf, not_true_eq_false, not_false_eq_true, h7, db_g_273, e, db_f138_b40]
      exact hrec (a, v) ⟨by rw [hwn]; exact q1, q2, by rw [hwe]; exact q3⟩
    | some r =>
      rw [ho] at e hwn hwe
      have e : a.1 273 k = nI r := e
      have hr := db_fst_lt ho
      simp (disch := omega) only [db_lit, eq_self, db_pI_e, db_pL_e, db_bind_some, db_bd_some, nI_add, pk_mul, nI_toInt, db_m1_t, dz_cn, Int.ofNat_le, Int.ofNat_lt, decide_true, decide_false, db_ct, db_cf, not_true_eq_false, not_false_eq_true, h7, db_g_273, e, db_f138_b40, db_m1_d, db_g_81, db_h_81]
      refine hrec (db_uI a 81 r (a.1 81 r + nI 1), v + nI 1) ⟨?_, db_F1_u q2, fun r' hr' => ?_⟩
      · show v + nI 1 = _
        rw [hwn, q1, nI_add]
      · rw [hwe]
        show (db_uI a 81 r (a.1 81 r + nI 1)).1 81 r' = db_cu _ _ _ (91 + r')
        by_cases e2 : r' = r
        · subst e2
          rw [db_uI_1, db_cu_1, q3 r' hr']
        · rw [db_uI_j e2, db_cu_n (by omega)]
          exact q3 r' hr'
/-- the reference's -/
theorem db_334 {row : Nat → Int32} {n : Nat} {cc : db_C} (hn : n ≤ 8) (h12 : db_n c 3 ≤ 12) (h29 : s.1 669 29 = nI n) (h3 : ∀ i, i < n → s.1 679 i = db_o (db_co c row n p q i)) (hA : db_A s cc) : dz_T (db_f334 s) (fun z => db_A z (db_we c row n p q cc n) ∧ z.1 669 32 = s.1 669 32 + nI (db_wn c row n p q n) ∧ (∀ j, j ≠ 32 → z.1 669 j = s.1 669 j) ∧ (∀ k, 480 ≤ k → z.1 674 k = s.1 674 k) ∧ (∀ a, a ≠ 669 → a ≠ 674 → z.1 a = s.1 a) ∧ z.2 = s.2) := by
  unfold db_f334
  refine db_loop (L := fun m a k => db_f334_b2 m a (nI k)) (N := n) (fun k z => db_A z (db_we c row n p q cc k) ∧ z.1 669 32 = s.1 669 32 + nI (db_wn c row n p q k) ∧ (∀ j, j ≠ 32 → z.1 669 j = s.1 669 j) ∧ (∀ k, 480 ≤ k → z.1 674 k = s.1 674 k) ∧ (∀ a, a ≠ 669 → a ≠ 674 → z.1 a = s.1 a) ∧ z.2 = s.2) ?_ ?_ (n := db_FU) (by unfold db_FU; omega) ⟨hA, (Int32.add_zero _).symm, fun _ _ => rfl, fun _ _ => rfl, fun _ _ _ => rfl, rfl⟩
  · rintro m a ⟨q1, q2, q3, q4, q5, q6⟩
    show dz_T (db_f334_b2 (m + 1) a (nI n)) _
    rw [db_f334_b2]
    have e := q3 29 (by decide)
    rw [h29] at e
    simp (disch := omega) only [db_lit, eq_self, db_pI_e, db_pL_e, db_bind_some, db_bd_some, nI_add, pk_mul, nI_toInt, db_m1_t, dz_cn, Int.ofNat_le, Int.ofNat_lt, decide_true, decide_false, db_ct, db_cf, not_true_eq_false, not_false_eq_true, e, Nat.le_refl]
    exact db_T_some.mpr ⟨q1, q2, q3, q4, q5, q6⟩
  · rintro m k a hk ⟨q1, q2, q3, q4, q5, q6⟩ hrec
    show dz_T (db_f334_b2 (m + 1) a (nI k)) _
    rw [db_f334_b2]
    have h7 : ¬ n ≤ k := by omega
    have e29 := q3 29 (by decide)
    rw [h29] at e29
    have e := h3 k hk
    rw [← q5 679 (by decide) (by decide)] at e
    have hwn : db_wn c row n p q (k + 1) = db_wn c row n p q k + (match db_co c row n p q k with | none => 0 | some _ => 1) := rfl
    have hwe : db_we c row n p q cc (k + 1) = (match db_co c row n p q k with | none => db_we c row n p q cc k | some r => db_cu (db_we c row n p q cc k) (91 + r) (db_we c row n p q cc k (91 + r) + nI 1)) := rfl
    cases ho : db_co c row n p q k with
    | none =>
      rw [ho] at e hwn hwe
      have e : a.1 679 k = -(nI 1) := e
      simp (disch := omega) only [db_lit, eq_self, db_pI_e, db_pL_e, db_bind_some, db_bd_some, nI_add, pk_mul, nI_toInt, db_m1_t, dz_cn, Int.ofNat_le, Int.ofNat_lt, decide_true, decide_false, db_ct, db_cf, not_true_eq_false, not_false_eq_true, e29, h7, db_g_679, e, db_f334_b50]
      rw [show decide (((0 : Nat) : Int) ≤ -1) = false by decide, db_cf]
      exact hrec a ⟨by rw [hwe]; exact q1, by rw [hwn]; exact q2, q3, q4, q5, q6⟩
    | some r =>
      rw [ho] at e hwn hwe
      have e : a.1 679 k = nI r := e
      have hr := db_fst_lt ho
      have h0 : 0 ≤ r := by omega
      simp (disch := omega) only [db_lit, eq_self, db_pI_e, db_pL_e, db_bind_some, db_bd_some, nI_add, pk_mul, nI_toInt, db_m1_t, dz_cn, Int.ofNat_le, Int.ofNat_lt, decide_true, decide_false, db_ct, db_cf, not_true_eq_false, not_false_eq_true, e29, h7, db_g_679, e, db_f334_b50, h0, db_g_674, db_h_674, q1]
      refine hrec _ ⟨?_, ?_, ?_, ?_, ?_, ?_⟩
      · rw [hwe]
        intro j hj
        rw [db_uI_n (by decide)]
        show _ = db_cu _ _ _ j
        by_cases ej : j = 91 + r
        · subst ej
          rw [db_uI_1, db_cu_1]
        · rw [db_uI_j ej, db_cu_n ej]
          exact q1 j hj
      · rw [db_uI_1, db_uI_n (by decide), q2, hwn, Int32.add_assoc, nI_add]
      · intro j hj
        rw [db_uI_j hj, db_uI_n (by decide)]
        exact q3 j hj
      · intro j hj
        rw [db_uI_n (by decide), db_uI_j (by omega)]
        exact q4 j hj
      · intro b b1 b2
        rw [db_uI_n b1, db_uI_n b2]
        exact q5 b b1 b2
      · exact q6
/-- a night's book is good again -/
theorem db_B1_nx {s' : db_S} (hB : db_B1 U 20 s c w) (hU : U + 6 ≤ 1000000000) {d pp : Nat} (hd : d < db_n c 5) (hp : pp < db_n c 1) (hok : db_nok c d pp q = true)
    (hf : ∀ a, 20 ≤ a → a < 145 → a ≠ 79 → a ≠ 80 → a ≠ 81 → a ≠ 82 → s'.1 a = s.1 a) (hg : s'.2 76 = s.2 76) (hu : ∀ r, r < db_n c 3 → s'.1 81 r = db_nx c d pp q (91 + r)) (hps : ∀ p, p < db_n c 1 → s'.1 82 p = db_nx c d pp q (12 + p)) (hs : s'.1 80 2 = c 7) (hng : s'.1 80 3 = c 6 + nI 1) : db_B1 (U + 6) 20 s' (db_nx c d pp q) w := by
  have hO := hB.1
  have hR := hB.2.1
  have j1 := hO.1.2.1.2
  have j3 := hO.1.2.2.2.1.2
  have hL := (hO.2.2.2.1 d hd).1.1.2
  have e6 : db_nx c d pp q 6 = c 6 + nI 1 := by
    unfold db_nx
    rw [db_we_n j3 (by omega), db_cu_1]
  have e7 : db_nx c d pp q 7 = c 7 := by
    unfold db_nx
    rw [db_we_n j3 (by omega), db_cu_n (by omega), db_cu_n (by omega)]
  have e12 : ∀ p, p < 4 → db_nx c d pp q (12 + p) = if p = pp then c (12 + pp) + db_rq c d (nI pp) q else c (12 + p) := by
    intro p hp4
    unfold db_nx
    rw [db_we_n j3 (by omega), db_cu_n (by omega)]
    by_cases e : p = pp
    · subst e; rw [db_cu_1, if_pos rfl]
    · rw [db_cu_n (by omega), if_neg e]
  have hng6 := hO.2.2.2.2.2.2.2
  have e1 : (nI 1).toInt = 1 := by decide
  refine db_B1_u hB (fun k hk => ?_) (fun a q1 q2 q3 q4 q5 q6 => hf a q1 (by omega) q3 q4 q5 q6) hg (fun r hr => ⟨hu r hr, ?_⟩) (fun p hp => ⟨hps p hp, ?_⟩) ⟨?_, ?_⟩ ⟨?_, ?_⟩
  · obtain ⟨q1, q2, q3, q4, q5⟩ := hk
    unfold db_nx
    rw [db_we_n j3 (by omega), db_cu_n (by omega), db_cu_n (by omega)]
  · have b := (hO.2.1 r hr).2.2.2.2.2.2
    have g := db_we_b (c0 := c) (row := db_dr c d) (n := db_n c (127 + d)) (p := nI pp) (q := q) (cc := db_cu (db_cu c (12 + pp) (c (12 + pp) + db_rq c d (nI pp) q)) 6 (c 6 + nI 1)) (r := r) (U := U) (by rw [db_cu_n (by omega), db_cu_n (by omega)]; exact b.1) (by rw [db_cu_n (by omega), db_cu_n (by omega)]; exact b.2) (db_n c (127 + d)) (by omega)
    unfold db_nx
    exact ⟨g.1, by have := g.2; omega⟩
  · rw [e12 p (by omega)]
    by_cases e : p = pp
    · rw [if_pos e]
      simp only [db_nok, db_wi, Bool.and_eq_true, decide_eq_true_eq] at hok
      omega
    · rw [if_neg e]; exact (hO.2.2.2.2.1 p hp).2
  · rw [e7]; exact hs
  · rw [e7]; exact hO.2.2.2.2.2.2.1
  · rw [e6]; exact hng
  · rw [e6, fb_addI (by omega) (by omega)]
    omega
/-- the class's night -/
theorem db_137 (hB : db_B1 U 20 s c w) (hU : U + 6 ≤ 1000000000) {d pp : Nat} (hd : d < db_n c 5) (hp : pp < db_n c 1) (hq : db_O q (db_n c 2)) : dz_T (db_f137 s (nI d) (nI pp) q) (fun z => z.1 = db_nok c d pp q ∧ (z.1 = false → db_Ec s z.2 ∧ z.2.1 286 = s.1 286) ∧ (z.1 = true → db_B1 (U + 6) 20 z.2 (db_nx c d pp q) w ∧ db_Ed s z.2 ∧ z.2.1 286 1 = s.1 286 1 + nI 1 ∧ z.2.1 286 2 = s.1 286 2 + db_ng c d pp q ∧ z.2.1 286 3 = s.1 286 3 + nI (dz_nw c d pp q) ∧ ∀ j, j ≠ 1 → j ≠ 2 → j ≠ 3 → z.2.1 286 j = s.1 286 j) ∧ ∀ a, a ≠ 273 → a ≠ 80 → a ≠ 81 → a ≠ 82 → a ≠ 286 → z.2.1 a = s.1 a) := by
  have hO := hB.1
  have hR := hB.2.1
  have j1 := hO.1.2.1.2
  have j3 := hO.1.2.2.2.1.2
  have j5 := hO.1.2.2.2.2.2.2
  have hL := (hO.2.2.2.1 d hd).1.1
  have hL6 := hL.2
  have hpO : db_O (nI pp) (db_n c 1) := .inr ⟨pp, hp, rfl⟩
  unfold db_f137
  refine db_T_gd (db_127 hR hO (by omega) hd hpO hq) fun v s2 hv => ?_
  obtain ⟨v1, v2, v4⟩ := hv
  dsimp only at v1 v2 v4
  subst v1
  have hR2 := db_BR_F1 hO (by omega) v2 hR
  simp (disch := omega) only [db_lit, eq_self, db_pI_e, db_pL_e, db_bind_some, db_bd_some, nI_add, pk_mul, nI_toInt, db_m1_t, dz_cn, Int.ofNat_le, Int.ofNat_lt, decide_true, decide_false, db_ct, db_cf, not_true_eq_false, not_false_eq_true, db_87e, db_37e, db_31e, db_28e, db_281e, db_211e, db_27, db_269w, db_litL, pk_lT, db_iL, db_p0_e, db_p0_n, db_p0_j, db_sub1, nI_eq, if_true, if_false, Bool.false_eq_true, db_g_82, db_82 hR2 hp, db_m9999]
  show dz_T (cond (db_nok c d pp q) _ _) _
  cases hok : db_nok c d pp q with
  | false =>
    rw [db_cf, db_T_some]
    exact ⟨rfl, fun _ => ⟨db_F1_Ec v2 (fun j => by unfold db_ec; omega), v2.1 286 (by decide)⟩, fun h => (nomatch h), fun a a1 _ _ _ _ => v2.1 a a1⟩
  | true =>
    rw [db_ct]
    simp (disch := omega) only [db_lit, eq_self, db_pI_e, db_pL_e, db_bind_some, db_bd_some, nI_add, pk_mul, nI_toInt, db_m1_t, dz_cn, Int.ofNat_le, Int.ofNat_lt, decide_true, decide_false, db_ct, db_cf, not_true_eq_false, not_false_eq_true, db_87e, db_37e, db_31e, db_28e, db_281e, db_211e, db_27, db_269w, db_litL, pk_lT, db_iL, db_p0_e, db_p0_n, db_p0_j, db_sub1, nI_eq, if_true, if_false, Bool.false_eq_true, db_h_82, db_g_286, db_h_286]
    -- both ways: a number more
    have main : ∀ g : Int32, g = db_ng c d pp q → dz_T (db_f137_b93 (db_uI (db_uI (db_uI s2 82 pp (c (12 + pp) + db_rq c d (nI pp) q)) 80 3 ((db_uI s2 82 pp (c (12 + pp) + db_rq c d (nI pp) q)).1 80 3 + nI 1)) 286 1 ((db_uI (db_uI s2 82 pp (c (12 + pp) + db_rq c d (nI pp) q)) 80 3 ((db_uI s2 82 pp (c (12 + pp) + db_rq c d (nI pp) q)).1 80 3 + nI 1)).1 286 1 + nI 1)) (nI d) (nI 2) ((db_uI (db_uI (db_uI s2 82 pp (c (12 + pp) + db_rq c d (nI pp) q)) 80 3 ((db_uI s2 82 pp (c (12 + pp) + db_rq c d (nI pp) q)).1 80 3 + nI 1)) 286 1 ((db_uI (db_uI s2 82 pp (c (12 + pp) + db_rq c d (nI pp) q)) 80 3 ((db_uI s2 82 pp (c (12 + pp) + db_rq c d (nI pp) q)).1 80 3 + nI 1)).1 286 1 + nI 1)).1 286 2) g) (fun z => z.1 = true ∧ (z.1 = false → db_Ec s z.2 ∧ z.2.1 286 = s.1 286) ∧ (z.1 = true → db_B1 (U + 6) 20 z.2 (db_nx c d pp q) w ∧ db_Ed s z.2 ∧ z.2.1 286 1 = s.1 286 1 + nI 1 ∧ z.2.1 286 2 = s.1 286 2 + db_ng c d pp q ∧ z.2.1 286 3 = s.1 286 3 + nI (dz_nw c d pp q) ∧ ∀ j, j ≠ 1 → j ≠ 2 → j ≠ 3 → z.2.1 286 j = s.1 286 j) ∧ ∀ a, a ≠ 273 → a ≠ 80 → a ≠ 81 → a ≠ 82 → a ≠ 286 → z.2.1 a = s.1 a) := by
      intro g hg
      have e803 : (db_uI s2 82 pp (c (12 + pp) + db_rq c d (nI pp) q)).1 80 3 = c 6 := by rw [db_uI_n (by decide), v2.1 80 (by decide)]; exact (db_802 hR).2
      rw [e803]
      generalize hs3 : db_uI (db_uI (db_uI s2 82 pp (c (12 + pp) + db_rq c d (nI pp) q)) 80 3 (c 6 + nI 1)) 286 1 ((db_uI (db_uI s2 82 pp (c (12 + pp) + db_rq c d (nI pp) q)) 80 3 (c 6 + nI 1)).1 286 1 + nI 1) = s3
      have f2 : s3.2 = s.2 := by rw [← hs3, db_uI_2, db_uI_2, db_uI_2, v2.2]
      have f1 : ∀ a, a ≠ 273 → a ≠ 80 → a ≠ 82 → a ≠ 286 → s3.1 a = s.1 a := fun a a1 a2 a3 a4 => by rw [← hs3, db_uI_n a4, db_uI_n a2, db_uI_n a3, v2.1 a a1]
      have t1 : s3.1 286 1 = s.1 286 1 + nI 1 := by rw [← hs3, db_uI_1, db_uI_n (by decide), db_uI_n (by decide), v2.1 286 (by decide)]
      have tj : ∀ j, j ≠ 1 → s3.1 286 j = s.1 286 j := fun j hj => by rw [← hs3, db_uI_j hj, db_uI_n (by decide), db_uI_n (by decide), v2.1 286 (by decide)]
      have f80 : s3.1 80 3 = c 6 + nI 1 := by rw [← hs3, db_uI_n (by decide), db_uI_1]
      have f80j : ∀ j, j ≠ 3 → s3.1 80 j = s.1 80 j := fun j hj => by rw [← hs3, db_uI_n (by decide), db_uI_j hj, db_uI_n (by decide), v2.1 80 (by decide)]
      have f82 : ∀ p, s3.1 82 p = if p = pp then c (12 + pp) + db_rq c d (nI pp) q else s.1 82 p := fun p => by
        rw [← hs3, db_uI_n (by decide), db_uI_n (by decide)]
        by_cases e : p = pp
        · subst e; rw [db_uI_1, if_pos rfl]
        · rw [db_uI_j e, if_neg e, v2.1 82 (by decide)]
      have f273 : s3.1 273 = s2.1 273 := by rw [← hs3, db_uI_n (by decide), db_uI_n (by decide), db_uI_n (by decide)]
      clear hs3
      unfold db_f137_b93
      simp (disch := omega) only [db_lit, eq_self, db_pI_e, db_pL_e, db_bind_some, db_bd_some, nI_add, pk_mul, nI_toInt, db_m1_t, dz_cn, Int.ofNat_le, Int.ofNat_lt, decide_true, decide_false, db_ct, db_cf, not_true_eq_false, not_false_eq_true, db_87e, db_37e, db_31e, db_28e, db_281e, db_211e, db_27, db_269w, db_litL, pk_lT, db_iL, db_p0_e, db_p0_n, db_p0_j, db_sub1, nI_eq, if_true, if_false, Bool.false_eq_true, db_h_286, db_g_286, db_g_59]
      generalize hs4 : db_uI s3 286 2 (s3.1 286 2 + g) = s4
      have e59 : s4.1 59 d = nI (db_n c (127 + d)) := by rw [← hs4, db_uI_n (by decide), f1 59 (by decide) (by decide) (by decide) (by decide), (db_59 hR hd).1]; exact hL.1
      rw [e59]
      have h138 := db_138 (s := s4) (c := c) (row := db_dr c d) (n := db_n c (127 + d)) (p := nI pp) (q := q) (cc := db_cu (db_cu c (12 + pp) (c (12 + pp) + db_rq c d (nI pp) q)) 6 (c 6 + nI 1)) (by omega) j3 (fun i hi => by rw [← hs4, db_uI_n (by decide), f273]; exact v4 i hi) (fun r hr => by rw [← hs4, db_uI_n (by decide), f1 81 (by decide) (by decide) (by decide) (by decide), db_81 hR hr, db_cu_n (by omega), db_cu_n (by omega)])
      refine db_T_gd h138 fun x s5 hx => ?_
      obtain ⟨x1, x2, x3⟩ := hx
      dsimp only at x1 x2 x3
      have t4 : s4.1 286 3 = s.1 286 3 := by rw [← hs4, db_uI_j (by decide), tj 3 (by decide)]
      rw [db_T_some]
      refine ⟨rfl, fun h => (nomatch h), fun _ => ⟨?_, ?_, ?_, ?_, ?_, ?_⟩, ?_⟩
      · refine db_B1_nx hB hU hd hp hok (fun a q1 q2 q3 q4 q5 q6 => ?_) ?_ (fun r hr => ?_) (fun p hpp => ?_) ?_ ?_
        · show (db_uI s5 286 3 _).1 a = _
          rw [db_uI_n (by omega), x2.1 a q5, ← hs4, db_uI_n (by omega), f1 a (by omega) q4 q6 (by omega)]
        · show (db_uI s5 286 3 _).2 76 = _
          rw [db_uI_2, x2.2, ← hs4, db_uI_2, f2]
        · show (db_uI s5 286 3 _).1 81 r = _
          rw [db_uI_n (by decide), x3 r hr]
          rfl
        · show (db_uI s5 286 3 _).1 82 p = _
          rw [db_uI_n (by decide), x2.1 82 (by decide), ← hs4, db_uI_n (by decide), f82]
          unfold db_nx
          rw [db_we_n j3 (by omega), db_cu_n (by omega)]
          by_cases e : p = pp
          · subst e; rw [if_pos rfl, db_cu_1]
          · rw [if_neg e, db_cu_n (by omega)]; exact db_82 hR hpp
        · show (db_uI s5 286 3 _).1 80 2 = _
          rw [db_uI_n (by decide), x2.1 80 (by decide), ← hs4, db_uI_n (by decide), f80j 2 (by decide)]
          exact (db_802 hR).1
        · show (db_uI s5 286 3 _).1 80 3 = _
          rw [db_uI_n (by decide), x2.1 80 (by decide), ← hs4, db_uI_n (by decide), f80]
      · intro a j ha hb
        show (db_uI s5 286 3 _).1 a j = _ ∧ (db_uI s5 286 3 _).2 a j = _
        have q1 : a ≠ 286 := by rintro rfl; unfold db_ec at ha; omega
        have q2 : a ≠ 273 := by rintro rfl; unfold db_ec at ha; omega
        rw [db_uI_n q1, db_uI_2, x2.1 a (by omega), x2.2, ← hs4, db_uI_n q1, db_uI_2, f1 a q2 (by omega) (by omega) q1, f2]
        exact ⟨rfl, rfl⟩
      · show (db_uI s5 286 3 _).1 286 1 = _
        rw [db_uI_j (by decide), x2.1 286 (by decide), ← hs4, db_uI_j (by decide), t1]
      · show (db_uI s5 286 3 _).1 286 2 = _
        rw [db_uI_j (by decide), x2.1 286 (by decide), ← hs4, db_uI_1, tj 2 (by decide), hg]
      · show (db_uI s5 286 3 _).1 286 3 = _
        rw [db_uI_1, t4, x1]
        rfl
      · intro j j1 j2 j3
        show (db_uI s5 286 3 _).1 286 j = _
        rw [db_uI_j j3, x2.1 286 (by decide), ← hs4, db_uI_j j2, tj j j1]
      · intro a a1 a2 a3 a4 a5
        show (db_uI s5 286 3 _).1 a = _
        rw [db_uI_n a5, x2.1 a a3, ← hs4, db_uI_n a5, f1 a a1 a2 a4 a5]
    by_cases e : (db_rq c d (nI pp) q).toInt ≤ ((0 : Nat) : Int)
    · rw [decide_eq_true e, db_ct]
      exact main (nI 0) (by unfold db_ng; rw [if_pos e])
    · rw [decide_eq_false e, db_cf]
      exact main (nI 1) (by unfold db_ng; rw [if_neg e])
end DBN1
