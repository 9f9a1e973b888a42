/-! STRIKES, MENDS, PRINTS, NIGHTS -/
def db_cu (c : db_C) (k : Nat) (v : Int32) : db_C := fun j => if j = k then v else c j
theorem db_cu_1 {c : db_C} {k : Nat} {v : Int32} : db_cu c k v k = v := if_pos rfl
theorem db_cu_n {c : db_C} {k j : Nat} {v : Int32} (h : j ≠ k) : db_cu c k v j = c j := if_neg h
/-- the same book, place by place -/
theorem db_B1_A {U o : Nat} {s : db_S} {c c' : db_C} {w : Nat → Int64} (hB : db_B1 U o s c w) (h : ∀ k, k < 480 → c' k = c k) : db_B1 U o s c' w := by
  have hO := hB.1
  have hR := hB.2.1
  have j1 := hO.1.2.1.2
  have j3 := hO.1.2.2.2.1.2
  refine db_B1_u hB (fun k hk => h k hk.1) (fun _ _ _ _ _ _ _ => rfl) rfl (fun r hr => ?_) (fun p hp => ?_) ⟨?_, ?_⟩ ⟨?_, ?_⟩
  · rw [h (91 + r) (by omega)]
    exact ⟨hR.2.2.2.2.2.2.2.2.2.2.1 r hr, (hO.2.1 r hr).2.2.2.2.2.2⟩
  · rw [h (12 + p) (by omega)]
    exact ⟨hR.2.2.2.2.2.2.2.2.2.2.2.1 p hp, (hO.2.2.2.2.1 p hp).2⟩
  · rw [h 7 (by omega)]; exact hR.2.2.2.2.2.2.2.2.2.2.2.2.1
  · rw [h 7 (by omega)]; exact hO.2.2.2.2.2.2.1
  · rw [h 6 (by omega)]; exact hR.2.2.2.2.2.2.2.2.2.2.2.2.2
  · rw [h 6 (by omega)]; exact hO.2.2.2.2.2.2.2
theorem db_bk_0 {s : db_S} {k : Nat} (hk : k < 480) : db_bk s 0 k = s.1 674 k := (db_bk_A k hk).symm
/-- the class's life changes: all else that lasts is as it was -/
def db_Ed (s s' : db_S) : Prop := ∀ a j, db_ec a j → ¬ (80 ≤ a ∧ a ≤ 82) → s'.1 a j = s.1 a j ∧ s'.2 a j = s.2 a j
def db_Eo (s s' : db_S) : Prop := ∀ a j, db_em a j → ¬ (a = 674 ∧ j < 480) → s'.1 a j = s.1 a j ∧ s'.2 a j = s.2 a j
theorem db_Ed_r {s : db_S} : db_Ed s s := fun _ _ _ _ => ⟨rfl, rfl⟩
theorem db_Eo_r {s : db_S} : db_Eo s s := fun _ _ _ _ => ⟨rfl, rfl⟩
theorem db_Ed_t {s s1 s2 : db_S} (h : db_Ed s s1) (k : db_Ed s1 s2) : db_Ed s s2 := fun a j q n => ⟨(k a j q n).1.trans (h a j q n).1, (k a j q n).2.trans (h a j q n).2⟩
theorem db_Eo_t {s s1 s2 : db_S} (h : db_Eo s s1) (k : db_Eo s1 s2) : db_Eo s s2 := fun a j q n => ⟨(k a j q n).1.trans (h a j q n).1, (k a j q n).2.trans (h a j q n).2⟩
theorem db_Ec_Ed {s s1 : db_S} (h : db_Ec s s1) : db_Ed s s1 := fun a j q _ => h a j q
theorem db_Em_Eo {s s1 : db_S} (h : db_Em s s1) : db_Eo s s1 := fun a j q _ => h a j q
theorem db_Ed_u {s s1 : db_S} {a j : Nat} {x : Int32} (h : db_Ed s s1) (q : ¬ db_ec a j ∨ (80 ≤ a ∧ a ≤ 82)) : db_Ed s (db_uI s1 a j x) := fun b i p n => by
  refine ⟨?_, (h b i p n).2⟩
  rw [db_uI_if, if_neg (by rintro ⟨rfl, rfl⟩; rcases q with q | q; exact q p; exact n q)]
  exact (h b i p n).1
theorem db_Eo_u {s s1 : db_S} {a j : Nat} {x : Int32} (h : db_Eo s s1) (q : ¬ db_em a j ∨ (a = 674 ∧ j < 480)) : db_Eo s (db_uI s1 a j x) := fun b i p n => by
  refine ⟨?_, (h b i p n).2⟩
  rw [db_uI_if, if_neg (by rintro ⟨rfl, rfl⟩; rcases q with q | q; exact q p; exact n q)]
  exact (h b i p n).1
/-- a call that changes the book's life -/
theorem db_Inv_l {U U' : Nat} {s s0 s1 s2 s3 : db_S} {c' : db_C} {st : Int32} (hI : db_Inv U s) (hUU : U ≤ U') (h1 : db_Ed s s0) (e1 : s1 = db_uI s0 4 0 st) (hB : db_B1 U' 20 s0 c' (db_bw s 0)) (h2 : db_Eo (db_p0 s1) s2) (h3 : s3 = s2 ∧ st = nI 0 ∨ s3 = db_uI s2 669 0 st) (hA : db_A s2 c') : db_Inv U' s3 := by
  have f1 : ∀ a j, db_ec a j → ¬ (80 ≤ a ∧ a ≤ 82) → ¬ (a = 4 ∧ j = 0) → s1.1 a j = s.1 a j ∧ s1.2 a j = s.2 a j := fun a j q n m => by
    rw [e1, db_uI_if, if_neg m, db_uI_2]
    exact h1 a j q n
  have f2 : ∀ a j, db_em a j → ¬ (a = 674 ∧ j < 480) → ¬ (a = 669 ∧ j = 0) → s3.1 a j = s1.1 a j ∧ s3.2 a j = s1.2 a j := fun a j q n m => by
    have g1 := h2 a j q n
    have g2 := db_p0_m (s := s1) a j q m
    rcases h3 with ⟨h3, -⟩ | h3
    · rw [h3]
      exact ⟨g1.1.trans g2.1, g1.2.trans g2.2⟩
    · rw [h3, db_uI_if, if_neg m, db_uI_2]
      exact ⟨g1.1.trans g2.1, g1.2.trans g2.2⟩
  have f3 : s3.1 674 = s2.1 674 := by
    rcases h3 with ⟨h3, -⟩ | h3
    · rw [h3]
    · rw [h3, db_uI_n (by decide)]
  refine db_Inv_u hI hUU (fun a j he n1 n2 n3 n4 n5 => ?_) ?_ ?_
  · have q1 := f2 a j (by rcases he with he | he; exact .inl he.1; exact he.2) n4 n2
    have q2 := f1 a j (by rcases he with he | he; exact he.2; unfold db_ec; omega) (by omega) n1
    exact ⟨q1.1.trans q2.1, q1.2.trans q2.2⟩
  · rw [(f2 4 0 (.inl (by omega)) (by omega) (by omega)).1, e1, db_uI_1]
    rcases h3 with ⟨h3, h4⟩ | h3
    · rw [h3, (h2 669 0 (by unfold db_em; omega) (by omega)).1, db_p0_0, h4]
    · rw [h3, db_uI_1]
  · have w0 : db_bw s3 0 = db_bw s 0 := by
      funext k
      unfold db_bw
      by_cases hk : k < 37
      · rw [if_pos hk, if_pos hk, (f2 676 _ (by unfold db_em; omega) (by omega) (by omega)).2, (f1 676 _ (by unfold db_ec; omega) (by omega) (by omega)).2]
      · rw [if_neg hk, if_neg hk]
    rw [w0]
    refine db_B1_A (c := c') ?_ fun k hk => by rw [db_bk_0 hk, f3]; exact hA k hk
    refine db_B1_c (fun a q1 q2 q3 => ?_) ?_ hB
    · funext j
      rw [(f2 a j (.inl (by omega)) (by omega) (by omega)).1, e1, db_uI_n (by omega)]
    · funext j
      rw [(f2 (20 + 56) j (.inl (by omega)) (by omega) (by omega)).2, e1, db_uI_2]
section DBL1
variable {U : Nat} {s : db_S} {c : db_C} {w : Nat → Int64} {v x y z p q : Int32}
/-- one place of the class's life -/
theorem db_B1_7 (hB : db_B1 U 20 s c w) {x : Int32} (hx : ∃ f, x = db_mk f (db_n c 3)) : db_B1 U 20 (db_uI s 80 2 x) (db_cu c 7 x) w := by
  have hO := hB.1
  have hR := hB.2.1
  have j1 := hO.1.2.1.2
  have j3 := hO.1.2.2.2.1.2
  refine db_B1_u hB (fun k hk => db_cu_n hk.2.2.1) (fun a q1 q2 q3 q4 q5 q6 => db_uI_n q4) rfl (fun r hr => ?_) (fun p hp => ?_) ⟨?_, ?_⟩ ⟨?_, ?_⟩
  · rw [db_cu_n (by omega), db_uI_n (by decide)]
    exact ⟨db_81 hR hr, (hO.2.1 r hr).2.2.2.2.2.2⟩
  · rw [db_cu_n (by omega), db_uI_n (by decide)]
    exact ⟨db_82 hR hp, (hO.2.2.2.2.1 p hp).2⟩
  · rw [db_cu_1, db_uI_1]
  · rw [db_cu_1]; exact hx
  · rw [db_cu_n (by omega), db_uI_j (by decide)]; exact (db_802 hR).2
  · rw [db_cu_n (by omega)]; exact hO.2.2.2.2.2.2.2
theorem db_B1_91 (hB : db_B1 U 20 s c w) {r : Nat} (hr : r < db_n c 3) {x : Int32} (h1 : 0 ≤ x.toInt) (h2 : x.toInt ≤ U) : db_B1 U 20 (db_uI s 81 r x) (db_cu c (91 + r) x) w := by
  have hO := hB.1
  have hR := hB.2.1
  have j1 := hO.1.2.1.2
  have j3 := hO.1.2.2.2.1.2
  refine db_B1_u hB (fun k hk => db_cu_n (by have := hk.2.2.2.2; omega)) (fun a q1 q2 q3 q4 q5 q6 => db_uI_n q5) rfl (fun r' hr' => ?_) (fun p hp => ?_) ⟨?_, ?_⟩ ⟨?_, ?_⟩
  · by_cases e : r' = r
    · subst e
      rw [db_cu_1]
      exact ⟨db_uI_1, h1, h2⟩
    · rw [db_cu_n (by omega), db_uI_j e]
      exact ⟨db_81 hR hr', (hO.2.1 r' hr').2.2.2.2.2.2⟩
  · rw [db_cu_n (by omega), db_uI_n (by decide)]
    exact ⟨db_82 hR hp, (hO.2.2.2.2.1 p hp).2⟩
  · rw [db_cu_n (by omega), db_uI_n (by decide)]; exact (db_802 hR).1
  · rw [db_cu_n (by omega)]; exact hO.2.2.2.2.2.2.1
  · rw [db_cu_n (by omega), db_uI_n (by decide)]; exact (db_802 hR).2
  · rw [db_cu_n (by omega)]; exact hO.2.2.2.2.2.2.2
theorem db_mk_set {f : Nat → Bool} {n r : Nat} (hr : r < n) (hn : n ≤ 31) : db_mk f n ||| db_b1 r = db_mk (fun k => f k || decide (k = r)) n := db_mk_eq (by omega) fun i hi => by
  rw [b_or, db_mk_bt (by omega) hi, db_b1_bt (by omega) hi]
  by_cases e : i = r
  · subst e
    simp [hr]
  · simp [e]
theorem db_mk_clr {f : Nat → Bool} {n r : Nat} (hn : n ≤ 31) (hr : r < 32) : db_mk f n &&& (db_b1 r ^^^ -(nI 1)) = db_mk (fun k => f k && !decide (k = r)) n := db_mk_eq (by omega) fun i hi => by
  rw [b_and, b_xor, db_mk_bt (by omega) hi, db_b1_bt hr hi, show -(nI 1) = (-1 : Int32) from rfl, b_m1 i hi]
  cases decide (i < n) <;> cases f i <;> cases decide (i = r) <;> rfl
theorem db_k23 (hI : db_Inv U s) : dz_G U s (fun s => db_f120 s x) (fun s => db_f309 s x) := by
  have hB := db_cur hI
  obtain ⟨hO, hR, -⟩ := db_cur hI
  have k3 := db_Ok_K hO (show 3 < 6 by omega)
  have k12 := k3.2
  cases h : db_is x (db_n (db_bk s 0) 3) with
  | false =>
    refine db_GnB 2 hI ?_ fun s1 hS hA => ?_
    · unfold db_f120
      simp (disch := omega) only [db_lit, eq_self, db_pI_e, db_pL_e, db_bind_some, db_bd_some, nI_add, pk_mul, nI_toInt, db_m1_t, dz_cn, Int.ofNat_le, Int.ofNat_lt, decide_true, decide_false, db_ct, db_cf, not_true_eq_false, not_false_eq_true, db_87e, db_37e, db_31e, db_28e, db_281e, db_211e, db_27, db_269w, db_litL, pk_lT, db_iL, db_p0_e, db_p0_n, db_p0_j, db_sub1, nI_eq, if_true, if_false, Bool.false_eq_true, db_103 hR hO, h]
    · unfold db_f309
      simp (disch := omega) only [db_lit, eq_self, db_pI_e, db_pL_e, db_bind_some, db_bd_some, nI_add, pk_mul, nI_toInt, db_m1_t, dz_cn, Int.ofNat_le, Int.ofNat_lt, decide_true, decide_false, db_ct, db_cf, not_true_eq_false, not_false_eq_true, db_87e, db_37e, db_31e, db_28e, db_281e, db_211e, db_27, db_269w, db_litL, pk_lT, db_iL, db_p0_e, db_p0_n, db_p0_j, db_sub1, nI_eq, if_true, if_false, Bool.false_eq_true, db_289 (db_p0_A hA) k3, h]
  | true =>
    obtain ⟨r, hr, rfl⟩ := db_is_t h
    cases hb : bt (db_bk s 0 7) r with
    | true =>
      refine db_GnB 9 hI ?_ fun s1 hS hA => ?_
      · unfold db_f120 db_f121_80
        simp (disch := omega) only [db_lit, eq_self, db_pI_e, db_pL_e, db_bind_some, db_bd_some, nI_add, pk_mul, nI_toInt, db_m1_t, dz_cn, Int.ofNat_le, Int.ofNat_lt, decide_true, decide_false, db_ct, db_cf, not_true_eq_false, not_false_eq_true, db_87e, db_37e, db_31e, db_28e, db_281e, db_211e, db_27, db_269w, db_litL, pk_lT, db_iL, db_p0_e, db_p0_n, db_p0_j, db_sub1, nI_eq, if_true, if_false, Bool.false_eq_true, db_103 hR hO, h, (db_802 hR).1, db_112 (show r < 31 by omega), hb]
      · unfold db_f309 db_f310
        simp (disch := omega) only [db_lit, eq_self, db_pI_e, db_pL_e, db_bind_some, db_bd_some, nI_add, pk_mul, nI_toInt, db_m1_t, dz_cn, Int.ofNat_le, Int.ofNat_lt, decide_true, decide_false, db_ct, db_cf, not_true_eq_false, not_false_eq_true, db_87e, db_37e, db_31e, db_28e, db_281e, db_211e, db_27, db_269w, db_litL, pk_lT, db_iL, db_p0_e, db_p0_n, db_p0_j, db_sub1, nI_eq, if_true, if_false, Bool.false_eq_true, db_289 (db_p0_A hA) k3, h, db_g_674, hA, db_287 (show r < 31 by omega), hb]
    | false =>
      obtain ⟨f, hf⟩ := hO.2.2.2.2.2.2.1
      have hx : ∃ g, db_bk s 0 7 ||| db_b1 r = db_mk g (db_n (db_bk s 0) 3) := ⟨_, by rw [hf]; exact db_mk_set hr (by omega)⟩
      have hB' := db_B1_7 hB hx
      have hA1 : db_A (db_uI (db_uI s 80 2 (db_bk s 0 7 ||| db_b1 r)) 4 0 (nI 0)) (db_bk s 0) := fun k hk => by
        rw [db_uI_n (by decide), db_uI_n (by decide)]; exact db_bk_A k hk
      refine ⟨true, db_uI (db_uI s 80 2 (db_bk s 0 7 ||| db_b1 r)) 4 0 (nI 0), db_uI (db_p0 (db_uI (db_uI s 80 2 (db_bk s 0 7 ||| db_b1 r)) 4 0 (nI 0))) 674 7 (db_bk s 0 7 ||| db_b1 r), ?_, ?_, db_Inv_l hI (Nat.le_refl U) (db_Ed_u db_Ed_r (.inr (by omega))) rfl hB' (db_Eo_u db_Eo_r (.inr (by omega))) (.inl ⟨rfl, rfl⟩) ?_⟩
      · unfold db_f120 db_f121_80
        simp (disch := omega) only [db_lit, eq_self, db_pI_e, db_pL_e, db_bind_some, db_bd_some, nI_add, pk_mul, nI_toInt, db_m1_t, dz_cn, Int.ofNat_le, Int.ofNat_lt, decide_true, decide_false, db_ct, db_cf, not_true_eq_false, not_false_eq_true, db_87e, db_37e, db_31e, db_28e, db_281e, db_211e, db_27, db_269w, db_litL, pk_lT, db_iL, db_p0_e, db_p0_n, db_p0_j, db_sub1, nI_eq, if_true, if_false, Bool.false_eq_true, db_103 hR hO, h, (db_802 hR).1, db_112 (show r < 31 by omega), hb]
        rfl
      · have hA2 := db_p0_A hA1
        unfold db_f309 db_f310
        simp (disch := omega) only [db_lit, eq_self, db_pI_e, db_pL_e, db_bind_some, db_bd_some, nI_add, pk_mul, nI_toInt, db_m1_t, dz_cn, Int.ofNat_le, Int.ofNat_lt, decide_true, decide_false, db_ct, db_cf, not_true_eq_false, not_false_eq_true, db_87e, db_37e, db_31e, db_28e, db_281e, db_211e, db_27, db_269w, db_litL, pk_lT, db_iL, db_p0_e, db_p0_n, db_p0_j, db_sub1, nI_eq, if_true, if_false, Bool.false_eq_true]
        generalize db_p0 (db_uI (db_uI s 80 2 (db_bk s 0 7 ||| db_b1 r)) 4 0 (nI 0)) = s2 at hA2
        simp (disch := omega) only [db_lit, eq_self, db_pI_e, db_pL_e, db_bind_some, db_bd_some, nI_add, pk_mul, nI_toInt, db_m1_t, dz_cn, Int.ofNat_le, Int.ofNat_lt, decide_true, decide_false, db_ct, db_cf, not_true_eq_false, not_false_eq_true, db_87e, db_37e, db_31e, db_28e, db_281e, db_211e, db_27, db_269w, db_litL, pk_lT, db_iL, db_p0_e, db_p0_n, db_p0_j, db_sub1, nI_eq, if_true, if_false, Bool.false_eq_true, db_289 hA2 k3, h, db_g_674, db_h_674, hA2, db_287 (show r < 31 by omega), hb]
        rfl
      · intro k hk
        by_cases e : k = 7
        · subst e; rw [db_uI_1, db_cu_1]
        · rw [db_uI_j e, db_cu_n e]; exact db_p0_A hA1 k hk
theorem db_k24 (hI : db_Inv U s) : dz_G U s (fun s => db_f122 s x) (fun s => db_f311 s x) := by
  have hB := db_cur hI
  obtain ⟨hO, hR, -⟩ := db_cur hI
  have k3 := db_Ok_K hO (show 3 < 6 by omega)
  have k12 := k3.2
  cases h : db_is x (db_n (db_bk s 0) 3) with
  | false =>
    refine db_GnB 2 hI ?_ fun s1 hS hA => ?_
    · unfold db_f122
      simp (disch := omega) only [db_lit, eq_self, db_pI_e, db_pL_e, db_bind_some, db_bd_some, nI_add, pk_mul, nI_toInt, db_m1_t, dz_cn, Int.ofNat_le, Int.ofNat_lt, decide_true, decide_false, db_ct, db_cf, not_true_eq_false, not_false_eq_true, db_87e, db_37e, db_31e, db_28e, db_281e, db_211e, db_27, db_269w, db_litL, pk_lT, db_iL, db_p0_e, db_p0_n, db_p0_j, db_sub1, nI_eq, if_true, if_false, Bool.false_eq_true, db_103 hR hO, h]
    · unfold db_f311
      simp (disch := omega) only [db_lit, eq_self, db_pI_e, db_pL_e, db_bind_some, db_bd_some, nI_add, pk_mul, nI_toInt, db_m1_t, dz_cn, Int.ofNat_le, Int.ofNat_lt, decide_true, decide_false, db_ct, db_cf, not_true_eq_false, not_false_eq_true, db_87e, db_37e, db_31e, db_28e, db_281e, db_211e, db_27, db_269w, db_litL, pk_lT, db_iL, db_p0_e, db_p0_n, db_p0_j, db_sub1, nI_eq, if_true, if_false, Bool.false_eq_true, db_289 (db_p0_A hA) k3, h]
  | true =>
    obtain ⟨r, hr, rfl⟩ := db_is_t h
    cases hb : bt (db_bk s 0 7) r with
    | false =>
      refine db_GnB 9 hI ?_ fun s1 hS hA => ?_
      · unfold db_f122
        simp (disch := omega) only [db_lit, eq_self, db_pI_e, db_pL_e, db_bind_some, db_bd_some, nI_add, pk_mul, nI_toInt, db_m1_t, dz_cn, Int.ofNat_le, Int.ofNat_lt, decide_true, decide_false, db_ct, db_cf, not_true_eq_false, not_false_eq_true, db_87e, db_37e, db_31e, db_28e, db_281e, db_211e, db_27, db_269w, db_litL, pk_lT, db_iL, db_p0_e, db_p0_n, db_p0_j, db_sub1, nI_eq, if_true, if_false, Bool.false_eq_true, db_103 hR hO, h, (db_802 hR).1, db_112 (show r < 31 by omega), hb]
      · unfold db_f311
        simp (disch := omega) only [db_lit, eq_self, db_pI_e, db_pL_e, db_bind_some, db_bd_some, nI_add, pk_mul, nI_toInt, db_m1_t, dz_cn, Int.ofNat_le, Int.ofNat_lt, decide_true, decide_false, db_ct, db_cf, not_true_eq_false, not_false_eq_true, db_87e, db_37e, db_31e, db_28e, db_281e, db_211e, db_27, db_269w, db_litL, pk_lT, db_iL, db_p0_e, db_p0_n, db_p0_j, db_sub1, nI_eq, if_true, if_false, Bool.false_eq_true, db_289 (db_p0_A hA) k3, h, db_g_674, hA, db_287 (show r < 31 by omega), hb]
    | true =>
      obtain ⟨f, hf⟩ := hO.2.2.2.2.2.2.1
      have hx : ∃ g, db_bk s 0 7 &&& (db_b1 r ^^^ -(nI 1)) = db_mk g (db_n (db_bk s 0) 3) := ⟨_, by rw [hf]; exact db_mk_clr (by omega) (by omega)⟩
      have hB' := db_B1_7 hB hx
      have hA1 : db_A (db_uI (db_uI s 80 2 (db_bk s 0 7 &&& (db_b1 r ^^^ -(nI 1)))) 4 0 (nI 0)) (db_bk s 0) := fun k hk => by
        rw [db_uI_n (by decide), db_uI_n (by decide)]; exact db_bk_A k hk
      refine ⟨true, db_uI (db_uI s 80 2 (db_bk s 0 7 &&& (db_b1 r ^^^ -(nI 1)))) 4 0 (nI 0), db_uI (db_p0 (db_uI (db_uI s 80 2 (db_bk s 0 7 &&& (db_b1 r ^^^ -(nI 1)))) 4 0 (nI 0))) 674 7 (db_bk s 0 7 &&& (db_b1 r ^^^ -(nI 1))), ?_, ?_, db_Inv_l hI (Nat.le_refl U) (db_Ed_u db_Ed_r (.inr (by omega))) rfl hB' (db_Eo_u db_Eo_r (.inr (by omega))) (.inl ⟨rfl, rfl⟩) ?_⟩
      · unfold db_f122
        simp (disch := omega) only [db_lit, eq_self, db_pI_e, db_pL_e, db_bind_some, db_bd_some, nI_add, pk_mul, nI_toInt, db_m1_t, dz_cn, Int.ofNat_le, Int.ofNat_lt, decide_true, decide_false, db_ct, db_cf, not_true_eq_false, not_false_eq_true, db_87e, db_37e, db_31e, db_28e, db_281e, db_211e, db_27, db_269w, db_litL, pk_lT, db_iL, db_p0_e, db_p0_n, db_p0_j, db_sub1, nI_eq, if_true, if_false, Bool.false_eq_true, db_103 hR hO, h, (db_802 hR).1, db_112 (show r < 31 by omega), hb]
        rfl
      · have hA2 := db_p0_A hA1
        unfold db_f311
        simp (disch := omega) only [db_lit, eq_self, db_pI_e, db_pL_e, db_bind_some, db_bd_some, nI_add, pk_mul, nI_toInt, db_m1_t, dz_cn, Int.ofNat_le, Int.ofNat_lt, decide_true, decide_false, db_ct, db_cf, not_true_eq_false, not_false_eq_true, db_87e, db_37e, db_31e, db_28e, db_281e, db_211e, db_27, db_269w, db_litL, pk_lT, db_iL, db_p0_e, db_p0_n, db_p0_j, db_sub1, nI_eq, if_true, if_false, Bool.false_eq_true]
        generalize db_p0 (db_uI (db_uI s 80 2 (db_bk s 0 7 &&& (db_b1 r ^^^ -(nI 1)))) 4 0 (nI 0)) = s2 at hA2
        simp (disch := omega) only [db_lit, eq_self, db_pI_e, db_pL_e, db_bind_some, db_bd_some, nI_add, pk_mul, nI_toInt, db_m1_t, dz_cn, Int.ofNat_le, Int.ofNat_lt, decide_true, decide_false, db_ct, db_cf, not_true_eq_false, not_false_eq_true, db_87e, db_37e, db_31e, db_28e, db_281e, db_211e, db_27, db_269w, db_litL, pk_lT, db_iL, db_p0_e, db_p0_n, db_p0_j, db_sub1, nI_eq, if_true, if_false, Bool.false_eq_true, db_289 hA2 k3, h, db_g_674, db_h_674, hA2, db_287 (show r < 31 by omega), hb]
        rfl
      · intro k hk
        by_cases e : k = 7
        · subst e; rw [db_uI_1, db_cu_1]
        · rw [db_uI_j e, db_cu_n e]; exact db_p0_A hA1 k hk
theorem db_k25 (hI : db_Inv U s) : dz_G U s (fun s => db_f123 s x) (fun s => db_f312 s x) := by
  have hB := db_cur hI
  obtain ⟨hO, hR, -⟩ := db_cur hI
  have k3 := db_Ok_K hO (show 3 < 6 by omega)
  have k12 := k3.2
  cases h : db_is x (db_n (db_bk s 0) 3) with
  | false =>
    refine db_Gn 2 hI ?_ fun s1 hS hA => ?_
    · unfold db_f123
      simp (disch := omega) only [db_lit, eq_self, db_pI_e, db_pL_e, db_bind_some, db_bd_some, nI_add, pk_mul, nI_toInt, db_m1_t, dz_cn, Int.ofNat_le, Int.ofNat_lt, decide_true, decide_false, db_ct, db_cf, not_true_eq_false, not_false_eq_true, db_87e, db_37e, db_31e, db_28e, db_281e, db_211e, db_27, db_269w, db_litL, pk_lT, db_iL, db_p0_e, db_p0_n, db_p0_j, db_sub1, nI_eq, if_true, if_false, Bool.false_eq_true, db_103 hR hO, h]
    · unfold db_f312
      simp (disch := omega) only [db_lit, eq_self, db_pI_e, db_pL_e, db_bind_some, db_bd_some, nI_add, pk_mul, nI_toInt, db_m1_t, dz_cn, Int.ofNat_le, Int.ofNat_lt, decide_true, decide_false, db_ct, db_cf, not_true_eq_false, not_false_eq_true, db_87e, db_37e, db_31e, db_28e, db_281e, db_211e, db_27, db_269w, db_litL, pk_lT, db_iL, db_p0_e, db_p0_n, db_p0_j, db_sub1, nI_eq, if_true, if_false, Bool.false_eq_true, db_289 (db_p0_A hA) k3, h]
  | true =>
    obtain ⟨r, hr, rfl⟩ := db_is_t h
    have hB' := db_B1_91 hB hr (x := nI 0) (by decide) (by rw [show (nI 0).toInt = 0 by decide]; omega)
    have hA1 : db_A (db_uI (db_uI s 81 r (nI 0)) 4 0 (nI 0)) (db_bk s 0) := fun k hk => by
      rw [db_uI_n (by decide), db_uI_n (by decide)]; exact db_bk_A k hk
    refine ⟨db_bk s 0 (91 + r), db_uI (db_uI s 81 r (nI 0)) 4 0 (nI 0), db_uI (db_p0 (db_uI (db_uI s 81 r (nI 0)) 4 0 (nI 0))) 674 (91 + r) (nI 0), ?_, ?_, db_Inv_l hI (Nat.le_refl U) (db_Ed_u db_Ed_r (.inr (by omega))) rfl hB' (db_Eo_u db_Eo_r (.inr (by omega))) (.inl ⟨rfl, rfl⟩) ?_⟩
    · unfold db_f123
      simp (disch := omega) only [db_lit, eq_self, db_pI_e, db_pL_e, db_bind_some, db_bd_some, nI_add, pk_mul, nI_toInt, db_m1_t, dz_cn, Int.ofNat_le, Int.ofNat_lt, decide_true, decide_false, db_ct, db_cf, not_true_eq_false, not_false_eq_true, db_87e, db_37e, db_31e, db_28e, db_281e, db_211e, db_27, db_269w, db_litL, pk_lT, db_iL, db_p0_e, db_p0_n, db_p0_j, db_sub1, nI_eq, if_true, if_false, Bool.false_eq_true, db_103 hR hO, h, db_g_81, db_h_81, db_81 hR hr]
    · have hA2 := db_p0_A hA1
      unfold db_f312
      simp (disch := omega) only [db_lit, eq_self, db_pI_e, db_pL_e, db_bind_some, db_bd_some, nI_add, pk_mul, nI_toInt, db_m1_t, dz_cn, Int.ofNat_le, Int.ofNat_lt, decide_true, decide_false, db_ct, db_cf, not_true_eq_false, not_false_eq_true, db_87e, db_37e, db_31e, db_28e, db_281e, db_211e, db_27, db_269w, db_litL, pk_lT, db_iL, db_p0_e, db_p0_n, db_p0_j, db_sub1, nI_eq, if_true, if_false, Bool.false_eq_true]
      generalize db_p0 (db_uI (db_uI s 81 r (nI 0)) 4 0 (nI 0)) = s2 at hA2
      simp (disch := omega) only [db_lit, eq_self, db_pI_e, db_pL_e, db_bind_some, db_bd_some, nI_add, pk_mul, nI_toInt, db_m1_t, dz_cn, Int.ofNat_le, Int.ofNat_lt, decide_true, decide_false, db_ct, db_cf, not_true_eq_false, not_false_eq_true, db_87e, db_37e, db_31e, db_28e, db_281e, db_211e, db_27, db_269w, db_litL, pk_lT, db_iL, db_p0_e, db_p0_n, db_p0_j, db_sub1, nI_eq, if_true, if_false, Bool.false_eq_true, db_289 hA2 k3, h, db_g_674, db_h_674, hA2]
    · intro k hk
      by_cases e : k = 91 + r
      · subst e; rw [db_uI_1, db_cu_1]
      · rw [db_uI_j e, db_cu_n e]; exact db_p0_A hA1 k hk
end DBL1
