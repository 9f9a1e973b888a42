/-! AT LEAST, the reference's -/
section DBAN
variable {U : Nat} {s : db_S} {c : db_C} {w : Nat → Int64} {x y z p q : Int32} {P : Bool × db_S → Prop}
/-- one dream added to the sums -/
theorem dw_183 {h116 : db_S → Int32 → Int32 → Int32 → Int32 → Int32 → Option (Bool × db_S)} {h152 : db_S → Int32 → Int32 → Int32 → Int32 → Int32 → Int32 → Option (Bool × db_S)} {v1 v2 v3 v4 v5 r : Int32} {d k i0 j0 : Nat} {α β : Nat → Nat} (hd : d < 8) (hk : s.1 674 (143 + d) = nI k) (hk2 : k ≤ 99) (hr : r.toInt = (j0 : Int) - i0) (hij : i0 = 0 ∨ j0 = 0) (hi : i0 ≤ 600) (hj : j0 ≤ 600) (hα : ∀ j, j < 7201 → s.2 681 j = lN (α j)) (hβ : ∀ j, j < 7201 → s.2 682 j = lN (β j))
    (hP : ∀ z : db_S, z.1 = s.1 → (∀ b, b ≠ 682 → z.2 b = s.2 b) → (∀ j, j < 7201 → z.2 682 j = lN (if j0 ≤ j ∧ j < 7201 - i0 then β j + α (j - j0 + i0) * k else β j)) → dz_T (db_f365_b245 h116 h152 z v1 v2 v3 v4 v5 (nI d)) P) : dz_T (db_f365_b183 h116 h152 db_FU s v1 v2 v3 v4 v5 (nI d) r (nI i0)) P := by
  have es : ∀ t, t ≤ 7201 - i0 - j0 → nI (i0 + t) + r = nI (j0 + t) := fun t ht => by
    rw [fa_eq, fb_addI (by rw [nI_toInt (by omega)]; omega) (by rw [nI_toInt (by omega)]; omega), nI_toInt (by omega), nI_toInt (by omega), hr]
    omega
  have hgo := db_loop (L := fun m a t => db_f365_b183 h116 h152 m a v1 v2 v3 v4 v5 (nI d) r (nI (i0 + t))) (N := 7201 - i0 - j0) (P := P) (fun t a => a.1 = s.1 ∧ (∀ b, b ≠ 682 → a.2 b = s.2 b) ∧ ∀ j, j < 7201 → a.2 682 j = lN (if j0 ≤ j ∧ j < j0 + t then β j + α (j - j0 + i0) * k else β j)) ?_ ?_ (n := db_FU) (a := s) (by unfold db_FU; omega) ⟨rfl, fun b _ => rfl, fun j hj => by rw [if_neg (by omega)]; exact hβ j hj⟩
  · exact hgo
  · rintro m a ⟨g1, g2, g3⟩
    show dz_T (db_f365_b183 h116 h152 (m + 1) a v1 v2 v3 v4 v5 (nI d) r (nI (i0 + (7201 - i0 - j0)))) P
    rw [db_f365_b183]
    have hfin : dz_T (db_f365_b245 h116 h152 a v1 v2 v3 v4 v5 (nI d)) P := hP a g1 g2 fun j hj => by
      rw [g3 j hj]
      by_cases e : j0 ≤ j ∧ j < 7201 - i0
      · rw [if_pos e, if_pos (by omega)]
      · rw [if_neg e, if_neg (by omega)]
    have ee := es (7201 - i0 - j0) (Nat.le_refl _)
    by_cases h0 : 7201 ≤ i0 + (7201 - i0 - j0)
    · simp (disch := omega) only [db_lit, eq_self, db_pI_e, db_pL_e, db_bind_some, db_bd_some, nI_add, pk_mul, nI_toInt, db_m1_t, dz_cn, Int.ofNat_le, Int.ofNat_lt, decide_true, decide_false, db_ct, db_cf, not_true_eq_false, not_false_eq_true, h0]
      exact hfin
    · simp (disch := omega) only [db_lit, eq_self, db_pI_e, db_pL_e, db_bind_some, db_bd_some, nI_add, pk_mul, nI_toInt, db_m1_t, dz_cn, Int.ofNat_le, Int.ofNat_lt, decide_true, decide_false, db_ct, db_cf, not_true_eq_false, not_false_eq_true, h0, ee, (show 7201 ≤ j0 + (7201 - i0 - j0) by omega)]
      exact hfin
  · rintro m t a ht ⟨g1, g2, g3⟩ hrec
    show dz_T (db_f365_b183 h116 h152 (m + 1) a v1 v2 v3 v4 v5 (nI d) r (nI (i0 + t))) P
    rw [db_f365_b183]
    have ee := es t (by omega)
    have ea : a.2 681 (i0 + t) = lN (α (i0 + t)) := by rw [g2 681 (by decide)]; exact hα _ (by omega)
    have eb : a.2 682 (j0 + t) = lN (β (j0 + t)) := by rw [g3 _ (by omega), if_neg (by omega)]
    have ek : a.1 674 (143 + d) = nI k := by rw [g1]; exact hk
    simp (disch := omega) only [db_lit, eq_self, db_pI_e, db_pL_e, db_bind_some, db_bd_some, nI_add, pk_mul, nI_toInt, db_m1_t, dz_cn, Int.ofNat_le, Int.ofNat_lt, decide_true, decide_false, db_ct, db_cf, not_true_eq_false, not_false_eq_true, ee, (show ¬ 7201 ≤ i0 + t by omega), (show ¬ 7201 ≤ j0 + t by omega), db_g_682, db_g_681, db_g_674, ea, eb, ek, db_h_682]
    refine hrec _ ⟨g1, fun b hb => by rw [db_uL_n hb]; exact g2 b hb, fun j hj => ?_⟩
    by_cases e : j = j0 + t
    · subst e
      rw [db_uL_1, dw_iL (by omega), dw_lM, dw_lA, if_pos (by omega), show j0 + t - j0 + i0 = i0 + t by omega]
    · rw [db_uL_j e, g3 j hj]
      by_cases e2 : j0 ≤ j ∧ j < j0 + t
      · rw [if_pos e2, if_pos (by omega)]
      · rw [if_neg e2, if_neg (by omega)]
/-- all dreams added -/
theorem dw_152 {h116 : db_S → Int32 → Int32 → Int32 → Int32 → Int32 → Option (Bool × db_S)} {v1 v2 v5 : Int32} {n : Nat} (hc : db_A s c) (hO : db_Ok U c) (hU : U ≤ 1000000000) (hp : db_O p (db_n c 1)) (hq : db_O q (db_n c 2)) (hn : n ≤ 5) (hα : ∀ j, j < 7201 → s.2 681 j = lN (dw_A (fun e => db_n c (143 + e)) (fun e => (db_rq c e p q).toInt) (db_n c 5) n ((j : Int) - 3600))) (hβ : ∀ j, j < 7201 → s.2 682 j = lN 0)
    (hP : ∀ z : db_S, db_Em s z → (∀ j, j < 7201 → z.2 681 j = lN (dw_A (fun e => db_n c (143 + e)) (fun e => (db_rq c e p q).toInt) (db_n c 5) (n + 1) ((j : Int) - 3600))) → dz_T (h116 z v1 v2 p q (v5 + nI 1)) P) : dz_T (db_f365_b152 h116 db_FU s v1 v2 p q v5 (nI 0)) P := by
  have k5 := hO.1.2.2.2.2.2
  have h8 := k5.2
  have hrb : ∀ e, e < db_n c 5 → -594 ≤ (db_rq c e p q).toInt ∧ (db_rq c e p q).toInt ≤ 594 := fun e he => dw_rq_b hO hU he
  refine db_loop (L := fun m a d => db_f365_b152 h116 m a v1 v2 p q v5 (nI d)) (N := db_n c 5) (fun d a => db_Em s a ∧ (∀ j, j < 7201 → a.2 681 j = lN (dw_A (fun e => db_n c (143 + e)) (fun e => (db_rq c e p q).toInt) (db_n c 5) n ((j : Int) - 3600))) ∧ ∀ j, j < 7201 → a.2 682 j = lN (dw_sd (fun e => db_n c (143 + e) * dw_A (fun e => db_n c (143 + e)) (fun e => (db_rq c e p q).toInt) (db_n c 5) n ((j : Int) - 3600 - (db_rq c e p q).toInt)) 0 d)) ?_ ?_ (n := db_FU) (by unfold db_FU; omega) ⟨db_Em_r, hα, hβ⟩
  · rintro m a ⟨g1, g2, g3⟩
    show dz_T (db_f365_b152 h116 (m + 1) a v1 v2 p q v5 (nI (db_n c 5))) P
    rw [db_f365_b152]
    have hA := dw_Am hc g1
    simp (disch := omega) only [db_lit, eq_self, db_pI_e, db_pL_e, db_bind_some, db_bd_some, nI_add, pk_mul, nI_toInt, db_m1_t, dz_cn, Int.ofNat_le, Int.ofNat_lt, decide_true, decide_false, db_ct, db_cf, not_true_eq_false, not_false_eq_true, db_g_674, hA, k5.1, Nat.le_refl]
    refine db_loop (L := fun m a j => db_f365_b254 h116 m a v1 v2 p q v5 (nI j)) (N := 7201) (fun j z => db_Em s z ∧ (∀ i, i < 7201 → z.2 682 i = a.2 682 i) ∧ ∀ i, i < j → z.2 681 i = a.2 682 i) ?_ ?_ (n := db_FU) (by unfold db_FU; omega) ⟨g1, fun i _ => rfl, fun i hi => absurd hi (by omega)⟩
    · rintro m z ⟨k1, k2, k3⟩
      show dz_T (db_f365_b254 h116 (m + 1) z v1 v2 p q v5 (nI 7201)) P
      rw [db_f365_b254]
      simp (disch := omega) only [db_lit, eq_self, db_pI_e, db_pL_e, db_bind_some, db_bd_some, nI_add, pk_mul, nI_toInt, db_m1_t, dz_cn, Int.ofNat_le, Int.ofNat_lt, decide_true, decide_false, db_ct, db_cf, not_true_eq_false, not_false_eq_true, Nat.le_refl]
      exact hP z k1 fun j hj => by rw [k3 j hj, g3 j hj]; rfl
    · rintro m j z hj ⟨k1, k2, k3⟩ hrec
      show dz_T (db_f365_b254 h116 (m + 1) z v1 v2 p q v5 (nI j)) P
      rw [db_f365_b254]
      have h7 : ¬ 7201 ≤ j := by omega
      simp (disch := omega) only [db_lit, eq_self, db_pI_e, db_pL_e, db_bind_some, db_bd_some, nI_add, pk_mul, nI_toInt, db_m1_t, dz_cn, Int.ofNat_le, Int.ofNat_lt, decide_true, decide_false, db_ct, db_cf, not_true_eq_false, not_false_eq_true, h7, db_g_682, k2 j hj, db_h_681]
      refine hrec _ ⟨db_Em_uL k1 (by unfold db_em; omega), fun i hi => by rw [db_uL_n (by decide)]; exact k2 i hi, fun i hi => ?_⟩
      by_cases e : i = j
      · subst e; exact db_uL_1
      · rw [db_uL_j e]; exact k3 i (by omega)
  · rintro m d a hd ⟨g1, g2, g3⟩ hrec
    show dz_T (db_f365_b152 h116 (m + 1) a v1 v2 p q v5 (nI d)) P
    rw [db_f365_b152]
    have hA := dw_Am hc g1
    have h7 : ¬ db_n c 5 ≤ d := by omega
    obtain ⟨hr1, hr2⟩ := hrb d hd
    simp (disch := omega) only [db_lit, eq_self, db_pI_e, db_pL_e, db_bind_some, db_bd_some, nI_add, pk_mul, nI_toInt, db_m1_t, dz_cn, Int.ofNat_le, Int.ofNat_lt, decide_true, decide_false, db_ct, db_cf, not_true_eq_false, not_false_eq_true, db_g_674, hA, k5.1, h7]
    refine db_T_gd (dw_m316 hA hO hd hp hq) fun r s3 hv => ?_
    obtain ⟨q1, q2, q3⟩ := hv
    dsimp only at q1 q2 q3
    subst q1
    have hA3 := dw_Am hA q2
    have hneg : (-(db_rq c d p q)).toInt = -(db_rq c d p q).toInt := fb_negI (by omega)
    -- where the sums begin
    have hst : (if (0 : Int32) < -(db_rq c d p q) then -(db_rq c d p q) else (0 : Int32)) = nI (-(db_rq c d p q).toInt).toNat := by
      have e0 : (nI 0).toInt = 0 := rfl
      rw [fa_eq, nI_toInt (by omega)]
      by_cases h : (0 : Int32) < -(db_rq c d p q)
      · have h2 : (nI 0).toInt < (-(db_rq c d p q)).toInt := (fa_lt _ _).mp h
        rw [if_pos h, hneg]
        omega
      · have : ¬ (nI 0).toInt < (-(db_rq c d p q)).toInt := fun g => h ((fa_lt _ _).mpr g)
        rw [if_neg h]
        show (nI 0).toInt = _
        omega
    refine (congrArg (fun t => dz_T (db_f365_b183 h116 (db_f365_b152 h116 m) db_FU s3 v1 v2 p q v5 (nI d) (db_rq c d p q) t) P) hst).mpr ?_
    have hk := ((hO.2.2.2.1 d hd).2.2.2.1)
    refine dw_183 (k := db_n c (143 + d)) (i0 := (-(db_rq c d p q).toInt).toNat) (j0 := (db_rq c d p q).toInt.toNat) (by omega) (by rw [hA3 _ (by omega)]; exact hk.1) hk.2 (by omega) (by omega) (by omega) (by omega) (fun j hj => by rw [q3]; exact g2 j hj) (fun j hj => by rw [q3]; exact g3 j hj) fun z z1 z2 z3 => ?_
    unfold db_f365_b245
    simp (disch := omega) only [db_lit, eq_self, db_pI_e, db_pL_e, db_bind_some, db_bd_some, nI_add, pk_mul, nI_toInt, db_m1_t, dz_cn, Int.ofNat_le, Int.ofNat_lt, decide_true, decide_false, db_ct, db_cf, not_true_eq_false, not_false_eq_true]
    refine hrec z ⟨fun b j hb => ?_, fun j hj => by rw [z2 681 (by decide), q3]; exact g2 j hj, fun j hj => ?_⟩
    · have t1 := q2 b j hb
      have t2 := g1 b j hb
      refine ⟨by rw [z1]; exact t1.1.trans t2.1, ?_⟩
      rw [z2 b (by unfold db_em at hb; omega)]
      exact t1.2.trans t2.2
    · rw [z3 j hj, dw_sd_l, Nat.zero_add]
      by_cases e : (db_rq c d p q).toInt.toNat ≤ j ∧ j < 7201 - (-(db_rq c d p q).toInt).toNat
      · rw [if_pos e, Nat.mul_comm (dw_A _ _ _ _ _)]
        rw [show ((j - (db_rq c d p q).toInt.toNat + (-(db_rq c d p q).toInt).toNat : Nat) : Int) - 3600 = (j : Int) - 3600 - (db_rq c d p q).toInt by omega]
      · rw [if_neg e, dw_A_0 hrb n ((j : Int) - 3600 - (db_rq c d p q).toInt) (by omega), Nat.mul_zero, Nat.add_zero]
/-- the rounds -/
theorem dw_116 {n : Nat} (hc : db_A s c) (hO : db_Ok U c) (hU : U ≤ 1000000000) (hp : db_O p (db_n c 1)) (hq : db_O q (db_n c 2)) (hn : n ≤ 6) {v2 : Int32} (hα : ∀ j, j < 7201 → s.2 681 j = lN (dw_A (fun e => db_n c (143 + e)) (fun e => (db_rq c e p q).toInt) (db_n c 5) 0 ((j : Int) - 3600)))
    (hP : ∀ z : db_S, db_Em s z → (∀ j, j < 7201 → z.2 681 j = lN (dw_A (fun e => db_n c (143 + e)) (fun e => (db_rq c e p q).toInt) (db_n c 5) n ((j : Int) - 3600))) → dz_T (db_f365_b299 db_FU z v2 (lN 0) (lN 0) (nI 0)) P) : dz_T (db_f365_b116 db_FU s (nI n) v2 p q (nI 0)) P := by
  refine db_loop (L := fun m a k => db_f365_b116 m a (nI n) v2 p q (nI k)) (N := n) (fun k a => db_Em s a ∧ ∀ j, j < 7201 → a.2 681 j = lN (dw_A (fun e => db_n c (143 + e)) (fun e => (db_rq c e p q).toInt) (db_n c 5) k ((j : Int) - 3600))) ?_ ?_ (n := db_FU) (by unfold db_FU; omega) ⟨db_Em_r, hα⟩
  · rintro m a ⟨g1, g2⟩
    show dz_T (db_f365_b116 (m + 1) a (nI n) v2 p q (nI n)) P
    rw [db_f365_b116]
    simp (disch := omega) only [db_lit, eq_self, db_pI_e, db_pL_e, db_bind_some, db_bd_some, nI_add, pk_mul, nI_toInt, db_m1_t, dz_cn, Int.ofNat_le, Int.ofNat_lt, decide_true, decide_false, db_ct, db_cf, not_true_eq_false, not_false_eq_true, Nat.le_refl]
    exact hP a g1 g2
  · rintro m k a hk ⟨g1, g2⟩ hrec
    show dz_T (db_f365_b116 (m + 1) a (nI n) v2 p q (nI k)) P
    rw [db_f365_b116]
    have h7 : ¬ n ≤ k := by omega
    simp (disch := omega) only [db_lit, eq_self, db_pI_e, db_pL_e, db_bind_some, db_bd_some, nI_add, pk_mul, nI_toInt, db_m1_t, dz_cn, Int.ofNat_le, Int.ofNat_lt, decide_true, decide_false, db_ct, db_cf, not_true_eq_false, not_false_eq_true, h7]
    refine db_loop (L := fun m' a j => db_f365_b125 (db_f365_b116 m) m' a (nI n) v2 p q (nI k) (nI j)) (N := 7201) (fun j z => db_Em s z ∧ (∀ i, i < 7201 → z.2 681 i = a.2 681 i) ∧ ∀ i, i < j → z.2 682 i = lN 0) ?_ ?_ (n := db_FU) (by unfold db_FU; omega) ⟨g1, fun i _ => rfl, fun i hi => absurd hi (by omega)⟩
    · rintro m' z ⟨k1, k2, k3⟩
      show dz_T (db_f365_b125 (db_f365_b116 m) (m' + 1) z (nI n) v2 p q (nI k) (nI 7201)) P
      rw [db_f365_b125]
      simp (disch := omega) only [db_lit, eq_self, db_pI_e, db_pL_e, db_bind_some, db_bd_some, nI_add, pk_mul, nI_toInt, db_m1_t, dz_cn, Int.ofNat_le, Int.ofNat_lt, decide_true, decide_false, db_ct, db_cf, not_true_eq_false, not_false_eq_true, Nat.le_refl]
      refine dw_152 (n := k) (dw_Am hc k1) hO hU hp hq (by omega) (fun j hj => by rw [k2 j hj]; exact g2 j hj) k3 fun y y1 y2 => ?_
      rw [nI_add]
      exact hrec y ⟨db_Em_t k1 y1, y2⟩
    · rintro m' j z hj ⟨k1, k2, k3⟩ hrec2
      show dz_T (db_f365_b125 (db_f365_b116 m) (m' + 1) z (nI n) v2 p q (nI k) (nI j)) P
      rw [db_f365_b125]
      have h8 : ¬ 7201 ≤ j := by omega
      simp (disch := omega) only [db_lit, eq_self, db_pI_e, db_pL_e, db_bind_some, db_bd_some, nI_add, pk_mul, nI_toInt, db_m1_t, dz_cn, Int.ofNat_le, Int.ofNat_lt, decide_true, decide_false, db_ct, db_cf, not_true_eq_false, not_false_eq_true, h8, db_h_682]
      refine hrec2 _ ⟨db_Em_uL k1 (by unfold db_em; omega), fun i hi => by rw [db_uL_n (by decide)]; exact k2 i hi, fun i hi => ?_⟩
      by_cases e : i = j
      · subst e; exact db_uL_1
      · rw [db_uL_j e]; exact k3 i (by omega)
/-- the sums of the sums -/
theorem dw_299 {n : Nat} (hO : db_Ok U c) (hU : U ≤ 1000000000) (hn : n ≤ 6) {v : Int32} (hv1 : -999 ≤ v.toInt) (hv2 : v.toInt ≤ 999) {fx fy : Int64} (hα : ∀ j, j < 7201 → s.2 681 j = lN (dw_A (fun e => db_n c (143 + e)) (fun e => (db_rq c e p q).toInt) (db_n c 5) n ((j : Int) - 3600)))
    (hT : ∀ s, db_f364 s (lN (dw_N (fun e => db_n c (143 + e)) (fun e => (db_rq c e p q).toInt) 0 (db_n c 5) n v.toInt)) (lN (dw_sd (fun e => db_n c (143 + e)) 0 (db_n c 5) ^ n)) = some (true, db_uL (db_uL s 669 2 fx) 669 3 fy)) : db_f365_b299 db_FU s v (lN 0) (lN 0) (nI 0) = some (true, db_uL (db_uL s 669 2 fx) 669 3 fy) := by
  have hrb : ∀ e, e < db_n c 5 → -594 ≤ (db_rq c e p q).toInt ∧ (db_rq c e p q).toInt ≤ 594 := fun e he => dw_rq_b hO hU he
  have hlow := dw_N_a (ch := fun e => db_n c (143 + e)) (r := fun e => (db_rq c e p q).toInt) (D := db_n c 5) hrb n (-3600) (by omega)
  have hup := dw_N_0 (ch := fun e => db_n c (143 + e)) (r := fun e => (db_rq c e p q).toInt) (D := db_n c 5) hrb n 3601 (by omega)
  have hNA := dw_NA (ch := fun e => db_n c (143 + e)) (r := fun e => (db_rq c e p q).toInt) (D := db_n c 5) n
  generalize hN : dw_N (fun e => db_n c (143 + e)) (fun e => (db_rq c e p q).toInt) 0 (db_n c 5) n = N at *
  generalize hA : dw_A (fun e => db_n c (143 + e)) (fun e => (db_rq c e p q).toInt) (db_n c 5) n = A at *
  generalize dw_sd (fun e => db_n c (143 + e)) 0 (db_n c 5) ^ n = T at *
  refine db_T_eq.mp ?_
  refine db_loop (L := fun m (a : Int64 × Int64) i => db_f365_b299 m s v a.1 a.2 (nI i)) (N := 7201) (fun i a => ∃ X Y : Nat, a.1 = lN Y ∧ a.2 = lN X ∧ X + N ((i : Int) - 3600) = T ∧ Y + N (if (i : Int) - 3600 < v.toInt then v.toInt else (i : Int) - 3600) = N v.toInt) ?_ ?_ (n := db_FU) (a := (lN 0, lN 0)) (by unfold db_FU; omega) ⟨0, 0, rfl, rfl, by rw [Nat.zero_add, ← hlow]; rfl, by rw [if_pos (by omega), Nat.zero_add]⟩
  · rintro m ⟨v5, v7⟩ ⟨X, Y, g1, g2, g3, g4⟩
    dsimp only at g1 g2
    show dz_T (db_f365_b299 (m + 1) s v v5 v7 (nI 7201)) _
    rw [db_f365_b299]
    rw [show ((7201 : Nat) : Int) - 3600 = 3601 by omega] at g3 g4
    rw [if_neg (by omega), hup, Nat.add_zero] at g4
    rw [hup, Nat.add_zero] at g3
    subst g1
    subst g2
    rw [g3, g4]
    simp (disch := omega) only [db_lit, eq_self, db_pI_e, db_pL_e, db_bind_some, db_bd_some, nI_add, pk_mul, nI_toInt, db_m1_t, dz_cn, Int.ofNat_le, Int.ofNat_lt, decide_true, decide_false, db_ct, db_cf, not_true_eq_false, not_false_eq_true, Nat.le_refl, hT]
    exact ⟨_, rfl, rfl⟩
  · rintro m i ⟨v5, v7⟩ hi ⟨X, Y, g1, g2, g3, g4⟩ hrec
    dsimp only at g1 g2
    subst g1
    subst g2
    show dz_T (db_f365_b299 (m + 1) s v (lN Y) (lN X) (nI i)) _
    rw [db_f365_b299]
    have h7 : ¬ 7201 ≤ i := by omega
    have ei : (nI i - nI 3600).toInt = (i : Int) - 3600 := by
      rw [fb_subI (by rw [nI_toInt (by omega), nI_toInt (by omega)]; omega) (by rw [nI_toInt (by omega), nI_toInt (by omega)]; omega), nI_toInt (by omega), nI_toInt (by omega)]
      rfl
    have hs := hα i hi
    have hn1 := hNA ((i : Int) - 3600)
    have e1 : ((i + 1 : Nat) : Int) - 3600 = (i : Int) - 3600 + 1 := by omega
    unfold db_f365_b344
    simp (disch := omega) only [db_lit, eq_self, db_pI_e, db_pL_e, db_bind_some, db_bd_some, nI_add, pk_mul, nI_toInt, db_m1_t, dz_cn, Int.ofNat_le, Int.ofNat_lt, decide_true, decide_false, db_ct, db_cf, not_true_eq_false, not_false_eq_true, h7, db_g_681, hs, ei]
    by_cases hlt : (i : Int) - 3600 < v.toInt
    · rw [decide_eq_true hlt, db_ct, dw_lA]
      rw [if_pos hlt] at g4
      refine hrec (lN Y + 0, lN (X + A ((i : Int) - 3600))) ⟨X + A ((i : Int) - 3600), Y, Int64.add_zero _, rfl, by rw [e1]; omega, ?_⟩
      by_cases h2 : ((i + 1 : Nat) : Int) - 3600 < v.toInt
      · rw [if_pos h2]; exact g4
      · rw [if_neg h2, show ((i + 1 : Nat) : Int) - 3600 = v.toInt by omega]; exact g4
    · rw [decide_eq_false hlt, db_cf, dw_lA, dw_lA]
      rw [if_neg hlt] at g4
      refine hrec (lN (Y + A ((i : Int) - 3600)), lN (X + A ((i : Int) - 3600))) ⟨X + A ((i : Int) - 3600), Y + A ((i : Int) - 3600), rfl, rfl, by rw [e1]; omega, ?_⟩
      rw [if_neg (by omega), e1]
      omega
theorem db_k50 {v : Int32} (hI : db_Inv U s) (hU : U ≤ 1000000000) : dz_G U s (fun s => db_f190 s x v p q) (fun s => db_f365 s x v p q) := by
  obtain ⟨hO, hR, -⟩ := db_cur hI
  have k1 := hO.1.2.1
  have k2 := hO.1.2.2.1
  have k5 := hO.1.2.2.2.2.2
  have h8 := k5.2
  have f187 := dw_187 (x := x) (y := v) (p := p) (q := q) hR hO
  have e269 : ∀ t : db_S, db_f269 t v.toInt64 (-999) 999 = some (db_wi v (-999) ((999 : Nat) : Int)) := fun t => by
    rw [db_269w, show (-999 : Int64).toInt = -999 by decide]
    rfl
  generalize hcc : db_bk s 0 = c at *
  generalize hww : db_bw s 0 = w at *
  cases hpq : (db_im p (db_n c 1) && db_im q (db_n c 2)) with
  | false =>
    rw [hpq] at f187
    refine db_GnB 2 hI ?_ fun s1 hS hA => ?_
    · unfold db_f190
      rw [f187]
      simp (disch := omega) only [db_lit, eq_self, db_pI_e, db_pL_e, db_bind_some, db_bd_some, nI_add, pk_mul, nI_toInt, db_m1_t, dz_cn, Int.ofNat_le, Int.ofNat_lt, decide_true, decide_false, db_ct, db_cf, not_true_eq_false, not_false_eq_true, db_87e, db_37e, db_31e, db_28e, db_281e, db_211e, db_27, db_269w, db_litL, pk_lT, db_iL, db_p0_e, db_p0_n, db_p0_j, db_sub1, nI_eq, if_true, if_false, Bool.false_eq_true, (show ¬ 2 = 0 by omega)]
    · rw [hcc] at hA
      unfold db_f365
      simp only [e269]
      simp (disch := omega) only [db_lit, eq_self, db_pI_e, db_pL_e, db_bind_some, db_bd_some, nI_add, pk_mul, nI_toInt, db_m1_t, dz_cn, Int.ofNat_le, Int.ofNat_lt, decide_true, decide_false, db_ct, db_cf, not_true_eq_false, not_false_eq_true, db_87e, db_37e, db_31e, db_28e, db_281e, db_211e, db_27, db_269w, db_litL, pk_lT, db_iL, db_p0_e, db_p0_n, db_p0_j, db_sub1, nI_eq, if_true, if_false, Bool.false_eq_true, db_315 (db_p0_A hA) k1 k2, hpq]
  | true =>
    rw [hpq] at f187
    have hpq' : db_im p (db_n c 1) = true ∧ db_im q (db_n c 2) = true := by simpa using hpq
    have hp := db_im_t hpq'.1
    have hq := db_im_t hpq'.2
    cases hx : db_wi x ((1 : Nat) : Int) ((6 : Nat) : Int) with
    | false =>
      rw [hx] at f187
      refine db_GnB 5 hI ?_ fun s1 hS hA => ?_
      · unfold db_f190
        rw [f187]
        simp (disch := omega) only [db_lit, eq_self, db_pI_e, db_pL_e, db_bind_some, db_bd_some, nI_add, pk_mul, nI_toInt, db_m1_t, dz_cn, Int.ofNat_le, Int.ofNat_lt, decide_true, decide_false, db_ct, db_cf, not_true_eq_false, not_false_eq_true, db_87e, db_37e, db_31e, db_28e, db_281e, db_211e, db_27, db_269w, db_litL, pk_lT, db_iL, db_p0_e, db_p0_n, db_p0_j, db_sub1, nI_eq, if_true, if_false, Bool.false_eq_true, (show ¬ 5 = 0 by omega)]
      · rw [hcc] at hA
        unfold db_f365 db_f365_b52
        simp only [e269]
        simp (disch := omega) only [db_lit, eq_self, db_pI_e, db_pL_e, db_bind_some, db_bd_some, nI_add, pk_mul, nI_toInt, db_m1_t, dz_cn, Int.ofNat_le, Int.ofNat_lt, decide_true, decide_false, db_ct, db_cf, not_true_eq_false, not_false_eq_true, db_87e, db_37e, db_31e, db_28e, db_281e, db_211e, db_27, db_269w, db_litL, pk_lT, db_iL, db_p0_e, db_p0_n, db_p0_j, db_sub1, nI_eq, if_true, if_false, Bool.false_eq_true, db_315 (db_p0_A hA) k1 k2, hpq, hx]
    | true =>
      rw [hx] at f187
      cases hv : db_wi v (-999) ((999 : Nat) : Int) with
      | false =>
        rw [hv] at f187
        refine db_GnB 5 hI ?_ fun s1 hS hA => ?_
        · unfold db_f190
          rw [f187]
          simp (disch := omega) only [db_lit, eq_self, db_pI_e, db_pL_e, db_bind_some, db_bd_some, nI_add, pk_mul, nI_toInt, db_m1_t, dz_cn, Int.ofNat_le, Int.ofNat_lt, decide_true, decide_false, db_ct, db_cf, not_true_eq_false, not_false_eq_true, db_87e, db_37e, db_31e, db_28e, db_281e, db_211e, db_27, db_269w, db_litL, pk_lT, db_iL, db_p0_e, db_p0_n, db_p0_j, db_sub1, nI_eq, if_true, if_false, Bool.false_eq_true, (show ¬ 5 = 0 by omega)]
        · rw [hcc] at hA
          unfold db_f365 db_f365_b52
          simp only [e269]
          simp (disch := omega) only [db_lit, eq_self, db_pI_e, db_pL_e, db_bind_some, db_bd_some, nI_add, pk_mul, nI_toInt, db_m1_t, dz_cn, Int.ofNat_le, Int.ofNat_lt, decide_true, decide_false, db_ct, db_cf, not_true_eq_false, not_false_eq_true, db_87e, db_37e, db_31e, db_28e, db_281e, db_211e, db_27, db_269w, db_litL, pk_lT, db_iL, db_p0_e, db_p0_n, db_p0_j, db_sub1, nI_eq, if_true, if_false, Bool.false_eq_true, db_315 (db_p0_A hA) k1 k2, hpq, hx, hv]
      | true =>
        rw [hv] at f187
        by_cases h0 : db_n c 5 = 0
        · rw [if_pos h0] at f187
          refine db_GnB 8 hI ?_ fun s1 hS hA => ?_
          · unfold db_f190
            rw [f187]
            simp (disch := omega) only [db_lit, eq_self, db_pI_e, db_pL_e, db_bind_some, db_bd_some, nI_add, pk_mul, nI_toInt, db_m1_t, dz_cn, Int.ofNat_le, Int.ofNat_lt, decide_true, decide_false, db_ct, db_cf, not_true_eq_false, not_false_eq_true, db_87e, db_37e, db_31e, db_28e, db_281e, db_211e, db_27, db_269w, db_litL, pk_lT, db_iL, db_p0_e, db_p0_n, db_p0_j, db_sub1, nI_eq, if_true, if_false, Bool.false_eq_true, (show ¬ 8 = 0 by omega)]
          · rw [hcc] at hA
            unfold db_f365
            have e5 : c 5 = nI 0 := by rw [k5.1, h0]
            simp only [e269]
            simp (disch := omega) only [db_lit, eq_self, db_pI_e, db_pL_e, db_bind_some, db_bd_some, nI_add, pk_mul, nI_toInt, db_m1_t, dz_cn, Int.ofNat_le, Int.ofNat_lt, decide_true, decide_false, db_ct, db_cf, not_true_eq_false, not_false_eq_true, db_87e, db_37e, db_31e, db_28e, db_281e, db_211e, db_27, db_269w, db_litL, pk_lT, db_iL, db_p0_e, db_p0_n, db_p0_j, db_sub1, nI_eq, if_true, if_false, Bool.false_eq_true, db_315 (db_p0_A hA) k1 k2, hpq, hx, hv, db_g_674, hA, e5]
        · rw [if_neg h0] at f187
          obtain ⟨n, hn, hn1, rfl⟩ := db_wi_t (by decide) (by decide) hx
          have hv' : -999 ≤ v.toInt ∧ v.toInt ≤ 999 := by
            simp only [db_wi, Bool.and_eq_true, decide_eq_true_eq] at hv
            omega
          have hTb := dw_T_b hO (db_n c 5) (Nat.le_refl _)
          have hTn : dw_sd (fun e => db_n c (143 + e)) 0 (db_n c 5) ^ n ≤ 792 ^ 6 := Nat.le_trans (Nat.pow_le_pow_left (show _ ≤ 792 by omega) n) (Nat.pow_le_pow_right (by decide) (by omega))
          have hT0 : 0 < dw_sd (fun e => db_n c (143 + e)) 0 (db_n c 5) ^ n := Nat.pow_pos (by omega)
          have hbig : 792 ^ 6 < 2 ^ 63 := by decide
          have hNl := dw_N_le (ch := fun e => db_n c (143 + e)) (r := fun e => (db_rq c e p q).toInt) (d := 0) (m := db_n c 5) n v.toInt
          obtain ⟨fx, fy, t1, t2⟩ := dw_tell2 (a := dw_N (fun e => db_n c (143 + e)) (fun e => (db_rq c e p q).toInt) 0 (db_n c 5) n v.toInt) (b := dw_sd (fun e => db_n c (143 + e)) 0 (db_n c 5) ^ n) (by omega) hT0 (by omega)
          refine dw_frac (x := fx) (y := fy) hI ?_ fun s1 hS hA => ?_
          · unfold db_f190
            rw [f187]
            simp (disch := omega) only [db_lit, eq_self, db_pI_e, db_pL_e, db_bind_some, db_bd_some, nI_add, pk_mul, nI_toInt, db_m1_t, dz_cn, Int.ofNat_le, Int.ofNat_lt, decide_true, decide_false, db_ct, db_cf, not_true_eq_false, not_false_eq_true, db_87e, db_37e, db_31e, db_28e, db_281e, db_211e, db_27, db_269w, db_litL, pk_lT, db_iL, db_p0_e, db_p0_n, db_p0_j, db_sub1, nI_eq, if_true, if_false, Bool.false_eq_true]
            refine db_T_go (dw_191 hR hO hU hp hq (n := n) (by omega) hv'.1 hv'.2 t1) fun z hz => ?_
            obtain ⟨a, ha, rfl⟩ := hz
            exact ⟨_, rfl, rfl, a, ha, rfl⟩
          · rw [hcc] at hA
            have hA1 := db_p0_A hA
            unfold db_f365
            simp only [e269]
            simp (disch := omega) only [db_lit, eq_self, db_pI_e, db_pL_e, db_bind_some, db_bd_some, nI_add, pk_mul, nI_toInt, db_m1_t, dz_cn, Int.ofNat_le, Int.ofNat_lt, decide_true, decide_false, db_ct, db_cf, not_true_eq_false, not_false_eq_true, db_87e, db_37e, db_31e, db_28e, db_281e, db_211e, db_27, db_269w, db_litL, pk_lT, db_iL, db_p0_e, db_p0_n, db_p0_j, db_sub1, nI_eq, if_true, if_false, Bool.false_eq_true, db_315 hA1 k1 k2, hpq, hx, hv, db_g_674, hA, k5.1, h0]
            refine db_loop (L := fun m a i => db_f365_b77 m a (nI n) v p q (nI i)) (N := 7201) (fun i a => db_Em (db_p0 s1) a ∧ ∀ j, j < i → a.2 681 j = lN (dw_A (fun e => db_n c (143 + e)) (fun e => (db_rq c e p q).toInt) (db_n c 5) 0 ((j : Int) - 3600))) ?_ ?_ (n := db_FU) (by unfold db_FU; omega) ⟨db_Em_r, fun j hj => absurd hj (by omega)⟩
            · rintro m a ⟨g1, g2⟩
              show dz_T (db_f365_b77 (m + 1) a (nI n) v p q (nI 7201)) _
              rw [db_f365_b77]
              simp (disch := omega) only [db_lit, eq_self, db_pI_e, db_pL_e, db_bind_some, db_bd_some, nI_add, pk_mul, nI_toInt, db_m1_t, dz_cn, Int.ofNat_le, Int.ofNat_lt, decide_true, decide_false, db_ct, db_cf, not_true_eq_false, not_false_eq_true, Nat.le_refl]
              refine dw_116 (dw_Am hA1 g1) hO hU hp hq (by omega) g2 fun z z1 z2 => ?_
              rw [dw_299 hO hU (by omega) hv'.1 hv'.2 z2 t2]
              exact ⟨_, rfl, rfl, z, db_Em_t g1 z1, rfl⟩
            · rintro m i a hi ⟨g1, g2⟩ hrec
              show dz_T (db_f365_b77 (m + 1) a (nI n) v p q (nI i)) _
              rw [db_f365_b77]
              have h7 : ¬ 7201 ≤ i := by omega
              have hgo : ∀ u : Nat, u = dw_A (fun e => db_n c (143 + e)) (fun e => (db_rq c e p q).toInt) (db_n c 5) 0 ((i : Int) - 3600) → dz_T (db_f365_b106 (db_f365_b77 m) a (nI n) v p q (nI i) (nI i) (lN u)) (fun z => z.1 = true ∧ ∃ a, db_Em (db_p0 s1) a ∧ z.2 = db_uL (db_uL a 669 2 fx) 669 3 fy) := by
                intro u hu
                unfold db_f365_b106
                simp (disch := omega) only [db_lit, eq_self, db_pI_e, db_pL_e, db_bind_some, db_bd_some, nI_add, pk_mul, nI_toInt, db_m1_t, dz_cn, Int.ofNat_le, Int.ofNat_lt, decide_true, decide_false, db_ct, db_cf, not_true_eq_false, not_false_eq_true, db_h_681]
                refine hrec _ ⟨db_Em_uL g1 (by unfold db_em; omega), fun j hj => ?_⟩
                by_cases e : j = i
                · subst e
                  rw [db_uL_1, hu]
                · rw [db_uL_j e]; exact g2 j (by omega)
              have hA0 : dw_A (fun e => db_n c (143 + e)) (fun e => (db_rq c e p q).toInt) (db_n c 5) 0 ((i : Int) - 3600) = if (i : Int) - 3600 = 0 then 1 else 0 := rfl
              rw [hA0] at hgo
              by_cases e : i = 3600
              · subst e
                simp (disch := omega) only [db_lit, eq_self, db_pI_e, db_pL_e, db_bind_some, db_bd_some, nI_add, pk_mul, nI_toInt, db_m1_t, dz_cn, Int.ofNat_le, Int.ofNat_lt, decide_true, decide_false, db_ct, db_cf, not_true_eq_false, not_false_eq_true, db_87e, db_37e, db_31e, db_28e, db_281e, db_211e, db_27, db_269w, db_litL, pk_lT, db_iL, db_p0_e, db_p0_n, db_p0_j, db_sub1, nI_eq, if_true, if_false, Bool.false_eq_true, h7]
                exact hgo 1 (by rw [if_pos (by omega)])
              · simp (disch := omega) only [db_lit, eq_self, db_pI_e, db_pL_e, db_bind_some, db_bd_some, nI_add, pk_mul, nI_toInt, db_m1_t, dz_cn, Int.ofNat_le, Int.ofNat_lt, decide_true, decide_false, db_ct, db_cf, not_true_eq_false, not_false_eq_true, db_87e, db_37e, db_31e, db_28e, db_281e, db_211e, db_27, db_269w, db_litL, pk_lT, db_iL, db_p0_e, db_p0_n, db_p0_j, db_sub1, nI_eq, if_true, if_false, Bool.false_eq_true, h7, e]
                exact hgo 0 (by rw [if_neg (by omega)])
end DBAN
