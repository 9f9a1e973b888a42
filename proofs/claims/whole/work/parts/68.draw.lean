/-! LIVES: the draw of a dream -/
/-- the dream that x falls on, from d on, m dreams behind it -/
def dw_pk (ch : Nat → Nat) : Nat → Nat → Nat → Nat
  | 0, d, _ => d
  | m + 1, d, x => if x < ch d then d else dw_pk ch m (d + 1) (x - ch d)
theorem dw_pk_lt {ch : Nat → Nat} : ∀ m d x, dw_pk ch m d x ≤ d + m
  | 0, d, _ => Nat.le_refl _
  | m + 1, d, x => by
    rw [dw_pk]
    split
    · omega
    · have := dw_pk_lt (ch := ch) m (d + 1) (x - ch d)
      omega
/-- the next seed -/
def dw_sn (n : Nat) : Nat := (n * 2917 + 10613) % 65536
/-- the dream drawn -/
def dw_dw (c : db_C) (n : Nat) : Nat := dw_pk (fun e => db_n c (143 + e)) (db_n c 5 - 1) 0 (dw_sn n / 8 % dw_sd (fun e => db_n c (143 + e)) 0 (db_n c 5))
section DBDW
variable {U : Nat} {s : db_S} {c : db_C} {w : Nat → Int64} {x y z p q : Int32}
theorem dw_seed {n : Nat} (h : n < 65536) : (nI n * (2917 : Int32) + (10613 : Int32)) - (nI n * (2917 : Int32) + (10613 : Int32)) / (65536 : Int32) * (65536 : Int32) = nI (dw_sn n) := by
  have e : nI n * (2917 : Int32) + (10613 : Int32) = nI (n * 2917 + 10613) := by
    rw [show (2917 : Int32) = nI 2917 from rfl, show (10613 : Int32) = nI 10613 from rfl, pk_mul, nI_add]
  rw [e, show (65536 : Int32) = nI 65536 from rfl]
  exact pk_rem (by omega) (by omega) (by omega)
theorem dw_sn_lt (n : Nat) : dw_sn n < 65536 := Nat.mod_lt _ (by omega)
theorem dw_eighth {n T : Nat} (h : n < 65536) (h0 : 0 < T) (hT : T ≤ 1000) : nI n / (8 : Int32) - nI n / (8 : Int32) / nI T * nI T = nI (n / 8 % T) := by
  rw [show (8 : Int32) = nI 8 from rfl, pk_div (by omega) (by omega) (by omega)]
  exact pk_rem (by omega) h0 (by omega)
theorem dw_197b {a : db_S} (hR : db_BR 20 a c w) (hO : db_Ok U c) : ∀ {m d x F : Nat}, d + m + 1 = db_n c 5 → m < F → x < 2 ^ 30 → db_f197_b47 F a (nI x) (nI d) = some (nI (dw_pk (fun e => db_n c (143 + e)) m d x), a) := by
  have k5 := hO.1.2.2.2.2.2
  have h8 := k5.2
  have e21 : a.1 21 5 = nI (db_n c 5) := by rw [db_21 hR (by decide)]; exact k5.1
  intro m
  induction m with
  | zero =>
    intro d x F hd hF hx
    cases F with
    | zero => omega
    | succ F =>
      rw [db_f197_b47]
      simp (disch := omega) only [db_lit, eq_self, db_pI_e, db_pL_e, db_bind_some, db_bd_some, nI_add, pk_mul, nI_toInt, db_m1_t, dz_cn, Int.ofNat_le, Int.ofNat_lt, decide_true, decide_false, db_ct, db_cf, not_true_eq_false, not_false_eq_true, db_g_21, e21, (show db_n c 5 ≤ d + 1 by omega)]
      rfl
  | succ m IH =>
    intro d x F hd hF hx
    cases F with
    | zero => omega
    | succ F =>
      rw [db_f197_b47]
      have e61 : a.1 61 d = nI (db_n c (143 + d)) := by
        rw [(db_59 hR (show d < db_n c 5 by omega)).2.2.1]
        exact ((hO.2.2.2.1 d (by omega)).2.2.2.1).1
      have hb := ((hO.2.2.2.1 d (by omega)).2.2.2.1).2
      have hst : dw_pk (fun e => db_n c (143 + e)) (m + 1) d x = if x < db_n c (143 + d) then d else dw_pk (fun e => db_n c (143 + e)) m (d + 1) (x - db_n c (143 + d)) := rfl
      simp (disch := omega) only [db_lit, eq_self, db_pI_e, db_pL_e, db_bind_some, db_bd_some, nI_add, pk_mul, nI_toInt, db_m1_t, dz_cn, Int.ofNat_le, Int.ofNat_lt, decide_true, decide_false, db_ct, db_cf, not_true_eq_false, not_false_eq_true, db_g_21, e21, (show ¬ db_n c 5 ≤ d + 1 by omega), db_g_61, e61]
      by_cases h : x < db_n c (143 + d)
      · rw [hst, if_pos h]
        simp (disch := omega) only [db_lit, eq_self, db_pI_e, db_pL_e, db_bind_some, db_bd_some, nI_add, pk_mul, nI_toInt, db_m1_t, dz_cn, Int.ofNat_le, Int.ofNat_lt, decide_true, decide_false, db_ct, db_cf, not_true_eq_false, not_false_eq_true, h]
      · rw [hst, if_neg h]
        simp (disch := omega) only [db_lit, eq_self, db_pI_e, db_pL_e, db_bind_some, db_bd_some, nI_add, pk_mul, nI_toInt, db_m1_t, dz_cn, Int.ofNat_le, Int.ofNat_lt, decide_true, decide_false, db_ct, db_cf, not_true_eq_false, not_false_eq_true, h, pk_sub]
        exact IH (d := d + 1) (x := x - db_n c (143 + d)) (F := F) (by omega) (by omega) (by omega)
/-- the class draws -/
theorem dw_197 {n : Nat} (hR : db_BR 20 s c w) (hO : db_Ok U c) (h5 : 0 < db_n c 5) (hn : n < 65536) (h : s.1 284 9 = nI n) : db_f197 s = some (nI (dw_dw c n), db_uI s 284 9 (nI (dw_sn n))) := by
  have k5 := hO.1.2.2.2.2.2
  have h8 := k5.2
  have hTb := dw_T_b hO (db_n c 5) (Nat.le_refl _)
  have hE : db_Ec s (db_uI s 284 9 (nI (dw_sn n))) := db_Ec_uI db_Ec_r (by unfold db_ec; omega)
  have hR' := db_BR_Ec hO hE hR
  have hT0 : ¬ nI (dw_sd (fun e => db_n c (143 + e)) 0 (db_n c 5)) = 0 := by
    rw [show (0 : Int32) = nI 0 from rfl, nI_eq (by omega) (by omega)]; omega
  have hle : ¬ dw_sd (fun e => db_n c (143 + e)) 0 (db_n c 5) ≤ 0 := by omega
  unfold db_f197
  rw [h, dw_seed hn, db_pI_e, db_bind_some, db_ch_e hR' hO, db_bind_some, dw_chT hO _ (Nat.le_refl _)]
  have hcl : db_cnd .le (nI (dw_sd (fun e => db_n c (143 + e)) 0 (db_n c 5))) 0 = false := by
    rw [db_cnd_le, nI_toInt (by omega)]
    exact decide_eq_false (by show ¬ ((dw_sd (fun e => db_n c (143 + e)) 0 (db_n c 5) : Nat) : Int) ≤ (nI 0).toInt; rw [nI_toInt (by omega)]; omega)
  rw [hcl, db_cf, if_neg hT0]
  unfold db_f197_b44
  have es : (db_uI s 284 9 (nI (dw_sn n))).1 284 9 = nI (dw_sn n) := db_uI_1
  rw [es]
  have e8 := dw_eighth (n := dw_sn n) (T := dw_sd (fun e => db_n c (143 + e)) 0 (db_n c 5)) (dw_sn_lt n) (by omega) (by omega)
  refine (congrArg (fun t => db_f197_b47 db_FU (db_uI s 284 9 (nI (dw_sn n))) t (nI 0)) e8).trans ?_
  have hm : dw_sn n / 8 % dw_sd (fun e => db_n c (143 + e)) 0 (db_n c 5) < 2 ^ 30 := Nat.lt_of_lt_of_le (Nat.mod_lt _ (by omega)) (by omega)
  exact dw_197b hR' hO (m := db_n c 5 - 1) (d := 0) (F := db_FU) (by omega) (by unfold db_FU; omega) hm
/-- the reference draws -/
theorem dw_372 {n T : Nat} (hn : n < 65536) (h : s.1 669 42 = nI n) (h0 : 0 < T) (hT : T ≤ 1000) : db_f372 s (nI T) = some (nI (dw_sn n / 8 % T), db_uI s 669 42 (nI (dw_sn n))) := by
  have hT0 : ¬ nI T = 0 := by
    rw [show (0 : Int32) = nI 0 from rfl, nI_eq (by omega) (by omega)]; omega
  unfold db_f372
  rw [h, dw_seed hn, db_pI_e, db_bind_some, if_neg hT0]
  have es : (db_uI s 669 42 (nI (dw_sn n))).1 669 42 = nI (dw_sn n) := db_uI_1
  rw [es, dw_eighth (dw_sn_lt n) h0 hT]
theorem dw_371b {a : db_S} (hc : db_A a c) (hO : db_Ok U c) : ∀ {m d x F : Nat}, d + m + 1 = db_n c 5 → m < F → x < dw_sd (fun e => db_n c (143 + e)) d (m + 1) → db_f371_b23 F a p q (nI x) (nI d) = (db_f333 a (nI (dw_pk (fun e => db_n c (143 + e)) m d x)) p q).bind fun z => some z := by
  have k5 := hO.1.2.2.2.2.2
  have h8 := k5.2
  intro m
  induction m with
  | zero =>
    intro d x F hd hF hx
    cases F with
    | zero => omega
    | succ F =>
      rw [db_f371_b23]
      have e61 : a.1 674 (143 + d) = nI (db_n c (143 + d)) := by
        rw [hc _ (by omega)]
        exact ((hO.2.2.2.1 d (by omega)).2.2.2.1).1
      have hb := ((hO.2.2.2.1 d (by omega)).2.2.2.1).2
      have hx' : x < db_n c (143 + d) := by
        have : dw_sd (fun e => db_n c (143 + e)) d (0 + 1) = db_n c (143 + d) + 0 := rfl
        omega
      simp (disch := omega) only [db_lit, eq_self, db_pI_e, db_pL_e, db_bind_some, db_bd_some, nI_add, pk_mul, nI_toInt, db_m1_t, dz_cn, Int.ofNat_le, Int.ofNat_lt, decide_true, decide_false, db_ct, db_cf, not_true_eq_false, not_false_eq_true, db_g_674, e61, hx']
      rfl
  | succ m IH =>
    intro d x F hd hF hx
    cases F with
    | zero => omega
    | succ F =>
      rw [db_f371_b23]
      have e61 : a.1 674 (143 + d) = nI (db_n c (143 + d)) := by
        rw [hc _ (by omega)]
        exact ((hO.2.2.2.1 d (by omega)).2.2.2.1).1
      have hb := ((hO.2.2.2.1 d (by omega)).2.2.2.1).2
      have hb2 : x < 2 ^ 30 := by
        have hTb := dw_T_b hO (db_n c 5) (Nat.le_refl _)
        have hsp : ∀ k, k + (m + 1 + 1) ≤ db_n c 5 → dw_sd (fun e => db_n c (143 + e)) k (m + 1 + 1) ≤ 99 * (m + 1 + 1) := by
          intro k hk
          have : ∀ t k, k + t ≤ db_n c 5 → dw_sd (fun e => db_n c (143 + e)) k t ≤ 99 * t := by
            intro t
            induction t with
            | zero => intro k _; exact Nat.le_refl _
            | succ t ih =>
              intro k hk
              have hb := ((hO.2.2.2.1 k (by omega)).2.2.2.1).2
              have := ih (k + 1) (by omega)
              show db_n c (143 + k) + _ ≤ _
              omega
          exact this _ k hk
        have := hsp d (by omega)
        omega
      have hst : dw_pk (fun e => db_n c (143 + e)) (m + 1) d x = if x < db_n c (143 + d) then d else dw_pk (fun e => db_n c (143 + e)) m (d + 1) (x - db_n c (143 + d)) := rfl
      have hsd : dw_sd (fun e => db_n c (143 + e)) d (m + 1 + 1) = db_n c (143 + d) + dw_sd (fun e => db_n c (143 + e)) (d + 1) (m + 1) := rfl
      simp (disch := omega) only [db_lit, eq_self, db_pI_e, db_pL_e, db_bind_some, db_bd_some, nI_add, pk_mul, nI_toInt, db_m1_t, dz_cn, Int.ofNat_le, Int.ofNat_lt, decide_true, decide_false, db_ct, db_cf, not_true_eq_false, not_false_eq_true, db_g_674, e61]
      by_cases h : x < db_n c (143 + d)
      · rw [hst, if_pos h]
        simp (disch := omega) only [db_lit, eq_self, db_pI_e, db_pL_e, db_bind_some, db_bd_some, nI_add, pk_mul, nI_toInt, db_m1_t, dz_cn, Int.ofNat_le, Int.ofNat_lt, decide_true, decide_false, db_ct, db_cf, not_true_eq_false, not_false_eq_true, h]
        rfl
      · rw [hst, if_neg h]
        simp (disch := omega) only [db_lit, eq_self, db_pI_e, db_pL_e, db_bind_some, db_bd_some, nI_add, pk_mul, nI_toInt, db_m1_t, dz_cn, Int.ofNat_le, Int.ofNat_lt, decide_true, decide_false, db_ct, db_cf, not_true_eq_false, not_false_eq_true, h, pk_sub]
        exact IH (d := d + 1) (x := x - db_n c (143 + d)) (F := F) (by omega) (by omega) (by omega)
theorem dw_dw_lt (n : Nat) (h5 : 0 < db_n c 5) : dw_dw c n < db_n c 5 := by
  have := dw_pk_lt (ch := fun e => db_n c (143 + e)) (db_n c 5 - 1) 0 (dw_sn n / 8 % dw_sd (fun e => db_n c (143 + e)) 0 (db_n c 5))
  unfold dw_dw
  omega
/-- the reference's night of a drawn dream -/
theorem dw_371 {n : Nat} (hc : db_A s c) (hO : db_Ok U c) (h5 : 0 < db_n c 5) (hn : n < 65536) (h : s.1 669 42 = nI n) : db_f371 s p q = (db_f333 (db_uI s 669 42 (nI (dw_sn n))) (nI (dw_dw c n)) p q).bind fun z => some z := by
  have k5 := hO.1.2.2.2.2.2
  have h8 := k5.2
  have hTb := dw_T_b hO (db_n c 5) (Nat.le_refl _)
  have hc' : db_A (db_uI s 669 42 (nI (dw_sn n))) c := db_A_e (db_uI_n (by decide)) hc
  unfold db_f371
  simp (disch := omega) only [db_lit, eq_self, db_pI_e, db_pL_e, db_bind_some, db_bd_some, nI_add, pk_mul, nI_toInt, db_m1_t, dz_cn, Int.ofNat_le, Int.ofNat_lt, decide_true, decide_false, db_ct, db_cf, not_true_eq_false, not_false_eq_true, db_87e, db_37e, db_31e, db_28e, db_281e, db_211e, db_27, db_269w, db_litL, pk_lT, db_iL, db_p0_e, db_p0_n, db_p0_j, db_sub1, nI_eq, if_true, if_false, Bool.false_eq_true, db_g_674, hc, k5.1, (show ¬ db_n c 5 = 0 by omega)]
  rw [db_ch_m hc hO, db_bind_some, dw_chT hO _ (Nat.le_refl _), dw_372 hn h (by omega) (by omega), db_bd_some]
  exact dw_371b hc' hO (m := db_n c 5 - 1) (d := 0) (F := db_FU) (by omega) (by unfold db_FU; omega) (by
    rw [show db_n c 5 - 1 + 1 = db_n c 5 by omega]
    exact Nat.mod_lt _ (by omega))
end DBDW
