/-! AT LEAST: the sums -/
theorem dw_sd_l {f : Nat → Nat} : ∀ {m d : Nat}, dw_sd f d (m + 1) = dw_sd f d m + f (d + m)
  | 0, d => by
    show f d + 0 = 0 + f (d + 0)
    rw [Nat.add_zero, Nat.zero_add, Nat.add_zero]
  | m + 1, d => by
    show f d + dw_sd f (d + 1) (m + 1) = f d + dw_sd f (d + 1) m + f (d + (m + 1))
    rw [dw_sd_l, show d + 1 + m = d + (m + 1) by omega, Nat.add_assoc]
/-- ways to dream n nights, v in all -/
def dw_A (ch : Nat → Nat) (r : Nat → Int) (D : Nat) : Nat → Int → Nat
  | 0, v => if v = 0 then 1 else 0
  | n + 1, v => dw_sd (fun e => ch e * dw_A ch r D n (v - r e)) 0 D
theorem dw_NA {ch : Nat → Nat} {r : Nat → Int} {D : Nat} : ∀ n v, dw_N ch r 0 D n v = dw_N ch r 0 D n (v + 1) + dw_A ch r D n v
  | 0, v => by
    show (if v ≤ 0 then 1 else 0) = (if v + 1 ≤ 0 then 1 else 0) + (if v = 0 then 1 else 0)
    by_cases h1 : v ≤ 0
    · by_cases h2 : v = 0
      · rw [if_pos h1, if_neg (by omega), if_pos h2]
      · rw [if_pos h1, if_pos (by omega), if_neg h2]
    · rw [if_neg h1, if_neg (by omega), if_neg (by omega)]
  | n + 1, v => by
    show dw_sd (fun e => ch e * dw_N ch r 0 D n (v - r e)) 0 D = dw_sd (fun e => ch e * dw_N ch r 0 D n (v + 1 - r e)) 0 D + dw_sd (fun e => ch e * dw_A ch r D n (v - r e)) 0 D
    rw [← dw_sd_add]
    refine dw_sd_cong fun e _ _ => ?_
    rw [dw_NA n (v - r e), show v - r e + 1 = v + 1 - r e by omega, Nat.mul_add]
theorem dw_sd_0 {f : Nat → Nat} {d m : Nat} (h : ∀ e, d ≤ e → e < d + m → f e = 0) : dw_sd f d m = 0 := by
  rw [dw_sd_cong (g := fun e => 0 * 0) h, dw_sd_mul (f := fun _ => 0), Nat.zero_mul]
theorem dw_A_0 {ch : Nat → Nat} {r : Nat → Int} {D : Nat} (hr : ∀ e, e < D → -594 ≤ r e ∧ r e ≤ 594) : ∀ (n : Nat) (v : Int), (v < -(600 * (n : Int)) ∨ 600 * (n : Int) < v) → dw_A ch r D n v = 0
  | 0, v, h => if_neg (by omega)
  | n + 1, v, h => by
    refine dw_sd_0 fun e _ he => ?_
    have := hr e (by omega)
    rw [dw_A_0 hr n (v - r e) (by omega), Nat.mul_zero]
theorem dw_N_0 {ch : Nat → Nat} {r : Nat → Int} {D : Nat} (hr : ∀ e, e < D → -594 ≤ r e ∧ r e ≤ 594) : ∀ (n : Nat) (v : Int), 600 * (n : Int) < v → dw_N ch r 0 D n v = 0
  | 0, v, h => if_neg (by omega)
  | n + 1, v, h => by
    refine dw_sd_0 fun e _ he => ?_
    have := hr e (by omega)
    rw [dw_N_0 hr n (v - r e) (by omega), Nat.mul_zero]
theorem dw_N_a {ch : Nat → Nat} {r : Nat → Int} {D : Nat} (hr : ∀ e, e < D → -594 ≤ r e ∧ r e ≤ 594) : ∀ (n : Nat) (v : Int), v ≤ -(600 * (n : Int)) → dw_N ch r 0 D n v = dw_sd ch 0 D ^ n
  | 0, v, h => if_pos (by omega)
  | n + 1, v, h => by
    show dw_sd (fun e => ch e * dw_N ch r 0 D n (v - r e)) 0 D = _
    rw [dw_sd_cong (g := fun e => dw_sd ch 0 D ^ n * ch e) (fun e _ he => by
      have := hr e (by omega)
      rw [dw_N_a hr n (v - r e) (by omega), Nat.mul_comm]), dw_sd_mul, Nat.pow_succ]
section DBAM
variable {U : Nat} {s : db_S} {c : db_C} {w : Nat → Int64} {x y z p q : Int32}
/-- both tell the same fraction, of great numbers too -/
theorem dw_tell2 {a b : Nat} (ha : a < 2 ^ 63) (hb0 : 0 < b) (hb : b < 2 ^ 63) : ∃ x y : Int64, (∀ s, db_f189 s (lN a) (lN b) = some (db_uL (db_uL s 282 0 x) 282 1 y)) ∧ ∀ s, db_f364 s (lN a) (lN b) = some (true, db_uL (db_uL s 669 2 x) 669 3 y) := by
  have ea : (lN a).toInt = (a : Int) := pk_lT ha
  obtain ⟨e, -⟩ := dw_abs (v := lN a) (by rw [ea]; omega)
  rw [ea, Int.natAbs_natCast] at e
  have hg : 0 < Nat.gcd a b := Nat.gcd_pos_of_pos_right _ hb0
  have hgb : Nat.gcd a b ≤ b := Nat.le_of_dvd hb0 (Nat.gcd_dvd_right _ _)
  have hgl : ¬ lN (Nat.gcd a b) = 0 := by rw [dw_l0 (by omega)]; omega
  refine ⟨lN a / lN (Nat.gcd a b), lN b / lN (Nat.gcd a b), fun s => ?_, fun s => ?_⟩
  · have hm := dw_189 (s := s) (v1 := lN a) (v3 := lN b) (n := 63) (a := a) (b := b) (r := 0) (k := 999873) ha hb (by decide) (by decide)
    unfold db_f189
    rw [e]
    refine Eq.trans ?_ (hm.trans ?_)
    · rfl
    · unfold db_f189_b48
      rw [dw_ceq, decide_eq_false hgl, db_cf, if_neg hgl, db_pL_e, db_bind_some, if_neg hgl]
      simp (disch := omega) only [db_lit, eq_self, db_pI_e, db_pL_e, db_bind_some, db_bd_some, nI_add, pk_mul, nI_toInt, db_m1_t, dz_cn, Int.ofNat_le, Int.ofNat_lt, decide_true, decide_false, db_ct, db_cf, not_true_eq_false, not_false_eq_true]
  · have hm := dw_364 (s := s) (v1 := lN a) (v3 := lN b) (n := 63) (a := a) (b := b) (k := 999873) ha hb (by decide) hg
    unfold db_f364
    rw [e]
    exact Eq.trans rfl hm
theorem dw_Am {a : db_S} (hc : db_A s c) (h : db_Em s a) : db_A a c := fun k hk => (h 674 k (by unfold db_em; omega)).1.trans (hc k hk)
theorem dw_m316 (hc : db_A s c) (hO : db_Ok U c) {d : Nat} (hd : d < db_n c 5) (hp : db_O p (db_n c 1)) (hq : db_O q (db_n c 2)) : dz_T (db_f316 s (nI d) p q) (fun z => z.1 = db_rq c d p q ∧ db_Em s z.2 ∧ z.2.2 = s.2) := by
  refine db_T_mono (db_316 hc hO hd hp hq) fun z hz => ?_
  obtain ⟨h1, ⟨h2, h3, h4⟩, -⟩ := hz
  refine ⟨h1, fun a j hj => ⟨?_, by rw [h4]⟩, h4⟩
  by_cases ha : a = 669
  · subst ha
    unfold db_em at hj
    exact h3 j (by omega) (by omega)
  · unfold db_em at hj
    rw [h2 a ha (by omega) (by omega) (by omega)]
theorem dw_chT (hO : db_Ok U c) : ∀ d, d ≤ db_n c 5 → db_ch c d = nI (dw_sd (fun e => db_n c (143 + e)) 0 d)
  | 0, _ => rfl
  | d + 1, hd => by
    have k1 := ((hO.2.2.2.1 d (by omega)).2.2.2.1).1
    rw [dw_sd_l, Nat.zero_add]
    show db_ch c d + c (143 + d) = _
    rw [dw_chT hO d (by omega), k1, nI_add]
theorem dw_T_b (hO : db_Ok U c) : ∀ d, d ≤ db_n c 5 → d ≤ dw_sd (fun e => db_n c (143 + e)) 0 d ∧ dw_sd (fun e => db_n c (143 + e)) 0 d ≤ 99 * d
  | 0, _ => ⟨Nat.le_refl _, Nat.le_refl _⟩
  | d + 1, hd => by
    have ih := dw_T_b hO d (by omega)
    obtain ⟨⟨-, k2⟩, k3⟩ := (hO.2.2.2.1 d (by omega)).2.2.2
    rw [dw_sd_l, Nat.zero_add]
    omega
/-- the class -/
theorem dw_191 (hR : db_BR 20 s c w) (hO : db_Ok U c) (hU : U ≤ 1000000000) (hp : db_O p (db_n c 1)) (hq : db_O q (db_n c 2)) {n : Nat} (hn : n ≤ 6) {v : Int32} (hv1 : -999 ≤ v.toInt) (hv2 : v.toInt ≤ 999) {fx fy : Int64} (hT : ∀ s, db_f189 s (lN (dw_N (fun e => db_n c (143 + e)) (fun e => (db_rq c e p q).toInt) 0 (db_n c 5) n v.toInt)) (lN (dw_sd (fun e => db_n c (143 + e)) 0 (db_n c 5) ^ n)) = some (db_uL (db_uL s 282 0 fx) 282 1 fy)) : dz_T (db_f191 s (nI n) v p q) (fun z => ∃ a, db_Ec s a ∧ z = db_uL (db_uL a 282 0 fx) 282 1 fy) := by
  have k5 := hO.1.2.2.2.2.2
  have h8 := k5.2
  have hTb := dw_T_b hO (db_n c 5) (Nat.le_refl _)
  unfold db_f191
  have key : db_f191_b6 db_FU s (nI n) v p q (lN 1) (nI 0) = db_f191_b34 db_FU s (nI n) v p q (lN (dw_sd (fun e => db_n c (143 + e)) 0 (db_n c 5) ^ n)) (nI 0) := by
    refine db_fold (L := fun m u k => db_f191_b6 m s (nI n) v p q u (nI k)) (N := n) (fun k => lN (dw_sd (fun e => db_n c (143 + e)) 0 (db_n c 5) ^ k)) (fun m => ?_) (fun m k hk => ?_) (by unfold db_FU; omega)
    · show db_f191_b6 (m + 1) s (nI n) v p q _ (nI n) = _
      rw [db_f191_b6]
      simp (disch := omega) only [db_lit, eq_self, db_pI_e, db_pL_e, db_bind_some, db_bd_some, nI_add, pk_mul, nI_toInt, db_m1_t, dz_cn, Int.ofNat_le, Int.ofNat_lt, decide_true, decide_false, db_ct, db_cf, not_true_eq_false, not_false_eq_true, Nat.le_refl]
    · show db_f191_b6 (m + 1) s (nI n) v p q _ (nI k) = db_f191_b6 m s (nI n) v p q _ (nI (k + 1))
      rw [db_f191_b6]
      have h7 : ¬ n ≤ k := by omega
      simp (disch := omega) only [db_lit, eq_self, db_pI_e, db_pL_e, db_bind_some, db_bd_some, nI_add, pk_mul, nI_toInt, db_m1_t, dz_cn, Int.ofNat_le, Int.ofNat_lt, decide_true, decide_false, db_ct, db_cf, not_true_eq_false, not_false_eq_true, h7, db_ch_e hR hO, dw_chT hO]
      rw [dw_iL (by omega), dw_lM, Nat.pow_succ]
  refine (congrArg (fun o => dz_T o _) (show db_f191_b6 db_FU s (nI n) v p q 1 0 = _ from key)).mpr ?_
  refine db_loop (L := fun m a d => db_f191_b34 m a (nI n) v p q (lN (dw_sd (fun e => db_n c (143 + e)) 0 (db_n c 5) ^ n)) (nI d)) (N := db_n c 5) (fun d a => db_Ec s a ∧ ∀ e, e < d → a.1 283 e = db_rq c e p q) ?_ ?_ (n := db_FU) (by unfold db_FU; omega) ⟨db_Ec_r, fun e he => absurd he (by omega)⟩
  · rintro m a ⟨g1, g2⟩
    show dz_T (db_f191_b34 (m + 1) a (nI n) v p q _ (nI (db_n c 5))) _
    rw [db_f191_b34]
    have g3 := db_BR_Ec hO g1 hR
    have e21 : a.1 21 5 = nI (db_n c 5) := by rw [db_21 g3 (by decide)]; exact k5.1
    have hw := dw_192 (s := a) (ch := fun e => db_n c (143 + e)) (R := fun e => db_rq c e p q) h8 e21 (fun e he => ⟨g2 e he, dw_rq_b hO hU he⟩) (fun e he => ⟨by rw [(db_59 g3 he).2.2.1]; exact ((hO.2.2.2.1 e he).2.2.2.1).1, ((hO.2.2.2.1 e he).2.2.2.1).2⟩) db_FR (db_n c 5) 0 n v (by omega) hn (by unfold db_FR; omega) (by omega) (by omega)
    simp (disch := omega) only [db_lit, eq_self, db_pI_e, db_pL_e, db_bind_some, db_bd_some, nI_add, pk_mul, nI_toInt, db_m1_t, dz_cn, Int.ofNat_le, Int.ofNat_lt, decide_true, decide_false, db_ct, db_cf, not_true_eq_false, not_false_eq_true, db_g_21, e21, Nat.le_refl, hw, hT]
    exact ⟨_, rfl, a, g1, rfl⟩
  · rintro m d a hd ⟨g1, g2⟩ hrec
    show dz_T (db_f191_b34 (m + 1) a (nI n) v p q _ (nI d)) _
    rw [db_f191_b34]
    have g3 := db_BR_Ec hO g1 hR
    have e21 : a.1 21 5 = nI (db_n c 5) := by rw [db_21 g3 (by decide)]; exact k5.1
    have h7 : ¬ db_n c 5 ≤ d := by omega
    simp (disch := omega) only [db_lit, eq_self, db_pI_e, db_pL_e, db_bind_some, db_bd_some, nI_add, pk_mul, nI_toInt, db_m1_t, dz_cn, Int.ofNat_le, Int.ofNat_lt, decide_true, decide_false, db_ct, db_cf, not_true_eq_false, not_false_eq_true, db_g_21, e21, h7]
    refine db_T_gd (db_127 g3 hO hU hd hp hq) fun r a2 hr => ?_
    obtain ⟨r1, r2, -⟩ := hr
    dsimp only at r1 r2
    subst r1
    simp (disch := omega) only [db_lit, eq_self, db_pI_e, db_pL_e, db_bind_some, db_bd_some, nI_add, pk_mul, nI_toInt, db_m1_t, dz_cn, Int.ofNat_le, Int.ofNat_lt, decide_true, decide_false, db_ct, db_cf, not_true_eq_false, not_false_eq_true, db_h_283]
    refine hrec _ ⟨db_Ec_uI (db_Ec_t g1 (db_F1_Ec r2 (fun j => by unfold db_ec; omega))) (by unfold db_ec; omega), fun e he => ?_⟩
    by_cases ee : e = d
    · subst ee; exact db_uI_1
    · rw [db_uI_j ee, r2.1 283 (by decide)]
      exact g2 e (by omega)
end DBAM
