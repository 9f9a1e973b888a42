/-! AT LEAST: counting -/
def dw_sd (f : Nat → Nat) (d : Nat) : Nat → Nat
  | 0 => 0
  | m + 1 => f d + dw_sd f (d + 1) m
def dw_C : Nat → Nat → Nat
  | _, 0 => 1
  | 0, _ + 1 => 0
  | n + 1, k + 1 => dw_C n k + dw_C n (k + 1)
/-- ways to dream n nights of the dreams d to d + m, at least v in all -/
def dw_N (ch : Nat → Nat) (r : Nat → Int) (d m : Nat) : Nat → Int → Nat
  | 0, v => if v ≤ 0 then 1 else 0
  | n + 1, v => dw_sd (fun e => ch e * dw_N ch r d m n (v - r e)) d m
theorem dw_sd_add {f g : Nat → Nat} : ∀ {m d : Nat}, dw_sd (fun e => f e + g e) d m = dw_sd f d m + dw_sd g d m
  | 0, _ => rfl
  | m + 1, d => by
    show f d + g d + dw_sd (fun e => f e + g e) (d + 1) m = f d + dw_sd f (d + 1) m + (g d + dw_sd g (d + 1) m)
    rw [dw_sd_add]
    omega
theorem dw_sd_cong {f g : Nat → Nat} : ∀ {m d : Nat}, (∀ e, d ≤ e → e < d + m → f e = g e) → dw_sd f d m = dw_sd g d m
  | 0, _, _ => rfl
  | m + 1, d, h => by
    show f d + dw_sd f (d + 1) m = g d + dw_sd g (d + 1) m
    rw [h d (by omega) (by omega), dw_sd_cong (fun e h1 h2 => h e (by omega) (by omega))]
theorem dw_sd_mul {c : Nat} {f : Nat → Nat} : ∀ {m d : Nat}, dw_sd (fun e => c * f e) d m = c * dw_sd f d m
  | 0, _ => rfl
  | m + 1, d => by
    show c * f d + dw_sd (fun e => c * f e) (d + 1) m = c * (f d + dw_sd f (d + 1) m)
    rw [dw_sd_mul, Nat.mul_add]
theorem dw_sd_le {f g : Nat → Nat} : ∀ {m d : Nat}, (∀ e, d ≤ e → e < d + m → f e ≤ g e) → dw_sd f d m ≤ dw_sd g d m
  | 0, _, _ => Nat.le_refl _
  | m + 1, d, h => Nat.add_le_add (h d (by omega) (by omega)) (dw_sd_le (fun e h1 h2 => h e (by omega) (by omega)))
theorem dw_sd_sm {g : Nat → Nat} {F : Nat → Nat → Nat} {d m : Nat} : ∀ K, dw_sd (fun e => g e * fb_sm (F e) K) d m = fb_sm (fun k => dw_sd (fun e => g e * F e k) d m) K
  | 0 => by
    show dw_sd (fun e => g e * 0) d m = 0
    rw [dw_sd_cong (g := fun e => 0 * g e) (fun e _ _ => by rw [Nat.mul_zero, Nat.zero_mul]), dw_sd_mul, Nat.zero_mul]
  | K + 1 => by
    rw [fb_sm_succ, ← dw_sd_sm K, ← dw_sd_add]
    exact dw_sd_cong fun e _ _ => by rw [fb_sm_succ, Nat.mul_add]
theorem dw_sm_s {f : Nat → Nat} : ∀ n, fb_sm f (n + 1) = f 0 + fb_sm (fun k => f (k + 1)) n
  | 0 => by
    show 0 + f 0 = f 0 + 0
    omega
  | n + 1 => by
    rw [fb_sm_succ, dw_sm_s n, fb_sm_succ]
    omega
theorem dw_C_0 : ∀ n, dw_C n 0 = 1
  | 0 => rfl
  | _ + 1 => rfl
theorem dw_C_o : ∀ n k, n < k → dw_C n k = 0
  | 0, 0, h => absurd h (by omega)
  | 0, _ + 1, _ => rfl
  | n + 1, 0, h => absurd h (by omega)
  | n + 1, k + 1, h => by
    show dw_C n k + dw_C n (k + 1) = 0
    rw [dw_C_o n k (by omega), dw_C_o n (k + 1) (by omega)]
theorem dw_C_r : ∀ n, n < 7 → ∀ k, k < 7 → dw_C n (k + 1) * (k + 1) = dw_C n k * (n - k) := by decide
theorem dw_C_b : ∀ n, n < 7 → ∀ k, k < 8 → dw_C n k ≤ 20 := by decide
/-- by how often the first is dreamed -/
theorem dw_N_s {ch : Nat → Nat} {r : Nat → Int} {d m : Nat} : ∀ n v, dw_N ch r d (m + 1) n v = fb_sm (fun k => dw_C n k * ch d ^ k * dw_N ch r (d + 1) m (n - k) (v - k * r d)) (n + 1)
  | 0, v => by
    show (if v ≤ 0 then 1 else 0) = 0 + dw_C 0 0 * ch d ^ 0 * (if v - ((0 : Nat) : Int) * r d ≤ 0 then 1 else 0)
    rw [show v - ((0 : Nat) : Int) * r d = v by simp, dw_C_0, Nat.pow_zero, Nat.one_mul, Nat.zero_add]
  | n + 1, v => by
    have hdef : dw_N ch r d (m + 1) (n + 1) v = ch d * dw_N ch r d (m + 1) n (v - r d) + dw_sd (fun e => ch e * dw_N ch r d (m + 1) n (v - r e)) (d + 1) m := rfl
    have h1 : ch d * dw_N ch r d (m + 1) n (v - r d) = fb_sm (fun k => dw_C n k * ch d ^ (k + 1) * dw_N ch r (d + 1) m (n - k) (v - ((k + 1 : Nat) : Int) * r d)) (n + 1) := by
      rw [dw_N_s n (v - r d)]
      have : ∀ K, ch d * fb_sm (fun k => dw_C n k * ch d ^ k * dw_N ch r (d + 1) m (n - k) (v - r d - k * r d)) K = fb_sm (fun k => dw_C n k * ch d ^ (k + 1) * dw_N ch r (d + 1) m (n - k) (v - ((k + 1 : Nat) : Int) * r d)) K := by
        intro K
        induction K with
        | zero => rfl
        | succ K ih =>
          rw [fb_sm_succ, fb_sm_succ, Nat.mul_add, ih]
          congr 1
          rw [show v - r d - (K : Int) * r d = v - ((K + 1 : Nat) : Int) * r d by rw [Int.natCast_add, Int.add_mul]; omega, Nat.pow_succ, ← Nat.mul_assoc, ← Nat.mul_assoc, ← Nat.mul_assoc, Nat.mul_comm (ch d) (dw_C n K), Nat.mul_assoc (dw_C n K) (ch d), Nat.mul_comm (ch d) (ch d ^ K), ← Nat.mul_assoc (dw_C n K) (ch d ^ K)]
      exact this (n + 1)
    have h2 : dw_sd (fun e => ch e * dw_N ch r d (m + 1) n (v - r e)) (d + 1) m = fb_sm (fun k => dw_C n k * ch d ^ k * dw_N ch r (d + 1) m (n + 1 - k) (v - k * r d)) (n + 1) := by
      rw [dw_sd_cong (g := fun e => ch e * fb_sm (fun k => dw_C n k * ch d ^ k * dw_N ch r (d + 1) m (n - k) (v - r e - k * r d)) (n + 1)) (fun e _ _ => by rw [dw_N_s n (v - r e)])]
      rw [dw_sd_sm]
      refine fb_sm_cong fun k hk => ?_
      rw [dw_sd_cong (g := fun e => (dw_C n k * ch d ^ k) * (ch e * dw_N ch r (d + 1) m (n - k) (v - k * r d - r e))) (fun e _ _ => by
        rw [show v - r e - (k : Int) * r d = v - k * r d - r e by omega, Nat.mul_left_comm]), dw_sd_mul, show n + 1 - k = (n - k) + 1 by omega]
      rfl
    have h3 : fb_sm (fun k => dw_C (n + 1) k * ch d ^ k * dw_N ch r (d + 1) m (n + 1 - k) (v - k * r d)) (n + 1 + 1) = dw_C (n + 1) 0 * ch d ^ 0 * dw_N ch r (d + 1) m (n + 1 - 0) (v - ((0 : Nat) : Int) * r d) + (fb_sm (fun k => dw_C n k * ch d ^ (k + 1) * dw_N ch r (d + 1) m (n - k) (v - ((k + 1 : Nat) : Int) * r d)) (n + 1) + fb_sm (fun k => dw_C n (k + 1) * ch d ^ (k + 1) * dw_N ch r (d + 1) m (n - k) (v - ((k + 1 : Nat) : Int) * r d)) (n + 1)) := by
      rw [dw_sm_s, ← fb_sm_add]
      congr 1
      refine fb_sm_cong fun k hk => ?_
      show (dw_C n k + dw_C n (k + 1)) * _ * dw_N ch r (d + 1) m (n + 1 - (k + 1)) _ = _
      rw [Nat.add_mul, Nat.add_mul, show n + 1 - (k + 1) = n - k by omega]
    have h4 : fb_sm (fun k => dw_C n k * ch d ^ k * dw_N ch r (d + 1) m (n + 1 - k) (v - k * r d)) (n + 1) = dw_C n 0 * ch d ^ 0 * dw_N ch r (d + 1) m (n + 1 - 0) (v - ((0 : Nat) : Int) * r d) + fb_sm (fun k => dw_C n (k + 1) * ch d ^ (k + 1) * dw_N ch r (d + 1) m (n - k) (v - ((k + 1 : Nat) : Int) * r d)) n := by
      rw [dw_sm_s]
      congr 1
      refine fb_sm_cong fun k hk => ?_
      rw [show n + 1 - (k + 1) = n - k by omega]
    rw [hdef, h1, h2, h3, h4, fb_sm_succ (fun k => dw_C n (k + 1) * ch d ^ (k + 1) * dw_N ch r (d + 1) m (n - k) (v - ((k + 1 : Nat) : Int) * r d)) n, dw_C_o n (n + 1) (by omega), dw_C_0, dw_C_0, Nat.zero_mul, Nat.zero_mul]
    omega
theorem dw_N_le {ch : Nat → Nat} {r : Nat → Int} {d m : Nat} : ∀ n v, dw_N ch r d m n v ≤ (dw_sd ch d m) ^ n
  | 0, v => by
    show (if v ≤ 0 then 1 else 0) ≤ 1
    split <;> omega
  | n + 1, v => by
    show dw_sd (fun e => ch e * dw_N ch r d m n (v - r e)) d m ≤ _
    rw [Nat.pow_succ, ← dw_sd_mul]
    exact dw_sd_le fun e _ _ => by
      rw [Nat.mul_comm]
      exact Nat.mul_le_mul (dw_N_le n _) (Nat.le_refl _)
section DBAL
variable {U : Nat} {s : db_S} {c : db_C} {w : Nat → Int64} {x y z p q : Int32}
theorem dw_iL {n : Nat} (h : n < 2 ^ 31) : (nI n).toInt64 = lN n := Int64.toInt_inj.mp (by rw [db_iL, nI_toInt h, pk_lT (by omega)])
theorem dw_lA (a b : Nat) : lN a + lN b = lN (a + b) := (Int64.ofNat_add a b).symm
theorem dw_lM (a b : Nat) : lN a * lN b = lN (a * b) := (Int64.ofNat_mul a b).symm
/-- readings lie between -594 and 594 -/
theorem dw_wo_b (hO : db_Ok U c) (hU : U ≤ 1000000000) {r : Nat} (hr : r < db_n c 3) : -99 ≤ (db_wo c r).toInt ∧ (db_wo c r).toInt ≤ 99 := by
  obtain ⟨-, ⟨h1, h2⟩, -, -, -, -, h3, h4⟩ := hO.2.1 r hr
  have e0 : (nI 0).toInt = 0 := rfl
  have es : (c (31 + r) - c (91 + r)).toInt = (c (31 + r)).toInt - (c (91 + r)).toInt := fb_subI (by omega) (by omega)
  have ea : (c (31 + r) + c (91 + r)).toInt = (c (31 + r)).toInt + (c (91 + r)).toInt := fb_addI (by omega) (by omega)
  unfold db_wo
  by_cases g0 : 0 ≤ (c (31 + r)).toInt
  · rw [if_pos g0]
    by_cases g1 : nI 0 < c (31 + r) - c (91 + r)
    · rw [if_pos g1, es]
      have := (fa_lt _ _).mp g1
      rw [es, e0] at this
      omega
    · rw [if_neg g1, e0]
      omega
  · rw [if_neg g0]
    by_cases g1 : c (31 + r) + c (91 + r) < nI 0
    · rw [if_pos g1, ea]
      have := (fa_lt _ _).mp g1
      rw [ea, e0] at this
      omega
    · rw [if_neg g1, e0]
      omega
theorem dw_su_b (hO : db_Ok U c) (hU : U ≤ 1000000000) {row : Nat → Int32} {n : Nat} : ∀ i : Nat, i ≤ 6 → -(99 * (i : Int)) ≤ (db_su c row n p q i).toInt ∧ (db_su c row n p q i).toInt ≤ 99 * (i : Int)
  | 0, _ => by
    have e0 : (nI 0).toInt = 0 := rfl
    show -(99 * ((0 : Nat) : Int)) ≤ (nI 0).toInt ∧ (nI 0).toInt ≤ _
    omega
  | i + 1, hi => by
    have ih := dw_su_b hO hU (row := row) (n := n) i (by omega)
    have hw : -99 ≤ (db_wq c (db_co c row n p q i)).toInt ∧ (db_wq c (db_co c row n p q i)).toInt ≤ 99 := by
      cases ho : db_co c row n p q i with
      | none =>
        have e0 : (nI 0).toInt = 0 := rfl
        show -99 ≤ (nI 0).toInt ∧ (nI 0).toInt ≤ 99
        omega
      | some r => exact dw_wo_b hO hU (db_fst_lt ho)
    show -(99 * ((i + 1 : Nat) : Int)) ≤ (db_su c row n p q i + db_wq c (db_co c row n p q i)).toInt ∧ (db_su c row n p q i + db_wq c (db_co c row n p q i)).toInt ≤ 99 * ((i + 1 : Nat) : Int)
    rw [fb_addI (by omega) (by omega)]
    omega
theorem dw_rq_b (hO : db_Ok U c) (hU : U ≤ 1000000000) {d : Nat} (hd : d < db_n c 5) : -594 ≤ (db_rq c d p q).toInt ∧ (db_rq c d p q).toInt ≤ 594 := by
  have hL := (hO.2.2.2.1 d hd).1.1.2
  have h := dw_su_b (p := p) (q := q) hO hU (row := db_dr c d) (n := db_n c (127 + d)) (db_n c (127 + d)) hL
  unfold db_rq db_re
  by_cases e : db_ow c p q = true
  · rw [if_pos e, fb_negI (by omega)]
    omega
  · rw [if_neg e]
    omega
/-- the class counts the ways -/
theorem dw_192 {ch : Nat → Nat} {R : Nat → Int32} {D : Nat} (hD : D ≤ 8) (h5 : s.1 21 5 = nI D) (hR : ∀ e, e < D → s.1 283 e = R e ∧ -594 ≤ (R e).toInt ∧ (R e).toInt ≤ 594) (hC : ∀ e, e < D → s.1 61 e = nI (ch e) ∧ ch e ≤ 99) : ∀ (F m d n : Nat) (v : Int32), d + m = D → n ≤ 6 → m < F → -(10000 - 600 * (n : Int)) ≤ v.toInt → v.toInt ≤ 10000 - 600 * (n : Int) → db_f192 s F (nI d) (nI n) v = some (lN (dw_N ch (fun e => (R e).toInt) d m n v.toInt)) := by
  intro F
  induction F with
  | zero =>
    intro m d n v hd hn hF h1 h2
    omega
  | succ F IH =>
    intro m d n v hd hn hF h1 h2
    cases n with
    | zero =>
        rw [db_f192]
        unfold db_f192_e
        simp (disch := omega) only [db_lit, eq_self, db_pI_e, db_pL_e, db_bind_some, db_bd_some, nI_add, pk_mul, nI_toInt, db_m1_t, dz_cn, Int.ofNat_le, Int.ofNat_lt, decide_true, decide_false, db_ct, db_cf, not_true_eq_false, not_false_eq_true]
        show _ = some (lN (if v.toInt ≤ 0 then 1 else 0))
        by_cases e : v.toInt ≤ 0
        · rw [if_pos e, decide_eq_false (by omega), db_cf]
          rfl
        · rw [if_neg e, decide_eq_true (by omega), db_ct]
          rfl
    | succ n =>
      cases m with
      | zero =>
          rw [db_f192]
          unfold db_f192_e
          have e0 : ¬ nI (n + 1) = nI 0 := by rw [nI_eq (by omega) (by omega)]; omega
          simp (disch := omega) only [db_lit, eq_self, db_pI_e, db_pL_e, db_bind_some, db_bd_some, nI_add, pk_mul, nI_toInt, db_m1_t, dz_cn, Int.ofNat_le, Int.ofNat_lt, decide_true, decide_false, db_ct, db_cf, not_true_eq_false, not_false_eq_true, e0, db_g_21, h5, (show ¬ d < D by omega)]
          rfl
      | succ m =>
          rw [db_f192]
          unfold db_f192_e
          have e0 : ¬ nI (n + 1) = nI 0 := by rw [nI_eq (by omega) (by omega)]; omega
          simp (disch := omega) only [db_lit, eq_self, db_pI_e, db_pL_e, db_bind_some, db_bd_some, nI_add, pk_mul, nI_toInt, db_m1_t, dz_cn, Int.ofNat_le, Int.ofNat_lt, decide_true, decide_false, db_ct, db_cf, not_true_eq_false, not_false_eq_true, e0, db_g_21, h5, (show d < D by omega)]
          obtain ⟨r1, r2, r3⟩ := hR d (by omega)
          obtain ⟨c1, c2⟩ := hC d (by omega)
          rw [dw_N_s]
          refine db_fold (L := fun m' (a : Int64 × Int64) k => db_f192_b38 (db_f192 s F) s m' (nI d) (nI (n + 1)) v a.1 a.2 (nI k)) (N := n + 1 + 1) (fun k => (lN (fb_sm (fun k => dw_C (n + 1) k * ch d ^ k * dw_N ch (fun e => (R e).toInt) (d + 1) m (n + 1 - k) (v.toInt - k * (R d).toInt)) k), lN (dw_C (n + 1) k * ch d ^ k))) (fun m' => ?_) (fun m' k hk => ?_) (n := db_FU) (by unfold db_FU; omega)
          · show db_f192_b38 (db_f192 s F) s (m' + 1) (nI d) (nI (n + 1)) v _ _ (nI (n + 1 + 1)) = _
            rw [db_f192_b38]
            simp (disch := omega) only [db_lit, eq_self, db_pI_e, db_pL_e, db_bind_some, db_bd_some, nI_add, pk_mul, nI_toInt, db_m1_t, dz_cn, Int.ofNat_le, Int.ofNat_lt, decide_true, decide_false, db_ct, db_cf, not_true_eq_false, not_false_eq_true, (show n + 1 < n + 1 + 1 by omega)]
          · show db_f192_b38 (db_f192 s F) s (m' + 1) (nI d) (nI (n + 1)) v (lN _) (lN _) (nI k) = db_f192_b38 (db_f192 s F) s m' (nI d) (nI (n + 1)) v (lN (_ + _)) (lN _) (nI (k + 1))
            rw [db_f192_b38]
            have h7 : ¬ n + 1 < k := by omega
            have ek : (nI k).toInt = (k : Int) := nI_toInt (by omega)
            have mb : -(594 * (k : Int)) ≤ (k : Int) * (R d).toInt ∧ (k : Int) * (R d).toInt ≤ 594 * (k : Int) := by
              rcases (by omega : k = 0 ∨ k = 1 ∨ k = 2 ∨ k = 3 ∨ k = 4 ∨ k = 5 ∨ k = 6) with rfl | rfl | rfl | rfl | rfl | rfl | rfl <;> omega
            have em : (nI k * R d).toInt = (k : Int) * (R d).toInt := by rw [fb_mulI (by rw [ek]; omega) (by rw [ek]; omega), ek]
            have ev : (v - nI k * R d).toInt = v.toInt - (k : Int) * (R d).toInt := by rw [fb_subI (by rw [em]; omega) (by rw [em]; omega), em]
            have ih := IH m (d + 1) (n + 1 - k) (v - nI k * R d) (by omega) (by omega) (by omega) (by rw [ev]; omega) (by rw [ev]; omega)
            rw [ev] at ih
            have hCb := dw_C_b (n + 1) (by omega) k (by omega)
            have hCr := dw_C_r (n + 1) (by omega) k (by omega)
            have hpow : ch d ^ k ≤ 99 ^ 6 := Nat.le_trans (Nat.pow_le_pow_left c2 k) (Nat.pow_le_pow_right (by decide) (by omega))
            have hk1 : ¬ (nI (k + 1)).toInt64 = 0 := by rw [dw_iL (by omega), dw_l0 (by omega)]; omega
            simp (disch := omega) only [db_lit, eq_self, db_pI_e, db_pL_e, db_bind_some, db_bd_some, nI_add, pk_mul, nI_toInt, db_m1_t, dz_cn, Int.ofNat_le, Int.ofNat_lt, decide_true, decide_false, db_ct, db_cf, not_true_eq_false, not_false_eq_true, h7, db_g_283, r1, pk_sub, ih, db_g_61, c1]
            rw [if_neg hk1, dw_iL (by omega), dw_iL (by omega), dw_iL (by omega), dw_lM, dw_lM, dw_lM, dw_lA]
            have hb1 : dw_C (n + 1) k * ch d ^ k ≤ 20 * 99 ^ 6 := Nat.mul_le_mul hCb hpow
            have hb2 : dw_C (n + 1) k * ch d ^ k * (n + 1 - k) ≤ 20 * 99 ^ 6 * 6 := Nat.mul_le_mul hb1 (by omega)
            have hb3 : dw_C (n + 1) k * ch d ^ k * (n + 1 - k) * ch d ≤ 20 * 99 ^ 6 * 6 * 99 := Nat.mul_le_mul hb2 c2
            have hbig : 20 * 99 ^ 6 * 6 * 99 < 2 ^ 63 := by decide
            rw [pk_lDiv (by omega) (by omega) (by omega)]
            have hdiv : dw_C (n + 1) k * ch d ^ k * (n + 1 - k) * ch d / (k + 1) = dw_C (n + 1) (k + 1) * ch d ^ (k + 1) := by
              have : dw_C (n + 1) k * ch d ^ k * (n + 1 - k) * ch d = dw_C (n + 1) (k + 1) * ch d ^ (k + 1) * (k + 1) := by
                rw [Nat.pow_succ, Nat.mul_right_comm (dw_C (n + 1) (k + 1)), hCr]
                rw [Nat.mul_right_comm (dw_C (n + 1) k) (ch d ^ k), ← Nat.mul_assoc, Nat.mul_assoc (dw_C (n + 1) k * (n + 1 - k))]
              rw [this]
              exact Nat.mul_div_cancel _ (by omega)
            rw [hdiv]
end DBAL
