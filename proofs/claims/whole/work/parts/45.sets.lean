/-! SETS OF RULES: stable ones -/
theorem db_b1_n {n : Nat} (h : n < 31) : db_b1 n = nI (2 ^ n) := by
  have hp : (2 : Nat) ^ n < 2 ^ 31 := Nat.pow_lt_pow_right (by decide) h
  have h1 := pk_shlN (n := 1) (nI n &&& nI 31) n (by have := s_l n (by omega); exact this) (by omega)
  rw [Nat.one_mul] at h1
  exact h1
theorem db_bt_nI {k i : Nat} (hi : i < 32) : bt (nI k) i = k.testBit i := by
  show (BitVec.ofNat 32 k).getLsbD i = _
  rw [BitVec.getLsbD_ofNat]
  simp [hi]
/-- all rules -/
theorem db_full {n : Nat} (hn : n ≤ 12) : nI (2 ^ n) - nI 1 = db_mk (fun _ => true) n := by
  have hp : (2 : Nat) ^ n ≤ 2 ^ 12 := Nat.pow_le_pow_right (by decide) hn
  have h1 : 1 ≤ 2 ^ n := Nat.one_le_two_pow
  rw [pk_sub h1]
  refine db_mk_eq (by omega) fun i hi => ?_
  rw [db_bt_nI hi, Nat.testBit_two_pow_sub_one]
  simp
theorem db_mk_and {f : Nat → Bool} {n : Nat} {x : Int32} (hn : n ≤ 31) : decide (db_mk f n &&& x = nI 0) = !db_ex (fun a => f a && bt x a) n := by
  cases h : db_ex (fun a => f a && bt x a) n with
  | false =>
    have h := db_ex_no.mp h
    refine decide_eq_true (b_ext fun i hi => ?_)
    rw [b_and, db_mk_bt (by omega) hi, show nI 0 = (0 : Int32) from rfl, b_0]
    by_cases hin : i < n
    · have := h i hin
      simp only [hin, decide_true, Bool.true_and]
      exact this
    · simp [hin]
  | true =>
    obtain ⟨k, hk, hp⟩ := db_ex_iff.mp h
    refine decide_eq_false fun e => ?_
    have h2 := congrArg (fun z => bt z k) e
    rw [b_and, db_mk_at hk hn, show nI 0 = (0 : Int32) from rfl, b_0] at h2
    rw [hp] at h2
    cases h2
/-- some rule of the set strikes this one -/
def db_sx (c : db_C) (x : Int32) (r : Nat) : Bool := db_ex (fun a => db_hit c a r && bt x a) (db_n c 3)
def db_sl (c : db_C) (x : Int32) : Bool := !db_ex (fun r => bt x r == db_sx c x r) (db_n c 3)
theorem db_pow12 {n : Nat} (hn : n ≤ 12) : 2 ^ n ≤ 4096 ∧ 1 ≤ 2 ^ n := ⟨Nat.pow_le_pow_right (show 0 < 2 by decide) hn, Nat.one_le_two_pow⟩
section DBT1
variable {U : Nat} {s : db_S} {c : db_C} {w : Nat → Int64} {v x y z p q : Int32}
theorem db_115 (hR : db_BR 20 s c w) (hO : db_Ok U c) : db_f115_20 s = some (nI (2 ^ db_n c 3)) := by
  have k3 := db_Ok_K hO (show 3 < 6 by omega)
  have k12 := k3.2
  unfold db_f115_20
  simp (disch := omega) only [db_lit, eq_self, db_pI_e, db_pL_e, db_bind_some, db_bd_some, nI_add, pk_mul, nI_toInt, db_m1_t, dz_cn, Int.ofNat_le, Int.ofNat_lt, decide_true, decide_false, db_ct, db_cf, not_true_eq_false, not_false_eq_true, db_87e, db_37e, db_31e, db_28e, db_281e, db_211e, db_27, db_269w, db_litL, pk_lT, db_iL, db_p0_e, db_p0_n, db_p0_j, db_sub1, nI_eq, if_true, if_false, Bool.false_eq_true, db_g_21, db_21 hR, k3.1]
  exact congrArg some (db_b1_n (show db_n c 3 < 31 by omega))
theorem db_116 (hR : db_BR 20 s c w) (hO : db_Ok U c) : db_f116_20 s x = some (db_sl c x) := by
  have k3 := db_Ok_K hO (show 3 < 6 by omega)
  have k12 := k3.2
  unfold db_f116_20
  have := db_srch (L := fun n k => db_f116_20_b2 s n x (nI k)) (N := db_n c 3) (fun r => bt x r == db_sx c x r) (fun o => !o.isSome) (fun n => ?_) (fun n k hk => ?_) (n := db_FU) (by unfold db_FU; omega)
  · refine Eq.trans this ?_
    unfold db_sl
    cases hf : db_fst (fun r => bt x r == db_sx c x r) (db_n c 3) with
    | none => rw [db_ex_no.mpr (db_fst_none.mp hf)]; rfl
    | some k =>
      have g := db_fst_some.mp hf
      rw [db_ex_iff.mpr ⟨k, g.1, g.2.1⟩]; rfl
  · show db_f116_20_b2 s (n + 1) x (nI (db_n c 3)) = _
    rw [db_f116_20_b2]
    simp (disch := omega) only [db_lit, eq_self, db_pI_e, db_pL_e, db_bind_some, db_bd_some, nI_add, pk_mul, nI_toInt, db_m1_t, dz_cn, Int.ofNat_le, Int.ofNat_lt, decide_true, decide_false, db_ct, db_cf, not_true_eq_false, not_false_eq_true, db_87e, db_37e, db_31e, db_28e, db_281e, db_211e, db_27, db_269w, db_litL, pk_lT, db_iL, db_p0_e, db_p0_n, db_p0_j, db_sub1, nI_eq, if_true, if_false, Bool.false_eq_true, db_g_21, db_21 hR, k3.1, Nat.le_refl]
    rfl
  · show db_f116_20_b2 s (n + 1) x (nI k) = _
    rw [db_f116_20_b2]
    have h7 : ¬ db_n c 3 ≤ k := by omega
    simp (disch := omega) only [db_lit, eq_self, db_pI_e, db_pL_e, db_bind_some, db_bd_some, nI_add, pk_mul, nI_toInt, db_m1_t, dz_cn, Int.ofNat_le, Int.ofNat_lt, decide_true, decide_false, db_ct, db_cf, not_true_eq_false, not_false_eq_true, db_87e, db_37e, db_31e, db_28e, db_281e, db_211e, db_27, db_269w, db_litL, pk_lT, db_iL, db_p0_e, db_p0_n, db_p0_j, db_sub1, nI_eq, if_true, if_false, Bool.false_eq_true, db_g_21, db_21 hR, k3.1, h7, db_112 (show k < 31 by omega), db_g_63, (db_62 hR hk).2, db_mk_and (show db_n c 3 ≤ 31 by omega), db_f116_20_b33]
    show cond (!db_sx c x k) _ _ = _
    cases db_sx c x k <;> cases bt x k <;> rfl
theorem db_305 (hc : db_A s c) (hO : db_Ok U c) : db_f305 s x = some (db_sl c x) := by
  have k3 := db_Ok_K hO (show 3 < 6 by omega)
  have k12 := k3.2
  -- what the set strikes
  have hF : ∀ F : Nat → Int32, F 0 = nI 0 → (∀ k, F (k + 1) = F k ||| (if bt x k then db_mk (fun b => db_hit c k b) (db_n c 3) else nI 0)) → (∀ k, k ≤ db_n c 3 → F k = db_mk (fun b => db_ex (fun a => db_hit c a b && bt x a) k) (db_n c 3)) := by
    intro F h0 hs k
    induction k with
    | zero =>
      intro _
      rw [h0]
      refine db_mk_eq (by omega) fun i hi => ?_
      rw [show nI 0 = (0 : Int32) from rfl, b_0]
      simp [db_ex]
    | succ k ih =>
      intro hk
      rw [hs, ih (by omega)]
      refine db_mk_eq (by omega) fun i hi => ?_
      rw [b_or, db_mk_bt (by omega) hi]
      show _ = (decide (i < db_n c 3) && (db_ex (fun a => db_hit c a i && bt x a) k || (db_hit c k i && bt x k)))
      cases hb : bt x k
      · rw [if_neg (by decide), show nI 0 = (0 : Int32) from rfl, b_0]
        simp
      · rw [if_pos rfl, db_mk_bt (by omega) hi]
        cases decide (i < db_n c 3) <;> simp
  unfold db_f305
  have := db_fold (L := fun n v k => db_f305_b4 s n x v (nI k)) (N := db_n c 3) (fun k => Nat.rec (nI 0) (fun k F => F ||| (if bt x k then db_mk (fun b => db_hit c k b) (db_n c 3) else nI 0)) k) (r := some (db_sl c x)) (fun n => ?_) (fun n k hk => ?_) (n := db_FU) (by unfold db_FU; omega)
  · exact this
  · show db_f305_b4 s (n + 1) x _ (nI (db_n c 3)) = _
    rw [hF (fun k => Nat.rec (nI 0) (fun k F => F ||| (if bt x k then db_mk (fun b => db_hit c k b) (db_n c 3) else nI 0)) k) rfl (fun _ => rfl) _ (Nat.le_refl _)]
    rw [db_f305_b4]
    simp (disch := omega) only [db_lit, eq_self, db_pI_e, db_pL_e, db_bind_some, db_bd_some, nI_add, pk_mul, nI_toInt, db_m1_t, dz_cn, Int.ofNat_le, Int.ofNat_lt, decide_true, decide_false, db_ct, db_cf, not_true_eq_false, not_false_eq_true, db_87e, db_37e, db_31e, db_28e, db_281e, db_211e, db_27, db_269w, db_litL, pk_lT, db_iL, db_p0_e, db_p0_n, db_p0_j, db_sub1, nI_eq, if_true, if_false, Bool.false_eq_true, db_g_674, hc, k3.1, Nat.le_refl]
    have e1 : (nI 1 <<< (nI (db_n c 3) &&& nI 31) - nI 1) &&& (x ^^^ -(nI 1)) = db_mk (fun b => !bt x b) (db_n c 3) := by
      rw [show nI 1 <<< (nI (db_n c 3) &&& nI 31) = nI (2 ^ db_n c 3) from db_b1_n (by omega), db_full k12]
      refine db_mk_eq (by omega) fun i hi => ?_
      rw [b_and, b_xor, db_mk_bt (by omega) hi, show -(nI 1) = (-1 : Int32) from rfl, b_m1 i hi]
      cases decide (i < db_n c 3) <;> cases bt x i <;> rfl
    rw [e1]
    unfold db_sl
    cases hx : db_ex (fun r => bt x r == db_sx c x r) (db_n c 3) with
    | false =>
      have hx := db_ex_no.mp hx
      have e2 : db_mk (fun b => db_ex (fun a => db_hit c a b && bt x a) (db_n c 3)) (db_n c 3) = db_mk (fun b => !bt x b) (db_n c 3) := db_mk_cong fun k hk => by
        have := hx k hk
        unfold db_sx at this
        cases h1 : bt x k <;> cases h2 : db_ex (fun a => db_hit c a k && bt x a) (db_n c 3) <;> rw [h1, h2] at this <;> first | rfl | cases this
      rw [decide_eq_false (fun g => g e2)]
      rfl
    | true =>
      obtain ⟨k, hk, hp⟩ := db_ex_iff.mp hx
      have hne : ¬ db_mk (fun b => db_ex (fun a => db_hit c a b && bt x a) (db_n c 3)) (db_n c 3) = db_mk (fun b => !bt x b) (db_n c 3) := fun e => by
        have h2 : bt _ k = bt _ k := congrArg (fun z => bt z k) e
        rw [db_mk_at hk (by omega), db_mk_at hk (by omega)] at h2
        have hp : (bt x k == db_ex (fun a => db_hit c a k && bt x a) (db_n c 3)) = true := hp
        rw [h2] at hp
        revert hp
        cases bt x k <;> decide
      rw [decide_eq_true hne]
      rfl
  · show db_f305_b4 s (n + 1) x _ (nI k) = db_f305_b4 s n x (_ ||| (if bt x k then db_mk (fun b => db_hit c k b) (db_n c 3) else nI 0)) (nI (k + 1))
    rw [db_f305_b4]
    have h7 : ¬ db_n c 3 ≤ k := by omega
    simp (disch := omega) only [db_lit, eq_self, db_pI_e, db_pL_e, db_bind_some, db_bd_some, nI_add, pk_mul, nI_toInt, db_m1_t, dz_cn, Int.ofNat_le, Int.ofNat_lt, decide_true, decide_false, db_ct, db_cf, not_true_eq_false, not_false_eq_true, db_87e, db_37e, db_31e, db_28e, db_281e, db_211e, db_27, db_269w, db_litL, pk_lT, db_iL, db_p0_e, db_p0_n, db_p0_j, db_sub1, nI_eq, if_true, if_false, Bool.false_eq_true, db_g_674, hc, k3.1, h7, db_287 (show k < 31 by omega), db_306 hc hO, db_f305_b32]
    cases bt x k <;> rfl
/-- how many stable sets stand ahead -/
def db_sn (c : db_C) (k : Nat) : Nat := fb_ct (fun i => db_sl c (nI i)) k
def db_sk (c : db_C) (v : Int32) (i : Nat) : Bool := db_sl c (nI i) && decide ((db_sn c i : Int) = v.toInt)
theorem db_sn_s {k : Nat} : db_sn c (k + 1) = db_sn c k + (if db_sl c (nI k) then 1 else 0) := rfl
theorem db_sn_le {k : Nat} : db_sn c k ≤ k := fb_ct_le _ k
theorem db_sk_one {i j : Nat} (hi : db_sk c v i = true) (hj : db_sk c v j = true) : i = j := by
  simp only [db_sk, Bool.and_eq_true, decide_eq_true_eq] at hi hj
  refine fb_ct_kth_one (p := fun i => db_sl c (nI i)) hi.1 hj.1 ?_
  have := hi.2.trans hj.2.symm
  unfold db_sn at this
  omega
theorem db_114 (hR : db_BR 20 s c w) (hO : db_Ok U c) : db_f114_20 s = some (nI (db_sn c (2 ^ db_n c 3))) := by
  have k12 := (db_Ok_K hO (show 3 < 6 by omega)).2
  have hp := db_pow12 k12
  unfold db_f114_20
  refine db_fold (L := fun n v k => db_f114_20_b4 s n v (nI k)) (N := 2 ^ db_n c 3) (fun k => nI (db_sn c k)) (fun n => ?_) (fun n k hk => ?_) (n := db_FU) (by unfold db_FU; omega)
  · show db_f114_20_b4 s (n + 1) _ (nI (2 ^ db_n c 3)) = _
    rw [db_f114_20_b4]
    simp (disch := omega) only [db_lit, eq_self, db_pI_e, db_pL_e, db_bind_some, db_bd_some, nI_add, pk_mul, nI_toInt, db_m1_t, dz_cn, Int.ofNat_le, Int.ofNat_lt, decide_true, decide_false, db_ct, db_cf, not_true_eq_false, not_false_eq_true, db_87e, db_37e, db_31e, db_28e, db_281e, db_211e, db_27, db_269w, db_litL, pk_lT, db_iL, db_p0_e, db_p0_n, db_p0_j, db_sub1, nI_eq, if_true, if_false, Bool.false_eq_true, db_115 hR hO, Nat.le_refl]
  · show db_f114_20_b4 s (n + 1) (nI (db_sn c k)) (nI k) = db_f114_20_b4 s n (nI (db_sn c (k + 1))) (nI (k + 1))
    rw [db_f114_20_b4]
    have h7 : ¬ 2 ^ db_n c 3 ≤ k := by omega
    simp (disch := omega) only [db_lit, eq_self, db_pI_e, db_pL_e, db_bind_some, db_bd_some, nI_add, pk_mul, nI_toInt, db_m1_t, dz_cn, Int.ofNat_le, Int.ofNat_lt, decide_true, decide_false, db_ct, db_cf, not_true_eq_false, not_false_eq_true, db_87e, db_37e, db_31e, db_28e, db_281e, db_211e, db_27, db_269w, db_litL, pk_lT, db_iL, db_p0_e, db_p0_n, db_p0_j, db_sub1, nI_eq, if_true, if_false, Bool.false_eq_true, db_115 hR hO, h7, db_116 hR hO, db_f114_20_b23]
    rw [db_sn_s]
    cases db_sl c (nI k) <;> rfl
theorem db_118 (hR : db_BR 20 s c w) (hO : db_Ok U c) : db_f118_20 s v = some (db_o (db_fst (db_sk c v) (2 ^ db_n c 3))) := by
  have k12 := (db_Ok_K hO (show 3 < 6 by omega)).2
  have hp := db_pow12 k12
  unfold db_f118_20
  rw [← db_T_eq]
  refine db_loop (L := fun n u k => db_f118_20_b4 s n v u (nI k)) (N := 2 ^ db_n c 3) (fun k u => u = nI (db_sn c k) ∧ ∀ i, i < k → db_sk c v i = false) ?_ ?_ (n := db_FU) (by unfold db_FU; omega) ⟨rfl, lt_0⟩
  · rintro n u ⟨h1, h2⟩
    show dz_T (db_f118_20_b4 s (n + 1) v u (nI (2 ^ db_n c 3))) _
    rw [db_f118_20_b4]
    simp (disch := omega) only [db_lit, eq_self, db_pI_e, db_pL_e, db_bind_some, db_bd_some, nI_add, pk_mul, nI_toInt, db_m1_t, dz_cn, Int.ofNat_le, Int.ofNat_lt, decide_true, decide_false, db_ct, db_cf, not_true_eq_false, not_false_eq_true, db_87e, db_37e, db_31e, db_28e, db_281e, db_211e, db_27, db_269w, db_litL, pk_lT, db_iL, db_p0_e, db_p0_n, db_p0_j, db_sub1, nI_eq, if_true, if_false, Bool.false_eq_true, db_115 hR hO, Nat.le_refl, db_T_some]
    rw [db_fst_none.mpr h2]
    rfl
  · rintro n k u hk ⟨h1, h2⟩ hrec
    show dz_T (db_f118_20_b4 s (n + 1) v u (nI k)) _
    rw [db_f118_20_b4]
    have h7 : ¬ 2 ^ db_n c 3 ≤ k := by omega
    have hle := @db_sn_le c k
    simp (disch := omega) only [db_lit, eq_self, db_pI_e, db_pL_e, db_bind_some, db_bd_some, nI_add, pk_mul, nI_toInt, db_m1_t, dz_cn, Int.ofNat_le, Int.ofNat_lt, decide_true, decide_false, db_ct, db_cf, not_true_eq_false, not_false_eq_true, db_87e, db_37e, db_31e, db_28e, db_281e, db_211e, db_27, db_269w, db_litL, pk_lT, db_iL, db_p0_e, db_p0_n, db_p0_j, db_sub1, nI_eq, if_true, if_false, Bool.false_eq_true, db_115 hR hO, h7, db_116 hR hO, db_f118_20_b35, h1]
    by_cases e1 : v.toInt < (db_sn c k : Int)
    · rw [decide_eq_true e1, db_ct, db_T_some]
      have : db_fst (db_sk c v) (2 ^ db_n c 3) = none := db_fst_none.mpr fun i hi => by
        by_cases hik : i < k
        · exact h2 i hik
        · have hm := fb_ct_mono (fun i => db_sl c (nI i)) (show k ≤ i by omega)
          unfold db_sk
          rw [decide_eq_false (fun e => by unfold db_sn at e e1; omega), Bool.and_false]
      rw [this]
      rfl
    · rw [decide_eq_false e1, db_cf]
      cases hsl : db_sl c (nI k) with
      | false =>
        rw [db_cf]
        refine hrec _ ⟨by rw [db_sn_s, hsl]; rfl, lt_s h2 (by unfold db_sk; rw [hsl]; rfl)⟩
      | true =>
        rw [db_ct]
        by_cases e2 : nI (db_sn c k) = v
        · rw [decide_eq_false (fun g => g e2), db_cf, db_T_some]
          have : db_fst (db_sk c v) (2 ^ db_n c 3) = some k := db_fst_some.mpr ⟨hk, by
            unfold db_sk
            rw [hsl, ← e2, nI_toInt (by omega)]
            simp, h2⟩
          rw [this]
          rfl
        · rw [decide_eq_true e2, db_ct]
          refine hrec _ ⟨by rw [db_sn_s, hsl]; rfl, lt_s h2 ?_⟩
          unfold db_sk
          rw [hsl, decide_eq_false (fun e => e2 (by rw [fa_eq, nI_toInt (by omega)]; exact e))]
          rfl
/-- the reference's search -/
theorem db_304 (hc : db_A s c) (hO : db_Ok U c) : dz_T (db_f304 s v) (fun z => z.1 = db_o (db_fst (db_sk c v) (2 ^ db_n c 3)) ∧ z.2.1 669 26 = nI (db_sn c (2 ^ db_n c 3)) ∧ (∀ a, a ≠ 669 → z.2.1 a = s.1 a) ∧ (∀ j, j ≠ 26 → z.2.1 669 j = s.1 669 j) ∧ z.2.2 = s.2) := by
  have k3 := db_Ok_K hO (show 3 < 6 by omega)
  have k12 := k3.2
  have hp := db_pow12 k12
  unfold db_f304
  simp (disch := omega) only [db_lit, eq_self, db_pI_e, db_pL_e, db_bind_some, db_bd_some, nI_add, pk_mul, nI_toInt, db_m1_t, dz_cn, Int.ofNat_le, Int.ofNat_lt, decide_true, decide_false, db_ct, db_cf, not_true_eq_false, not_false_eq_true, db_87e, db_37e, db_31e, db_28e, db_281e, db_211e, db_27, db_269w, db_litL, pk_lT, db_iL, db_p0_e, db_p0_n, db_p0_j, db_sub1, nI_eq, if_true, if_false, Bool.false_eq_true]
  refine db_loop (L := fun n (a : db_S × Int32) k => db_f304_b9 n a.1 v a.2 (nI k)) (N := 2 ^ db_n c 3) (fun k a => a.2 = db_o (db_fst (db_sk c v) k) ∧ a.1.1 669 26 = nI (db_sn c k) ∧ (∀ b, b ≠ 669 → a.1.1 b = s.1 b) ∧ (∀ j, j ≠ 26 → a.1.1 669 j = s.1 669 j) ∧ a.1.2 = s.2) ?_ ?_ (n := db_FU) (a := (db_uI s 669 26 (nI 0), -(nI 1))) (by unfold db_FU; omega) ⟨rfl, db_uI_1, fun b hb => db_uI_n hb, fun j hj => db_uI_j hj, rfl⟩
  · rintro n ⟨a, u⟩ ⟨h1, h2, h3, h4, h5⟩
    dsimp only at h1 h2 h3 h4 h5
    show dz_T (db_f304_b9 (n + 1) a v u (nI (2 ^ db_n c 3))) _
    rw [db_f304_b9]
    have hA := db_A_e (h3 674 (by decide)) hc
    simp (disch := omega) only [db_lit, eq_self, db_pI_e, db_pL_e, db_bind_some, db_bd_some, nI_add, pk_mul, nI_toInt, db_m1_t, dz_cn, Int.ofNat_le, Int.ofNat_lt, decide_true, decide_false, db_ct, db_cf, not_true_eq_false, not_false_eq_true, db_87e, db_37e, db_31e, db_28e, db_281e, db_211e, db_27, db_269w, db_litL, pk_lT, db_iL, db_p0_e, db_p0_n, db_p0_j, db_sub1, nI_eq, if_true, if_false, Bool.false_eq_true, db_g_674, hA, k3.1]
    rw [show nI 1 <<< (nI (db_n c 3) &&& nI 31) = nI (2 ^ db_n c 3) from db_b1_n (by omega), nI_toInt (show 2 ^ db_n c 3 < 2 ^ 31 by omega), decide_eq_true (Int.le_refl _), db_ct]
    exact ⟨_, rfl, h1, h2, h3, h4, h5⟩
  · rintro n k ⟨a, u⟩ hk ⟨h1, h2, h3, h4, h5⟩ hrec
    dsimp only at h1 h2 h3 h4 h5
    show dz_T (db_f304_b9 (n + 1) a v u (nI k)) _
    rw [db_f304_b9]
    have hA := db_A_e (h3 674 (by decide)) hc
    have hle := @db_sn_le c k
    simp (disch := omega) only [db_lit, eq_self, db_pI_e, db_pL_e, db_bind_some, db_bd_some, nI_add, pk_mul, nI_toInt, db_m1_t, dz_cn, Int.ofNat_le, Int.ofNat_lt, decide_true, decide_false, db_ct, db_cf, not_true_eq_false, not_false_eq_true, db_87e, db_37e, db_31e, db_28e, db_281e, db_211e, db_27, db_269w, db_litL, pk_lT, db_iL, db_p0_e, db_p0_n, db_p0_j, db_sub1, nI_eq, if_true, if_false, Bool.false_eq_true, db_g_674, hA, k3.1, db_305 hA hO, db_f304_b45, db_f304_b56]
    rw [show nI 1 <<< (nI (db_n c 3) &&& nI 31) = nI (2 ^ db_n c 3) from db_b1_n (by omega), nI_toInt (show 2 ^ db_n c 3 < 2 ^ 31 by omega), decide_eq_false (show ¬ ((2 ^ db_n c 3 : Nat) : Int) ≤ (k : Int) by omega), db_cf]
    have hst : db_fst (db_sk c v) (k + 1) = (match db_fst (db_sk c v) k with | some j => some j | none => if db_sk c v k = true then some k else none) := rfl
    cases hsl : db_sl c (nI k) with
    | false =>
      rw [db_cf]
      refine hrec (a, u) ⟨?_, ?_, h3, h4, h5⟩
      · show u = _
        rw [hst, h1]
        have : db_sk c v k = false := by unfold db_sk; rw [hsl]; rfl
        rw [this]
        cases db_fst (db_sk c v) k <;> rfl
      · show a.1 669 26 = _
        rw [db_sn_s, hsl]; exact h2
    | true =>
      rw [db_ct, h2]
      have hup : ∀ u', u' = db_o (db_fst (db_sk c v) (k + 1)) → dz_T (db_f304_b9 n (db_uI a 669 26 (nI (db_sn c k + 1))) v u' (nI (k + 1))) (fun z => z.1 = db_o (db_fst (db_sk c v) (2 ^ db_n c 3)) ∧ z.2.1 669 26 = nI (db_sn c (2 ^ db_n c 3)) ∧ (∀ a, a ≠ 669 → z.2.1 a = s.1 a) ∧ (∀ j, j ≠ 26 → z.2.1 669 j = s.1 669 j) ∧ z.2.2 = s.2) := by
        intro u' hu
        refine hrec (db_uI a 669 26 (nI (db_sn c k + 1)), u') ⟨hu, ?_, fun b hb => ?_, fun j hj => ?_, h5⟩
        · rw [db_sn_s, hsl]; exact db_uI_1
        · show (db_uI a 669 26 _).1 b = _
          rw [db_uI_n hb]; exact h3 b hb
        · show (db_uI a 669 26 _).1 669 j = _
          rw [db_uI_j hj]; exact h4 j hj
      by_cases e2 : nI (db_sn c k) = v
      · rw [decide_eq_false (fun g => g e2), db_cf]
        simp only [nI_add]
        refine hup (nI k) ?_
        have hsk : db_sk c v k = true := by
          unfold db_sk
          rw [hsl, ← e2, nI_toInt (by omega)]
          simp
        rw [hst]
        cases hf : db_fst (db_sk c v) k with
        | none => show nI k = db_o (if _ then _ else _); rw [if_pos hsk]; rfl
        | some j =>
          have g := db_fst_some.mp hf
          have := db_sk_one g.2.1 hsk
          omega
      · rw [decide_eq_true e2, db_ct]
        simp only [nI_add]
        refine hup u ?_
        have hsk : db_sk c v k = false := by
          unfold db_sk
          rw [hsl, decide_eq_false (fun e => e2 (by rw [fa_eq, nI_toInt (by omega)]; exact e))]
          rfl
        rw [hst, h1, hsk]
        cases db_fst (db_sk c v) k <;> rfl
theorem db_304_Em {a : db_S} (h3 : ∀ b, b ≠ 669 → a.1 b = s.1 b) (h4 : ∀ j, j ≠ 26 → a.1 669 j = s.1 669 j) (h5 : a.2 = s.2) : db_Em s a := fun b j hb => by
  refine ⟨?_, by rw [h5]⟩
  by_cases e : b = 669
  · subst e
    unfold db_em at hb
    exact h4 j (by omega)
  · rw [h3 b e]
theorem db_k20 (hI : db_Inv U s) : dz_G U s (fun s => db_f113 s) (fun s => db_f303 s) := by
  obtain ⟨hO, hR, -⟩ := db_cur hI
  refine db_Gq (nI (db_sn (db_bk s 0) (2 ^ db_n (db_bk s 0) 3))) (nI 0) hI ?_ fun s1 hS hA => ?_
  · unfold db_f113
    simp (disch := omega) only [db_lit, eq_self, db_pI_e, db_pL_e, db_bind_some, db_bd_some, nI_add, pk_mul, nI_toInt, db_m1_t, dz_cn, Int.ofNat_le, Int.ofNat_lt, decide_true, decide_false, db_ct, db_cf, not_true_eq_false, not_false_eq_true, db_87e, db_37e, db_31e, db_28e, db_281e, db_211e, db_27, db_269w, db_litL, pk_lT, db_iL, db_p0_e, db_p0_n, db_p0_j, db_sub1, nI_eq, if_true, if_false, Bool.false_eq_true, db_114 hR hO]
    exact ⟨_, rfl, rfl, db_Sc_u db_Ec_r⟩
  · unfold db_f303
    simp (disch := omega) only [db_lit, eq_self, db_pI_e, db_pL_e, db_bind_some, db_bd_some, nI_add, pk_mul, nI_toInt, db_m1_t, dz_cn, Int.ofNat_le, Int.ofNat_lt, decide_true, decide_false, db_ct, db_cf, not_true_eq_false, not_false_eq_true, db_87e, db_37e, db_31e, db_28e, db_281e, db_211e, db_27, db_269w, db_litL, pk_lT, db_iL, db_p0_e, db_p0_n, db_p0_j, db_sub1, nI_eq, if_true, if_false, Bool.false_eq_true]
    refine db_T_gd (db_304 (db_p0_A hA) hO) fun v a hv => ?_
    obtain ⟨-, h2, h3, h4, h5⟩ := hv
    dsimp only at h2 h3 h4 h5
    exact ⟨_, rfl, h2, db_Sm_0 (db_304_Em h3 h4 h5)⟩
theorem db_k21 (hI : db_Inv U s) : dz_G U s (fun s => db_f117 s x) (fun s => db_f307 s x) := by
  obtain ⟨hO, hR, -⟩ := db_cur hI
  have k12 := (db_Ok_K hO (show 3 < 6 by omega)).2
  have hp := db_pow12 k12
  cases hf : db_fst (db_sk (db_bk s 0) x) (2 ^ db_n (db_bk s 0) 3) with
  | none =>
    refine db_Gq (-(nI 1)) (nI 8) hI ?_ fun s1 hS hA => ?_
    · unfold db_f117
      simp (disch := omega) only [db_lit, eq_self, db_pI_e, db_pL_e, db_bind_some, db_bd_some, nI_add, pk_mul, nI_toInt, db_m1_t, dz_cn, Int.ofNat_le, Int.ofNat_lt, decide_true, decide_false, db_ct, db_cf, not_true_eq_false, not_false_eq_true, db_87e, db_37e, db_31e, db_28e, db_281e, db_211e, db_27, db_269w, db_litL, pk_lT, db_iL, db_p0_e, db_p0_n, db_p0_j, db_sub1, nI_eq, if_true, if_false, Bool.false_eq_true, db_118 hR hO, hf]
      exact ⟨_, rfl, rfl, db_Sc_u db_Ec_r⟩
    · unfold db_f307
      simp (disch := omega) only [db_lit, eq_self, db_pI_e, db_pL_e, db_bind_some, db_bd_some, nI_add, pk_mul, nI_toInt, db_m1_t, dz_cn, Int.ofNat_le, Int.ofNat_lt, decide_true, decide_false, db_ct, db_cf, not_true_eq_false, not_false_eq_true, db_87e, db_37e, db_31e, db_28e, db_281e, db_211e, db_27, db_269w, db_litL, pk_lT, db_iL, db_p0_e, db_p0_n, db_p0_j, db_sub1, nI_eq, if_true, if_false, Bool.false_eq_true]
      refine db_T_gd (db_304 (db_p0_A hA) hO) fun v a hv => ?_
      obtain ⟨h1, h2, h3, h4, h5⟩ := hv
      dsimp only at h1 h2 h3 h4 h5
      rw [h1, hf, show decide (((0 : Nat) : Int) ≤ (db_o none).toInt) = false by decide, db_cf]
      exact ⟨_, rfl, rfl, db_Sm_u (db_304_Em h3 h4 h5)⟩
  | some k =>
    have hk := db_fst_lt hf
    refine db_Gq (nI k) (nI 0) hI ?_ fun s1 hS hA => ?_
    · unfold db_f117
      simp (disch := omega) only [db_lit, eq_self, db_pI_e, db_pL_e, db_bind_some, db_bd_some, nI_add, pk_mul, nI_toInt, db_m1_t, dz_cn, Int.ofNat_le, Int.ofNat_lt, decide_true, decide_false, db_ct, db_cf, not_true_eq_false, not_false_eq_true, db_87e, db_37e, db_31e, db_28e, db_281e, db_211e, db_27, db_269w, db_litL, pk_lT, db_iL, db_p0_e, db_p0_n, db_p0_j, db_sub1, nI_eq, if_true, if_false, Bool.false_eq_true, db_118 hR hO, hf]
      rw [decide_eq_true (show ¬ db_o (some k) = -(nI 1) by show ¬ nI k = _; rw [db_m1_ne (by omega)]; exact id), db_ct]
      exact ⟨_, rfl, rfl, db_Sc_u db_Ec_r⟩
    · unfold db_f307
      simp (disch := omega) only [db_lit, eq_self, db_pI_e, db_pL_e, db_bind_some, db_bd_some, nI_add, pk_mul, nI_toInt, db_m1_t, dz_cn, Int.ofNat_le, Int.ofNat_lt, decide_true, decide_false, db_ct, db_cf, not_true_eq_false, not_false_eq_true, db_87e, db_37e, db_31e, db_28e, db_281e, db_211e, db_27, db_269w, db_litL, pk_lT, db_iL, db_p0_e, db_p0_n, db_p0_j, db_sub1, nI_eq, if_true, if_false, Bool.false_eq_true]
      refine db_T_gd (db_304 (db_p0_A hA) hO) fun v a hv => ?_
      obtain ⟨h1, h2, h3, h4, h5⟩ := hv
      dsimp only at h1 h2 h3 h4 h5
      rw [h1, hf, show decide (((0 : Nat) : Int) ≤ (db_o (some k)).toInt) = true by
        show decide (((0 : Nat) : Int) ≤ (nI k).toInt) = true
        rw [nI_toInt (by omega)]; exact decide_eq_true (by omega), db_ct]
      exact ⟨_, rfl, rfl, db_Sm_0 (db_304_Em h3 h4 h5)⟩
end DBT1
