/-! BOOK: the call -/
section DVBK
variable {U : Nat} {a b a0 b0 a1 b1 s t z y : db_S} {x : Nat → Int32} {n n0 i k : Nat} {v u q p : Int32} {c : db_C} {w : Nat → Int64}
theorem dv_275 {q1 q2 : Nat} (h1 : q1 < 5) (h2 : q2 < 4) (hne : q1 ≠ q2) : dz_T (db_f275 s (nI q1) (nI q2)) (fun z => (∀ b, b ≠ 674 → z.1 b = s.1 b) ∧ (∀ b, b ≠ 676 → z.2 b = s.2 b) ∧ (∀ j, j < 480 → z.1 674 (480 * q2 + j) = s.1 674 (480 * q1 + j)) ∧ (∀ j, ¬ (480 * q2 ≤ j ∧ j < 480 * q2 + 480) → z.1 674 j = s.1 674 j) ∧ (∀ j, j < 37 → z.2 676 (37 * q2 + j) = s.2 676 (37 * q1 + j)) ∧ ∀ j, ¬ (37 * q2 ≤ j ∧ j < 37 * q2 + 37) → z.2 676 j = s.2 676 j) := by
  unfold db_f275
  refine db_loop (L := fun m a k => db_f275_b2 m a (nI q1) (nI q2) (nI k)) (N := 480) (fun k z => (∀ b, b ≠ 674 → z.1 b = s.1 b) ∧ z.2 = s.2 ∧ (∀ j, j < k → z.1 674 (480 * q2 + j) = s.1 674 (480 * q1 + j)) ∧ ∀ j, ¬ (480 * q2 ≤ j ∧ j < 480 * q2 + k) → z.1 674 j = s.1 674 j) ?_ ?_ (n := db_FU) (by unfold db_FU; omega) ⟨fun b _ => rfl, rfl, fun j hj => absurd hj (by omega), fun j _ => rfl⟩
  · rintro m a ⟨g1, g2, g3, g4⟩
    show dz_T (db_f275_b2 (m + 1) a (nI q1) (nI q2) (nI 480)) _
    rw [db_f275_b2]
    simp (disch := omega) only [db_lit, eq_self, db_pI_e, db_pL_e, db_bind_some, db_bd_some, nI_add, pk_mul, nI_toInt, db_m1_t, dz_cn, Int.ofNat_le, Int.ofNat_lt, decide_true, decide_false, db_ct, db_cf, not_true_eq_false, not_false_eq_true, Nat.le_refl]
    refine db_loop (L := fun m a k => db_f275_b41 m a (nI q1) (nI q2) (nI k)) (N := 37) (fun k z => z.1 = a.1 ∧ (∀ b, b ≠ 676 → z.2 b = s.2 b) ∧ (∀ j, j < k → z.2 676 (37 * q2 + j) = s.2 676 (37 * q1 + j)) ∧ ∀ j, ¬ (37 * q2 ≤ j ∧ j < 37 * q2 + k) → z.2 676 j = s.2 676 j) ?_ ?_ (n := db_FU) (by unfold db_FU; omega) ⟨rfl, fun b _ => by rw [g2], fun j hj => absurd hj (by omega), fun j _ => by rw [g2]⟩
    · rintro m z ⟨k1, k2, k3, k4⟩
      show dz_T (db_f275_b41 (m + 1) z (nI q1) (nI q2) (nI 37)) _
      rw [db_f275_b41]
      simp (disch := omega) only [db_lit, eq_self, db_pI_e, db_pL_e, db_bind_some, db_bd_some, nI_add, pk_mul, nI_toInt, db_m1_t, dz_cn, Int.ofNat_le, Int.ofNat_lt, decide_true, decide_false, db_ct, db_cf, not_true_eq_false, not_false_eq_true, Nat.le_refl]
      exact ⟨_, rfl, fun b hb => by rw [k1]; exact g1 b hb, k2, fun j hj => by rw [k1]; exact g3 j hj, fun j hj => by rw [k1]; exact g4 j hj, k3, k4⟩
    · rintro m k z hk ⟨k1, k2, k3, k4⟩ hrec
      show dz_T (db_f275_b41 (m + 1) z (nI q1) (nI q2) (nI k)) _
      rw [db_f275_b41]
      have h7 : ¬ 37 ≤ k := by omega
      simp (disch := omega) only [db_lit, eq_self, db_pI_e, db_pL_e, db_bind_some, db_bd_some, nI_add, pk_mul, nI_toInt, db_m1_t, dz_cn, Int.ofNat_le, Int.ofNat_lt, decide_true, decide_false, db_ct, db_cf, not_true_eq_false, not_false_eq_true, h7, db_g_676, db_h_676]
      refine hrec _ ⟨k1, fun b hb => by rw [db_uL_n hb]; exact k2 b hb, fun j hj => ?_, fun j hj => ?_⟩
      · by_cases e : j = k
        · subst e
          rw [db_uL_1, k4 _ (by omega)]
        · rw [db_uL_j (by omega)]; exact k3 j (by omega)
      · rw [db_uL_j (by omega)]; exact k4 j (by omega)
  · rintro m k a hk ⟨g1, g2, g3, g4⟩ hrec
    show dz_T (db_f275_b2 (m + 1) a (nI q1) (nI q2) (nI k)) _
    rw [db_f275_b2]
    have h7 : ¬ 480 ≤ k := by omega
    simp (disch := omega) only [db_lit, eq_self, db_pI_e, db_pL_e, db_bind_some, db_bd_some, nI_add, pk_mul, nI_toInt, db_m1_t, dz_cn, Int.ofNat_le, Int.ofNat_lt, decide_true, decide_false, db_ct, db_cf, not_true_eq_false, not_false_eq_true, h7, db_g_674, db_h_674]
    refine hrec _ ⟨fun b hb => by rw [db_uI_n hb]; exact g1 b hb, g2, fun j hj => ?_, fun j hj => ?_⟩
    · by_cases e : j = k
      · subst e
        rw [db_uI_1, g4 _ (by omega)]
      · rw [db_uI_j (by omega)]; exact g3 j (by omega)
    · rw [db_uI_j (by omega)]; exact g4 j (by omega)
/-- the class's book behind the copy -/
theorem dv_B1_of (hD : dv_DR a c w) (hS : dv_SE c a y) (h1 : ∀ e j, dw_in e j → e ≠ 60 → e ≠ 63 → e < 59 → z.1 (20 + e) j = y.1 (146 + e) j) (h2 : ∀ j, j < 37 → z.2 76 j = y.2 202 j) (h81 : ∀ j, j < 12 → z.1 81 j = nI 0) (h82 : ∀ j, j < 4 → z.1 82 j = nI 0) (h802 : z.1 80 2 = nI 0) (h803 : z.1 80 3 = nI 0) (h83 : z.1 83 0 = nI 0 ∧ z.1 83 1 = nI 0 ∧ z.1 83 2 = nI 0) : db_B1 U 20 z c w := by
  obtain ⟨⟨k0, k1, k2, k3, k4, k5⟩, d1, d2, d3, d4, d5, d6, ⟨m, m1, m2, m3, m4⟩, d8⟩ := hD
  obtain ⟨s1, s2, s3, s4, s5, s6⟩ := hS
  have j0 := k0.2
  have j1 := k1.2
  have j2 := k2.2
  have j3 := k3.2
  have j4 := k4.2
  have j5 := k5.2
  have z0 : (nI 0).toInt = 0 := by decide
  have emk : c 7 = db_mk (fun _ => false) (db_n c 3) := by
    rw [d8 7 (by omega)]
    exact (b_ext fun i hi => by rw [db_mk_bt (by omega) hi, Bool.and_false]; exact b_0 i)
  refine ⟨⟨⟨k0, k1, k2, k3, k4, k5⟩, fun r hr => ?_, fun r hr => (d5 r hr).2, fun d hd => (d6 d hd).2, fun p hp => ⟨(d2 p hp).2, by rw [d8 (12 + p) (by omega), z0]; omega⟩, fun q hq => (d3 q hq).2, ⟨_, emk⟩, by rw [d8 6 (by omega), z0]; omega⟩, ⟨fun q hq => ?_, fun p hp => ?_, fun q hq => ?_, fun r hr => ?_, fun r hr => ?_, fun d hd => ?_, fun r hr => ?_, ⟨?_, ?_⟩, fun t ht => ?_, ⟨m, by omega, ?_, fun l q q1 q2 => ?_⟩, fun r hr => ?_, fun p hp => ?_, ?_, ?_⟩, ⟨⟨?_, .inl (d8 199 (by omega))⟩, 0, 0, by omega, by omega, d8 200 (by omega), h83.2.1, h83.2.2, .inl ⟨rfl, rfl⟩⟩⟩
  · obtain ⟨-, x2, x3, x4, x5, x6, x7⟩ := d4 r hr
    exact ⟨x2, x3, x4, x5, x6, x7, by rw [d8 (91 + r) (by omega), z0]; omega⟩
  · rw [h1 1 q (dw_i1 hq) (by omega) (by omega) (by omega), s4 147 (by omega) (by omega)]
    exact d1 q hq
  · rw [h1 2 p (dw_i2 (by omega)) (by omega) (by omega) (by omega), s4 148 (by omega) (by omega)]
    exact (d2 p hp).1
  · rw [h1 3 q (dw_i3 (by omega)) (by omega) (by omega) (by omega), s4 149 (by omega) (by omega)]
    exact (d3 q hq).1
  · have e : ∀ f, f < 6 → z.1 (20 + 5 + r) f = a.1 (151 + r) f := fun f hf => by
      rw [show 20 + 5 + r = 20 + (5 + r) by omega, h1 (5 + r) f (dw_i5 (by omega) hf) (by omega) (by omega) (by omega), show 146 + (5 + r) = 151 + r by omega, s4 (151 + r) (by omega) (by omega)]
    rw [e 0 (by omega), e 1 (by omega), e 2 (by omega), e 3 (by omega), e 4 (by omega), e 5 (by omega)]
    exact (d4 r hr).1
  · have e : ∀ f, f < 2 → z.1 (20 + 18 + r) f = a.1 (164 + r) f := fun f hf => by
      rw [show 20 + 18 + r = 20 + (18 + r) by omega, h1 (18 + r) f (dw_i18 (by omega) hf) (by omega) (by omega) (by omega), show 146 + (18 + r) = 164 + r by omega, s4 (164 + r) (by omega) (by omega)]
    rw [e 0 (by omega), e 1 (by omega)]
    exact (d5 r hr).1
  · obtain ⟨⟨x1, x2, x3, x4⟩, x5, -⟩ := d6 d hd
    have h6 := x5.1.2
    have e : ∀ f, f < 3 → z.1 (20 + (39 + f)) d = a.1 (185 + f) d := fun f hf => by
      rw [h1 (39 + f) d (dw_i39 hf (by omega)) (by omega) (by omega) (by omega), show 146 + (39 + f) = 185 + f by omega, s4 (185 + f) (by omega) (by omega)]
    refine ⟨(e 0 (by omega)).trans x1, (e 1 (by omega)).trans x2, (e 2 (by omega)).trans x3, fun k hk => ?_⟩
    rw [show 20 + 31 + d = 20 + (31 + d) by omega, h1 (31 + d) k (dw_i31 (by omega) (by omega)) (by omega) (by omega) (by omega), show 146 + (31 + d) = 177 + d by omega, s4 (177 + d) (by omega) (by omega)]
    exact x4 k hk
  · have e : ∀ f, f < 2 → z.1 (20 + (42 + f)) r = y.1 (188 + f) r := fun f hf => by
      rw [h1 (42 + f) r (dw_i42 hf (by omega)) (by omega) (by omega) (by omega), show 146 + (42 + f) = 188 + f by omega]
    exact ⟨(e 0 (by omega)).trans (s1 r hr).1, (e 1 (by omega)).trans (s1 r hr).2⟩
  · exact (h1 0 13 (dw_i0 (by omega)) (by omega) (by omega) (by omega)).trans s2.1
  · exact (h1 0 14 (dw_i0 (by omega)) (by omega) (by omega) (by omega)).trans s2.2
  · obtain ⟨x1, x2⟩ := s3 t ht
    refine ⟨(h1 55 t (dw_i55 (by omega)) (by omega) (by omega) (by omega)).trans x1, fun r hr hc => ?_⟩
    have hct := fb_ct_le (fun r => decide (c (19 + r) = nI t)) r
    rw [show 20 + 45 + t = 20 + (45 + t) by omega, h1 (45 + t) _ (dw_i45 (by omega) (by omega)) (by omega) (by omega) (by omega), show 146 + (45 + t) = 191 + t by omega]
    exact x2 r hr hc
  · exact (h1 0 18 (dw_i0 (by omega)) (by omega) (by omega) (by omega)).trans ((s5 18 (by omega) (by omega)).trans m2)
  · have e1 : ∀ j, j < 37 → z.1 77 j = a.1 203 j := fun j hj => by
      have := h1 (57 + 0) j (dw_i57 (by omega) hj) (by omega) (by omega) (by omega)
      rw [show 20 + (57 + 0) = 77 by omega, show 146 + (57 + 0) = 203 by omega, s4 203 (by omega) (by omega)] at this
      exact this
    have e2 : ∀ j, j < 37 → z.1 78 j = a.1 204 j := fun j hj => by
      have := h1 (57 + 1) j (dw_i57 (by omega) hj) (by omega) (by omega) (by omega)
      rw [show 20 + (57 + 1) = 78 by omega, show 146 + (57 + 1) = 204 by omega, s4 204 (by omega) (by omega)] at this
      exact this
    have e3 : ∀ j, j < 37 → z.2 76 j = a.2 202 j := fun j hj => by rw [h2 j hj, s6]
    rw [← m3 l q q1 q2]
    exact dw_nc e3 e1 e2 (by omega)
  · show z.1 81 r = _
    rw [h81 r (by omega), d8 (91 + r) (by omega)]
  · show z.1 82 p = _
    rw [h82 p (by omega), d8 (12 + p) (by omega)]
  · show z.1 80 2 = _
    rw [h802, d8 7 (by omega)]
  · show z.1 80 3 = _
    rw [h803, d8 6 (by omega)]
  · show z.1 83 0 = _
    rw [h83.1, d8 199 (by omega)]
/-- the reference begins a text -/
theorem dv_222 {M : Nat} (hM : M ≤ 900) (h8 : s.1 669 8 = nI n0) (hn0 : n0 ≤ 900) (hx : ∀ j, j < n0 → s.1 673 j = x j ∧ -128 ≤ (x j).toInt ∧ (x j).toInt < 128) (hn : n ≤ n0) (hnM : n ≤ M) : dz_T (db_f222 s (nI n) (nI M)) (fun z => z.1 = true ∧ dv_RT x n 0 z.2 ∧ z.2.1 669 12 = nI 0 ∧ z.2.1 669 8 = nI 0 ∧ (∀ c, c ≠ 669 → z.2.1 c = s.1 c ∧ z.2.2 c = s.2 c) ∧ (∀ j, ¬ (12 ≤ j ∧ j ≤ 18) → j ≠ 8 → j ≠ 9 → z.2.1 669 j = s.1 669 j) ∧ ∀ j, j ≠ 19 → z.2.2 669 j = s.2 669 j) := by
  unfold db_f222
  have h8' : (db_uI s 669 9 (nI n)).1 669 8 = nI n0 := by rw [db_uI_j (by decide)]; exact h8
  simp (disch := omega) only [db_lit, eq_self, db_pI_e, db_pL_e, db_bind_some, db_bd_some, nI_add, pk_mul, nI_toInt, db_m1_t, dz_cn, Int.ofNat_le, Int.ofNat_lt, decide_true, decide_false, db_ct, db_cf, not_true_eq_false, not_false_eq_true, h8, (show ¬ n0 < n by omega), hnM]
  generalize hs4 : db_uI (db_uI (db_uI (db_uI s 669 9 (nI n)) 669 8 (nI 0)) 669 16 (nI 0)) 669 12 (nI 0) = s4
  have hX : dv_TX x n s4 := ⟨by omega, by rw [← hs4, db_uI_j (by decide), db_uI_j (by decide), db_uI_j (by decide), db_uI_1], fun j hj => by rw [← hs4, db_uI_n (by decide), db_uI_n (by decide), db_uI_n (by decide), db_uI_n (by decide)]; exact hx j (by omega)⟩
  refine db_T_go (dv_223 (p := 0) hX (by rw [← hs4, db_uI_j (by decide), db_uI_1]) (Nat.zero_le _)) fun z hz => ?_
  obtain ⟨z1, z2⟩ := hz
  refine ⟨_, rfl, rfl, ⟨dv_TX_F hX z2, z1⟩, ?_, ?_, fun c hc => ?_, fun j j1 j2 j3 => ?_, fun j hj => ?_⟩
  · rw [z2.2.1 12 (by omega), ← hs4, db_uI_1]
  · rw [z2.2.1 8 (by omega), ← hs4, db_uI_j (by decide), db_uI_j (by decide), db_uI_1]
  · show z.1 c = s.1 c ∧ z.2 c = s.2 c
    rw [(z2.1 c hc).1, (z2.1 c hc).2, ← hs4, db_uI_n hc, db_uI_n hc, db_uI_n hc, db_uI_n hc]
    exact ⟨rfl, rfl⟩
  · show z.1 669 j = s.1 669 j
    rw [z2.2.1 j (by omega), ← hs4, db_uI_j (by omega), db_uI_j (by omega), db_uI_j (by omega), db_uI_j (by omega)]
  · show z.2 669 j = s.2 669 j
    rw [z2.2.2 j hj, ← hs4]
    rfl
theorem dv_222f {M : Nat} (hM : M < 2 ^ 30) (h8 : s.1 669 8 = nI n0) (hn0 : n0 ≤ 900) (h : (db_wi v ((0 : Nat) : Int) ((n0 : Nat) : Int) && decide (v.toInt ≤ (M : Int))) = false) : db_f222 s v (nI M) = some (false, db_uI s 669 0 (nI 5)) := by
  unfold db_f222 db_f222_b17
  unfold db_wi at h
  simp (disch := omega) only [db_lit, eq_self, db_pI_e, db_pL_e, db_bind_some, db_bd_some, nI_add, pk_mul, nI_toInt, db_m1_t, dz_cn, Int.ofNat_le, Int.ofNat_lt, decide_true, decide_false, db_ct, db_cf, not_true_eq_false, not_false_eq_true, db_87e, db_37e, db_31e, db_28e, db_281e, db_211e, db_27, db_269w, db_litL, pk_lT, db_iL, db_p0_e, db_p0_n, db_p0_j, db_sub1, nI_eq, if_true, if_false, Bool.false_eq_true, Nat.one_ne_zero, h8]
  by_cases e1 : v.toInt < ((0 : Nat) : Int)
  · rw [decide_eq_true e1, db_ct]
  · rw [decide_eq_false e1, db_cf]
    by_cases e2 : ((n0 : Nat) : Int) < v.toInt
    · rw [decide_eq_true e2, db_ct]
    · rw [decide_eq_false e2, db_cf]
      by_cases e3 : v.toInt ≤ ((M : Nat) : Int)
      · exfalso
        rw [decide_eq_true (show ((0 : Nat) : Int) ≤ v.toInt by omega), decide_eq_true (show v.toInt ≤ ((n0 : Nat) : Int) by omega), decide_eq_true e3] at h
        cases h
      · rw [decide_eq_false e3, db_cf]
/-- what the class's text leaves alone; the reference's -/
def dv_Ga (s z : db_S) : Prop := (∀ c, c ≠ 13 → ¬ (16 ≤ c ∧ c ≤ 19) → ¬ (146 ≤ c ∧ c ≤ 270) → z.1 c = s.1 c ∧ z.2 c = s.2 c) ∧ z.1 13 1 = s.1 13 1 ∧ z.2 13 = s.2 13
def dv_Gb (s z : db_S) : Prop := (∀ c, c ≠ 669 → c ≠ 674 → c ≠ 676 → z.1 c = s.1 c ∧ z.2 c = s.2 c) ∧ (∀ j, j ≠ 0 → j ≠ 1 → ¬ (8 ≤ j ∧ j ≤ 18) → j ≠ 24 → z.1 669 j = s.1 669 j) ∧ (∀ j, j ≠ 19 → z.2 669 j = s.2 669 j) ∧ (∀ k, 480 ≤ k → k < 1920 → z.1 674 k = s.1 674 k) ∧ (∀ k, 37 ≤ k → k < 148 → z.2 676 k = s.2 676 k) ∧ z.2 674 = s.2 674 ∧ z.1 676 = s.1 676
theorem dv_221z : ∀ (m k F : Nat) (b : db_S), k + m = 480 → m < F → ∃ b0, db_f221_b25 F b (nI k) = db_f221_b49 db_FU b0 ∧ (∀ c, c ≠ 674 → b0.1 c = b.1 c) ∧ b0.2 = b.2 ∧ (∀ j, j < 1920 + k ∨ 2400 ≤ j → b0.1 674 j = b.1 674 j) ∧ ∀ j, k ≤ j → j < 480 → b0.1 674 (1920 + j) = nI 0 := by
  intro m
  induction m with
  | zero =>
    intro k F b hk hF
    cases F with
    | zero => omega
    | succ F =>
      refine ⟨b, ?_, fun _ _ => rfl, rfl, fun _ _ => rfl, fun j h1 h2 => absurd h2 (by omega)⟩
      rw [db_f221_b25]
      simp (disch := omega) only [db_lit, eq_self, db_pI_e, db_pL_e, db_bind_some, db_bd_some, nI_add, pk_mul, nI_toInt, db_m1_t, dz_cn, Int.ofNat_le, Int.ofNat_lt, decide_true, decide_false, db_ct, db_cf, not_true_eq_false, not_false_eq_true, db_87e, db_37e, db_31e, db_28e, db_281e, db_211e, db_27, db_269w, db_litL, pk_lT, db_iL, db_p0_e, db_p0_n, db_p0_j, db_sub1, nI_eq, if_true, if_false, Bool.false_eq_true, Nat.one_ne_zero, (show 480 ≤ k by omega)]
  | succ m IH =>
    intro k F b hk hF
    cases F with
    | zero => omega
    | succ F =>
      obtain ⟨b0, e, h1, h2, h3, h4⟩ := IH (k + 1) F (db_uI b 674 (1920 + k) (nI 0)) (by omega) (by omega)
      refine ⟨b0, ?_, fun c hc => by rw [h1 c hc, db_uI_n hc], by rw [h2, db_uI_2], fun j hj => ?_, fun j j1 j2 => ?_⟩
      · rw [db_f221_b25]
        simp (disch := omega) only [db_lit, eq_self, db_pI_e, db_pL_e, db_bind_some, db_bd_some, nI_add, pk_mul, nI_toInt, db_m1_t, dz_cn, Int.ofNat_le, Int.ofNat_lt, decide_true, decide_false, db_ct, db_cf, not_true_eq_false, not_false_eq_true, db_87e, db_37e, db_31e, db_28e, db_281e, db_211e, db_27, db_269w, db_litL, pk_lT, db_iL, db_p0_e, db_p0_n, db_p0_j, db_sub1, nI_eq, if_true, if_false, Bool.false_eq_true, Nat.one_ne_zero, (show ¬ 480 ≤ k by omega), db_h_674]
        exact e
      · rw [h3 j (by omega), db_uI_j (by omega)]
      · by_cases ej : j = k
        · subst ej
          rw [h3 _ (by omega), db_uI_1]
        · exact h4 j (by omega) j2
theorem dv_DR_0 (hc : ∀ k, k < 480 → c k = nI 0) (h1 : ∀ j, j < 6 → a.1 147 j = nI 0) (h2 : a.1 146 18 = nI 0) : dv_DR a c w := by
  have hn : ∀ k, k < 480 → db_n c k = 0 := fun k hk => dw_nI_n (hc k hk) (by omega)
  have hK : ∀ k m, k < 480 → db_K c k m := fun k m hk => ⟨by rw [hn k hk]; exact hc k hk, by rw [hn k hk]; omega⟩
  refine ⟨⟨hK 0 _ (by omega), hK 1 _ (by omega), hK 2 _ (by omega), hK 3 _ (by omega), hK 4 _ (by omega), hK 5 _ (by omega)⟩, fun k hk => by rw [h1 k hk, hc k (by omega)], fun p hp => ?_, fun p hp => ?_, fun p hp => ?_, fun p hp => ?_, fun p hp => ?_, ⟨0, ?_, h2, fun l q q1 q2 => ?_, fun i hi => absurd hi (by omega)⟩, fun k hk => hc k (by omega)⟩
  · rw [hn 1 (by omega)] at hp; omega
  · rw [hn 2 (by omega)] at hp; omega
  · rw [hn 3 (by omega)] at hp; omega
  · rw [hn 4 (by omega)] at hp; omega
  · rw [hn 5 (by omega)] at hp; omega
  · rw [hn 0 (by omega), hn 1 (by omega), hn 2 (by omega), hn 3 (by omega), hn 5 (by omega)]
  · unfold db_nc db_nm
    rw [hn q (by omega)]
    rfl
theorem dv_164b (h : dv_Bad b) : db_f221_b164 b = some (-(nI 1), db_uI (db_uI (db_uI b 669 10 (b.1 669 12)) 669 11 (b.1 669 13)) 669 0 (nI 10)) := by
  obtain ⟨f, f1, f2, f3⟩ := h
  have e1 : ∀ v, (db_uI b 669 10 v).1 669 12 = nI f := fun v => by rw [db_uI_j (by decide)]; exact f3
  have e2 : ∀ v, (db_uI b 669 10 v).1 669 13 = b.1 669 13 := fun v => by rw [db_uI_j (by decide)]
  have e3 : ∀ v v2, (db_uI (db_uI b 669 10 v) 669 11 v2).1 669 12 = nI f := fun v v2 => by rw [db_uI_j (by decide), db_uI_j (by decide)]; exact f3
  unfold db_f221_b164 db_f274 db_f274_b24
  simp (disch := omega) only [db_lit, eq_self, db_pI_e, db_pL_e, db_bind_some, db_bd_some, nI_add, pk_mul, nI_toInt, db_m1_t, dz_cn, Int.ofNat_le, Int.ofNat_lt, decide_true, decide_false, db_ct, db_cf, not_true_eq_false, not_false_eq_true, db_87e, db_37e, db_31e, db_28e, db_281e, db_211e, db_27, db_269w, db_litL, pk_lT, db_iL, db_p0_e, db_p0_n, db_p0_j, db_sub1, nI_eq, if_true, if_false, Bool.false_eq_true, Nat.one_ne_zero, f3, e1, e2, e3, (show ¬ f = 0 by omega)]
theorem dv_274w (h0 : b.1 669 12 = nI 0) : db_f274 b = some (true, db_uI (db_uI b 669 10 (nI 0)) 669 11 (-(nI 1))) := by
  have e1 : ∀ v, (db_uI b 669 10 v).1 669 12 = nI 0 := fun v => by rw [db_uI_j (by decide)]; exact h0
  have e3 : ∀ v v2, (db_uI (db_uI b 669 10 v) 669 11 v2).1 669 12 = nI 0 := fun v v2 => by rw [db_uI_j (by decide), db_uI_j (by decide)]; exact h0
  unfold db_f274 db_f274_b24
  simp (disch := omega) only [db_lit, eq_self, db_pI_e, db_pL_e, db_bind_some, db_bd_some, nI_add, pk_mul, nI_toInt, db_m1_t, dz_cn, Int.ofNat_le, Int.ofNat_lt, decide_true, decide_false, db_ct, db_cf, not_true_eq_false, not_false_eq_true, db_87e, db_37e, db_31e, db_28e, db_281e, db_211e, db_27, db_269w, db_litL, pk_lT, db_iL, db_p0_e, db_p0_n, db_p0_j, db_sub1, nI_eq, if_true, if_false, Bool.false_eq_true, Nat.one_ne_zero, h0, e1, e3]
/-- both read a book: the class in s, the reference in t -/
theorem dv_books (hn0 : n0 ≤ 900) (hn : n ≤ n0) (h8 : t.1 669 8 = nI n0) (hx : ∀ j, j < n0 → t.1 673 j = x j ∧ -128 ≤ (x j).toInt ∧ (x j).toInt < 128) (hxs : ∀ j, j < n → s.1 14 j = x j) (hkw : ∀ i, i < 28 → s.2 15 i = db_kw i) :
    ∃ r y v z, db_f45 s (nI n) = some (r, y) ∧ db_f221 t (nI n) = some (v, z) ∧ dv_Ga s y ∧ dv_Gb t z ∧ z.1 669 8 = nI 0 ∧ y.1 13 2 = z.1 669 10 ∧ y.1 13 3 = z.1 669 11 ∧ ((r = true ∧ z.1 669 0 = nI 0 ∧ v = z.1 674 3 ∧ ∃ a, dv_DR a (db_bk z 0) (db_bw z 0) ∧ dv_SE (db_bk z 0) a y) ∨ (r = false ∧ v = -(nI 1) ∧ z.1 669 0 = nI 10 ∧ (∀ k, k < 480 → z.1 674 k = t.1 674 k) ∧ ∀ k, k < 37 → z.2 676 k = t.2 676 k)) := by
  have hn9 : n ≤ 900 := by omega
  -- the class begins
  obtain ⟨a1, e1, f1, f2⟩ := db_2 (s := s) (a := 147) (L := 6) (v := nI 0) rfl rfl rfl (by omega)
  have e46 : db_f46_146 s = some (db_uI a1 146 18 (nI 0)) := by
    unfold db_f46_146
    simp (disch := omega) only [db_lit, eq_self, db_pI_e, db_pL_e, db_bind_some, db_bd_some, nI_add, pk_mul, nI_toInt, db_m1_t, dz_cn, Int.ofNat_le, Int.ofNat_lt, decide_true, decide_false, db_ct, db_cf, not_true_eq_false, not_false_eq_true, e1]
  have b1 : ∀ c, c ≠ 147 → c ≠ 146 → (db_uI a1 146 18 (nI 0)).1 c = s.1 c := fun c c1 c2 => by rw [db_uI_n c2, f1.1 c c1]
  obtain ⟨a0, ea0, g1, g2, g3, g4, g5, ⟨g6, g7, g8⟩⟩ := dv_47 (s := db_uI a1 146 18 (nI 0)) (x := x) (n := n) (fun j hj => by rw [b1 14 (by decide) (by decide)]; exact hxs j hj) hn9 (fun i hi => by rw [db_uI_2, f1.2]; exact hkw i hi)
  have hC : dv_CT x n 0 a0 := ⟨hn9, g3, fun j hj => absurd hj (by omega), g1⟩
  -- the reference begins
  have hp8 : (db_p0 t).1 669 8 = nI n0 := by rw [db_p0_j (by decide) (by decide)]; exact h8
  obtain ⟨⟨r, b2⟩, eb2, i1, i2, i3, i4, i5, i6, i7⟩ := dv_222 (s := db_p0 t) (M := 900) (x := x) (by omega) hp8 hn0 (fun j hj => by rw [db_p0_n (by decide)]; exact hx j hj) hn hn9
  dsimp only at i1 i2 i3 i4 i5 i6 i7
  subst i1
  obtain ⟨b0, e25, m1, m2, m3, m4⟩ := dv_221z 480 0 db_FU b2 (by omega) (by unfold db_FU; omega)
  have hR : dv_RT x n 0 b0 := dv_RT_F i2 (by rw [m1 669 (by decide)]) (m1 673 (by decide)) (fun j _ _ => by rw [m1 669 (by decide)]) (by rw [m2])
  have h00 : b0.1 669 12 = nI 0 := by rw [m1 669 (by decide)]; exact i3
  have ea147 : ∀ j, j < 6 → a0.1 147 j = nI 0 := fun j hj => by rw [(g6 147 (by decide) (by omega)).1, db_uI_n (by decide)]; exact f2 j hj
  have ea146 : a0.1 146 18 = nI 0 := by rw [(g6 146 (by decide) (by omega)).1, db_uI_1]
  have hD : dv_DR a0 (db_bk b0 4) (db_bw b0 4) := dv_DR_0 (fun k hk => by rw [← dv_bk_4 hk]; exact m4 k (by omega) hk) ea147 ea146
  have hL := dv_loop (x := x) (n := n) (a0 := a0) (b0 := b0) 1000 0 0 db_FU db_FU a0 b0 (by omega) (Nat.le_refl _) (by unfold db_FU; omega) (by unfold db_FU; omega) hC hR h00 hD dv_Fa_r dv_Fb_r
  have eC : db_f45 s (nI n) = db_f45_b17 db_FU a0 (nI 0) := by
    unfold db_f45
    simp (disch := omega) only [db_lit, eq_self, db_pI_e, db_pL_e, db_bind_some, db_bd_some, nI_add, pk_mul, nI_toInt, db_m1_t, dz_cn, Int.ofNat_le, Int.ofNat_lt, decide_true, decide_false, db_ct, db_cf, not_true_eq_false, not_false_eq_true, db_87e, db_37e, db_31e, db_28e, db_281e, db_211e, db_27, db_269w, db_litL, pk_lT, db_iL, db_p0_e, db_p0_n, db_p0_j, db_sub1, nI_eq, if_true, if_false, Bool.false_eq_true, Nat.one_ne_zero, e46, ea0]
  have eR : db_f221 t (nI n) = db_f221_b49 db_FU b0 := by
    have h900 : (900 : Int32) = nI 900 := rfl
    unfold db_f221
    simp (disch := omega) only [db_lit, eq_self, db_pI_e, db_pL_e, db_bind_some, db_bd_some, nI_add, pk_mul, nI_toInt, db_m1_t, dz_cn, Int.ofNat_le, Int.ofNat_lt, decide_true, decide_false, db_ct, db_cf, not_true_eq_false, not_false_eq_true, db_87e, db_37e, db_31e, db_28e, db_281e, db_211e, db_27, db_269w, db_litL, pk_lT, db_iL, db_p0_e, db_p0_n, db_p0_j, db_sub1, nI_eq, if_true, if_false, Bool.false_eq_true, Nat.one_ne_zero, eb2, e25]
  have hGs : dv_Ga s a0 := ⟨fun c c1 c2 c3 => by rw [(g6 c c1 c2).1, (g6 c c1 c2).2, b1 c (by omega) (by omega), db_uI_2, f1.2]; exact ⟨rfl, rfl⟩, by rw [g7 1 (by decide) (by decide) (by decide) (by decide), b1 13 (by decide) (by decide)], by rw [g8, db_uI_2, f1.2]⟩
  have hGb0 : (∀ c, c ≠ 669 → c ≠ 674 → c ≠ 676 → b0.1 c = t.1 c ∧ b0.2 c = t.2 c) ∧ (∀ j, j ≠ 0 → j ≠ 1 → ¬ (8 ≤ j ∧ j ≤ 18) → b0.1 669 j = t.1 669 j) ∧ (∀ j, j ≠ 19 → b0.2 669 j = t.2 669 j) ∧ (∀ k, k < 1920 → b0.1 674 k = t.1 674 k) ∧ b0.2 676 = t.2 676 ∧ b0.2 674 = t.2 674 ∧ b0.1 676 = t.1 676 ∧ b0.1 669 8 = nI 0 ∧ b0.1 669 0 = nI 0 := by
    refine ⟨fun c c1 c2 c3 => ?_, fun j j1 j2 j3 => ?_, fun j hj => ?_, fun k hk => ?_, ?_, ?_, ?_, ?_, ?_⟩
    · rw [m1 c c2, m2, (i5 c c1).1, (i5 c c1).2, db_p0_n c1, db_p0_2]
      exact ⟨rfl, rfl⟩
    · rw [m1 669 (by decide), i6 j (by omega) (by omega) (by omega), db_p0_j j1 j2]
    · rw [m2, i7 j hj, db_p0_2]
    · rw [m3 k (by omega), (i5 674 (by decide)).1, db_p0_n (by decide)]
    · rw [m2, (i5 676 (by decide)).2, db_p0_2]
    · rw [m2, (i5 674 (by decide)).2, db_p0_2]
    · rw [m1 676 (by decide), (i5 676 (by decide)).1, db_p0_n (by decide)]
    · rw [m1 669 (by decide), i4]
    · rw [m1 669 (by decide), i6 0 (by omega) (by omega) (by omega), db_p0_0]
  obtain ⟨q1, q2, q3, q4, q5, q6, q7, q8, q9⟩ := hGb0
  rcases hL with ⟨a', b', h1, h2, h3, h4, h5, h6, h7, h9⟩ | ⟨a', b', h1, h2, h3, h7, h9⟩
  · obtain ⟨y, ey, hy⟩ := dv_80 h4
    obtain ⟨k1, k2, k3, k4, k5, k6, k7⟩ := h9
    obtain ⟨z, ez, z1, z2, z3, z4, z5, z6⟩ := dv_275 (s := db_uI (db_uI b' 669 10 (nI 0)) 669 11 (-(nI 1))) (q1 := 4) (q2 := 0) (by omega) (by omega) (by omega)
    have ebk : db_bk z 0 = db_bk b' 4 := (dw_bk (q1 := 4) (q2 := 0) z3).trans (dv_bk_e (by rw [db_uI_n (by decide), db_uI_n (by decide)]))
    have ebw : db_bw z 0 = db_bw b' 4 := by
      funext k
      unfold db_bw
      by_cases hk : k < 37
      · rw [if_pos hk, if_pos hk, z5 k hk, db_uI_2, db_uI_2]
      · rw [if_neg hk, if_neg hk]
    obtain ⟨y1, y2, y3, y4, y5, y6⟩ := id hy
    refine ⟨true, y, z.1 674 3, z, ?_, ?_, ?_, ?_, ?_, ?_, ?_, .inl ⟨rfl, ?_, rfl, a', ?_, ?_⟩⟩
    · rw [eC, h1]
      unfold db_f45_b59
      simp (disch := omega) only [db_lit, eq_self, db_pI_e, db_pL_e, db_bind_some, db_bd_some, nI_add, pk_mul, nI_toInt, db_m1_t, dz_cn, Int.ofNat_le, Int.ofNat_lt, decide_true, decide_false, db_ct, db_cf, not_true_eq_false, not_false_eq_true, db_87e, db_37e, db_31e, db_28e, db_281e, db_211e, db_27, db_269w, db_litL, pk_lT, db_iL, db_p0_e, db_p0_n, db_p0_j, db_sub1, nI_eq, if_true, if_false, Bool.false_eq_true, Nat.one_ne_zero, ey]
    · rw [eR, h2]
      unfold db_f221_b164
      simp (disch := omega) only [db_lit, eq_self, db_pI_e, db_pL_e, db_bind_some, db_bd_some, nI_add, pk_mul, nI_toInt, db_m1_t, dz_cn, Int.ofNat_le, Int.ofNat_lt, decide_true, decide_false, db_ct, db_cf, not_true_eq_false, not_false_eq_true, db_87e, db_37e, db_31e, db_28e, db_281e, db_211e, db_27, db_269w, db_litL, pk_lT, db_iL, db_p0_e, db_p0_n, db_p0_j, db_sub1, nI_eq, if_true, if_false, Bool.false_eq_true, Nat.one_ne_zero, dv_274w h3, ez, db_g_674]
    · refine ⟨fun c c1 c2 c3 => ?_, ?_, ?_⟩
      · rw [y4 c (by omega) (by omega), y6, (h7.1 c c1 c3).1, (h7.1 c c1 c3).2]
        exact hGs.1 c c1 c2 c3
      · rw [y4 13 (by omega) (by omega), h7.2.1 1 (by omega) (by omega) (by omega)]
        exact hGs.2.1
      · rw [y6, h7.2.2]
        exact hGs.2.2
    · refine ⟨fun c c1 c2 c3 => ?_, fun j j1 j2 j3 j4 => ?_, fun j hj => ?_, fun k hk hk2 => ?_, fun k hk hk2 => ?_, ?_, ?_⟩
      · rw [z1 c c2, z2 c c3, db_uI_n c1, db_uI_n c1, db_uI_2, db_uI_2, (k1 c c1 c2 c3).1, (k1 c c1 c2 c3).2]
        exact q1 c c1 c2 c3
      · rw [z1 669 (by decide), db_uI_j (by omega), db_uI_j (by omega), k2 j (by omega) j4]
        exact q2 j j1 j2 j3
      · rw [z2 669 (by decide), db_uI_2, db_uI_2, k3 j hj]
        exact q3 j hj
      · rw [z4 k (by omega), db_uI_n (by decide), db_uI_n (by decide), k4 k hk2]
        exact q4 k hk2
      · rw [z6 k (by omega), db_uI_2, db_uI_2, k5 k hk2, q5]
      · rw [z2 674 (by decide), db_uI_2, db_uI_2, k6]
        exact q6
      · rw [z1 676 (by decide), db_uI_n (by decide), db_uI_n (by decide), k7]
        exact q7
    · rw [z1 669 (by decide), db_uI_j (by decide), db_uI_j (by decide), k2 8 (by omega) (by omega)]
      exact q8
    · rw [y4 13 (by omega) (by omega), h5, z1 669 (by decide), db_uI_j (by decide), db_uI_1]
    · rw [y4 13 (by omega) (by omega), h6, z1 669 (by decide), db_uI_1]
    · rw [z1 669 (by decide), db_uI_j (by decide), db_uI_j (by decide), k2 0 (by omega) (by omega)]
      exact q9
    · rw [ebk, ebw]; exact h4
    · rw [ebk]; exact hy
  · obtain ⟨k1, k2, k3, k4, k5, k6, k7⟩ := h9
    have n0' : ∀ c, c ≠ 669 → (db_uI (db_uI (db_uI b' 669 10 (b'.1 669 12)) 669 11 (b'.1 669 13)) 669 0 (nI 10)).1 c = b'.1 c := fun c hc => by rw [db_uI_n hc, db_uI_n hc, db_uI_n hc]
    refine ⟨false, a', -(nI 1), _, eC.trans h1, (eR.trans h2).trans (dv_164b h3.1), ?_, ?_, ?_, ?_, ?_, .inr ⟨rfl, rfl, db_uI_1, fun k hk => ?_, fun k hk => ?_⟩⟩
    · refine ⟨fun c c1 c2 c3 => ?_, ?_, ?_⟩
      · rw [(h7.1 c c1 c3).1, (h7.1 c c1 c3).2]
        exact hGs.1 c c1 c2 c3
      · rw [h7.2.1 1 (by omega) (by omega) (by omega)]
        exact hGs.2.1
      · rw [h7.2.2]
        exact hGs.2.2
    · refine ⟨fun c c1 c2 c3 => ?_, fun j j1 j2 j3 j4 => ?_, fun j hj => ?_, fun k hk hk2 => ?_, fun k hk hk2 => ?_, ?_, ?_⟩
      · rw [n0' c c1, db_uI_2, db_uI_2, db_uI_2, (k1 c c1 c2 c3).1, (k1 c c1 c2 c3).2]
        exact q1 c c1 c2 c3
      · rw [db_uI_j j1, db_uI_j (by omega), db_uI_j (by omega), k2 j (by omega) j4]
        exact q2 j j1 j2 j3
      · rw [db_uI_2, db_uI_2, db_uI_2, k3 j hj]
        exact q3 j hj
      · rw [n0' 674 (by decide), k4 k hk2]
        exact q4 k hk2
      · rw [db_uI_2, db_uI_2, db_uI_2, k5 k hk2, q5]
      · rw [db_uI_2, db_uI_2, db_uI_2, k6]
        exact q6
      · rw [n0' 676 (by decide), k7]
        exact q7
    · rw [db_uI_j (by decide), db_uI_j (by decide), db_uI_j (by decide), k2 8 (by omega) (by omega)]
      exact q8
    · rw [h3.2.1, db_uI_j (by decide), db_uI_j (by decide), db_uI_1]
    · rw [h3.2.2, db_uI_j (by decide), db_uI_1]
    · rw [n0' 674 (by decide), k4 k (by omega)]
      exact q4 k (by omega)
    · rw [db_uI_2, db_uI_2, db_uI_2, k5 k (by omega), q5]
end DVBK
