/-! MEAN: the call -/
/-- a person's sums by k seeds -/
def dw_ms (c : db_C) (n pp sd : Nat) : Nat → Int64
  | 0 => lN 0
  | k + 1 => dw_ms c n pp sd k + ((dw_al 31 0 n (c, fun _ => nI 0, 0, sd + k)).1 (12 + pp)).toInt64
def dw_Fm (s z : db_S) : Prop := (∀ j, j < 29 ∨ (32 < j ∧ j < 41) ∨ 45 < j → z.1 669 j = s.1 669 j) ∧ (∀ k, 480 ≤ k → z.1 674 k = s.1 674 k) ∧ (∀ a, a ≠ 669 → a ≠ 674 → a ≠ 677 → a ≠ 678 → a ≠ 679 → a ≠ 684 → z.1 a = s.1 a) ∧ z.2 = s.2
theorem dw_Fm_r {s : db_S} : dw_Fm s s := ⟨fun _ _ => rfl, fun _ _ => rfl, fun _ _ _ _ _ _ _ => rfl, rfl⟩
theorem dw_Fm_t {s s1 s2 : db_S} (h : dw_Fm s s1) (k : dw_Fm s1 s2) : dw_Fm s s2 := ⟨fun j a => (k.1 j a).trans (h.1 j a), fun j a => (k.2.1 j a).trans (h.2.1 j a), fun j a b c d e f => (k.2.2.1 j a b c d e f).trans (h.2.2.1 j a b c d e f), k.2.2.2.trans h.2.2.2⟩
section DBMN
variable {U : Nat} {s z : db_S} {c : db_C} {w : Nat → Int64} {x y p q : Int32}
theorem dw_ms_b {n pp sd : Nat} (h : ∀ k, k < 20 → -9999 ≤ ((dw_al 31 0 n (c, fun _ => nI 0, 0, sd + k)).1 (12 + pp)).toInt ∧ ((dw_al 31 0 n (c, fun _ => nI 0, 0, sd + k)).1 (12 + pp)).toInt ≤ 9999) : ∀ k : Nat, k ≤ 20 → -(9999 * (k : Int)) ≤ (dw_ms c n pp sd k).toInt ∧ (dw_ms c n pp sd k).toInt ≤ 9999 * (k : Int)
  | 0, _ => by
    show -(9999 * ((0 : Nat) : Int)) ≤ (lN 0).toInt ∧ (lN 0).toInt ≤ _
    have : (lN 0).toInt = 0 := rfl
    omega
  | k + 1, hk => by
    have ih := dw_ms_b h k (by omega)
    have hh := h k (by omega)
    have e := db_iL ((dw_al 31 0 n (c, fun _ => nI 0, 0, sd + k)).1 (12 + pp))
    show -(9999 * ((k + 1 : Nat) : Int)) ≤ (dw_ms c n pp sd k + ((dw_al 31 0 n (c, fun _ => nI 0, 0, sd + k)).1 (12 + pp)).toInt64).toInt ∧ _
    rw [show dw_ms c n pp sd (k + 1) = dw_ms c n pp sd k + ((dw_al 31 0 n (c, fun _ => nI 0, 0, sd + k)).1 (12 + pp)).toInt64 from rfl, fb_addL (by omega) (by omega), e]
    omega
/-- the class's runs -/
theorem dw_203 {n z sd m pp : Nat} (hU : U + 1800 ≤ 1000000000) (hB : db_B1 U 20 s c w) (hn2 : n ≤ 30) (hz : s.1 83 2 = nI z) (hz2 : z ≤ 60) (hP : db_PL (db_pr 83 s) c 31 3 0 n 0 z) (hsd : sd + m ≤ 10000) (hm : m ≤ 20) (hp : pp < db_n c 1) : dz_T (db_f203 s (nI pp) (nI sd) (nI m)) (fun z => z.1 = dw_ms c n pp sd m ∧ db_B1 U 20 z.2 c w ∧ db_Ed s z.2) := by
  obtain ⟨s2, e2, a1, a2, a3, a4, a5, a6⟩ := dw_s287 (s := s)
  have hE2 : db_Ed s s2 := fun a j q _ => by
    rw [a1 a (by unfold db_ec at q; omega) (by unfold db_ec at q; omega) (by unfold db_ec at q; omega), a2]
    exact ⟨rfl, rfl⟩
  unfold db_f203
  simp (disch := omega) only [db_lit, eq_self, db_pI_e, db_pL_e, db_bind_some, db_bd_some, nI_add, pk_mul, nI_toInt, db_m1_t, dz_cn, Int.ofNat_le, Int.ofNat_lt, decide_true, decide_false, db_ct, db_cf, not_true_eq_false, not_false_eq_true, e2]
  refine db_loop (L := fun f (a : db_S × Int64) k => db_f203_b17 f a.1 (nI pp) (nI sd) (nI m) a.2 (nI k)) (N := m) (fun k a => a.2 = dw_ms c n pp sd k ∧ db_B1 U 20 a.1 c w ∧ db_Ed s a.1 ∧ (∀ b, b = 287 ∨ b = 288 ∨ b = 289 → a.1.1 b = s2.1 b)) ?_ ?_ (n := db_FU) (a := (s2, lN 0)) (by unfold db_FU; omega) ⟨rfl, db_B1_c (fun a q1 q2 q3 => a1 a (by omega) (by omega) (by omega)) (by rw [a2]) hB, hE2, fun b _ => rfl⟩
  · rintro f ⟨a, u⟩ ⟨g1, g2, g3, -⟩
    dsimp only at g1 g2 g3
    show dz_T (db_f203_b17 (f + 1) a (nI pp) (nI sd) (nI m) u (nI m)) _
    rw [db_f203_b17]
    simp (disch := omega) only [db_lit, eq_self, db_pI_e, db_pL_e, db_bind_some, db_bd_some, nI_add, pk_mul, nI_toInt, db_m1_t, dz_cn, Int.ofNat_le, Int.ofNat_lt, decide_true, decide_false, db_ct, db_cf, not_true_eq_false, not_false_eq_true, Nat.le_refl]
    exact ⟨_, rfl, g1, g2, g3⟩
  · rintro f k ⟨a, u⟩ hk ⟨g1, g2, g3, g4⟩ hrec
    dsimp only at g1 g2 g3 g4
    show dz_T (db_f203_b17 (f + 1) a (nI pp) (nI sd) (nI m) u (nI k)) _
    rw [db_f203_b17]
    have hza : a.1 83 2 = nI z := by rw [(g3 83 2 (by unfold db_ec; omega) (by omega)).1]; exact hz
    have hpr : db_pr 83 a = db_pr 83 s := by
      funext i
      unfold db_pr
      by_cases hi : i < 60
      · rw [if_pos hi, if_pos hi]
        funext j
        exact (g3 (83 + 2 + i) j (by unfold db_ec; omega) (by omega)).1
      · rw [if_neg hi, if_neg hi]
    obtain ⟨b, e3, hR, hT, hT2⟩ := dw_194 (c := c) (w := w) (sd := sd + k) hU g2 (show sd + k < 65536 by omega) hn2 hza hz2 (by rw [hpr]; exact hP)
    generalize ht : dw_al 31 0 n (c, fun _ => nI 0, 0, sd + k) = t at e3 hR hT
    have e82 : b.1 82 pp = t.1 (12 + pp) := db_82 hR.1.2.1 (by
      have : db_n t.1 1 = db_n c 1 := by unfold db_n; rw [hT.2.1 1 (by unfold dz_tl; omega)]
      rw [this]; exact hp)
    have hp4 : pp < 4 := Nat.lt_of_lt_of_le hp g2.1.1.2.1.2
    obtain ⟨y, e5, y1, y2, y3, y4, y5, y6⟩ := dw_r287 (a := b)
    simp (disch := omega) only [db_lit, eq_self, db_pI_e, db_pL_e, db_bind_some, db_bd_some, nI_add, pk_mul, nI_toInt, db_m1_t, dz_cn, Int.ofNat_le, Int.ofNat_lt, decide_true, decide_false, db_ct, db_cf, not_true_eq_false, not_false_eq_true, (show ¬ m ≤ k by omega), e3, db_g_82, e82, e5]
    have hEb := hR.2.2.2
    have k287 : ∀ i j, i = 287 ∨ i = 288 ∨ i = 289 → b.1 i j = s2.1 i j := fun i j hi => by
      rw [hT2 i (by omega) (by omega), g4 i hi]
    have hEy : db_Ed s y := by
      refine db_Ed_t g3 (db_Ed_t hEb fun i j q hi => ?_)
      rw [y1 i (by omega) (by omega) (by omega), y2]
      exact ⟨rfl, rfl⟩
    refine hrec (y, u + (t.1 (12 + pp)).toInt64) ⟨?_, ?_, ?_, fun i hi => ?_⟩
    · show u + _ = dw_ms c n pp sd k + _
      rw [g1, ht]
    · show db_B1 U 20 y c w
      have hO := hB.1
      have h12 := hO.1.2.2.2.1.2
      have h4 := hO.1.2.1.2
      refine db_B1_u hB dw_Te_r (fun i q1 q2 q3 q4 q5 q6 => ?_) ?_ (fun r hr => ⟨?_, (hO.2.1 r hr).2.2.2.2.2.2⟩) (fun r hr => ⟨?_, (hO.2.2.2.2.1 r hr).2⟩) ⟨?_, hO.2.2.2.2.2.2.1⟩ ⟨?_, hO.2.2.2.2.2.2.2⟩
      · funext j
        exact (hEy i j (by unfold db_ec; omega) (by omega)).1
      · funext j
        exact (hEy 76 j (by unfold db_ec; omega) (by omega)).2
      · show y.1 81 r = _
        rw [y3 r (by omega), k287 288 r (by omega), a3 r (by omega)]
        exact db_81 hB.2.1 hr
      · show y.1 82 r = _
        rw [y4 r (by omega), k287 289 r (by omega), a4 r (by omega)]
        exact db_82 hB.2.1 hr
      · show y.1 80 2 = _
        rw [y5, k287 287 2 (by omega), a5]
        exact (db_802 hB.2.1).1
      · show y.1 80 3 = _
        rw [y6, k287 287 3 (by omega), a6]
        exact (db_802 hB.2.1).2
    · exact hEy
    · show y.1 i = _
      rw [y1 i (by omega) (by omega) (by omega)]
      funext j
      exact k287 i j hi
/-- the reference's copies -/
theorem dw_375a {P : Bool × db_S → Prop} {v1 v2 v3 : Int32} (hk : ∀ z, (∀ b, b ≠ 684 → z.1 b = s.1 b) → z.2 = s.2 → (∀ j, j < 199 → z.1 684 j = s.1 674 j) → dz_T (db_f375_b112 db_FU z v1 v2 v3 (lN 0) (nI 0)) P) : dz_T (db_f375_b78 db_FU s v1 v2 v3 (nI 0)) P := by
  refine db_loop (L := fun m a k => db_f375_b78 m a v1 v2 v3 (nI k)) (N := 199) (fun k z => (∀ b, b ≠ 684 → z.1 b = s.1 b) ∧ z.2 = s.2 ∧ ∀ j, j < k → z.1 684 j = s.1 674 j) ?_ ?_ (n := db_FU) (by unfold db_FU; omega) ⟨fun b _ => rfl, rfl, fun j hj => absurd hj (by omega)⟩
  · rintro m a ⟨h1, h2, h3⟩
    show dz_T (db_f375_b78 (m + 1) a v1 v2 v3 (nI 199)) _
    rw [db_f375_b78]
    simp (disch := omega) only [db_lit, eq_self, db_pI_e, db_pL_e, db_bind_some, db_bd_some, nI_add, pk_mul, nI_toInt, db_m1_t, dz_cn, Int.ofNat_le, Int.ofNat_lt, decide_true, decide_false, db_ct, db_cf, not_true_eq_false, not_false_eq_true, Nat.le_refl]
    exact hk a h1 h2 h3
  · rintro m k a hk' ⟨h1, h2, h3⟩ hrec
    show dz_T (db_f375_b78 (m + 1) a v1 v2 v3 (nI k)) _
    rw [db_f375_b78]
    have h7 : ¬ 199 ≤ k := by omega
    have e : a.1 674 k = s.1 674 k := by rw [h1 674 (by decide)]
    simp (disch := omega) only [db_lit, eq_self, db_pI_e, db_pL_e, db_bind_some, db_bd_some, nI_add, pk_mul, nI_toInt, db_m1_t, dz_cn, Int.ofNat_le, Int.ofNat_lt, decide_true, decide_false, db_ct, db_cf, not_true_eq_false, not_false_eq_true, h7, db_g_674, e, db_h_684]
    refine hrec _ ⟨fun b hb => by rw [db_uI_n hb]; exact h1 b hb, h2, fun j hj => ?_⟩
    by_cases e2 : j = k
    · subst e2; exact db_uI_1
    · rw [db_uI_j e2]; exact h3 j (by omega)
theorem dw_375b {P : Bool × db_S → Prop} {h112 : db_S → Int32 → Int32 → Int32 → Int64 → Int32 → Option (Bool × db_S)} {v1 v2 v3 v6 : Int32} {v4 : Int64} (hk : ∀ z, (∀ b, b ≠ 674 → z.1 b = s.1 b) → z.2 = s.2 → (∀ j, j < 199 → z.1 674 j = s.1 684 j) → (∀ j, 199 ≤ j → z.1 674 j = s.1 674 j) → dz_T (h112 z v1 v2 v3 v4 (v6 + nI 1)) P) : dz_T (db_f375_b144 h112 db_FU s v1 v2 v3 v4 v6 (nI 0)) P := by
  refine db_loop (L := fun m a k => db_f375_b144 h112 m a v1 v2 v3 v4 v6 (nI k)) (N := 199) (fun k z => (∀ b, b ≠ 674 → z.1 b = s.1 b) ∧ z.2 = s.2 ∧ (∀ j, j < k → z.1 674 j = s.1 684 j) ∧ ∀ j, 199 ≤ j → z.1 674 j = s.1 674 j) ?_ ?_ (n := db_FU) (by unfold db_FU; omega) ⟨fun b _ => rfl, rfl, fun j hj => absurd hj (by omega), fun j _ => rfl⟩
  · rintro m a ⟨h1, h2, h3, h4⟩
    show dz_T (db_f375_b144 h112 (m + 1) a v1 v2 v3 v4 v6 (nI 199)) _
    rw [db_f375_b144]
    simp (disch := omega) only [db_lit, eq_self, db_pI_e, db_pL_e, db_bind_some, db_bd_some, nI_add, pk_mul, nI_toInt, db_m1_t, dz_cn, Int.ofNat_le, Int.ofNat_lt, decide_true, decide_false, db_ct, db_cf, not_true_eq_false, not_false_eq_true, Nat.le_refl]
    exact hk a h1 h2 h3 h4
  · rintro m k a hk' ⟨h1, h2, h3, h4⟩ hrec
    show dz_T (db_f375_b144 h112 (m + 1) a v1 v2 v3 v4 v6 (nI k)) _
    rw [db_f375_b144]
    have h7 : ¬ 199 ≤ k := by omega
    have e : a.1 684 k = s.1 684 k := by rw [h1 684 (by decide)]
    simp (disch := omega) only [db_lit, eq_self, db_pI_e, db_pL_e, db_bind_some, db_bd_some, nI_add, pk_mul, nI_toInt, db_m1_t, dz_cn, Int.ofNat_le, Int.ofNat_lt, decide_true, decide_false, db_ct, db_cf, not_true_eq_false, not_false_eq_true, h7, db_g_684, e, db_h_674]
    refine hrec _ ⟨fun b hb => by rw [db_uI_n hb]; exact h1 b hb, h2, fun j hj => ?_, fun j hj => ?_⟩
    · by_cases e2 : j = k
      · subst e2; exact db_uI_1
      · rw [db_uI_j e2]; exact h3 j (by omega)
    · rw [db_uI_j (by omega)]; exact h4 j hj
/-- the reference's runs -/
theorem dw_375 {R : Nat → Nat → Int32} {n z sd m pp : Nat} {fx fy : Int64} (hU : U + 1800 ≤ 1000000000) (hg : dw_gd U c) (hA : db_A s c) (hn2 : n ≤ 30) (hn : c 200 = nI n) (hP : db_PL R c 31 3 0 n 0 z) (hsd : sd + m ≤ 10000) (hm : m ≤ 20) (hp : pp < 4) (ht : ∀ s, db_f364 s (dw_ms c n pp sd m) (nI m).toInt64 = some (true, db_uL (db_uL s 669 2 fx) 669 3 fy)) : dz_T (db_f375_b78 db_FU s (nI pp) (nI sd) (nI m) (nI 0)) (fun z => ∃ a, dw_Fm s a ∧ db_A a c ∧ z = (true, db_uL (db_uL a 669 2 fx) 669 3 fy)) := by
  refine dw_375a fun s2 f1 f2 f3 => ?_
  have hF2 : dw_Fm s s2 := ⟨fun j _ => by rw [f1 669 (by decide)], fun k _ => by rw [f1 674 (by decide)], fun a _ _ _ _ _ a6 => f1 a a6, f2⟩
  refine db_loop (L := fun f (a : db_S × Int64) k => db_f375_b112 f a.1 (nI pp) (nI sd) (nI m) a.2 (nI k)) (N := m) (fun k a => a.2 = dw_ms c n pp sd k ∧ dw_Fm s a.1 ∧ db_A a.1 c ∧ ∀ j, j < 199 → a.1.1 684 j = c j) ?_ ?_ (n := db_FU) (a := (s2, lN 0)) (by unfold db_FU; omega) ⟨rfl, hF2, db_A_e (f1 674 (by decide)) hA, fun j hj => by rw [f3 j hj]; exact hA j (by omega)⟩
  · rintro f ⟨a, u⟩ ⟨g1, g2, g3, -⟩
    dsimp only at g1 g2 g3
    show dz_T (db_f375_b112 (f + 1) a (nI pp) (nI sd) (nI m) u (nI m)) _
    rw [db_f375_b112]
    subst g1
    simp (disch := omega) only [db_lit, eq_self, db_pI_e, db_pL_e, db_bind_some, db_bd_some, nI_add, pk_mul, nI_toInt, db_m1_t, dz_cn, Int.ofNat_le, Int.ofNat_lt, decide_true, decide_false, db_ct, db_cf, not_true_eq_false, not_false_eq_true, Nat.le_refl, ht]
    exact ⟨_, rfl, a, g2, g3, rfl⟩
  · rintro f k ⟨a, u⟩ hk ⟨g1, g2, g3, g4⟩ hrec
    dsimp only at g1 g2 g3 g4
    show dz_T (db_f375_b112 (f + 1) a (nI pp) (nI sd) (nI m) u (nI k)) _
    rw [db_f375_b112]
    obtain ⟨y, e3, hy, hT⟩ := dw_367 (R := R) (sd := sd + k) hU hg g3 (show sd + k < 65536 by omega) hn hn2 hP
    have hm1 : dw_ms c n pp sd (k + 1) = dw_ms c n pp sd k + ((dw_al 31 0 n (c, fun _ => nI 0, 0, sd + k)).1 (12 + pp)).toInt64 := rfl
    generalize ht : dw_al 31 0 n (c, fun _ => nI 0, 0, sd + k) = t at hy hT hm1
    have e12 : y.1 674 (12 + pp) = t.1 (12 + pp) := hy.1 _ (by omega)
    simp (disch := omega) only [db_lit, eq_self, db_pI_e, db_pL_e, db_bind_some, db_bd_some, nI_add, pk_mul, nI_toInt, db_m1_t, dz_cn, Int.ofNat_le, Int.ofNat_lt, decide_true, decide_false, db_ct, db_cf, not_true_eq_false, not_false_eq_true, (show ¬ m ≤ k by omega), e3, db_g_674, e12]
    refine dw_375b fun z z1 z2 z3 z4 => ?_
    rw [nI_add]
    have hyF := hy.2.2.2.2.2.2.2.2
    have hFz : dw_Fm s z := dw_Fm_t g2 ⟨fun j hj => by rw [z1 669 (by decide), hyF.1 j hj], fun k hk => by rw [z4 k (by omega), hyF.2.1 k hk], fun a a1 a2 a3 a4 a5 a6 => by rw [z1 a a2, hyF.2.2.1 a a1 a2 a3 a4 a5], z2.trans hyF.2.2.2⟩
    have y684 : ∀ j, j < 199 → y.1 684 j = c j := fun j hj => by rw [hyF.2.2.1 684 (by decide) (by decide) (by decide) (by decide) (by decide)]; exact g4 j hj
    refine hrec (z, u + (t.1 (12 + pp)).toInt64) ⟨?_, hFz, fun j hj => ?_, fun j hj => ?_⟩
    · show u + _ = _
      rw [hm1, g1]
    · show z.1 674 j = c j
      by_cases hj2 : j < 199
      · rw [z3 j hj2, y684 j hj2]
      · rw [z4 j (by omega), hy.1 j hj, hT.2.1 j (by unfold dz_tl; omega)]
    · show z.1 684 j = c j
      rw [z1 684 (by decide)]
      exact y684 j hj
theorem db_k53 (hI : db_Inv U s) (hU : U + 1800 ≤ 1000000000) : dz_G U s (fun s => db_f202 s p q x) (fun s => db_f375 s p q x) := by
  have hB := db_cur hI
  obtain ⟨hO, hR, -⟩ := db_cur hI
  obtain ⟨⟨p0, p1⟩, n, z, hn, hz, h200, hs1, hs2, hP⟩ := hB.2.2
  have p0 : s.1 83 0 = db_bk s 0 199 := p0
  have hs2 : s.1 83 2 = nI z := hs2
  have hP : db_PL (db_pr 83 s) (db_bk s 0) 31 3 0 n 0 z := hP
  have k1 := hO.1.2.1
  generalize hcc : db_bk s 0 = c at *
  generalize hww : db_bw s 0 = w at *
  cases hp : db_is p (db_n c 1) with
  | false =>
    refine db_GnB 2 hI ?_ fun s1 hS hA => ?_
    · unfold db_f202
      simp (disch := omega) only [db_lit, eq_self, db_pI_e, db_pL_e, db_bind_some, db_bd_some, nI_add, pk_mul, nI_toInt, db_m1_t, dz_cn, Int.ofNat_le, Int.ofNat_lt, decide_true, decide_false, db_ct, db_cf, not_true_eq_false, not_false_eq_true, db_87e, db_37e, db_31e, db_28e, db_281e, db_211e, db_27, db_269w, db_litL, pk_lT, db_iL, db_p0_e, db_p0_n, db_p0_j, db_sub1, nI_eq, if_true, if_false, Bool.false_eq_true, Nat.one_ne_zero, db_103 hR hO, hp]
    · rw [hcc] at hA
      unfold db_f375
      simp (disch := omega) only [db_lit, eq_self, db_pI_e, db_pL_e, db_bind_some, db_bd_some, nI_add, pk_mul, nI_toInt, db_m1_t, dz_cn, Int.ofNat_le, Int.ofNat_lt, decide_true, decide_false, db_ct, db_cf, not_true_eq_false, not_false_eq_true, db_87e, db_37e, db_31e, db_28e, db_281e, db_211e, db_27, db_269w, db_litL, pk_lT, db_iL, db_p0_e, db_p0_n, db_p0_j, db_sub1, nI_eq, if_true, if_false, Bool.false_eq_true, Nat.one_ne_zero, db_292 (db_p0_A hA) k1, hp]
  | true =>
    obtain ⟨pp, hpp, rfl⟩ := db_is_t hp
    cases hx : db_wi x ((1 : Nat) : Int) ((20 : Nat) : Int) with
    | false =>
      refine db_GnB 5 hI ?_ fun s1 hS hA => ?_
      · unfold db_f202 db_f202_b40
        simp (disch := omega) only [db_lit, eq_self, db_pI_e, db_pL_e, db_bind_some, db_bd_some, nI_add, pk_mul, nI_toInt, db_m1_t, dz_cn, Int.ofNat_le, Int.ofNat_lt, decide_true, decide_false, db_ct, db_cf, not_true_eq_false, not_false_eq_true, db_87e, db_37e, db_31e, db_28e, db_281e, db_211e, db_27, db_269w, db_litL, pk_lT, db_iL, db_p0_e, db_p0_n, db_p0_j, db_sub1, nI_eq, if_true, if_false, Bool.false_eq_true, Nat.one_ne_zero, db_103 hR hO, hp, hx]
      · rw [hcc] at hA
        unfold db_f375 db_f375_b51
        simp (disch := omega) only [db_lit, eq_self, db_pI_e, db_pL_e, db_bind_some, db_bd_some, nI_add, pk_mul, nI_toInt, db_m1_t, dz_cn, Int.ofNat_le, Int.ofNat_lt, decide_true, decide_false, db_ct, db_cf, not_true_eq_false, not_false_eq_true, db_87e, db_37e, db_31e, db_28e, db_281e, db_211e, db_27, db_269w, db_litL, pk_lT, db_iL, db_p0_e, db_p0_n, db_p0_j, db_sub1, nI_eq, if_true, if_false, Bool.false_eq_true, Nat.one_ne_zero, db_292 (db_p0_A hA) k1, hp, hx]
    | true =>
      obtain ⟨m, hm, hm1, rfl⟩ := db_wi_t (by decide) (by decide) hx
      have e1 : nI 9999 - nI m + nI 1 = nI (10000 - m) := by
        rw [pk_sub (by omega), nI_add, show 9999 - m + 1 = 10000 - m by omega]
      have e2 : nI 10000 - nI m = nI (10000 - m) := pk_sub (by omega)
      cases hq : db_wi q ((0 : Nat) : Int) ((10000 - m : Nat) : Int) with
      | false =>
        refine db_GnB 5 hI ?_ fun s1 hS hA => ?_
        · unfold db_f202 db_f202_b40
          simp (disch := omega) only [db_lit, eq_self, db_pI_e, db_pL_e, db_bind_some, db_bd_some, nI_add, pk_mul, nI_toInt, db_m1_t, dz_cn, Int.ofNat_le, Int.ofNat_lt, decide_true, decide_false, db_ct, db_cf, not_true_eq_false, not_false_eq_true, db_87e, db_37e, db_31e, db_28e, db_281e, db_211e, db_27, db_269w, db_litL, pk_lT, db_iL, db_p0_e, db_p0_n, db_p0_j, db_sub1, nI_eq, if_true, if_false, Bool.false_eq_true, Nat.one_ne_zero, db_103 hR hO, hp, hx, e1, hq]
        · rw [hcc] at hA
          unfold db_f375 db_f375_b51
          simp (disch := omega) only [db_lit, eq_self, db_pI_e, db_pL_e, db_bind_some, db_bd_some, nI_add, pk_mul, nI_toInt, db_m1_t, dz_cn, Int.ofNat_le, Int.ofNat_lt, decide_true, decide_false, db_ct, db_cf, not_true_eq_false, not_false_eq_true, db_87e, db_37e, db_31e, db_28e, db_281e, db_211e, db_27, db_269w, db_litL, pk_lT, db_iL, db_p0_e, db_p0_n, db_p0_j, db_sub1, nI_eq, if_true, if_false, Bool.false_eq_true, Nat.one_ne_zero, db_292 (db_p0_A hA) k1, hp, hx, e2, hq]
      | true =>
        obtain ⟨sd, hsd, -, rfl⟩ := db_wi_t (by omega) (by decide) hq
        rcases p1 with p1 | p1
        · refine db_GnB 8 hI ?_ fun s1 hS hA => ?_
          · unfold db_f202
            simp (disch := omega) only [db_lit, eq_self, db_pI_e, db_pL_e, db_bind_some, db_bd_some, nI_add, pk_mul, nI_toInt, db_m1_t, dz_cn, Int.ofNat_le, Int.ofNat_lt, decide_true, decide_false, db_ct, db_cf, not_true_eq_false, not_false_eq_true, db_87e, db_37e, db_31e, db_28e, db_281e, db_211e, db_27, db_269w, db_litL, pk_lT, db_iL, db_p0_e, db_p0_n, db_p0_j, db_sub1, nI_eq, if_true, if_false, Bool.false_eq_true, Nat.one_ne_zero, db_103 hR hO, hp, hx, e1, hq, p0, p1]
          · rw [hcc] at hA
            unfold db_f375
            simp (disch := omega) only [db_lit, eq_self, db_pI_e, db_pL_e, db_bind_some, db_bd_some, nI_add, pk_mul, nI_toInt, db_m1_t, dz_cn, Int.ofNat_le, Int.ofNat_lt, decide_true, decide_false, db_ct, db_cf, not_true_eq_false, not_false_eq_true, db_87e, db_37e, db_31e, db_28e, db_281e, db_211e, db_27, db_269w, db_litL, pk_lT, db_iL, db_p0_e, db_p0_n, db_p0_j, db_sub1, nI_eq, if_true, if_false, Bool.false_eq_true, Nat.one_ne_zero, db_292 (db_p0_A hA) k1, hp, hx, e2, hq, db_g_674, db_p0_A hA, p1]
        · have hbd : ∀ k, k < 20 → -9999 ≤ ((dw_al 31 0 n (c, fun _ => nI 0, 0, sd + k)).1 (12 + pp)).toInt ∧ ((dw_al 31 0 n (c, fun _ => nI 0, 0, sd + k)).1 (12 + pp)).toInt ≤ 9999 := by
            intro k hk
            have hT := dw_al_k hU 31 3 0 n 0 z _ hn hP (dw_tk0 (U := U) (c := c) (sd := sd + k) ⟨s, w, hB⟩ (by omega))
            generalize ht : dw_al 31 0 n (c, fun _ => nI 0, 0, sd + k) = t at hT
            obtain ⟨⟨s', w', hB'⟩, hTe, -⟩ := hT
            exact (hB'.1.2.2.2.2.1 pp (by
              have : db_n t.1 1 = db_n c 1 := by unfold db_n; rw [hTe 1 (by unfold dz_tl; omega)]
              rw [this]; exact hpp)).2
          have hms := dw_ms_b hbd m (by omega)
          obtain ⟨fx, fy, t1, t2⟩ := dw_tell (v1 := dw_ms c n pp sd m) (b := m) (by omega) (by omega) (by omega)
          have elm : (nI m).toInt64 = lN m := Int64.toInt_inj.mp (by rw [db_iL, nI_toInt (by omega), pk_lT (by omega)])
          obtain ⟨⟨v, a⟩, e3, a1, a2, a3⟩ := dw_203 (sd := sd) (m := m) hU hB hn hs2 hz hP (by omega) (by omega) hpp
          dsimp only at a1 a2 a3
          subst a1
          generalize hs1 : db_uI (db_uL (db_uL a 282 0 fx) 282 1 fy) 4 0 (nI 0) = s1
          have hf1 : db_f202 s (nI pp) (nI sd) (nI m) = some (true, s1) := by
            unfold db_f202
            simp (disch := omega) only [db_lit, eq_self, db_pI_e, db_pL_e, db_bind_some, db_bd_some, nI_add, pk_mul, nI_toInt, db_m1_t, dz_cn, Int.ofNat_le, Int.ofNat_lt, decide_true, decide_false, db_ct, db_cf, not_true_eq_false, not_false_eq_true, db_87e, db_37e, db_31e, db_28e, db_281e, db_211e, db_27, db_269w, db_litL, pk_lT, db_iL, db_p0_e, db_p0_n, db_p0_j, db_sub1, nI_eq, if_true, if_false, Bool.false_eq_true, Nat.one_ne_zero, db_103 hR hO, hp, hx, e1, hq, p0, p1, e3, elm, t1]
            rw [hs1]
          have u1 : ∀ i, i ≠ 4 → s1.1 i = a.1 i := fun i hi => by rw [← hs1, db_uI_n hi]; rfl
          have u2 : ∀ i j, ¬ (i = 282 ∧ j ≤ 1) → s1.2 i j = a.2 i j := fun i j hi => by rw [← hs1, db_uI_2, db_uL_if, if_neg (by omega), db_uL_if, if_neg (by omega)]
          have hA1 : db_A (db_p0 s1) c := db_p0_A (fun k hk => by rw [u1 674 (by decide), (a3 674 k (by unfold db_ec; omega) (by omega)).1, ← hcc]; exact db_bk_A k hk)
          obtain ⟨r, e4, b, hF, hAb, rfl⟩ := dw_375 (R := db_pr 83 s) (sd := sd) (m := m) (pp := pp) (fx := fx) (fy := fy) hU ⟨s, w, hB⟩ hA1 hn h200 hP (by omega) (by omega) (Nat.lt_of_lt_of_le hpp k1.2) (fun s => by rw [elm]; exact t2 s)
          have hf2 : db_f375 s1 (nI pp) (nI sd) (nI m) = some (true, db_uL (db_uL b 669 2 fx) 669 3 fy) := by
            unfold db_f375
            simp (disch := omega) only [db_lit, eq_self, db_pI_e, db_pL_e, db_bind_some, db_bd_some, nI_add, pk_mul, nI_toInt, db_m1_t, dz_cn, Int.ofNat_le, Int.ofNat_lt, decide_true, decide_false, db_ct, db_cf, not_true_eq_false, not_false_eq_true, db_87e, db_37e, db_31e, db_28e, db_281e, db_211e, db_27, db_269w, db_litL, pk_lT, db_iL, db_p0_e, db_p0_n, db_p0_j, db_sub1, nI_eq, if_true, if_false, Bool.false_eq_true, Nat.one_ne_zero]
            generalize db_p0 s1 = s6 at hA1 e4
            simp (disch := omega) only [db_lit, eq_self, db_pI_e, db_pL_e, db_bind_some, db_bd_some, nI_add, pk_mul, nI_toInt, db_m1_t, dz_cn, Int.ofNat_le, Int.ofNat_lt, decide_true, decide_false, db_ct, db_cf, not_true_eq_false, not_false_eq_true, db_87e, db_37e, db_31e, db_28e, db_281e, db_211e, db_27, db_269w, db_litL, pk_lT, db_iL, db_p0_e, db_p0_n, db_p0_j, db_sub1, nI_eq, if_true, if_false, Bool.false_eq_true, Nat.one_ne_zero, db_292 hA1 k1, hp, hx, e2, hq, db_g_674, hA1, p1, e4]
          refine ⟨true, s1, _, hf1, hf2, ?_⟩
          obtain ⟨F1, F2, F3, F4⟩ := hF
          have b669 : ∀ j, j < 29 ∨ (32 < j ∧ j < 41) ∨ 45 < j → j ≠ 0 → j ≠ 1 → b.1 669 j = a.1 669 j := fun j hj j0 j1 => by rw [F1 j hj, db_p0_j j0 j1, u1 669 (by decide)]
          have bcl : ∀ i, i ≠ 4 → i ≠ 669 → i ≠ 674 → i ≠ 677 → i ≠ 678 → i ≠ 679 → i ≠ 684 → b.1 i = a.1 i := fun i i0 i1 i2 i3 i4 i5 i6 => by rw [F3 i i1 i2 i3 i4 i5 i6, db_p0_n i1, u1 i i0]
          have b2 : ∀ i j, ¬ (i = 282 ∧ j ≤ 1) → b.2 i j = a.2 i j := fun i j hi => by rw [F4, db_p0_2]; exact u2 i j hi
          have b40 : b.1 4 0 = nI 0 := by rw [F3 4 (by decide) (by decide) (by decide) (by decide) (by decide) (by decide), db_p0_n (by decide), ← hs1, db_uI_1]
          have b4 : ∀ j, j ≠ 0 → b.1 4 j = a.1 4 j := fun j hj => by rw [F3 4 (by decide) (by decide) (by decide) (by decide) (by decide) (by decide), db_p0_n (by decide), ← hs1, db_uI_j hj, db_uL_2, db_uL_2]
          have b0 : b.1 669 0 = nI 0 := by rw [F1 0 (by omega)]; exact db_p0_0
          have hI' : db_Inv U (b.1, fun i j => if (i = 282 ∧ j ≤ 1) ∨ (i = 669 ∧ (j = 2 ∨ j = 3)) then s.2 i j else b.2 i j) := by
            have ebk : ∀ k, k < 480 → db_bk (b.1, fun i j => if (i = 282 ∧ j ≤ 1) ∨ (i = 669 ∧ (j = 2 ∨ j = 3)) then s.2 i j else b.2 i j) 0 k = c k := fun k hk => by
              rw [db_bk_0 hk]
              exact hAb k hk
            have ebw : db_bw (b.1, fun i j => if (i = 282 ∧ j ≤ 1) ∨ (i = 669 ∧ (j = 2 ∨ j = 3)) then s.2 i j else b.2 i j) 0 = w := by
              rw [← hww]
              funext k
              unfold db_bw
              by_cases hk : k < 37
              · rw [if_pos hk, if_pos hk]
                show (if (676 = 282 ∧ 37 * 0 + k ≤ 1) ∨ (676 = 669 ∧ (37 * 0 + k = 2 ∨ 37 * 0 + k = 3)) then s.2 676 (37 * 0 + k) else b.2 676 (37 * 0 + k)) = _
                rw [if_neg (by omega), b2 _ _ (by omega), (a3 676 _ (by unfold db_ec; omega) (by omega)).2]
              · rw [if_neg hk, if_neg hk]
            refine db_Inv_u hI (Nat.le_refl U) (fun i j he n1 n2 n3 n4 n5 => ⟨?_, ?_⟩) ?_ ?_
            · show b.1 i j = s.1 i j
              have hec : db_ec i j := by
                rcases he with he | he
                · exact he.2
                · unfold db_ec; omega
              rw [← (a3 i j hec (by omega)).1]
              by_cases i9 : i = 669
              · subst i9
                have : db_em 669 j := by
                  rcases he with he | he
                  · omega
                  · exact he.2
                unfold db_em at this
                exact b669 j (by omega) (by omega) (by omega)
              · by_cases i4 : i = 4
                · subst i4
                  exact b4 j (by omega)
                · by_cases i7 : i = 674
                  · subst i7
                    rw [F2 j (by omega), db_p0_n (by decide), u1 674 (by decide)]
                  · have : ¬ (677 ≤ i ∧ i ≤ 679) ∧ i ≠ 684 := by
                      unfold db_es db_em at he
                      omega
                    rw [bcl i i4 i9 i7 (by omega) (by omega) (by omega) (by omega)]
            · show (if (i = 282 ∧ j ≤ 1) ∨ (i = 669 ∧ (j = 2 ∨ j = 3)) then s.2 i j else b.2 i j) = s.2 i j
              by_cases e : (i = 282 ∧ j ≤ 1) ∨ (i = 669 ∧ (j = 2 ∨ j = 3))
              · rw [if_pos e]
              · have hec : db_ec i j := by
                  rcases he with he | he
                  · exact he.2
                  · unfold db_ec; omega
                rw [if_neg e, b2 i j (by omega)]
                exact (a3 i j hec (by omega)).2
            · show b.1 4 0 = b.1 669 0
              rw [b40, b0]
            · rw [ebw]
              refine db_B1_A (c := c) (db_B1_c (fun i q1 q2 q3 => ?_) ?_ a2) ebk
              · show b.1 i = a.1 i
                exact bcl i (by omega) (by omega) (by omega) (by omega) (by omega) (by omega) (by omega)
              · funext j
                show (if (76 = 282 ∧ j ≤ 1) ∨ (76 = 669 ∧ (j = 2 ∨ j = 3)) then s.2 76 j else b.2 76 j) = a.2 76 j
                rw [if_neg (by omega), b2 76 j (by omega)]
          refine db_Inv_frac hI' (Nat.le_refl U) (fun i j he hne => ⟨rfl, ?_⟩) ?_ ⟨?_, ?_⟩
          · show (db_uL (db_uL b 669 2 fx) 669 3 fy).2 i j = (if (i = 282 ∧ j ≤ 1) ∨ (i = 669 ∧ (j = 2 ∨ j = 3)) then s.2 i j else b.2 i j)
            rw [if_neg (by omega), db_uL_if, if_neg (by omega), db_uL_if, if_neg (by omega)]
          · show b.1 4 0 = b.1 669 0
            rw [b40, b0]
          · have l1 : (db_uL (db_uL b 669 2 fx) 669 3 fy).2 282 0 = fx := by rw [db_uL_n (by decide), db_uL_n (by decide), F4, db_p0_2, ← hs1, db_uI_2, db_uL_j (by decide), db_uL_1]
            have l2 : (db_uL (db_uL b 669 2 fx) 669 3 fy).2 669 2 = fx := by rw [db_uL_j (by decide), db_uL_1]
            exact l1.trans l2.symm
          · have l1 : (db_uL (db_uL b 669 2 fx) 669 3 fy).2 282 1 = fy := by rw [db_uL_n (by decide), db_uL_n (by decide), F4, db_p0_2, ← hs1, db_uI_2, db_uL_1]
            have l2 : (db_uL (db_uL b 669 2 fx) 669 3 fy).2 669 3 = fy := by rw [db_uL_1]
            exact l1.trans l2.symm
end DBMN
