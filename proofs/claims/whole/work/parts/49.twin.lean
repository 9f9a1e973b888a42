/-! ALL HEARERS; TWIN -/
/-- unsigned -/
def db_sq (c : db_C) (d : Nat) (p q : Int32) : Int32 := db_su c (db_dr c d) (db_n c (127 + d)) p q (db_n c (127 + d))
theorem db_rq_sq {c : db_C} {d : Nat} {p q : Int32} : db_rq c d p q = if db_ow c p q then -(db_sq c d p q) else db_sq c d p q := rfl
theorem db_rq_eq {c : db_C} {a b : Nat} {p q : Int32} : decide (db_rq c a p q = db_rq c b p q) = decide (db_sq c a p q = db_sq c b p q) := by
  rw [decide_eq_decide, db_rq_sq, db_rq_sq]
  cases db_ow c p q
  · exact Iff.rfl
  · exact Int32.neg_inj
/-- the class's hearers: S seasons and none -/
def db_Hr (c : db_C) (s : db_S) (H : Nat) : Prop := ∀ h, h < H → s.1 280 h = db_of c (db_pm (h / (db_n c 2 + 1))) (db_pm (h % (db_n c 2 + 1))) ∧ s.1 281 h = (if db_ow c (db_pm (h / (db_n c 2 + 1))) (db_pm (h % (db_n c 2 + 1))) then -(nI 1) else nI 1)
theorem db_dm {n i j : Nat} (hn : n ≤ 3) (hj : j < n + 1) : (i * (n + 1) + j) / (n + 1) = i ∧ (i * (n + 1) + j) % (n + 1) = j := by
  rcases (by omega : n = 0 ∨ n = 1 ∨ n = 2 ∨ n = 3) with rfl | rfl | rfl | rfl <;> omega
theorem db_md {n h H : Nat} (hn : n ≤ 3) (hh : h < H * (n + 1)) : h / (n + 1) < H ∧ h % (n + 1) < n + 1 := by
  rcases (by omega : n = 0 ∨ n = 1 ∨ n = 2 ∨ n = 3) with rfl | rfl | rfl | rfl <;> omega
theorem db_hb {n i j m : Nat} (hn : n ≤ 3) (hm : m ≤ 4) (hi : i < m + 1) (hj : j < n + 1) : i * (n + 1) + j < 20 := by
  rcases (by omega : n = 0 ∨ n = 1 ∨ n = 2 ∨ n = 3) with rfl | rfl | rfl | rfl <;> omega
section DBW1
variable {U : Nat} {s : db_S} {c : db_C} {w : Nat → Int64} {v x y z p q : Int32}
theorem db_171 (hR : db_BR 20 s c w) (hO : db_Ok U c) : dz_T (db_f171 s) (fun z => db_Hr c z ((db_n c 1 + 1) * (db_n c 2 + 1)) ∧ z.1 274 10 = nI ((db_n c 1 + 1) * (db_n c 2 + 1)) ∧ (∀ a, a ≠ 274 → a ≠ 280 → a ≠ 281 → z.1 a = s.1 a) ∧ (∀ j, j ≠ 10 → z.1 274 j = s.1 274 j) ∧ z.2 = s.2) := by
  have k1 := hO.1.2.1
  have k2 := hO.1.2.2.1
  have j1 := k1.2
  have j2 := k2.2
  unfold db_f171
  simp (disch := omega) only [db_lit, eq_self, db_pI_e, db_pL_e, db_bind_some, db_bd_some, nI_add, pk_mul, nI_toInt, db_m1_t, dz_cn, Int.ofNat_le, Int.ofNat_lt, decide_true, decide_false, db_ct, db_cf, not_true_eq_false, not_false_eq_true, db_87e, db_37e, db_31e, db_28e, db_281e, db_211e, db_27, db_269w, db_litL, pk_lT, db_iL, db_p0_e, db_p0_n, db_p0_j, db_sub1, nI_eq, if_true, if_false, Bool.false_eq_true]
  have hRa : ∀ a : db_S, (∀ b, b ≠ 274 → b ≠ 280 → b ≠ 281 → a.1 b = s.1 b) → a.2 = s.2 → db_BR 20 a c w := fun a h1 h2 => db_BR_c hO (fun b b1 b2 b3 => h1 b (by omega) (by omega) (by omega)) (by rw [h2]) hR
  refine db_loop (L := fun n a i => db_f171_b7 n a (db_pm i)) (N := db_n c 1 + 1) (fun i z => db_Hr c z (i * (db_n c 2 + 1)) ∧ z.1 274 10 = nI (i * (db_n c 2 + 1)) ∧ (∀ a, a ≠ 274 → a ≠ 280 → a ≠ 281 → z.1 a = s.1 a) ∧ (∀ j, j ≠ 10 → z.1 274 j = s.1 274 j) ∧ z.2 = s.2) ?_ ?_ (n := db_FU) (by unfold db_FU; omega) ⟨fun h hh => absurd hh (by omega), by rw [Nat.zero_mul]; exact db_uI_1, fun a h1 _ _ => db_uI_n h1, fun j hj => db_uI_j hj, rfl⟩
  · rintro n a ⟨h1, h2, h3, h4, h5⟩
    show dz_T (db_f171_b7 (n + 1) a (db_pm (db_n c 1 + 1))) _
    rw [db_f171_b7]
    have hR2 := hRa a h3 h5
    simp (disch := omega) only [db_lit, eq_self, db_pI_e, db_pL_e, db_bind_some, db_bd_some, nI_add, pk_mul, nI_toInt, db_m1_t, dz_cn, Int.ofNat_le, Int.ofNat_lt, decide_true, decide_false, db_ct, db_cf, not_true_eq_false, not_false_eq_true, db_87e, db_37e, db_31e, db_28e, db_281e, db_211e, db_27, db_269w, db_litL, pk_lT, db_iL, db_p0_e, db_p0_n, db_p0_j, db_sub1, nI_eq, if_true, if_false, Bool.false_eq_true, db_g_21, db_21 hR2, k1.1, db_pm_ge, Nat.le_refl]
    exact ⟨_, rfl, h1, h2, h3, h4, h5⟩
  · rintro n i a hi ⟨h1, h2, h3, h4, h5⟩ hrec
    show dz_T (db_f171_b7 (n + 1) a (db_pm i)) _
    rw [db_f171_b7]
    have hR2 := hRa a h3 h5
    have h7 : ¬ db_n c 1 + 1 ≤ i := by omega
    simp (disch := omega) only [db_lit, eq_self, db_pI_e, db_pL_e, db_bind_some, db_bd_some, nI_add, pk_mul, nI_toInt, db_m1_t, dz_cn, Int.ofNat_le, Int.ofNat_lt, decide_true, decide_false, db_ct, db_cf, not_true_eq_false, not_false_eq_true, db_87e, db_37e, db_31e, db_28e, db_281e, db_211e, db_27, db_269w, db_litL, pk_lT, db_iL, db_p0_e, db_p0_n, db_p0_j, db_sub1, nI_eq, if_true, if_false, Bool.false_eq_true, db_g_21, db_21 hR2, k1.1, db_pm_ge, h7]
    have hpi := db_pm_O hi
    refine db_loop (L := fun m a j => db_f171_b22 (db_f171_b7 n) m a (db_pm i) (db_pm j)) (N := db_n c 2 + 1) (fun j z => db_Hr c z (i * (db_n c 2 + 1) + j) ∧ z.1 274 10 = nI (i * (db_n c 2 + 1) + j) ∧ (∀ a, a ≠ 274 → a ≠ 280 → a ≠ 281 → z.1 a = s.1 a) ∧ (∀ j, j ≠ 10 → z.1 274 j = s.1 274 j) ∧ z.2 = s.2) ?_ ?_ (n := db_FU) (by unfold db_FU; omega) ⟨h1, h2, h3, h4, h5⟩
    · rintro m a ⟨h1, h2, h3, h4, h5⟩
      show dz_T (db_f171_b22 (db_f171_b7 n) (m + 1) a (db_pm i) (db_pm (db_n c 2 + 1))) _
      rw [db_f171_b22]
      have hR2 := hRa a h3 h5
      simp (disch := omega) only [db_lit, eq_self, db_pI_e, db_pL_e, db_bind_some, db_bd_some, nI_add, pk_mul, nI_toInt, db_m1_t, dz_cn, Int.ofNat_le, Int.ofNat_lt, decide_true, decide_false, db_ct, db_cf, not_true_eq_false, not_false_eq_true, db_87e, db_37e, db_31e, db_28e, db_281e, db_211e, db_27, db_269w, db_litL, pk_lT, db_iL, db_p0_e, db_p0_n, db_p0_j, db_sub1, nI_eq, if_true, if_false, Bool.false_eq_true, db_g_21, db_21 hR2, k2.1, db_pm_ge, Nat.le_refl, db_f171_b96, db_pm_s]
      refine hrec a ⟨?_, ?_, h3, h4, h5⟩
      · rw [Nat.succ_mul]; exact h1
      · rw [Nat.succ_mul]; exact h2
    · rintro m j a hj ⟨h1, h2, h3, h4, h5⟩ hrec2
      show dz_T (db_f171_b22 (db_f171_b7 n) (m + 1) a (db_pm i) (db_pm j)) _
      rw [db_f171_b22]
      have hR2 := hRa a h3 h5
      have h8 : ¬ db_n c 2 + 1 ≤ j := by omega
      have hH := db_hb j2 j1 hi hj
      have h9 : ¬ 20 ≤ i * (db_n c 2 + 1) + j := by omega
      have hqj := db_pm_O hj
      obtain ⟨dm1, dm2⟩ := @db_dm (db_n c 2) i j j2 hj
      generalize hHe : i * (db_n c 2 + 1) + j = H at h1 h2 hH h9 dm1 dm2
      simp (disch := omega) only [db_lit, eq_self, db_pI_e, db_pL_e, db_bind_some, db_bd_some, nI_add, pk_mul, nI_toInt, db_m1_t, dz_cn, Int.ofNat_le, Int.ofNat_lt, decide_true, decide_false, db_ct, db_cf, not_true_eq_false, not_false_eq_true, db_87e, db_37e, db_31e, db_28e, db_281e, db_211e, db_27, db_269w, db_litL, pk_lT, db_iL, db_p0_e, db_p0_n, db_p0_j, db_sub1, nI_eq, if_true, if_false, Bool.false_eq_true, db_g_21, db_21 hR2, k2.1, db_pm_ge, h8, h2, h9, db_129 hR2 hO, db_h_280]
      have hR3 := hRa (db_uI a 280 H (db_of c (db_pm i) (db_pm j))) (fun b b1 b2 b3 => by rw [db_uI_n b2]; exact h3 b b1 b2 b3) h5
      have e10 : (db_uI a 280 H (db_of c (db_pm i) (db_pm j))).1 274 10 = nI H := by rw [db_uI_n (by decide)]; exact h2
      simp (disch := omega) only [db_lit, eq_self, db_pI_e, db_pL_e, db_bind_some, db_bd_some, nI_add, pk_mul, nI_toInt, db_m1_t, dz_cn, Int.ofNat_le, Int.ofNat_lt, decide_true, decide_false, db_ct, db_cf, not_true_eq_false, not_false_eq_true, db_87e, db_37e, db_31e, db_28e, db_281e, db_211e, db_27, db_269w, db_litL, pk_lT, db_iL, db_p0_e, db_p0_n, db_p0_j, db_sub1, nI_eq, if_true, if_false, Bool.false_eq_true, db_128 hR3 hO hpi hqj, e10, db_h_281, db_pm_s]
      refine hrec2 _ ⟨?_, ?_, fun b b1 b2 b3 => ?_, fun l hl => ?_, ?_⟩
      · rw [show i * (db_n c 2 + 1) + (j + 1) = H + 1 by omega]
        intro h hh
        rw [db_uI_n (show 280 ≠ 274 by decide), db_uI_n (show 280 ≠ 281 by decide), db_uI_n (show 281 ≠ 274 by decide)]
        by_cases e : h = H
        · subst e
          rw [db_uI_1, db_uI_1, dm1, dm2]
          exact ⟨rfl, rfl⟩
        · rw [db_uI_j e, db_uI_j e, db_uI_n (show 281 ≠ 280 by decide)]
          exact h1 h (by omega)
      · rw [db_uI_1, db_uI_n (by decide), e10, nI_add, show i * (db_n c 2 + 1) + (j + 1) = H + 1 by omega]
      · rw [db_uI_n b1, db_uI_n b3, db_uI_n b2]; exact h3 b b1 b2 b3
      · rw [db_uI_j hl, db_uI_n (by decide), db_uI_n (by decide)]; exact h4 l hl
      · rw [db_uI_2, db_uI_2, db_uI_2]; exact h5
/-- a dream's things, for one hearer -/
theorem db_130d (hR : db_BR 20 s c w) (hO : db_Ok U c) (hU : U ≤ 1000000000) {d : Nat} (hd : d < db_n c 5) : dz_T (db_f130 s (51 + d) (nI (db_n c (127 + d))) (db_of c p q)) (fun z => z.1 = db_sq c d p q ∧ db_F1 273 s z.2) := by
  have hd8 := hO.1.2.2.2.2.2.2
  have hT2 := hO.1.1.2
  obtain ⟨⟨hL, hL1⟩, hT, -⟩ := hO.2.2.2.1 d hd
  have hL6 := hL.2
  obtain ⟨a1, -, -, a4⟩ := db_59 hR hd
  have hkl := db_kl_51 d (by omega)
  have hrow : ∀ k, k < db_n c (127 + d) → s.1 (51 + d) k = db_dr c d k := a4
  have hg : ∀ k, k < db_n c (127 + d) → s.1 (51 + d) k = nI (db_dr c d k).toNatClampNeg ∧ (db_dr c d k).toNatClampNeg < db_n c 0 := by
    intro k hk
    obtain ⟨t, ht, e⟩ := hT k hk
    rw [hrow k hk]
    unfold db_dr
    rw [e, nI_clamp (by omega)]
    exact ⟨rfl, ht⟩
  refine db_T_mono (db_130 (p := p) (q := q) hR hO hU hkl.1 (by rw [hkl.2]; omega) (by rw [hkl.2]; decide) (by omega) (by omega) hg) fun z hz => ⟨?_, hz.2.1⟩
  rw [hz.1, db_su_row hrow (Nat.le_refl _)]
  rfl
/-- two dreams differ for some hearer -/
def db_tw (c : db_C) (a b : Nat) : Bool := db_ex (fun i => db_ex (fun j => !decide (db_rq c a (db_pm i) (db_pm j) = db_rq c b (db_pm i) (db_pm j))) (db_n c 2 + 1)) (db_n c 1 + 1)
theorem db_tw_comm {a b : Nat} : db_tw c a b = db_tw c b a := by
  unfold db_tw
  refine db_ex_cong fun i _ => db_ex_cong fun j _ => ?_
  rw [show decide (db_rq c a (db_pm i) (db_pm j) = db_rq c b (db_pm i) (db_pm j)) = decide (db_rq c b (db_pm i) (db_pm j) = db_rq c a (db_pm i) (db_pm j)) from decide_eq_decide.mpr ⟨Eq.symm, Eq.symm⟩]
theorem db_tw_h {a b : Nat} (j2 : db_n c 2 ≤ 3) : db_tw c a b = db_ex (fun h => !decide (db_sq c a (db_pm (h / (db_n c 2 + 1))) (db_pm (h % (db_n c 2 + 1))) = db_sq c b (db_pm (h / (db_n c 2 + 1))) (db_pm (h % (db_n c 2 + 1))))) ((db_n c 1 + 1) * (db_n c 2 + 1)) := by
  unfold db_tw
  rw [Bool.eq_iff_iff, db_ex_iff, db_ex_iff]
  constructor
  · rintro ⟨i, hi, h⟩
    obtain ⟨j, hj, h⟩ := db_ex_iff.mp h
    obtain ⟨dm1, dm2⟩ := @db_dm (db_n c 2) i j j2 hj
    refine ⟨i * (db_n c 2 + 1) + j, ?_, ?_⟩
    · rcases (by omega : db_n c 2 = 0 ∨ db_n c 2 = 1 ∨ db_n c 2 = 2 ∨ db_n c 2 = 3) with e | e | e | e <;> rw [e] at hj ⊢ <;> omega
    · rw [dm1, dm2, ← db_rq_eq]; exact h
  · rintro ⟨h, hh, hp⟩
    obtain ⟨m1, m2⟩ := db_md j2 hh
    refine ⟨_, m1, db_ex_iff.mpr ⟨_, m2, ?_⟩⟩
    rw [db_rq_eq]; exact hp
theorem db_183 (hR : db_BR 20 s c w) (hO : db_Ok U c) (hU : U ≤ 1000000000) (hH : db_Hr c s ((db_n c 1 + 1) * (db_n c 2 + 1))) (hHn : s.1 274 10 = nI ((db_n c 1 + 1) * (db_n c 2 + 1))) {a b : Nat} (ha : a < db_n c 5) (hb : b < db_n c 5) : dz_T (db_f183 s (nI a) (nI b)) (fun z => z.1 = (!db_tw c a b) ∧ db_F1 273 s z.2) := by
  have j1 := hO.1.2.1.2
  have j2 := hO.1.2.2.1.2
  have j5 := hO.1.2.2.2.2.2.2
  have hN : (db_n c 1 + 1) * (db_n c 2 + 1) ≤ 20 := by
    rcases (by omega : db_n c 2 = 0 ∨ db_n c 2 = 1 ∨ db_n c 2 = 2 ∨ db_n c 2 = 3) with e | e | e | e <;> rw [e] <;> omega
  have hLa := (hO.2.2.2.1 a ha).1.1
  have hLb := (hO.2.2.2.1 b hb).1.1
  rw [db_tw_h j2]
  generalize hNe : (db_n c 1 + 1) * (db_n c 2 + 1) = N at *
  unfold db_f183
  refine db_loop (L := fun n z k => db_f183_b2 n z (nI a) (nI b) (nI k)) (N := N) (fun k z => db_F1 273 s z ∧ ∀ h, h < k → (!decide (db_sq c a (db_pm (h / (db_n c 2 + 1))) (db_pm (h % (db_n c 2 + 1))) = db_sq c b (db_pm (h / (db_n c 2 + 1))) (db_pm (h % (db_n c 2 + 1))))) = false) ?_ ?_ (n := db_FU) (by unfold db_FU; omega) ⟨db_F1_r, lt_0⟩
  · rintro n z ⟨h1, h2⟩
    show dz_T (db_f183_b2 (n + 1) z (nI a) (nI b) (nI N)) _
    rw [db_f183_b2]
    have e10 : z.1 274 10 = nI N := by rw [h1.1 274 (by decide)]; exact hHn
    simp (disch := omega) only [db_lit, eq_self, db_pI_e, db_pL_e, db_bind_some, db_bd_some, nI_add, pk_mul, nI_toInt, db_m1_t, dz_cn, Int.ofNat_le, Int.ofNat_lt, decide_true, decide_false, db_ct, db_cf, not_true_eq_false, not_false_eq_true, db_87e, db_37e, db_31e, db_28e, db_281e, db_211e, db_27, db_269w, db_litL, pk_lT, db_iL, db_p0_e, db_p0_n, db_p0_j, db_sub1, nI_eq, if_true, if_false, Bool.false_eq_true, e10, Nat.le_refl]
    exact ⟨_, rfl, by rw [db_ex_no.mpr h2]; rfl, h1⟩
  · rintro n k z hk ⟨h1, h2⟩ hrec
    show dz_T (db_f183_b2 (n + 1) z (nI a) (nI b) (nI k)) _
    rw [db_f183_b2]
    have e10 : z.1 274 10 = nI N := by rw [h1.1 274 (by decide)]; exact hHn
    have h7 : ¬ N ≤ k := by omega
    have hR2 := db_BR_F1 hO (by omega) h1 hR
    have e280 : z.1 280 k = _ := (congrFun (h1.1 280 (by decide)) k).trans (hH k hk).1
    simp (disch := omega) only [db_lit, eq_self, db_pI_e, db_pL_e, db_bind_some, db_bd_some, nI_add, pk_mul, nI_toInt, db_m1_t, dz_cn, Int.ofNat_le, Int.ofNat_lt, decide_true, decide_false, db_ct, db_cf, not_true_eq_false, not_false_eq_true, db_87e, db_37e, db_31e, db_28e, db_281e, db_211e, db_27, db_269w, db_litL, pk_lT, db_iL, db_p0_e, db_p0_n, db_p0_j, db_sub1, nI_eq, if_true, if_false, Bool.false_eq_true, e10, h7, db_q_50, db_g_59, (db_59 hR2 ha).1, hLa.1, db_g_280, e280]
    refine db_T_gd (db_130d (p := db_pm (k / (db_n c 2 + 1))) (q := db_pm (k % (db_n c 2 + 1))) hR2 hO hU ha) fun r z2 hr => ?_
    obtain ⟨r1, r2⟩ := hr
    dsimp only at r1 r2
    subst r1
    have h1' := db_F1_t h1 r2
    have hR3 := db_BR_F1 hO (by omega) h1' hR
    have e280' : z2.1 280 k = _ := (congrFun (h1'.1 280 (by decide)) k).trans (hH k hk).1
    simp (disch := omega) only [db_lit, eq_self, db_pI_e, db_pL_e, db_bind_some, db_bd_some, nI_add, pk_mul, nI_toInt, db_m1_t, dz_cn, Int.ofNat_le, Int.ofNat_lt, decide_true, decide_false, db_ct, db_cf, not_true_eq_false, not_false_eq_true, db_87e, db_37e, db_31e, db_28e, db_281e, db_211e, db_27, db_269w, db_litL, pk_lT, db_iL, db_p0_e, db_p0_n, db_p0_j, db_sub1, nI_eq, if_true, if_false, Bool.false_eq_true, db_g_59, (db_59 hR3 hb).1, hLb.1, db_g_280, e280']
    refine db_T_gd (db_130d (p := db_pm (k / (db_n c 2 + 1))) (q := db_pm (k % (db_n c 2 + 1))) hR3 hO hU hb) fun r z3 hr => ?_
    obtain ⟨r1, r3⟩ := hr
    dsimp only at r1 r3
    subst r1
    by_cases e : db_sq c a (db_pm (k / (db_n c 2 + 1))) (db_pm (k % (db_n c 2 + 1))) = db_sq c b (db_pm (k / (db_n c 2 + 1))) (db_pm (k % (db_n c 2 + 1)))
    · rw [decide_eq_true e, db_ct]
      exact hrec z3 ⟨db_F1_t h1' r3, lt_s h2 (by rw [decide_eq_true e]; rfl)⟩
    · rw [decide_eq_false e, db_cf]
      refine ⟨_, rfl, ?_, db_F1_t h1' r3⟩
      rw [db_ex_iff.mpr ⟨k, hk, by rw [decide_eq_false e]; rfl⟩]; rfl
theorem db_361 (hc : db_A s c) (hO : db_Ok U c) {a b : Nat} (ha : a < db_n c 5) (hb : b < db_n c 5) : dz_T (db_f361 s (nI a) (nI b)) (fun z => z.1 = (!db_tw c a b) ∧ db_Em s z.2 ∧ db_A z.2 c) := by
  have k1 := hO.1.2.1
  have k2 := hO.1.2.2.1
  have j1 := k1.2
  have j2 := k2.2
  unfold db_f361
  refine db_loop (L := fun n z i => db_f361_b2 n z (nI a) (nI b) (db_pm i)) (N := db_n c 1 + 1) (fun k z => (db_Em s z ∧ db_A z c) ∧ ∀ i, i < k → db_ex (fun j => !decide (db_rq c a (db_pm i) (db_pm j) = db_rq c b (db_pm i) (db_pm j))) (db_n c 2 + 1) = false) ?_ ?_ (n := db_FU) (by unfold db_FU; omega) ⟨⟨db_Em_r, hc⟩, lt_0⟩
  · rintro n z ⟨⟨h1, h1'⟩, h2⟩
    show dz_T (db_f361_b2 (n + 1) z (nI a) (nI b) (db_pm (db_n c 1 + 1))) _
    rw [db_f361_b2]
    simp (disch := omega) only [db_lit, eq_self, db_pI_e, db_pL_e, db_bind_some, db_bd_some, nI_add, pk_mul, nI_toInt, db_m1_t, dz_cn, Int.ofNat_le, Int.ofNat_lt, decide_true, decide_false, db_ct, db_cf, not_true_eq_false, not_false_eq_true, db_87e, db_37e, db_31e, db_28e, db_281e, db_211e, db_27, db_269w, db_litL, pk_lT, db_iL, db_p0_e, db_p0_n, db_p0_j, db_sub1, nI_eq, if_true, if_false, Bool.false_eq_true, db_g_674, h1', k1.1, db_pm_ge, Nat.le_refl]
    exact ⟨_, rfl, by unfold db_tw; rw [db_ex_no.mpr h2]; rfl, h1, h1'⟩
  · rintro n i z hi ⟨⟨h1, h1'⟩, h2⟩ hrec
    show dz_T (db_f361_b2 (n + 1) z (nI a) (nI b) (db_pm i)) _
    rw [db_f361_b2]
    have h7 : ¬ db_n c 1 + 1 ≤ i := by omega
    simp (disch := omega) only [db_lit, eq_self, db_pI_e, db_pL_e, db_bind_some, db_bd_some, nI_add, pk_mul, nI_toInt, db_m1_t, dz_cn, Int.ofNat_le, Int.ofNat_lt, decide_true, decide_false, db_ct, db_cf, not_true_eq_false, not_false_eq_true, db_87e, db_37e, db_31e, db_28e, db_281e, db_211e, db_27, db_269w, db_litL, pk_lT, db_iL, db_p0_e, db_p0_n, db_p0_j, db_sub1, nI_eq, if_true, if_false, Bool.false_eq_true, db_g_674, h1', k1.1, db_pm_ge, h7]
    refine db_loop (L := fun m z j => db_f361_b15 (db_f361_b2 n) m z (nI a) (nI b) (db_pm i) (db_pm j)) (N := db_n c 2 + 1) (fun k z => (db_Em s z ∧ db_A z c) ∧ ∀ j, j < k → (!decide (db_rq c a (db_pm i) (db_pm j) = db_rq c b (db_pm i) (db_pm j))) = false) ?_ ?_ (n := db_FU) (by unfold db_FU; omega) ⟨⟨h1, h1'⟩, lt_0⟩
    · rintro m z ⟨⟨h1, h1'⟩, h3⟩
      show dz_T (db_f361_b15 (db_f361_b2 n) (m + 1) z (nI a) (nI b) (db_pm i) (db_pm (db_n c 2 + 1))) _
      rw [db_f361_b15]
      simp (disch := omega) only [db_lit, eq_self, db_pI_e, db_pL_e, db_bind_some, db_bd_some, nI_add, pk_mul, nI_toInt, db_m1_t, dz_cn, Int.ofNat_le, Int.ofNat_lt, decide_true, decide_false, db_ct, db_cf, not_true_eq_false, not_false_eq_true, db_87e, db_37e, db_31e, db_28e, db_281e, db_211e, db_27, db_269w, db_litL, pk_lT, db_iL, db_p0_e, db_p0_n, db_p0_j, db_sub1, nI_eq, if_true, if_false, Bool.false_eq_true, db_g_674, h1', k2.1, db_pm_ge, Nat.le_refl, db_pm_s]
      exact hrec z ⟨⟨h1, h1'⟩, lt_s h2 (db_ex_no.mpr h3)⟩
    · rintro m j z hj ⟨⟨h1, h1'⟩, h3⟩ hrec2
      show dz_T (db_f361_b15 (db_f361_b2 n) (m + 1) z (nI a) (nI b) (db_pm i) (db_pm j)) _
      rw [db_f361_b15]
      have h8 : ¬ db_n c 2 + 1 ≤ j := by omega
      simp (disch := omega) only [db_lit, eq_self, db_pI_e, db_pL_e, db_bind_some, db_bd_some, nI_add, pk_mul, nI_toInt, db_m1_t, dz_cn, Int.ofNat_le, Int.ofNat_lt, decide_true, decide_false, db_ct, db_cf, not_true_eq_false, not_false_eq_true, db_87e, db_37e, db_31e, db_28e, db_281e, db_211e, db_27, db_269w, db_litL, pk_lT, db_iL, db_p0_e, db_p0_n, db_p0_j, db_sub1, nI_eq, if_true, if_false, Bool.false_eq_true, db_g_674, h1', k2.1, db_pm_ge, h8]
      refine db_T_gd (db_m316 h1' hO ha (db_pm_O hi) (db_pm_O hj)) fun r z2 hr => ?_
      obtain ⟨r1, ⟨r2, -, r3⟩, -⟩ := hr
      dsimp only at r1 r2 r3
      subst r1
      refine db_T_gd (db_m316 r3 hO hb (db_pm_O hi) (db_pm_O hj)) fun r z3 hr => ?_
      obtain ⟨r1, ⟨t2, -, t3⟩, -⟩ := hr
      dsimp only at r1 t2 t3
      subst r1
      have hE := db_Em_t h1 (db_Em_t r2 t2)
      by_cases e : db_rq c a (db_pm i) (db_pm j) = db_rq c b (db_pm i) (db_pm j)
      · rw [decide_eq_true e, db_ct, db_pm_s]
        exact hrec2 z3 ⟨⟨hE, t3⟩, lt_s h3 (by rw [decide_eq_true e]; rfl)⟩
      · rw [decide_eq_false e, db_cf]
        refine ⟨_, rfl, ?_, hE, t3⟩
        have htw : db_tw c a b = true := by
          unfold db_tw
          exact db_ex_iff.mpr ⟨i, hi, db_ex_iff.mpr ⟨j, hj, by rw [decide_eq_false e]; rfl⟩⟩
        rw [htw]; rfl
theorem db_k47 (hI : db_Inv U s) (hU : U ≤ 1000000000) : dz_G U s (fun s => db_f181 s x) (fun s => db_f360 s x) := by
  obtain ⟨hO, hR, -⟩ := db_cur hI
  have k5 := hO.1.2.2.2.2.2
  have j5 := k5.2
  generalize hcc : db_bk s 0 = c at *
  generalize hww : db_bw s 0 = w at *
  cases h : db_is x (db_n c 5) with
  | false =>
    refine db_Gn 2 hI ?_ fun s1 hS hA => ?_
    · unfold db_f181
      simp (disch := omega) only [db_lit, eq_self, db_pI_e, db_pL_e, db_bind_some, db_bd_some, nI_add, pk_mul, nI_toInt, db_m1_t, dz_cn, Int.ofNat_le, Int.ofNat_lt, decide_true, decide_false, db_ct, db_cf, not_true_eq_false, not_false_eq_true, db_87e, db_37e, db_31e, db_28e, db_281e, db_211e, db_27, db_269w, db_litL, pk_lT, db_iL, db_p0_e, db_p0_n, db_p0_j, db_sub1, nI_eq, if_true, if_false, Bool.false_eq_true, db_103 hR hO, h]
    · rw [hcc] at hA
      unfold db_f360
      simp (disch := omega) only [db_lit, eq_self, db_pI_e, db_pL_e, db_bind_some, db_bd_some, nI_add, pk_mul, nI_toInt, db_m1_t, dz_cn, Int.ofNat_le, Int.ofNat_lt, decide_true, decide_false, db_ct, db_cf, not_true_eq_false, not_false_eq_true, db_87e, db_37e, db_31e, db_28e, db_281e, db_211e, db_27, db_269w, db_litL, pk_lT, db_iL, db_p0_e, db_p0_n, db_p0_j, db_sub1, nI_eq, if_true, if_false, Bool.false_eq_true, db_297 (db_p0_A hA) k5, h]
  | true =>
    obtain ⟨d, hd, rfl⟩ := db_is_t h
    have hcl : dz_T (db_f182 s (nI d)) (fun z => z.1 = db_o (db_fst (fun k => !decide (k = d) && !db_tw c k d) (db_n c 5)) ∧ db_Ec s z.2) := by
      unfold db_f182
      refine db_T_go (db_171 hR hO) fun s2 hs => ?_
      obtain ⟨g1, g2, g3, g4, g5⟩ := hs
      have hR2 : db_BR 20 s2 c w := db_BR_c hO (fun b b1 b2 b3 => g3 b (by omega) (by omega) (by omega)) (by rw [g5]) hR
      have hE2 : db_Ec s s2 := fun a j ha => by
        refine ⟨?_, by rw [g5]⟩
        unfold db_ec at ha
        by_cases e : a = 274
        · subst e; exact g4 j (by omega)
        · rw [g3 a e (by omega) (by omega)]
      refine db_loop (L := fun n z k => db_f182_b6 n z (nI d) (nI k)) (N := db_n c 5) (fun k z => db_F1 273 s2 z ∧ ∀ i, i < k → (!decide (i = d) && !db_tw c i d) = false) ?_ ?_ (n := db_FU) (by unfold db_FU; omega) ⟨db_F1_r, lt_0⟩
      · rintro n z ⟨h1, h2⟩
        show dz_T (db_f182_b6 (n + 1) z (nI d) (nI (db_n c 5))) _
        rw [db_f182_b6]
        have hR3 := db_BR_F1 hO (by omega) h1 hR2
        simp (disch := omega) only [db_lit, eq_self, db_pI_e, db_pL_e, db_bind_some, db_bd_some, nI_add, pk_mul, nI_toInt, db_m1_t, dz_cn, Int.ofNat_le, Int.ofNat_lt, decide_true, decide_false, db_ct, db_cf, not_true_eq_false, not_false_eq_true, db_87e, db_37e, db_31e, db_28e, db_281e, db_211e, db_27, db_269w, db_litL, pk_lT, db_iL, db_p0_e, db_p0_n, db_p0_j, db_sub1, nI_eq, if_true, if_false, Bool.false_eq_true, db_g_21, db_21 hR3, k5.1, Nat.le_refl]
        exact ⟨_, rfl, by rw [db_fst_none.mpr h2]; rfl, db_Ec_t hE2 (db_F1_Ec h1 (fun j => by unfold db_ec; omega))⟩
      · rintro n k z hk ⟨h1, h2⟩ hrec
        show dz_T (db_f182_b6 (n + 1) z (nI d) (nI k)) _
        rw [db_f182_b6]
        have hR3 := db_BR_F1 hO (by omega) h1 hR2
        have h7 : ¬ db_n c 5 ≤ k := by omega
        unfold db_f182_b35
        by_cases e : k = d
        · subst e
          simp (disch := omega) only [db_lit, eq_self, db_pI_e, db_pL_e, db_bind_some, db_bd_some, nI_add, pk_mul, nI_toInt, db_m1_t, dz_cn, Int.ofNat_le, Int.ofNat_lt, decide_true, decide_false, db_ct, db_cf, not_true_eq_false, not_false_eq_true, db_87e, db_37e, db_31e, db_28e, db_281e, db_211e, db_27, db_269w, db_litL, pk_lT, db_iL, db_p0_e, db_p0_n, db_p0_j, db_sub1, nI_eq, if_true, if_false, Bool.false_eq_true, db_g_21, db_21 hR3, k5.1, h7]
          exact hrec z ⟨h1, lt_s h2 (by rw [decide_eq_true rfl]; rfl)⟩
        · simp (disch := omega) only [db_lit, eq_self, db_pI_e, db_pL_e, db_bind_some, db_bd_some, nI_add, pk_mul, nI_toInt, db_m1_t, dz_cn, Int.ofNat_le, Int.ofNat_lt, decide_true, decide_false, db_ct, db_cf, not_true_eq_false, not_false_eq_true, db_87e, db_37e, db_31e, db_28e, db_281e, db_211e, db_27, db_269w, db_litL, pk_lT, db_iL, db_p0_e, db_p0_n, db_p0_j, db_sub1, nI_eq, if_true, if_false, Bool.false_eq_true, db_g_21, db_21 hR3, k5.1, h7, e]
          refine db_T_gd (db_183 hR3 hO hU (fun h hh => by rw [h1.1 280 (by decide), h1.1 281 (by decide)]; exact g1 h hh) (by rw [h1.1 274 (by decide)]; exact g2) hk hd) fun r z2 hr => ?_
          obtain ⟨r1, r2⟩ := hr
          dsimp only at r1 r2
          subst r1
          cases ht : db_tw c k d with
          | false =>
            refine ⟨_, rfl, ?_, db_Ec_t hE2 (db_F1_Ec (db_F1_t h1 r2) (fun j => by unfold db_ec; omega))⟩
            rw [db_fst_some.mpr ⟨hk, by rw [decide_eq_false e, ht]; rfl, h2⟩]; rfl
          | true =>
            exact hrec z2 ⟨db_F1_t h1 r2, lt_s h2 (by rw [ht]; simp)⟩
    have hml : ∀ s2 : db_S, db_A s2 c → dz_T (db_f360_b26 db_FU s2 (nI d) (nI 0)) (fun z => ∃ a, db_Em s2 a ∧ ((db_fst (fun k => !decide (k = d) && !db_tw c k d) (db_n c 5) = none ∧ z.1 = -(nI 1) ∧ z.2 = db_uI a 669 0 (nI 8)) ∨ ∃ b, db_fst (fun k => !decide (k = d) && !db_tw c k d) (db_n c 5) = some b ∧ z.1 = nI b ∧ z.2 = a)) := by
      intro s2 hA2
      refine db_loop (L := fun n z k => db_f360_b26 n z (nI d) (nI k)) (N := db_n c 5) (fun k z => (db_Em s2 z ∧ db_A z c) ∧ ∀ i, i < k → (!decide (i = d) && !db_tw c i d) = false) ?_ ?_ (n := db_FU) (by unfold db_FU; omega) ⟨⟨db_Em_r, hA2⟩, lt_0⟩
      · rintro n z ⟨⟨h1, h1'⟩, h2⟩
        show dz_T (db_f360_b26 (n + 1) z (nI d) (nI (db_n c 5))) _
        rw [db_f360_b26]
        simp (disch := omega) only [db_lit, eq_self, db_pI_e, db_pL_e, db_bind_some, db_bd_some, nI_add, pk_mul, nI_toInt, db_m1_t, dz_cn, Int.ofNat_le, Int.ofNat_lt, decide_true, decide_false, db_ct, db_cf, not_true_eq_false, not_false_eq_true, db_87e, db_37e, db_31e, db_28e, db_281e, db_211e, db_27, db_269w, db_litL, pk_lT, db_iL, db_p0_e, db_p0_n, db_p0_j, db_sub1, nI_eq, if_true, if_false, Bool.false_eq_true, db_g_674, h1', k5.1, Nat.le_refl]
        exact ⟨_, rfl, z, h1, .inl ⟨db_fst_none.mpr h2, rfl, rfl⟩⟩
      · rintro n k z hk ⟨⟨h1, h1'⟩, h2⟩ hrec
        show dz_T (db_f360_b26 (n + 1) z (nI d) (nI k)) _
        rw [db_f360_b26]
        have h7 : ¬ db_n c 5 ≤ k := by omega
        unfold db_f360_b52
        by_cases e : k = d
        · subst e
          simp (disch := omega) only [db_lit, eq_self, db_pI_e, db_pL_e, db_bind_some, db_bd_some, nI_add, pk_mul, nI_toInt, db_m1_t, dz_cn, Int.ofNat_le, Int.ofNat_lt, decide_true, decide_false, db_ct, db_cf, not_true_eq_false, not_false_eq_true, db_87e, db_37e, db_31e, db_28e, db_281e, db_211e, db_27, db_269w, db_litL, pk_lT, db_iL, db_p0_e, db_p0_n, db_p0_j, db_sub1, nI_eq, if_true, if_false, Bool.false_eq_true, db_g_674, h1', k5.1, h7]
          exact hrec z ⟨⟨h1, h1'⟩, lt_s h2 (by rw [decide_eq_true rfl]; rfl)⟩
        · simp (disch := omega) only [db_lit, eq_self, db_pI_e, db_pL_e, db_bind_some, db_bd_some, nI_add, pk_mul, nI_toInt, db_m1_t, dz_cn, Int.ofNat_le, Int.ofNat_lt, decide_true, decide_false, db_ct, db_cf, not_true_eq_false, not_false_eq_true, db_87e, db_37e, db_31e, db_28e, db_281e, db_211e, db_27, db_269w, db_litL, pk_lT, db_iL, db_p0_e, db_p0_n, db_p0_j, db_sub1, nI_eq, if_true, if_false, Bool.false_eq_true, db_g_674, h1', k5.1, h7, e]
          refine db_T_gd (db_361 h1' hO hd hk) fun r z2 hr => ?_
          obtain ⟨r1, r2, r3⟩ := hr
          dsimp only at r1 r2 r3
          subst r1
          rw [db_tw_comm]
          cases ht : db_tw c k d with
          | false =>
            exact ⟨_, rfl, z2, db_Em_t h1 r2, .inr ⟨k, db_fst_some.mpr ⟨hk, by rw [decide_eq_false e, ht]; rfl, h2⟩, rfl, rfl⟩⟩
          | true =>
            exact hrec z2 ⟨⟨db_Em_t h1 r2, r3⟩, lt_s h2 (by rw [ht]; simp)⟩
    cases hm : db_fst (fun k => !decide (k = d) && !db_tw c k d) (db_n c 5) with
    | none =>
      refine db_Gq (-(nI 1)) (nI 8) hI ?_ fun s1 hS hA => ?_
      · unfold db_f181
        simp (disch := omega) only [db_lit, eq_self, db_pI_e, db_pL_e, db_bind_some, db_bd_some, nI_add, pk_mul, nI_toInt, db_m1_t, dz_cn, Int.ofNat_le, Int.ofNat_lt, decide_true, decide_false, db_ct, db_cf, not_true_eq_false, not_false_eq_true, db_87e, db_37e, db_31e, db_28e, db_281e, db_211e, db_27, db_269w, db_litL, pk_lT, db_iL, db_p0_e, db_p0_n, db_p0_j, db_sub1, nI_eq, if_true, if_false, Bool.false_eq_true, db_103 hR hO, h]
        refine db_T_gd hcl fun r a hr => ?_
        obtain ⟨r1, r2⟩ := hr
        dsimp only at r1 r2
        rw [hm] at r1
        rw [decide_eq_false (fun g => g r1), db_cf]
        exact ⟨_, rfl, rfl, db_Sc_u r2⟩
      · rw [hcc] at hA
        unfold db_f360
        simp (disch := omega) only [db_lit, eq_self, db_pI_e, db_pL_e, db_bind_some, db_bd_some, nI_add, pk_mul, nI_toInt, db_m1_t, dz_cn, Int.ofNat_le, Int.ofNat_lt, decide_true, decide_false, db_ct, db_cf, not_true_eq_false, not_false_eq_true, db_87e, db_37e, db_31e, db_28e, db_281e, db_211e, db_27, db_269w, db_litL, pk_lT, db_iL, db_p0_e, db_p0_n, db_p0_j, db_sub1, nI_eq, if_true, if_false, Bool.false_eq_true, db_297 (db_p0_A hA) k5, h]
        refine db_T_mono (hml _ (db_p0_A hA)) fun z hz => ?_
        obtain ⟨a, a1, ⟨-, a2, a3⟩ | ⟨b, b1, -⟩⟩ := hz
        · exact ⟨a2, by rw [a3]; exact db_Sm_u a1⟩
        · rw [hm] at b1; cases b1
    | some b =>
      have hb := db_fst_lt hm
      refine db_Gq (nI b) (nI 0) hI ?_ fun s1 hS hA => ?_
      · unfold db_f181
        simp (disch := omega) only [db_lit, eq_self, db_pI_e, db_pL_e, db_bind_some, db_bd_some, nI_add, pk_mul, nI_toInt, db_m1_t, dz_cn, Int.ofNat_le, Int.ofNat_lt, decide_true, decide_false, db_ct, db_cf, not_true_eq_false, not_false_eq_true, db_87e, db_37e, db_31e, db_28e, db_281e, db_211e, db_27, db_269w, db_litL, pk_lT, db_iL, db_p0_e, db_p0_n, db_p0_j, db_sub1, nI_eq, if_true, if_false, Bool.false_eq_true, db_103 hR hO, h]
        refine db_T_gd hcl fun r a hr => ?_
        obtain ⟨r1, r2⟩ := hr
        dsimp only at r1 r2
        rw [hm] at r1
        have r1 : r = nI b := r1
        rw [decide_eq_true (by rw [r1, db_m1_ne (by omega)]; exact id), db_ct]
        exact ⟨_, rfl, r1, db_Sc_u r2⟩
      · rw [hcc] at hA
        unfold db_f360
        simp (disch := omega) only [db_lit, eq_self, db_pI_e, db_pL_e, db_bind_some, db_bd_some, nI_add, pk_mul, nI_toInt, db_m1_t, dz_cn, Int.ofNat_le, Int.ofNat_lt, decide_true, decide_false, db_ct, db_cf, not_true_eq_false, not_false_eq_true, db_87e, db_37e, db_31e, db_28e, db_281e, db_211e, db_27, db_269w, db_litL, pk_lT, db_iL, db_p0_e, db_p0_n, db_p0_j, db_sub1, nI_eq, if_true, if_false, Bool.false_eq_true, db_297 (db_p0_A hA) k5, h]
        refine db_T_mono (hml _ (db_p0_A hA)) fun z hz => ?_
        obtain ⟨a, a1, ⟨a2, -⟩ | ⟨b', b1, b2, b3⟩⟩ := hz
        · rw [hm] at a2; cases a2
        · rw [hm] at b1; cases b1
          exact ⟨b2, by rw [b3]; exact db_Sm_0 a1⟩
end DBW1
