/-! SHORTEST, LUCKY -/
theorem db_cI_n {s : db_S} {a d L : Nat} (ha : db_ka a = 1) (hd : db_ka d = 1) (la : db_la a = L) (ld : db_la d = L) (hL : L ≤ 1000) : db_cI s a (nI 0) d (nI 0) (nI L) = some ((fun b => cond (Nat.beq b d) (va_cpy (s.1 a) (s.1 d) 0 0 L) (s.1 b)), s.2) := by
  unfold db_cI
  have e0 : (nI 0).toNatClampNeg = 0 := nI_clamp (by decide)
  have eL : (nI L).toNatClampNeg = L := nI_clamp (by omega)
  have p0 : ¬ nI 0 < 0 := nI_pos (by decide)
  have pL : ¬ nI L < 0 := nI_pos (by omega)
  rw [ha, hd, la, ld, e0, eL, decide_eq_false p0, decide_eq_false pL, Nat.zero_add, show Nat.ble L L = true from Nat.ble_eq.mpr (Nat.le_refl L)]
  rfl
/-- a row copied -/
theorem db_83 {s : db_S} {a d L : Nat} (ha : db_ka a = 1) (hd : db_ka d = 1) (la : db_la a = L) (ld : db_la d = L) (na : db_ln a = some (nI L)) (nd : db_ln d = some (nI L)) (hL : L ≤ 1000) : ∃ z, db_f83 s a d = some z ∧ db_F1 d s z ∧ ∀ j, j < L → z.1 d j = s.1 a j := by
  refine ⟨((fun b => cond (Nat.beq b d) (va_cpy (s.1 a) (s.1 d) 0 0 L) (s.1 b)), s.2), ?_, ⟨fun b hb => ?_, ?_⟩, fun j hj => ?_⟩
  · unfold db_f83
    simp (disch := omega) only [db_lit, eq_self, db_pI_e, db_pL_e, db_bind_some, db_bd_some, nI_add, pk_mul, nI_toInt, db_m1_t, dz_cn, Int.ofNat_le, Int.ofNat_lt, decide_true, decide_false, db_ct, db_cf, not_true_eq_false, not_false_eq_true, na, nd]
    rw [show (if nI L < nI L then nI L else nI L) = nI L by split <;> rfl, db_cI_n ha hd la ld hL]
    rfl
  · show cond (Nat.beq b d) _ _ = _
    rw [db_beq_ne hb]; rfl
  · rfl
  · show (cond (Nat.beq d d) (va_cpy (s.1 a) (s.1 d) 0 0 L) (s.1 d)) j = _
    rw [Nat.beq_refl]
    show va_cpy (s.1 a) (s.1 d) 0 0 L j = _
    rw [pk_cpy_in (Nat.zero_le j) (by omega)]
    simp
/-- a row as a list -/
def db_rl (n : Nat) (g : Nat → Nat) : List Int32 := (List.range n).map fun k => nI (g k)
theorem db_rl_len {n : Nat} {g : Nat → Nat} : (db_rl n g).length = n := by unfold db_rl; rw [List.length_map, List.length_range]
theorem db_rl_get {n k : Nat} {g : Nat → Nat} (hk : k < n) : (db_rl n g).getD k 0 = nI (g k) := by
  unfold db_rl
  rw [List.getD_eq_getElem?_getD, List.getElem?_map, List.getElem?_range hk]
  rfl
theorem db_rl_s {n : Nat} {g : Nat → Nat} : db_rl (n + 1) g = db_rl n g ++ [nI (g n)] := by
  unfold db_rl
  rw [List.range_succ, List.map_append]
  rfl
/-- the first length with a row, the first such row -/
def db_s4 (S : Nat → Option Nat) : Nat → Option (Nat × Nat)
  | 0 => none
  | m + 1 => match db_s4 S m with
    | some r => some r
    | none => match S (m + 1) with
      | some i => some (m + 1, i)
      | none => none
theorem db_s4_k {S : Nat → Option Nat} {r : Nat × Nat} {k : Nat} (h : db_s4 S k = some r) : ∀ m, db_s4 S (k + m) = some r
  | 0 => h
  | m + 1 => by
    show (match db_s4 S (k + m) with | some r => some r | none => _) = _
    rw [db_s4_k h m]
theorem db_s4_s {S : Nat → Option Nat} {k i : Nat} (h : db_s4 S k = none) (hi : S (k + 1) = some i) : db_s4 S (k + 1) = some (k + 1, i) := by
  show (match db_s4 S k with | some r => some r | none => match S (k + 1) with | some i => some (k + 1, i) | none => none) = _
  rw [h, hi]
theorem db_s4_n {S : Nat → Option Nat} {k : Nat} (h : db_s4 S k = none) (hi : S (k + 1) = none) : db_s4 S (k + 1) = none := by
  show (match db_s4 S k with | some r => some r | none => match S (k + 1) with | some i => some (k + 1, i) | none => none) = _
  rw [h, hi]
theorem db_s4_le {S : Nat → Option Nat} {n i : Nat} : ∀ {m : Nat}, db_s4 S m = some (n, i) → 1 ≤ n ∧ n ≤ m
  | 0, h => nomatch h
  | m + 1, h => by
    cases hm : db_s4 S m with
    | some r =>
      have := db_s4_k hm 1
      rw [this] at h
      cases h
      have := db_s4_le hm
      omega
    | none =>
      cases hS : S (m + 1) with
      | some j =>
        rw [db_s4_s hm hS] at h
        cases h
        omega
      | none =>
        rw [db_s4_n hm hS] at h
        cases h
/-- what the class has found -/
def db_KPx (s0 z : db_S) (n : Nat) (g : Nat → Nat) : Prop := (∀ a j, db_ec a j → ¬ (a = 274 ∧ j = 1) → a ≠ 275 → z.1 a j = s0.1 a j ∧ z.2 a j = s0.2 a j) ∧ z.1 274 1 = nI n ∧ ∀ k, k < n → z.1 275 k = nI (g k)
def db_KMx (s0 z : db_S) (n : Nat) (g : Nat → Nat) : Prop := (∀ a j, db_em a j → ¬ (a = 669 ∧ j = 34) → a ≠ 680 → z.1 a j = s0.1 a j ∧ z.2 a j = s0.2 a j) ∧ z.1 669 34 = nI n ∧ ∀ k, k < n → z.1 680 k = nI (g k)
section DBV1
variable {U : Nat} {s : db_S} {c : db_C} {w : Nat → Int64} {v x y z p q : Int32}
theorem db_165 {s0 : db_S} {n : Nat} {g : Nat → Nat} (hn : n ≤ 4) (h : db_Rk c w s0 s g) : ∃ z, db_f165 s (nI n) = some (nI n, z) ∧ db_KPx s0 z n g := by
  obtain ⟨h1, h2, h3⟩ := h
  obtain ⟨z, e, f1, f2⟩ := db_83 (s := s) (a := 279) (d := 275) (L := 4) rfl rfl rfl rfl rfl rfl (by omega)
  refine ⟨db_uI z 274 1 (nI n), ?_, fun a j ha hn1 hn2 => ?_, db_uI_1, fun k hk => ?_⟩
  · unfold db_f165
    simp (disch := omega) only [db_lit, eq_self, db_pI_e, db_pL_e, db_bind_some, db_bd_some, nI_add, pk_mul, nI_toInt, db_m1_t, dz_cn, Int.ofNat_le, Int.ofNat_lt, decide_true, decide_false, db_ct, db_cf, not_true_eq_false, not_false_eq_true, e]
  · rw [db_uI_if, if_neg hn1, db_uI_2, f1.1 a hn2, f1.2]
    exact h1 a j ha
  · rw [db_uI_n (by decide), f2 k (by omega)]
    exact h3 k (by omega)
theorem db_349 {s0 : db_S} {n : Nat} {g : Nat → Nat} (hn : n ≤ 4) (h : db_Rw c s0 s n g) : dz_T (db_f349 s) (fun z => z.1 = nI n ∧ db_KMx s0 z.2 n g) := by
  obtain ⟨h1, h2, h3, h4, h5⟩ := h
  unfold db_f349
  simp (disch := omega) only [db_lit, eq_self, db_pI_e, db_pL_e, db_bind_some, db_bd_some, nI_add, pk_mul, nI_toInt, db_m1_t, dz_cn, Int.ofNat_le, Int.ofNat_lt, decide_true, decide_false, db_ct, db_cf, not_true_eq_false, not_false_eq_true]
  refine db_loop (L := fun m a k => db_f349_b7 m a (nI k)) (N := n) (fun k a => db_KM s a (db_rl k g)) ?_ ?_ (n := db_FU) (by unfold db_FU; omega) db_KM_0
  · rintro m a hK
    show dz_T (db_f349_b7 (m + 1) a (nI n)) _
    rw [db_f349_b7]
    have e29 : a.1 669 29 = nI n := by rw [hK.2.2.2.1 29 (by decide)]; exact h3
    simp (disch := omega) only [db_lit, eq_self, db_pI_e, db_pL_e, db_bind_some, db_bd_some, nI_add, pk_mul, nI_toInt, db_m1_t, dz_cn, Int.ofNat_le, Int.ofNat_lt, decide_true, decide_false, db_ct, db_cf, not_true_eq_false, not_false_eq_true, e29, Nat.le_refl]
    refine ⟨_, rfl, rfl, fun b j hb n1 n2 => ?_, ?_, fun k hk => ?_⟩
    · have : a.1 b j = s.1 b j ∧ a.2 b j = s.2 b j := by
        rw [hK.2.2.2.2]
        by_cases e : b = 669
        · subst e; exact ⟨hK.2.2.2.1 j (by omega), rfl⟩
        · rw [hK.2.2.1 b e n2]; exact ⟨rfl, rfl⟩
      exact ⟨this.1.trans (h1 b j hb).1, this.2.trans (h1 b j hb).2⟩
    · have := hK.1; rw [db_rl_len] at this; exact this
    · have := hK.2.1 k (by rw [db_rl_len]; exact hk); rw [db_rl_get hk] at this; exact this
  · rintro m k a hk hK hrec
    show dz_T (db_f349_b7 (m + 1) a (nI k)) _
    rw [db_f349_b7]
    have e29 : a.1 669 29 = nI n := by rw [hK.2.2.2.1 29 (by decide)]; exact h3
    have e8 : a.1 678 k = nI (g k) := by rw [hK.2.2.1 678 (by decide) (by decide)]; exact h5 k hk
    have h7 : ¬ n ≤ k := by omega
    obtain ⟨a2, e2, K2⟩ := db_341 (v := nI (g k)) hK (by rw [db_rl_len]; omega)
    simp (disch := omega) only [db_lit, eq_self, db_pI_e, db_pL_e, db_bind_some, db_bd_some, nI_add, pk_mul, nI_toInt, db_m1_t, dz_cn, Int.ofNat_le, Int.ofNat_lt, decide_true, decide_false, db_ct, db_cf, not_true_eq_false, not_false_eq_true, e29, h7, db_g_678, e8, e2]
    exact hrec a2 (by rw [db_rl_s]; exact K2)
/-- a call that finds a row, or none -/
theorem db_Gf {N T : Nat} {S : Nat → Option Nat} {f g : db_S → Option (Int32 × db_S)} (hN : N ≤ 4) (hI : db_Inv U s)
    (hf : dz_T (f s) (fun z => match db_s4 S N with
      | none => z.1 = -(nI 1) ∧ db_Sc (nI 8) s z.2
      | some (n, i) => z.1 = nI n ∧ ∃ a, z.2 = db_uI a 4 0 (nI 0) ∧ db_KPx s a n (db_ri T n i)))
    (hg : ∀ s1, (db_A s1 (db_bk s 0)) → dz_T (g s1) (fun z => match db_s4 S N with
      | none => z.1 = -(nI 1) ∧ db_Sm (nI 8) s1 z.2
      | some (n, i) => z.1 = nI n ∧ db_KMx (db_p0 s1) z.2 n (db_ri T n i))) : dz_G U s f g := by
  obtain ⟨⟨v1, s1⟩, e1, h1⟩ := hf
  cases hS : db_s4 S N with
  | none =>
    rw [hS] at h1
    obtain ⟨h1, h2⟩ := h1
    have hA : db_A s1 (db_bk s 0) := fun k hk => by
      rw [(h2.1 674 k (by unfold db_ec; omega) (by omega)).1]
      exact db_bk_A k hk
    obtain ⟨⟨v2, s2⟩, e2, h3⟩ := hg s1 hA
    rw [hS] at h3
    obtain ⟨h3, h4⟩ := h3
    dsimp only at h1 h3
    subst h1
    subst h3
    exact ⟨_, s1, s2, e1, e2, db_Inv_q hI h2 h4⟩
  | some r =>
    obtain ⟨n, i⟩ := r
    rw [hS] at h1
    obtain ⟨h1, a, h2, h3, h4, h5⟩ := h1
    have hnle := db_s4_le hS
    have hA : db_A s1 (db_bk s 0) := fun k hk => by
      show (s1 : db_S).1 674 k = _
      dsimp only at h2
      rw [h2, db_uI_n (by decide), (h3 674 k (by unfold db_ec; omega) (by omega) (by omega)).1]
      exact db_bk_A k hk
    obtain ⟨⟨v2, s2⟩, e2, h6⟩ := hg s1 hA
    rw [hS] at h6
    obtain ⟨h6, h7, h8, h9⟩ := h6
    dsimp only at h1 h2 h6
    subst h1
    subst h6
    refine ⟨_, s1, s2, e1, e2, db_Inv_KP (L := db_rl n (db_ri T n i)) hI (by rw [db_rl_len]; omega) h3 (by rw [db_rl_len]; exact h4) (fun k hk => ?_) h2 h7 (by rw [db_rl_len]; exact h8) (fun k hk => ?_)⟩
    · rw [db_rl_len] at hk
      rw [db_rl_get hk]; exact h5 k hk
    · rw [db_rl_len] at hk
      rw [db_rl_get hk]; exact h9 k hk
theorem db_fst_n {P : Nat → Bool} {n : Nat} (h : ∀ i, i < n → P i = false) : db_fst P n = none := db_fst_none.mpr h
theorem db_k40 (hI : db_Inv U s) (hU : U ≤ 1000000000) : dz_G U s (fun s => db_f161 s v p q) (fun s => db_f347 s v p q) := by
  obtain ⟨hO, hR, -⟩ := db_cur hI
  have k0 := hO.1.1
  have j0 := k0.2
  have kk3 := db_Ok_K hO (show 3 < 6 by omega)
  have kk4 := db_Ok_K hO (show 4 < 6 by omega)
  cases h : (db_im p (db_n (db_bk s 0) 1) && db_im q (db_n (db_bk s 0) 2)) with
  | false =>
    refine db_Gn 2 hI ?_ fun s1 hS hA => ?_
    · unfold db_f161
      simp (disch := omega) only [db_lit, eq_self, db_pI_e, db_pL_e, db_bind_some, db_bd_some, nI_add, pk_mul, nI_toInt, db_m1_t, dz_cn, Int.ofNat_le, Int.ofNat_lt, decide_true, decide_false, db_ct, db_cf, not_true_eq_false, not_false_eq_true, db_87e, db_37e, db_31e, db_28e, db_281e, db_211e, db_27, db_269w, db_litL, pk_lT, db_iL, db_p0_e, db_p0_n, db_p0_j, db_sub1, nI_eq, if_true, if_false, Bool.false_eq_true, db_126 hR hO, h]
    · unfold db_f347
      simp (disch := omega) only [db_lit, eq_self, db_pI_e, db_pL_e, db_bind_some, db_bd_some, nI_add, pk_mul, nI_toInt, db_m1_t, dz_cn, Int.ofNat_le, Int.ofNat_lt, decide_true, decide_false, db_ct, db_cf, not_true_eq_false, not_false_eq_true, db_87e, db_37e, db_31e, db_28e, db_281e, db_211e, db_27, db_269w, db_litL, pk_lT, db_iL, db_p0_e, db_p0_n, db_p0_j, db_sub1, nI_eq, if_true, if_false, Bool.false_eq_true, db_315 (db_p0_A hA) hO.1.2.1 hO.1.2.2.1, h]
  | true =>
    have h' := h
    simp only [Bool.and_eq_true] at h'
    have hp := db_im_t h'.1
    have hq := db_im_t h'.2
    cases hv : db_wi v (-999) ((999 : Nat) : Int) with
    | false =>
      refine db_Gn 5 hI ?_ fun s1 hS hA => ?_
      · unfold db_f161 db_f162
        simp (disch := omega) only [db_lit, eq_self, db_pI_e, db_pL_e, db_bind_some, db_bd_some, nI_add, pk_mul, nI_toInt, db_m1_t, dz_cn, Int.ofNat_le, Int.ofNat_lt, decide_true, decide_false, db_ct, db_cf, not_true_eq_false, not_false_eq_true, db_87e, db_37e, db_31e, db_28e, db_281e, db_211e, db_27, db_269w, db_litL, pk_lT, db_iL, db_p0_e, db_p0_n, db_p0_j, db_sub1, nI_eq, if_true, if_false, Bool.false_eq_true, db_126 hR hO, h, db_m999, hv]
      · unfold db_f347
        simp (disch := omega) only [db_lit, eq_self, db_pI_e, db_pL_e, db_bind_some, db_bd_some, nI_add, pk_mul, nI_toInt, db_m1_t, dz_cn, Int.ofNat_le, Int.ofNat_lt, decide_true, decide_false, db_ct, db_cf, not_true_eq_false, not_false_eq_true, db_87e, db_37e, db_31e, db_28e, db_281e, db_211e, db_27, db_269w, db_litL, pk_lT, db_iL, db_p0_e, db_p0_n, db_p0_j, db_sub1, nI_eq, if_true, if_false, Bool.false_eq_true, db_315 (db_p0_A hA) hO.1.2.1 hO.1.2.2.1, h, db_m999L, hv]
    | true =>
      refine db_Gf (N := 4) (T := db_n (db_bk s 0) 0) (S := fun n => db_fst (db_pr1 (db_bk s 0) n p q v) (db_n (db_bk s 0) 0 ^ n)) (Nat.le_refl 4) hI ?_ fun s1 hA => ?_
      · generalize hcc : db_bk s 0 = c at *
        generalize hww : db_bw s 0 = w at *
        have hcl : dz_T (db_f163 s v p q) (fun z => match db_s4 (fun n => db_fst (db_pr1 c n p q v) (db_n c 0 ^ n)) 4 with
            | none => z.1 = -(nI 1) ∧ db_Ec s z.2
            | some (n, i) => z.1 = nI n ∧ db_KPx s z.2 n (db_ri (db_n c 0) n i)) := by
          unfold db_f163
          simp (disch := omega) only [db_lit, eq_self, db_pI_e, db_pL_e, db_bind_some, db_bd_some, nI_add, pk_mul, nI_toInt, db_m1_t, dz_cn, Int.ofNat_le, Int.ofNat_lt, decide_true, decide_false, db_ct, db_cf, not_true_eq_false, not_false_eq_true, db_87e, db_37e, db_31e, db_28e, db_281e, db_211e, db_27, db_269w, db_litL, pk_lT, db_iL, db_p0_e, db_p0_n, db_p0_j, db_sub1, nI_eq, if_true, if_false, Bool.false_eq_true, db_129 hR hO, db_128 hR hO hp hq]
          refine db_loop (L := fun m a k => db_f163_b27 m a (db_of c p q) ((if db_ow c p q then -(nI 1) else nI 1) * v) (nI (k + 1))) (N := 4) (fun k a => (db_Ec s a ∧ db_BR 20 a c w) ∧ db_s4 (fun n => db_fst (db_pr1 c n p q v) (db_n c 0 ^ n)) k = none) ?_ ?_ (n := db_FU) (by unfold db_FU; omega) ⟨⟨db_Ec_r, hR⟩, rfl⟩
          · rintro m a ⟨⟨g1, g2⟩, g3⟩
            show dz_T (db_f163_b27 (m + 1) a (db_of c p q) ((if db_ow c p q then -(nI 1) else nI 1) * v) (nI 5)) _
            rw [db_f163_b27, g3]
            simp (disch := omega) only [db_lit, eq_self, db_pI_e, db_pL_e, db_bind_some, db_bd_some, nI_add, pk_mul, nI_toInt, db_m1_t, dz_cn, Int.ofNat_le, Int.ofNat_lt, decide_true, decide_false, db_ct, db_cf, not_true_eq_false, not_false_eq_true, db_87e, db_37e, db_31e, db_28e, db_281e, db_211e, db_27, db_269w, db_litL, pk_lT, db_iL, db_p0_e, db_p0_n, db_p0_j, db_sub1, nI_eq, if_true, if_false, Bool.false_eq_true, (show 4 < 5 by omega)]
            exact ⟨_, rfl, rfl, g1⟩
          · rintro m k a hk ⟨⟨g1, g2⟩, g3⟩ hrec
            show dz_T (db_f163_b27 (m + 1) a (db_of c p q) ((if db_ow c p q then -(nI 1) else nI 1) * v) (nI (k + 1))) _
            rw [db_f163_b27]
            have h7 : ¬ 4 < k + 1 := by omega
            have hpb := db_pow_b j0 (show k + 1 ≤ 4 by omega)
            simp (disch := omega) only [db_lit, eq_self, db_pI_e, db_pL_e, db_bind_some, db_bd_some, nI_add, pk_mul, nI_toInt, db_m1_t, dz_cn, Int.ofNat_le, Int.ofNat_lt, decide_true, decide_false, db_ct, db_cf, not_true_eq_false, not_false_eq_true, db_87e, db_37e, db_31e, db_28e, db_281e, db_211e, db_27, db_269w, db_litL, pk_lT, db_iL, db_p0_e, db_p0_n, db_p0_j, db_sub1, nI_eq, if_true, if_false, Bool.false_eq_true, h7]
            refine db_T_gd (db_164 (s := a) (T := db_n c 0) (by rw [db_21 g2 (by omega)]; exact k0.1) j0 (show k + 1 ≤ 4 by omega)) fun r s2 hr => ?_
            obtain ⟨r1, r2, r3⟩ := hr
            dsimp only at r1 r2 r3
            subst r1
            have hRk : db_Rk c w s s2 (db_ri (db_n c 0) (k + 1) 0) := ⟨db_Ec_t g1 (db_F1_Ec r2 (fun j => by unfold db_ec; omega)), db_BR_F1 hO (by omega) r2 g2, r3⟩
            refine db_loop (L := fun l a i => db_f163_b44 (db_f163_b27 m) l a (db_of c p q) ((if db_ow c p q then -(nI 1) else nI 1) * v) (nI (k + 1)) (nI (db_n c 0 ^ (k + 1))) (nI i)) (N := db_n c 0 ^ (k + 1)) (fun i a => db_Rk c w s a (db_ri (db_n c 0) (k + 1) i) ∧ ∀ i', i' < i → db_pr1 c (k + 1) p q v i' = false) ?_ ?_ (n := db_FU) (by unfold db_FU; omega) ⟨hRk, lt_0⟩
            · rintro l a ⟨t1, t2⟩
              show dz_T (db_f163_b44 (db_f163_b27 m) (l + 1) a (db_of c p q) ((if db_ow c p q then -(nI 1) else nI 1) * v) (nI (k + 1)) (nI (db_n c 0 ^ (k + 1))) (nI (db_n c 0 ^ (k + 1)))) _
              rw [db_f163_b44]
              simp (disch := omega) only [db_lit, eq_self, db_pI_e, db_pL_e, db_bind_some, db_bd_some, nI_add, pk_mul, nI_toInt, db_m1_t, dz_cn, Int.ofNat_le, Int.ofNat_lt, decide_true, decide_false, db_ct, db_cf, not_true_eq_false, not_false_eq_true, db_87e, db_37e, db_31e, db_28e, db_281e, db_211e, db_27, db_269w, db_litL, pk_lT, db_iL, db_p0_e, db_p0_n, db_p0_j, db_sub1, nI_eq, if_true, if_false, Bool.false_eq_true, Nat.le_refl]
              exact hrec a ⟨⟨t1.1, t1.2.1⟩, db_s4_n g3 (db_fst_none.mpr t2)⟩
            · rintro l i a hi ⟨t1, t2⟩ hrec2
              show dz_T (db_f163_b44 (db_f163_b27 m) (l + 1) a (db_of c p q) ((if db_ow c p q then -(nI 1) else nI 1) * v) (nI (k + 1)) (nI (db_n c 0 ^ (k + 1))) (nI i)) _
              rw [db_f163_b44]
              have h8 : ¬ db_n c 0 ^ (k + 1) ≤ i := by omega
              have hT0 : 0 < db_n c 0 := by
                rcases Nat.eq_zero_or_pos (db_n c 0) with e | e
                · rw [e, Nat.zero_pow (by omega)] at hi; omega
                · exact e
              have hlt := db_ri_lt (n := k + 1) hT0 i
              simp (disch := omega) only [db_lit, eq_self, db_pI_e, db_pL_e, db_bind_some, db_bd_some, nI_add, pk_mul, nI_toInt, db_m1_t, dz_cn, Int.ofNat_le, Int.ofNat_lt, decide_true, decide_false, db_ct, db_cf, not_true_eq_false, not_false_eq_true, db_87e, db_37e, db_31e, db_28e, db_281e, db_211e, db_27, db_269w, db_litL, pk_lT, db_iL, db_p0_e, db_p0_n, db_p0_j, db_sub1, nI_eq, if_true, if_false, Bool.false_eq_true, h8]
              refine db_T_gd (db_Rk_read (p := p) (q := q) hO hU (show k + 1 ≤ 4 by omega) t1 hlt) fun r a2 hr => ?_
              obtain ⟨u1, u2, -⟩ := hr
              dsimp only at u1 u2
              subst u1
              have hw : decide (db_su c (fun j => nI (db_ri (db_n c 0) (k + 1) i j)) (k + 1) p q (k + 1) = (if db_ow c p q then -(nI 1) else nI 1) * v) = db_pr1 c (k + 1) p q v i := db_wanted
              cases hpr : db_pr1 c (k + 1) p q v i with
              | true =>
                rw [hpr] at hw
                rw [decide_eq_false (fun g => g (of_decide_eq_true hw)), db_cf]
                obtain ⟨a3, e3, K3⟩ := db_165 (show k + 1 ≤ 4 by omega) u2
                simp (disch := omega) only [db_lit, eq_self, db_pI_e, db_pL_e, db_bind_some, db_bd_some, nI_add, pk_mul, nI_toInt, db_m1_t, dz_cn, Int.ofNat_le, Int.ofNat_lt, decide_true, decide_false, db_ct, db_cf, not_true_eq_false, not_false_eq_true, db_87e, db_37e, db_31e, db_28e, db_281e, db_211e, db_27, db_269w, db_litL, pk_lT, db_iL, db_p0_e, db_p0_n, db_p0_j, db_sub1, nI_eq, if_true, if_false, Bool.false_eq_true, e3]
                have hs4 := db_s4_s (S := fun n => db_fst (db_pr1 c n p q v) (db_n c 0 ^ n)) g3 (i := i) (db_fst_some.mpr ⟨hi, hpr, t2⟩)
                have := db_s4_k hs4 (4 - (k + 1))
                rw [show k + 1 + (4 - (k + 1)) = 4 by omega] at this
                rw [this]
                exact ⟨_, rfl, rfl, K3⟩
              | false =>
                rw [hpr] at hw
                rw [decide_eq_true (of_decide_eq_false hw), db_ct]
                obtain ⟨a3, e3, t3, -⟩ := db_Rk_next hO (by omega) (show k + 1 ≤ 4 by omega) u2 hlt
                simp (disch := omega) only [db_lit, eq_self, db_pI_e, db_pL_e, db_bind_some, db_bd_some, nI_add, pk_mul, nI_toInt, db_m1_t, dz_cn, Int.ofNat_le, Int.ofNat_lt, decide_true, decide_false, db_ct, db_cf, not_true_eq_false, not_false_eq_true, db_87e, db_37e, db_31e, db_28e, db_281e, db_211e, db_27, db_269w, db_litL, pk_lT, db_iL, db_p0_e, db_p0_n, db_p0_j, db_sub1, nI_eq, if_true, if_false, Bool.false_eq_true, e3]
                exact hrec2 a3 ⟨t3, lt_s t2 hpr⟩
        unfold db_f161 db_f162
        simp (disch := omega) only [db_lit, eq_self, db_pI_e, db_pL_e, db_bind_some, db_bd_some, nI_add, pk_mul, nI_toInt, db_m1_t, dz_cn, Int.ofNat_le, Int.ofNat_lt, decide_true, decide_false, db_ct, db_cf, not_true_eq_false, not_false_eq_true, db_87e, db_37e, db_31e, db_28e, db_281e, db_211e, db_27, db_269w, db_litL, pk_lT, db_iL, db_p0_e, db_p0_n, db_p0_j, db_sub1, nI_eq, if_true, if_false, Bool.false_eq_true, db_126 hR hO, h, db_m999, hv]
        refine db_T_gd hcl fun r a hr => ?_
        cases hS : db_s4 (fun n => db_fst (db_pr1 c n p q v) (db_n c 0 ^ n)) 4 with
        | none =>
          rw [hS] at hr
          obtain ⟨r1, r2⟩ := hr
          dsimp only at r1 r2
          rw [decide_eq_false (fun g => g r1), db_cf]
          exact ⟨_, rfl, rfl, db_Sc_u r2⟩
        | some e =>
          obtain ⟨n, i⟩ := e
          have := db_s4_le hS
          rw [hS] at hr
          obtain ⟨r1, r2⟩ := hr
          dsimp only at r1 r2
          rw [decide_eq_true (by rw [r1, db_m1_ne (by omega)]; exact id), db_ct]
          exact ⟨_, rfl, r1, a, rfl, r2⟩
      · generalize hcc : db_bk s 0 = c at *
        unfold db_f347
        simp (disch := omega) only [db_lit, eq_self, db_pI_e, db_pL_e, db_bind_some, db_bd_some, nI_add, pk_mul, nI_toInt, db_m1_t, dz_cn, Int.ofNat_le, Int.ofNat_lt, decide_true, decide_false, db_ct, db_cf, not_true_eq_false, not_false_eq_true, db_87e, db_37e, db_31e, db_28e, db_281e, db_211e, db_27, db_269w, db_litL, pk_lT, db_iL, db_p0_e, db_p0_n, db_p0_j, db_sub1, nI_eq, if_true, if_false, Bool.false_eq_true, db_315 (db_p0_A hA) hO.1.2.1 hO.1.2.2.1, h, db_m999L, hv]
        refine db_T_gd (db_283 (db_p0_A hA) kk4 kk3) fun r s2 hr => ?_
        obtain ⟨r1, r2⟩ := hr
        dsimp only at r1 r2
        subst r1
        have hE2 : db_Em (db_p0 s1) (db_uI s2 669 30 (db_fo c)) := db_Em_uI (db_F1_Em r2 (fun j => by unfold db_em; omega)) (by unfold db_em; omega)
        have hA2 : db_A (db_uI s2 669 30 (db_fo c)) c := db_A_e (by rw [db_uI_n (by decide)]; exact r2.1 674 (by decide)) (db_p0_A hA)
        have e30 : (db_uI s2 669 30 (db_fo c)).1 669 30 = db_fo c := db_uI_1
        generalize db_uI s2 669 30 (db_fo c) = s3 at hE2 hA2 e30
        refine db_loop (L := fun m a k => db_f347_b56 m a v p q (nI (k + 1))) (N := 4) (fun k a => (db_Em (db_p0 s1) a ∧ db_A a c ∧ a.1 669 30 = db_fo c) ∧ db_s4 (fun n => db_fst (db_pr1 c n p q v) (db_n c 0 ^ n)) k = none) ?_ ?_ (n := db_FU) (by unfold db_FU; omega) ⟨⟨hE2, hA2, e30⟩, rfl⟩
        · rintro m a ⟨⟨g1, g2, -⟩, g3⟩
          show dz_T (db_f347_b56 (m + 1) a v p q (nI 5)) _
          rw [db_f347_b56, g3]
          unfold db_f347_b115
          simp (disch := omega) only [db_lit, eq_self, db_pI_e, db_pL_e, db_bind_some, db_bd_some, nI_add, pk_mul, nI_toInt, db_m1_t, dz_cn, Int.ofNat_le, Int.ofNat_lt, decide_true, decide_false, db_ct, db_cf, not_true_eq_false, not_false_eq_true, db_87e, db_37e, db_31e, db_28e, db_281e, db_211e, db_27, db_269w, db_litL, pk_lT, db_iL, db_p0_e, db_p0_n, db_p0_j, db_sub1, nI_eq, if_true, if_false, Bool.false_eq_true, Nat.le_refl]
          exact ⟨_, rfl, rfl, db_Sm_u g1⟩
        · rintro m k a hk ⟨⟨g1, g2, g2'⟩, g3⟩ hrec
          show dz_T (db_f347_b56 (m + 1) a v p q (nI (k + 1))) _
          rw [db_f347_b56]
          unfold db_f347_b115
          have h7 : ¬ 5 ≤ k + 1 := by omega
          have hpb := db_pow_b j0 (show k + 1 ≤ 4 by omega)
          simp (disch := omega) only [db_lit, eq_self, db_pI_e, db_pL_e, db_bind_some, db_bd_some, nI_add, pk_mul, nI_toInt, db_m1_t, dz_cn, Int.ofNat_le, Int.ofNat_lt, decide_true, decide_false, db_ct, db_cf, not_true_eq_false, not_false_eq_true, db_87e, db_37e, db_31e, db_28e, db_281e, db_211e, db_27, db_269w, db_litL, pk_lT, db_iL, db_p0_e, db_p0_n, db_p0_j, db_sub1, nI_eq, if_true, if_false, Bool.false_eq_true, h7, db_g_674, g2, k0.1]
          by_cases hT0 : db_n c 0 = 0
          · rw [decide_eq_true (show db_n c 0 ≤ 0 by omega), db_ct]
            have hS0 : ∀ n, db_s4 (fun n => db_fst (db_pr1 c n p q v) (db_n c 0 ^ n)) n = none := by
              intro n
              induction n with
              | zero => rfl
              | succ n ih => exact db_s4_n ih (db_fst_none.mpr fun i hi => by rw [hT0, Nat.zero_pow (by omega)] at hi; omega)
            rw [hS0 4]
            exact ⟨_, rfl, rfl, db_Sm_u g1⟩
          · have hT0 : 0 < db_n c 0 := by omega
            rw [decide_eq_false (show ¬ db_n c 0 ≤ 0 by omega), db_cf]
            refine db_T_go (db_348 (s := a) (n := k + 1) (by omega)) fun s4 hs4 => ?_
            obtain ⟨t1, t2, t3, t4, t5⟩ := hs4
            have hA4 : db_A s4 c := db_A_e (t1 674 (by decide) (by decide)) g2
            have hE4 : db_Em (db_p0 s1) s4 := db_Em_t g1 fun a' j ha => by
              refine ⟨?_, by rw [t3]⟩
              unfold db_em at ha
              by_cases e : a' = 669
              · subst e; exact t2 j (by omega)
              · rw [t1 a' e (by omega)]
            have hpos : 0 < db_n c 0 ^ (k + 1) := Nat.pow_pos hT0
            have e1 : nI 1 = db_i (decide (0 < db_n c 0 ^ (k + 1))) := by rw [decide_eq_true hpos]; rfl
            rw [show db_f347_b80 (db_f347_b56 m) db_FU s4 v p q (nI (k + 1)) (nI 1) = db_f347_b80 (db_f347_b56 m) db_FU s4 v p q (nI (k + 1)) (db_i (decide (0 < db_n c 0 ^ (k + 1)))) from congrArg _ e1]
            have hRw : db_Rw c (db_p0 s1) s4 (k + 1) (db_ri (db_n c 0) (k + 1) 0) := ⟨hE4, hA4, t4, by rw [t2 30 (by decide)]; exact g2', fun j hj => t5 j hj⟩
            refine db_loop (L := fun l a i => db_f347_b80 (db_f347_b56 m) l a v p q (nI (k + 1)) (db_i (decide (i < db_n c 0 ^ (k + 1))))) (N := db_n c 0 ^ (k + 1)) (fun i a => db_Rw c (db_p0 s1) a (k + 1) (db_ri (db_n c 0) (k + 1) i) ∧ ∀ i', i' < i → db_pr1 c (k + 1) p q v i' = false) ?_ ?_ (n := db_FU) (by unfold db_FU; omega) ⟨hRw, lt_0⟩
            · rintro l a ⟨u1, u2⟩
              show dz_T (db_f347_b80 (db_f347_b56 m) (l + 1) a v p q (nI (k + 1)) (db_i (decide (db_n c 0 ^ (k + 1) < db_n c 0 ^ (k + 1))))) _
              rw [db_f347_b80]
              simp (disch := omega) only [db_lit, eq_self, db_pI_e, db_pL_e, db_bind_some, db_bd_some, nI_add, pk_mul, nI_toInt, db_m1_t, dz_cn, Int.ofNat_le, Int.ofNat_lt, decide_true, decide_false, db_ct, db_cf, not_true_eq_false, not_false_eq_true, db_87e, db_37e, db_31e, db_28e, db_281e, db_211e, db_27, db_269w, db_litL, pk_lT, db_iL, db_p0_e, db_p0_n, db_p0_j, db_sub1, nI_eq, if_true, if_false, Bool.false_eq_true, db_i0, Nat.lt_irrefl, Bool.not_false]
              exact hrec a ⟨⟨u1.1, u1.2.1, u1.2.2.2.1⟩, db_s4_n g3 (db_fst_none.mpr u2)⟩
            · rintro l i a hi ⟨u1, u2⟩ hrec2
              show dz_T (db_f347_b80 (db_f347_b56 m) (l + 1) a v p q (nI (k + 1)) (db_i (decide (i < db_n c 0 ^ (k + 1))))) _
              rw [db_f347_b80]
              simp (disch := omega) only [db_lit, eq_self, db_pI_e, db_pL_e, db_bind_some, db_bd_some, nI_add, pk_mul, nI_toInt, db_m1_t, dz_cn, Int.ofNat_le, Int.ofNat_lt, decide_true, decide_false, db_ct, db_cf, not_true_eq_false, not_false_eq_true, db_87e, db_37e, db_31e, db_28e, db_281e, db_211e, db_27, db_269w, db_litL, pk_lT, db_iL, db_p0_e, db_p0_n, db_p0_j, db_sub1, nI_eq, if_true, if_false, Bool.false_eq_true, db_i0, hi, Bool.not_true]
              have hlt := db_ri_lt (n := k + 1) hT0 i
              refine db_T_gd (db_Rw_read hO (show k + 1 ≤ 4 by omega) u1 hp hq) fun r a2 hr => ?_
              obtain ⟨x1, x2⟩ := hr
              dsimp only at x1 x2
              subst x1
              have hw : decide (db_re c (fun j => nI (db_ri (db_n c 0) (k + 1) i j)) (k + 1) p q = v) = db_pr1 c (k + 1) p q v i := rfl
              cases hpr : db_pr1 c (k + 1) p q v i with
              | true =>
                rw [hpr] at hw
                rw [decide_eq_false (fun g => g (of_decide_eq_true hw)), db_cf]
                have hs4 := db_s4_s (S := fun n => db_fst (db_pr1 c n p q v) (db_n c 0 ^ n)) g3 (i := i) (db_fst_some.mpr ⟨hi, hpr, u2⟩)
                have := db_s4_k hs4 (4 - (k + 1))
                rw [show k + 1 + (4 - (k + 1)) = 4 by omega] at this
                rw [this]
                refine db_T_gd (db_349 (show k + 1 ≤ 4 by omega) x2) fun r a3 hr => ?_
                exact ⟨_, rfl, hr.1, hr.2⟩
              | false =>
                rw [hpr] at hw
                rw [decide_eq_true (of_decide_eq_false hw), db_ct]
                obtain ⟨a3, y1, y2⟩ := db_Rw_next k0.1 j0 (by omega) (show k + 1 ≤ 4 by omega) x2 hlt
                have hnv : (!db_nv (db_n c 0) (db_ri (db_n c 0) (k + 1) i) (k + 1)) = decide (i + 1 < db_n c 0 ^ (k + 1)) := by
                  rw [db_ri_nv hT0 hi, ← decide_not, decide_eq_decide]
                  omega
                rw [hnv] at y1
                simp (disch := omega) only [db_lit, eq_self, db_pI_e, db_pL_e, db_bind_some, db_bd_some, nI_add, pk_mul, nI_toInt, db_m1_t, dz_cn, Int.ofNat_le, Int.ofNat_lt, decide_true, decide_false, db_ct, db_cf, not_true_eq_false, not_false_eq_true, db_87e, db_37e, db_31e, db_28e, db_281e, db_211e, db_27, db_269w, db_litL, pk_lT, db_iL, db_p0_e, db_p0_n, db_p0_j, db_sub1, nI_eq, if_true, if_false, Bool.false_eq_true, y1]
                exact hrec2 a3 ⟨y2, lt_s u2 hpr⟩
end DBV1
