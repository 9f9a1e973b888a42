/-! A NEW NAME; things, persons, seasons -/
/-- is a name taken -/
def dv_tk (c : db_C) (w : Nat → Int64) (l : Int64) : Bool := (db_nm c w l 0).isSome || ((db_nm c w l 1).isSome || ((db_nm c w l 2).isSome || ((db_nm c w l 3).isSome || (db_nm c w l 5).isSome)))
def dv_tm (c : db_C) : Nat := db_n c 0 + db_n c 1 + db_n c 2 + db_n c 3 + db_n c 5
/-- what a new name changes -/
def dv_Nx (q k : Nat) (a a1 b b1 : db_S) : Prop := ∃ l0, (∀ c, c ≠ 13 → c ≠ 146 → c ≠ 147 → c ≠ 203 → c ≠ 204 → a1.1 c = a.1 c) ∧ (∀ c, c ≠ 202 → a1.2 c = a.2 c) ∧ (∀ j, j ≠ 18 → a1.1 146 j = a.1 146 j) ∧ a1.1 146 18 = nI (dv_tm (db_bk b 4) + 1) ∧ (∀ j, a1.1 147 j = if j = q then nI (k + 1) else a.1 147 j) ∧
  (∀ j, a1.2 202 j = if j = dv_tm (db_bk b 4) then l0 else a.2 202 j) ∧ (∀ j, a1.1 203 j = if j = dv_tm (db_bk b 4) then nI q else a.1 203 j) ∧ (∀ j, a1.1 204 j = if j = dv_tm (db_bk b 4) then nI k else a.1 204 j) ∧
  b1.1 674 = b.1 674 ∧ (∀ j, b1.2 676 j = if j = 148 + (db_fr q + k) then l0 else b.2 676 j)
/-- a part read by both -/
def dv_Pt (x : Nat → Int32) (n i : Nat) (a b : db_S) (fa : Option (Bool × db_S)) (fb : Option db_S) : Prop := ∃ r a1 b1, fa = some (r, a1) ∧ fb = some b1 ∧ ((r = true ∧ (∃ i1, i < i1 ∧ dv_CT x n i1 a1 ∧ dv_RT x n i1 b1) ∧ b1.1 669 12 = nI 0 ∧ dv_DR a1 (db_bk b1 4) (db_bw b1 4) ∧ dv_Fa a a1 ∧ dv_Fb b b1) ∨ (r = false ∧ dv_Fl a1 b1 ∧ dv_Fa a a1 ∧ dv_Fb b b1))
section DVNW
variable {a b a1 b1 z : db_S} {x : Nat → Int32} {n i : Nat} {v : Int32} {l : Int64} {c : db_C} {w : Nat → Int64}
theorem dv_bk_u {j : Nat} (hj : j < 480) : db_bk (db_uI b 674 (1920 + j) v) 4 = db_cu (db_bk b 4) j v := by
  funext k
  unfold db_bk db_cu
  dsimp only
  by_cases hk : k < 480
  · rw [if_pos hk, if_pos hk]
    by_cases e : k = j
    · subst e
      rw [if_pos rfl, show 480 * 4 + k = 1920 + k by omega, db_uI_1]
    · rw [if_neg e, db_uI_j (by omega)]
  · rw [if_neg hk, if_neg hk, if_neg (by omega)]
theorem dv_bk_e {q : Nat} (h : b1.1 674 = b.1 674) : db_bk b1 q = db_bk b q := by
  funext k
  unfold db_bk
  rw [h]
theorem dv_bw_e {q : Nat} (h : b1.2 676 = b.2 676) : db_bw b1 q = db_bw b q := by
  funext k
  unfold db_bw
  rw [h]
theorem dv_bk_4 {j : Nat} (hj : j < 480) : b.1 674 (1920 + j) = db_bk b 4 j := by
  unfold db_bk
  rw [if_pos hj]
theorem dv_tm_le (h : dv_DR a c w) : dv_tm c ≤ 37 := by
  obtain ⟨⟨k0, k1, k2, k3, k4, k5⟩, -⟩ := h
  have j0 := k0.2
  have j1 := k1.2
  have j2 := k2.2
  have j3 := k3.2
  have j5 := k5.2
  unfold dv_tm
  omega
theorem dv_tm_lt {q k : Nat} (h : dv_DR a c w) (hq : q < 6) (h4 : q ≠ 4) (hk : c q = nI k) (hkm : k < dv_mx q) : dv_tm c < 37 := by
  have hk12 := dv_mx_12 q
  have ek : db_n c q = k := dw_nI_n hk (by omega)
  obtain ⟨⟨k0, k1, k2, k3, k4, k5⟩, -⟩ := h
  have j0 := k0.2
  have j1 := k1.2
  have j2 := k2.2
  have j3 := k3.2
  have j5 := k5.2
  unfold dv_tm
  rcases (by omega : q = 0 ∨ q = 1 ∨ q = 2 ∨ q = 3 ∨ q = 5) with rfl | rfl | rfl | rfl | rfl
  · have : k < 10 := hkm
    omega
  · have : k < 4 := hkm
    omega
  · have : k < 3 := hkm
    omega
  · have : k < 12 := hkm
    omega
  · have : k < 8 := hkm
    omega
theorem dv_fr_37 {q k : Nat} (hq : q < 6) (h4 : q ≠ 4) (hkm : k ≤ dv_mx q) : db_fr q + k ≤ 37 := by
  rcases (by omega : q = 0 ∨ q = 1 ∨ q = 2 ∨ q = 3 ∨ q = 5) with rfl | rfl | rfl | rfl | rfl
  · have h1 : k ≤ 10 := hkm
    have h2 : db_fr 0 = 0 := rfl
    omega
  · have h1 : k ≤ 4 := hkm
    have h2 : db_fr 1 = 10 := rfl
    omega
  · have h1 : k ≤ 3 := hkm
    have h2 : db_fr 2 = 14 := rfl
    omega
  · have h1 : k ≤ 12 := hkm
    have h2 : db_fr 3 = 17 := rfl
    omega
  · have h1 : k ≤ 8 := hkm
    have h2 : db_fr 5 = 29 := rfl
    omega
theorem dv_fr_36 {q k : Nat} (hq : q < 6) (h4 : q ≠ 4) (hkm : k < dv_mx q) : db_fr q + k < 37 := by
  have := dv_fr_37 (k := k + 1) hq h4 hkm
  omega
/-- names looked up in the draft -/
theorem dv_Lk_D {q : Nat} (h : dv_DR a (db_bk b 4) (db_bw b 4)) (hq : q < 6) (h4 : q ≠ 4) : dv_Lk_146 a b q := by
  have hK := dv_K_mx h hq
  have hle := dv_tm_le h
  have h37 := dv_fr_37 hq h4 hK.2
  have h12 := dv_mx_12 q
  obtain ⟨-, -, -, -, -, -, -, ⟨m, m1, m2, m3, m4⟩, -⟩ := h
  have hm : m = dv_tm (db_bk b 4) := m1
  exact ⟨⟨m, by omega, m2, fun l => m3 l q hq h4⟩, hK.1, h37, by have := hK.2; omega⟩
theorem dv_63 {m : Nat} (hm : m ≤ 37) (h18 : a.1 146 18 = nI m) : db_f63_146 a l = some (db_ex (fun i => decide (a.2 202 i = l)) m) := by
  unfold db_f63_146
  refine db_exst (L := fun f i => db_f63_146_b2 a f l (nI i)) (N := m) (fun i => decide (a.2 202 i = l)) ?_ ?_ (n := db_FU) (by unfold db_FU; omega)
  · intro f
    show db_f63_146_b2 a (f + 1) l (nI m) = _
    rw [db_f63_146_b2]
    simp (disch := omega) only [db_lit, eq_self, db_pI_e, db_pL_e, db_bind_some, db_bd_some, nI_add, pk_mul, nI_toInt, db_m1_t, dz_cn, Int.ofNat_le, Int.ofNat_lt, decide_true, decide_false, db_ct, db_cf, not_true_eq_false, not_false_eq_true, h18, Nat.le_refl]
  · intro f i hi
    show db_f63_146_b2 a (f + 1) l (nI i) = cond _ _ (db_f63_146_b2 a f l (nI (i + 1)))
    rw [db_f63_146_b2]
    simp (disch := omega) only [db_lit, eq_self, db_pI_e, db_pL_e, db_bind_some, db_bd_some, nI_add, pk_mul, nI_toInt, db_m1_t, dz_cn, Int.ofNat_le, Int.ofNat_lt, decide_true, decide_false, db_ct, db_cf, not_true_eq_false, not_false_eq_true, h18, (show ¬ m ≤ i by omega), db_g_202, dv_lc]
    by_cases e : a.2 202 i = l
    · rw [decide_eq_true e, decide_eq_false (fun h => h e)]
      rfl
    · rw [decide_eq_false e, decide_eq_true e]
      rfl
theorem dv_tk_e (h : dv_Nm c w a) : db_ex (fun i => decide (a.2 202 i = l)) (dv_tm c) = dv_tk c w l := by
  obtain ⟨m, m1, m2, m3, m4⟩ := h
  have hm : m = dv_tm c := m1
  rw [← hm]
  rw [Bool.eq_iff_iff, db_ex_iff]
  have key : ∀ q, q < 6 → q ≠ 4 → ((db_nm c w l q).isSome = true ↔ ∃ i, i < m ∧ a.2 202 i = l ∧ a.1 203 i = nI q) := by
    intro q h1 h2
    have h := m3 l q h1 h2
    unfold db_nc at h
    cases e : db_fst (fun i => decide (a.2 202 i = l) && decide (a.1 203 i = nI q)) m with
    | some i =>
      rw [e] at h
      have h : a.1 204 i = db_o (db_nm c w l q) := h
      have hi := db_fst_lt e
      obtain ⟨-, k', -, -, k3, -, k5⟩ := m4 i hi
      have hp := (db_fst_some.mp e).2.1
      simp only [Bool.and_eq_true, decide_eq_true_eq] at hp
      refine ⟨fun _ => ⟨i, hi, hp⟩, fun _ => ?_⟩
      cases e3 : db_nm c w l q with
      | some j => rfl
      | none =>
        exfalso
        rw [e3, k5] at h
        have h' : nI k' = -(nI 1) := h
        rw [db_m1_ne (by omega)] at h'
        exact h'
    | none =>
      rw [e] at h
      have h : -(nI 1) = db_o (db_nm c w l q) := h
      have hn := db_fst_none.mp e
      refine ⟨fun hs => ?_, fun ⟨i, i1, i2, i3⟩ => ?_⟩
      · exfalso
        cases e3 : db_nm c w l q with
        | none => rw [e3] at hs; cases hs
        | some j =>
          have hj := db_fst_lt e3
          have hb : db_n c q < 2 ^ 31 := by
            unfold db_n
            have h1 := fb_rng (c q)
            have h2 : (c q).toNatClampNeg = (c q).toInt.toNat := rfl
            omega
          rw [e3] at h
          have h' : -(nI 1) = nI j := h
          rw [db_m1_en (by omega)] at h'
          exact h'
      · exfalso
        have := hn i i1
        simp only [i2, i3] at this
        simp at this
  unfold dv_tk
  simp only [Bool.or_eq_true]
  constructor
  · rintro ⟨i, hi, hl⟩
    have hl := of_decide_eq_true hl
    obtain ⟨q, k', q1, q2, q3, q4, q5⟩ := m4 i hi
    have hs := (key q q1 q2).mpr ⟨i, hi, hl, q4⟩
    rcases (by omega : q = 0 ∨ q = 1 ∨ q = 2 ∨ q = 3 ∨ q = 5) with rfl | rfl | rfl | rfl | rfl
    · exact .inl hs
    · exact .inr (.inl hs)
    · exact .inr (.inr (.inl hs))
    · exact .inr (.inr (.inr (.inl hs)))
    · exact .inr (.inr (.inr (.inr hs)))
  · have fin : ∀ q, q < 6 → q ≠ 4 → (db_nm c w l q).isSome = true → ∃ i, i < m ∧ decide (a.2 202 i = l) = true := fun q h1 h2 h3 => by
      obtain ⟨i, i1, i2, -⟩ := (key q h1 h2).mp h3
      exact ⟨i, i1, decide_eq_true i2⟩
    rintro (h | h | h | h | h)
    · exact fin 0 (by omega) (by omega) h
    · exact fin 1 (by omega) (by omega) h
    · exact fin 2 (by omega) (by omega) h
    · exact fin 3 (by omega) (by omega) h
    · exact fin 5 (by omega) (by omega) h
theorem dv_ge_o {o : Option Nat} (h : ∀ k, o = some k → k < 2 ^ 31) : db_cnd .ge (db_o o) 0 = o.isSome := by
  cases o with
  | none => rfl
  | some k =>
    have hk := h k rfl
    show db_cnd .ge (nI k) (nI 0) = true
    rw [db_cnd_ge, nI_toInt hk]
    exact decide_eq_true (by rw [nI_toInt (by omega)]; omega)
theorem dv_lt_o {o : Option Nat} (h : ∀ k, o = some k → k < 2 ^ 31) : db_cnd .lt (db_o o) 0 = !o.isSome := by
  cases o with
  | none => rfl
  | some k =>
    have hk := h k rfl
    show db_cnd .lt (nI k) (nI 0) = false
    rw [db_cnd_lt, nI_toInt hk]
    exact decide_eq_false (by rw [nI_toInt (by omega)]; omega)
theorem dv_258 (h : dv_DR a (db_bk b 4) (db_bw b 4)) : db_f258 b = some (dv_tk (db_bk b 4) (db_bw b 4) (b.2 669 19)) := by
  have hL := fun q h1 h2 => dv_Lk_D (q := q) h h1 h2
  have e : ∀ q g, q < 6 → q ≠ 4 → q = (if g = 4 then 5 else g) → g ≤ 4 → db_f259 b (nI 4) (nI g) = some (db_o (db_nm (db_bk b 4) (db_bw b 4) (b.2 669 19) q)) := fun q g h1 h2 h3 h4 => dv_259_4 h1 h3 h4 (hL q h1 h2).2.1 (hL q h1 h2).2.2.1
  have s : ∀ q, q < 6 → q ≠ 4 → ∀ k, db_nm (db_bk b 4) (db_bw b 4) (b.2 669 19) q = some k → k < 2 ^ 31 := fun q h1 h2 k hk => by
    have h5 := db_fst_lt hk
    have h6 := (hL q h1 h2).2.2.2
    omega
  unfold db_f258 dv_tk
  rw [show (0 : Int32) = nI 0 from rfl, show (1 : Int32) = nI 1 from rfl, show (2 : Int32) = nI 2 from rfl, show (3 : Int32) = nI 3 from rfl, show (4 : Int32) = nI 4 from rfl]
  rw [e 0 0 (by omega) (by omega) rfl (by omega), db_bind_some, e 1 1 (by omega) (by omega) rfl (by omega), db_bind_some, e 2 2 (by omega) (by omega) rfl (by omega), db_bind_some, e 3 3 (by omega) (by omega) rfl (by omega), db_bind_some, e 5 4 (by omega) (by omega) rfl (by omega), db_bind_some]
  rw [show (nI 0) = (0 : Int32) from rfl, dv_ge_o (s 0 (by omega) (by omega)), dv_ge_o (s 1 (by omega) (by omega)), dv_ge_o (s 2 (by omega) (by omega)), dv_ge_o (s 3 (by omega) (by omega)), dv_lt_o (s 5 (by omega) (by omega))]
  cases (db_nm (db_bk b 4) (db_bw b 4) (b.2 669 19) 0).isSome <;> cases (db_nm (db_bk b 4) (db_bw b 4) (b.2 669 19) 1).isSome <;> cases (db_nm (db_bk b 4) (db_bw b 4) (b.2 669 19) 2).isSome <;> cases (db_nm (db_bk b 4) (db_bw b 4) (b.2 669 19) 3).isSome <;> cases (db_nm (db_bk b 4) (db_bw b 4) (b.2 669 19) 5).isSome <;> rfl
theorem dv_64 {m q k : Nat} (hm : m < 37) (h18 : a.1 146 18 = nI m) (hq : q < 6) (hk : a.1 147 q = nI k) : db_f64_146 a l (nI q) = some (db_uI (db_uI (db_uI (db_uI (db_uL a 202 m l) 203 m (nI q)) 204 m (nI k)) 146 18 (nI (m + 1))) 147 q (nI (k + 1))) := by
  have e1 : (db_uL a 202 m l).1 146 18 = nI m := h18
  have e2 : (db_uI (db_uL a 202 m l) 203 m (nI q)).1 147 q = nI k := by rw [db_uI_n (by decide)]; exact hk
  have e3 : (db_uI (db_uL a 202 m l) 203 m (nI q)).1 146 18 = nI m := by rw [db_uI_n (by decide)]; exact h18
  have e4 : (db_uI (db_uI (db_uL a 202 m l) 203 m (nI q)) 204 m (nI k)).1 146 18 = nI m := by rw [db_uI_n (by decide)]; exact e3
  have e5 : (db_uI (db_uI (db_uI (db_uL a 202 m l) 203 m (nI q)) 204 m (nI k)) 146 18 (nI (m + 1))).1 147 q = nI k := by rw [db_uI_n (by decide), db_uI_n (by decide)]; exact e2
  unfold db_f64_146 db_f64_146_b54
  simp (disch := omega) only [db_lit, eq_self, db_pI_e, db_pL_e, db_bind_some, db_bd_some, nI_add, pk_mul, nI_toInt, db_m1_t, dz_cn, Int.ofNat_le, Int.ofNat_lt, decide_true, decide_false, db_ct, db_cf, not_true_eq_false, not_false_eq_true, h18, (show ¬ 37 ≤ m by omega), db_h_202, e1, db_h_203, e2, db_g_147, e3, db_h_204, e4, e5, db_h_147]
/-- a new name -/
theorem dv_oNew {q g k : Nat} (hq : q < 6) (h4 : q ≠ 4) (hg : q = if g = 4 then 5 else g) (hg4 : g ≤ 4) (hC : dv_CT x n (i + 1) a) (hR : dv_RT x n i b) (h0 : b.1 669 12 = nI 0) (hD : dv_DR a (db_bk b 4) (db_bw b 4)) (hk : db_bk b 4 q = nI k) (hkm : k < dv_mx q) :
    ∃ r a1 v b1, db_f61_146 a (nI q) = some (r, a1) ∧ db_f232 b (nI g) (nI (dv_mx q)) = some (v, b1) ∧ ((r = true ∧ v = nI k ∧ dv_CT x n (i + 2) a1 ∧ dv_RT x n (i + 2) b1 ∧ b1.1 669 12 = nI 0 ∧ dv_Fa a a1 ∧ dv_Fb b b1 ∧ dv_Nx q k a a1 b b1) ∨ (r = false ∧ v = nI 0 ∧ dv_Fl a1 b1 ∧ dv_Fa a a1 ∧ dv_Fb b b1)) := by
  have hk12 := dv_mx_12 q
  have htm := dv_tm_lt hD hq h4 hk hkm
  have hfr := dv_fr_36 hq h4 hkm
  obtain ⟨s2, es2, r2, f2⟩ := dv_nx hR
  have h02 : s2.1 669 12 = nI 0 := by rw [f2.2.1 12 (by omega)]; exact h0
  have e674 : s2.1 674 = b.1 674 := (f2.1 674 (by decide)).1
  have e676 : s2.2 676 = b.2 676 := (f2.1 676 (by decide)).2
  have ebk := dv_bk_e (q := 4) e674
  have ebw := dv_bw_e (q := 4) e676
  have hD2 : dv_DR a (db_bk s2 4) (db_bw s2 4) := by rw [ebk, ebw]; exact hD
  have e18 : a.1 146 18 = nI (dv_tm (db_bk b 4)) := by
    obtain ⟨-, -, -, -, -, -, -, ⟨m, m1, m2, -⟩, -⟩ := hD
    have hm : m = dv_tm (db_bk b 4) := m1
    rw [← hm]; exact m2
  have e147 : a.1 147 q = nI k := by rw [hD.2.1 q hq]; exact hk
  have e260 : ∀ t : db_S, db_f260 t (nI g) = some (nI (db_fr q)) := by
    intro t
    unfold db_f260 db_fr
    rcases (by omega : g = 0 ∨ g = 1 ∨ g = 2 ∨ g = 3 ∨ g = 4) with rfl | rfl | rfl | rfl | rfl <;> (simp at hg; subst hg; rfl)
  unfold db_f61_146 db_f232 db_f232_b22
  rw [show (4 : Int32) = nI 4 from rfl, dv_233_4 hq hg hg4, hk, db_bind_some, hC.2.1]
  have hne : ¬ nI k = nI (dv_mx q) := by rw [nI_eq (by omega) (by omega)]; omega
  cases hm : dv_nm x n (i + 1) with
  | false =>
    obtain ⟨f, f1, f3, f4⟩ := dv_fb_B (x := x) (n := n) (i := i + 1) (b := s2) (f := 2) (by omega) (by omega)
    refine ⟨false, dv_fa x n (i + 1) 2 a, nI 0, dv_fb x n (i + 1) 2 s2, ?_, ?_, .inr ⟨rfl, rfl, dv_Fl_f (by omega) (by omega), dv_Fa_fa dv_Fa_r, dv_Fb_fb (dv_Fb_n f2)⟩⟩
    · simp (disch := omega) only [db_lit, eq_self, db_pI_e, db_pL_e, db_bind_some, db_bd_some, nI_add, pk_mul, nI_toInt, db_m1_t, dz_cn, Int.ofNat_le, Int.ofNat_lt, decide_true, decide_false, db_ct, db_cf, not_true_eq_false, not_false_eq_true, db_87e, db_37e, db_31e, db_28e, db_281e, db_211e, db_27, db_269w, db_litL, pk_lT, db_iL, db_p0_e, db_p0_n, db_p0_j, db_sub1, nI_eq, if_true, if_false, Bool.false_eq_true, Nat.one_ne_zero, dv_62 hC, hm, dv_58 hC 2]
    · unfold db_f232_b46 db_f232_b69
      simp (disch := omega) only [db_lit, eq_self, db_pI_e, db_pL_e, db_bind_some, db_bd_some, nI_add, pk_mul, nI_toInt, db_m1_t, dz_cn, Int.ofNat_le, Int.ofNat_lt, decide_true, decide_false, db_ct, db_cf, not_true_eq_false, not_false_eq_true, db_87e, db_37e, db_31e, db_28e, db_281e, db_211e, db_27, db_269w, db_litL, pk_lT, db_iL, db_p0_e, db_p0_n, db_p0_j, db_sub1, nI_eq, if_true, if_false, Bool.false_eq_true, Nat.one_ne_zero, hne, h0, Nat.le_refl, es2, dv_235 r2, hm, dv_257 r2 h02, f4, (show ¬ f = 0 by omega), (show ¬ f ≤ 0 by omega)]
  | true =>
    obtain ⟨hk1, -⟩ := dv_n_L hm
    have hw : s2.2 669 19 = dv_L x n (dv_P x n (i + 1)) := (r2.2.2.2.2.1 hk1).1
    have e258 := dv_258 hD2
    rw [hw, ebk, ebw] at e258
    have e63 := dv_63 (l := dv_L x n (dv_P x n (i + 1))) (show dv_tm (db_bk b 4) ≤ 37 by omega) e18
    rw [dv_tk_e hD.2.2.2.2.2.2.2.1] at e63
    cases ht : dv_tk (db_bk b 4) (db_bw b 4) (dv_L x n (dv_P x n (i + 1))) with
    | true =>
      obtain ⟨f, f1, f3, f4⟩ := dv_fb_B (x := x) (n := n) (i := i + 1) (b := s2) (f := 3) (by omega) (by omega)
      have e3 := dv_234i r2 h02 (f := 3) (by omega)
      refine ⟨false, dv_fa x n (i + 1) 3 a, nI 0, dv_fb x n (i + 1) 3 s2, ?_, ?_, .inr ⟨rfl, rfl, dv_Fl_f (by omega) (by omega), dv_Fa_fa dv_Fa_r, dv_Fb_fb (dv_Fb_n f2)⟩⟩
      · simp (disch := omega) only [db_lit, eq_self, db_pI_e, db_pL_e, db_bind_some, db_bd_some, nI_add, pk_mul, nI_toInt, db_m1_t, dz_cn, Int.ofNat_le, Int.ofNat_lt, decide_true, decide_false, db_ct, db_cf, not_true_eq_false, not_false_eq_true, db_87e, db_37e, db_31e, db_28e, db_281e, db_211e, db_27, db_269w, db_litL, pk_lT, db_iL, db_p0_e, db_p0_n, db_p0_j, db_sub1, nI_eq, if_true, if_false, Bool.false_eq_true, Nat.one_ne_zero, dv_62 hC, hm, dv_g19 hC hk1, e63, ht, dv_58 hC 3]
      · unfold db_f232_b46 db_f232_b69
        simp (disch := omega) only [db_lit, eq_self, db_pI_e, db_pL_e, db_bind_some, db_bd_some, nI_add, pk_mul, nI_toInt, db_m1_t, dz_cn, Int.ofNat_le, Int.ofNat_lt, decide_true, decide_false, db_ct, db_cf, not_true_eq_false, not_false_eq_true, db_87e, db_37e, db_31e, db_28e, db_281e, db_211e, db_27, db_269w, db_litL, pk_lT, db_iL, db_p0_e, db_p0_n, db_p0_j, db_sub1, nI_eq, if_true, if_false, Bool.false_eq_true, Nat.one_ne_zero, hne, h0, Nat.le_refl, es2, dv_235 r2, hm, h02, e258, ht, e3, f4, (show ¬ f ≤ 0 by omega)]
    | false =>
      have hC1 : dv_CT x n (i + 1) (db_uI (db_uI (db_uI (db_uI (db_uL a 202 (dv_tm (db_bk b 4)) (dv_L x n (dv_P x n (i + 1)))) 203 (dv_tm (db_bk b 4)) (nI q)) 204 (dv_tm (db_bk b 4)) (nI k)) 146 18 (nI (dv_tm (db_bk b 4) + 1))) 147 q (nI (k + 1))) := dv_CT_u (dv_CT_u (dv_CT_u (dv_CT_u (dv_CT_F hC (dv_Fa_l dv_Fa_r (by omega)) rfl rfl rfl) (by omega)) (by omega)) (by omega)) (by omega)
      have hR2 : dv_RT x n (i + 1) (db_uL s2 676 (148 + (db_fr q + k)) (dv_L x n (dv_P x n (i + 1)))) := dv_RT_6 r2
      obtain ⟨b1, eb1, r3, f3⟩ := dv_nx hR2
      have hFa : dv_Fa a (db_uI (db_uI (db_uI (db_uI (db_uL a 202 (dv_tm (db_bk b 4)) (dv_L x n (dv_P x n (i + 1)))) 203 (dv_tm (db_bk b 4)) (nI q)) 204 (dv_tm (db_bk b 4)) (nI k)) 146 18 (nI (dv_tm (db_bk b 4) + 1))) 147 q (nI (k + 1))) := dv_Fa_u (dv_Fa_u (dv_Fa_u (dv_Fa_u (dv_Fa_l dv_Fa_r (by omega)) (.inl (by omega))) (.inl (by omega))) (.inl (by omega))) (.inl (by omega))
      refine ⟨true, _, nI k, b1, ?_, ?_, .inl ⟨rfl, rfl, dv_CT_s hC1 (by omega), r3, ?_, dv_Fa_u hFa (.inr (by omega)), dv_Fb_t (dv_Fb_6 (dv_Fb_n f2) (by omega)) (dv_Fb_n f3), dv_L x n (dv_P x n (i + 1)), fun c c1 c2 c3 c4 c5 => ?_, fun c c1 => ?_, fun j hj => ?_, ?_, fun j => ?_, fun j => ?_, fun j => ?_, fun j => ?_, ?_, fun j => ?_⟩⟩
      · simp (disch := omega) only [db_lit, eq_self, db_pI_e, db_pL_e, db_bind_some, db_bd_some, nI_add, pk_mul, nI_toInt, db_m1_t, dz_cn, Int.ofNat_le, Int.ofNat_lt, decide_true, decide_false, db_ct, db_cf, not_true_eq_false, not_false_eq_true, db_87e, db_37e, db_31e, db_28e, db_281e, db_211e, db_27, db_269w, db_litL, pk_lT, db_iL, db_p0_e, db_p0_n, db_p0_j, db_sub1, nI_eq, if_true, if_false, Bool.false_eq_true, Nat.one_ne_zero, dv_62 hC, hm, dv_g19 hC hk1, e63, ht, dv_64 htm e18 hq e147, dv_60 hC1 (show ¬ dv_kd x n (i + 1) = 0 by omega)]
      · unfold db_f232_b46 db_f232_b69
        have e148 : 148 + db_fr q + k = 148 + (db_fr q + k) := by omega
        simp (disch := omega) only [db_lit, eq_self, db_pI_e, db_pL_e, db_bind_some, db_bd_some, nI_add, pk_mul, nI_toInt, db_m1_t, dz_cn, Int.ofNat_le, Int.ofNat_lt, decide_true, decide_false, db_ct, db_cf, not_true_eq_false, not_false_eq_true, db_87e, db_37e, db_31e, db_28e, db_281e, db_211e, db_27, db_269w, db_litL, pk_lT, db_iL, db_p0_e, db_p0_n, db_p0_j, db_sub1, nI_eq, if_true, if_false, Bool.false_eq_true, Nat.one_ne_zero, hne, h0, Nat.le_refl, es2, dv_235 r2, hm, h02, e258, ht, e260, hw, db_h_676, e148, eb1]
      · rw [f3.2.1 12 (by omega)]; exact h02
      · rw [db_uI_n c1, db_uI_n c3, db_uI_n c2, db_uI_n c5, db_uI_n c4, db_uL_2]
      · rw [db_uI_2, db_uI_2, db_uI_2, db_uI_2, db_uI_2, db_uL_n c1]
      · rw [db_uI_n (by decide), db_uI_n (by decide), db_uI_j hj, db_uI_n (by decide), db_uI_n (by decide), db_uL_2]
      · rw [db_uI_n (by decide), db_uI_n (by decide), db_uI_1]
      · rw [db_uI_n (by decide)]
        by_cases e : j = q
        · subst e; rw [db_uI_1, if_pos rfl]
        · rw [db_uI_j e, if_neg e, db_uI_n (by decide), db_uI_n (by decide), db_uI_n (by decide), db_uL_2]
      · rw [db_uI_2, db_uI_2, db_uI_2, db_uI_2, db_uI_2]
        by_cases e : j = dv_tm (db_bk b 4)
        · rw [e, db_uL_1, if_pos rfl]
        · rw [db_uL_j e, if_neg e]
      · rw [db_uI_n (by decide), db_uI_n (by decide), db_uI_n (by decide), db_uI_n (by decide)]
        by_cases e : j = dv_tm (db_bk b 4)
        · rw [e, db_uI_1, if_pos rfl]
        · rw [db_uI_j e, if_neg e, db_uL_2]
      · rw [db_uI_n (by decide), db_uI_n (by decide), db_uI_n (by decide)]
        by_cases e : j = dv_tm (db_bk b 4)
        · rw [e, db_uI_1, if_pos rfl]
        · rw [db_uI_j e, if_neg e, db_uI_n (by decide), db_uL_2]
      · rw [(f3.1 674 (by decide)).1, db_uL_2, e674]
      · rw [(f3.1 676 (by decide)).2]
        by_cases e : j = 148 + (db_fr q + k)
        · rw [e, db_uL_1, if_pos rfl]
        · rw [db_uL_j e, if_neg e, e676]
/-- the names behind it -/
theorem dv_Nx_N {q k : Nat} {c1 : db_C} {a2 : db_S} (hq : q < 6) (h4 : q ≠ 4) (hD : dv_DR a (db_bk b 4) (db_bw b 4)) (hk : db_bk b 4 q = nI k) (hkm : k < dv_mx q) (h : dv_Nx q k a a1 b b1) (hc1 : c1 q = nI (k + 1)) (hc : ∀ p, p < 6 → p ≠ q → c1 p = db_bk b 4 p) (e1 : a2.1 146 18 = a1.1 146 18) (e2 : a2.2 202 = a1.2 202) (e3 : a2.1 203 = a1.1 203) (e4 : a2.1 204 = a1.1 204) : dv_Nm c1 (db_bw b1 4) a2 := by
  have hfr := dv_fr_36 hq h4 hkm
  obtain ⟨l0, x1, x2, x3, x4, x5, x6, x7, x8, x9, x10⟩ := h
  refine dv_Nm_s (q0 := q) (k := k) (l0 := l0) hD.2.2.2.2.2.2.2.1 (fun p hp => dv_K_mx hD hp) hq h4 hk hkm hc1 hc (e1.trans x4) (fun j => by rw [e2]; exact x6 j) (fun j => by rw [e3]; exact x7 j) (fun j => by rw [e4]; exact x8 j) fun j => ?_
  unfold db_bw
  by_cases hj : j < 37
  · rw [if_pos hj, if_pos hj, x10]
    by_cases e : j = db_fr q + k
    · rw [if_pos (by omega), if_pos e]
    · rw [if_neg (by omega), if_neg e]
  · rw [if_neg hj, if_neg hj, if_neg (by omega)]
/-- a thing -/
theorem dv_pThing {k : Nat} (hC : dv_CT x n (i + 1) a) (hR : dv_RT x n i b) (h0 : b.1 669 12 = nI 0) (hD : dv_DR a (db_bk b 4) (db_bw b 4)) (hk : db_bk b 4 0 = nI k) (hkm : k < 10) : dv_Pt x n i a b (db_f61_146 a (nI 0)) (db_f231 b) := by
  obtain ⟨r, a1, v, b1, e1, e2, h⟩ := dv_oNew (q := 0) (g := 0) (by omega) (by omega) rfl (by omega) hC hR h0 hD hk hkm
  have e2 : db_f232 b (nI 0) (nI 10) = some (v, b1) := e2
  rcases h with ⟨rfl, rfl, g1, g2, g3, g4, g5, g6⟩ | ⟨rfl, rfl, g1, g2, g3⟩
  · obtain ⟨l0, x1, x2, x3, x4, x5, x6, x7, x8, x9, x10⟩ := id g6
    have e20 : b1.1 674 1920 = nI k := by rw [x9, show (1920 : Nat) = 1920 + 0 from rfl, dv_bk_4 (by omega)]; exact hk
    have ebk : db_bk (db_uI b1 674 1920 (nI (k + 1))) 4 = db_cu (db_bk b 4) 0 (nI (k + 1)) := by
      rw [show (1920 : Nat) = 1920 + 0 from rfl, dv_bk_u (by omega), dv_bk_e x9]
    refine ⟨true, a1, db_uI b1 674 1920 (nI (k + 1)), e1, ?_, .inl ⟨rfl, ⟨i + 2, by omega, g1, dv_RT_4 g2⟩, by rw [db_uI_n (by decide)]; exact g3, ?_, g4, dv_Fb_4 g5 (by omega)⟩⟩
    · unfold db_f231
      simp (disch := omega) only [db_lit, eq_self, db_pI_e, db_pL_e, db_bind_some, db_bd_some, nI_add, pk_mul, nI_toInt, db_m1_t, dz_cn, Int.ofNat_le, Int.ofNat_lt, decide_true, decide_false, db_ct, db_cf, not_true_eq_false, not_false_eq_true, db_87e, db_37e, db_31e, db_28e, db_281e, db_211e, db_27, db_269w, db_litL, pk_lT, db_iL, db_p0_e, db_p0_n, db_p0_j, db_sub1, nI_eq, if_true, if_false, Bool.false_eq_true, Nat.one_ne_zero, e2, g3, db_g_674, e20, db_h_674]
    · rw [ebk, dv_bw_e (b1 := db_uI b1 674 1920 (nI (k + 1))) (b := b1) rfl]
      refine dv_DR_s (q0 := 0) (k := k) hD (by omega) hk hkm db_cu_1 (fun q _ h => db_cu_n h) (fun j h1 _ _ => db_cu_n (by omega)) (by rw [x5, if_pos rfl]) (fun q _ h => by rw [x5, if_neg h]) (fun c j h1 h2 _ => by rw [x1 c (by omega) (by omega) (by omega) (by omega) (by omega)]) (dv_Nx_N (by omega) (by omega) hD hk hkm g6 db_cu_1 (fun p _ h => db_cu_n h) rfl rfl rfl rfl) (fun h => absurd h (by decide)) (fun h => absurd h (by decide)) (fun h => absurd h (by decide)) (fun h => absurd h (by decide)) (fun h => absurd h (by decide))
  · refine ⟨false, a1, b1, e1, ?_, .inr ⟨rfl, g1, g2, g3⟩⟩
    obtain ⟨f, f1, f2, f3⟩ := g1.1
    unfold db_f231
    simp (disch := omega) only [db_lit, eq_self, db_pI_e, db_pL_e, db_bind_some, db_bd_some, nI_add, pk_mul, nI_toInt, db_m1_t, dz_cn, Int.ofNat_le, Int.ofNat_lt, decide_true, decide_false, db_ct, db_cf, not_true_eq_false, not_false_eq_true, db_87e, db_37e, db_31e, db_28e, db_281e, db_211e, db_27, db_269w, db_litL, pk_lT, db_iL, db_p0_e, db_p0_n, db_p0_j, db_sub1, nI_eq, if_true, if_false, Bool.false_eq_true, Nat.one_ne_zero, e2, f3, (show ¬ f = 0 by omega)]
/-- a Person -/
theorem dv_pPerson {k : Nat} (hC : dv_CT x n (i + 1) a) (hR : dv_RT x n i b) (h0 : b.1 669 12 = nI 0) (hD : dv_DR a (db_bk b 4) (db_bw b 4)) (hk : db_bk b 4 1 = nI k) (hkm : k < 4) : dv_Pt x n i a b (db_f65 a (nI 1) 148 (nI 6)) (db_f261 b) := by
  obtain ⟨r, a1, v, b1, e1, e2, h⟩ := dv_oNew (q := 1) (g := 1) (by omega) (by omega) rfl (by omega) hC hR h0 hD hk hkm
  have e2 : db_f232 b (nI 1) (nI 4) = some (v, b1) := e2
  have e147 : a.1 147 1 = nI k := by rw [hD.2.1 1 (by omega)]; exact hk
  rcases h with ⟨rfl, rfl, g1, g2, g3, g4, g5, g6⟩ | ⟨rfl, rfl, g1, g2, g3⟩
  · obtain ⟨l0, x1, x2, x3, x4, x5, x6, x7, x8, x9, x10⟩ := id g6
    have e20 : ∀ v, (db_uI b1 674 (1928 + k) v).1 674 1921 = nI k := fun v => by rw [db_uI_j (by omega), x9, show (1921 : Nat) = 1920 + 1 from rfl, dv_bk_4 (by omega)]; exact hk
    have h66 := dv_66 g1 (j := 6) (by decide)
    -- both ways
    have fin : ∀ (u : Nat) (a2 b2 : db_S) (i2 : Nat), u ≤ 1 → i + 2 ≤ i2 → dv_CT x n i2 a2 → dv_Fa a1 a2 → a2.1 148 = a1.1 148 → (∀ c, c ≠ 13 → a2.1 c = a1.1 c) → a2.2 = a1.2 → dv_RT x n i2 b2 → dv_Fn (db_uI b1 674 (1928 + k) (nI u)) b2 →
        (∃ i1, i < i1 ∧ dv_CT x n i1 (db_uI a2 148 k (nI u)) ∧ dv_RT x n i1 (db_uI b2 674 1921 (nI (k + 1)))) ∧ (db_uI b2 674 1921 (nI (k + 1))).1 669 12 = nI 0 ∧ dv_DR (db_uI a2 148 k (nI u)) (db_bk (db_uI b2 674 1921 (nI (k + 1))) 4) (db_bw (db_uI b2 674 1921 (nI (k + 1))) 4) ∧ dv_Fa a (db_uI a2 148 k (nI u)) ∧ dv_Fb b (db_uI b2 674 1921 (nI (k + 1))) := by
      intro u a2 b2 i2 hu hi2 hC2 hFa hcell hc hl hR2 hFn
      have ebk : db_bk (db_uI b2 674 1921 (nI (k + 1))) 4 = db_cu (db_cu (db_bk b 4) (8 + k) (nI u)) 1 (nI (k + 1)) := by
        rw [show (1921 : Nat) = 1920 + 1 from rfl, dv_bk_u (by omega), dv_bk_e (hFn.1 674 (by decide)).1, show 1928 + k = 1920 + (8 + k) by omega, dv_bk_u (by omega), dv_bk_e x9]
      have ebw : db_bw (db_uI b2 674 1921 (nI (k + 1))) 4 = db_bw b1 4 := dv_bw_e (by rw [db_uI_2, (hFn.1 676 (by decide)).2, db_uI_2])
      refine ⟨⟨i2, by omega, dv_CT_u hC2 (by omega), dv_RT_4 hR2⟩, ?_, ?_, dv_Fa_u (dv_Fa_t g4 hFa) (.inl (by omega)), dv_Fb_4 (dv_Fb_t (dv_Fb_4 g5 (by omega)) (dv_Fb_n hFn)) (by omega)⟩
      · rw [db_uI_n (by decide), hFn.2.1 12 (by omega), db_uI_n (by decide)]; exact g3
      · rw [ebk, ebw]
        have w8 : db_cu (db_cu (db_bk b 4) (8 + k) (nI u)) 1 (nI (k + 1)) (8 + k) = nI u := by rw [db_cu_n (by omega), db_cu_1]
        refine dv_DR_s (q0 := 1) (k := k) hD (by omega) hk hkm db_cu_1 (fun q h1 h => by rw [db_cu_n h, db_cu_n (by omega)]) (fun j h1 h2 h3 => ?_) ?_ (fun q h1 h => ?_) (fun c j h1 h2 h3 => ?_) (dv_Nx_N (by omega) (by omega) hD hk hkm g6 db_cu_1 (fun p h1 h => by rw [db_cu_n h, db_cu_n (by omega)]) ?_ ?_ ?_ ?_) (fun _ => ?_) (fun h => absurd h (by decide)) (fun h => absurd h (by decide)) (fun h => absurd h (by decide)) (fun h => absurd h (by decide))
        · unfold dv_Nw at h3
          rw [db_cu_n (by omega), db_cu_n (by omega)]
        · rw [db_uI_n (by decide), hc 147 (by decide), x5, if_pos rfl]
        · rw [db_uI_n (by decide), hc 147 (by decide), x5, if_neg h]
        · unfold dv_Na at h3
          rw [db_uI_if, if_neg (by omega), hc c (by omega), x1 c (by omega) (by omega) (by omega) (by omega) (by omega)]
        · rw [db_uI_n (by decide), hc 146 (by decide)]
        · rw [db_uI_2, hl]
        · rw [db_uI_n (by decide), hc 203 (by decide)]
        · rw [db_uI_n (by decide), hc 204 (by decide)]
        · rw [w8, db_uI_1]
          refine ⟨rfl, ?_⟩
          rcases (by omega : u = 0 ∨ u = 1) with rfl | rfl
          · exact .inl rfl
          · exact .inr rfl
    by_cases e : dv_w x n (i + 2) = nI 6
    · rw [if_pos e, decide_eq_true e] at h66
      have hkd := dv_w_kd (by decide) e
      obtain ⟨b2, eb2, r2, f2⟩ := dv_nx (dv_RT_4 (j := 1928 + k) (v := nI 1) g2)
      have hx := dv_x6 (dv_RT_4 (j := 1928 + k) (v := nI 1) g2)
      have hx0 := dv_x6 g2
      rw [decide_eq_true e] at hx hx0
      have e22 : b2.1 674 1921 = nI k := by rw [(f2.1 674 (by decide)).1]; exact e20 _
      refine ⟨true, _, _, ?_, ?_, .inl ⟨rfl, fin 1 (db_uI a1 13 9 (nI (i + 2 + 1))) b2 (i + 2 + 1) (by omega) (by omega) (dv_CT_s g1 (by omega)) (dv_Fa_u dv_Fa_r (.inr (by omega))) (db_uI_n (by decide)) (fun c h => db_uI_n h) rfl r2 f2⟩⟩
      · unfold db_f65 db_f65_b47
        simp (disch := omega) only [db_lit, eq_self, db_pI_e, db_pL_e, db_bind_some, db_bd_some, nI_add, pk_mul, nI_toInt, db_m1_t, dz_cn, Int.ofNat_le, Int.ofNat_lt, decide_true, decide_false, db_ct, db_cf, not_true_eq_false, not_false_eq_true, db_87e, db_37e, db_31e, db_28e, db_281e, db_211e, db_27, db_269w, db_litL, pk_lT, db_iL, db_p0_e, db_p0_n, db_p0_j, db_sub1, nI_eq, if_true, if_false, Bool.false_eq_true, Nat.one_ne_zero, db_g_147, e147, e1, h66, db_h_148]
      · unfold db_f261 db_f261_b36 db_f261_b48
        simp (disch := omega) only [db_lit, eq_self, db_pI_e, db_pL_e, db_bind_some, db_bd_some, nI_add, pk_mul, nI_toInt, db_m1_t, dz_cn, Int.ofNat_le, Int.ofNat_lt, decide_true, decide_false, db_ct, db_cf, not_true_eq_false, not_false_eq_true, db_87e, db_37e, db_31e, db_28e, db_281e, db_211e, db_27, db_269w, db_litL, pk_lT, db_iL, db_p0_e, db_p0_n, db_p0_j, db_sub1, nI_eq, if_true, if_false, Bool.false_eq_true, Nat.one_ne_zero, e2, g3, Nat.le_refl, hx0, db_h_674, hx, eb2, db_g_674, e22]
    · rw [if_neg e, decide_eq_false e] at h66
      have hx := dv_x6 (dv_RT_4 (j := 1928 + k) (v := nI 0) g2)
      have hx0 := dv_x6 g2
      rw [decide_eq_false e] at hx hx0
      have e22 := e20 (nI 0)
      refine ⟨true, _, _, ?_, ?_, .inl ⟨rfl, fin 0 a1 (db_uI b1 674 (1928 + k) (nI 0)) (i + 2) (by omega) (by omega) g1 dv_Fa_r rfl (fun c _ => rfl) rfl (dv_RT_4 g2) dv_Fn_r⟩⟩
      · unfold db_f65 db_f65_b47
        simp (disch := omega) only [db_lit, eq_self, db_pI_e, db_pL_e, db_bind_some, db_bd_some, nI_add, pk_mul, nI_toInt, db_m1_t, dz_cn, Int.ofNat_le, Int.ofNat_lt, decide_true, decide_false, db_ct, db_cf, not_true_eq_false, not_false_eq_true, db_87e, db_37e, db_31e, db_28e, db_281e, db_211e, db_27, db_269w, db_litL, pk_lT, db_iL, db_p0_e, db_p0_n, db_p0_j, db_sub1, nI_eq, if_true, if_false, Bool.false_eq_true, Nat.one_ne_zero, db_g_147, e147, e1, h66, db_h_148]
      · unfold db_f261 db_f261_b36 db_f261_b48
        simp (disch := omega) only [db_lit, eq_self, db_pI_e, db_pL_e, db_bind_some, db_bd_some, nI_add, pk_mul, nI_toInt, db_m1_t, dz_cn, Int.ofNat_le, Int.ofNat_lt, decide_true, decide_false, db_ct, db_cf, not_true_eq_false, not_false_eq_true, db_87e, db_37e, db_31e, db_28e, db_281e, db_211e, db_27, db_269w, db_litL, pk_lT, db_iL, db_p0_e, db_p0_n, db_p0_j, db_sub1, nI_eq, if_true, if_false, Bool.false_eq_true, Nat.one_ne_zero, e2, g3, Nat.le_refl, hx0, db_h_674, hx, db_g_674, e22]
  · refine ⟨false, a1, b1, ?_, ?_, .inr ⟨rfl, g1, g2, g3⟩⟩
    · unfold db_f65
      simp (disch := omega) only [db_lit, eq_self, db_pI_e, db_pL_e, db_bind_some, db_bd_some, nI_add, pk_mul, nI_toInt, db_m1_t, dz_cn, Int.ofNat_le, Int.ofNat_lt, decide_true, decide_false, db_ct, db_cf, not_true_eq_false, not_false_eq_true, db_87e, db_37e, db_31e, db_28e, db_281e, db_211e, db_27, db_269w, db_litL, pk_lT, db_iL, db_p0_e, db_p0_n, db_p0_j, db_sub1, nI_eq, if_true, if_false, Bool.false_eq_true, Nat.one_ne_zero, db_g_147, e147, e1]
    · obtain ⟨f, f1, f2, f3⟩ := g1.1
      unfold db_f261
      simp (disch := omega) only [db_lit, eq_self, db_pI_e, db_pL_e, db_bind_some, db_bd_some, nI_add, pk_mul, nI_toInt, db_m1_t, dz_cn, Int.ofNat_le, Int.ofNat_lt, decide_true, decide_false, db_ct, db_cf, not_true_eq_false, not_false_eq_true, db_87e, db_37e, db_31e, db_28e, db_281e, db_211e, db_27, db_269w, db_litL, pk_lT, db_iL, db_p0_e, db_p0_n, db_p0_j, db_sub1, nI_eq, if_true, if_false, Bool.false_eq_true, Nat.one_ne_zero, e2, f3, (show ¬ f ≤ 0 by omega)]
/-- a Season -/
theorem dv_pSeason {k : Nat} (hC : dv_CT x n (i + 1) a) (hR : dv_RT x n i b) (h0 : b.1 669 12 = nI 0) (hD : dv_DR a (db_bk b 4) (db_bw b 4)) (hk : db_bk b 4 2 = nI k) (hkm : k < 3) : dv_Pt x n i a b (db_f65 a (nI 2) 149 (nI 7)) (db_f262 b) := by
  obtain ⟨r, a1, v, b1, e1, e2, h⟩ := dv_oNew (q := 2) (g := 2) (by omega) (by omega) rfl (by omega) hC hR h0 hD hk hkm
  have e2 : db_f232 b (nI 2) (nI 3) = some (v, b1) := e2
  have e147 : a.1 147 2 = nI k := by rw [hD.2.1 2 (by omega)]; exact hk
  rcases h with ⟨rfl, rfl, g1, g2, g3, g4, g5, g6⟩ | ⟨rfl, rfl, g1, g2, g3⟩
  · obtain ⟨l0, x1, x2, x3, x4, x5, x6, x7, x8, x9, x10⟩ := id g6
    have e20 : ∀ v, (db_uI b1 674 (1936 + k) v).1 674 1922 = nI k := fun v => by rw [db_uI_j (by omega), x9, show (1922 : Nat) = 1920 + 2 from rfl, dv_bk_4 (by omega)]; exact hk
    have h66 := dv_66 g1 (j := 7) (by decide)
    -- both ways
    have fin : ∀ (u : Nat) (a2 b2 : db_S) (i2 : Nat), u ≤ 1 → i + 2 ≤ i2 → dv_CT x n i2 a2 → dv_Fa a1 a2 → a2.1 149 = a1.1 149 → (∀ c, c ≠ 13 → a2.1 c = a1.1 c) → a2.2 = a1.2 → dv_RT x n i2 b2 → dv_Fn (db_uI b1 674 (1936 + k) (nI u)) b2 →
        (∃ i1, i < i1 ∧ dv_CT x n i1 (db_uI a2 149 k (nI u)) ∧ dv_RT x n i1 (db_uI b2 674 1922 (nI (k + 1)))) ∧ (db_uI b2 674 1922 (nI (k + 1))).1 669 12 = nI 0 ∧ dv_DR (db_uI a2 149 k (nI u)) (db_bk (db_uI b2 674 1922 (nI (k + 1))) 4) (db_bw (db_uI b2 674 1922 (nI (k + 1))) 4) ∧ dv_Fa a (db_uI a2 149 k (nI u)) ∧ dv_Fb b (db_uI b2 674 1922 (nI (k + 1))) := by
      intro u a2 b2 i2 hu hi2 hC2 hFa hcell hc hl hR2 hFn
      have ebk : db_bk (db_uI b2 674 1922 (nI (k + 1))) 4 = db_cu (db_cu (db_bk b 4) (16 + k) (nI u)) 2 (nI (k + 1)) := by
        rw [show (1922 : Nat) = 1920 + 2 from rfl, dv_bk_u (by omega), dv_bk_e (hFn.1 674 (by decide)).1, show 1936 + k = 1920 + (16 + k) by omega, dv_bk_u (by omega), dv_bk_e x9]
      have ebw : db_bw (db_uI b2 674 1922 (nI (k + 1))) 4 = db_bw b1 4 := dv_bw_e (by rw [db_uI_2, (hFn.1 676 (by decide)).2, db_uI_2])
      refine ⟨⟨i2, by omega, dv_CT_u hC2 (by omega), dv_RT_4 hR2⟩, ?_, ?_, dv_Fa_u (dv_Fa_t g4 hFa) (.inl (by omega)), dv_Fb_4 (dv_Fb_t (dv_Fb_4 g5 (by omega)) (dv_Fb_n hFn)) (by omega)⟩
      · rw [db_uI_n (by decide), hFn.2.1 12 (by omega), db_uI_n (by decide)]; exact g3
      · rw [ebk, ebw]
        have w8 : db_cu (db_cu (db_bk b 4) (16 + k) (nI u)) 2 (nI (k + 1)) (16 + k) = nI u := by rw [db_cu_n (by omega), db_cu_1]
        refine dv_DR_s (q0 := 2) (k := k) hD (by omega) hk hkm db_cu_1 (fun q h1 h => by rw [db_cu_n h, db_cu_n (by omega)]) (fun j h1 h2 h3 => ?_) ?_ (fun q h1 h => ?_) (fun c j h1 h2 h3 => ?_) (dv_Nx_N (by omega) (by omega) hD hk hkm g6 db_cu_1 (fun p h1 h => by rw [db_cu_n h, db_cu_n (by omega)]) ?_ ?_ ?_ ?_) (fun h => absurd h (by decide)) (fun _ => ?_) (fun h => absurd h (by decide)) (fun h => absurd h (by decide)) (fun h => absurd h (by decide))
        · unfold dv_Nw at h3
          rw [db_cu_n (by omega), db_cu_n (by omega)]
        · rw [db_uI_n (by decide), hc 147 (by decide), x5, if_pos rfl]
        · rw [db_uI_n (by decide), hc 147 (by decide), x5, if_neg h]
        · unfold dv_Na at h3
          rw [db_uI_if, if_neg (by omega), hc c (by omega), x1 c (by omega) (by omega) (by omega) (by omega) (by omega)]
        · rw [db_uI_n (by decide), hc 146 (by decide)]
        · rw [db_uI_2, hl]
        · rw [db_uI_n (by decide), hc 203 (by decide)]
        · rw [db_uI_n (by decide), hc 204 (by decide)]
        · rw [w8, db_uI_1]
          refine ⟨rfl, ?_⟩
          rcases (by omega : u = 0 ∨ u = 1) with rfl | rfl
          · exact .inl rfl
          · exact .inr rfl
    by_cases e : dv_w x n (i + 2) = nI 7
    · rw [if_pos e, decide_eq_true e] at h66
      have hkd := dv_w_kd (by decide) e
      obtain ⟨b2, eb2, r2, f2⟩ := dv_nx (dv_RT_4 (j := 1936 + k) (v := nI 1) g2)
      have hx := dv_x7 (dv_RT_4 (j := 1936 + k) (v := nI 1) g2)
      have hx0 := dv_x7 g2
      rw [decide_eq_true e] at hx hx0
      have e22 : b2.1 674 1922 = nI k := by rw [(f2.1 674 (by decide)).1]; exact e20 _
      refine ⟨true, _, _, ?_, ?_, .inl ⟨rfl, fin 1 (db_uI a1 13 9 (nI (i + 2 + 1))) b2 (i + 2 + 1) (by omega) (by omega) (dv_CT_s g1 (by omega)) (dv_Fa_u dv_Fa_r (.inr (by omega))) (db_uI_n (by decide)) (fun c h => db_uI_n h) rfl r2 f2⟩⟩
      · unfold db_f65 db_f65_b47
        simp (disch := omega) only [db_lit, eq_self, db_pI_e, db_pL_e, db_bind_some, db_bd_some, nI_add, pk_mul, nI_toInt, db_m1_t, dz_cn, Int.ofNat_le, Int.ofNat_lt, decide_true, decide_false, db_ct, db_cf, not_true_eq_false, not_false_eq_true, db_87e, db_37e, db_31e, db_28e, db_281e, db_211e, db_27, db_269w, db_litL, pk_lT, db_iL, db_p0_e, db_p0_n, db_p0_j, db_sub1, nI_eq, if_true, if_false, Bool.false_eq_true, Nat.one_ne_zero, db_g_147, e147, e1, h66, db_h_149]
      · unfold db_f262 db_f262_b36 db_f262_b48
        simp (disch := omega) only [db_lit, eq_self, db_pI_e, db_pL_e, db_bind_some, db_bd_some, nI_add, pk_mul, nI_toInt, db_m1_t, dz_cn, Int.ofNat_le, Int.ofNat_lt, decide_true, decide_false, db_ct, db_cf, not_true_eq_false, not_false_eq_true, db_87e, db_37e, db_31e, db_28e, db_281e, db_211e, db_27, db_269w, db_litL, pk_lT, db_iL, db_p0_e, db_p0_n, db_p0_j, db_sub1, nI_eq, if_true, if_false, Bool.false_eq_true, Nat.one_ne_zero, e2, g3, Nat.le_refl, hx0, db_h_674, hx, eb2, db_g_674, e22]
    · rw [if_neg e, decide_eq_false e] at h66
      have hx := dv_x7 (dv_RT_4 (j := 1936 + k) (v := nI 0) g2)
      have hx0 := dv_x7 g2
      rw [decide_eq_false e] at hx hx0
      have e22 := e20 (nI 0)
      refine ⟨true, _, _, ?_, ?_, .inl ⟨rfl, fin 0 a1 (db_uI b1 674 (1936 + k) (nI 0)) (i + 2) (by omega) (by omega) g1 dv_Fa_r rfl (fun c _ => rfl) rfl (dv_RT_4 g2) dv_Fn_r⟩⟩
      · unfold db_f65 db_f65_b47
        simp (disch := omega) only [db_lit, eq_self, db_pI_e, db_pL_e, db_bind_some, db_bd_some, nI_add, pk_mul, nI_toInt, db_m1_t, dz_cn, Int.ofNat_le, Int.ofNat_lt, decide_true, decide_false, db_ct, db_cf, not_true_eq_false, not_false_eq_true, db_87e, db_37e, db_31e, db_28e, db_281e, db_211e, db_27, db_269w, db_litL, pk_lT, db_iL, db_p0_e, db_p0_n, db_p0_j, db_sub1, nI_eq, if_true, if_false, Bool.false_eq_true, Nat.one_ne_zero, db_g_147, e147, e1, h66, db_h_149]
      · unfold db_f262 db_f262_b36 db_f262_b48
        simp (disch := omega) only [db_lit, eq_self, db_pI_e, db_pL_e, db_bind_some, db_bd_some, nI_add, pk_mul, nI_toInt, db_m1_t, dz_cn, Int.ofNat_le, Int.ofNat_lt, decide_true, decide_false, db_ct, db_cf, not_true_eq_false, not_false_eq_true, db_87e, db_37e, db_31e, db_28e, db_281e, db_211e, db_27, db_269w, db_litL, pk_lT, db_iL, db_p0_e, db_p0_n, db_p0_j, db_sub1, nI_eq, if_true, if_false, Bool.false_eq_true, Nat.one_ne_zero, e2, g3, Nat.le_refl, hx0, db_h_674, hx, db_g_674, e22]
  · refine ⟨false, a1, b1, ?_, ?_, .inr ⟨rfl, g1, g2, g3⟩⟩
    · unfold db_f65
      simp (disch := omega) only [db_lit, eq_self, db_pI_e, db_pL_e, db_bind_some, db_bd_some, nI_add, pk_mul, nI_toInt, db_m1_t, dz_cn, Int.ofNat_le, Int.ofNat_lt, decide_true, decide_false, db_ct, db_cf, not_true_eq_false, not_false_eq_true, db_87e, db_37e, db_31e, db_28e, db_281e, db_211e, db_27, db_269w, db_litL, pk_lT, db_iL, db_p0_e, db_p0_n, db_p0_j, db_sub1, nI_eq, if_true, if_false, Bool.false_eq_true, Nat.one_ne_zero, db_g_147, e147, e1]
    · obtain ⟨f, f1, f2, f3⟩ := g1.1
      unfold db_f262
      simp (disch := omega) only [db_lit, eq_self, db_pI_e, db_pL_e, db_bind_some, db_bd_some, nI_add, pk_mul, nI_toInt, db_m1_t, dz_cn, Int.ofNat_le, Int.ofNat_lt, decide_true, decide_false, db_ct, db_cf, not_true_eq_false, not_false_eq_true, db_87e, db_37e, db_31e, db_28e, db_281e, db_211e, db_27, db_269w, db_litL, pk_lT, db_iL, db_p0_e, db_p0_n, db_p0_j, db_sub1, nI_eq, if_true, if_false, Bool.false_eq_true, Nat.one_ne_zero, e2, f3, (show ¬ f ≤ 0 by omega)]
end DVNW
