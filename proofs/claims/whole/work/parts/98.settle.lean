/-! THE DRAFT IS SETTLED -/
/-- states of rules that hang together -/
def dv_J (c : db_C) (st : Nat → Nat) : Prop := (∀ r, st r < 3) ∧ (∀ r, r < db_n c 3 → st r = 0 → ∀ a, a < db_n c 3 → db_hit c a r = true → st a = 1) ∧ (∀ r, r < db_n c 3 → st r = 1 → ∃ a, a < db_n c 3 ∧ db_hit c a r = true ∧ st a = 0)
/-- one rule looked at -/
def dv_one (c : db_C) (st : Nat → Nat) (r : Nat) : Nat → Nat := fun i => if i = r ∧ st r = 2 then db_so c st r else st i
section DVSE
variable {a s z : db_S} {c : db_C} {w : Nat → Int64} {st : Nat → Nat} {r k n : Nat} {x y : Int32}
theorem dv_J_s (h : dv_J c st) (hr : r < db_n c 3) : dv_J c (dv_one c st r) := by
  obtain ⟨h1, h2, h3⟩ := h
  by_cases e : st r = 2
  · have eo : ∀ i, i ≠ r → dv_one c st r i = st i := fun i hi => if_neg fun h => hi h.1
    have er : dv_one c st r r = db_so c st r := if_pos ⟨rfl, e⟩
    have hne : ∀ {i t}, st i = t → t ≠ 2 → i ≠ r := fun h1 h2 h3 => by subst h3; omega
    have hso : db_so c st r < 3 := by
      unfold db_so
      (repeat' split) <;> omega
    refine ⟨fun i => ?_, fun i hi h0 p hp hh => ?_, fun i hi h0 => ?_⟩
    · by_cases ei : i = r
      · subst ei; rw [er]; exact hso
      · rw [eo i ei]; exact h1 i
    · by_cases ei : i = r
      · subst ei
        rw [er] at h0
        unfold db_so at h0
        by_cases e1 : db_ex (fun a => db_hit c a i && decide (st a = 0)) (db_n c 3) = true
        · rw [if_pos e1] at h0; omega
        · rw [if_neg e1] at h0
          by_cases e2 : db_ex (fun a => db_hit c a i && decide (st a = 2)) (db_n c 3) = true
          · rw [if_pos e2] at h0; omega
          · have n0 : ¬ st p = 0 := fun h => e1 (db_ex_iff.mpr ⟨p, hp, by rw [hh, decide_eq_true h]; rfl⟩)
            have n2 : ¬ st p = 2 := fun h => e2 (db_ex_iff.mpr ⟨p, hp, by rw [hh, decide_eq_true h]; rfl⟩)
            have := h1 p
            rw [eo p (hne (t := 1) (by omega) (by omega))]
            omega
      · rw [eo i ei] at h0
        have := h2 i hi h0 p hp hh
        rw [eo p (hne this (by omega))]
        exact this
    · by_cases ei : i = r
      · subst ei
        rw [er] at h0
        unfold db_so at h0
        by_cases e1 : db_ex (fun a => db_hit c a i && decide (st a = 0)) (db_n c 3) = true
        · obtain ⟨p, hp, hh⟩ := db_ex_iff.mp e1
          rw [Bool.and_eq_true, decide_eq_true_eq] at hh
          exact ⟨p, hp, hh.1, by rw [eo p (hne hh.2 (by omega))]; exact hh.2⟩
        · rw [if_neg e1] at h0
          by_cases e2 : db_ex (fun a => db_hit c a i && decide (st a = 2)) (db_n c 3) = true
          · rw [if_pos e2] at h0; omega
          · rw [if_neg e2] at h0; omega
      · rw [eo i ei] at h0
        obtain ⟨p, hp, hh, h4⟩ := h3 i hi h0
        exact ⟨p, hp, hh, by rw [eo p (hne h4 (by omega))]; exact h4⟩
  · have : dv_one c st r = st := by
      funext i
      exact if_neg fun h => e h.2
    rw [this]
    exact ⟨h1, h2, h3⟩
theorem dv_rd_s : db_rd c st (k + 1) = dv_one c (db_rd c st k) k := rfl
theorem dv_and0 : (x &&& y = nI 0) ↔ ∀ i, i < 32 → (bt x i && bt y i) = false := by
  constructor
  · intro h i hi
    rw [← b_and, h]
    exact b_0 i
  · intro h
    exact b_ext fun i hi => by rw [b_and, h i hi]; exact (b_0 i).symm
/-- the sets of a state -/
def dv_S (c : db_C) (st : Nat → Nat) (v : Nat) : Int32 := db_mk (fun r => decide (st r = v)) (db_n c 3)
theorem dv_S_bt (h3 : db_n c 3 ≤ 12) {v i : Nat} (hi : i < 32) : bt (dv_S c st v) i = (decide (i < db_n c 3) && decide (st i = v)) := db_mk_bt (by omega) hi
theorem dv_S_u (h3 : db_n c 3 ≤ 12) {v : Nat} (hr : r < db_n c 3) {st1 : Nat → Nat} (h : ∀ i, i < db_n c 3 → decide (st1 i = v) = (decide (st i = v) || decide (i = r))) : dv_S c st v ||| db_b1 r = dv_S c st1 v := by
  unfold dv_S
  rw [db_mk_set hr (by omega)]
  exact db_mk_cong fun i hi => (h i hi).symm
/-- one rule, the class's -/
theorem dv_81s (h3 : db_n c 3 ≤ 12) (hJ : dv_J c st) (hr : r < db_n c 3) (hx : x = db_mk (fun a => db_hit c a r) (db_n c 3)) : (if x &&& dv_S c st 0 = nI 0 then (if x &&& (dv_S c st 1 ^^^ -(nI 1)) = nI 0 then dv_S c (dv_one c st r) 0 = dv_S c st 0 ||| db_b1 r ∧ dv_S c (dv_one c st r) 1 = dv_S c st 1 else dv_S c (dv_one c st r) 0 = dv_S c st 0 ∧ dv_S c (dv_one c st r) 1 = dv_S c st 1) else dv_S c (dv_one c st r) 0 = dv_S c st 0 ∧ dv_S c (dv_one c st r) 1 = dv_S c st 1 ||| db_b1 r) := by
  obtain ⟨j1, j2, j3⟩ := hJ
  have hxb : ∀ i, i < 32 → bt x i = (decide (i < db_n c 3) && db_hit c i r) := fun i hi => by rw [hx]; exact db_mk_bt (by omega) hi
  have c1 : (x &&& dv_S c st 0 = nI 0) ↔ ¬ db_ex (fun a => db_hit c a r && decide (st a = 0)) (db_n c 3) = true := by
    rw [dv_and0]
    constructor
    · intro h he
      obtain ⟨p, hp, hh⟩ := db_ex_iff.mp he
      rw [Bool.and_eq_true, decide_eq_true_eq] at hh
      have := h p (by omega)
      rw [hxb p (by omega), dv_S_bt h3 (by omega), decide_eq_true hp, hh.1, decide_eq_true hh.2] at this
      cases this
    · intro h i hi
      rw [hxb i hi, dv_S_bt h3 hi]
      cases e1 : db_hit c i r with
      | false => rw [Bool.and_false, Bool.false_and]
      | true =>
        by_cases e2 : i < db_n c 3
        · by_cases e3 : st i = 0
          · exact absurd (db_ex_iff.mpr ⟨i, e2, by rw [e1, decide_eq_true e3]; rfl⟩) h
          · rw [decide_eq_false e3, Bool.and_false, Bool.and_false]
        · rw [decide_eq_false e2, Bool.false_and, Bool.false_and]
  have c2 : (x &&& (dv_S c st 1 ^^^ -(nI 1)) = nI 0) ↔ ∀ p, p < db_n c 3 → db_hit c p r = true → st p = 1 := by
    rw [dv_and0]
    have hn : ∀ i, i < 32 → bt (dv_S c st 1 ^^^ -(nI 1)) i = !(decide (i < db_n c 3) && decide (st i = 1)) := fun i hi => by
      rw [b_xor, dv_S_bt h3 hi, show (-(nI 1) : Int32) = -1 from rfl, b_m1 i hi, Bool.xor_true]
    constructor
    · intro h p hp hh
      have := h p (by omega)
      rw [hxb p (by omega), hn p (by omega), decide_eq_true hp, hh] at this
      by_cases e : st p = 1
      · exact e
      · rw [decide_eq_false e] at this
        cases this
    · intro h i hi
      rw [hxb i hi, hn i hi]
      cases e1 : db_hit c i r with
      | false => rw [Bool.and_false, Bool.false_and]
      | true =>
        by_cases e2 : i < db_n c 3
        · rw [decide_eq_true e2, decide_eq_true (h i e2 e1)]
          rfl
        · rw [decide_eq_false e2, Bool.false_and, Bool.false_and]
  have keep : dv_one c st r = st → ∀ v, dv_S c (dv_one c st r) v = dv_S c st v := fun h v => by rw [h]
  have eo : ∀ i, i ≠ r → dv_one c st r i = st i := fun i hi => if_neg fun h => hi h.1
  have same : ∀ v, dv_one c st r r ≠ v → st r ≠ v → dv_S c (dv_one c st r) v = dv_S c st v := fun v h1 h2 => db_mk_cong fun i _ => by
    by_cases e : i = r
    · subst e; rw [decide_eq_false h1, decide_eq_false h2]
    · rw [eo i e]
  have more : ∀ v, dv_one c st r r = v → dv_S c (dv_one c st r) v = dv_S c st v ||| db_b1 r := fun v h1 => (dv_S_u h3 hr fun i _ => by
    by_cases e : i = r
    · subst e; rw [decide_eq_true h1, decide_eq_true (show i = i from rfl), Bool.or_true]
    · rw [eo i e, decide_eq_false e, Bool.or_false]).symm
  by_cases h2 : st r = 2
  · have er : dv_one c st r r = db_so c st r := if_pos ⟨rfl, h2⟩
    unfold db_so at er
    by_cases e1 : db_ex (fun a => db_hit c a r && decide (st a = 0)) (db_n c 3) = true
    · rw [if_pos e1] at er
      rw [if_neg (fun h => c1.mp h e1)]
      exact ⟨same 0 (by omega) (by omega), more 1 er⟩
    · rw [if_neg e1] at er
      rw [if_pos (c1.mpr e1)]
      by_cases e2 : db_ex (fun a => db_hit c a r && decide (st a = 2)) (db_n c 3) = true
      · rw [if_pos e2] at er
        obtain ⟨p, hp, hh⟩ := db_ex_iff.mp e2
        rw [Bool.and_eq_true, decide_eq_true_eq] at hh
        rw [if_neg (fun h => by have := c2.mp h p hp hh.1; omega)]
        exact ⟨same 0 (by omega) (by omega), same 1 (by omega) (by omega)⟩
      · rw [if_neg e2] at er
        rw [if_pos (c2.mpr fun p hp hh => ?_)]
        · exact ⟨more 0 er, same 1 (by omega) (by omega)⟩
        · have n0 : ¬ st p = 0 := fun h => e1 (db_ex_iff.mpr ⟨p, hp, by rw [hh, decide_eq_true h]; rfl⟩)
          have n2 : ¬ st p = 2 := fun h => e2 (db_ex_iff.mpr ⟨p, hp, by rw [hh, decide_eq_true h]; rfl⟩)
          have := j1 p
          omega
  · have ek : dv_one c st r = st := by
      funext i
      exact if_neg fun h => h2 h.2
    have := j1 r
    rcases (by omega : st r = 0 ∨ st r = 1) with h0 | h0
    · have hall := j2 r hr h0
      have e1 : ¬ db_ex (fun a => db_hit c a r && decide (st a = 0)) (db_n c 3) = true := fun h => by
        obtain ⟨p, hp, hh⟩ := db_ex_iff.mp h
        rw [Bool.and_eq_true, decide_eq_true_eq] at hh
        have := hall p hp hh.1
        omega
      rw [if_pos (c1.mpr e1), if_pos (c2.mpr hall)]
      exact ⟨more 0 (by rw [ek]; exact h0), keep ek 1⟩
    · obtain ⟨p, hp, hh, h4⟩ := j3 r hr h0
      have e1 : db_ex (fun a => db_hit c a r && decide (st a = 0)) (db_n c 3) = true := db_ex_iff.mpr ⟨p, hp, by rw [hh, decide_eq_true h4]; rfl⟩
      rw [if_neg (fun h => c1.mp h e1)]
      exact ⟨keep ek 0, more 1 (by rw [ek]; exact h0)⟩
/-- which rules stand, the class's -/
def dv_81I (c : db_C) (s a : db_S) (st : Nat → Nat) : Prop := a.1 146 13 = dv_S c st 0 ∧ a.1 146 14 = dv_S c st 1 ∧ (∀ b, b ≠ 146 → a.1 b = s.1 b) ∧ (∀ j, j ≠ 13 → j ≠ 14 → a.1 146 j = s.1 146 j) ∧ a.2 = s.2
theorem dv_81 (h3 : db_n c 3 ≤ 12) (hn : s.1 147 3 = nI (db_n c 3)) (hx : ∀ r, r < db_n c 3 → s.1 189 r = db_mk (fun a => db_hit c a r) (db_n c 3)) : dz_T (db_f81_146 s) (fun z => dv_81I c s z (db_st c)) := by
  have hJ0 : ∀ m k, k ≤ db_n c 3 → dv_J c (db_rs c m) → dv_J c (db_rd c (db_rs c m) k) := by
    intro m k
    induction k with
    | zero => exact fun _ h => h
    | succ k IH => exact fun hk h => by rw [dv_rd_s]; exact dv_J_s (IH (by omega) h) (by omega)
  have hJ : ∀ m, dv_J c (db_rs c m) := by
    intro m
    induction m with
    | zero => exact ⟨fun _ => by show 2 < 3; omega, fun r _ h => absurd h (by show ¬ 2 = 0; omega), fun r _ h => absurd h (by show ¬ 2 = 1; omega)⟩
    | succ m IH => exact hJ0 m _ (Nat.le_refl _) IH
  unfold db_f81_146
  simp (disch := omega) only [db_lit, eq_self, db_pI_e, db_pL_e, db_bind_some, db_bd_some, nI_add, pk_mul, nI_toInt, db_m1_t, dz_cn, Int.ofNat_le, Int.ofNat_lt, decide_true, decide_false, db_ct, db_cf, not_true_eq_false, not_false_eq_true]
  refine db_loop (L := fun f (a : db_S) m => db_f81_146_b12 f a (nI m)) (N := 12) (fun m a => dv_81I c s a (db_rs c m)) ?_ ?_ (n := db_FU) (by unfold db_FU; omega) ?_
  · rintro f a h
    show dz_T (db_f81_146_b12 (f + 1) a (nI 12)) _
    rw [db_f81_146_b12]
    simp (disch := omega) only [db_lit, eq_self, db_pI_e, db_pL_e, db_bind_some, db_bd_some, nI_add, pk_mul, nI_toInt, db_m1_t, dz_cn, Int.ofNat_le, Int.ofNat_lt, decide_true, decide_false, db_ct, db_cf, not_true_eq_false, not_false_eq_true, Nat.le_refl]
    exact ⟨_, rfl, h⟩
  · rintro f m a hm h hrec
    show dz_T (db_f81_146_b12 (f + 1) a (nI m)) _
    rw [db_f81_146_b12]
    simp (disch := omega) only [db_lit, eq_self, db_pI_e, db_pL_e, db_bind_some, db_bd_some, nI_add, pk_mul, nI_toInt, db_m1_t, dz_cn, Int.ofNat_le, Int.ofNat_lt, decide_true, decide_false, db_ct, db_cf, not_true_eq_false, not_false_eq_true, (show ¬ 12 ≤ m by omega)]
    refine db_loop (L := fun g (a : db_S) k => db_f81_146_b20 (db_f81_146_b12 f) g a (nI m) (nI k)) (N := db_n c 3) (fun k a => dv_81I c s a (db_rd c (db_rs c m) k)) ?_ ?_ (n := db_FU) (by unfold db_FU; omega) h
    · rintro g a' h'
      show dz_T (db_f81_146_b20 (db_f81_146_b12 f) (g + 1) a' (nI m) (nI (db_n c 3))) _
      have e147 : a'.1 147 3 = nI (db_n c 3) := by rw [h'.2.2.1 147 (by decide)]; exact hn
      rw [db_f81_146_b20]
      simp (disch := omega) only [db_lit, eq_self, db_pI_e, db_pL_e, db_bind_some, db_bd_some, nI_add, pk_mul, nI_toInt, db_m1_t, dz_cn, Int.ofNat_le, Int.ofNat_lt, decide_true, decide_false, db_ct, db_cf, not_true_eq_false, not_false_eq_true, db_g_147, e147, Nat.le_refl]
      exact hrec a' h'
    · rintro g k a' hk ⟨g1, g2, g3, g4, g5⟩ hrec'
      show dz_T (db_f81_146_b20 (db_f81_146_b12 f) (g + 1) a' (nI m) (nI k)) _
      have e147 : a'.1 147 3 = nI (db_n c 3) := by rw [g3 147 (by decide)]; exact hn
      have e189 : a'.1 189 k = db_mk (fun a => db_hit c a k) (db_n c 3) := by rw [g3 189 (by decide)]; exact hx k hk
      have hs := dv_81s h3 (hJ0 m k (by omega) (hJ m)) hk e189
      rw [← dv_rd_s] at hs
      have eb : (nI 1 <<< (nI k &&& nI 31)) = db_b1 k := rfl
      rw [db_f81_146_b20]
      unfold db_f81_146_b87
      simp (disch := omega) only [db_lit, eq_self, db_pI_e, db_pL_e, db_bind_some, db_bd_some, nI_add, pk_mul, nI_toInt, db_m1_t, dz_cn, Int.ofNat_le, Int.ofNat_lt, decide_true, decide_false, db_ct, db_cf, not_true_eq_false, not_false_eq_true, db_g_147, e147, (show ¬ db_n c 3 ≤ k by omega), db_g_189, g1, g2, eb, db_m1_l]
      generalize a'.1 189 k = x at hs
      by_cases e1 : x &&& dv_S c (db_rd c (db_rs c m) k) 0 = nI 0
      · rw [if_pos e1] at hs
        rw [decide_eq_true e1, db_ct]
        by_cases e2 : x &&& (dv_S c (db_rd c (db_rs c m) k) 1 ^^^ -(nI 1)) = nI 0
        · rw [if_pos e2] at hs
          rw [decide_eq_false (fun h => h e2), db_cf]
          refine hrec' _ ⟨?_, ?_, fun b hb => ?_, fun j j1 j2 => ?_, g5⟩
          · rw [db_uI_1]; exact hs.1.symm
          · rw [db_uI_j (by decide), g2]; exact hs.2.symm
          · rw [db_uI_n hb]; exact g3 b hb
          · rw [db_uI_j j1]; exact g4 j j1 j2
        · rw [if_neg e2] at hs
          rw [decide_eq_true e2, db_ct]
          exact hrec' _ ⟨g1.trans hs.1.symm, g2.trans hs.2.symm, g3, g4, g5⟩
      · rw [if_neg e1] at hs
        rw [decide_eq_false e1, db_cf]
        refine hrec' _ ⟨?_, ?_, fun b hb => ?_, fun j j1 j2 => ?_, g5⟩
        · rw [db_uI_j (by decide), g1]; exact hs.1.symm
        · rw [db_uI_1]; exact hs.2.symm
        · rw [db_uI_n hb]; exact g3 b hb
        · rw [db_uI_j j2]; exact g4 j j1 j2
  · have e2 : ∀ v, v < 2 → dv_S c (db_rs c 0) v = nI 0 := fun v hv => by
      refine b_ext fun i hi => ?_
      rw [dv_S_bt h3 hi, decide_eq_false (show ¬ db_rs c 0 i = v by show ¬ 2 = v; omega), Bool.and_false]
      exact (b_0 i).symm
    refine ⟨?_, ?_, fun b hb => ?_, fun j j1 j2 => ?_, rfl⟩
    · rw [db_uI_j (by decide), db_uI_1, e2 0 (by omega)]
    · rw [db_uI_1, e2 1 (by omega)]
    · rw [db_uI_n hb, db_uI_n hb]
    · rw [db_uI_j j2, db_uI_j j1]
/-- notes told so far -/
def dv_hi (c : db_C) (i p q : Nat) : Bool := db_ex (fun k => decide (c (103 + k) = nI p) && decide (c (115 + k) = nI q)) i
/-- what settle makes -/
def dv_SE (c : db_C) (s z : db_S) : Prop := (∀ r, r < db_n c 3 → z.1 188 r = db_mk (fun b => db_hit c r b) (db_n c 3) ∧ z.1 189 r = db_mk (fun a => db_hit c a r) (db_n c 3)) ∧ (z.1 146 13 = db_mk (fun r => decide (db_st c r = 0)) (db_n c 3) ∧ z.1 146 14 = db_mk (fun r => decide (db_st c r = 1)) (db_n c 3)) ∧
  (∀ t, t < db_n c 0 → z.1 201 t = nI (fb_ct (fun r => decide (c (19 + r) = nI t)) (db_n c 3)) ∧ ∀ r, r < db_n c 3 → c (19 + r) = nI t → z.1 (191 + t) (fb_ct (fun r => decide (c (19 + r) = nI t)) r) = nI r) ∧
  (∀ b, ¬ (188 ≤ b ∧ b ≤ 201) → b ≠ 146 → z.1 b = s.1 b) ∧ (∀ j, j ≠ 13 → j ≠ 14 → z.1 146 j = s.1 146 j) ∧ z.2 = s.2
theorem dv_77s (h : dv_DR s c w) (hfr : ∀ r, r < db_n c 3 → z.1 188 r = nI 0 ∧ z.1 189 r = nI 0) (h1 : ∀ b, ¬ (188 ≤ b ∧ b ≤ 201) → z.1 b = s.1 b) (h2 : z.2 = s.2) (hT : ∀ t, t < db_n c 0 → z.1 201 t = nI (fb_ct (fun r => decide (c (19 + r) = nI t)) (db_n c 3)) ∧ ∀ r, r < db_n c 3 → c (19 + r) = nI t → z.1 (191 + t) (fb_ct (fun r => decide (c (19 + r) = nI t)) r) = nI r) : dz_T (db_f80_146_b77 db_FU z (nI 0)) (fun y => dv_SE c s y) := by
  obtain ⟨⟨k0, k1, k2, k3, k4, k5⟩, d1, d2, d3, d4, d5, -⟩ := h
  have j0 := k0.2
  have j3 := k3.2
  have j4 := k4.2
  refine db_loop (L := fun f (a : db_S) i => db_f80_146_b77 f a (nI i)) (N := db_n c 4) (fun i a => (∀ r, r < db_n c 3 → a.1 188 r = db_mk (fun b => dv_hi c i r b) (db_n c 3) ∧ a.1 189 r = db_mk (fun p => dv_hi c i p r) (db_n c 3)) ∧ (∀ b, b ≠ 188 → b ≠ 189 → a.1 b = z.1 b) ∧ a.2 = z.2) ?_ ?_ (n := db_FU) (by unfold db_FU; omega) ⟨fun r hr => ?_, fun b _ _ => rfl, rfl⟩
  · rintro f a ⟨g1, g2, g3⟩
    show dz_T (db_f80_146_b77 (f + 1) a (nI (db_n c 4))) _
    have e147 : ∀ q, q < 6 → a.1 147 q = c q := fun q hq => by rw [g2 147 (by decide) (by decide), h1 147 (by omega)]; exact d1 q hq
    have e4 : a.1 147 4 = nI (db_n c 4) := by rw [e147 4 (by omega)]; exact k4.1
    have e3 : a.1 147 3 = nI (db_n c 3) := by rw [e147 3 (by omega)]; exact k3.1
    rw [db_f80_146_b77]
    simp (disch := omega) only [db_lit, eq_self, db_pI_e, db_pL_e, db_bind_some, db_bd_some, nI_add, pk_mul, nI_toInt, db_m1_t, dz_cn, Int.ofNat_le, Int.ofNat_lt, decide_true, decide_false, db_ct, db_cf, not_true_eq_false, not_false_eq_true, db_g_147, e4, Nat.le_refl]
    refine db_T_go (dv_81 (c := c) j3 e3 (fun r hr => (g1 r hr).2)) fun y hy => ?_
    obtain ⟨y1, y2, y3, y4, y5⟩ := hy
    refine ⟨y, rfl, fun r hr => ?_, ⟨y1, y2⟩, fun t ht => ?_, fun b b1 b2 => ?_, fun j n1 n2 => ?_, y5.trans (g3.trans h2)⟩
    · rw [y3 188 (by decide), y3 189 (by decide)]
      exact g1 r hr
    · rw [y3 201 (by decide), y3 (191 + t) (by omega), g2 201 (by decide) (by decide), g2 (191 + t) (by omega) (by omega)]
      exact hT t ht
    · rw [y3 b b2, g2 b (by omega) (by omega), h1 b b1]
    · rw [y4 j n1 n2, g2 146 (by decide) (by decide), h1 146 (by omega)]
  · rintro f i a hi ⟨g1, g2, g3⟩ hrec
    show dz_T (db_f80_146_b77 (f + 1) a (nI i)) _
    have e147 : ∀ q, q < 6 → a.1 147 q = c q := fun q hq => by rw [g2 147 (by decide) (by decide), h1 147 (by omega)]; exact d1 q hq
    have e4 : a.1 147 4 = nI (db_n c 4) := by rw [e147 4 (by omega)]; exact k4.1
    obtain ⟨⟨n1, n2⟩, ⟨p, hp, ep⟩, ⟨q, hq, eq⟩⟩ := d5 i hi
    have m0 : a.1 (164 + i) 0 = nI p := by rw [g2 (164 + i) (by omega) (by omega), h1 (164 + i) (by omega), n1, ep]
    have m1 : a.1 (164 + i) 1 = nI q := by rw [g2 (164 + i) (by omega) (by omega), h1 (164 + i) (by omega), n2, eq]
    have u1 : ∀ {v : Int32}, (db_uI a 188 p v).1 (164 + i) = a.1 (164 + i) := fun {v} => db_uI_n (by omega)
    have u2 : ∀ {v : Int32}, (db_uI a 188 p v).1 189 = a.1 189 := fun {v} => db_uI_n (by omega)
    rw [db_f80_146_b77]
    simp (disch := omega) only [db_lit, eq_self, db_pI_e, db_pL_e, db_bind_some, db_bd_some, nI_add, pk_mul, nI_toInt, db_m1_t, dz_cn, Int.ofNat_le, Int.ofNat_lt, decide_true, decide_false, db_ct, db_cf, not_true_eq_false, not_false_eq_true, db_g_147, e4, (show ¬ db_n c 4 ≤ i by omega), db_q_163, db_g_164, m0, m1, db_g_188, db_h_188, u1, db_g_189, u2, db_h_189, (g1 p hp).1, (g1 q hq).2]
    have eb : ∀ k, (nI 1 <<< (nI k &&& nI 31)) = db_b1 k := fun _ => rfl
    have hs : ∀ x y, dv_hi c (i + 1) x y = (dv_hi c i x y || (decide (nI p = nI x) && decide (nI q = nI y))) := fun x y => by
      rw [← ep, ← eq]
      rfl
    refine hrec _ ⟨fun r hr => ⟨?_, ?_⟩, fun b b1 b2 => ?_, ?_⟩
    · rw [db_uI_n (by decide)]
      by_cases e : r = p
      · subst e
        rw [db_uI_1, eb, db_mk_set hq (by omega)]
        refine db_mk_cong fun k hk => ?_
        rw [hs, decide_eq_true (show nI r = nI r from rfl), Bool.true_and]
        congr 1
        rw [decide_eq_decide, nI_eq (by omega) (by omega)]
        exact eq_comm
      · rw [db_uI_j e, (g1 r hr).1]
        refine db_mk_cong fun k hk => ?_
        rw [hs, decide_eq_false (show ¬ nI p = nI r by rw [nI_eq (by omega) (by omega)]; omega), Bool.false_and, Bool.or_false]
    · by_cases e : r = q
      · subst e
        rw [db_uI_1, eb, db_mk_set hp (by omega)]
        refine db_mk_cong fun k hk => ?_
        rw [hs, decide_eq_true (show nI r = nI r from rfl), Bool.and_true]
        congr 1
        rw [decide_eq_decide, nI_eq (by omega) (by omega)]
        exact eq_comm
      · rw [db_uI_j e, db_uI_n (by decide), (g1 r hr).2]
        refine db_mk_cong fun k hk => ?_
        rw [hs, decide_eq_false (show ¬ nI q = nI r by rw [nI_eq (by omega) (by omega)]; omega), Bool.and_false, Bool.or_false]
    · rw [db_uI_n b2, db_uI_n b1]
      exact g2 b b1 b2
    · exact g3
  · have e0 : ∀ f : Nat → Bool, (∀ k, f k = false) → db_mk f (db_n c 3) = nI 0 := fun f hf => b_ext fun i hi => by
      rw [db_mk_bt (by omega) hi, hf i, Bool.and_false]
      exact (b_0 i).symm
    rw [(hfr r hr).1, (hfr r hr).2]
    exact ⟨(e0 (fun b => dv_hi c 0 r b) (fun k => rfl)).symm, (e0 (fun p => dv_hi c 0 p r) (fun k => rfl)).symm⟩
/-- settle -/
theorem dv_80 (h : dv_DR s c w) : dz_T (db_f80_146 s) (fun y => dv_SE c s y) := by
  obtain ⟨⟨k0, k1, k2, k3, k4, k5⟩, d1, d2, d3, d4, d5, -⟩ := id h
  have j0 := k0.2
  have j3 := k3.2
  unfold db_f80_146
  obtain ⟨z1, e1, f1, f2⟩ := db_2 (s := s) (a := 201) (L := 10) (v := nI 0) rfl rfl rfl (by omega)
  obtain ⟨z2, e2, g1, g2⟩ := db_2 (s := z1) (a := 188) (L := 12) (v := nI 0) rfl rfl rfl (by omega)
  obtain ⟨z3, e3, i1, i2⟩ := db_2 (s := z2) (a := 189) (L := 12) (v := nI 0) rfl rfl rfl (by omega)
  simp (disch := omega) only [db_lit, eq_self, db_pI_e, db_pL_e, db_bind_some, db_bd_some, nI_add, pk_mul, nI_toInt, db_m1_t, dz_cn, Int.ofNat_le, Int.ofNat_lt, decide_true, decide_false, db_ct, db_cf, not_true_eq_false, not_false_eq_true, e1, e2, e3]
  have b0 : ∀ b, b ≠ 201 → b ≠ 188 → b ≠ 189 → z3.1 b = s.1 b := fun b b1 b2 b3 => by rw [i1.1 b b3, g1.1 b b2, f1.1 b b1]
  have bl : z3.2 = s.2 := by rw [i1.2, g1.2, f1.2]
  have b201 : ∀ j, j < 10 → z3.1 201 j = nI 0 := fun j hj => by rw [i1.1 201 (by decide), g1.1 201 (by decide)]; exact f2 j hj
  have b188 : ∀ j, j < 12 → z3.1 188 j = nI 0 := fun j hj => by rw [i1.1 188 (by decide)]; exact g2 j hj
  refine db_loop (L := fun f (a : db_S) r => db_f80_146_b26 f a (nI r)) (N := db_n c 3) (fun r a => (∀ t, t < db_n c 0 → a.1 201 t = nI (fb_ct (fun r => decide (c (19 + r) = nI t)) r) ∧ ∀ r', r' < r → c (19 + r') = nI t → a.1 (191 + t) (fb_ct (fun r => decide (c (19 + r) = nI t)) r') = nI r') ∧ (∀ b, ¬ (191 ≤ b ∧ b ≤ 201) → a.1 b = z3.1 b) ∧ a.2 = z3.2) ?_ ?_ (n := db_FU) (by unfold db_FU; omega) ⟨fun t ht => ⟨b201 t (by omega), fun r' hr' => absurd hr' (by omega)⟩, fun b _ => rfl, rfl⟩
  · rintro f a ⟨q1, q2, q3⟩
    show dz_T (db_f80_146_b26 (f + 1) a (nI (db_n c 3))) _
    have e3 : a.1 147 3 = nI (db_n c 3) := by rw [q2 147 (by omega), b0 147 (by decide) (by decide) (by decide), d1 3 (by omega)]; exact k3.1
    rw [db_f80_146_b26]
    simp (disch := omega) only [db_lit, eq_self, db_pI_e, db_pL_e, db_bind_some, db_bd_some, nI_add, pk_mul, nI_toInt, db_m1_t, dz_cn, Int.ofNat_le, Int.ofNat_lt, decide_true, decide_false, db_ct, db_cf, not_true_eq_false, not_false_eq_true, db_g_147, e3, Nat.le_refl]
    exact dv_77s h (fun r hr => ⟨by rw [q2 188 (by omega)]; exact b188 r (by omega), by rw [q2 189 (by omega)]; exact i2 r (by omega)⟩) (fun b hb => by rw [q2 b (by omega), b0 b (by omega) (by omega) (by omega)]) (q3.trans bl) q1
  · rintro f r a hr ⟨q1, q2, q3⟩ hrec
    show dz_T (db_f80_146_b26 (f + 1) a (nI r)) _
    have e3 : a.1 147 3 = nI (db_n c 3) := by rw [q2 147 (by omega), b0 147 (by decide) (by decide) (by decide), d1 3 (by omega)]; exact k3.1
    obtain ⟨⟨r0, -⟩, ⟨t, ht, et⟩, -⟩ := d4 r hr
    have m0 : a.1 (151 + r) 0 = nI t := by rw [q2 (151 + r) (by omega), b0 (151 + r) (by omega) (by omega) (by omega), r0, et]
    have hct := fb_ct_le (fun r => decide (c (19 + r) = nI t)) r
    have e201 := (q1 t ht).1
    have u1 : ∀ {v : Int32} {j : Nat}, (db_uI a (191 + t) j v).1 201 = a.1 201 := fun {v j} => db_uI_n (by omega)
    rw [db_f80_146_b26]
    simp (disch := omega) only [db_lit, eq_self, db_pI_e, db_pL_e, db_bind_some, db_bd_some, nI_add, pk_mul, nI_toInt, db_m1_t, dz_cn, Int.ofNat_le, Int.ofNat_lt, decide_true, decide_false, db_ct, db_cf, not_true_eq_false, not_false_eq_true, db_g_147, e3, (show ¬ db_n c 3 ≤ r by omega), db_q_150, db_g_151, m0, db_q_190, db_g_201, e201, db_h_191, u1, db_h_201]
    refine hrec _ ⟨fun t' ht' => ⟨?_, fun r' hr' hc' => ?_⟩, fun b hb => ?_, ?_⟩
    · by_cases e : t' = t
      · subst e
        rw [db_uI_1, fb_ct_succ, et, decide_eq_true (show nI t' = nI t' from rfl), if_pos rfl]
      · rw [db_uI_j e, db_uI_n (by omega), (q1 t' ht').1, fb_ct_succ, et, decide_eq_false (show ¬ nI t = nI t' by rw [nI_eq (by omega) (by omega)]; omega), if_neg (by decide), Nat.add_zero]
    · rw [db_uI_n (by omega)]
      by_cases e : t' = t
      · subst e
        by_cases er : r' = r
        · subst er; exact db_uI_1
        · have hlt := fb_ct_mono (fun r => decide (c (19 + r) = nI t')) (show r' + 1 ≤ r by omega)
          rw [fb_ct_succ, hc', decide_eq_true (show nI t' = nI t' from rfl), if_pos rfl] at hlt
          rw [db_uI_j (by omega)]
          exact (q1 t' ht').2 r' (by omega) hc'
      · rw [db_uI_n (by omega)]
        refine (q1 t' ht').2 r' ?_ hc'
        refine Nat.lt_of_le_of_ne (by omega) fun er => ?_
        subst er
        rw [et, nI_eq (by omega) (by omega)] at hc'
        omega
    · rw [db_uI_n (by omega), db_uI_n (by omega)]
      exact q2 b hb
    · exact q3
end DVSE
