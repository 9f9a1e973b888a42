/-! STOCK, the loops and the call -/
theorem dw_pw : ∀ n, n < 9 → nI 1 <<< (nI n &&& nI 31) = nI (2 ^ n) := by decide
section DBSL
variable {U : Nat} {s z : db_S} {c : db_C} {w : Nat → Int64} {v x y p q : Int32}
theorem dw_bs_lt : ∀ {k b : Nat}, dw_bs c p q x k = some b → b < k
  | 0, b, h => nomatch h
  | k + 1, b, h => by
    rw [dw_bs] at h
    by_cases e : dw_hit c p q x k = true
    · rw [if_pos e] at h
      cases hb : dw_bs c p q x k with
      | none =>
        rw [hb] at h
        cases h
        omega
      | some b' =>
        rw [hb] at h
        have := dw_bs_lt hb
        dsimp only at h
        by_cases e2 : dw_pz c k < dw_pz c b'
        · rw [if_pos e2] at h; cases h; omega
        · rw [if_neg e2] at h; cases h; omega
    · rw [if_neg e] at h
      have := dw_bs_lt h
      omega
/-- what the class's search keeps -/
def dw_kc (s z : db_S) : Prop := (∀ b, b ≠ 80 → b ≠ 81 → b ≠ 82 → b ≠ 273 → b ≠ 274 → b ≠ 276 → b ≠ 277 → b ≠ 278 → z.1 b = s.1 b) ∧ (∀ j, j ≠ 2 → z.1 274 j = s.1 274 j) ∧ z.2 = s.2
theorem dw_gg_B1 (hB : db_B1 U 20 s c w) (h : dw_gg s z) : db_B1 U 20 z c w := by
  have hO := hB.1
  have hR := hB.2.1
  have j1 := hO.1.2.1.2
  have j3 := hO.1.2.2.2.1.2
  obtain ⟨g1, g2, g3, g4, g5⟩ := h
  refine db_B1_u hB (fun k hk => rfl) (fun a q1 q2 q3 q4 q5 q6 => g1 a q4 q5 q6 (by omega)) (by rw [g2]) (fun r hr => ?_) (fun p hp => ?_) ⟨?_, hO.2.2.2.2.2.2.1⟩ ⟨?_, hO.2.2.2.2.2.2.2⟩
  · rw [g3 r (by omega)]
    exact ⟨db_81 hR hr, (hO.2.1 r hr).2.2.2.2.2.2⟩
  · rw [g4 p (by omega)]
    exact ⟨db_82 hR hp, (hO.2.2.2.2.1 p hp).2⟩
  · rw [g5]; exact (db_802 hR).1
  · rw [g5]; exact (db_802 hR).2
theorem dw_gg_sv (h : dw_gg s z) (hs : dw_sv s) : dw_sv z := by
  obtain ⟨g1, g2, g3, g4, g5⟩ := h
  obtain ⟨v1, v2, v3, v4⟩ := hs
  refine ⟨fun j hj => ?_, fun j hj => ?_, ?_, ?_⟩
  · rw [g1 277 (by decide) (by decide) (by decide) (by decide), g3 j hj]; exact v1 j hj
  · rw [g1 278 (by decide) (by decide) (by decide) (by decide), g4 j hj]; exact v2 j hj
  · rw [g1 276 (by decide) (by decide) (by decide) (by decide), g5]; exact v3
  · rw [g1 276 (by decide) (by decide) (by decide) (by decide), g5]; exact v4
theorem dw_kc_B1 (hB : db_B1 U 20 s c w) {a : db_S} (h1 : ∀ b, 20 ≤ b → b < 145 → a.1 b = s.1 b) (h2 : a.2 = s.2) : db_B1 U 20 a c w := db_B1_c (fun b q1 q2 q3 => h1 b q1 (by omega)) (by rw [h2]) hB
/-- the class's search -/
theorem dw_174 (hB : db_B1 U 20 s c w) (hU : U + 48 ≤ 1000000000) (hp : db_O p (db_n c 1)) (hq : db_O q (db_n c 2)) : dz_T (db_f174 s x p q) (fun z => z.1 = dw_o2 c (dw_bs c p q x (2 ^ db_n c 5)) ∧ z.2.1 274 2 = dw_o1 s (dw_bs c p q x (2 ^ db_n c 5)) 274 2 ∧ dw_kc s z.2 ∧ db_B1 U 20 z.2 c w) := by
  have hO := hB.1
  have k5 := hO.1.2.2.2.2.2
  have h8 := k5.2
  have hpow : 2 ^ db_n c 5 ≤ 2 ^ 8 := Nat.pow_le_pow_right (by decide) h8
  have hpl : ∀ k, dw_pz c k ≤ 99 * 8 := fun k => Nat.le_trans (dw_pn_le hO _ (Nat.le_refl _)) (by omega)
  obtain ⟨s2, e2, f1, f2, f3⟩ := dw_276 (s := s)
  have hB2 : db_B1 U 20 s2 c w := dw_kc_B1 hB (fun b b1 b2 => f1 b (by omega) (by omega) (by omega)) f2
  have e21 : s2.1 21 5 = nI (db_n c 5) := by rw [db_21 hB2.2.1 (by decide)]; exact k5.1
  unfold db_f174
  simp (disch := omega) only [db_lit, eq_self, db_pI_e, db_pL_e, db_bind_some, db_bd_some, nI_add, pk_mul, nI_toInt, db_m1_t, dz_cn, Int.ofNat_le, Int.ofNat_lt, decide_true, decide_false, db_ct, db_cf, not_true_eq_false, not_false_eq_true, e2, db_g_21, e21, dw_pw _ (show db_n c 5 < 9 by omega)]
  refine db_loop (L := fun m (a : db_S × Int32) k => db_f174_b30 m a.1 x p q a.2 (nI (2 ^ db_n c 5)) (nI k)) (N := 2 ^ db_n c 5) (fun k a => a.2 = dw_o2 c (dw_bs c p q x k) ∧ a.1.1 274 2 = dw_o1 s (dw_bs c p q x k) 274 2 ∧ dw_kc s a.1 ∧ db_B1 U 20 a.1 c w ∧ dw_sv a.1) ?_ ?_ (n := db_FU) (a := (s2, -(nI 1))) (by unfold db_FU; omega) ⟨rfl, by show s2.1 274 2 = s.1 274 2; rw [f1 274 (by decide) (by decide) (by decide)], ⟨fun b _ _ _ _ _ b6 b7 b8 => f1 b b6 b7 b8, fun j _ => by rw [f1 274 (by decide) (by decide) (by decide)], f2⟩, hB2, f3⟩
  · rintro m ⟨a, v⟩ ⟨h1, h2, h3, h4, -⟩
    dsimp only at h1 h2 h3 h4
    show dz_T (db_f174_b30 (m + 1) a x p q v (nI (2 ^ db_n c 5)) (nI (2 ^ db_n c 5))) _
    rw [db_f174_b30]
    simp (disch := omega) only [db_lit, eq_self, db_pI_e, db_pL_e, db_bind_some, db_bd_some, nI_add, pk_mul, nI_toInt, db_m1_t, dz_cn, Int.ofNat_le, Int.ofNat_lt, decide_true, decide_false, db_ct, db_cf, not_true_eq_false, not_false_eq_true, Nat.le_refl]
    exact ⟨_, rfl, h1, h2, h3, h4⟩
  · rintro m k ⟨a, v⟩ hk ⟨h1, h2, ⟨h3, h3', h3''⟩, h4, h5⟩ hrec
    dsimp only at h1 h2 h3 h3' h3'' h4 h5
    show dz_T (db_f174_b30 (m + 1) a x p q v (nI (2 ^ db_n c 5)) (nI k)) _
    rw [db_f174_b30]
    have h7 : ¬ 2 ^ db_n c 5 ≤ k := by omega
    have hst : dw_bs c p q x (k + 1) = if dw_hit c p q x k = true then (match dw_bs c p q x k with | none => some k | some b => if dw_pz c k < dw_pz c b then some k else some b) else dw_bs c p q x k := rfl
    have hpk := hpl k
    -- read it
    have hread : (∀ o, dw_hit c p q x k = true → dw_bs c p q x (k + 1) = o → o = some k) → dz_T (db_f174_b58 (db_f174_b30 m) a x p q v (nI (2 ^ db_n c 5)) (nI k) (nI (dw_pz c k))) (fun z => z.1 = dw_o2 c (dw_bs c p q x (2 ^ db_n c 5)) ∧ z.2.1 274 2 = dw_o1 s (dw_bs c p q x (2 ^ db_n c 5)) 274 2 ∧ dw_kc s z.2 ∧ db_B1 U 20 z.2 c w) := by
      intro hset
      unfold db_f174_b58 db_f174_b80
      refine db_T_gd (dw_177 (x := nI k) h4 hU hp hq h5) fun u z hv => ?_
      obtain ⟨q1, q2⟩ := hv
      dsimp only at q1 q2
      have hBz := dw_gg_B1 h4 q2
      have hsz := dw_gg_sv q2 h5
      have hkz : dw_kc s z := ⟨fun b b1 b2 b3 b4 b5 b6 b7 b8 => by rw [q2.1 b b1 b2 b3 b4]; exact h3 b b1 b2 b3 b4 b5 b6 b7 b8, fun j hj => by rw [q2.1 274 (by decide) (by decide) (by decide) (by decide)]; exact h3' j hj, q2.2.1.trans h3''⟩
      by_cases hh : u = x
      · have hit : dw_hit c p q x k = true := decide_eq_true (by rw [← hh]; exact q1.symm)
        have hb := hset _ hit rfl
        simp (disch := omega) only [db_lit, eq_self, db_pI_e, db_pL_e, db_bind_some, db_bd_some, nI_add, pk_mul, nI_toInt, db_m1_t, dz_cn, Int.ofNat_le, Int.ofNat_lt, decide_true, decide_false, db_ct, db_cf, not_true_eq_false, not_false_eq_true, hh]
        refine hrec (db_uI z 274 2 (nI k), nI (dw_pz c k)) ⟨by rw [hb]; rfl, by rw [hb]; exact db_uI_1, ⟨fun b b1 b2 b3 b4 b5 b6 b7 b8 => ?_, fun j hj => ?_, hkz.2.2⟩, dw_kc_B1 hBz (fun b b1 b2 => db_uI_n (by omega)) rfl, ?_⟩
        · show (db_uI z 274 2 (nI k)).1 b = _
          rw [db_uI_n b5]; exact hkz.1 b b1 b2 b3 b4 b5 b6 b7 b8
        · show (db_uI z 274 2 (nI k)).1 274 j = _
          rw [db_uI_j hj]; exact hkz.2.1 j hj
        · obtain ⟨v1, v2, v3, v4⟩ := hsz
          exact ⟨fun j hj => by show (db_uI z 274 2 (nI k)).1 277 j = (db_uI z 274 2 (nI k)).1 81 j; rw [db_uI_n (by decide), db_uI_n (by decide)]; exact v1 j hj, fun j hj => by show (db_uI z 274 2 (nI k)).1 278 j = (db_uI z 274 2 (nI k)).1 82 j; rw [db_uI_n (by decide), db_uI_n (by decide)]; exact v2 j hj, by show (db_uI z 274 2 (nI k)).1 276 2 = (db_uI z 274 2 (nI k)).1 80 2; rw [db_uI_n (by decide), db_uI_n (by decide)]; exact v3, by show (db_uI z 274 2 (nI k)).1 276 3 = (db_uI z 274 2 (nI k)).1 80 3; rw [db_uI_n (by decide), db_uI_n (by decide)]; exact v4⟩
      · have hit : ¬ dw_hit c p q x k = true := fun h => hh (q1.trans (of_decide_eq_true h))
        rw [if_neg hit] at hst
        simp (disch := omega) only [db_lit, eq_self, db_pI_e, db_pL_e, db_bind_some, db_bd_some, nI_add, pk_mul, nI_toInt, db_m1_t, dz_cn, Int.ofNat_le, Int.ofNat_lt, decide_true, decide_false, db_ct, db_cf, not_true_eq_false, not_false_eq_true, hh]
        refine hrec (z, v) ⟨by rw [hst]; exact h1, ?_, hkz, hBz, hsz⟩
        show z.1 274 2 = _
        rw [hst, q2.1 274 (by decide) (by decide) (by decide) (by decide)]
        exact h2
    simp (disch := omega) only [db_lit, eq_self, db_pI_e, db_pL_e, db_bind_some, db_bd_some, nI_add, pk_mul, nI_toInt, db_m1_t, dz_cn, Int.ofNat_le, Int.ofNat_lt, decide_true, decide_false, db_ct, db_cf, not_true_eq_false, not_false_eq_true, h7, dw_176 h4]
    show dz_T (cond (decide (v = -1)) (db_f174_b58 (db_f174_b30 m) a x p q v (nI (2 ^ db_n c 5)) (nI k) (nI (dw_pz c k))) (cond (decide (v.toInt ≤ (nI (dw_pz c k)).toInt)) (db_f174_b80 (db_f174_b30 m) a x p q v (nI (2 ^ db_n c 5)) (nI k)) (db_f174_b58 (db_f174_b30 m) a x p q v (nI (2 ^ db_n c 5)) (nI k) (nI (dw_pz c k))))) _
    cases hb : dw_bs c p q x k with
    | none =>
      rw [hb] at h1 hst
      have e : v = -1 := h1
      rw [decide_eq_true e, db_ct]
      refine hread fun o hit ho => ?_
      rw [← ho, hst, if_pos hit]
    | some b =>
      rw [hb] at h1 hst
      have e : v = nI (dw_pz c b) := h1
      have hpb := hpl b
      have hne : ¬ v = -1 := by
        rw [e, db_m1_l, db_m1_ne (by omega)]
        exact id
      rw [decide_eq_false hne, db_cf]
      have ev : v.toInt = (dw_pz c b : Int) := by rw [e, nI_toInt (by omega)]
      have ek : (nI (dw_pz c k)).toInt = (dw_pz c k : Int) := nI_toInt (by omega)
      by_cases hlt : dw_pz c k < dw_pz c b
      · rw [decide_eq_false (by rw [ev, ek]; omega), db_cf]
        refine hread fun o hit ho => ?_
        rw [← ho, hst, if_pos hit]
        exact if_pos hlt
      · rw [decide_eq_true (by rw [ev, ek]; omega), db_ct]
        unfold db_f174_b80
        simp (disch := omega) only [db_lit, eq_self, db_pI_e, db_pL_e, db_bind_some, db_bd_some, nI_add, pk_mul, nI_toInt, db_m1_t, dz_cn, Int.ofNat_le, Int.ofNat_lt, decide_true, decide_false, db_ct, db_cf, not_true_eq_false, not_false_eq_true]
        have hst2 : dw_bs c p q x (k + 1) = some b := by
          rw [hst]
          by_cases hit : dw_hit c p q x k = true
          · rw [if_pos hit]
            exact if_neg hlt
          · rw [if_neg hit]
        refine hrec (a, v) ⟨by rw [hst2]; exact h1, by rw [hst2]; rw [hb] at h2; exact h2, ⟨h3, h3', h3''⟩, h4, h5⟩
end DBSL
