/-! FEEDING -/
section DBFD
variable {U : Nat} {s a : db_S} {v : Int32}
def dw_sh : Nat → Int32
  | 0 => nI 24
  | 1 => nI 16
  | 2 => nI 8
  | 3 => nI 0
  | _ => -(nI 8)
def dw_by (v : Int32) (i : Nat) : Int32 := ((Int32.toInt8 (v >>> (dw_sh i &&& nI 31))).toInt32).toInt8.toInt32
theorem dw_by_r (v : Int32) (i : Nat) : -128 ≤ (dw_by v i).toInt ∧ (dw_by v i).toInt < 128 := by
  unfold dw_by
  rw [Int8.toInt_toInt32]
  exact ⟨Int8.le_toInt _, Int8.toInt_lt _⟩
theorem dw_sh_s : ∀ i, i < 4 → dw_sh i + (-8 : Int32) = dw_sh (i + 1) ∧ ¬ (dw_sh i).toInt < ((0 : Nat) : Int) := by decide
theorem dw_sh_8 : ∀ i, i < 4 → nI 8 * nI (3 - i) = dw_sh i := by decide
/-- k bytes appended to n -/
def dw_tp (s z : db_S) (n : Nat) (f : Nat → Int32) (k : Nat) : Prop := (∀ b, b ≠ 13 → b ≠ 14 → z.1 b = s.1 b) ∧ (∀ j, j ≠ 1 → z.1 13 j = s.1 13 j) ∧ z.1 13 1 = nI (n + k) ∧ (∀ j, j < n → z.1 14 j = s.1 14 j) ∧ (∀ j, j < k → z.1 14 (n + j) = f j) ∧ z.2 = s.2
def dw_tm (s z : db_S) (n : Nat) (f : Nat → Int32) (k : Nat) : Prop := (∀ b, b ≠ 669 → b ≠ 673 → z.1 b = s.1 b) ∧ (∀ j, j ≠ 8 → z.1 669 j = s.1 669 j) ∧ z.1 669 8 = nI (n + k) ∧ (∀ j, j < n → z.1 673 j = s.1 673 j) ∧ (∀ j, j < k → z.1 673 (n + j) = f j) ∧ z.2 = s.2
theorem db_43 {n k : Nat} {f : Nat → Int32} (h : dw_tp s a n f k) (hn : n + k + 4 ≤ 900) (hf : ∀ i, i < 4 → f (k + i) = dw_by v i) : dz_T (db_f43 a v) (fun z => dw_tp s z n f (k + 4)) := by
  unfold db_f43
  refine db_loop (L := fun m a i => db_f43_b3 m a v (dw_sh i)) (N := 4) (fun i a => dw_tp s a n f (k + i)) ?_ ?_ (n := db_FU) (by unfold db_FU; omega) h
  · rintro m a h
    show dz_T (db_f43_b3 (m + 1) a v (-(nI 8))) _
    rw [db_f43_b3]
    have h8 : (-(nI 8)).toInt < ((0 : Nat) : Int) := by decide
    simp (disch := omega) only [db_lit, eq_self, db_pI_e, db_pL_e, db_bind_some, db_bd_some, nI_add, pk_mul, nI_toInt, db_m1_t, dz_cn, Int.ofNat_le, Int.ofNat_lt, decide_true, decide_false, db_ct, db_cf, not_true_eq_false, not_false_eq_true, h8]
    exact ⟨_, rfl, h⟩
  · rintro m i a hi ⟨h1, h2, h3, h4, h5, h6⟩ hrec
    show dz_T (db_f43_b3 (m + 1) a v (dw_sh i)) _
    rw [db_f43_b3]
    obtain ⟨e1, e2⟩ := dw_sh_s i hi
    have h7 : ¬ 900 ≤ n + (k + i) := by omega
    have hw : ∀ x, db_wB a 14 (nI (n + (k + i))) x = some (db_uI a 14 (n + (k + i)) x.toInt8.toInt32) := fun x => db_wB_n rfl (show n + (k + i) < 900 by omega) (by decide)
    have e13 : ∀ x, (db_uI a 14 (n + (k + i)) x).1 13 1 = nI (n + (k + i)) := fun x => by rw [db_uI_n (by decide)]; exact h3
    simp (disch := omega) only [db_lit, eq_self, db_pI_e, db_pL_e, db_bind_some, db_bd_some, nI_add, pk_mul, nI_toInt, db_m1_t, dz_cn, Int.ofNat_le, Int.ofNat_lt, decide_true, decide_false, db_ct, db_cf, not_true_eq_false, not_false_eq_true, e2, h3, h7, hw, e13]
    rw [show (-8 : Int32) = -(nI 8) from by decide] at *
    rw [e1]
    refine hrec _ ⟨fun b n1 n2 => ?_, fun j hj => ?_, ?_, fun j hj => ?_, fun j hj => ?_, h6⟩
    · rw [db_uI_n n1, db_uI_n n2]; exact h1 b n1 n2
    · rw [db_uI_j hj, db_uI_n (by decide)]; exact h2 j hj
    · rw [db_uI_1]; rfl
    · rw [db_uI_n (by decide), db_uI_j (by omega)]; exact h4 j hj
    · rw [db_uI_n (by decide)]
      by_cases e : j = k + i
      · subst e
        rw [db_uI_1, hf i hi]
        rfl
      · rw [db_uI_j (by omega)]; exact h5 j (by omega)
theorem db_219 {n k : Nat} {f : Nat → Int32} (h : dw_tm s a n f k) (hn : n + k + 4 ≤ 900) (hf : ∀ i, i < 4 → f (k + i) = dw_by v i) : dz_T (db_f219 a v) (fun z => dw_tm s z n f (k + 4)) := by
  unfold db_f219
  refine db_loop (L := fun m a i => db_f219_b2 m a v (if i < 4 then nI (3 - i) else -(nI 1))) (N := 4) (fun i a => dw_tm s a n f (k + i)) ?_ ?_ (n := db_FU) (by unfold db_FU; omega) h
  · rintro m a h
    show dz_T (db_f219_b2 (m + 1) a v (-(nI 1))) _
    rw [db_f219_b2]
    have h8 : (-1 : Int) < ((0 : Nat) : Int) := by decide
    simp (disch := omega) only [db_lit, eq_self, db_pI_e, db_pL_e, db_bind_some, db_bd_some, nI_add, pk_mul, nI_toInt, db_m1_t, dz_cn, Int.ofNat_le, Int.ofNat_lt, decide_true, decide_false, db_ct, db_cf, not_true_eq_false, not_false_eq_true, h8]
    exact ⟨_, rfl, h⟩
  · rintro m i a hi ⟨h1, h2, h3, h4, h5, h6⟩ hrec
    show dz_T (db_f219_b2 (m + 1) a v (if i < 4 then nI (3 - i) else -(nI 1))) _
    rw [if_pos hi, db_f219_b2]
    have e1 : nI (3 - i) + (-1 : Int32) = if i + 1 < 4 then nI (3 - (i + 1)) else -(nI 1) := by
      rcases (by omega : i = 0 ∨ i = 1 ∨ i = 2 ∨ i = 3) with rfl | rfl | rfl | rfl <;> decide
    have e2 : ¬ 3 - i < 0 := by omega
    have hw : ∀ x, db_wB a 673 (nI (n + (k + i))) x = some (db_uI a 673 (n + (k + i)) x.toInt8.toInt32) := fun x => db_wB_n rfl (show n + (k + i) < 900 by omega) (by decide)
    have e13 : ∀ x, (db_uI a 673 (n + (k + i)) x).1 669 8 = nI (n + (k + i)) := fun x => by rw [db_uI_n (by decide)]; exact h3
    rw [e1]
    simp only [show (8 : Int32) = nI 8 from rfl, dw_sh_8 i hi]
    simp (disch := omega) only [db_lit, eq_self, db_pI_e, db_pL_e, db_bind_some, db_bd_some, nI_add, pk_mul, nI_toInt, db_m1_t, dz_cn, Int.ofNat_le, Int.ofNat_lt, decide_true, decide_false, db_ct, db_cf, not_true_eq_false, not_false_eq_true, e2, h3, hw, e13]
    refine hrec _ ⟨fun b n1 n2 => ?_, fun j hj => ?_, ?_, fun j hj => ?_, fun j hj => ?_, h6⟩
    · rw [db_uI_n n1, db_uI_n n2]; exact h1 b n1 n2
    · rw [db_uI_j hj, db_uI_n (by decide)]; exact h2 j hj
    · rw [db_uI_1]; rfl
    · rw [db_uI_n (by decide), db_uI_j (by omega)]; exact h4 j hj
    · rw [db_uI_n (by decide)]
      by_cases e : j = k + i
      · subst e
        rw [db_uI_1, hf i hi]
        rfl
      · rw [db_uI_j (by omega)]; exact h5 j (by omega)
theorem db_k7 {x1 x2 x3 x4 x5 : Int32} (hI : db_Inv U s) : dz_G U s (fun s => db_f41 s x1 x2 x3 x4 x5) (fun s => db_f218 s x1 x2 x3 x4 x5) := by
  obtain ⟨n, n1, n2, n3, n4⟩ := hI.2.2.2.1
  by_cases hn : n + 20 ≤ 900
  · have hlt : ¬ 900 < n + 20 := by omega
    let f : Nat → Int32 := fun j => dw_by (if j < 4 then x1 else if j < 8 then x2 else if j < 12 then x3 else if j < 16 then x4 else x5) (j % 4)
    have f1 : ∀ i, i < 4 → f (0 + i) = dw_by x1 i := fun i hi => by show dw_by _ _ = _; rw [if_pos (by omega), show (0 + i) % 4 = i by omega]
    have f2 : ∀ i, i < 4 → f (0 + 4 + i) = dw_by x2 i := fun i hi => by show dw_by _ _ = _; rw [if_neg (by omega), if_pos (by omega), show (0 + 4 + i) % 4 = i by omega]
    have f3 : ∀ i, i < 4 → f (0 + 4 + 4 + i) = dw_by x3 i := fun i hi => by show dw_by _ _ = _; rw [if_neg (by omega), if_neg (by omega), if_pos (by omega), show (0 + 4 + 4 + i) % 4 = i by omega]
    have f4 : ∀ i, i < 4 → f (0 + 4 + 4 + 4 + i) = dw_by x4 i := fun i hi => by show dw_by _ _ = _; rw [if_neg (by omega), if_neg (by omega), if_neg (by omega), if_pos (by omega), show (0 + 4 + 4 + 4 + i) % 4 = i by omega]
    have f5 : ∀ i, i < 4 → f (0 + 4 + 4 + 4 + 4 + i) = dw_by x5 i := fun i hi => by show dw_by _ _ = _; rw [if_neg (by omega), if_neg (by omega), if_neg (by omega), if_neg (by omega), show (0 + 4 + 4 + 4 + 4 + i) % 4 = i by omega]
    have c0 : dw_tp s s n f 0 := ⟨fun b _ _ => rfl, fun j _ => rfl, n2, fun j _ => rfl, fun j hj => absurd hj (by omega), rfl⟩
    obtain ⟨s1, e1, c1⟩ := db_43 c0 (by omega) f1
    obtain ⟨s2, e2, c2⟩ := db_43 c1 (by omega) f2
    obtain ⟨s3, e3, c3⟩ := db_43 c2 (by omega) f3
    obtain ⟨s4, e4, c4⟩ := db_43 c3 (by omega) f4
    obtain ⟨s5, e5, c5⟩ := db_43 c4 (by omega) f5
    obtain ⟨h1, h2, h3, h4, h5, h6⟩ := c5
    have b8 : (db_uI s5 669 1 (nI 0)).1 669 8 = nI n := by rw [db_uI_j (by decide), h1 669 (by decide) (by decide)]; exact n3
    have d0 : dw_tm (db_uI s5 669 1 (nI 0)) (db_uI s5 669 1 (nI 0)) n f 0 := ⟨fun b _ _ => rfl, fun j _ => rfl, b8, fun j _ => rfl, fun j hj => absurd hj (by omega), rfl⟩
    obtain ⟨r1, g1, d1⟩ := db_219 d0 (by omega) f1
    obtain ⟨r2, g2, d2⟩ := db_219 d1 (by omega) f2
    obtain ⟨r3, g3, d3⟩ := db_219 d2 (by omega) f3
    obtain ⟨r4, g4, d4⟩ := db_219 d3 (by omega) f4
    obtain ⟨r5, g5, d5⟩ := db_219 d4 (by omega) f5
    obtain ⟨k1, k2, k3, k4, k5, k6⟩ := d5
    refine ⟨nI (n + 20), s5, r5, ?_, ?_, ?_⟩
    · show db_f41 s x1 x2 x3 x4 x5 = _
      unfold db_f41 db_f42
      simp (disch := omega) only [db_lit, eq_self, db_pI_e, db_pL_e, db_bind_some, db_bd_some, nI_add, pk_mul, nI_toInt, db_m1_t, dz_cn, Int.ofNat_le, Int.ofNat_lt, decide_true, decide_false, db_ct, db_cf, not_true_eq_false, not_false_eq_true, n2, hlt, e1, e2, e3, e4, e5, h3]
    · show db_f218 s5 x1 x2 x3 x4 x5 = _
      unfold db_f218
      simp (disch := omega) only [db_lit, eq_self, db_pI_e, db_pL_e, db_bind_some, db_bd_some, nI_add, pk_mul, nI_toInt, db_m1_t, dz_cn, Int.ofNat_le, Int.ofNat_lt, decide_true, decide_false, db_ct, db_cf, not_true_eq_false, not_false_eq_true, b8, hn, g1, g2, g3, g4, g5, k3]
    · refine db_Inv_tape hI (Nat.le_refl U) (fun b j he hne => ⟨?_, ?_⟩) ?_ ⟨n + 20, hn, ?_, ?_, ?_⟩
      · by_cases hb : b = 669
        · subst hb
          rw [k2 j (by omega), db_uI_j (by rintro rfl; unfold db_es db_em at he; omega), h1 669 (by decide) (by decide)]
        · rw [k1 b hb (by omega), db_uI_n hb]
          by_cases hb3 : b = 13
          · subst hb3; exact h2 j (by omega)
          · rw [h1 b hb3 (by omega)]
      · rw [k6, db_uI_2, h6]
      · rw [k1 4 (by decide) (by decide), db_uI_n (by decide), h1 4 (by decide) (by decide), k2 0 (by decide), db_uI_j (by decide), h1 669 (by decide) (by decide)]
        exact hI.1
      · rw [k1 13 (by decide) (by decide), db_uI_n (by decide)]; exact h3
      · exact k3
      · intro j hj
        rw [k1 14 (by decide) (by decide), db_uI_n (by decide)]
        by_cases hjn : j < n
        · rw [k4 j hjn, db_uI_n (by decide), h4 j hjn, h1 673 (by decide) (by decide)]
          exact n4 j hjn
        · have q1 := h5 (j - n) (by omega)
          have q2 := k5 (j - n) (by omega)
          rw [show n + (j - n) = j by omega] at q1 q2
          rw [q1, q2]
          exact ⟨rfl, dw_by_r _ _⟩
  · have hlt : 900 < n + 20 := by omega
    refine ⟨-(nI 1), s, db_uI s 669 1 (nI 0), ?_, ?_, ?_⟩
    · show db_f41 s x1 x2 x3 x4 x5 = _
      unfold db_f41 db_f42
      simp (disch := omega) only [db_lit, eq_self, db_pI_e, db_pL_e, db_bind_some, db_bd_some, nI_add, pk_mul, nI_toInt, db_m1_t, dz_cn, Int.ofNat_le, Int.ofNat_lt, decide_true, decide_false, db_ct, db_cf, not_true_eq_false, not_false_eq_true, n2, hlt]
    · show db_f218 s x1 x2 x3 x4 x5 = _
      unfold db_f218
      have b8 : (db_uI s 669 1 (nI 0)).1 669 8 = nI n := by rw [db_uI_j (by decide)]; exact n3
      simp (disch := omega) only [db_lit, eq_self, db_pI_e, db_pL_e, db_bind_some, db_bd_some, nI_add, pk_mul, nI_toInt, db_m1_t, dz_cn, Int.ofNat_le, Int.ofNat_lt, decide_true, decide_false, db_ct, db_cf, not_true_eq_false, not_false_eq_true, b8, hn]
    · refine db_Inv_c hI (fun b j he h4 h6 => ⟨?_, rfl⟩) ?_
      · rw [db_uI_if, if_neg]
        rintro ⟨rfl, rfl⟩
        unfold db_es db_em at he
        omega
      · rw [db_uI_n (by decide), db_uI_j (by decide)]
        exact hI.1
end DBFD
