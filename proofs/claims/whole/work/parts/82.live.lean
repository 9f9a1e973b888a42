/-! LIVE: the call -/
section DBLV
variable {U : Nat} {s : db_S} {x : Int32}
theorem dw_asub (a b : Int32) : a + b - a = b := by
  rw [Int32.add_comm, Int32.add_sub_cancel]
theorem db_k51 (hI : db_Inv U s) (hU : U + 1800 ≤ 1000000000) : ∃ v s1 s2, db_f193 s x = some (v, s1) ∧ db_f366 s1 x = some (v, s2) ∧ db_Inv (U + 1800) s2 := by
  have hB := db_cur hI
  obtain ⟨⟨p0, p1⟩, n, z, hn, hz, h200, hs1, hs2, hP⟩ := hB.2.2
  have p0 : s.1 83 0 = db_bk s 0 199 := p0
  have hs2 : s.1 83 2 = nI z := hs2
  have hP : db_PL (db_pr 83 s) (db_bk s 0) 31 3 0 n 0 z := hP
  have mono : dz_G U s (fun s => db_f193 s x) (fun s => db_f366 s x) → ∃ v s1 s2, db_f193 s x = some (v, s1) ∧ db_f366 s1 x = some (v, s2) ∧ db_Inv (U + 1800) s2 := by
    rintro ⟨v, s1, s2, h1, h2, h3⟩
    exact ⟨v, s1, s2, h1, h2, db_Inv_u h3 (by omega) (fun _ _ _ _ _ _ _ _ => ⟨rfl, rfl⟩) h3.1 (db_B1_mono (by omega) (db_cur h3))⟩
  cases hx : db_wi x ((0 : Nat) : Int) ((9999 : Nat) : Int) with
  | false =>
    refine mono (db_Gn 5 hI ?_ fun s1 hS hA => ?_)
    · unfold db_f193
      simp (disch := omega) only [db_lit, eq_self, db_pI_e, db_pL_e, db_bind_some, db_bd_some, nI_add, pk_mul, nI_toInt, db_m1_t, dz_cn, Int.ofNat_le, Int.ofNat_lt, decide_true, decide_false, db_ct, db_cf, not_true_eq_false, not_false_eq_true, db_87e, db_37e, db_31e, db_28e, db_281e, db_211e, db_27, db_269w, db_litL, pk_lT, db_iL, db_p0_e, db_p0_n, db_p0_j, db_sub1, nI_eq, if_true, if_false, Bool.false_eq_true, Nat.one_ne_zero, hx]
    · unfold db_f366
      simp (disch := omega) only [db_lit, eq_self, db_pI_e, db_pL_e, db_bind_some, db_bd_some, nI_add, pk_mul, nI_toInt, db_m1_t, dz_cn, Int.ofNat_le, Int.ofNat_lt, decide_true, decide_false, db_ct, db_cf, not_true_eq_false, not_false_eq_true, db_87e, db_37e, db_31e, db_28e, db_281e, db_211e, db_27, db_269w, db_litL, pk_lT, db_iL, db_p0_e, db_p0_n, db_p0_j, db_sub1, nI_eq, if_true, if_false, Bool.false_eq_true, Nat.one_ne_zero, hx]
  | true =>
    obtain ⟨sd, hsd, -, rfl⟩ := db_wi_t (by decide) (by decide) hx
    rcases p1 with p1 | p1
    · refine mono (db_Gn 8 hI ?_ fun s1 hS hA => ?_)
      · unfold db_f193
        simp (disch := omega) only [db_lit, eq_self, db_pI_e, db_pL_e, db_bind_some, db_bd_some, nI_add, pk_mul, nI_toInt, db_m1_t, dz_cn, Int.ofNat_le, Int.ofNat_lt, decide_true, decide_false, db_ct, db_cf, not_true_eq_false, not_false_eq_true, db_87e, db_37e, db_31e, db_28e, db_281e, db_211e, db_27, db_269w, db_litL, pk_lT, db_iL, db_p0_e, db_p0_n, db_p0_j, db_sub1, nI_eq, if_true, if_false, Bool.false_eq_true, Nat.one_ne_zero, hx, p0, p1]
      · unfold db_f366
        simp (disch := omega) only [db_lit, eq_self, db_pI_e, db_pL_e, db_bind_some, db_bd_some, nI_add, pk_mul, nI_toInt, db_m1_t, dz_cn, Int.ofNat_le, Int.ofNat_lt, decide_true, decide_false, db_ct, db_cf, not_true_eq_false, not_false_eq_true, db_87e, db_37e, db_31e, db_28e, db_281e, db_211e, db_27, db_269w, db_litL, pk_lT, db_iL, db_p0_e, db_p0_n, db_p0_j, db_sub1, nI_eq, if_true, if_false, Bool.false_eq_true, Nat.one_ne_zero, hx, db_g_674, db_p0_A hA, p1]
    · obtain ⟨s', e1, hR, hT, -⟩ := dw_194 (c := db_bk s 0) (w := db_bw s 0) hU hB (show sd < 65536 by omega) hn hs2 hz hP
      obtain ⟨z', e2, b1, b2, b3, b4, b5⟩ := dw_200 (s := s')
      generalize ht : dw_al 31 0 n (db_bk s 0, fun _ => nI 0, 0, sd) = t at e1 hR hT
      have hE := hR.2.2.2
      have hA1 : db_A (db_p0 (db_uI z' 4 0 (nI 0))) (db_bk s 0) := db_p0_A (fun k hk => by rw [db_uI_n (by decide), b1 674 (by decide) (by decide), (hE 674 k (by unfold db_ec; omega) (by omega)).1]; exact db_bk_A k hk)
      obtain ⟨y, e3, hy, -⟩ := dw_367 (R := db_pr 83 s) (sd := sd) hU ⟨s, _, hB⟩ hA1 (show sd < 65536 by omega) h200 hn hP
      rw [ht] at hy
      obtain ⟨y1, y2, y3, y4, y5, y6, y7, y8, y9⟩ := hy
      obtain ⟨t1, t2, t3, t4, t5, t6⟩ := hT
      have g1 : t.1 6 - db_bk s 0 6 = t.2.1 1 := by rw [t6, dw_asub]
      have hf1 : db_f193 s (nI sd) = some (nI t.2.2.1, db_uI z' 4 0 (nI 0)) := by
        unfold db_f193
        simp (disch := omega) only [db_lit, eq_self, db_pI_e, db_pL_e, db_bind_some, db_bd_some, nI_add, pk_mul, nI_toInt, db_m1_t, dz_cn, Int.ofNat_le, Int.ofNat_lt, decide_true, decide_false, db_ct, db_cf, not_true_eq_false, not_false_eq_true, db_87e, db_37e, db_31e, db_28e, db_281e, db_211e, db_27, db_269w, db_litL, pk_lT, db_iL, db_p0_e, db_p0_n, db_p0_j, db_sub1, nI_eq, if_true, if_false, Bool.false_eq_true, Nat.one_ne_zero, hx, p0, p1, e1, e2]
      generalize hs3 : db_uI (db_uI (db_uI (db_uI (db_uI (db_uI y 683 0 (t.2.1 0)) 683 1 (t.2.1 1)) 683 2 (t.2.1 2)) 683 3 (t.2.1 3)) 683 4 (t.2.1 4)) 669 40 (nI 1) = s3
      have hf2 : db_f366 (db_uI z' 4 0 (nI 0)) (nI sd) = some (nI t.2.2.1, s3) := by
        unfold db_f366
        simp (disch := omega) only [db_lit, eq_self, db_pI_e, db_pL_e, db_bind_some, db_bd_some, nI_add, pk_mul, nI_toInt, db_m1_t, dz_cn, Int.ofNat_le, Int.ofNat_lt, decide_true, decide_false, db_ct, db_cf, not_true_eq_false, not_false_eq_true, db_87e, db_37e, db_31e, db_28e, db_281e, db_211e, db_27, db_269w, db_litL, pk_lT, db_iL, db_p0_e, db_p0_n, db_p0_j, db_sub1, nI_eq, if_true, if_false, Bool.false_eq_true, Nat.one_ne_zero]
        generalize db_p0 (db_uI z' 4 0 (nI 0)) = s6 at hA1 e3
        have n1 : ∀ {a : db_S} {k : Nat} {v : Int32}, (db_uI a 683 k v).1 669 = a.1 669 := fun {a k v} => db_uI_n (by decide)
        have n2 : ∀ {a : db_S} {k : Nat} {v : Int32}, (db_uI a 683 k v).1 674 = a.1 674 := fun {a k v} => db_uI_n (by decide)
        simp (disch := omega) only [db_lit, eq_self, db_pI_e, db_pL_e, db_bind_some, db_bd_some, nI_add, pk_mul, nI_toInt, db_m1_t, dz_cn, Int.ofNat_le, Int.ofNat_lt, decide_true, decide_false, db_ct, db_cf, not_true_eq_false, not_false_eq_true, db_87e, db_37e, db_31e, db_28e, db_281e, db_211e, db_27, db_269w, db_litL, pk_lT, db_iL, db_p0_e, db_p0_n, db_p0_j, db_sub1, nI_eq, if_true, if_false, Bool.false_eq_true, Nat.one_ne_zero, hx, db_g_674, hA1, p1, e3, db_h_683, n1, n2, y1, g1, y2, y3, y4, y5]
        rw [← hs3, db_uI_j (show (43 : Nat) ≠ 40 by decide)]
        simp only [n1, y8]
      refine ⟨_, _, _, hf1, hf2, ?_⟩
      have q1 : ∀ a, a ≠ 669 → a ≠ 674 → a ≠ 677 → a ≠ 678 → a ≠ 679 → a ≠ 683 → s3.1 a = (db_uI z' 4 0 (nI 0)).1 a := fun a a1 a2 a3 a4 a5 a6 => by
        rw [← hs3, db_uI_n a1, db_uI_n a6, db_uI_n a6, db_uI_n a6, db_uI_n a6, db_uI_n a6, y9.2.2.1 a a1 a2 a3 a4 a5, db_p0_n a1]
      have q2 : s3.2 = s'.2 := by
        rw [← hs3, db_uI_2, db_uI_2, db_uI_2, db_uI_2, db_uI_2, db_uI_2, y9.2.2.2, db_p0_2, db_uI_2, b2]
      have q3 : s3.1 674 = y.1 674 := by
        rw [← hs3, db_uI_n (by decide), db_uI_n (by decide), db_uI_n (by decide), db_uI_n (by decide), db_uI_n (by decide), db_uI_n (by decide)]
      have q4 : ∀ j, j ≠ 40 → j ≠ 0 → j ≠ 1 → j < 29 ∨ (32 < j ∧ j < 41) ∨ 45 < j → s3.1 669 j = s'.1 669 j := fun j j1 j2 j3 j4 => by
        rw [← hs3, db_uI_j j1, db_uI_n (by decide), db_uI_n (by decide), db_uI_n (by decide), db_uI_n (by decide), db_uI_n (by decide), y9.1 j j4, db_p0_j j2 j3, db_uI_n (by decide), b1 669 (by decide) (by decide)]
      have q5 : s3.1 669 0 = nI 0 := by
        rw [← hs3, db_uI_j (by decide), db_uI_n (by decide), db_uI_n (by decide), db_uI_n (by decide), db_uI_n (by decide), db_uI_n (by decide), y9.1 0 (by omega), db_p0_0]
      have w0 : db_bw s3 0 = db_bw s 0 := by
        funext k
        unfold db_bw
        by_cases hk : k < 37
        · rw [if_pos hk, if_pos hk, q2, (hE 676 _ (by unfold db_ec; omega) (by omega)).2]
        · rw [if_neg hk, if_neg hk]
      refine db_Inv_live hI (by omega) (fun a j he hne => ⟨?_, ?_⟩) ?_ ?_ ⟨?_, fun k hk => ?_⟩
      · have hec : db_ec a j := by
          rcases he with he | he
          · exact he.2
          · unfold db_ec; omega
        rw [← (hE a j hec (by omega)).1]
        by_cases a9 : a = 669
        · subst a9
          have : db_em 669 j := by
            rcases he with he | he
            · omega
            · exact he.2
          unfold db_em at this
          exact q4 j (by omega) (by omega) (by omega) (by omega)
        · by_cases a4 : a = 674
          · subst a4
            rw [q3, y9.2.1 j (by omega), db_p0_n (by decide), db_uI_n (by decide), b1 674 (by decide) (by decide)]
          · have : ¬ (677 ≤ a ∧ a ≤ 679) := by
              unfold db_es db_em at he
              omega
            by_cases a0 : a = 4
            · subst a0
              rw [q1 4 (by omega) (by omega) (by omega) (by omega) (by omega) (by omega), db_uI_j (by omega), b1 4 (by omega) (by omega)]
            · rw [q1 a a9 a4 (by omega) (by omega) (by omega) (by omega), db_uI_n a0]
              by_cases a84 : a = 284
              · subst a84
                exact b4 j (by omega)
              · rw [b1 a a84 (by omega)]
      · have hec : db_ec a j := by
          rcases he with he | he
          · exact he.2
          · unfold db_ec; omega
        rw [q2]
        exact (hE a j hec (by omega)).2
      · rw [q1 4 (by omega) (by omega) (by omega) (by omega) (by omega) (by omega), db_uI_1, q5]
      · rw [w0]
        refine db_B1_A (c := t.1) ?_ fun k hk => by rw [db_bk_0 hk, q3]; exact y1 k hk
        have h300 : t.2.2.1 ≤ 300 := t3
        refine db_B1_mono (by omega) (db_B1_c (fun a q6 q7 q8 => ?_) ?_ hR.1)
        · rw [q1 a (by omega) (by omega) (by omega) (by omega) (by omega) (by omega), db_uI_n (by omega), b1 a (by omega) (by omega)]
        · rw [q2]
      · rw [q1 284 (by omega) (by omega) (by omega) (by omega) (by omega) (by omega), db_uI_n (by decide), b3, ← hs3, db_uI_1]
      · rw [q1 285 (by omega) (by omega) (by omega) (by omega) (by omega) (by omega), db_uI_n (by decide), b5 k hk, hR.2.2.1 k hk, ← hs3, db_uI_n (by decide)]
        rcases (by omega : k = 0 ∨ k = 1 ∨ k = 2 ∨ k = 3 ∨ k = 4) with rfl | rfl | rfl | rfl | rfl
        · rw [db_uI_j (by decide), db_uI_j (by decide), db_uI_j (by decide), db_uI_j (by decide), db_uI_1]
        · rw [db_uI_j (by decide), db_uI_j (by decide), db_uI_j (by decide), db_uI_1]
        · rw [db_uI_j (by decide), db_uI_j (by decide), db_uI_1]
        · rw [db_uI_j (by decide), db_uI_1]
        · rw [db_uI_1]
end DBLV
