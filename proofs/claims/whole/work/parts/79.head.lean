/-! LIVES: the reference's run from its beginning -/
section DBHE
variable {U : Nat} {s : db_S} {c : db_C} {sd : Nat}
theorem dw_tk0 (hg : dw_gd U c) (hsd : sd < 65536) : dw_tk U c (c, fun _ => nI 0, 0, sd) := ⟨hg, dw_Te_r, by show 0 ≤ 300; omega, hsd, .inl rfl, (Int32.add_zero _).symm⟩
theorem dw_367 {R : Nat → Nat → Int32} {n z : Nat} (hU : U + 1800 ≤ 1000000000) (hg : dw_gd U c) (hA : db_A s c) (hsd : sd < 65536) (hn : c 200 = nI n) (hn2 : n ≤ 30) (hP : db_PL R c 31 3 0 n 0 z) : dz_T (db_f367 s (nI sd)) (fun y => dw_Rr s (dw_al 31 0 n (c, fun _ => nI 0, 0, sd)) y ∧ dw_tk U c (dw_al 31 0 n (c, fun _ => nI 0, 0, sd))) := by
  have hT := dw_tk0 (U := U) (c := c) (sd := sd) hg hsd
  have hTe := dw_al_k hU 31 3 0 n 0 z _ hn2 hP hT
  unfold db_f367
  simp (disch := omega) only [db_lit, eq_self, db_pI_e, db_pL_e, db_bind_some, db_bd_some, nI_add, pk_mul, nI_toInt, db_m1_t, dz_cn, Int.ofNat_le, Int.ofNat_lt, decide_true, decide_false, db_ct, db_cf, not_true_eq_false, not_false_eq_true]
  generalize hs1 : db_uI (db_uI (db_uI (db_uI (db_uI (db_uI (db_uI s 669 42 (nI sd)) 669 43 (nI 0)) 669 44 (nI 0)) 669 31 (nI 0)) 669 32 (nI 0)) 669 45 (nI 0)) 669 41 (nI 0) = s1
  have hR : dw_Rr s (c, fun _ => nI 0, 0, sd) s1 := by
    subst hs1
    refine ⟨fun k hk => ?_, ?_, ?_, ?_, ?_, ?_, ?_, ?_, ⟨fun j hj => ?_, fun k hk => ?_, fun a a1 a2 a3 a4 a5 => ?_, rfl⟩⟩
    · simp only [db_uI_n (show (674 : Nat) ≠ 669 by decide)]; exact hA k hk
    · rw [db_uI_j (by decide), db_uI_j (by decide), db_uI_j (by decide), db_uI_j (by decide), db_uI_1]
    · rw [db_uI_j (by decide), db_uI_j (by decide), db_uI_j (by decide), db_uI_1]
    · rw [db_uI_j (by decide), db_uI_j (by decide), db_uI_1]
    · rw [db_uI_j (by decide), db_uI_1]
    · rw [db_uI_1]
    · rw [db_uI_j (by decide), db_uI_j (by decide), db_uI_j (by decide), db_uI_j (by decide), db_uI_j (by decide), db_uI_j (by decide), db_uI_1]
    · rw [db_uI_j (by decide), db_uI_j (by decide), db_uI_j (by decide), db_uI_j (by decide), db_uI_j (by decide), db_uI_1]
    · rw [db_uI_j (by omega), db_uI_j (by omega), db_uI_j (by omega), db_uI_j (by omega), db_uI_j (by omega), db_uI_j (by omega), db_uI_j (by omega)]
    · simp only [db_uI_n (show (674 : Nat) ≠ 669 by decide)]
    · simp only [db_uI_n a1]
  have e200 : s1.1 674 200 = nI n := by rw [hR.1 200 (by omega)]; exact hn
  simp (disch := omega) only [db_lit, eq_self, db_pI_e, db_pL_e, db_bind_some, db_bd_some, nI_add, pk_mul, nI_toInt, db_m1_t, dz_cn, Int.ofNat_le, Int.ofNat_lt, decide_true, decide_false, db_ct, db_cf, not_true_eq_false, not_false_eq_true, db_g_674, e200]
  have hrun := dw_368 (R := R) (s0 := s) hU 31 3 11 db_FU 0 n 0 z _ s1 hn2 hP (by omega) (by unfold db_FU; omega) hT hR
  obtain ⟨y, ey, hy⟩ := hrun
  have e368 : db_f368 db_FR s1 (nI 0) (nI n) = some y := by
    rw [show db_FR = 11 + 1 from rfl, db_f368]
    unfold db_f368_e
    exact ey
  rw [e368]
  exact ⟨y, rfl, hy, hTe⟩
end DBHE
