/-! LIVES: the book put aside and back -/
section DBAS
variable {s a : db_S}
theorem dw_s287 : ∃ z, db_f175_287_80 s = some z ∧ (∀ b, b ≠ 287 → b ≠ 288 → b ≠ 289 → z.1 b = s.1 b) ∧ z.2 = s.2 ∧ (∀ j, j < 12 → z.1 288 j = s.1 81 j) ∧ (∀ j, j < 4 → z.1 289 j = s.1 82 j) ∧ z.1 287 2 = s.1 80 2 ∧ z.1 287 3 = s.1 80 3 := by
  obtain ⟨z1, e1, f1, g1⟩ := db_83 (s := s) (a := 81) (d := 288) (L := 12) rfl rfl rfl rfl rfl rfl (by omega)
  obtain ⟨z2, e2, f2, g2⟩ := db_83 (s := z1) (a := 82) (d := 289) (L := 4) rfl rfl rfl rfl rfl rfl (by omega)
  refine ⟨db_uI (db_uI z2 287 2 (z2.1 80 2)) 287 3 ((db_uI z2 287 2 (z2.1 80 2)).1 80 3), ?_, fun b b1 b2 b3 => ?_, ?_, fun j hj => ?_, fun j hj => ?_, ?_, ?_⟩
  · unfold db_f175_287_80
    simp (disch := omega) only [db_lit, eq_self, db_pI_e, db_pL_e, db_bind_some, db_bd_some, nI_add, pk_mul, nI_toInt, db_m1_t, dz_cn, Int.ofNat_le, Int.ofNat_lt, decide_true, decide_false, db_ct, db_cf, not_true_eq_false, not_false_eq_true, e1, e2]
  · rw [db_uI_n b1, db_uI_n b1, f2.1 b b3, f1.1 b b2]
  · rw [db_uI_2, db_uI_2, f2.2, f1.2]
  · rw [db_uI_n (by decide), db_uI_n (by decide), f2.1 288 (by decide), g1 j hj]
  · rw [db_uI_n (by decide), db_uI_n (by decide), g2 j hj, f1.1 82 (by decide)]
  · rw [db_uI_j (by decide), db_uI_1, f2.1 80 (by decide), f1.1 80 (by decide)]
  · rw [db_uI_1, db_uI_n (by decide), f2.1 80 (by decide), f1.1 80 (by decide)]
theorem dw_r287 : ∃ z, db_f175_80_287 a = some z ∧ (∀ b, b ≠ 80 → b ≠ 81 → b ≠ 82 → z.1 b = a.1 b) ∧ z.2 = a.2 ∧ (∀ j, j < 12 → z.1 81 j = a.1 288 j) ∧ (∀ j, j < 4 → z.1 82 j = a.1 289 j) ∧ z.1 80 2 = a.1 287 2 ∧ z.1 80 3 = a.1 287 3 := by
  obtain ⟨z1, e1, f1, g1⟩ := db_83 (s := a) (a := 288) (d := 81) (L := 12) rfl rfl rfl rfl rfl rfl (by omega)
  obtain ⟨z2, e2, f2, g2⟩ := db_83 (s := z1) (a := 289) (d := 82) (L := 4) rfl rfl rfl rfl rfl rfl (by omega)
  refine ⟨db_uI (db_uI z2 80 2 (z2.1 287 2)) 80 3 ((db_uI z2 80 2 (z2.1 287 2)).1 287 3), ?_, fun b b1 b2 b3 => ?_, ?_, fun j hj => ?_, fun j hj => ?_, ?_, ?_⟩
  · unfold db_f175_80_287
    simp (disch := omega) only [db_lit, eq_self, db_pI_e, db_pL_e, db_bind_some, db_bd_some, nI_add, pk_mul, nI_toInt, db_m1_t, dz_cn, Int.ofNat_le, Int.ofNat_lt, decide_true, decide_false, db_ct, db_cf, not_true_eq_false, not_false_eq_true, e1, e2]
  · rw [db_uI_n b1, db_uI_n b1, f2.1 b b3, f1.1 b b2]
  · rw [db_uI_2, db_uI_2, f2.2, f1.2]
  · rw [db_uI_n (by decide), db_uI_n (by decide), f2.1 81 (by decide), g1 j hj]
  · rw [db_uI_n (by decide), db_uI_n (by decide), g2 j hj, f1.1 289 (by decide)]
  · rw [db_uI_j (by decide), db_uI_1, f2.1 287 (by decide), f1.1 287 (by decide)]
  · rw [db_uI_1, db_uI_n (by decide), f2.1 287 (by decide), f1.1 287 (by decide)]
end DBAS
