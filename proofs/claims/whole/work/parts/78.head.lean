/-! LIVES: the class's run begins; its tallies are kept -/
section DBHD
variable {U : Nat} {s : db_S} {c : db_C} {w : Nat → Int64} {sd : Nat}
theorem dw_194h (hB : db_B1 U 20 s c w) : ∃ z, db_f194 s (nI sd) = db_f194_b20 db_FU z (nI 0) (nI 0) (nI 0) ∧ dw_Rc U s w c (fun _ => nI 0) sd z ∧ ∀ b, 287 ≤ b → b ≤ 289 → z.1 b = s.1 b := by
  obtain ⟨z, e, h1, h2⟩ := db_2 (s := s) (a := 286) (L := 5) (v := nI 0) rfl rfl rfl (by omega)
  refine ⟨db_uI z 284 9 (nI sd), ?_, ⟨db_B1_c (fun a q1 q2 q3 => ?_) ?_ hB, db_uI_1, fun j hj => ?_, db_Ed_u (db_Ec_Ed (db_F1_Ec h1 (fun j => by unfold db_ec; omega))) (.inl (by unfold db_ec; omega))⟩, fun b b1 b2 => by rw [db_uI_n (by omega), h1.1 b (by omega)]⟩
  · unfold db_f194
    simp (disch := omega) only [db_lit, eq_self, db_pI_e, db_pL_e, db_bind_some, db_bd_some, nI_add, pk_mul, nI_toInt, db_m1_t, dz_cn, Int.ofNat_le, Int.ofNat_lt, decide_true, decide_false, db_ct, db_cf, not_true_eq_false, not_false_eq_true, e]
  · rw [db_uI_n (by omega), h1.1 a (by omega)]
  · rw [db_uI_2, h1.2]
  · rw [db_uI_n (by decide)]
    exact h2 j hj
theorem dw_200 : ∃ z, db_f200 s = some z ∧ (∀ b, b ≠ 284 → b ≠ 285 → z.1 b = s.1 b) ∧ z.2 = s.2 ∧ z.1 284 0 = nI 1 ∧ (∀ j, j ≠ 0 → z.1 284 j = s.1 284 j) ∧ ∀ j, j < 5 → z.1 285 j = s.1 286 j := by
  obtain ⟨z, e, f1, f2⟩ := db_83 (s := s) (a := 286) (d := 285) (L := 5) rfl rfl rfl rfl rfl rfl (by omega)
  refine ⟨db_uI z 284 0 (nI 1), ?_, fun b b1 b2 => ?_, ?_, db_uI_1, fun j hj => ?_, fun j hj => ?_⟩
  · unfold db_f200
    simp (disch := omega) only [db_lit, eq_self, db_pI_e, db_pL_e, db_bind_some, db_bd_some, nI_add, pk_mul, nI_toInt, db_m1_t, dz_cn, Int.ofNat_le, Int.ofNat_lt, decide_true, decide_false, db_ct, db_cf, not_true_eq_false, not_false_eq_true, e]
  · rw [db_uI_n b1, f1.1 b b2]
  · rw [db_uI_2, f1.2]
  · rw [db_uI_j hj, f1.1 284 (by decide)]
  · rw [db_uI_n (by decide)]
    exact f2 j hj
end DBHD
