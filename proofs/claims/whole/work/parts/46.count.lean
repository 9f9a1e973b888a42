/-! HOW MANY BITS: Integer.bitCount on sets of 12, by the kernel -/
def db_pc (x : Int32) : Nat := fb_ct (fun i => bt x i) 12
theorem db_bc_0 : ∀ k, k < 512 → db_f152 (fun _ _ => 0, fun _ _ => 0) (nI (512 * 0 + k)) = some (nI (db_pc (nI (512 * 0 + k)))) := by decide +kernel
theorem db_bc_1 : ∀ k, k < 512 → db_f152 (fun _ _ => 0, fun _ _ => 0) (nI (512 * 1 + k)) = some (nI (db_pc (nI (512 * 1 + k)))) := by decide +kernel
theorem db_bc_2 : ∀ k, k < 512 → db_f152 (fun _ _ => 0, fun _ _ => 0) (nI (512 * 2 + k)) = some (nI (db_pc (nI (512 * 2 + k)))) := by decide +kernel
theorem db_bc_3 : ∀ k, k < 512 → db_f152 (fun _ _ => 0, fun _ _ => 0) (nI (512 * 3 + k)) = some (nI (db_pc (nI (512 * 3 + k)))) := by decide +kernel
theorem db_bc_4 : ∀ k, k < 512 → db_f152 (fun _ _ => 0, fun _ _ => 0) (nI (512 * 4 + k)) = some (nI (db_pc (nI (512 * 4 + k)))) := by decide +kernel
theorem db_bc_5 : ∀ k, k < 512 → db_f152 (fun _ _ => 0, fun _ _ => 0) (nI (512 * 5 + k)) = some (nI (db_pc (nI (512 * 5 + k)))) := by decide +kernel
theorem db_bc_6 : ∀ k, k < 512 → db_f152 (fun _ _ => 0, fun _ _ => 0) (nI (512 * 6 + k)) = some (nI (db_pc (nI (512 * 6 + k)))) := by decide +kernel
theorem db_bc_7 : ∀ k, k < 512 → db_f152 (fun _ _ => 0, fun _ _ => 0) (nI (512 * 7 + k)) = some (nI (db_pc (nI (512 * 7 + k)))) := by decide +kernel
theorem db_152 {s : db_S} {k : Nat} (hk : k < 4096) : db_f152 s (nI k) = some (nI (db_pc (nI k))) := by
  show db_f152 (fun _ _ => 0, fun _ _ => 0) (nI k) = _
  obtain ⟨q, r, hr, rfl⟩ : ∃ q r, r < 512 ∧ k = 512 * q + r := ⟨k / 512, k % 512, by omega, by omega⟩
  rcases (by omega : q = 0 ∨ q = 1 ∨ q = 2 ∨ q = 3 ∨ q = 4 ∨ q = 5 ∨ q = 6 ∨ q = 7) with rfl | rfl | rfl | rfl | rfl | rfl | rfl | rfl
  · exact db_bc_0 r hr
  · exact db_bc_1 r hr
  · exact db_bc_2 r hr
  · exact db_bc_3 r hr
  · exact db_bc_4 r hr
  · exact db_bc_5 r hr
  · exact db_bc_6 r hr
  · exact db_bc_7 r hr
