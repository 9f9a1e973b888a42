/-! THE LAW'S LOOP (written by gen99k.py) -/
def dx_T (t : Option (Bool × db_S)) : Prop := ∃ s, t = some (true, s)
theorem dx_if {c : Prop} [Decidable c] {a b : Option (Bool × db_S)} (h1 : dx_T a) (h2 : dx_T b) : dx_T (if c then a else b) := by
  by_cases h : c
  · rw [if_pos h]; exact h1
  · rw [if_neg h]; exact h2
theorem dx_eq {x : Int32} : db_cnd .eq x x = true := decide_eq_true rfl
theorem dx_lg {x : Int64} : lg_cmp x x = 0 := by
  unfold lg_cmp
  rw [if_neg (fun h => Int64.lt_irrefl h), if_pos rfl]
theorem dx_mono {U U' : Nat} {s : db_S} (h : U ≤ U') (hI : db_Inv U s) : db_Inv U' s := by
  obtain ⟨h1, h2, h3, h4, h5, h6, h7, ⟨n, n1, n2, n3, n4⟩, h9, h10, h11⟩ := hI
  exact ⟨h1, h2, h3, h4, h5, h6, db_B1_mono h h7, ⟨n, n1, n2, n3, fun q hq => db_B1_mono h (n4 q hq)⟩, h9, h10, h11⟩
section DX
variable {X : db_X} {h18 : db_S → Int32 → Option (Bool × db_S)} {s : db_S} {v3 x1 x2 x3 x4 x5 : Int32} {U : Nat}
theorem dx_0 (hI : db_Inv U s) (hU : U + 1800 ≤ 1000000000)  (h : ∀ s2, db_Inv (U + 1800) s2 → dx_T (h18 s2 (v3 + (6 : Int32)))) : dx_T (db_law_b272 X h18 s v3) := by
  have hk : db_G0 U s (fun s => db_f22 s) (fun s => db_f207 s) := db_k0 hI
  obtain ⟨v, s2, e1, e2, hI2⟩ := hk
  obtain ⟨s', e'⟩ := h s2 (dx_mono (by omega) hI2)
  have e1 : db_f22 s = some v := e1
  have e2 : db_f207 s = some (v, s2) := e2
  refine ⟨s', ?_⟩
  unfold db_law_b272 db_law_b2023
  simp only [db_bind_some, db_bd_some, e1, e2, dx_eq, db_ct, e']
theorem dx_1 (hI : db_Inv U s) (hU : U + 1800 ≤ 1000000000)  (h : ∀ s2, db_Inv (U + 1800) s2 → dx_T (h18 s2 (v3 + (6 : Int32)))) : dx_T (db_law_b285 X h18 s v3) := by
  have hk : db_G0 U s (fun s => db_f23 s) (fun s => db_f208 s) := db_k1 hI
  obtain ⟨v, s2, e1, e2, hI2⟩ := hk
  obtain ⟨s', e'⟩ := h s2 (dx_mono (by omega) hI2)
  have e1 : db_f23 s = some v := e1
  have e2 : db_f208 s = some (v, s2) := e2
  refine ⟨s', ?_⟩
  unfold db_law_b285 db_law_b2023
  simp only [db_bind_some, db_bd_some, e1, e2, dx_eq, dx_lg, db_ct, e']
theorem dx_2 (hI : db_Inv U s) (hU : U + 1800 ≤ 1000000000)  (h : ∀ s2, db_Inv (U + 1800) s2 → dx_T (h18 s2 (v3 + (6 : Int32)))) : dx_T (db_law_b299 X h18 s v3) := by
  have hk : db_G0 U s (fun s => db_f24 s) (fun s => db_f209 s) := db_k2 hI
  obtain ⟨v, s2, e1, e2, hI2⟩ := hk
  obtain ⟨s', e'⟩ := h s2 (dx_mono (by omega) hI2)
  have e1 : db_f24 s = some v := e1
  have e2 : db_f209 s = some (v, s2) := e2
  refine ⟨s', ?_⟩
  unfold db_law_b299 db_law_b2023
  simp only [db_bind_some, db_bd_some, e1, e2, dx_eq, dx_lg, db_ct, e']
theorem dx_3 (hI : db_Inv U s) (hU : U + 1800 ≤ 1000000000) (h1 : db_xX X (v3 + (1 : Int32)) = some x1) (h2 : db_xX X (v3 + (2 : Int32)) = some x2) (h3 : db_xX X (v3 + (3 : Int32)) = some x3) (h : ∀ s2, db_Inv (U + 1800) s2 → dx_T (h18 s2 (v3 + (6 : Int32)))) : dx_T (db_law_b313 X h18 s v3) := by
  have hk : dz_G U s (fun s => db_f25 s x1 x2 x3) (fun s => db_f210 s x1 x2 x3) := db_k3 hI
  obtain ⟨v, s1, s2, e1, e2, hI2⟩ := hk
  obtain ⟨s', e'⟩ := h s2 (dx_mono (by omega) hI2)
  have e1 : db_f25 s x1 x2 x3 = some (v, s1) := e1
  have e2 : db_f210 s1 x1 x2 x3 = some (v, s2) := e2
  refine ⟨s', ?_⟩
  unfold db_law_b313 db_law_b2023
  rw [h1, h2, h3]
  simp only [db_bind_some, db_bd_some, e1, e2, dx_eq, db_ct, e']
theorem dx_4 (hI : db_Inv U s) (hU : U + 1800 ≤ 1000000000) (h1 : db_xX X (v3 + (1 : Int32)) = some x1) (h2 : db_xX X (v3 + (2 : Int32)) = some x2) (h3 : db_xX X (v3 + (3 : Int32)) = some x3) (h4 : db_xX X (v3 + (4 : Int32)) = some x4) (h : ∀ s2, db_Inv (U + 1800) s2 → dx_T (h18 s2 (v3 + (6 : Int32)))) : dx_T (db_law_b356 X h18 s v3) := by
  have hk : dz_G U s (fun s => db_f32 s x1 x2 (((Int32.toInt64 x3) <<< (Int32.toInt64 (32 : Int32) &&& 63)) ||| ((Int32.toInt64 x4) &&& (4294967295 : Int64)))) (fun s => db_f212 s x1 x2 (((Int32.toInt64 x3) <<< (Int32.toInt64 (32 : Int32) &&& 63)) ||| ((Int32.toInt64 x4) &&& (4294967295 : Int64)))) := db_k4 hI
  obtain ⟨v, s1, s2, e1, e2, hI2⟩ := hk
  obtain ⟨s', e'⟩ := h s2 (dx_mono (by omega) hI2)
  have e1 : db_f32 s x1 x2 (((Int32.toInt64 x3) <<< (Int32.toInt64 (32 : Int32) &&& 63)) ||| ((Int32.toInt64 x4) &&& (4294967295 : Int64))) = some (v, s1) := e1
  have e2 : db_f212 s1 x1 x2 (((Int32.toInt64 x3) <<< (Int32.toInt64 (32 : Int32) &&& 63)) ||| ((Int32.toInt64 x4) &&& (4294967295 : Int64))) = some (v, s2) := e2
  refine ⟨s', ?_⟩
  unfold db_law_b356 db_law_b2023
  rw [h1, h2, h3, h4]
  simp only [db_bind_some, db_bd_some, e1, e2, dx_eq, db_ct, e']
theorem dx_5 (hI : db_Inv U s) (hU : U + 1800 ≤ 1000000000) (h1 : db_xX X (v3 + (1 : Int32)) = some x1) (h2 : db_xX X (v3 + (2 : Int32)) = some x2) (h : ∀ s2, db_Inv (U + 1800) s2 → dx_T (h18 s2 (v3 + (6 : Int32)))) : dx_T (db_law_b429 X h18 s v3) := by
  have hk : dz_G U s (fun s => db_f36 s x1 x2) (fun s => db_f216 s x1 x2) := db_k5 hI
  obtain ⟨v, s1, s2, e1, e2, hI2⟩ := hk
  obtain ⟨s', e'⟩ := h s2 (dx_mono (by omega) hI2)
  have e1 : db_f36 s x1 x2 = some (v, s1) := e1
  have e2 : db_f216 s1 x1 x2 = some (v, s2) := e2
  refine ⟨s', ?_⟩
  unfold db_law_b429 db_law_b2023
  rw [h1, h2]
  simp only [db_bind_some, db_bd_some, e1, e2, dx_eq, dx_lg, db_ct, e']
theorem dx_6 (hI : db_Inv U s) (hU : U + 1800 ≤ 1000000000) (h1 : db_xX X (v3 + (1 : Int32)) = some x1) (h2 : db_xX X (v3 + (2 : Int32)) = some x2) (h3 : db_xX X (v3 + (3 : Int32)) = some x3) (h4 : db_xX X (v3 + (4 : Int32)) = some x4) (h5 : db_xX X (v3 + (5 : Int32)) = some x5) (h : ∀ s2, db_Inv (U + 1800) s2 → dx_T (h18 s2 (v3 + (6 : Int32)))) : dx_T (db_law_b463 X h18 s v3) := by
  have hk : dz_G U s (fun s => db_f38 s x1 x2 x3 x4 x5) (fun s => db_f217 s x1 x2 x3 x4 x5) := db_k6 hI
  obtain ⟨v, s1, s2, e1, e2, hI2⟩ := hk
  obtain ⟨s', e'⟩ := h s2 (dx_mono (by omega) hI2)
  have e1 : db_f38 s x1 x2 x3 x4 x5 = some (v, s1) := e1
  have e2 : db_f217 s1 x1 x2 x3 x4 x5 = some (v, s2) := e2
  refine ⟨s', ?_⟩
  unfold db_law_b463 db_law_b2023
  rw [h1, h2, h3, h4, h5]
  simp only [db_bind_some, db_bd_some, e1, e2, dx_eq, db_ct, e']
theorem dx_7 (hI : db_Inv U s) (hU : U + 1800 ≤ 1000000000) (h1 : db_xX X (v3 + (1 : Int32)) = some x1) (h2 : db_xX X (v3 + (2 : Int32)) = some x2) (h3 : db_xX X (v3 + (3 : Int32)) = some x3) (h4 : db_xX X (v3 + (4 : Int32)) = some x4) (h5 : db_xX X (v3 + (5 : Int32)) = some x5) (h : ∀ s2, db_Inv (U + 1800) s2 → dx_T (h18 s2 (v3 + (6 : Int32)))) : dx_T (db_law_b526 X h18 s v3) := by
  have hk : dz_G U s (fun s => db_f41 s x1 x2 x3 x4 x5) (fun s => db_f218 s x1 x2 x3 x4 x5) := db_k7 hI
  obtain ⟨v, s1, s2, e1, e2, hI2⟩ := hk
  obtain ⟨s', e'⟩ := h s2 (dx_mono (by omega) hI2)
  have e1 : db_f41 s x1 x2 x3 x4 x5 = some (v, s1) := e1
  have e2 : db_f218 s1 x1 x2 x3 x4 x5 = some (v, s2) := e2
  refine ⟨s', ?_⟩
  unfold db_law_b526 db_law_b2023
  rw [h1, h2, h3, h4, h5]
  simp only [db_bind_some, db_bd_some, e1, e2, dx_eq, db_ct, e']
theorem dx_8 (hI : db_Inv U s) (hU : U + 1800 ≤ 1000000000) (h1 : db_xX X (v3 + (1 : Int32)) = some x1) (h : ∀ s2, db_Inv (U + 1800) s2 → dx_T (h18 s2 (v3 + (6 : Int32)))) : dx_T (db_law_b589 X h18 s v3) := by
  have hk : dz_G U s (fun s => db_f44 s x1) (fun s => db_f221 s x1) := db_k8 hI
  obtain ⟨v, s1, s2, e1, e2, hI2⟩ := hk
  obtain ⟨s', e'⟩ := h s2 (dx_mono (by omega) hI2)
  have e1 : db_f44 s x1 = some (v, s1) := e1
  have e2 : db_f221 s1 x1 = some (v, s2) := e2
  refine ⟨s', ?_⟩
  unfold db_law_b589 db_law_b2023
  rw [h1]
  simp only [db_bind_some, db_bd_some, e1, e2, dx_eq, db_ct, e']
theorem dx_9 (hI : db_Inv U s) (hU : U + 1800 ≤ 1000000000) (h1 : db_xX X (v3 + (1 : Int32)) = some x1) (h : ∀ s2, db_Inv (U + 1800) s2 → dx_T (h18 s2 (v3 + (6 : Int32)))) : dx_T (db_law_b612 X h18 s v3) := by
  have hk : dz_G U s (fun s => db_f88 s x1) (fun s => db_f276 s x1) := db_k9 hI
  obtain ⟨v, s1, s2, e1, e2, hI2⟩ := hk
  obtain ⟨s', e'⟩ := h s2 (dx_mono (by omega) hI2)
  have e1 : db_f88 s x1 = some (v, s1) := e1
  have e2 : db_f276 s1 x1 = some (v, s2) := e2
  refine ⟨s', ?_⟩
  unfold db_law_b612 db_law_b2023
  rw [h1]
  simp only [db_bind_some, db_bd_some, e1, e2, dx_eq, db_ct, e']
theorem dx_10 (hI : db_Inv U s) (hU : U + 1800 ≤ 1000000000) (h1 : db_xX X (v3 + (1 : Int32)) = some x1) (h : ∀ s2, db_Inv (U + 1800) s2 → dx_T (h18 s2 (v3 + (6 : Int32)))) : dx_T (db_law_b635 X h18 s v3) := by
  have hk : db_G0 U s (fun s => db_f98 s x1) (fun s => db_f220 s x1) := db_k10 hI
  obtain ⟨v, s2, e1, e2, hI2⟩ := hk
  obtain ⟨s', e'⟩ := h s2 (dx_mono (by omega) hI2)
  have e1 : db_f98 s x1 = some v := e1
  have e2 : db_f220 s x1 = some (v, s2) := e2
  refine ⟨s', ?_⟩
  unfold db_law_b635 db_law_b2023
  rw [h1]
  simp only [db_bind_some, db_bd_some, e1, e2, dx_eq, db_ct, e']
theorem dx_11 (hI : db_Inv U s) (hU : U + 1800 ≤ 1000000000) (h1 : db_xX X (v3 + (1 : Int32)) = some x1) (h : ∀ s2, db_Inv (U + 1800) s2 → dx_T (h18 s2 (v3 + (6 : Int32)))) : dx_T (db_law_b658 X h18 s v3) := by
  have hk : dz_G U s (fun s => db_f99 s x1) (fun s => db_f280 s x1) := db_k11 hI
  obtain ⟨v, s1, s2, e1, e2, hI2⟩ := hk
  obtain ⟨s', e'⟩ := h s2 (dx_mono (by omega) hI2)
  have e1 : db_f99 s x1 = some (v, s1) := e1
  have e2 : db_f280 s1 x1 = some (v, s2) := e2
  refine ⟨s', ?_⟩
  unfold db_law_b658 db_law_b2023
  rw [h1]
  simp only [db_bind_some, db_bd_some, e1, e2, dx_eq, db_ct, e']
theorem dx_12 (hI : db_Inv U s) (hU : U + 1800 ≤ 1000000000) (h1 : db_xX X (v3 + (1 : Int32)) = some x1) (h2 : db_xX X (v3 + (2 : Int32)) = some x2) (h : ∀ s2, db_Inv (U + 1800) s2 → dx_T (h18 s2 (v3 + (6 : Int32)))) : dx_T (db_law_b681 X h18 s v3) := by
  have hk : dz_G U s (fun s => db_f102 s x1 x2) (fun s => db_f288 s x1 x2) := db_k12 hI (by omega)
  obtain ⟨v, s1, s2, e1, e2, hI2⟩ := hk
  obtain ⟨s', e'⟩ := h s2 (dx_mono (by omega) hI2)
  have e1 : db_f102 s x1 x2 = some (v, s1) := e1
  have e2 : db_f288 s1 x1 x2 = some (v, s2) := e2
  refine ⟨s', ?_⟩
  unfold db_law_b681 db_law_b2023
  rw [h1, h2]
  simp only [db_bind_some, db_bd_some, e1, e2, dx_eq, db_ct, e']
theorem dx_13 (hI : db_Inv U s) (hU : U + 1800 ≤ 1000000000) (h1 : db_xX X (v3 + (1 : Int32)) = some x1) (h2 : db_xX X (v3 + (2 : Int32)) = some x2) (h : ∀ s2, db_Inv (U + 1800) s2 → dx_T (h18 s2 (v3 + (6 : Int32)))) : dx_T (db_law_b714 X h18 s v3) := by
  have hk : dz_G U s (fun s => db_f105 s x1 x2) (fun s => db_f291 s x1 x2) := db_k13 hI
  obtain ⟨v, s1, s2, e1, e2, hI2⟩ := hk
  obtain ⟨s', e'⟩ := h s2 (dx_mono (by omega) hI2)
  have e1 : db_f105 s x1 x2 = some (v, s1) := e1
  have e2 : db_f291 s1 x1 x2 = some (v, s2) := e2
  refine ⟨s', ?_⟩
  unfold db_law_b714 db_law_b2023
  rw [h1, h2]
  simp only [db_bind_some, db_bd_some, e1, e2, dx_eq, db_ct, e']
theorem dx_14 (hI : db_Inv U s) (hU : U + 1800 ≤ 1000000000) (h1 : db_xX X (v3 + (1 : Int32)) = some x1) (h : ∀ s2, db_Inv (U + 1800) s2 → dx_T (h18 s2 (v3 + (6 : Int32)))) : dx_T (db_law_b747 X h18 s v3) := by
  have hk : dz_G U s (fun s => db_f106 s x1) (fun s => db_f293 s x1) := db_k14 hI
  obtain ⟨v, s1, s2, e1, e2, hI2⟩ := hk
  obtain ⟨s', e'⟩ := h s2 (dx_mono (by omega) hI2)
  have e1 : db_f106 s x1 = some (v, s1) := e1
  have e2 : db_f293 s1 x1 = some (v, s2) := e2
  refine ⟨s', ?_⟩
  unfold db_law_b747 db_law_b2023
  rw [h1]
  simp only [db_bind_some, db_bd_some, e1, e2, dx_eq, db_ct, e']
theorem dx_15 (hI : db_Inv U s) (hU : U + 1800 ≤ 1000000000) (h1 : db_xX X (v3 + (1 : Int32)) = some x1) (h2 : db_xX X (v3 + (2 : Int32)) = some x2) (h : ∀ s2, db_Inv (U + 1800) s2 → dx_T (h18 s2 (v3 + (6 : Int32)))) : dx_T (db_law_b770 X h18 s v3) := by
  have hk : dz_G U s (fun s => db_f107 s x1 x2) (fun s => db_f295 s x1 x2) := db_k15 hI
  obtain ⟨v, s1, s2, e1, e2, hI2⟩ := hk
  obtain ⟨s', e'⟩ := h s2 (dx_mono (by omega) hI2)
  have e1 : db_f107 s x1 x2 = some (v, s1) := e1
  have e2 : db_f295 s1 x1 x2 = some (v, s2) := e2
  refine ⟨s', ?_⟩
  unfold db_law_b770 db_law_b2023
  rw [h1, h2]
  simp only [db_bind_some, db_bd_some, e1, e2, dx_eq, db_ct, e']
theorem dx_16 (hI : db_Inv U s) (hU : U + 1800 ≤ 1000000000) (h1 : db_xX X (v3 + (1 : Int32)) = some x1) (h2 : db_xX X (v3 + (2 : Int32)) = some x2) (h : ∀ s2, db_Inv (U + 1800) s2 → dx_T (h18 s2 (v3 + (6 : Int32)))) : dx_T (db_law_b803 X h18 s v3) := by
  have hk : dz_G U s (fun s => db_f108 s x1 x2) (fun s => db_f296 s x1 x2) := db_k16 hI
  obtain ⟨v, s1, s2, e1, e2, hI2⟩ := hk
  obtain ⟨s', e'⟩ := h s2 (dx_mono (by omega) hI2)
  have e1 : db_f108 s x1 x2 = some (v, s1) := e1
  have e2 : db_f296 s1 x1 x2 = some (v, s2) := e2
  refine ⟨s', ?_⟩
  unfold db_law_b803 db_law_b2023
  rw [h1, h2]
  simp only [db_bind_some, db_bd_some, e1, e2, dx_eq, db_ct, e']
theorem dx_17 (hI : db_Inv U s) (hU : U + 1800 ≤ 1000000000) (h1 : db_xX X (v3 + (1 : Int32)) = some x1) (h2 : db_xX X (v3 + (2 : Int32)) = some x2) (h : ∀ s2, db_Inv (U + 1800) s2 → dx_T (h18 s2 (v3 + (6 : Int32)))) : dx_T (db_law_b836 X h18 s v3) := by
  have hk : dz_G U s (fun s => db_f109 s x1 x2) (fun s => db_f298 s x1 x2) := db_k17 hI
  obtain ⟨v, s1, s2, e1, e2, hI2⟩ := hk
  obtain ⟨s', e'⟩ := h s2 (dx_mono (by omega) hI2)
  have e1 : db_f109 s x1 x2 = some (v, s1) := e1
  have e2 : db_f298 s1 x1 x2 = some (v, s2) := e2
  refine ⟨s', ?_⟩
  unfold db_law_b836 db_law_b2023
  rw [h1, h2]
  simp only [db_bind_some, db_bd_some, e1, e2, dx_eq, db_ct, e']
theorem dx_18 (hI : db_Inv U s) (hU : U + 1800 ≤ 1000000000) (h1 : db_xX X (v3 + (1 : Int32)) = some x1) (h2 : db_xX X (v3 + (2 : Int32)) = some x2) (h : ∀ s2, db_Inv (U + 1800) s2 → dx_T (h18 s2 (v3 + (6 : Int32)))) : dx_T (db_law_b869 X h18 s v3) := by
  have hk : dz_G U s (fun s => db_f110 s x1 x2) (fun s => db_f300 s x1 x2) := db_k18 hI
  obtain ⟨v, s1, s2, e1, e2, hI2⟩ := hk
  obtain ⟨s', e'⟩ := h s2 (dx_mono (by omega) hI2)
  have e1 : db_f110 s x1 x2 = some (v, s1) := e1
  have e2 : db_f300 s1 x1 x2 = some (v, s2) := e2
  refine ⟨s', ?_⟩
  unfold db_law_b869 db_law_b2023
  rw [h1, h2]
  simp only [db_bind_some, db_bd_some, e1, e2, dx_eq, db_ct, e']
theorem dx_19 (hI : db_Inv U s) (hU : U + 1800 ≤ 1000000000) (h1 : db_xX X (v3 + (1 : Int32)) = some x1) (h : ∀ s2, db_Inv (U + 1800) s2 → dx_T (h18 s2 (v3 + (6 : Int32)))) : dx_T (db_law_b902 X h18 s v3) := by
  have hk : dz_G U s (fun s => db_f111 s x1) (fun s => db_f302 s x1) := db_k19 hI
  obtain ⟨v, s1, s2, e1, e2, hI2⟩ := hk
  obtain ⟨s', e'⟩ := h s2 (dx_mono (by omega) hI2)
  have e1 : db_f111 s x1 = some (v, s1) := e1
  have e2 : db_f302 s1 x1 = some (v, s2) := e2
  refine ⟨s', ?_⟩
  unfold db_law_b902 db_law_b2023
  rw [h1]
  simp only [db_bind_some, db_bd_some, e1, e2, dx_eq, db_ct, e']
theorem dx_20 (hI : db_Inv U s) (hU : U + 1800 ≤ 1000000000)  (h : ∀ s2, db_Inv (U + 1800) s2 → dx_T (h18 s2 (v3 + (6 : Int32)))) : dx_T (db_law_b925 X h18 s v3) := by
  have hk : dz_G U s (fun s => db_f113 s) (fun s => db_f303 s) := db_k20 hI
  obtain ⟨v, s1, s2, e1, e2, hI2⟩ := hk
  obtain ⟨s', e'⟩ := h s2 (dx_mono (by omega) hI2)
  have e1 : db_f113 s = some (v, s1) := e1
  have e2 : db_f303 s1 = some (v, s2) := e2
  refine ⟨s', ?_⟩
  unfold db_law_b925 db_law_b2023
  simp only [db_bind_some, db_bd_some, e1, e2, dx_eq, db_ct, e']
theorem dx_21 (hI : db_Inv U s) (hU : U + 1800 ≤ 1000000000) (h1 : db_xX X (v3 + (1 : Int32)) = some x1) (h : ∀ s2, db_Inv (U + 1800) s2 → dx_T (h18 s2 (v3 + (6 : Int32)))) : dx_T (db_law_b938 X h18 s v3) := by
  have hk : dz_G U s (fun s => db_f117 s x1) (fun s => db_f307 s x1) := db_k21 hI
  obtain ⟨v, s1, s2, e1, e2, hI2⟩ := hk
  obtain ⟨s', e'⟩ := h s2 (dx_mono (by omega) hI2)
  have e1 : db_f117 s x1 = some (v, s1) := e1
  have e2 : db_f307 s1 x1 = some (v, s2) := e2
  refine ⟨s', ?_⟩
  unfold db_law_b938 db_law_b2023
  rw [h1]
  simp only [db_bind_some, db_bd_some, e1, e2, dx_eq, db_ct, e']
theorem dx_22 (hI : db_Inv U s) (hU : U + 1800 ≤ 1000000000) (h1 : db_xX X (v3 + (1 : Int32)) = some x1) (h2 : db_xX X (v3 + (2 : Int32)) = some x2) (h : ∀ s2, db_Inv (U + 1800) s2 → dx_T (h18 s2 (v3 + (6 : Int32)))) : dx_T (db_law_b961 X h18 s v3) := by
  have hk : dz_G U s (fun s => db_f119 s x1 x2) (fun s => db_f308 s x1 x2) := db_k22 hI
  obtain ⟨v, s1, s2, e1, e2, hI2⟩ := hk
  obtain ⟨s', e'⟩ := h s2 (dx_mono (by omega) hI2)
  have e1 : db_f119 s x1 x2 = some (v, s1) := e1
  have e2 : db_f308 s1 x1 x2 = some (v, s2) := e2
  refine ⟨s', ?_⟩
  unfold db_law_b961 db_law_b2023
  rw [h1, h2]
  simp only [db_bind_some, db_bd_some, e1, e2, dx_eq, db_ct, e']
theorem dx_23 (hI : db_Inv U s) (hU : U + 1800 ≤ 1000000000) (h1 : db_xX X (v3 + (1 : Int32)) = some x1) (h : ∀ s2, db_Inv (U + 1800) s2 → dx_T (h18 s2 (v3 + (6 : Int32)))) : dx_T (db_law_b994 X h18 s v3) := by
  have hk : dz_G U s (fun s => db_f120 s x1) (fun s => db_f309 s x1) := db_k23 hI
  obtain ⟨v, s1, s2, e1, e2, hI2⟩ := hk
  obtain ⟨s', e'⟩ := h s2 (dx_mono (by omega) hI2)
  have e1 : db_f120 s x1 = some (v, s1) := e1
  have e2 : db_f309 s1 x1 = some (v, s2) := e2
  refine ⟨s', ?_⟩
  unfold db_law_b994 db_law_b2023
  rw [h1]
  simp only [db_bind_some, db_bd_some, e1, e2, dx_eq, db_ct, e']
theorem dx_24 (hI : db_Inv U s) (hU : U + 1800 ≤ 1000000000) (h1 : db_xX X (v3 + (1 : Int32)) = some x1) (h : ∀ s2, db_Inv (U + 1800) s2 → dx_T (h18 s2 (v3 + (6 : Int32)))) : dx_T (db_law_b1017 X h18 s v3) := by
  have hk : dz_G U s (fun s => db_f122 s x1) (fun s => db_f311 s x1) := db_k24 hI
  obtain ⟨v, s1, s2, e1, e2, hI2⟩ := hk
  obtain ⟨s', e'⟩ := h s2 (dx_mono (by omega) hI2)
  have e1 : db_f122 s x1 = some (v, s1) := e1
  have e2 : db_f311 s1 x1 = some (v, s2) := e2
  refine ⟨s', ?_⟩
  unfold db_law_b1017 db_law_b2023
  rw [h1]
  simp only [db_bind_some, db_bd_some, e1, e2, dx_eq, db_ct, e']
theorem dx_25 (hI : db_Inv U s) (hU : U + 1800 ≤ 1000000000) (h1 : db_xX X (v3 + (1 : Int32)) = some x1) (h : ∀ s2, db_Inv (U + 1800) s2 → dx_T (h18 s2 (v3 + (6 : Int32)))) : dx_T (db_law_b1040 X h18 s v3) := by
  have hk : dz_G U s (fun s => db_f123 s x1) (fun s => db_f312 s x1) := db_k25 hI
  obtain ⟨v, s1, s2, e1, e2, hI2⟩ := hk
  obtain ⟨s', e'⟩ := h s2 (dx_mono (by omega) hI2)
  have e1 : db_f123 s x1 = some (v, s1) := e1
  have e2 : db_f312 s1 x1 = some (v, s2) := e2
  refine ⟨s', ?_⟩
  unfold db_law_b1040 db_law_b2023
  rw [h1]
  simp only [db_bind_some, db_bd_some, e1, e2, dx_eq, db_ct, e']
theorem dx_26 (hI : db_Inv U s) (hU : U + 1800 ≤ 1000000000) (h1 : db_xX X (v3 + (1 : Int32)) = some x1) (h2 : db_xX X (v3 + (2 : Int32)) = some x2) (h3 : db_xX X (v3 + (3 : Int32)) = some x3) (h : ∀ s2, db_Inv (U + 1800) s2 → dx_T (h18 s2 (v3 + (6 : Int32)))) : dx_T (db_law_b1063 X h18 s v3) := by
  have hk : dz_G U s (fun s => db_f124 s x1 x2 x3) (fun s => db_f313 s x1 x2 x3) := db_k26 hI (by omega)
  obtain ⟨v, s1, s2, e1, e2, hI2⟩ := hk
  obtain ⟨s', e'⟩ := h s2 (dx_mono (by omega) hI2)
  have e1 : db_f124 s x1 x2 x3 = some (v, s1) := e1
  have e2 : db_f313 s1 x1 x2 x3 = some (v, s2) := e2
  refine ⟨s', ?_⟩
  unfold db_law_b1063 db_law_b2023
  rw [h1, h2, h3]
  simp only [db_bind_some, db_bd_some, e1, e2, dx_eq, db_ct, e']
theorem dx_27 (hI : db_Inv U s) (hU : U + 1800 ≤ 1000000000) (h1 : db_xX X (v3 + (1 : Int32)) = some x1) (h2 : db_xX X (v3 + (2 : Int32)) = some x2) (h3 : db_xX X (v3 + (3 : Int32)) = some x3) (h4 : db_xX X (v3 + (4 : Int32)) = some x4) (h : ∀ s2, db_Inv (U + 1800) s2 → dx_T (h18 s2 (v3 + (6 : Int32)))) : dx_T (db_law_b1106 X h18 s v3) := by
  have hk : dz_G U s (fun s => db_f132 s x1 x2 x3 x4) (fun s => db_f323 s x1 x2 x3 x4) := db_k27 hI (by omega)
  obtain ⟨v, s1, s2, e1, e2, hI2⟩ := hk
  obtain ⟨s', e'⟩ := h s2 (dx_mono (by omega) hI2)
  have e1 : db_f132 s x1 x2 x3 x4 = some (v, s1) := e1
  have e2 : db_f323 s1 x1 x2 x3 x4 = some (v, s2) := e2
  refine ⟨s', ?_⟩
  unfold db_law_b1106 db_law_b2023
  rw [h1, h2, h3, h4]
  simp only [db_bind_some, db_bd_some, e1, e2, dx_eq, db_ct, e']
theorem dx_28 (hI : db_Inv U s) (hU : U + 1800 ≤ 1000000000) (h1 : db_xX X (v3 + (1 : Int32)) = some x1) (h2 : db_xX X (v3 + (2 : Int32)) = some x2) (h3 : db_xX X (v3 + (3 : Int32)) = some x3) (h4 : db_xX X (v3 + (4 : Int32)) = some x4) (h : ∀ s2, db_Inv (U + 1800) s2 → dx_T (h18 s2 (v3 + (6 : Int32)))) : dx_T (db_law_b1159 X h18 s v3) := by
  have hk : dz_G U s (fun s => db_f134 s x1 x2 x3 x4) (fun s => db_f326 s x1 x2 x3 x4) := db_k28 hI (by omega)
  obtain ⟨v, s1, s2, e1, e2, hI2⟩ := hk
  obtain ⟨s', e'⟩ := h s2 (dx_mono (by omega) hI2)
  have e1 : db_f134 s x1 x2 x3 x4 = some (v, s1) := e1
  have e2 : db_f326 s1 x1 x2 x3 x4 = some (v, s2) := e2
  refine ⟨s', ?_⟩
  unfold db_law_b1159 db_law_b2023
  rw [h1, h2, h3, h4]
  simp only [db_bind_some, db_bd_some, e1, e2, dx_eq, db_ct, e']
theorem dx_29 (hI : db_Inv U s) (hU : U + 1800 ≤ 1000000000) (h1 : db_xX X (v3 + (1 : Int32)) = some x1) (h2 : db_xX X (v3 + (2 : Int32)) = some x2) (h3 : db_xX X (v3 + (3 : Int32)) = some x3) (h4 : db_xX X (v3 + (4 : Int32)) = some x4) (h : ∀ s2, db_Inv (U + 1800) s2 → dx_T (h18 s2 (v3 + (6 : Int32)))) : dx_T (db_law_b1212 X h18 s v3) := by
  have hk : dz_G U s (fun s => db_f135 s x1 x2 x3 x4) (fun s => db_f327 s x1 x2 x3 x4) := db_k29 hI (by omega)
  obtain ⟨v, s1, s2, e1, e2, hI2⟩ := hk
  obtain ⟨s', e'⟩ := h s2 (dx_mono (by omega) hI2)
  have e1 : db_f135 s x1 x2 x3 x4 = some (v, s1) := e1
  have e2 : db_f327 s1 x1 x2 x3 x4 = some (v, s2) := e2
  refine ⟨s', ?_⟩
  unfold db_law_b1212 db_law_b2023
  rw [h1, h2, h3, h4]
  simp only [db_bind_some, db_bd_some, e1, e2, dx_eq, db_ct, e']
theorem dx_30 (hI : db_Inv U s) (hU : U + 1800 ≤ 1000000000) (h1 : db_xX X (v3 + (1 : Int32)) = some x1) (h2 : db_xX X (v3 + (2 : Int32)) = some x2) (h3 : db_xX X (v3 + (3 : Int32)) = some x3) (h : ∀ s2, db_Inv (U + 1800) s2 → dx_T (h18 s2 (v3 + (6 : Int32)))) : dx_T (db_law_b1265 X h18 s v3) := by
  obtain ⟨v, s1, s2, e1, e2, hI2⟩ := db_k30 (x := x1) (p := x2) (q := x3) hI (by omega)
  obtain ⟨s', e'⟩ := h s2 (dx_mono (by omega) hI2)
  have e1 : db_f136 s x1 x2 x3 = some (v, s1) := e1
  have e2 : db_f332 s1 x1 x2 x3 = some (v, s2) := e2
  refine ⟨s', ?_⟩
  unfold db_law_b1265 db_law_b2023
  rw [h1, h2, h3]
  simp only [db_bind_some, db_bd_some, e1, e2, dx_eq, db_ct, e']
theorem dx_31 (hI : db_Inv U s) (hU : U + 1800 ≤ 1000000000) (h1 : db_xX X (v3 + (1 : Int32)) = some x1) (h2 : db_xX X (v3 + (2 : Int32)) = some x2) (h3 : db_xX X (v3 + (3 : Int32)) = some x3) (h : ∀ s2, db_Inv (U + 1800) s2 → dx_T (h18 s2 (v3 + (6 : Int32)))) : dx_T (db_law_b1308 X h18 s v3) := by
  have hk : dz_G U s (fun s => db_f139 s x1 x2 x3) (fun s => db_f328 s x1 x2 x3) := db_k31 hI (by omega)
  obtain ⟨v, s1, s2, e1, e2, hI2⟩ := hk
  obtain ⟨s', e'⟩ := h s2 (dx_mono (by omega) hI2)
  have e1 : db_f139 s x1 x2 x3 = some (v, s1) := e1
  have e2 : db_f328 s1 x1 x2 x3 = some (v, s2) := e2
  refine ⟨s', ?_⟩
  unfold db_law_b1308 db_law_b2023
  rw [h1, h2, h3]
  simp only [db_bind_some, db_bd_some, e1, e2, dx_eq, db_ct, e']
theorem dx_32 (hI : db_Inv U s) (hU : U + 1800 ≤ 1000000000)  (h : ∀ s2, db_Inv (U + 1800) s2 → dx_T (h18 s2 (v3 + (6 : Int32)))) : dx_T (db_law_b1351 X h18 s v3) := by
  have hk : dz_G U s (fun s => db_f141 s) (fun s => db_f330 s) := db_k32 hI (by omega)
  obtain ⟨v, s1, s2, e1, e2, hI2⟩ := hk
  obtain ⟨s', e'⟩ := h s2 (dx_mono (by omega) hI2)
  have e1 : db_f141 s = some (v, s1) := e1
  have e2 : db_f330 s1 = some (v, s2) := e2
  refine ⟨s', ?_⟩
  unfold db_law_b1351 db_law_b2023
  simp only [db_bind_some, db_bd_some, e1, e2, dx_eq, db_ct, e']
theorem dx_33 (hI : db_Inv U s) (hU : U + 1800 ≤ 1000000000)  (h : ∀ s2, db_Inv (U + 1800) s2 → dx_T (h18 s2 (v3 + (6 : Int32)))) : dx_T (db_law_b1364 X h18 s v3) := by
  have hk : dz_G U s (fun s => db_f143 s) (fun s => db_f331 s) := db_k33 hI
  obtain ⟨v, s1, s2, e1, e2, hI2⟩ := hk
  obtain ⟨s', e'⟩ := h s2 (dx_mono (by omega) hI2)
  have e1 : db_f143 s = some (v, s1) := e1
  have e2 : db_f331 s1 = some (v, s2) := e2
  refine ⟨s', ?_⟩
  unfold db_law_b1364 db_law_b2023
  simp only [db_bind_some, db_bd_some, e1, e2, dx_eq, db_ct, e']
theorem dx_34 (hI : db_Inv U s) (hU : U + 1800 ≤ 1000000000) (h1 : db_xX X (v3 + (1 : Int32)) = some x1) (h2 : db_xX X (v3 + (2 : Int32)) = some x2) (h : ∀ s2, db_Inv (U + 1800) s2 → dx_T (h18 s2 (v3 + (6 : Int32)))) : dx_T (db_law_b1377 X h18 s v3) := by
  have hk : dz_G U s (fun s => db_f144 s x1 x2) (fun s => db_f335 s x1 x2) := db_k34 hI
  obtain ⟨v, s1, s2, e1, e2, hI2⟩ := hk
  obtain ⟨s', e'⟩ := h s2 (dx_mono (by omega) hI2)
  have e1 : db_f144 s x1 x2 = some (v, s1) := e1
  have e2 : db_f335 s1 x1 x2 = some (v, s2) := e2
  refine ⟨s', ?_⟩
  unfold db_law_b1377 db_law_b2023
  rw [h1, h2]
  simp only [db_bind_some, db_bd_some, e1, e2, dx_eq, db_ct, e']
theorem dx_35 (hI : db_Inv U s) (hU : U + 1800 ≤ 1000000000)  (h : ∀ s2, db_Inv (U + 1800) s2 → dx_T (h18 s2 (v3 + (6 : Int32)))) : dx_T (db_law_b1410 X h18 s v3) := by
  have hk : dz_G U s (fun s => db_f149 s) (fun s => db_f339 s) := db_k35 hI
  obtain ⟨v, s1, s2, e1, e2, hI2⟩ := hk
  obtain ⟨s', e'⟩ := h s2 (dx_mono (by omega) hI2)
  have e1 : db_f149 s = some (v, s1) := e1
  have e2 : db_f339 s1 = some (v, s2) := e2
  refine ⟨s', ?_⟩
  unfold db_law_b1410 db_law_b2023
  simp only [db_bind_some, db_bd_some, e1, e2, dx_eq, db_ct, e']
theorem dx_36 (hI : db_Inv U s) (hU : U + 1800 ≤ 1000000000) (h1 : db_xX X (v3 + (1 : Int32)) = some x1) (h2 : db_xX X (v3 + (2 : Int32)) = some x2) (h : ∀ s2, db_Inv (U + 1800) s2 → dx_T (h18 s2 (v3 + (6 : Int32)))) : dx_T (db_law_b1423 X h18 s v3) := by
  have hk : dz_G U s (fun s => db_f153 s x1 x2) (fun s => db_f340 s x1 x2) := db_k36 hI
  obtain ⟨v, s1, s2, e1, e2, hI2⟩ := hk
  obtain ⟨s', e'⟩ := h s2 (dx_mono (by omega) hI2)
  have e1 : db_f153 s x1 x2 = some (v, s1) := e1
  have e2 : db_f340 s1 x1 x2 = some (v, s2) := e2
  refine ⟨s', ?_⟩
  unfold db_law_b1423 db_law_b2023
  rw [h1, h2]
  simp only [db_bind_some, db_bd_some, e1, e2, dx_eq, db_ct, e']
theorem dx_37 (hI : db_Inv U s) (hU : U + 1800 ≤ 1000000000) (h1 : db_xX X (v3 + (1 : Int32)) = some x1) (h : ∀ s2, db_Inv (U + 1800) s2 → dx_T (h18 s2 (v3 + (6 : Int32)))) : dx_T (db_law_b1456 X h18 s v3) := by
  have hk : dz_G U s (fun s => db_f156 s x1) (fun s => db_f342 s x1) := db_k37 hI
  obtain ⟨v, s1, s2, e1, e2, hI2⟩ := hk
  obtain ⟨s', e'⟩ := h s2 (dx_mono (by omega) hI2)
  have e1 : db_f156 s x1 = some (v, s1) := e1
  have e2 : db_f342 s1 x1 = some (v, s2) := e2
  refine ⟨s', ?_⟩
  unfold db_law_b1456 db_law_b2023
  rw [h1]
  simp only [db_bind_some, db_bd_some, e1, e2, dx_eq, db_ct, e']
theorem dx_38 (hI : db_Inv U s) (hU : U + 1800 ≤ 1000000000)  (h : ∀ s2, db_Inv (U + 1800) s2 → dx_T (h18 s2 (v3 + (6 : Int32)))) : dx_T (db_law_b1479 X h18 s v3) := by
  have hk : dz_G U s (fun s => db_f157 s) (fun s => db_f343 s) := db_k38 hI
  obtain ⟨v, s1, s2, e1, e2, hI2⟩ := hk
  obtain ⟨s', e'⟩ := h s2 (dx_mono (by omega) hI2)
  have e1 : db_f157 s = some (v, s1) := e1
  have e2 : db_f343 s1 = some (v, s2) := e2
  refine ⟨s', ?_⟩
  unfold db_law_b1479 db_law_b2023
  simp only [db_bind_some, db_bd_some, e1, e2, dx_eq, db_ct, e']
theorem dx_39 (hI : db_Inv U s) (hU : U + 1800 ≤ 1000000000)  (h : ∀ s2, db_Inv (U + 1800) s2 → dx_T (h18 s2 (v3 + (6 : Int32)))) : dx_T (db_law_b1492 X h18 s v3) := by
  have hk : dz_G U s (fun s => db_f160 s) (fun s => db_f346 s) := db_k39 hI
  obtain ⟨v, s1, s2, e1, e2, hI2⟩ := hk
  obtain ⟨s', e'⟩ := h s2 (dx_mono (by omega) hI2)
  have e1 : db_f160 s = some (v, s1) := e1
  have e2 : db_f346 s1 = some (v, s2) := e2
  refine ⟨s', ?_⟩
  unfold db_law_b1492 db_law_b2023
  simp only [db_bind_some, db_bd_some, e1, e2, dx_eq, db_ct, e']
theorem dx_40 (hI : db_Inv U s) (hU : U + 1800 ≤ 1000000000) (h1 : db_xX X (v3 + (1 : Int32)) = some x1) (h2 : db_xX X (v3 + (2 : Int32)) = some x2) (h3 : db_xX X (v3 + (3 : Int32)) = some x3) (h : ∀ s2, db_Inv (U + 1800) s2 → dx_T (h18 s2 (v3 + (6 : Int32)))) : dx_T (db_law_b1505 X h18 s v3) := by
  have hk : dz_G U s (fun s => db_f161 s x1 x2 x3) (fun s => db_f347 s x1 x2 x3) := db_k40 hI (by omega)
  obtain ⟨v, s1, s2, e1, e2, hI2⟩ := hk
  obtain ⟨s', e'⟩ := h s2 (dx_mono (by omega) hI2)
  have e1 : db_f161 s x1 x2 x3 = some (v, s1) := e1
  have e2 : db_f347 s1 x1 x2 x3 = some (v, s2) := e2
  refine ⟨s', ?_⟩
  unfold db_law_b1505 db_law_b2023
  rw [h1, h2, h3]
  simp only [db_bind_some, db_bd_some, e1, e2, dx_eq, db_ct, e']
theorem dx_41 (hI : db_Inv U s) (hU : U + 1800 ≤ 1000000000) (h1 : db_xX X (v3 + (1 : Int32)) = some x1) (h2 : db_xX X (v3 + (2 : Int32)) = some x2) (h3 : db_xX X (v3 + (3 : Int32)) = some x3) (h4 : db_xX X (v3 + (4 : Int32)) = some x4) (h : ∀ s2, db_Inv (U + 1800) s2 → dx_T (h18 s2 (v3 + (6 : Int32)))) : dx_T (db_law_b1548 X h18 s v3) := by
  have hk : dz_G U s (fun s => db_f167 s x1 x2 x3 x4) (fun s => db_f351 s x1 x2 x3 x4) := db_k41 hI (by omega)
  obtain ⟨v, s1, s2, e1, e2, hI2⟩ := hk
  obtain ⟨s', e'⟩ := h s2 (dx_mono (by omega) hI2)
  have e1 : db_f167 s x1 x2 x3 x4 = some (v, s1) := e1
  have e2 : db_f351 s1 x1 x2 x3 x4 = some (v, s2) := e2
  refine ⟨s', ?_⟩
  unfold db_law_b1548 db_law_b2023
  rw [h1, h2, h3, h4]
  simp only [db_bind_some, db_bd_some, e1, e2, dx_eq, db_ct, e']
theorem dx_42 (hI : db_Inv U s) (hU : U + 1800 ≤ 1000000000)  (h : ∀ s2, db_Inv (U + 1800) s2 → dx_T (h18 s2 (v3 + (6 : Int32)))) : dx_T (db_law_b1601 X h18 s v3) := by
  have hk : dz_G U s (fun s => db_f169 s) (fun s => db_f352 s) := db_k42 hI (by omega)
  obtain ⟨v, s1, s2, e1, e2, hI2⟩ := hk
  obtain ⟨s', e'⟩ := h s2 (dx_mono (by omega) hI2)
  have e1 : db_f169 s = some (v, s1) := e1
  have e2 : db_f352 s1 = some (v, s2) := e2
  refine ⟨s', ?_⟩
  unfold db_law_b1601 db_law_b2023
  simp only [db_bind_some, db_bd_some, e1, e2, dx_eq, db_ct, e']
theorem dx_43 (hI : db_Inv U s) (hU : U + 1800 ≤ 1000000000) (h1 : db_xX X (v3 + (1 : Int32)) = some x1) (h2 : db_xX X (v3 + (2 : Int32)) = some x2) (h3 : db_xX X (v3 + (3 : Int32)) = some x3) (h : ∀ s2, db_Inv (U + 1800) s2 → dx_T (h18 s2 (v3 + (6 : Int32)))) : dx_T (db_law_b1614 X h18 s v3) := by
  have hk : dz_G U s (fun s => db_f173 s x1 x2 x3) (fun s => db_f354 s x1 x2 x3) := db_k43 hI (by omega)
  obtain ⟨v, s1, s2, e1, e2, hI2⟩ := hk
  obtain ⟨s', e'⟩ := h s2 (dx_mono (by omega) hI2)
  have e1 : db_f173 s x1 x2 x3 = some (v, s1) := e1
  have e2 : db_f354 s1 x1 x2 x3 = some (v, s2) := e2
  refine ⟨s', ?_⟩
  unfold db_law_b1614 db_law_b2023
  rw [h1, h2, h3]
  simp only [db_bind_some, db_bd_some, e1, e2, dx_eq, db_ct, e']
theorem dx_44 (hI : db_Inv U s) (hU : U + 1800 ≤ 1000000000)  (h : ∀ s2, db_Inv (U + 1800) s2 → dx_T (h18 s2 (v3 + (6 : Int32)))) : dx_T (db_law_b1657 X h18 s v3) := by
  have hk : dz_G U s (fun s => db_f178 s) (fun s => db_f357 s) := db_k44 hI
  obtain ⟨v, s1, s2, e1, e2, hI2⟩ := hk
  obtain ⟨s', e'⟩ := h s2 (dx_mono (by omega) hI2)
  have e1 : db_f178 s = some (v, s1) := e1
  have e2 : db_f357 s1 = some (v, s2) := e2
  refine ⟨s', ?_⟩
  unfold db_law_b1657 db_law_b2023
  simp only [db_bind_some, db_bd_some, e1, e2, dx_eq, db_ct, e']
theorem dx_45 (hI : db_Inv U s) (hU : U + 1800 ≤ 1000000000) (h1 : db_xX X (v3 + (1 : Int32)) = some x1) (h2 : db_xX X (v3 + (2 : Int32)) = some x2) (h3 : db_xX X (v3 + (3 : Int32)) = some x3) (h : ∀ s2, db_Inv (U + 1800) s2 → dx_T (h18 s2 (v3 + (6 : Int32)))) : dx_T (db_law_b1670 X h18 s v3) := by
  have hk : dz_G U s (fun s => db_f179 s x1 x2 x3) (fun s => db_f358 s x1 x2 x3) := db_k45 hI (by omega)
  obtain ⟨v, s1, s2, e1, e2, hI2⟩ := hk
  obtain ⟨s', e'⟩ := h s2 (dx_mono (by omega) hI2)
  have e1 : db_f179 s x1 x2 x3 = some (v, s1) := e1
  have e2 : db_f358 s1 x1 x2 x3 = some (v, s2) := e2
  refine ⟨s', ?_⟩
  unfold db_law_b1670 db_law_b2023
  rw [h1, h2, h3]
  simp only [db_bind_some, db_bd_some, e1, e2, dx_eq, db_ct, e']
theorem dx_46 (hI : db_Inv U s) (hU : U + 1800 ≤ 1000000000) (h1 : db_xX X (v3 + (1 : Int32)) = some x1) (h2 : db_xX X (v3 + (2 : Int32)) = some x2) (h3 : db_xX X (v3 + (3 : Int32)) = some x3) (h : ∀ s2, db_Inv (U + 1800) s2 → dx_T (h18 s2 (v3 + (6 : Int32)))) : dx_T (db_law_b1713 X h18 s v3) := by
  have hk : dz_G U s (fun s => db_f180 s x1 x2 x3) (fun s => db_f359 s x1 x2 x3) := db_k46 hI (by omega)
  obtain ⟨v, s1, s2, e1, e2, hI2⟩ := hk
  obtain ⟨s', e'⟩ := h s2 (dx_mono (by omega) hI2)
  have e1 : db_f180 s x1 x2 x3 = some (v, s1) := e1
  have e2 : db_f359 s1 x1 x2 x3 = some (v, s2) := e2
  refine ⟨s', ?_⟩
  unfold db_law_b1713 db_law_b2023
  rw [h1, h2, h3]
  simp only [db_bind_some, db_bd_some, e1, e2, dx_eq, db_ct, e']
theorem dx_47 (hI : db_Inv U s) (hU : U + 1800 ≤ 1000000000) (h1 : db_xX X (v3 + (1 : Int32)) = some x1) (h : ∀ s2, db_Inv (U + 1800) s2 → dx_T (h18 s2 (v3 + (6 : Int32)))) : dx_T (db_law_b1756 X h18 s v3) := by
  have hk : dz_G U s (fun s => db_f181 s x1) (fun s => db_f360 s x1) := db_k47 hI (by omega)
  obtain ⟨v, s1, s2, e1, e2, hI2⟩ := hk
  obtain ⟨s', e'⟩ := h s2 (dx_mono (by omega) hI2)
  have e1 : db_f181 s x1 = some (v, s1) := e1
  have e2 : db_f360 s1 x1 = some (v, s2) := e2
  refine ⟨s', ?_⟩
  unfold db_law_b1756 db_law_b2023
  rw [h1]
  simp only [db_bind_some, db_bd_some, e1, e2, dx_eq, db_ct, e']
theorem dx_48 (hI : db_Inv U s) (hU : U + 1800 ≤ 1000000000) (h1 : db_xX X (v3 + (1 : Int32)) = some x1) (h2 : db_xX X (v3 + (2 : Int32)) = some x2) (h : ∀ s2, db_Inv (U + 1800) s2 → dx_T (h18 s2 (v3 + (6 : Int32)))) : dx_T (db_law_b1779 X h18 s v3) := by
  have hk : dz_G U s (fun s => db_f184 s x1 x2) (fun s => db_f362 s x1 x2) := db_k48 hI (by omega)
  obtain ⟨v, s1, s2, e1, e2, hI2⟩ := hk
  obtain ⟨s', e'⟩ := h s2 (dx_mono (by omega) hI2)
  have e1 : db_f184 s x1 x2 = some (v, s1) := e1
  have e2 : db_f362 s1 x1 x2 = some (v, s2) := e2
  refine ⟨s', ?_⟩
  unfold db_law_b1779 db_law_b2023
  rw [h1, h2]
  simp only [db_bind_some, db_bd_some, e1, e2, dx_eq, db_ct, e']
theorem dx_49 (hI : db_Inv U s) (hU : U + 1800 ≤ 1000000000) (h1 : db_xX X (v3 + (1 : Int32)) = some x1) (h2 : db_xX X (v3 + (2 : Int32)) = some x2) (h3 : db_xX X (v3 + (3 : Int32)) = some x3) (h : ∀ s2, db_Inv (U + 1800) s2 → dx_T (h18 s2 (v3 + (6 : Int32)))) : dx_T (db_law_b1812 X h18 s v3) := by
  have hk : dz_G U s (fun s => db_f186 s x1 x2 x3) (fun s => db_f363 s x1 x2 x3) := db_k49 hI (by omega)
  obtain ⟨v, s1, s2, e1, e2, hI2⟩ := hk
  obtain ⟨s', e'⟩ := h s2 (dx_mono (by omega) hI2)
  have e1 : db_f186 s x1 x2 x3 = some (v, s1) := e1
  have e2 : db_f363 s1 x1 x2 x3 = some (v, s2) := e2
  refine ⟨s', ?_⟩
  unfold db_law_b1812 db_law_b2023
  rw [h1, h2, h3]
  simp only [db_bind_some, db_bd_some, e1, e2, dx_eq, db_ct, e']
theorem dx_50 (hI : db_Inv U s) (hU : U + 1800 ≤ 1000000000) (h1 : db_xX X (v3 + (1 : Int32)) = some x1) (h2 : db_xX X (v3 + (2 : Int32)) = some x2) (h3 : db_xX X (v3 + (3 : Int32)) = some x3) (h4 : db_xX X (v3 + (4 : Int32)) = some x4) (h : ∀ s2, db_Inv (U + 1800) s2 → dx_T (h18 s2 (v3 + (6 : Int32)))) : dx_T (db_law_b1855 X h18 s v3) := by
  have hk : dz_G U s (fun s => db_f190 s x1 x2 x3 x4) (fun s => db_f365 s x1 x2 x3 x4) := db_k50 hI (by omega)
  obtain ⟨v, s1, s2, e1, e2, hI2⟩ := hk
  obtain ⟨s', e'⟩ := h s2 (dx_mono (by omega) hI2)
  have e1 : db_f190 s x1 x2 x3 x4 = some (v, s1) := e1
  have e2 : db_f365 s1 x1 x2 x3 x4 = some (v, s2) := e2
  refine ⟨s', ?_⟩
  unfold db_law_b1855 db_law_b2023
  rw [h1, h2, h3, h4]
  simp only [db_bind_some, db_bd_some, e1, e2, dx_eq, db_ct, e']
theorem dx_51 (hI : db_Inv U s) (hU : U + 1800 ≤ 1000000000) (h1 : db_xX X (v3 + (1 : Int32)) = some x1) (h : ∀ s2, db_Inv (U + 1800) s2 → dx_T (h18 s2 (v3 + (6 : Int32)))) : dx_T (db_law_b1908 X h18 s v3) := by
  obtain ⟨v, s1, s2, e1, e2, hI2⟩ := db_k51 (x := x1) hI (by omega)
  obtain ⟨s', e'⟩ := h s2 (dx_mono (by omega) hI2)
  have e1 : db_f193 s x1 = some (v, s1) := e1
  have e2 : db_f366 s1 x1 = some (v, s2) := e2
  refine ⟨s', ?_⟩
  unfold db_law_b1908 db_law_b2023
  rw [h1]
  simp only [db_bind_some, db_bd_some, e1, e2, dx_eq, db_ct, e']
theorem dx_52 (hI : db_Inv U s) (hU : U + 1800 ≤ 1000000000) (h1 : db_xX X (v3 + (1 : Int32)) = some x1) (h : ∀ s2, db_Inv (U + 1800) s2 → dx_T (h18 s2 (v3 + (6 : Int32)))) : dx_T (db_law_b1931 X h18 s v3) := by
  have hk : dz_G U s (fun s => db_f201 s x1) (fun s => db_f374 s x1) := db_k52 hI
  obtain ⟨v, s1, s2, e1, e2, hI2⟩ := hk
  obtain ⟨s', e'⟩ := h s2 (dx_mono (by omega) hI2)
  have e1 : db_f201 s x1 = some (v, s1) := e1
  have e2 : db_f374 s1 x1 = some (v, s2) := e2
  refine ⟨s', ?_⟩
  unfold db_law_b1931 db_law_b2023
  rw [h1]
  simp only [db_bind_some, db_bd_some, e1, e2, dx_eq, db_ct, e']
theorem dx_53 (hI : db_Inv U s) (hU : U + 1800 ≤ 1000000000) (h1 : db_xX X (v3 + (1 : Int32)) = some x1) (h2 : db_xX X (v3 + (2 : Int32)) = some x2) (h3 : db_xX X (v3 + (3 : Int32)) = some x3) (h : ∀ s2, db_Inv (U + 1800) s2 → dx_T (h18 s2 (v3 + (6 : Int32)))) : dx_T (db_law_b1954 X h18 s v3) := by
  have hk : dz_G U s (fun s => db_f202 s x1 x2 x3) (fun s => db_f375 s x1 x2 x3) := db_k53 hI (by omega)
  obtain ⟨v, s1, s2, e1, e2, hI2⟩ := hk
  obtain ⟨s', e'⟩ := h s2 (dx_mono (by omega) hI2)
  have e1 : db_f202 s x1 x2 x3 = some (v, s1) := e1
  have e2 : db_f375 s1 x1 x2 x3 = some (v, s2) := e2
  refine ⟨s', ?_⟩
  unfold db_law_b1954 db_law_b2023
  rw [h1, h2, h3]
  simp only [db_bind_some, db_bd_some, e1, e2, dx_eq, db_ct, e']
theorem dx_54 (hI : db_Inv U s) (hU : U + 1800 ≤ 1000000000)  (h : ∀ s2, db_Inv (U + 1800) s2 → dx_T (h18 s2 (v3 + (6 : Int32)))) : dx_T (db_law_b1997 X h18 s v3) := by
  have hk : dz_G U s (fun s => db_f204 s) (fun s => db_f376 s) := db_k54 hI
  obtain ⟨v, s1, s2, e1, e2, hI2⟩ := hk
  obtain ⟨s', e'⟩ := h s2 (dx_mono (by omega) hI2)
  have e1 : db_f204 s = some (v, s1) := e1
  have e2 : db_f376 s1 = some (v, s2) := e2
  refine ⟨s', ?_⟩
  unfold db_law_b1997 db_law_b2023
  simp only [db_bind_some, db_bd_some, e1, e2, dx_eq, db_ct, e']
theorem dx_55 (hI : db_Inv U s) (hU : U + 1800 ≤ 1000000000)  (h : ∀ s2, db_Inv (U + 1800) s2 → dx_T (h18 s2 (v3 + (6 : Int32)))) : dx_T (db_law_b2010 X h18 s v3) := by
  have hk : dz_G U s (fun s => db_f205 s) (fun s => db_f377 s) := db_k55 hI
  obtain ⟨v, s1, s2, e1, e2, hI2⟩ := hk
  obtain ⟨s', e'⟩ := h s2 (dx_mono (by omega) hI2)
  have e1 : db_f205 s = some (v, s1) := e1
  have e2 : db_f377 s1 = some (v, s2) := e2
  refine ⟨s', ?_⟩
  unfold db_law_b2010 db_law_b2023
  simp only [db_bind_some, db_bd_some, e1, e2, dx_eq, db_ct, e']
end DX
theorem dx_X {L v k : Nat} {xs : Nat → Int32} (h : v + k < L) (hL : L ≤ 3072) : db_xX (some (L, xs)) (nI v + nI k) = some (xs (v + k)) := by
  unfold db_xX
  have e : nI v + nI k = nI (v + k) := nI_add _ _
  rw [e]
  dsimp only
  rw [db_in_n (by omega), decide_eq_true h, db_ct]
  rw [nI_clamp (by omega)]
theorem dx_gt {L v : Nat} (hL : L ≤ 3072) (hv : v ≤ 4000) : db_cnd .gt (nI v) (nI L - (6 : Int32)) = decide (L < v + 6) := by
  show decide (nI L - (6 : Int32) < nI v) = _
  have e : (nI L - (6 : Int32)).toInt = (L : Int) - 6 := by
    by_cases h : 6 ≤ L
    · rw [show (6 : Int32) = nI 6 from rfl, pk_sub h, nI_toInt (by omega)]
      omega
    · rcases (by omega : L = 0 ∨ L = 1 ∨ L = 2 ∨ L = 3 ∨ L = 4 ∨ L = 5) with rfl | rfl | rfl | rfl | rfl | rfl <;> decide
  have e2 : (nI v).toInt = (v : Int) := nI_toInt (by omega)
  exact decide_eq_decide.mpr ((fa_lt _ _).trans (by rw [e, e2]; omega))
theorem dx_law {L : Nat} {xs : Nat → Int32} (hL : L ≤ 3072) : ∀ (m i n : Nat) (s : db_S), L < 6 * i + 6 * m → i + m ≤ 520 → m < n + 1 → db_Inv (1800 * i) s → dx_T (db_law_b18 (some (L, xs)) (n + 1) s (nI (6 * i))) := by
  intro m
  induction m with
  | zero =>
    intro i n s h1 h2 h3 hI
    refine ⟨s, ?_⟩
    rw [db_law_b18]
    rw [show db_xN (some (L, xs)) = some (nI L) from rfl, db_bind_some, dx_gt hL (by omega), decide_eq_true (by omega), db_ct]
  | succ m IH =>
    intro i n s h1 h2 h3 hI
    by_cases hi : L < 6 * i + 6
    · refine ⟨s, ?_⟩
      rw [db_law_b18]
      rw [show db_xN (some (L, xs)) = some (nI L) from rfl, db_bind_some, dx_gt hL (by omega), decide_eq_true (by omega), db_ct]
    cases n with
    | zero => omega
    | succ n =>
    have hn : ∀ s2, db_Inv (1800 * i + 1800) s2 → dx_T (db_law_b18 (some (L, xs)) (n + 1) s2 (nI (6 * i) + (6 : Int32))) := fun s2 hs => by
      have e : nI (6 * i) + (6 : Int32) = nI (6 * (i + 1)) := nI_add _ _
      rw [e]
      exact IH (i + 1) n s2 (by omega) (by omega) (by omega) (by rw [show 1800 * (i + 1) = 1800 * i + 1800 by omega]; exact hs)
    have h0 : db_xX (some (L, xs)) (nI (6 * i)) = some (xs (6 * i)) := by
      have := dx_X (xs := xs) (v := 6 * i) (k := 0) (by omega) hL
      rw [show nI (6 * i) + nI 0 = nI (6 * i) from nI_add _ _] at this
      exact this
    have h1 : db_xX (some (L, xs)) (nI (6 * i) + (1 : Int32)) = some (xs (6 * i + 1)) := dx_X (k := 1) (by omega) hL
    have h2 : db_xX (some (L, xs)) (nI (6 * i) + (2 : Int32)) = some (xs (6 * i + 2)) := dx_X (k := 2) (by omega) hL
    have h3 : db_xX (some (L, xs)) (nI (6 * i) + (3 : Int32)) = some (xs (6 * i + 3)) := dx_X (k := 3) (by omega) hL
    have h4 : db_xX (some (L, xs)) (nI (6 * i) + (4 : Int32)) = some (xs (6 * i + 4)) := dx_X (k := 4) (by omega) hL
    have h5 : db_xX (some (L, xs)) (nI (6 * i) + (5 : Int32)) = some (xs (6 * i + 5)) := dx_X (k := 5) (by omega) hL
    rw [db_law_b18, h0]
    have hg : db_cnd .gt (nI (6 * i)) (nI L - (6 : Int32)) = false := by rw [dx_gt hL (by omega), decide_eq_false (by omega)]
    rw [show db_xN (some (L, xs)) = some (nI L) from rfl, db_bind_some, hg, db_cf, db_bind_some]
    refine dx_if (dx_0 hI (by omega) hn) ?_
    refine dx_if (dx_1 hI (by omega) hn) ?_
    refine dx_if (dx_2 hI (by omega) hn) ?_
    refine dx_if (dx_3 hI (by omega) h1 h2 h3 hn) ?_
    refine dx_if (dx_4 hI (by omega) h1 h2 h3 h4 hn) ?_
    refine dx_if (dx_5 hI (by omega) h1 h2 hn) ?_
    refine dx_if (dx_6 hI (by omega) h1 h2 h3 h4 h5 hn) ?_
    refine dx_if (dx_7 hI (by omega) h1 h2 h3 h4 h5 hn) ?_
    refine dx_if (dx_8 hI (by omega) h1 hn) ?_
    refine dx_if (dx_9 hI (by omega) h1 hn) ?_
    refine dx_if (dx_10 hI (by omega) h1 hn) ?_
    refine dx_if (dx_11 hI (by omega) h1 hn) ?_
    refine dx_if (dx_12 hI (by omega) h1 h2 hn) ?_
    refine dx_if (dx_13 hI (by omega) h1 h2 hn) ?_
    refine dx_if (dx_14 hI (by omega) h1 hn) ?_
    refine dx_if (dx_15 hI (by omega) h1 h2 hn) ?_
    refine dx_if (dx_16 hI (by omega) h1 h2 hn) ?_
    refine dx_if (dx_17 hI (by omega) h1 h2 hn) ?_
    refine dx_if (dx_18 hI (by omega) h1 h2 hn) ?_
    refine dx_if (dx_19 hI (by omega) h1 hn) ?_
    refine dx_if (dx_20 hI (by omega) hn) ?_
    refine dx_if (dx_21 hI (by omega) h1 hn) ?_
    refine dx_if (dx_22 hI (by omega) h1 h2 hn) ?_
    refine dx_if (dx_23 hI (by omega) h1 hn) ?_
    refine dx_if (dx_24 hI (by omega) h1 hn) ?_
    refine dx_if (dx_25 hI (by omega) h1 hn) ?_
    refine dx_if (dx_26 hI (by omega) h1 h2 h3 hn) ?_
    refine dx_if (dx_27 hI (by omega) h1 h2 h3 h4 hn) ?_
    refine dx_if (dx_28 hI (by omega) h1 h2 h3 h4 hn) ?_
    refine dx_if (dx_29 hI (by omega) h1 h2 h3 h4 hn) ?_
    refine dx_if (dx_30 hI (by omega) h1 h2 h3 hn) ?_
    refine dx_if (dx_31 hI (by omega) h1 h2 h3 hn) ?_
    refine dx_if (dx_32 hI (by omega) hn) ?_
    refine dx_if (dx_33 hI (by omega) hn) ?_
    refine dx_if (dx_34 hI (by omega) h1 h2 hn) ?_
    refine dx_if (dx_35 hI (by omega) hn) ?_
    refine dx_if (dx_36 hI (by omega) h1 h2 hn) ?_
    refine dx_if (dx_37 hI (by omega) h1 hn) ?_
    refine dx_if (dx_38 hI (by omega) hn) ?_
    refine dx_if (dx_39 hI (by omega) hn) ?_
    refine dx_if (dx_40 hI (by omega) h1 h2 h3 hn) ?_
    refine dx_if (dx_41 hI (by omega) h1 h2 h3 h4 hn) ?_
    refine dx_if (dx_42 hI (by omega) hn) ?_
    refine dx_if (dx_43 hI (by omega) h1 h2 h3 hn) ?_
    refine dx_if (dx_44 hI (by omega) hn) ?_
    refine dx_if (dx_45 hI (by omega) h1 h2 h3 hn) ?_
    refine dx_if (dx_46 hI (by omega) h1 h2 h3 hn) ?_
    refine dx_if (dx_47 hI (by omega) h1 hn) ?_
    refine dx_if (dx_48 hI (by omega) h1 h2 hn) ?_
    refine dx_if (dx_49 hI (by omega) h1 h2 h3 hn) ?_
    refine dx_if (dx_50 hI (by omega) h1 h2 h3 h4 hn) ?_
    refine dx_if (dx_51 hI (by omega) h1 hn) ?_
    refine dx_if (dx_52 hI (by omega) h1 hn) ?_
    refine dx_if (dx_53 hI (by omega) h1 h2 h3 hn) ?_
    refine dx_if (dx_54 hI (by omega) hn) ?_
    refine dx_if (dx_55 hI (by omega) hn) ?_
    unfold db_law_b2023
    exact hn s (dx_mono (by omega) hI)
