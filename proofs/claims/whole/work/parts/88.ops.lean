/-! STEPS of both parsers -/
def dv_Fa (a z : db_S) : Prop := (∀ c, c ≠ 13 → ¬ (146 ≤ c ∧ c ≤ 270) → z.1 c = a.1 c ∧ z.2 c = a.2 c) ∧ (∀ j, j ≠ 2 → j ≠ 3 → j ≠ 9 → z.1 13 j = a.1 13 j) ∧ z.2 13 = a.2 13
def dv_Fb (b z : db_S) : Prop := (∀ c, c ≠ 669 → c ≠ 674 → c ≠ 676 → z.1 c = b.1 c ∧ z.2 c = b.2 c) ∧ (∀ j, ¬ (12 ≤ j ∧ j ≤ 18) → j ≠ 24 → z.1 669 j = b.1 669 j) ∧ (∀ j, j ≠ 19 → z.2 669 j = b.2 669 j) ∧ (∀ k, k < 1920 → z.1 674 k = b.1 674 k) ∧ (∀ k, k < 148 → z.2 676 k = b.2 676 k) ∧ z.2 674 = b.2 674 ∧ z.1 676 = b.1 676
/-- the run goes on with its fault -/
def dv_Bq (b z : db_S) : Prop := dv_Fb b z ∧ z.1 669 12 = b.1 669 12 ∧ z.1 669 13 = b.1 669 13
def dv_Bad (b : db_S) : Prop := ∃ k, 1 ≤ k ∧ k ≤ 7 ∧ b.1 669 12 = nI k
/-- both tell the same fault -/
def dv_Fl (a b : db_S) : Prop := dv_Bad b ∧ a.1 13 2 = b.1 669 12 ∧ a.1 13 3 = b.1 669 13
/-- a fault of a kind at the i-th token -/
def dv_fk (x : Nat → Int32) (n i f : Nat) : Nat := if dv_kd x n i = 4 then 1 else f
def dv_fa (x : Nat → Int32) (n i f : Nat) (a : db_S) : db_S := db_uI (db_uI a 13 2 (nI (dv_fk x n i f))) 13 3 (nI (dv_P x n i))
def dv_fb (x : Nat → Int32) (n i f : Nat) (b : db_S) : db_S := db_uI (db_uI b 669 12 (nI (dv_fk x n i f))) 669 13 (nI (dv_P x n i))
section DVOP
variable {a b z : db_S} {x : Nat → Int32} {n i : Nat} {y v : Int32} {l : Int64}
theorem dv_Fa_r : dv_Fa a a := ⟨fun _ _ _ => ⟨rfl, rfl⟩, fun _ _ _ _ => rfl, rfl⟩
theorem dv_Fa_t {a1 : db_S} (h : dv_Fa a a1) (k : dv_Fa a1 z) : dv_Fa a z := ⟨fun c h1 h2 => ⟨(k.1 c h1 h2).1.trans (h.1 c h1 h2).1, (k.1 c h1 h2).2.trans (h.1 c h1 h2).2⟩, fun j h1 h2 h3 => (k.2.1 j h1 h2 h3).trans (h.2.1 j h1 h2 h3), k.2.2.trans h.2.2⟩
theorem dv_Fa_u {c j : Nat} (h : dv_Fa a z) (hc : (146 ≤ c ∧ c ≤ 270) ∨ (c = 13 ∧ (j = 2 ∨ j = 3 ∨ j = 9))) : dv_Fa a (db_uI z c j v) := ⟨fun d h1 h2 => by rw [db_uI_n (by omega), db_uI_2]; exact h.1 d h1 h2, fun i h1 h2 h3 => by rw [db_uI_if, if_neg (by omega)]; exact h.2.1 i h1 h2 h3, by rw [db_uI_2]; exact h.2.2⟩
theorem dv_Fa_l {c j : Nat} (h : dv_Fa a z) (hc : 146 ≤ c ∧ c ≤ 270) : dv_Fa a (db_uL z c j l) := ⟨fun d h1 h2 => by rw [db_uL_n (by omega), db_uL_2]; exact h.1 d h1 h2, fun i h1 h2 h3 => by rw [db_uL_2]; exact h.2.1 i h1 h2 h3, by rw [db_uL_n (by omega)]; exact h.2.2⟩
theorem dv_Fb_r : dv_Fb b b := ⟨fun _ _ _ _ => ⟨rfl, rfl⟩, fun _ _ _ => rfl, fun _ _ => rfl, fun _ _ => rfl, fun _ _ => rfl, rfl, rfl⟩
theorem dv_Fb_t {b1 : db_S} (h : dv_Fb b b1) (k : dv_Fb b1 z) : dv_Fb b z := ⟨fun c h1 h2 h3 => ⟨(k.1 c h1 h2 h3).1.trans (h.1 c h1 h2 h3).1, (k.1 c h1 h2 h3).2.trans (h.1 c h1 h2 h3).2⟩, fun j h1 h2 => (k.2.1 j h1 h2).trans (h.2.1 j h1 h2), fun j h1 => (k.2.2.1 j h1).trans (h.2.2.1 j h1), fun j h1 => (k.2.2.2.1 j h1).trans (h.2.2.2.1 j h1), fun j h1 => (k.2.2.2.2.1 j h1).trans (h.2.2.2.2.1 j h1), k.2.2.2.2.2.1.trans h.2.2.2.2.2.1, k.2.2.2.2.2.2.trans h.2.2.2.2.2.2⟩
theorem dv_Fb_n (h : dv_Fn b z) : dv_Fb b z := ⟨fun c h1 _ _ => h.1 c h1, fun j h1 _ => h.2.1 j (by omega), h.2.2, fun k _ => by rw [(h.1 674 (by decide)).1], fun k _ => by rw [(h.1 676 (by decide)).2], (h.1 674 (by decide)).2, (h.1 676 (by decide)).1⟩
theorem dv_Fb_9 {j : Nat} (h : dv_Fb b z) (hj : (12 ≤ j ∧ j ≤ 18) ∨ j = 24) : dv_Fb b (db_uI z 669 j v) := ⟨fun c h1 h2 h3 => by rw [db_uI_n h1, db_uI_2]; exact h.1 c h1 h2 h3, fun i h1 h2 => by rw [db_uI_j (by omega)]; exact h.2.1 i h1 h2, fun i h1 => by rw [db_uI_2]; exact h.2.2.1 i h1, fun i h1 => by rw [db_uI_n (by decide)]; exact h.2.2.2.1 i h1, fun i h1 => by rw [db_uI_2]; exact h.2.2.2.2.1 i h1, by rw [db_uI_2]; exact h.2.2.2.2.2.1, by rw [db_uI_n (by decide)]; exact h.2.2.2.2.2.2⟩
theorem dv_Fb_4 {j : Nat} (h : dv_Fb b z) (hj : 1920 ≤ j) : dv_Fb b (db_uI z 674 j v) := ⟨fun c h1 h2 h3 => by rw [db_uI_n h2, db_uI_2]; exact h.1 c h1 h2 h3, fun i h1 h2 => by rw [db_uI_n (by decide)]; exact h.2.1 i h1 h2, fun i h1 => by rw [db_uI_2]; exact h.2.2.1 i h1, fun i h1 => by rw [db_uI_j (by omega)]; exact h.2.2.2.1 i h1, fun i h1 => by rw [db_uI_2]; exact h.2.2.2.2.1 i h1, by rw [db_uI_2]; exact h.2.2.2.2.2.1, by rw [db_uI_n (by decide)]; exact h.2.2.2.2.2.2⟩
theorem dv_Fb_6 {j : Nat} (h : dv_Fb b z) (hj : 148 ≤ j) : dv_Fb b (db_uL z 676 j l) := ⟨fun c h1 h2 h3 => by rw [db_uL_n h3, db_uL_2]; exact h.1 c h1 h2 h3, fun i h1 h2 => by rw [db_uL_2]; exact h.2.1 i h1 h2, fun i h1 => by rw [db_uL_n (by decide)]; exact h.2.2.1 i h1, fun i h1 => by rw [db_uL_2]; exact h.2.2.2.1 i h1, fun i h1 => by rw [db_uL_j (by omega)]; exact h.2.2.2.2.1 i h1, by rw [db_uL_n (by decide)]; exact h.2.2.2.2.2.1, by rw [db_uL_2]; exact h.2.2.2.2.2.2⟩
theorem dv_Bq_r : dv_Bq b b := ⟨dv_Fb_r, rfl, rfl⟩
theorem dv_Bq_t {b1 : db_S} (h : dv_Bq b b1) (k : dv_Bq b1 z) : dv_Bq b z := ⟨dv_Fb_t h.1 k.1, k.2.1.trans h.2.1, k.2.2.trans h.2.2⟩
theorem dv_Bq_4 {j : Nat} (h : dv_Bq b z) (hj : 1920 ≤ j) : dv_Bq b (db_uI z 674 j v) := ⟨dv_Fb_4 h.1 hj, by rw [db_uI_n (by decide)]; exact h.2.1, by rw [db_uI_n (by decide)]; exact h.2.2⟩
theorem dv_Bq_n (h : dv_Fn b z) : dv_Bq b z := ⟨dv_Fb_n h, h.2.1 12 (by omega), h.2.1 13 (by omega)⟩
theorem dv_Bad_q (h : dv_Bad b) (k : dv_Bq b z) : dv_Bad z := by
  obtain ⟨f, f1, f2, f3⟩ := h
  exact ⟨f, f1, f2, by rw [k.2.1]; exact f3⟩
theorem dv_Fl_q (h : dv_Fl a b) (k : dv_Bq b z) : dv_Fl a z := ⟨dv_Bad_q h.1 k, by rw [k.2.1]; exact h.2.1, by rw [k.2.2]; exact h.2.2⟩
/-! tokens are kept -/
theorem dv_TA_c (h : dv_TA x n a) (h1 : z.1 16 = a.1 16) (h2 : z.1 17 = a.1 17) (h3 : z.1 18 = a.1 18) (h4 : z.2 19 = a.2 19) (h5 : z.1 13 2 = a.1 13 2) (h6 : z.1 13 3 = a.1 13 3) : dv_TA x n z := fun i hi => by
  rw [h1, h2, h3, h4, h5, h6]
  exact h i hi
theorem dv_CT_F (h : dv_CT x n i a) (k : dv_Fa a z) (h9 : z.1 13 9 = a.1 13 9) (h2 : z.1 13 2 = a.1 13 2) (h3 : z.1 13 3 = a.1 13 3) : dv_CT x n i z := ⟨h.1, h9.trans h.2.1, h.2.2.1, dv_TA_c h.2.2.2 (k.1 16 (by omega) (by omega)).1 (k.1 17 (by omega) (by omega)).1 (k.1 18 (by omega) (by omega)).1 (k.1 19 (by omega) (by omega)).2 h2 h3⟩
theorem dv_CT_u {c j : Nat} (h : dv_CT x n i a) (hc : 146 ≤ c ∧ c ≤ 270) : dv_CT x n i (db_uI a c j v) := dv_CT_F h (dv_Fa_u dv_Fa_r (.inl hc)) (by rw [db_uI_n (by omega)]) (by rw [db_uI_n (by omega)]) (by rw [db_uI_n (by omega)])
theorem dv_kd_lt (h : dv_CT x n i a) (hk : ¬ dv_kd x n i = 0) : dv_P x n i < n := Nat.lt_of_not_le fun h2 => hk (dv_K0.mpr h2)
theorem dv_CT_s (h : dv_CT x n i a) (hk : ¬ dv_kd x n i = 0) : dv_CT x n (i + 1) (db_uI a 13 9 (nI (i + 1))) := by
  have hlt := dv_kd_lt h hk
  refine ⟨h.1, db_uI_1, fun j hj => ?_, dv_TA_c h.2.2.2 (db_uI_n (by decide)) (db_uI_n (by decide)) (db_uI_n (by decide)) rfl (db_uI_j (by decide)) (db_uI_j (by decide))⟩
  by_cases e : j = i
  · subst e; exact hlt
  · exact h.2.2.1 j (by omega)
theorem dv_RT_F (h : dv_RT x n i b) (h9 : z.1 669 9 = b.1 669 9) (h3 : z.1 673 = b.1 673) (h4 : ∀ j, 14 ≤ j → j ≤ 18 → z.1 669 j = b.1 669 j) (h5 : z.2 669 19 = b.2 669 19) : dv_RT x n i z := by
  obtain ⟨⟨q1, q2, q3⟩, t1, t2, t3, t4, t5⟩ := h
  exact ⟨⟨q1, h9.trans q2, fun j hj => by rw [h3]; exact q3 j hj⟩, (h4 14 (by omega) (by omega)).trans t1, (h4 15 (by omega) (by omega)).trans t2, (h4 16 (by omega) (by omega)).trans t3, fun h => ⟨h5.trans (t4 h).1, (h4 18 (by omega) (by omega)).trans (t4 h).2⟩, fun h => (h4 17 (by omega) (by omega)).trans (t5 h)⟩
theorem dv_RT_4 {j : Nat} (h : dv_RT x n i b) : dv_RT x n i (db_uI b 674 j v) := dv_RT_F h (by rw [db_uI_n (by decide)]) (by rw [db_uI_n (by decide)]) (fun j _ _ => by rw [db_uI_n (by decide)]) rfl
theorem dv_RT_6 {j : Nat} (h : dv_RT x n i b) : dv_RT x n i (db_uL b 676 j l) := dv_RT_F h rfl rfl (fun j _ _ => rfl) (by rw [db_uL_n (by decide)])
/-! the class's steps -/
theorem dv_60 (h : dv_CT x n i a) (hk : ¬ dv_kd x n i = 0) : db_f60 a = some (db_uI a 13 9 (nI (i + 1))) := by
  have h16 := dv_g16 h
  have h4 : dv_kd x n i ≤ 4 := dv_K4
  unfold db_f60
  rw [h.2.1]
  simp (disch := omega) only [db_lit, eq_self, db_pI_e, db_pL_e, db_bind_some, db_bd_some, nI_add, pk_mul, nI_toInt, db_m1_t, dz_cn, Int.ofNat_le, Int.ofNat_lt, decide_true, decide_false, db_ct, db_cf, not_true_eq_false, not_false_eq_true, db_87e, db_37e, db_31e, db_28e, db_281e, db_211e, db_27, db_269w, db_litL, pk_lT, db_iL, db_p0_e, db_p0_n, db_p0_j, db_sub1, nI_eq, if_true, if_false, Bool.false_eq_true, Nat.one_ne_zero, h16, hk]
theorem dv_58 (h : dv_CT x n i a) (f : Nat) : db_f58 a (nI f) = some (false, dv_fa x n i f a) := by
  have h16 := dv_g16 h
  have h4 : dv_kd x n i ≤ 4 := dv_K4
  have hi := dv_i900 h
  have h17 := (h.2.2.2 i h.2.2.1).1
  have hg : ∀ w, db_rI (db_uI a 13 2 w) 17 (nI i) = some (nI (dv_P x n i)) := fun w => by rw [db_g_17 (by omega), db_uI_n (by decide), h17]
  have h9 : ∀ w, (db_uI a 13 2 w).1 13 9 = nI i := fun w => by rw [db_uI_j (by decide)]; exact h.2.1
  unfold db_f58 db_f58_b19 dv_fa dv_fk
  rw [h.2.1]
  by_cases e : dv_kd x n i = 4
  · simp (disch := omega) only [db_lit, eq_self, db_pI_e, db_pL_e, db_bind_some, db_bd_some, nI_add, pk_mul, nI_toInt, db_m1_t, dz_cn, Int.ofNat_le, Int.ofNat_lt, decide_true, decide_false, db_ct, db_cf, not_true_eq_false, not_false_eq_true, db_87e, db_37e, db_31e, db_28e, db_281e, db_211e, db_27, db_269w, db_litL, pk_lT, db_iL, db_p0_e, db_p0_n, db_p0_j, db_sub1, nI_eq, if_true, if_false, Bool.false_eq_true, Nat.one_ne_zero, h16, e, h9, hg]
  · simp (disch := omega) only [db_lit, eq_self, db_pI_e, db_pL_e, db_bind_some, db_bd_some, nI_add, pk_mul, nI_toInt, db_m1_t, dz_cn, Int.ofNat_le, Int.ofNat_lt, decide_true, decide_false, db_ct, db_cf, not_true_eq_false, not_false_eq_true, db_87e, db_37e, db_31e, db_28e, db_281e, db_211e, db_27, db_269w, db_litL, pk_lT, db_iL, db_p0_e, db_p0_n, db_p0_j, db_sub1, nI_eq, if_true, if_false, Bool.false_eq_true, Nat.one_ne_zero, h16, e, h9, hg]
theorem dv_66 (h : dv_CT x n i a) {j : Nat} (hj : j < 28) : db_f66 a (nI j) = some (decide (dv_w x n i = nI j), if dv_w x n i = nI j then db_uI a 13 9 (nI (i + 1)) else a) := by
  unfold db_f66
  simp (disch := omega) only [db_lit, eq_self, db_pI_e, db_pL_e, db_bind_some, db_bd_some, nI_add, pk_mul, nI_toInt, db_m1_t, dz_cn, Int.ofNat_le, Int.ofNat_lt, decide_true, decide_false, db_ct, db_cf, not_true_eq_false, not_false_eq_true, dv_57 h]
  by_cases e : dv_w x n i = nI j
  · have hk := dv_w_kd hj e
    rw [decide_eq_true e, db_ct, if_pos e, dv_60 h (by omega), db_bind_some]
  · rw [decide_eq_false e, db_cf, if_neg e]
theorem dv_Fa_fa {f : Nat} (h : dv_Fa a z) : dv_Fa a (dv_fa x n i f z) := dv_Fa_u (dv_Fa_u h (.inr (by omega))) (.inr (by omega))
theorem dv_68t (h : dv_CT x n i a) {j : Nat} (hj : j < 28) (e : dv_w x n i = nI j) : db_f68 a (nI j) = some (true, db_uI a 13 9 (nI (i + 1))) := by
  unfold db_f68
  rw [dv_66 h hj, if_pos e, decide_eq_true e]
  rfl
theorem dv_68f (h : dv_CT x n i a) {j : Nat} (hj : j < 28) (e : ¬ dv_w x n i = nI j) : db_f68 a (nI j) = some (false, dv_fa x n i 2 a) := by
  unfold db_f68
  rw [dv_66 h hj, if_neg e, decide_eq_false e]
  simp (disch := omega) only [db_lit, eq_self, db_pI_e, db_pL_e, db_bind_some, db_bd_some, nI_add, pk_mul, nI_toInt, db_m1_t, dz_cn, Int.ofNat_le, Int.ofNat_lt, decide_true, decide_false, db_ct, db_cf, not_true_eq_false, not_false_eq_true, dv_58 h 2]
/-! the reference's steps -/
theorem dv_234 (h0 : b.1 669 12 = nI 0) {f p : Nat} : db_f234 b (nI f) (nI p) = some (db_uI (db_uI b 669 12 (nI f)) 669 13 (nI p)) := by
  unfold db_f234
  simp (disch := omega) only [db_lit, eq_self, db_pI_e, db_pL_e, db_bind_some, db_bd_some, nI_add, pk_mul, nI_toInt, db_m1_t, dz_cn, Int.ofNat_le, Int.ofNat_lt, decide_true, decide_false, db_ct, db_cf, not_true_eq_false, not_false_eq_true, h0, Nat.le_refl]
theorem dv_257 (h : dv_RT x n i b) (h0 : b.1 669 12 = nI 0) : db_f257 b = some (dv_fb x n i 2 b) := by
  obtain ⟨hX, t1, t2, t3, t4, t5⟩ := h
  have t1' : b.1 669 14 = nI (dv_kd x n i) := t1
  have h4 : dv_kd x n i ≤ 4 := dv_K4
  unfold db_f257 db_f257_b14 dv_fb dv_fk
  by_cases e : dv_kd x n i = 4
  · simp (disch := omega) only [db_lit, eq_self, db_pI_e, db_pL_e, db_bind_some, db_bd_some, nI_add, pk_mul, nI_toInt, db_m1_t, dz_cn, Int.ofNat_le, Int.ofNat_lt, decide_true, decide_false, db_ct, db_cf, not_true_eq_false, not_false_eq_true, db_87e, db_37e, db_31e, db_28e, db_281e, db_211e, db_27, db_269w, db_litL, pk_lT, db_iL, db_p0_e, db_p0_n, db_p0_j, db_sub1, nI_eq, if_true, if_false, Bool.false_eq_true, Nat.one_ne_zero, t1', e, t2, dv_234 h0]
  · simp (disch := omega) only [db_lit, eq_self, db_pI_e, db_pL_e, db_bind_some, db_bd_some, nI_add, pk_mul, nI_toInt, db_m1_t, dz_cn, Int.ofNat_le, Int.ofNat_lt, decide_true, decide_false, db_ct, db_cf, not_true_eq_false, not_false_eq_true, db_87e, db_37e, db_31e, db_28e, db_281e, db_211e, db_27, db_269w, db_litL, pk_lT, db_iL, db_p0_e, db_p0_n, db_p0_j, db_sub1, nI_eq, if_true, if_false, Bool.false_eq_true, Nat.one_ne_zero, t1', e, t2, dv_234 h0]
theorem dv_234i (h : dv_RT x n i b) (h0 : b.1 669 12 = nI 0) {f : Nat} (hk : ¬ dv_kd x n i = 4) : db_f234 b (nI f) (b.1 669 15) = some (dv_fb x n i f b) := by
  have h15 : b.1 669 15 = nI (dv_P x n i) := h.2.2.1
  rw [h15, dv_234 h0]
  unfold dv_fb dv_fk
  rw [if_neg hk]
theorem dv_Fb_fb {f : Nat} (h : dv_Fb b z) : dv_Fb b (dv_fb x n i f z) := dv_Fb_9 (dv_Fb_9 h (.inl (by omega))) (.inl (by omega))
theorem dv_fk_b {f : Nat} (h1 : 1 ≤ f) (h2 : f ≤ 7) : 1 ≤ dv_fk x n i f ∧ dv_fk x n i f ≤ 7 := by
  unfold dv_fk
  by_cases e : dv_kd x n i = 4
  · rw [if_pos e]; omega
  · rw [if_neg e]; omega
theorem dv_fb_B {f : Nat} (h1 : 1 ≤ f) (h2 : f ≤ 7) : dv_Bad (dv_fb x n i f b) := ⟨dv_fk x n i f, (dv_fk_b h1 h2).1, (dv_fk_b h1 h2).2, by unfold dv_fb; rw [db_uI_j (by decide), db_uI_1]⟩
theorem dv_Fl_f {f : Nat} (h1 : 1 ≤ f) (h2 : f ≤ 7) : dv_Fl (dv_fa x n i f a) (dv_fb x n i f b) := by
  refine ⟨dv_fb_B h1 h2, ?_, ?_⟩
  · unfold dv_fa dv_fb
    rw [db_uI_j (by decide), db_uI_1, db_uI_j (by decide), db_uI_1]
  · unfold dv_fa dv_fb
    rw [db_uI_1, db_uI_1]
theorem dv_264t (h : dv_RT x n i b) (h0 : b.1 669 12 = nI 0) : dz_T (db_f264 b (nI 1)) (fun z => dv_RT x n (i + 1) z ∧ dv_Fn b z) := by
  unfold db_f264
  simp (disch := omega) only [db_lit, eq_self, db_pI_e, db_pL_e, db_bind_some, db_bd_some, nI_add, pk_mul, nI_toInt, db_m1_t, dz_cn, Int.ofNat_le, Int.ofNat_lt, decide_true, decide_false, db_ct, db_cf, not_true_eq_false, not_false_eq_true, db_87e, db_37e, db_31e, db_28e, db_281e, db_211e, db_27, db_269w, db_litL, pk_lT, db_iL, db_p0_e, db_p0_n, db_p0_j, db_sub1, nI_eq, if_true, if_false, Bool.false_eq_true, Nat.one_ne_zero, h0, Nat.le_refl, (show ¬ 1 = 0 by omega)]
  refine db_T_go (dv_nx h) fun z hz => ?_
  exact ⟨_, rfl, hz⟩
theorem dv_264f (h : dv_RT x n i b) (h0 : b.1 669 12 = nI 0) : db_f264 b (nI 0) = some (dv_fb x n i 2 b) := by
  unfold db_f264
  simp (disch := omega) only [db_lit, eq_self, db_pI_e, db_pL_e, db_bind_some, db_bd_some, nI_add, pk_mul, nI_toInt, db_m1_t, dz_cn, Int.ofNat_le, Int.ofNat_lt, decide_true, decide_false, db_ct, db_cf, not_true_eq_false, not_false_eq_true, db_87e, db_37e, db_31e, db_28e, db_281e, db_211e, db_27, db_269w, db_litL, pk_lT, db_iL, db_p0_e, db_p0_n, db_p0_j, db_sub1, nI_eq, if_true, if_false, Bool.false_eq_true, Nat.one_ne_zero, h0, Nat.le_refl, dv_257 h h0]
theorem dv_264b (h : dv_Bad b) : db_f264 b v = some b := by
  obtain ⟨k, k1, k2, k3⟩ := h
  unfold db_f264
  simp (disch := omega) only [db_lit, eq_self, db_pI_e, db_pL_e, db_bind_some, db_bd_some, nI_add, pk_mul, nI_toInt, db_m1_t, dz_cn, Int.ofNat_le, Int.ofNat_lt, decide_true, decide_false, db_ct, db_cf, not_true_eq_false, not_false_eq_true, k3, (show ¬ k ≤ 0 by omega)]
theorem dv_234b (h : dv_Bad b) : db_f234 b v y = some b := by
  obtain ⟨k, k1, k2, k3⟩ := h
  unfold db_f234
  simp (disch := omega) only [db_lit, eq_self, db_pI_e, db_pL_e, db_bind_some, db_bd_some, nI_add, pk_mul, nI_toInt, db_m1_t, dz_cn, Int.ofNat_le, Int.ofNat_lt, decide_true, decide_false, db_ct, db_cf, not_true_eq_false, not_false_eq_true, k3, (show ¬ k ≤ 0 by omega)]
theorem dv_b01t {p : Bool} (h : p = true) : db_i p = nI 1 := by rw [h]; rfl
theorem dv_b01f {p : Bool} (h : p = false) : db_i p = nI 0 := by rw [h]; rfl
/-- a keyword that must stand -/
theorem dv_oTake (hC : dv_CT x n i a) (hR : dv_RT x n i b) (h0 : b.1 669 12 = nI 0) {j : Nat} (hj : j < 28) : ∃ r a1 b1, db_f68 a (nI j) = some (r, a1) ∧ db_f264 b (db_i (decide (dv_w x n i = nI j))) = some b1 ∧ ((r = true ∧ a1 = db_uI a 13 9 (nI (i + 1)) ∧ dv_CT x n (i + 1) a1 ∧ dv_RT x n (i + 1) b1 ∧ dv_Fn b b1) ∨ (r = false ∧ dv_Fl a1 b1 ∧ dv_Fa a a1 ∧ dv_Fb b b1)) := by
  by_cases e : dv_w x n i = nI j
  · have hk := dv_w_kd hj e
    obtain ⟨b1, e1, h1, h2⟩ := dv_264t hR h0
    exact ⟨true, _, b1, dv_68t hC hj e, by rw [decide_eq_true e]; exact e1, .inl ⟨rfl, rfl, dv_CT_s hC (by omega), h1, h2⟩⟩
  · exact ⟨false, _, _, dv_68f hC hj e, by rw [decide_eq_false e]; exact dv_264f hR h0, .inr ⟨rfl, dv_Fl_f (by omega) (by omega), dv_Fa_fa dv_Fa_r, dv_Fb_fb dv_Fb_r⟩⟩
end DVOP
