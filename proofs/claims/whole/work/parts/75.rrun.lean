/-! LIVES: the reference's run, all of it -/
section DBRO
variable {U : Nat} {c0 : db_C} {s0 : db_S}
theorem dw_368 {R : Nat → Nat → Int32} (hU : U + 1800 ≤ 1000000000) : ∀ (f d F m i j a b : Nat) (t : dw_Tt) (s : db_S), j ≤ 30 → db_PL R c0 f d i j a b → d ≤ F → j - i < m → dw_tk U c0 t → dw_Rr s0 t s → dz_T (db_f368_b2 (db_f368 F) m s (nI j) (nI i)) (fun z => dw_Rr s0 (dw_al f i j t) z) := by
  intro f
  induction f with
  | zero =>
    intro d F m i j a b t s hj hP hd hm hT hR
    cases m with
    | zero => omega
    | succ m =>
      obtain ⟨hij, -⟩ := hP
      subst hij
      rw [db_f368_b2]
      simp (disch := omega) only [db_lit, eq_self, db_pI_e, db_pL_e, db_bind_some, db_bd_some, nI_add, pk_mul, nI_toInt, db_m1_t, dz_cn, Int.ofNat_le, Int.ofNat_lt, decide_true, decide_false, db_ct, db_cf, not_true_eq_false, not_false_eq_true, Nat.le_refl]
      exact ⟨_, rfl, hR⟩
  | succ f IH =>
    intro d F m i j a b t s hj hP hd hm hT hR
    cases m with
    | zero => omega
    | succ m =>
      rw [db_f368_b2, dw_al]
      have e41 : s.1 669 41 = t.2.1 6 := hR.2.2.2.2.2.1
      rcases hP with ⟨hij, -⟩ | ⟨hij, x, x1, x2, x3, x4, x5⟩
      · subst hij
        rw [if_pos rfl]
        simp (disch := omega) only [db_lit, eq_self, db_pI_e, db_pL_e, db_bind_some, db_bd_some, nI_add, pk_mul, nI_toInt, db_m1_t, dz_cn, Int.ofNat_le, Int.ofNat_lt, decide_true, decide_false, db_ct, db_cf, not_true_eq_false, not_false_eq_true, Nat.le_refl]
        exact ⟨_, rfl, hR⟩
      · rw [if_neg (by omega)]
        simp (disch := omega) only [db_lit, eq_self, db_pI_e, db_pL_e, db_bind_some, db_bd_some, nI_add, pk_mul, nI_toInt, db_m1_t, dz_cn, Int.ofNat_le, Int.ofNat_lt, decide_true, decide_false, db_ct, db_cf, not_true_eq_false, not_false_eq_true, (show ¬ j ≤ i by omega), e41]
        by_cases h6 : t.2.1 6 = nI 0
        · rw [if_pos h6, decide_eq_false (fun h => h h6), db_cf]
          have en : db_n c0 (201 + 9 * i + 8) = x := dw_nI_n x3 (by omega)
          have en' : db_n t.1 (201 + 9 * i + 8) = x := by
            rw [← en]
            unfold db_n
            rw [hT.2.1 _ (by unfold dz_tl; omega)]
          rw [en']
          have hstep : ∀ {z : db_S}, dw_tk U c0 (dw_on (dw_al f) i t) → dw_Rr s0 (dw_on (dw_al f) i t) z → (∀ a' , db_PL R c0 f d x j a' b → dz_T ((db_rI z 674 (nI (201 + 9 * i + 8))).bind fun x3 => db_f368_b2 (db_f368 F) m z (nI j) x3) (fun z => dw_Rr s0 (dw_al f x j (dw_on (dw_al f) i t)) z)) := by
            intro z hT' hR' a' hP'
            have e8 : z.1 674 (201 + 9 * i + 8) = nI x := by rw [hR'.1 _ (by omega), hT'.2.1 _ (by unfold dz_tl; omega)]; exact x3
            simp (disch := omega) only [db_lit, eq_self, db_pI_e, db_pL_e, db_bind_some, db_bd_some, nI_add, pk_mul, nI_toInt, db_m1_t, dz_cn, Int.ofNat_le, Int.ofNat_lt, decide_true, decide_false, db_ct, db_cf, not_true_eq_false, not_false_eq_true, db_g_674, e8]
            exact IH d F m x j a' b _ z hj hP' hd (by omega) hT' hR'
          rcases x5 with ⟨⟨y1, y2⟩, y3, y4⟩ | ⟨y1, y2, gg, g1, g2, g3, g4, g5, g6⟩
          · have hno : ¬ (c0 (201 + 9 * i) = nI 4 ∨ c0 (201 + 9 * i) = nI 5) := by
              rintro (hk | hk)
              · exact y1 hk
              · exact y2 hk
            refine db_T_go (dw_369 (R := R a) (r := dw_al f) hU (by omega) x4 x3 (by omega) (fun hk => absurd hk hno) (fun hk => absurd hk hno) hT hR) fun z hz => ?_
            exact hstep (dw_on_k hU (by omega) x4 (fun hk => absurd hk hno) hT) hz (a + 1) y4
          · cases F with
            | zero => omega
            | succ F' =>
              refine db_T_go (dw_369 (R := R a) (r := dw_al f) hU (by omega) x4 x3 (by omega) (fun _ t' ht => dw_al_k hU f (d - 1) (i + 1) x (a + 1) gg t' (by omega) g5 ht) (fun _ t' s' ht hs => ?_) hT hR) fun z hz => ?_
              · rw [db_f368]
                unfold db_f368_e
                exact IH (d - 1) F' db_FU (i + 1) x (a + 1) gg t' s' (by omega) g5 (by omega) (by unfold db_FU; omega) ht hs
              · exact hstep (dw_on_k hU (by omega) x4 (fun _ t' ht => by rw [en]; exact dw_al_k hU f (d - 1) (i + 1) x (a + 1) gg t' (by omega) g5 ht) hT) hz (gg + 1) g6
        · rw [if_neg h6, decide_eq_true h6, db_ct]
          exact ⟨_, rfl, hR⟩
end DBRO
