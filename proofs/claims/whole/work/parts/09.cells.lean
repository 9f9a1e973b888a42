section DBU
variable {p : Program} {l : Launch} {e : Env} {R : Room} {s : State} {m : MethodId} {args : Array Value} {below : List Frame} {meth : Method} {c : Code} {H : Heap} {locs : List Loc} {cells slots : Nat} {Q : State → Prop}
variable {o : Nat} {xv : Nat → Value} {D : va_G} {ck : Nat → ClassId} {X : db_X} {mr : db_MR} {μ : db_H} {ls : Array Slot} {pc : Nat} {rest : List Value}
theorem db_ald_e {k a : Nat} {j : Int32} {v : Value} (h : db_ald k μ a j = some v) : ∃ (n : Nat) (F : Nat → Value), (∀ H, db_W o xv D ck μ H → H[o + (a - 4)]? = some (arrV (ck k) n F)) ∧ vp_in j n ∧ F j.toNatClampNeg = db_cv xv o v ∧ 4 ≤ a := by
  unfold db_ald at h
  split at h
  · rename_i k' n c0 harr
    replace h := db_condn_e h
    obtain ⟨hb, h⟩ := h
    simp only [Bool.and_eq_true] at hb
    cases Nat.eq_of_beq_eq_true hb.1
    have h4 := (db_arr_e harr).1
    split at h
    · rename_i f
      cases h
      exact ⟨n, fun j => .int (f j), fun H hW => hW.arr harr, db_in_e hb.2, rfl, h4⟩
    · rename_i f
      cases h
      exact ⟨n, fun j => .long (f j), fun H hW => hW.arr harr, db_in_e hb.2, rfl, h4⟩
    · rename_i f
      split at h
      · rename_i t ht
        replace h := db_condn_e h
        obtain ⟨hb4, h⟩ := h
        cases h
        refine ⟨n, fun j => va_rf ((f j).map (fun t => o + (t - 4))), fun H hW => hW.arr harr, db_in_e hb.2, ?_, h4⟩
        simp only [ht, Option.map_some]
        rw [db_cv_own (Nat.le_of_ble_eq_true hb4)]
        rfl
      · cases h
    · cases h
  · cases h
theorem db_ast_e {k a : Nat} {j : Int32} {v : Value} {μ' : db_H} (h : db_ast k μ a j v = some μ') : ∃ (n : Nat) (F : Nat → Value) (w : Value) (e : db_E), (∀ H, db_W o xv D ck μ H → H[o + (a - 4)]? = some (arrV (ck k) n F)) ∧ vp_in j n ∧ 4 ≤ a ∧ μ' = db_set μ a e ∧ (∀ H, H[o + (a - 4)]? = some (arrV (ck k) n (updV F j.toNatClampNeg w)) → va_at D db_cl (o + (a - 4), db_ce xv o ck e) H) ∧ ((k ≤ 1 ∧ ∃ x, v = .int x ∧ w = .int (cond (Nat.beq k 0) (x.toInt8.toInt32) x)) ∨ (k = 2 ∧ ∃ x, v = .long x ∧ w = .long x)) := by
  unfold db_ast at h
  split at h
  · rename_i k' n c0 harr
    replace h := db_condn_e h
    obtain ⟨hb, h⟩ := h
    simp only [Bool.and_eq_true] at hb
    cases Nat.eq_of_beq_eq_true hb.1
    have h4 := (db_arr_e harr).1
    split at h
    · rename_i f x
      replace h := db_condn_e h
      obtain ⟨hb1, h⟩ := h
      cases h
      refine ⟨n, fun j => .int (f j), .int (cond (Nat.beq k 0) (x.toInt8.toInt32) x), _, fun H hW => hW.arr harr, db_in_e hb.2, h4, rfl, fun H hH => ?_, Or.inl ⟨Nat.le_of_ble_eq_true hb1, x, rfl, rfl⟩⟩
      show H[_]? = some (vp_cell _ _)
      rw [hH]
      show some (arrV (ck k) n (updV (fun j => .int (f j)) _ _)) = some (arrV (ck k) n (fun q => .int (upd f j.toNatClampNeg (cond (Nat.beq k 0) (x.toInt8.toInt32) x) q)))
      congr 2
      funext q
      by_cases hq : q = j.toNatClampNeg <;> simp [updV, upd, hq]
    · rename_i f x
      replace h := db_condn_e h
      obtain ⟨hb1, h⟩ := h
      cases h
      refine ⟨n, fun j => .long (f j), .long x, _, fun H hW => hW.arr harr, db_in_e hb.2, h4, rfl, fun H hH => ?_, Or.inr ⟨Nat.eq_of_beq_eq_true hb1, x, rfl, rfl⟩⟩
      show H[_]? = some (vp_cell _ _)
      rw [hH]
      show some (arrV (ck k) n (updV (fun j => .long (f j)) _ _)) = some (arrV (ck k) n (fun q => .long (vp_updL f j.toNatClampNeg x q)))
      congr 2
      funext q
      by_cases hq : q = j.toNatClampNeg <;> simp [updV, vp_updL, hq]
    · cases h
  · cases h
theorem db_out {cA : ClassId} {n : Nat} {F : Nat → Value} {j : Int32} (h : vp_in j n) : ¬ (j < 0 ∨ (arrV cA n F).slots.size ≤ j.toNatClampNeg) := by rw [arrV_size]; exact h
theorem db_rdv {cA : ClassId} {n : Nat} {F : Nat → Value} {j : Int32} {v : Value} (h : vp_in j n) (hv : F j.toNatClampNeg = v) : (arrV cA n F).slots[j.toNatClampNeg]? = some v := by
  rw [arrV_read _ _ (Nat.not_le.mp fun q => h (Or.inr q)), hv]
theorem db_asq_ok (hF : db_F o xv D ck X s s.heap) (hX : db_Fx p s args m meth c mr) (hW : db_W o xv D ck μ H) (hFr : db_Fr o s H locs) {a t : Nat} {j : Int32} {μ' : db_H} (h : db_asq μ a j t = some μ') (hd : decode mr.2.1 pc = .ok (.aastore, 1))
    (k : ∀ (H' : Heap) (locs' : List Loc), μ'.1 = μ.1 → μ'.2.1 = μ.2.1 → db_W o xv D ck μ' H' → db_Fr o s H' locs' → W p l e R s m args below meth c H' locs' cells slots Q (F0 m (pc + 1) ls rest)) : W p l e R s m args below meth c H locs cells slots Q (F0 m pc ls (db_cv xv o (.ref t) :: .int j :: db_cv xv o (.ref a) :: rest)) := by
  obtain ⟨hx, hb, hml, hown, hrt, hlk, hnm, hts⟩ := hX
  have hK := hF.1
  unfold db_asq at h
  split at h
  · rename_i kd n f ci fs harr hobj
    replace h := db_condn_e h
    obtain ⟨hbq, h⟩ := h
    cases h
    simp only [Bool.and_eq_true, Bool.or_eq_true] at hbq
    obtain ⟨hkc, hin⟩ := hbq
    have hin := db_in_e hin
    have a4 := (db_arr_e harr).1
    have t4 := (db_obj_e hobj).1
    rw [db_cv_own a4, db_cv_own t4]
    have hA : H[o + (a - 4)]? = some (arrV (ck kd) n (fun j => va_rf ((f j).map (fun t => o + (t - 4))))) := hW.arr harr
    have key : ∀ (C : String) (T : u_T) (N : Nat), db_cl[ci]? = some (C, T, N) → (db_tl ck)[kd]? = some (ck kd, .object C) → W p l e R s m args below meth c H locs cells slots Q (F0 m pc ls (.ref (o + (t - 4)) :: .int j :: .ref (o + (a - 4)) :: rest)) := by
      intro C T N hc hk
      obtain ⟨r', hr', cellV, g1, g2, g3, -⟩ := hW.obj hobj
      have hcls := (hK.1 ci _ hc).2
      obtain ⟨kA, comp, k1, k2, k3, -⟩ := (hK.2 kd _ hk).2
      have hcomp : comp = D.1 ci := Option.some.inj (k3.symm.trans hcls.1)
      subst hcomp
      obtain ⟨kC, hkC, -⟩ := hcls.2
      refine W.aast hx hb hA (fun q h => by cases h) (fun h => by cases h) k1 k2 rfl hkC ⟨fun q => hin (Or.inl q), by show _ < (arrV _ _ _).slots.size; rw [arrV_size]; exact Nat.not_le.mp fun q => hin (Or.inr q)⟩ g1 (fun q h => by rw [g3] at h; cases h) (by rw [g2]; exact hkC) (by rw [g2]; exact va_assign hcls) rfl rfl hd fun H1 e z oq => ?_
      refine k H1 _ rfl rfl (hW.set a4 z oq ?_) (hFr.set z oq)
      show H1[_]? = some (vp_cell _ _)
      rw [e]
      show some ((arrV (ck kd) n (fun j => va_rf ((f j).map (fun t => o + (t - 4))))).setSlot j.toNatClampNeg (.ref (o + (t - 4)))) = some (arrV (ck kd) n (fun q => va_rf ((va_up f j.toNatClampNeg (some t) q).map (fun t => o + (t - 4)))))
      rw [arrV_store]
      congr 2
      funext q
      by_cases hq : q = j.toNatClampNeg
      · subst hq
        simp [updV, va_up, va_rf]
      · simp [updV, va_up, hq]
    rcases hkc with (hkc | hkc) | hkc
    · cases Nat.eq_of_beq_eq_true hkc.1
      cases Nat.eq_of_beq_eq_true hkc.2
      exact key _ _ _ rfl rfl
    · cases Nat.eq_of_beq_eq_true hkc.1
      cases Nat.eq_of_beq_eq_true hkc.2
      exact key _ _ _ rfl rfl
    · cases Nat.eq_of_beq_eq_true hkc.1
      cases Nat.eq_of_beq_eq_true hkc.2
      exact key _ _ _ rfl rfl
  · cases h
theorem db_cpy_ok (hF : db_F o xv D ck X s s.heap) (hX : db_Fx p s args m meth c mr) (hW : db_W o xv D ck μ H) (hFr : db_Fr o s H locs) (hls : mr.2.2.1 = ls.size) {ix a d : Nat} {sp dp n : Int32} {μ' : db_H} (h : db_cpy μ a sp d dp n = some μ') (hw : ∀ w ∈ ([.methodLink (db_cn mr.2.2.2.2.1) ix arraycopyName, .native arraycopyName, .static arraycopyName, .initialized "java/lang/System"] : List Cond), w.before args s = true) (hR : 1 ≤ R.frames ∧ 100 ≤ R.locals) (hsum : (rest.map fun v => v.category).sum ≤ 8) (hd : decode mr.2.1 pc = .ok (.invokestatic ix, 3))
    (k : ∀ (H' : Heap) (locs' : List Loc), μ'.1 = μ.1 → μ'.2.1 = μ.2.1 → db_W o xv D ck μ' H' → db_Fr o s H' locs' → W p l e R s m args below meth c H' locs' cells slots Q (F0 m (pc + 3) ls rest)) : W p l e R s m args below meth c H locs cells slots Q (F0 m pc ls (.int n :: .int dp :: db_cv xv o (.ref d) :: .int sp :: db_cv xv o (.ref a) :: rest)) := by
  obtain ⟨hx, hb, hml, hown, hrt, hlk, hnm, hts⟩ := hX
  have hK := hF.1
  have nn : ∀ z : Int32, ¬ z < 0 → z.toInt = (z.toNatClampNeg : Int) := by
    intro z hz
    have hz0 : (0 : Int) ≤ z.toInt := by
      have := Int32.not_lt.mp hz
      simpa using Int32.le_iff_toInt_le.mp this
    show z.toInt = ((z.toInt.toNat : Nat) : Int)
    omega
  unfold db_cpy at h
  split at h
  · rename_i kd n0 c0 kd' n1 c1 harr0 harr1
    replace h := db_condn_e h
    obtain ⟨hbq, h⟩ := h
    simp only [Bool.and_eq_true, Bool.not_eq_true', decide_eq_false_iff_not] at hbq
    obtain ⟨⟨⟨⟨⟨hkk, h1⟩, h2⟩, h3⟩, h4⟩, h5⟩ := hbq
    cases Nat.eq_of_beq_eq_true hkk
    have h4 := Nat.le_of_ble_eq_true h4
    have h5 := Nat.le_of_ble_eq_true h5
    have a4 := (db_arr_e harr0).1
    have d4 := (db_arr_e harr1).1
    rw [db_cv_own a4, db_cv_own d4]
    have hc0 := hW.arr harr0
    have hc1 := hW.arr harr1
    have key : ∀ (ty : FieldType) (F G : Nat → Value) (eE : db_E), (db_tl ck)[kd]? = some (ck kd, ty) → refKind ty = false → vp_cell (ck kd) (n0, db_cc o c0) = arrV (ck kd) n0 F → vp_cell (ck kd) (n1, db_cc o c1) = arrV (ck kd) n1 G → (∀ i, fits ty (F i) = true) → (∀ i x, F i ≠ .ref x) → μ' = db_set μ d eE → (∀ H', H'[o + (d - 4)]? = some (copied (arrV (ck kd) n0 F) (arrV (ck kd) n1 G) sp dp n) → va_at D db_cl (o + (d - 4), db_ce xv o ck eE) H') → W p l e R s m args below meth c H locs cells slots Q (F0 m pc ls (.int n :: .int dp :: .ref (o + (d - 4)) :: .int sp :: .ref (o + (a - 4)) :: rest)) := by
      intro ty F G e2 hk hprim eF eG hfit hnr hμ hend
      rw [eF] at hc0
      rw [eG] at hc1
      have hnf : nativeFrameWords "java/lang/System" "arraycopy" 5 ≤ 60 := by decide +kernel
      intro T hT Xs
      obtain ⟨-, k0, hk0, cm0, hkk0⟩ := (hK.2 kd _ hk).1 n0 F
      obtain ⟨-, k1, hk1, cm1, hkk1⟩ := (hK.2 kd _ hk).1 n1 G
      obtain ⟨vm', X', step⟩ := Xs.arraycopy hx hown (hw _ List.mem_cons_self) (hw _ (List.mem_cons_of_mem _ List.mem_cons_self)) (hw _ (List.mem_cons_of_mem _ (List.mem_cons_of_mem _ List.mem_cons_self))) (hw _ (List.mem_cons_of_mem _ (List.mem_cons_of_mem _ (List.mem_cons_of_mem _ List.mem_cons_self)))) (src := o + (a - 4)) (dst := o + (d - 4)) (cs := arrV (ck kd) n0 F) (cd := arrV (ck kd) n1 G) (srcPos := sp) (destPos := dp) (n := n) (by rw [hT]; exact hc0) (by rw [hT]; exact hc1)
        (fun _ h => by cases h) (fun _ h => by cases h) (fun h => by cases h) (fun h => by cases h) hk0 hk1 hkk0 hkk1 (by simp [hprim]) h1 h2 h3
        (by rw [nn sp h1, nn n h3, arrV_size]; omega)
        (by rw [nn dp h2, nn n h3, arrV_size]; omega)
        (fun vm₁ _ i hi => by
          have e : (arrV (ck kd) n0 F).slots.getD (sp.toNatClampNeg + i) .null = F (sp.toNatClampNeg + i) := by
            rw [Array.getD_eq_getD_getElem?, arrV_read _ _ (by omega)]
            rfl
          refine ⟨?_, ?_⟩
          · rw [e]
            exact hfit _
          · rw [e]
            cases hv : F (sp.toNatClampNeg + i) <;> first | exact trivial | exact absurd hv (hnr _ _))
        (g := F0 m pc ls (.int n :: .int dp :: .ref (o + (d - 4)) :: .int sp :: .ref (o + (a - 4)) :: rest)) rfl (by rw [hml, hls]) (rest := rest) rfl (by rw [hb]; exact hd) hR.1 (by show 2 * 0 + _ + _ ≤ _; omega)
      have hl : o + (d - 4) < H.size := (Array.getElem?_eq_some_iff.mp hc1).1
      have hheap : ((T.setVm vm').setCell (o + (d - 4)) (copied (arrV (ck kd) n0 F) (arrV (ck kd) n1 G) sp dp n)).heap = H.setIfInBounds (o + (d - 4)) (copied (arrV (ck kd) n0 F) (arrV (ck kd) n1 G) sp dp n) := by rw [← hT]; rfl
      have z : (H.setIfInBounds (o + (d - 4)) (copied (arrV (ck kd) n0 F) (arrV (ck kd) n1 G) sp dp n)).size = H.size := by simp
      have oq : ∀ q : Nat, q ≠ o + (d - 4) → (H.setIfInBounds (o + (d - 4)) (copied (arrV (ck kd) n0 F) (arrV (ck kd) n1 G) sp dp n))[q]? = H[q]? := fun q hq => by simp [Array.getElem?_setIfInBounds, Ne.symm hq]
      subst hμ
      obtain ⟨t, a1, b1⟩ := k _ _ rfl rfl (hW.set d4 z oq (hend _ (by simp [Array.getElem?_setIfInBounds, hl]))) ⟨hFr.1, by rw [z]; exact hFr.2.1, fun q hq => (oq q (by omega)).trans (hFr.2.2.1 q hq), fun q hq => by
          rcases List.mem_append.mp hq with h | h
          · exact hFr.2.2.2 q h
          · obtain ⟨z, -, hz⟩ := List.mem_map.mp h
            rw [← hz]
            exact Nat.le_add_right _ _⟩ _ hheap X'
      exact ⟨t, step t a1, b1⟩
    split at h
    · rename_i f g
      replace h := db_condn_e h
      obtain ⟨hk1, h⟩ := h
      cases Nat.eq_of_beq_eq_true hk1
      cases h
      refine key .int (fun j => .int (f j)) (fun j => .int (g j)) _ rfl rfl rfl rfl (fun _ => rfl) (fun _ _ h => by cases h) rfl (fun H' hH => ?_)
      show H'[_]? = some (vp_cell _ _)
      rw [hH]
      exact congrArg some (va_copied (fun z => .int z) (ck 1) (ck 1) f g h4)
    · rename_i f g
      replace h := db_condn_e h
      obtain ⟨hk1, h⟩ := h
      cases Nat.eq_of_beq_eq_true hk1
      cases h
      refine key .long (fun j => .long (f j)) (fun j => .long (g j)) _ rfl rfl rfl rfl (fun _ => rfl) (fun _ _ h => by cases h) rfl (fun H' hH => ?_)
      show H'[_]? = some (vp_cell _ _)
      rw [hH]
      exact congrArg some (va_copied (fun z => .long z) (ck 2) (ck 2) f g h4)
    · cases h
  · cases h
theorem db_mnew_ok (hok : db_ok mr) (hF : db_F o xv D ck X s s.heap) (hX : db_Fx p s args m meth c mr) (hW : db_W o xv D ck μ H) (hFr : db_Fr o s H locs) {ix q : Nat} {x y : Int32} {μ' : db_H} (h : db_mnew mr ix x y μ = some (q, μ')) (hd : decode mr.2.1 pc = .ok (.multianewarray ix 2, 4)) (hcl : cells + μ'.1 ≤ R.cells + μ.1) (hsl : slots + μ'.2.1 ≤ R.slots + μ.2.1)
    (k : ∀ (H' : Heap) (locs' : List Loc) (cells' slots' : Nat), cells' + μ.1 = cells + μ'.1 → slots' + μ.2.1 = slots + μ'.2.1 → db_W o xv D ck μ' H' → db_Fr o s H' locs' → W p l e R s m args below meth c H' locs' cells' slots' Q (F0 m (pc + 4) ls (db_cv xv o (.ref q) :: rest))) : W p l e R s m args below meth c H locs cells slots Q (F0 m pc ls (.int y :: .int x :: rest)) := by
  obtain ⟨hx, hb, hml, hown, hrt, hlk, hnm, hts⟩ := hX
  obtain ⟨hK, hN, hAO, ⟨hA1, hA2⟩, -⟩ := hF
  have z0 := hW.1
  have z4 := hW.2.1
  unfold db_mnew at h
  split at h
  · rename_i qq b0 v0 nm hlink
    replace h := db_condn_e h
    obtain ⟨hb1, h⟩ := h
    cases h
    simp only [Bool.and_eq_true, Bool.not_eq_true', decide_eq_false_iff_not] at hb1
    obtain ⟨⟨⟨⟨hnx, hlx⟩, hny⟩, hly⟩, hq1⟩ := hb1
    have hlx := Nat.le_of_ble_eq_true hlx
    have hly := Nat.le_of_ble_eq_true hly
    have hq1 := Nat.le_of_ble_eq_true hq1
    have hcl' : cells + (μ.1 + 1 + x.toNatClampNeg) ≤ R.cells + μ.1 := hcl
    have hsl' : slots + (μ.2.1 + x.toNatClampNeg + x.toNatClampNeg * y.toNatClampNeg) ≤ R.slots + μ.2.1 := hsl
    have key : ∀ (ty : FieldType) (kO kI : Nat) (z : vp_A) (eI : db_E), (Cond.classLink (db_cn mr.2.2.2.2.1) ix ("[" ++ (FieldType.array ty).toString)).before args s = true → db_AA ty s → Cond.arrayClass ty ∈ db_T → componentBytes ty ≤ 8 → fits ty (defaultValue ty) = true → s.vm.findClass ("[" ++ (FieldType.array ty).toString) = some (ck kO) → s.vm.findClass (FieldType.array ty).toString = some (ck kI) → cond (Nat.beq qq 0) 3 4 = kO →
        (∀ (a : Nat) (H' : Heap), H'[a]? = some (arrV (ck kI) y.toNatClampNeg (fun _ => defaultValue ty)) → va_at D db_cl (a, db_ce xv o ck (cond (Nat.beq qq 0) (.inl (1, y.toNatClampNeg, .inl (fun _ => 0))) (.inl (2, y.toNatClampNeg, .inr (.inl (fun _ => 0)))))) H') → W p l e R s m args below meth c H locs cells slots Q (F0 m pc ls (.int y :: .int x :: rest)) := by
      intro ty kO kI z eI hw hAA hac hcb hft fO fI' hkO hrow
      intro T hT Xs
      obtain ⟨vm₁, cA, cI, -, fA, fI, X', step⟩ := db_grid Xs hx hown hw hAA (hts _ hac) (g := F0 m pc ls (.int y :: .int x :: rest)) rfl (by rw [hb]; exact hd) rfl hnx hny hlx hly hcb hft (by omega) (by omega)
      have ecA : cA = ck kO := Option.some.inj (fA.symm.trans fO)
      have ecI : cI = ck kI := Option.some.inj (fI.symm.trans fI')
      subst ecA
      subst ecI
      have hTh : (T.setVm vm₁).heap = H := hT
      generalize hN : x.toNatClampNeg = N at *
      have gz := db_gs_size (T.setVm vm₁) (ck kO) (ck kI) N y.toNatClampNeg (defaultValue ty) N
      have go := db_gs_outer (T.setVm vm₁) (ck kO) (ck kI) N y.toNatClampNeg (defaultValue ty) N
      have gq := fun (a : Nat) ha => db_gs_old (T.setVm vm₁) (ck kO) (ck kI) N y.toNatClampNeg (defaultValue ty) (q := a) ha N
      have gr := fun (j : Nat) hj => db_gs_row (T.setVm vm₁) (ck kO) (ck kI) N y.toNatClampNeg (defaultValue ty) (j := j) N hj
      generalize hG : db_gs (T.setVm vm₁) (ck kO) (ck kI) N y.toNatClampNeg (defaultValue ty) N = G at *
      rw [hTh] at gz go gq gr
      have e : db_cv xv o (.ref μ.1) = .ref H.size := by rw [db_cv_own z4]; exact congrArg Value.ref (show (o + (μ.1 - 4) : Nat) = H.size by omega)
      have hW' : db_W o xv D ck (μ.1 + 1 + N, μ.2.1 + N + N * y.toNatClampNeg, db_upr (db_up μ.2.2 μ.1 (.inl (cond (Nat.beq qq 0) 3 4, N, .inr (.inr (.inr (.inr (fun j => cond (Nat.blt j N) (some (μ.1 + 1 + j)) none))))))) (μ.1 + 1) N (cond (Nat.beq qq 0) (.inl (1, y.toNatClampNeg, .inl (fun _ => 0))) (.inl (2, y.toNatClampNeg, .inr (.inl (fun _ => 0)))))) G.heap := by
        refine ⟨by rw [gz]; show _ = o + (μ.1 + 1 + N); omega, by show 4 ≤ μ.1 + 1 + N; omega, fun i hi hl => ?_⟩
        have hl2 : i < μ.1 + 1 + N := hl
        by_cases h1 : μ.1 + 1 ≤ i
        · have hb2 : (Nat.ble (μ.1 + 1) i && Nat.blt i (μ.1 + 1 + N)) = true := by
            simp only [Bool.and_eq_true, Nat.ble_eq, Nat.blt_eq]
            exact ⟨h1, hl2⟩
          show va_at D db_cl (_, db_ce xv o ck (cond (Nat.ble (μ.1 + 1) i && Nat.blt i (μ.1 + 1 + N)) _ _)) G.heap
          rw [hb2]
          refine hrow _ _ ?_
          have := gr (i - (μ.1 + 1)) (by omega)
          rw [show o + (i - 4) = H.size + 1 + (i - (μ.1 + 1)) by omega]
          exact this
        · have hb2 : (Nat.ble (μ.1 + 1) i && Nat.blt i (μ.1 + 1 + N)) = false := by
            have : Nat.ble (μ.1 + 1) i = false := by
              cases hbb : Nat.ble (μ.1 + 1) i with
              | false => rfl
              | true => exact absurd (Nat.le_of_ble_eq_true hbb) h1
            rw [this]; rfl
          show va_at D db_cl (_, db_ce xv o ck (cond (Nat.ble (μ.1 + 1) i && Nat.blt i (μ.1 + 1 + N)) _ (db_up _ _ _ i))) G.heap
          rw [hb2, cond_false]
          by_cases h2 : i = μ.1
          · subst h2
            rw [db_up_self]
            show G.heap[_]? = some (vp_cell _ _)
            rw [show o + (μ.1 - 4) = H.size by omega, go, hkO]
            refine congrArg some ?_
            show arrV (ck kO) N (fun j => if j < N then .ref (H.size + 1 + j) else .null) = arrV (ck kO) N (fun j => va_rf ((cond (Nat.blt j N) (some (μ.1 + 1 + j)) none).map (fun t => o + (t - 4))))
            refine congrArg (arrV (ck kO) N) (funext fun j => ?_)
            by_cases hj : j < N
            · have hbj : Nat.blt j N = true := by rw [Nat.blt_eq]; exact hj
              simp only [hj, if_true, hbj, cond_true, Option.map_some, va_rf]
              exact congrArg Value.ref (show (H.size + 1 + j : Nat) = o + (μ.1 + 1 + j - 4) by omega)
            · have hbj : Nat.blt j N = false := by
                cases hbb : Nat.blt j N with
                | false => rfl
                | true => rw [Nat.blt_eq] at hbb; exact absurd hbb hj
              simp only [hj, if_false, hbj, cond_false, Option.map_none, va_rf]
          · rw [db_up_ne h2]
            exact (hW.2.2 i hi (by omega)).kept (gq _ (by show o + (i - 4) < H.size; omega))
      obtain ⟨t, a1, b1⟩ := k G.heap _ _ _ (by show _ = cells + (μ.1 + 1 + N); omega) (by show _ = slots + (μ.2.1 + N + N * y.toNatClampNeg); omega) hW' ⟨hFr.1, by rw [gz]; have := hFr.2.1; omega, fun a ha => (gq a (by omega)).trans (hFr.2.2.1 a ha), fun q hq => by
          rcases List.mem_append.mp hq with h | h
          · exact hFr.2.2.2 q h
          · obtain ⟨j, -, rfl⟩ := List.mem_map.mp h
            show o ≤ T.heap.size
            rw [hT]; omega⟩ G rfl X'
      refine ⟨t, step t ?_, b1⟩
      rw [e] at a1
      rw [hT]
      exact a1
    have hq2 : qq = 0 ∨ qq = 1 := by omega
    have hw := (db_words hok.2.2 hts hlink).2
    rcases hq2 with rfl | rfl
    · exact key .int 3 1 (0, .inl fun _ => 0) (.inl (1, 0, .inl fun _ => 0)) (hw _ (by simp only [db_lws]; exact List.mem_cons_self)) hA1 (db_wA _ (by simp)) (by decide) rfl (hK.2 3 _ rfl).2 (hK.2 1 _ rfl).2 rfl (fun a H' hH => hH)
    · exact key .long 4 2 (0, .inl fun _ => 0) (.inl (1, 0, .inl fun _ => 0)) (hw _ (by simp only [db_lws]; exact List.mem_cons_self)) hA2 (db_wA _ (by simp)) (by decide) rfl (hK.2 4 _ rfl).2 (hK.2 2 _ rfl).2 rfl (fun a H' hH => hH)
  · cases h
end DBU
