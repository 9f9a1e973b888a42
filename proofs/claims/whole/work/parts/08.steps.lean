section DBT
variable {p : Program} {l : Launch} {e : Env} {R : Room} {s : State} {m : MethodId} {args : Array Value} {below : List Frame} {meth : Method} {c : Code} {H : Heap} {locs : List Loc} {cells slots : Nat} {Q : State → Prop}
variable {o : Nat} {xv : Nat → Value} {D : va_G} {ck : Nat → ClassId} {X : db_X} {mr : db_MR} {μ : db_H} {ls : Array Slot} {pc : Nat} {rest : List Value}
/-- the words of a link -/
theorem db_words (hok : db_okl mr) (hts : ∀ w ∈ db_T, w.before args s = true) {ix kd a b : Nat} {v : Int} {nm : String} (h : db_lk ix mr.2.2.2.2.2.2 = some (kd, a, b, v, nm)) : db_lsd mr.2.2.2.2.1 (ix, kd, a, b, v, nm) = true ∧ ∀ w ∈ db_lws mr.2.2.2.2.1 (ix, kd, a, b, v, nm), w.before args s = true := by
  obtain ⟨h1, h2⟩ := hok _ (db_lk_mem h)
  exact ⟨h1, fun w hw => hts w (h2 w hw)⟩
theorem db_in_e {j : Int32} {n : Nat} (h : db_in j n = true) : vp_in j n := by
  simp only [db_in, Bool.and_eq_true, Bool.not_eq_true', decide_eq_false_iff_not, decide_eq_true_eq] at h
  intro q
  rcases q with q | q
  · exact h.1 q
  · omega
theorem db_fit_e {ty : FieldType} {v : Value} (h : db_fit ty v = true) : narrow ty (db_cv xv o v) = db_cv xv o v ∧ fits ty (db_cv xv o v) = true := by
  unfold db_fit at h
  split at h
  · exact ⟨rfl, rfl⟩
  · exact ⟨rfl, rfl⟩
  · simp only [Bool.or_eq_true, decide_eq_true_eq] at h
    rcases h with rfl | rfl
    · exact ⟨(by decide : narrow .boolean (.int 0) = .int 0), rfl⟩
    · exact ⟨(by decide : narrow .boolean (.int 1) = .int 1), rfl⟩
  · rw [db_cv_own (Nat.le_of_ble_eq_true h)]
    exact ⟨rfl, rfl⟩
  · rw [db_cv_own (Nat.le_of_ble_eq_true h)]
    exact ⟨rfl, rfl⟩
  · cases h
theorem db_clk {ow ix ci k : Nat} {v : Int} {nm : String} {C : String} {T : u_T} {N : Nat} (hc : db_cl[ci]? = some (C, T, N)) (h : db_lsd ow (ix, 0, ci, k, v, nm) = true ∧ ∀ w ∈ db_lws ow (ix, 0, ci, k, v, nm), w.before args s = true) : k < N ∧ (T k).1 = C ∧ (Cond.fieldLink (db_cn ow) ix C (T k).2.1 (T k).2.2.1).before args s = true := by
  obtain ⟨h1, h2⟩ := h
  simp only [db_lsd, db_lws, hc, Bool.and_eq_true, decide_eq_true_eq, Nat.blt_eq] at h1 h2
  exact ⟨h1.1, h1.2, h2 _ List.mem_cons_self⟩
theorem db_cls {ow ix ci k : Nat} {v : Int} {nm : String} (h : db_lsd ow (ix, 0, ci, k, v, nm) = true) : ∃ C T N, db_cl[ci]? = some (C, T, N) := by
  simp only [db_lsd] at h
  cases hc : db_cl[ci]? with
  | none => rw [hc] at h; cases h
  | some q => exact ⟨_, _, _, rfl⟩
theorem db_getf_ok (hok : db_ok mr) (hF : db_F o xv D ck X s s.heap) (hX : db_Fx p s args m meth c mr) (hW : db_W o xv D ck μ H) (hFr : db_Fr o s H locs) {ix a : Nat} {v : Value} (h : db_getf mr ix μ a = some v) (hd : decode mr.2.1 pc = .ok (.getfield ix, 3))
    (k : W p l e R s m args below meth c H locs cells slots Q (F0 m (pc + 3) ls (db_cv xv o v :: rest))) : W p l e R s m args below meth c H locs cells slots Q (F0 m pc ls (db_cv xv o (.ref a) :: rest)) := by
  obtain ⟨hx, hb, hml, hown, hrt, hlk, hnm, hts⟩ := hX
  obtain ⟨hK, hN, hAO, hAA, hcat, hsc, ⟨a1, a2, g1, g2, g3, g4, g5, g6, g7⟩, hZ1, hZ2⟩ := hF
  unfold db_getf at h
  split at h
  · rename_i ci k0 v0 nm hlink
    split at h
    · rename_i ci' fs hobj
      obtain ⟨hbq, hv⟩ := db_condn_e h
      cases Nat.eq_of_beq_eq_true hbq
      obtain ⟨C, T, N, hc⟩ := db_cls (db_words hok.2.2 hts hlink).1
      obtain ⟨hk, hT, hl⟩ := db_clk hc (db_words hok.2.2 hts hlink)
      obtain ⟨ly1, -⟩ := db_lay _ _ _ _ hc
      rw [db_cv_own (db_obj_e hobj).1]
      exact va_get hx hb hts ly1 hown hK (db_P1 (hW.obj hobj)) 0 rfl hc k0 hk hl (fun x hx' => by rw [hT] at hx'; exact hx') (by rw [List.getElem?_map, hv]; rfl) hd k
    · cases h
  · rename_i b0 v0 nm hlink
    obtain ⟨hbq, hv⟩ := db_condn_e h
    cases hv
    rw [Nat.eq_of_beq_eq_true hbq]
    show W p l e R s m args below meth c H locs cells slots Q (F0 m pc ls (xv 1 :: rest))
    have hl := (db_words hok.2.2 hts hlink).2 _ (by simp only [db_lws]; exact List.mem_cons_self)
    rw [g1]
    exact vk_getf hx hb g5 hFr.S hown hl (fun _ h => h) hd (by rw [← g2]; exact k)
  · rename_i b0 v0 nm hlink
    obtain ⟨hbq, hv⟩ := db_condn_e h
    cases hv
    rw [Nat.eq_of_beq_eq_true hbq]
    show W p l e R s m args below meth c H locs cells slots Q (F0 m pc ls (xv 1 :: rest))
    have hl := (db_words hok.2.2 hts hlink).2 _ (by simp only [db_lws]; exact List.mem_cons_self)
    rw [g1]
    exact vk_getf hx hb g4 hFr.S hown hl (fun _ h => h) hd k
  · cases h
theorem db_putf_ok (hok : db_ok mr) (hF : db_F o xv D ck X s s.heap) (hX : db_Fx p s args m meth c mr) (hW : db_W o xv D ck μ H) (hFr : db_Fr o s H locs) {ix a : Nat} {v : Value} {μ' : db_H} (h : db_putf mr ix μ a v = some μ') (hd : decode mr.2.1 pc = .ok (.putfield ix, 3))
    (k : ∀ (H' : Heap) (locs' : List Loc), μ'.1 = μ.1 → μ'.2.1 = μ.2.1 → db_W o xv D ck μ' H' → db_Fr o s H' locs' → W p l e R s m args below meth c H' locs' cells slots Q (F0 m (pc + 3) ls rest)) : W p l e R s m args below meth c H locs cells slots Q (F0 m pc ls (db_cv xv o v :: db_cv xv o (.ref a) :: rest)) := by
  obtain ⟨hx, hb, hml, hown, hrt, hlk, hnm, hts⟩ := hX
  obtain ⟨hK, hN, hAO, hAA, hcat, hsc, hst, hZ1, hZ2⟩ := hF
  unfold db_putf at h
  split at h
  · rename_i ci k0 v0 nm hlink
    split at h
    · rename_i ci' fs C' T N hobj hc
      obtain ⟨hbq, hv⟩ := db_condn_e h
      cases hv
      simp only [Bool.and_eq_true, Bool.or_eq_true, Bool.not_eq_true', Nat.blt_eq, decide_eq_true_eq] at hbq
      obtain ⟨⟨⟨q1, hk0⟩, hfit⟩, hfin⟩ := hbq
      have zci := Nat.eq_of_beq_eq_true q1
      subst zci
      obtain ⟨hk, hT, hl⟩ := db_clk hc (db_words hok.2.2 hts hlink)
      obtain ⟨ly1, ly2, ly3, ly4, ly5⟩ := db_lay _ _ _ _ hc
      have ha4 := (db_obj_e hobj).1
      rw [db_cv_own ha4]
      have hap := va_apart (own := db_cn mr.2.2.2.2.1) hts ly1 _ ly2 ly3 hK hc
      obtain ⟨r, h1, cell, q1, q2, q3, q4⟩ := hW.obj hobj
      have hr : r = (C', T, N) := Option.some.inj (h1.symm.trans hc)
      subst hr
      obtain ⟨hS, hfc, kC, hkC, hkind⟩ := hK.1 _ _ hc
      obtain ⟨cf, kf, fi, f, hi, hsl⟩ := hS k0 hk
      have hi2 : s.fieldFound? C' (T k0).2.1 (T k0).2.2.1 = some (cf, kf, fi, f) := by rw [hT] at hi; exact hi
      have hst := (u_facts hfc hkC (u_lays hts ly1 hk) hi).1
      obtain ⟨n1, n2⟩ := db_fit_e (xv := xv) (o := o) hfit
      have fin : ∀ H' : Heap, H'[o + (a - 4)]? = some (cell.setSlot f.slot (db_cv xv o v)) → H'.size = H.size → (∀ q, q ≠ o + (a - 4) → H'[q]? = H[q]?) → W p l e R s m args below meth c H' (locs ++ [⟨o + (a - 4), f.slot⟩]) cells slots Q (F0 m (pc + 3) ls rest) := by
        intro H' e1 e2 e3
        refine k H' _ rfl rfl (hW.set ha4 e2 e3 ?_) (hFr.set e2 e3)
        rw [hsl] at e1
        refine ⟨_, hc, t_OB.to (V := updV (vp_V (fs.map (db_cv xv o))) k0 (db_cv xv o v)) ⟨_, e1, q2, q3, t_set q4 hap hk _⟩ (fun j _ => ?_)⟩
        rw [vp_updV_set (by rw [List.length_map]; exact hk0), List.map_set]
      cases hT2 : (T k0).2.2.2 with
      | false =>
        have hlay := hts _ (ly1 _ (u_in_lay hk))
        unfold u_lay at hlay
        rw [if_neg (by rw [hT2]; decide)] at hlay
        have h6 := u_store hfc hkC hkind hlay hi (ly2 _ hk) n1 n2
        exact W.putK hx hb (f := f) ⟨hown, hl, ⟨_, _, _, hi2⟩, hst⟩ (by rw [q2]; exact h6) q1 q3 (by rw [hsl]; exact k2_hasslot (q4 k0 hk)) rfl rfl hd fin
      | true =>
        have hini : Nat.beq ci' mr.2.2.2.2.1 = true ∧ mr.1.name = "<init>" := by
          rcases hfin with q | q
          · rw [hT2] at q; cases q
          · exact q
        have hown' : db_cn mr.2.2.2.2.1 = C' := by rw [← Nat.eq_of_beq_eq_true hini.1]; exact db_cncl _ _ _ _ hc
        have hlay := hts _ (ly1 _ (u_in_lay hk))
        unfold u_lay at hlay
        rw [if_pos hT2] at hlay
        have hcf : m.cls = cf := by
          obtain ⟨_, _, c', _, _, _, -, -, hf', -, -, -, hown2, -⟩ := Cond.laysFinal_spec hlay
          have e1 : c' = cf := by have := hi.symm.trans hf'; simp at this; exact this.1.symm
          rw [hT, ← hown'] at hown2
          rw [← e1]; exact Option.some.inj (hown.symm.trans hown2)
        have h6 := u_fits hfc hkC hkind (u_lays hts ly1 hk) hi (ly2 _ hk) n1 n2
        exact W.putFinK hx hb hown hl hi2 hst hcf (hnm hini.2) (by rw [q2]; exact h6) q1 q3 (by rw [hsl]; exact k2_hasslot (q4 k0 hk)) rfl rfl hd fin
    · cases h
  · cases h
theorem db_at_nm (D : va_G) {a : Nat} {C : String} {T : u_T} {N ci : Nat} {fs : List Value} {f : Nat → Value} (hc : db_cl[ci]? = some (C, T, N)) (h : t_OB a (D.1 ci) N (D.2 ci) H f) (hf : ∀ k, k < N → f k = vp_V fs k) : va_at D db_cl (a, .inr (ci, fs)) H := ⟨_, hc, h.to hf⟩
theorem db_new_ok (hok : db_ok mr) (hF : db_F o xv D ck X s s.heap) (hX : db_Fx p s args m meth c mr) (hW : db_W o xv D ck μ H) (hFr : db_Fr o s H locs) {ix q : Nat} {μ' : db_H} (h : db_new mr ix μ = some (q, μ')) (hd : decode mr.2.1 pc = .ok (.new ix, 3)) (hcl : cells + μ'.1 ≤ R.cells + μ.1) (hsl : slots + μ'.2.1 ≤ R.slots + μ.2.1)
    (k : ∀ (H' : Heap) (cells' slots' : Nat), cells' + μ.1 = cells + μ'.1 → slots' + μ.2.1 = slots + μ'.2.1 → db_W o xv D ck μ' H' → db_Fr o s H' locs → W p l e R s m args below meth c H' locs cells' slots' Q (F0 m (pc + 3) ls (db_cv xv o (.ref q) :: rest))) : W p l e R s m args below meth c H locs cells slots Q (F0 m pc ls rest) := by
  obtain ⟨hx, hb, hml, hown, hrt, hlk, hnm, hts⟩ := hX
  obtain ⟨hK, -⟩ := hF
  unfold db_new at h
  split at h
  · rename_i ci N v0 nm hlink
    cases h
    obtain ⟨h1, h2⟩ := db_words hok.2.2 hts hlink
    simp only [db_lsd] at h1
    cases hc : db_cl[ci]? with
    | none => rw [hc] at h1; cases h1
    | some w =>
      obtain ⟨C, T, zN⟩ := w
      rw [hc] at h1
      simp only [Bool.and_eq_true, decide_eq_true_eq] at h1
      have zNN := Nat.eq_of_beq_eq_true h1.1
      subst zNN
      have hC := db_cncl _ _ _ _ hc
      simp only [db_lws, hC] at h2
      obtain ⟨ly1, ly2, ly3, ly4, ly5⟩ := db_lay _ _ _ _ hc
      have hKn := hK.1 ci _ hc
      have z0 := hW.1
      have z4 := hW.2.1
      have hcl' : cells + (μ.1 + 1) ≤ R.cells + μ.1 := hcl
      have hsl' : slots + (μ.2.1 + zN) ≤ R.slots + μ.2.1 := hsl
      refine W.newcK hx hb hown (h2 _ List.mem_cons_self) (h2 _ (List.mem_cons_of_mem _ List.mem_cons_self)) (h2 _ (List.mem_cons_of_mem _ (List.mem_cons_of_mem _ List.mem_cons_self))) rfl hd (by omega) (by omega) hKn.2.1 rfl fun H1 kC hkC e1 z1 o1 => ?_
      have hborn := u_born _ hts ly1 hKn hkC e1 ly2
      have e : db_cv xv o (.ref μ.1) = .ref H.size := by rw [db_cv_own z4]; exact congrArg Value.ref (show (o + (μ.1 - 4) : Nat) = H.size by omega)
      rw [← e]
      refine k H1 _ _ (by show _ = cells + (μ.1 + 1); omega) (by show _ = slots + (μ.2.1 + zN); omega) (hW.push z1 o1 ?_) (hFr.push (by rw [z1]; exact Nat.le_succ _) o1)
      refine db_at_nm D hc hborn (fun j hj => ?_)
      unfold vp_V
      simp only [List.getD_eq_getElem?_getD, List.getElem?_map, List.getElem?_range hj, Option.map_some, Option.getD_some]
      cases db_ty ci j <;> rfl
  · cases h
/-- a new array of numbers -/
theorem db_arr_ok (hF : db_F o xv D ck X s s.heap) (hX : db_Fx p s args m meth c mr) (hW : db_W o xv D ck μ H) (hFr : db_Fr o s H locs) {at_ : ArrayType} {n : Int32} {kd : Nat} {z : (Nat → Int32) ⊕ (Nat → Int64) ⊕ (Nat → UInt32) ⊕ (Nat → UInt64) ⊕ (Nat → Option Nat)} (hn : ¬ n < 0) (hbytes : n.toNatClampNeg * componentBytes (newarray.typeOf at_) ≤ 536870912)
    (hz : ∀ cA : ClassId, vp_cell cA (n.toNatClampNeg, db_cc o z) = arrV cA n.toNatClampNeg (fun _ => defaultValue (newarray.typeOf at_))) (harr : Cond.arrayClass (newarray.typeOf at_) ∈ db_T) (hk : (s.vm.findClass ("[" ++ (newarray.typeOf at_).toString) = some (ck kd))) (hd : decode mr.2.1 pc = .ok (.newarray at_, 2)) (hcl : cells + 1 ≤ R.cells) (hsl : slots + n.toNatClampNeg ≤ R.slots)
    (k : ∀ (H' : Heap), db_W o xv D ck (μ.1 + 1, μ.2.1 + n.toNatClampNeg, db_up μ.2.2 μ.1 (.inl (kd, n.toNatClampNeg, z))) H' → db_Fr o s H' locs → W p l e R s m args below meth c H' locs (cells + 1) (slots + n.toNatClampNeg) Q (F0 m (pc + 2) ls (db_cv xv o (.ref μ.1) :: rest))) : W p l e R s m args below meth c H locs cells slots Q (F0 m pc ls (.int n :: rest)) := by
  obtain ⟨hx, hb, hml, hown, hrt, hlk, hnm, hts⟩ := hX
  have z0 := hW.1
  have z4 := hW.2.1
  refine va_newaK hx hb (hts _ harr) rfl hd rfl hn rfl hbytes hcl hsl rfl fun H1 cA e1 z1 o1 _ hf => ?_
  have e : db_cv xv o (.ref μ.1) = .ref H.size := by rw [db_cv_own z4]; exact congrArg Value.ref (show (o + (μ.1 - 4) : Nat) = H.size by omega)
  have hcA : cA = ck kd := Option.some.inj (hf.symm.trans hk)
  rw [← e]
  refine k H1 (hW.push z1 o1 ?_) (hFr.push (by rw [z1]; exact Nat.le_succ _) o1)
  show H1[H.size]? = some (vp_cell (ck kd) (n.toNatClampNeg, db_cc o z))
  rw [hz, ← hcA]
  exact e1
theorem db_newa_ok (hF : db_F o xv D ck X s s.heap) (hX : db_Fx p s args m meth c mr) (hW : db_W o xv D ck μ H) (hFr : db_Fr o s H locs) {at_ : ArrayType} {n : Int32} {q : Nat} {μ' : db_H} (h : db_newa at_ n μ = some (q, μ')) (hd : decode mr.2.1 pc = .ok (.newarray at_, 2)) (hcl : cells + μ'.1 ≤ R.cells + μ.1) (hsl : slots + μ'.2.1 ≤ R.slots + μ.2.1)
    (k : ∀ (H' : Heap) (cells' slots' : Nat), cells' + μ.1 = cells + μ'.1 → slots' + μ.2.1 = slots + μ'.2.1 → db_W o xv D ck μ' H' → db_Fr o s H' locs → W p l e R s m args below meth c H' locs cells' slots' Q (F0 m (pc + 2) ls (db_cv xv o (.ref q) :: rest))) : W p l e R s m args below meth c H locs cells slots Q (F0 m pc ls (.int n :: rest)) := by
  unfold db_newa at h
  obtain ⟨hb1, h⟩ := db_condn_e h
  simp only [Bool.and_eq_true, Bool.not_eq_true', decide_eq_false_iff_not] at hb1
  obtain ⟨hn, hle⟩ := hb1
  have hle := Nat.le_of_ble_eq_true hle
  have hK := hF.1
  cases at_ <;> first | (cases h; done) | skip
  · cases h
    have hcl' : cells + (μ.1 + 1) ≤ R.cells + μ.1 := hcl
    have hsl' : slots + (μ.2.1 + n.toNatClampNeg) ≤ R.slots + μ.2.1 := hsl
    exact db_arr_ok (kd := 0) (at_ := .byte) (z := .inl (fun _ => 0)) hF hX hW hFr hn (by show _ * 1 ≤ _; omega) (fun _ => rfl) (db_wA _ (by simp [newarray.typeOf])) (hK.2 0 _ rfl).2 hd (by omega) (by omega) fun H' => k H' _ _ (by show _ = cells + (μ.1 + 1); omega) (by show _ = slots + (μ.2.1 + n.toNatClampNeg); omega)
  · cases h
    have hcl' : cells + (μ.1 + 1) ≤ R.cells + μ.1 := hcl
    have hsl' : slots + (μ.2.1 + n.toNatClampNeg) ≤ R.slots + μ.2.1 := hsl
    exact db_arr_ok (kd := 1) (at_ := .int) (z := .inl (fun _ => 0)) hF hX hW hFr hn (by show _ * 4 ≤ _; omega) (fun _ => rfl) (db_wA _ (by simp [newarray.typeOf])) (hK.2 1 _ rfl).2 hd (by omega) (by omega) fun H' => k H' _ _ (by show _ = cells + (μ.1 + 1); omega) (by show _ = slots + (μ.2.1 + n.toNatClampNeg); omega)
  · cases h
    have hcl' : cells + (μ.1 + 1) ≤ R.cells + μ.1 := hcl
    have hsl' : slots + (μ.2.1 + n.toNatClampNeg) ≤ R.slots + μ.2.1 := hsl
    exact db_arr_ok (kd := 2) (at_ := .long) (z := .inr (.inl (fun _ => 0))) hF hX hW hFr hn (by show _ * 8 ≤ _; omega) (fun _ => rfl) (db_wA _ (by simp [newarray.typeOf])) (hK.2 2 _ rfl).2 hd (by omega) (by omega) fun H' => k H' _ _ (by show _ = cells + (μ.1 + 1); omega) (by show _ = slots + (μ.2.1 + n.toNatClampNeg); omega)
theorem db_anew_ok (hok : db_ok mr) (hF : db_F o xv D ck X s s.heap) (hX : db_Fx p s args m meth c mr) (hW : db_W o xv D ck μ H) (hFr : db_Fr o s H locs) {ix : Nat} {n : Int32} {q : Nat} {μ' : db_H} (h : db_anew mr ix n μ = some (q, μ')) (hd : decode mr.2.1 pc = .ok (.anewarray ix, 3)) (hcl : cells + μ'.1 ≤ R.cells + μ.1) (hsl : slots + μ'.2.1 ≤ R.slots + μ.2.1)
    (k : ∀ (H' : Heap) (cells' slots' : Nat), cells' + μ.1 = cells + μ'.1 → slots' + μ.2.1 = slots + μ'.2.1 → db_W o xv D ck μ' H' → db_Fr o s H' locs → W p l e R s m args below meth c H' locs cells' slots' Q (F0 m (pc + 3) ls (db_cv xv o (.ref q) :: rest))) : W p l e R s m args below meth c H locs cells slots Q (F0 m pc ls (.int n :: rest)) := by
  obtain ⟨hx, hb, hml, hown, hrt, hlk, hnm, hts⟩ := hX
  obtain ⟨hK, hN, ⟨hA1, hA2, hA3⟩, -⟩ := hF
  have z0 := hW.1
  have z4 := hW.2.1
  unfold db_anew at h
  split at h
  · rename_i ci b0 v0 nm hlink
    obtain ⟨hb1, h⟩ := db_condn_e h
    cases h
    simp only [Bool.and_eq_true, Bool.or_eq_true, Bool.not_eq_true', decide_eq_false_iff_not] at hb1
    obtain ⟨⟨hn, hle⟩, hci⟩ := hb1
    have hle := Nat.le_of_ble_eq_true hle
    have hcl' : cells + (μ.1 + 1) ≤ R.cells + μ.1 := hcl
    have hsl' : slots + (μ.2.1 + n.toNatClampNeg) ≤ R.slots + μ.2.1 := hsl
    have hw := (db_words hok.2.2 hts hlink).2 (.classLink (db_cn mr.2.2.2.2.1) ix (db_cn ci)) (by simp only [db_lws]; exact List.mem_cons_self)
    have key : ∀ (C : String) (kd : Nat), db_cn ci = C → va_AO C s → s.vm.findClass ("[" ++ (FieldType.object C).toString) = some (ck kd) → cond (Nat.beq ci 9) 5 (cond (Nat.beq ci 2) 6 7) = kd → W p l e R s m args below meth c H locs cells slots Q (F0 m pc ls (.int n :: rest)) := by
      intro C kd hC hA hck hkd
      rw [hC] at hw
      refine W.anew hx hb hown hw (va_AO.use hA) rfl hd rfl hn (by omega) (by omega) (by omega) fun cA kA comp f1 f2 f3 f4 => ?_
      generalize hH1 : H.push ({ cls := cA, slots := Array.replicate n.toNatClampNeg .null, vm := .none } : Cell) = H1
      have z1 : H1.size = H.size + 1 := by rw [← hH1, Array.size_push]
      have e1 : H1[H.size]? = some (arrV cA n.toNatClampNeg (fun _ => .null)) := by rw [← hH1, Array.getElem?_push_size, ← arrV_new]
      have o1 : ∀ q : Nat, q < H.size → H1[q]? = H[q]? := fun q hq => by rw [← hH1, Array.getElem?_push, if_neg (Nat.ne_of_lt hq)]
      have e : db_cv xv o (.ref μ.1) = .ref H.size := by rw [db_cv_own z4]; exact congrArg Value.ref (show (o + (μ.1 - 4) : Nat) = H.size by omega)
      have hcA : cA = ck kd := Option.some.inj (f1.symm.trans hck)
      rw [← e]
      refine k H1 _ _ (by show _ = cells + (μ.1 + 1); omega) (by show _ = slots + (μ.2.1 + n.toNatClampNeg); omega) (hW.push z1 o1 ?_) (hFr.push (by rw [z1]; exact Nat.le_succ _) o1)
      show H1[H.size]? = some (vp_cell (ck (cond (Nat.beq ci 9) 5 (cond (Nat.beq ci 2) 6 7))) (n.toNatClampNeg, db_cc o (.inr (.inr (.inr (.inr (fun _ => none)))))))
      rw [hkd, ← hcA]
      exact e1
    rcases hci with (hci | hci) | hci
    · cases Nat.eq_of_beq_eq_true hci
      obtain ⟨_, _, _, _, _, h4⟩ := (hK.2 5 _ rfl).2
      exact key _ 5 rfl hA1 h4 rfl
    · cases Nat.eq_of_beq_eq_true hci
      obtain ⟨_, _, _, _, _, h4⟩ := (hK.2 6 _ rfl).2
      exact key _ 6 rfl hA2 h4 rfl
    · cases Nat.eq_of_beq_eq_true hci
      obtain ⟨_, _, _, _, _, h4⟩ := (hK.2 7 _ rfl).2
      exact key _ 7 rfl hA3 h4 rfl
  · cases h
end DBT
