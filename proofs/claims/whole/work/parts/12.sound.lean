section DBZ
variable {p : Program} {l : Launch} {e : Env} {R : Room} {s : State} {m : MethodId} {args : Array Value} {below : List Frame} {meth : Method} {c : Code} {H : Heap} {locs : List Loc} {cells slots : Nat} {Q : State → Prop}
variable {o : Nat} {xv : Nat → Value} {D : va_G} {ck : Nat → ClassId} {X : db_X} {mr : db_MR} {μ : db_H} {ls : Array Slot} {pc : Nat} {rest : List Value}
theorem db_toL (r : Option Value) (rest : List Value) : (r.map (db_cv xv o)).toList ++ rest.map (db_cv xv o) = (r.toList ++ rest).map (db_cv xv o) := by
  cases r <;> rfl
theorem db_revm (as : List Value) : (as.reverse.map (db_cv xv o)) = (as.map (db_cv xv o)).reverse := List.map_reverse
/-- a call, whatever its kind -/
theorem db_cal_ok {n d : Nat} (ih : db_So X n) (hms : ∀ mr ∈ db_ms, db_okA mr) {i : Instr} {st : List Value} {mr' : db_MR} {as rs : List Value} {r : Option Value} {μ' : db_H} (hok : db_ok mr) (hF : db_F o xv D ck X s s.heap) (hX : db_Fx p s args m meth c mr) (hW : db_W o xv D ck μ H) (hFr : db_Fr o s H locs) (hls : mr.2.2.1 = ls.size) (hd : decode mr.2.1 pc = .ok (i, db_len pc i)) (hR : d + 1 + 1 ≤ R.frames ∧ 200 * (d + 1 + 1) ≤ R.locals) (hcl : cells + μ'.1 ≤ R.cells + μ.1) (hsl : slots + μ'.2.1 ≤ R.slots + μ.2.1) (hx3 : ∀ i, i < 4 → xv i = .null ∨ ∃ a, xv i = .ref a)
    (h : db_cal mr i st μ = some (mr', as, rs)) (hev : db_ev X n d mr' 0 (lv_args 0 as) [] μ = some (r, μ'))
    (k : ∀ (H' : Heap) (locs' : List Loc) (cells' slots' : Nat), cells' + μ.1 = cells + μ'.1 → slots' + μ.2.1 = slots + μ'.2.1 → db_W o xv D ck μ' H' → db_Fr o s H' locs' → W p l e R s m args below meth c H' locs' cells' slots' Q (F0 m (pc + 3) ls ((r.toList ++ rs).map (db_cv xv o)))) :
    W p l e R s m args below meth c H locs cells slots Q (F0 m pc ls (st.map (db_cv xv o))) := by
  obtain ⟨hx, hb, hml, hown, hrt, hlk, hnm, hts⟩ := id hX
  have hcat := hF.2.2.2.2.1
  obtain ⟨mo1, mo2⟩ := db_ev_mono _ _ _ _ _ _ _ _ _ hev
  -- the callee, once it is known
  have hml2 : ∀ hm : mr' ∈ db_ms, mr'.2.2.1 ≤ 100 := fun hm => by
    have := (hms _ hm).1.2.1
    simp only [db_mck, Bool.and_eq_true] at this
    exact Nat.le_of_ble_eq_true this.1.1.2
  have hcls : ∀ hm : mr' ∈ db_ms, mr'.1.cls = db_cn mr'.2.2.2.2.1 ∧ mr'.1.cls ≠ "java/lang/invoke/MethodHandle" ∧ mr'.1.cls ≠ "java/lang/invoke/VarHandle" := fun hm => by
    have := (hms _ hm).1.2.1
    simp only [db_mck, Bool.and_eq_true, decide_eq_true_eq] at this
    exact ⟨this.1.1.1.2, this.1.2, this.2⟩
  have hPc : ∀ hlen : (as.map fun v => v.category).sum ≤ mr'.2.2.1, ∀ U : State, U.heap = H → s.WarmedH U.vm → db_Pc o xv D ck X as μ (as.map (db_cv xv o)).toArray U := fun _ U hU hWm => ⟨rfl, by rw [hU]; exact hW, hF.next hFr hU hWm, by rw [hU]; exact Nat.le_trans hFr.1 hFr.2.1⟩
  have fix : CallFix p m c mr.2.1 mr.2.2.1 s args db_T (db_cn mr.2.2.2.2.1) := ⟨hx, hb, hml, hown, hts⟩
  have go : ∀ {st0 : List Value} {aa : Array Value}, va_Run p l e R s m args below meth c H locs cells slots (μ'.1 - μ.1) (μ'.2.1 - μ.2.1) (F0 m pc ls st0) (rs.map (db_cv xv o)) (db_Qc o xv D ck r μ' aa) (fun q => o ≤ q) → W p l e R s m args below meth c H locs cells slots Q (F0 m pc ls st0) := fun hr => db_call (cp := 0) (st0 := _) (as := []) hr hFr fun H1 locs1 hW1 hFr1 => by
    rw [db_toL]
    exact k H1 locs1 _ _ (by omega) (by omega) hW1 hFr1
  have rmR : ∀ hm : mr' ∈ db_ms, (db_rm d (μ'.1 - μ.1) (μ'.2.1 - μ.2.1)).frames + 1 ≤ R.frames ∧ 8 + (mr'.2.2.1 + 11) + (db_rm d (μ'.1 - μ.1) (μ'.2.1 - μ.2.1)).locals ≤ R.locals := fun hm => by
    have := hml2 hm
    exact ⟨hR.1, by show 8 + (mr'.2.2.1 + 11) + 200 * (d + 1) ≤ R.locals; omega⟩
  have rmC : cells + (μ'.1 - μ.1) ≤ R.cells ∧ slots + (μ'.2.1 - μ.2.1) ≤ R.slots := ⟨by omega, by omega⟩
  cases i <;> dsimp only [db_cal] at h <;> first | (cases h; done) | skip
  case invokevirtual ix =>
    split at h
    · rename_i k0 n0 v0 nm hlink
      split at h
      · rename_i mr2 a rs2 hk0 hdrop
        obtain ⟨hbq, h⟩ := db_condn_e h
        cases h
        simp only [Bool.and_eq_true, decide_eq_true_eq] at hbq
        obtain ⟨⟨⟨hn0, hsum⟩, hrc⟩, hlen⟩ := hbq
        have hn0 := Nat.eq_of_beq_eq_true hn0
        have hm : mr' ∈ db_ms := List.mem_of_getElem? hk0
        obtain ⟨w1, w2⟩ := hok.2.2 _ (db_lk_mem hlink)
        simp only [db_lsd, db_lws, hk0, decide_eq_true_eq] at w1 w2
        obtain ⟨hc1, hc2, hc3⟩ := hcls hm
        have hM := db_met ih hev (hms _ hm) hlen l hx3 (o := o) (xv := xv) (D := D) (ck := ck)
        have hst : st.map (db_cv xv o) = ((st.take n0).reverse.map (db_cv xv o)).reverse ++ db_cv xv o (.ref a) :: rs.map (db_cv xv o) := by
          conv => lhs; rw [← List.take_append_drop n0 st, hdrop]
          simp
        have hrecv : ∃ b, db_cv xv o (.ref a) = .ref b ∧ ∃ cellB : Cell, H[b]? = some cellB ∧ cellB.vm.isStatics = false ∧ s.vm.findClass mr'.1.cls = some cellB.cls := by
          cases ho : db_obj μ a with
          | some q =>
            obtain ⟨ci, fs⟩ := q
            rw [ho] at hrc
            have hci : ci = mr'.2.2.2.2.1 := Nat.eq_of_beq_eq_true hrc
            obtain ⟨rr, h1, cell, q1, q2, q3, q4⟩ := hW.obj ho
            obtain ⟨C, T, N⟩ := rr
            refine ⟨_, db_cv_own (db_obj_e ho).1, cell, q1, by rw [q3]; rfl, ?_⟩
            have hC := db_cncl _ _ _ _ h1
            rw [hc1, ← hci, hC, q2]
            exact (hF.1.1 ci _ h1).2.1
          | none =>
            rw [ho] at hrc
            simp only [Bool.and_eq_true] at hrc
            have h1 := Nat.eq_of_beq_eq_true hrc.1
            have h2 := Nat.eq_of_beq_eq_true hrc.2
            subst h1
            obtain ⟨a1, a2, g1, g2, g3, g4, g5, g6, g7⟩ := hF.2.2.2.2.2.2.1
            obtain ⟨cell, c1, c2, c3, -⟩ := g3.kept hFr.S.2.1
            exact ⟨a1, g1, cell, c1, c2, by rw [hc1, h2]; exact c3⟩
        obtain ⟨b, hb1, hrecv⟩ := hrecv
        rw [hst, hb1]
        refine go (va_runV (C := mr'.1.cls) (As := (st.take n0).reverse.map (db_cv xv o)) (rest := rs.map (db_cv xv o)) (n := n0) fix hM (cwV n0 hts (fun w hw => ?_) rfl rfl rfl ⟨rfl, hc2, hc3, w1⟩ (rmR hm)) ⟨db_blind, hrecv, fun U hU hWm => ?_⟩ rfl (by rw [List.length_map, List.length_reverse]; exact hn0) hls.symm rfl (lv_room (by rw [db_cats hcat]; exact hsum)) hd rmC)
        · rcases List.mem_append.mp (by unfold wsV at hw; exact hw) with hw | hw
          · refine ⟨w2 w hw, ?_⟩
            simp only [List.mem_cons, List.not_mem_nil, or_false] at hw
            rcases hw with rfl | rfl | rfl | rfl <;> exact good_of_word rfl
          · exact db_good_ws (hms _ hm) w hw
        · have := hPc hlen U hU hWm
          rw [List.map_cons, hb1] at this
          exact this
      · cases h
    · cases h
  case invokestatic ix =>
    split at h
    · rename_i kd k0 n0 v0 nm hlink
      obtain ⟨hkd, h⟩ := db_condn_e h
      split at h
      · rename_i mr2 hk0
        obtain ⟨hbq, h⟩ := db_condn_e h
        cases h
        simp only [Bool.and_eq_true, decide_eq_true_eq] at hbq
        obtain ⟨⟨hn0, hsum⟩, hlen⟩ := hbq
        have hn0 := Nat.eq_of_beq_eq_true hn0
        have hm : mr' ∈ db_ms := List.mem_of_getElem? hk0
        obtain ⟨hc1, hc2, hc3⟩ := hcls hm
        have hM := db_met ih hev (hms _ hm) hlen l hx3 (o := o) (xv := xv) (D := D) (ck := ck)
        have hst : st.map (db_cv xv o) = ((st.take n0).reverse.map (db_cv xv o)).reverse ++ (st.drop n0).map (db_cv xv o) := by
          conv => lhs; rw [← List.take_append_drop n0 st]
          simp
        rw [hst]
        simp only [Bool.or_eq_true] at hkd
        rcases hkd with hkd | hkd
        · cases Nat.eq_of_beq_eq_true hkd
          obtain ⟨w1, w2⟩ := hok.2.2 _ (db_lk_mem hlink)
          simp only [db_lsd, db_lws, hk0, decide_eq_true_eq] at w1 w2
          have w3 := fun w hw => hts w (w2 w hw)
          exact go (va_runS (As := (st.take n0).reverse.map (db_cv xv o)) (rest := (st.drop n0).map (db_cv xv o)) (n := n0) fix hM ⟨callB_of n0 hts (db_good_ws (hms _ hm)) rfl rfl rfl (w3 _ (by simp)) (w3 _ (by simp)) ⟨hc2, hc3, w1⟩ (rmR hm), w3 _ (by simp)⟩ ⟨db_blind, fun U hU hWm => hPc hlen U hU hWm⟩ rfl (by rw [List.length_map, List.length_reverse]; exact hn0) hls.symm rfl (lv_room (by rw [db_cats hcat]; exact hsum)) hd rmC)
        · cases Nat.eq_of_beq_eq_true hkd
          obtain ⟨w1, w2⟩ := hok.2.2 _ (db_lk_mem hlink)
          simp only [db_lsd, db_lws, hk0, decide_eq_true_eq] at w1 w2
          have w3 := fun w hw => hts w (w2 w hw)
          have hN := hF.2.1 _ (w2 _ List.mem_cons_self) rfl
          exact go (va_runSN (As := (st.take n0).reverse.map (db_cv xv o)) (rest := (st.drop n0).map (db_cv xv o)) (n := n0) fix hM ⟨va_cnB n0 hts (db_good_ws (hms _ hm)) rfl rfl rfl hN (w3 _ (by simp)) ⟨hc2, hc3, w1⟩ (rmR hm), w3 _ (by simp), trivial⟩ ⟨db_blind, fun U hU hWm => hPc hlen U hU hWm⟩ rfl (by rw [List.length_map, List.length_reverse]; exact hn0) hls.symm rfl (lv_room (by rw [db_cats hcat]; exact hsum)) hd rmC)
      · cases h
    · cases h
  case invokespecial ix =>
    split at h
    · rename_i kd k0 n0 v0 nm hlink
      obtain ⟨hkd, h⟩ := db_condn_e h
      split at h
      · rename_i mr2 a rs2 hk0 hdrop
        obtain ⟨hbq, h⟩ := db_condn_e h
        cases h
        simp only [Bool.and_eq_true, Bool.not_eq_true', decide_eq_true_eq] at hbq
        obtain ⟨⟨⟨hn0, hsum⟩, hlen⟩, ha3⟩ := hbq
        have hn0 := Nat.eq_of_beq_eq_true hn0
        have hm : mr' ∈ db_ms := List.mem_of_getElem? hk0
        obtain ⟨hc1, hc2, hc3⟩ := hcls hm
        have hM := db_met ih hev (hms _ hm) hlen l hx3 (o := o) (xv := xv) (D := D) (ck := ck)
        have hst : st.map (db_cv xv o) = ((st.take n0).reverse.map (db_cv xv o)).reverse ++ db_cv xv o (.ref a) :: rs.map (db_cv xv o) := by
          conv => lhs; rw [← List.take_append_drop n0 st, hdrop]
          simp
        obtain ⟨b, hb1⟩ := db_ref hF ha3
        rw [hst, hb1]
        have hPc' : ∀ U : State, U.heap = H → s.WarmedH U.vm → db_Pc o xv D ck X (.ref a :: (st.take n0).reverse) μ (Value.ref b :: (st.take n0).reverse.map (db_cv xv o)).toArray U := fun U hU hWm => by
          have := hPc hlen U hU hWm
          rw [List.map_cons, hb1] at this
          exact this
        simp only [Bool.or_eq_true] at hkd
        rcases hkd with hkd | hkd
        · cases Nat.eq_of_beq_eq_true hkd
          obtain ⟨w1, w2⟩ := hok.2.2 _ (db_lk_mem hlink)
          simp only [db_lsd, db_lws, hk0, Bool.and_eq_true, decide_eq_true_eq] at w1 w2
          have w3 := fun w hw => hts w (w2 w hw)
          have hM' := hM
          exact go (va_runI (As := (st.take n0).reverse.map (db_cv xv o)) (rest := rs.map (db_cv xv o)) (n := n0) (bytes := mr'.2.1) (maxL := mr'.2.2.1) fix hM ⟨callB_of n0 hts (db_good_ws (hms _ hm)) (by unfold db_ws; rw [w1.2]) rfl rfl (w3 _ (by simp)) (w3 _ (by simp)) ⟨hc2, hc3, w1.1.1⟩ (rmR hm), w1.1.2, w3 _ (by simp)⟩ ⟨db_blind, fun U hU hWm => hPc' U hU hWm⟩ rfl (by rw [List.length_map, List.length_reverse]; exact hn0) hls.symm rfl (lv_room (by rw [db_cats hcat]; exact hsum)) hd rmC)
        · cases Nat.eq_of_beq_eq_true hkd
          obtain ⟨w1, w2⟩ := hok.2.2 _ (db_lk_mem hlink)
          simp only [db_lsd, db_lws, hk0, Bool.and_eq_true, decide_eq_true_eq] at w1 w2
          have w3 := fun w hw => hts w (w2 w hw)
          have hN := hF.2.1 _ (w2 _ List.mem_cons_self) rfl
          exact go (va_runIN (As := (st.take n0).reverse.map (db_cv xv o)) (rest := rs.map (db_cv xv o)) (n := n0) (bytes := mr'.2.1) (maxL := mr'.2.2.1) fix hM ⟨va_cnB n0 hts (db_good_ws (hms _ hm)) (by unfold db_ws; rw [w1.2]) rfl rfl hN (w3 _ (by simp)) ⟨hc2, hc3, w1.1.1⟩ (rmR hm), w1.1.2, w3 _ (by simp)⟩ ⟨db_blind, fun U hU hWm => hPc' U hU hWm⟩ rfl (by rw [List.length_map, List.length_reverse]; exact hn0) hls.symm rfl (lv_room (by rw [db_cats hcat]; exact hsum)) hd rmC)
      · cases h
    · cases h
end DBZ
/-- A RUN OF THE ABSTRACT MACHINE IS A RUN OF THE MACHINE -/
theorem db_sound {X : db_X} (hms : ∀ mr ∈ db_ms, db_okA mr) : ∀ n, db_So X n := by
  intro n
  induction n with
  | zero =>
    intro d mr pc lv st μ r μ' h
    simp [db_ev] at h
  | succ n ih =>
    intro d mr pc lv0 st μ r μ' h hok p l e R s m args below meth c H locs cells slots Q o xv D ck ls hF hX hW hFr hl hR hcl hsl hx3 hend
    rw [db_ev] at h
    split at h
    · cases h
    · rename_i i ks hfi
      have hd : decode mr.2.1 pc = .ok (i, db_len pc i) := by
        have h1 := hok.1
        unfold db_dck at h1
        have h2 := List.all_eq_true.mp h1 _ (db_fi_mem hfi)
        simp only [decide_eq_true_eq] at h2
        exact h2
      split at h
      · cases h
      · rename_i lv hnrm
        have hl : lv_has ls mr.2.2.1 (lv.map (db_cq xv o)) := ⟨hl.1, hl.2.1, fun q hq => by
          obtain ⟨q0, hq0, rfl⟩ := List.mem_map.mp hq
          exact hl.2.2 _ (List.mem_map.mpr ⟨q0, db_nrm_e hnrm q0 hq0, rfl⟩)⟩
        split at h
        · rename_i r0 hret
          cases h
          exact hend pc i st H locs ls cells slots hd hret hW hFr rfl rfl
        · split at h
          · rename_i mr' as rs hcal
            split at h
            · cases h
            · rename_i d'
              split at h
              · cases h
              · rename_i r1 μ1 hev
                have b := db_ev_mono _ _ _ _ _ _ _ _ _ h
                refine db_cal_ok ih hms hok hF hX hW hFr hl.1.symm hd hR (by omega) (by omega) hx3 hcal hev fun H' locs' cells' slots' e1 e2 hW' hFr' => ?_
                exact ih (d' + 1) mr (pc + 3) lv _ μ1 r μ' h hok p l e R s m args below meth c H' locs' cells' slots' Q o xv D ck ls hF hX hW' hFr' hl hR (by omega) (by omega) hx3 fun pc' i st' H2 locs2 ls2 c2 s2 g1 g2 g3 g4 g5 g6 => hend pc' i st' H2 locs2 ls2 c2 s2 g1 g2 g3 g4 (by omega) (by omega)
          · split at h
            · cases h
            · rename_i pc1 lv1 st1 μ1 hstp
              obtain ⟨hbl, h⟩ := db_condn_e h
              simp only [Bool.and_eq_true] at hbl
              have b1 := Nat.le_of_ble_eq_true hbl.1
              have b2 := Nat.le_of_ble_eq_true hbl.2
              have b := db_ev_mono _ _ _ _ _ _ _ _ _ h
              refine db_stp_ok hok hF hX hW hFr hl hd ⟨by omega, by omega⟩ (by omega) (by omega) hstp fun H' locs' ls' cells' slots' e1 e2 hW' hFr' hl' => ?_
              exact ih d mr pc1 lv1 st1 μ1 r μ' h hok p l e R s m args below meth c H' locs' cells' slots' Q o xv D ck ls' hF hX hW' hFr' hl' hR (by omega) (by omega) hx3 fun pc' i st' H2 locs2 ls2 c2 s2 g1 g2 g3 g4 g5 g6 => hend pc' i st' H2 locs2 ls2 c2 s2 g1 g2 g3 g4 (by omega) (by omega)
