section DBY
variable {p : Program} {l : Launch} {e : Env} {R : Room} {s : State} {m : MethodId} {args : Array Value} {below : List Frame} {meth : Method} {c : Code} {H : Heap} {locs : List Loc} {cells slots : Nat} {Q : State → Prop}
variable {o : Nat} {xv : Nat → Value} {D : va_G} {ck : Nat → ClassId} {X : db_X} {mr : db_MR} {μ : db_H} {ls : Array Slot} {pc : Nat} {rest : List Value}
theorem db_ref (hF : db_F o xv D ck X s s.heap) {x : Nat} (h : Nat.beq x 3 = false) : ∃ y, db_cv xv o (.ref x) = .ref y := by
  obtain ⟨-, -, -, -, -, ⟨b, b1, -⟩, ⟨a1, a2, g1, g2, -⟩, -⟩ := hF
  match x, h with
  | 0, _ => exact ⟨_, b1⟩
  | 1, _ => exact ⟨_, g1⟩
  | 2, _ => exact ⟨_, g2⟩
  | 3, h => cases h
  | n + 4, _ => exact ⟨_, db_cv_own (by omega)⟩
theorem db_condf_e {β : Type} {b : Bool} {x : Option β} {z : β} (h : cond b none x = some z) : b = false ∧ x = some z := by
  cases b
  · exact ⟨rfl, h⟩
  · cases h
theorem db_lv {lv : db_V} {i : Nat} {v : Value} (hl : lv_has ls mr.2.2.1 (lv.map (db_cq xv o))) (h : db_get i lv = some v) : ls[i]? = some (.val (db_cv xv o v)) := hl.2.2 (i, db_cv xv o v) (List.mem_map.mpr ⟨_, db_get_mem h, rfl⟩)
/-- one instruction that neither calls nor ends -/
theorem db_stp_ok {i : Instr} {lv lv' : db_V} {st st' : List Value} {μ' : db_H} {pc' : Nat} (hok : db_ok mr) (hF : db_F o xv D ck X s s.heap) (hX : db_Fx p s args m meth c mr) (hW : db_W o xv D ck μ H) (hFr : db_Fr o s H locs) (hl : lv_has ls mr.2.2.1 (lv.map (db_cq xv o))) (hd : decode mr.2.1 pc = .ok (i, db_len pc i)) (hR : 1 ≤ R.frames ∧ 100 ≤ R.locals) (hcl : cells + μ'.1 ≤ R.cells + μ.1) (hsl : slots + μ'.2.1 ≤ R.slots + μ.2.1) (h : db_stp X mr pc i lv st μ = some (pc', lv', st', μ'))
    (k : ∀ (H' : Heap) (locs' : List Loc) (ls' : Array Slot) (cells' slots' : Nat), cells' + μ.1 = cells + μ'.1 → slots' + μ.2.1 = slots + μ'.2.1 → db_W o xv D ck μ' H' → db_Fr o s H' locs' → lv_has ls' mr.2.2.1 (lv'.map (db_cq xv o)) → W p l e R s m args below meth c H' locs' cells' slots' Q (F0 m pc' ls' (st'.map (db_cv xv o)))) :
    W p l e R s m args below meth c H locs cells slots Q (F0 m pc ls (st.map (db_cv xv o))) := by
  obtain ⟨hx, hb, hml, hown, hrt, hlk, hnm, hts⟩ := id hX
  obtain ⟨hK, hN, hAO, hAA, hcat, ⟨b0, b1, b2, b3⟩, ⟨a1, a2, g1, g2, g3, g4, g5, g6, g7⟩, hZ1, hZ2⟩ := id hF
  have hls : mr.2.2.1 = ls.size := hl.1.symm
  have hmls : c.maxLocals = ls.size := hml.trans hls
  cases i <;> dsimp only [db_stp] at h <;> first | (cases h; done) | skip
  case iconst n => cases h; exact lv_iconst hx hb hd rfl (k H locs ls cells slots rfl rfl hW hFr hl)
  case bipush n => cases h; exact lv_bipush hx hb hd rfl (k H locs ls cells slots rfl rfl hW hFr hl)
  case sipush n => cases h; exact lv_sipush hx hb hd rfl (k H locs ls cells slots rfl rfl hW hFr hl)
  case lconst n => cases h; exact lv_lconst hx hb hd rfl (k H locs ls cells slots rfl rfl hW hFr hl)
  case ldc ix =>
    split at h
    · rename_i hlink
      cases h
      exact lv_ldc hx hb hown ((db_words hok.2.2 hts hlink).2 _ (by simp only [db_lws]; exact List.mem_cons_self)) hd (k H locs ls cells slots rfl rfl hW hFr hl)
    · rename_i hlink
      cases h
      have h1 := (db_words hok.2.2 hts hlink).1
      simp only [db_lsd, Bool.and_eq_true] at h1
      cases Nat.eq_of_beq_eq_true h1.1
      have how := Nat.eq_of_beq_eq_true h1.2
      rw [how] at hown
      have hcv : (Value.ref 1 :: st).map (db_cv xv o) = .ref a1 :: st.map (db_cv xv o) := by
        show xv 1 :: _ = _
        rw [g1]
      refine va_ldcS hx hb hown g7 hd ?_
      rw [← hcv]
      exact k H locs ls cells slots rfl rfl hW hFr hl
    · cases h
  case ldc_w ix =>
    split at h
    · rename_i hlink
      cases h
      intro T hT Xs
      obtain ⟨t, a, b⟩ := k H locs ls cells slots rfl rfl hW hFr hl T hT Xs
      exact ⟨t, va_ldcwI Xs hx hown ((db_words hok.2.2 hts hlink).2 _ (by simp only [db_lws]; exact List.mem_cons_self)) rfl (by rw [hb]; exact hd) t a, b⟩
    · cases h
  case ldc2_w ix =>
    split at h
    · rename_i hlink
      cases h
      exact W.ldc2 hx hb hown ((db_words hok.2.2 hts hlink).2 _ (by simp only [db_lws]; exact List.mem_cons_self)) rfl hd (k H locs ls cells slots rfl rfl hW hFr hl)
    · cases h
  case iload_n q => obtain ⟨x, hv, h⟩ := db_gI_e h; cases h; exact lv_iload_n hx hb hd rfl (db_lv hl hv) (k H locs ls cells slots rfl rfl hW hFr hl)
  case iload q => obtain ⟨x, hv, h⟩ := db_gI_e h; cases h; exact lv_iload hx hb hd (db_lv hl hv) (k H locs ls cells slots rfl rfl hW hFr hl)
  case lload_n q => obtain ⟨x, hv, h⟩ := db_gL_e h; cases h; exact lv_lload_n hx hb hd rfl (db_lv hl hv) (k H locs ls cells slots rfl rfl hW hFr hl)
  case lload q => obtain ⟨x, hv, h⟩ := db_gL_e h; cases h; exact lv_lload hx hb hd (db_lv hl hv) (k H locs ls cells slots rfl rfl hW hFr hl)
  case aload_n q =>
    obtain ⟨x, hv, h⟩ := db_gR_e h
    obtain ⟨h3, h⟩ := db_condf_e h
    cases h
    obtain ⟨y, hy⟩ := db_ref hF h3
    have hlv := db_lv hl hv
    rw [hy] at hlv
    refine lv_aload_n hx hb hd rfl hlv ?_
    rw [← hy]
    exact k H locs ls cells slots rfl rfl hW hFr hl
  case aload q =>
    obtain ⟨x, hv, h⟩ := db_gR_e h
    obtain ⟨h3, h⟩ := db_condf_e h
    cases h
    obtain ⟨y, hy⟩ := db_ref hF h3
    have hlv := db_lv hl hv
    rw [hy] at hlv
    refine lv_aload hx hb hd hlv ?_
    rw [← hy]
    exact k H locs ls cells slots rfl rfl hW hFr hl
  case istore_n q =>
    obtain ⟨hq, h⟩ := db_condn_e h
    obtain ⟨x, r, rfl, h⟩ := db_sI_e h
    cases h
    exact lv_istore_n hx hb hd rfl hl (Nat.le_of_ble_eq_true hq) (db_p1_map (o := o) hcat (q : Nat) (.int x) lv) fun ls' hl' => k H locs ls' cells slots rfl rfl hW hFr hl'
  case istore q =>
    obtain ⟨hq, h⟩ := db_condn_e h
    obtain ⟨x, r, rfl, h⟩ := db_sI_e h
    cases h
    exact lv_istore hx hb hd hl (Nat.le_of_ble_eq_true hq) (db_p1_map (o := o) hcat q (.int x) lv) fun ls' hl' => k H locs ls' cells slots rfl rfl hW hFr hl'
  case lstore_n q =>
    obtain ⟨hq, h⟩ := db_condn_e h
    obtain ⟨x, r, rfl, h⟩ := db_sL_e h
    cases h
    exact lv_lstore_n hx hb hd rfl hl (Nat.le_of_ble_eq_true hq) (db_p2_map (o := o) hcat (q : Nat) (.long x) lv) fun ls' hl' => k H locs ls' cells slots rfl rfl hW hFr hl'
  case lstore q =>
    obtain ⟨hq, h⟩ := db_condn_e h
    obtain ⟨x, r, rfl, h⟩ := db_sL_e h
    cases h
    exact lv_lstore hx hb hd hl (Nat.le_of_ble_eq_true hq) (db_p2_map (o := o) hcat q (.long x) lv) fun ls' hl' => k H locs ls' cells slots rfl rfl hW hFr hl'
  case astore_n q =>
    obtain ⟨hq, h⟩ := db_condn_e h
    obtain ⟨x, r, rfl, h⟩ := db_sR_e h
    obtain ⟨h3, h⟩ := db_condf_e h
    cases h
    obtain ⟨y, hy⟩ := db_ref hF h3
    rw [List.map_cons, hy]
    refine lv_astore_n hx hb hd rfl hl (Nat.le_of_ble_eq_true hq) (by rw [← hy]; exact db_p1_map hcat _ _ _) fun ls' hl' => k H locs ls' cells slots rfl rfl hW hFr hl'
  case astore q =>
    obtain ⟨hq, h⟩ := db_condn_e h
    obtain ⟨x, r, rfl, h⟩ := db_sR_e h
    obtain ⟨h3, h⟩ := db_condf_e h
    cases h
    obtain ⟨y, hy⟩ := db_ref hF h3
    rw [List.map_cons, hy]
    refine lv_astore hx hb hd hl (Nat.le_of_ble_eq_true hq) (by rw [← hy]; exact db_p1_map hcat _ _ _) fun ls' hl' => k H locs ls' cells slots rfl rfl hW hFr hl'
  case iinc q n =>
    obtain ⟨hq, h⟩ := db_condn_e h
    obtain ⟨x, hv, h⟩ := db_gI_e h
    cases h
    obtain ⟨k2, hk2⟩ := List.getElem?_of_mem (List.mem_map.mpr ⟨_, db_get_mem hv, rfl⟩ : (q, db_cv xv o (.int x)) ∈ lv.map (db_cq xv o))
    exact lv_iinc hx hb hd hl hk2 rfl (Nat.le_of_ble_eq_true hq) (db_p1_map (o := o) hcat q (.int (x + Int32.ofInt n)) lv) fun ls' hl' => k H locs ls' cells slots rfl rfl hW hFr hl'
  case iadd => obtain ⟨x, y, r, rfl, h⟩ := db_sII_e h; cases h; exact lv_iadd hx hb hd (k H locs ls cells slots rfl rfl hW hFr hl)
  case isub => obtain ⟨x, y, r, rfl, h⟩ := db_sII_e h; cases h; exact lv_isub hx hb hd (k H locs ls cells slots rfl rfl hW hFr hl)
  case imul => obtain ⟨x, y, r, rfl, h⟩ := db_sII_e h; cases h; exact lv_imul hx hb hd (k H locs ls cells slots rfl rfl hW hFr hl)
  case iand => obtain ⟨x, y, r, rfl, h⟩ := db_sII_e h; cases h; exact lv_iand hx hb hd (k H locs ls cells slots rfl rfl hW hFr hl)
  case ior => obtain ⟨x, y, r, rfl, h⟩ := db_sII_e h; cases h; exact lv_ior hx hb hd (k H locs ls cells slots rfl rfl hW hFr hl)
  case ixor => obtain ⟨x, y, r, rfl, h⟩ := db_sII_e h; cases h; exact lv_ixor hx hb hd (k H locs ls cells slots rfl rfl hW hFr hl)
  case ishl => obtain ⟨x, y, r, rfl, h⟩ := db_sII_e h; cases h; exact lv_ishl hx hb hd (k H locs ls cells slots rfl rfl hW hFr hl)
  case ishr => obtain ⟨x, y, r, rfl, h⟩ := db_sII_e h; cases h; exact lv_ishr hx hb hd (k H locs ls cells slots rfl rfl hW hFr hl)
  case iushr => obtain ⟨x, y, r, rfl, h⟩ := db_sII_e h; cases h; exact lv_iushr hx hb hd rfl (k H locs ls cells slots rfl rfl hW hFr hl)
  case idiv => obtain ⟨x, y, r, rfl, h⟩ := db_sII_e h; obtain ⟨hy, h⟩ := db_condf_e h; cases h; exact lv_idiv hx hb hd (of_decide_eq_false hy) (k H locs ls cells slots rfl rfl hW hFr hl)
  case irem => obtain ⟨x, y, r, rfl, h⟩ := db_sII_e h; obtain ⟨hy, h⟩ := db_condf_e h; cases h; exact lv_irem hx hb hd (of_decide_eq_false hy) (k H locs ls cells slots rfl rfl hW hFr hl)
  case ineg => obtain ⟨x, r, rfl, h⟩ := db_sI_e h; cases h; exact lv_ineg hx hb hd (k H locs ls cells slots rfl rfl hW hFr hl)
  case ladd => obtain ⟨x, y, r, rfl, h⟩ := db_sLL_e h; cases h; exact lv_ladd hx hb hd (k H locs ls cells slots rfl rfl hW hFr hl)
  case lsub => obtain ⟨x, y, r, rfl, h⟩ := db_sLL_e h; cases h; exact lv_lsub hx hb hd (k H locs ls cells slots rfl rfl hW hFr hl)
  case lmul => obtain ⟨x, y, r, rfl, h⟩ := db_sLL_e h; cases h; exact lv_lmul hx hb hd (k H locs ls cells slots rfl rfl hW hFr hl)
  case land => obtain ⟨x, y, r, rfl, h⟩ := db_sLL_e h; cases h; exact lv_land hx hb hd (k H locs ls cells slots rfl rfl hW hFr hl)
  case lor => obtain ⟨x, y, r, rfl, h⟩ := db_sLL_e h; cases h; exact lv_lor hx hb hd (k H locs ls cells slots rfl rfl hW hFr hl)
  case ldiv => obtain ⟨x, y, r, rfl, h⟩ := db_sLL_e h; obtain ⟨hy, h⟩ := db_condf_e h; cases h; exact lv_ldiv hx hb hd (of_decide_eq_false hy) (k H locs ls cells slots rfl rfl hW hFr hl)
  case lrem => obtain ⟨x, y, r, rfl, h⟩ := db_sLL_e h; obtain ⟨hy, h⟩ := db_condf_e h; cases h; exact lv_lrem hx hb hd (of_decide_eq_false hy) (k H locs ls cells slots rfl rfl hW hFr hl)
  case lneg => obtain ⟨x, r, rfl, h⟩ := db_sL_e h; cases h; exact lv_lneg hx hb hd (k H locs ls cells slots rfl rfl hW hFr hl)
  case lshl => obtain ⟨x, y, r, rfl, h⟩ := db_sLI_e h; cases h; exact lv_lshl hx hb hd rfl (k H locs ls cells slots rfl rfl hW hFr hl)
  case lcmp => obtain ⟨x, y, r, rfl, h⟩ := db_sLL_e h; cases h; exact W.lcmp hx hb hd (k H locs ls cells slots rfl rfl hW hFr hl)
  case i2l => obtain ⟨x, r, rfl, h⟩ := db_sI_e h; cases h; exact lv_i2l hx hb hd rfl (k H locs ls cells slots rfl rfl hW hFr hl)
  case l2i => obtain ⟨x, r, rfl, h⟩ := db_sL_e h; cases h; exact lv_l2i hx hb hd rfl (k H locs ls cells slots rfl rfl hW hFr hl)
  case i2b => obtain ⟨x, r, rfl, h⟩ := db_sI_e h; cases h; exact lv_i2b hx hb hd rfl (k H locs ls cells slots rfl rfl hW hFr hl)
  case i2s => obtain ⟨x, r, rfl, h⟩ := db_sI_e h; cases h; exact lv_i2s hx hb hd rfl (k H locs ls cells slots rfl rfl hW hFr hl)
  case i2c => obtain ⟨x, r, rfl, h⟩ := db_sI_e h; cases h; exact lv_i2c hx hb hd rfl (k H locs ls cells slots rfl rfl hW hFr hl)
  case dup =>
    obtain ⟨v, r, rfl, h⟩ := db_sV_e h
    obtain ⟨hq, h⟩ := db_condn_e h
    cases h
    exact lv_dup hx hb hd ((db_cv_cat hcat v).trans (Nat.eq_of_beq_eq_true hq)) (k H locs ls cells slots rfl rfl hW hFr hl)
  case pop =>
    obtain ⟨v, r, rfl, h⟩ := db_sV_e h
    obtain ⟨hq, h⟩ := db_condn_e h
    cases h
    exact lv_pop hx hb hd ((db_cv_cat hcat v).trans (Nat.eq_of_beq_eq_true hq)) (k H locs ls cells slots rfl rfl hW hFr hl)
  case dup2 =>
    obtain ⟨x, y, r, rfl, h⟩ := db_sVV_e h
    obtain ⟨hq, h⟩ := db_condn_e h
    cases h
    simp only [Bool.and_eq_true] at hq
    exact lv_dup2_11 hx hb hd ((db_cv_cat hcat y).trans (Nat.eq_of_beq_eq_true hq.1)) ((db_cv_cat hcat x).trans (Nat.eq_of_beq_eq_true hq.2)) (k H locs ls cells slots rfl rfl hW hFr hl)
  case ifCond cd off =>
    obtain ⟨x, r, rfl, h⟩ := db_sI_e h
    obtain ⟨t, ht, h⟩ := db_bind_e h
    cases h
    have ht := db_tgt_e ht
    have k' := k H locs ls cells slots rfl rfl hW hFr hl
    cases cd
    · exact lv_if_eq hx hb hd ht (fun q => by simpa only [db_cnd, q, decide_true, cond_true] using k') (fun q => by simpa only [db_cnd, q, decide_false, cond_false] using k')
    · exact lv_if_ne hx hb hd ht (fun q => by simpa only [db_cnd, q, decide_false, Bool.not_false, cond_true] using k') (fun q => by simpa only [db_cnd, q, decide_true, Bool.not_true, cond_false] using k')
    · exact lv_if_lt hx hb hd ht (fun q => by simpa only [db_cnd, q, decide_true, cond_true] using k') (fun q => by simpa only [db_cnd, q, decide_false, cond_false] using k')
    · exact lv_if_ge hx hb hd ht (fun q => by simpa only [db_cnd, q, decide_true, cond_true] using k') (fun q => by simpa only [db_cnd, q, decide_false, cond_false] using k')
    · exact lv_if_gt hx hb hd ht (fun q => by simpa only [db_cnd, q, decide_true, cond_true] using k') (fun q => by simpa only [db_cnd, q, decide_false, cond_false] using k')
    · exact lv_if_le hx hb hd ht (fun q => by simpa only [db_cnd, q, decide_true, cond_true] using k') (fun q => by simpa only [db_cnd, q, decide_false, cond_false] using k')
  case if_icmp cd off =>
    obtain ⟨x, y, r, rfl, h⟩ := db_sII_e h
    obtain ⟨t, ht, h⟩ := db_bind_e h
    cases h
    have ht := db_tgt_e ht
    have k' := k H locs ls cells slots rfl rfl hW hFr hl
    cases cd
    · exact lv_icmp_eq hx hb hd ht (fun q => by simpa only [db_cnd, q, decide_true, cond_true] using k') (fun q => by simpa only [db_cnd, q, decide_false, cond_false] using k')
    · exact lv_icmp_ne hx hb hd ht (fun q => by simpa only [db_cnd, q, decide_false, Bool.not_false, cond_true] using k') (fun q => by simpa only [db_cnd, q, decide_true, Bool.not_true, cond_false] using k')
    · exact lv_icmp_lt hx hb hd ht (fun q => by simpa only [db_cnd, q, decide_true, cond_true] using k') (fun q => by simpa only [db_cnd, q, decide_false, cond_false] using k')
    · exact lv_icmp_ge hx hb hd ht (fun q => by simpa only [db_cnd, q, decide_true, cond_true] using k') (fun q => by simpa only [db_cnd, q, decide_false, cond_false] using k')
    · exact lv_icmp_gt hx hb hd ht (fun q => by simpa only [db_cnd, q, decide_true, cond_true] using k') (fun q => by simpa only [db_cnd, q, decide_false, cond_false] using k')
    · exact lv_icmp_le hx hb hd ht (fun q => by simpa only [db_cnd, q, decide_true, cond_true] using k') (fun q => by simpa only [db_cnd, q, decide_false, cond_false] using k')
  case goto off =>
    obtain ⟨t, ht, h⟩ := db_bind_e h
    cases h
    exact lv_goto hx hb hd (db_tgt_e ht) (k H locs ls cells slots rfl rfl hW hFr hl)
  case tableswitch df lo hi offs =>
    obtain ⟨x, r, rfl, h⟩ := db_sI_e h
    rcases db_cond_e h with ⟨hq, h⟩ | ⟨hq, h⟩
    · simp only [Bool.or_eq_true, decide_eq_true_eq] at hq
      obtain ⟨t, ht, h⟩ := db_bind_e h
      cases h
      exact lv_tableOut hx hb hd hq (db_tgt_e ht) (k H locs ls cells slots rfl rfl hW hFr hl)
    · simp only [Bool.or_eq_false_iff, decide_eq_false_iff_not] at hq
      obtain ⟨off, ho, h⟩ := db_bind_e h
      obtain ⟨t, ht, h⟩ := db_bind_e h
      cases h
      exact lv_tableIn hx hb hd hq.1 hq.2 ho (db_tgt_e ht) (k H locs ls cells slots rfl rfl hW hFr hl)
  case getfield ix =>
    obtain ⟨a, r, rfl, h⟩ := db_sR_e h
    obtain ⟨v, hv, h⟩ := db_bind_e h
    cases h
    exact db_getf_ok hok hF hX hW hFr hv hd (k H locs ls cells slots rfl rfl hW hFr hl)
  case putfield ix =>
    obtain ⟨v, a, r, rfl, h⟩ := db_sVR_e h
    obtain ⟨μ2, hv, h⟩ := db_bind_e h
    cases h
    exact db_putf_ok hok hF hX hW hFr hv hd fun H' locs' e1 e2 hW' hFr' => k H' locs' ls cells slots (by rw [e1]) (by rw [e2]) hW' hFr' hl
  case getstatic ix =>
    split at h
    · rename_i hlink
      cases h
      exact va_gets hx hb hZ1 hFr.S hown ((db_words hok.2.2 hts hlink).2 _ (by simp only [db_lws]; exact List.mem_cons_self)) (fun _ h => h) hd (k H locs ls cells slots rfl rfl hW hFr hl)
    · rename_i hlink
      cases h
      exact va_gets hx hb hZ2 hFr.S hown ((db_words hok.2.2 hts hlink).2 _ (by simp only [db_lws]; exact List.mem_cons_self)) (fun _ h => h) hd (k H locs ls cells slots rfl rfl hW hFr hl)
    · cases h
  case new ix =>
    obtain ⟨⟨q, μ2⟩, hv, h⟩ := db_bind_e h
    cases h
    exact db_new_ok hok hF hX hW hFr hv hd hcl hsl fun H' c2 s2 e1 e2 hW' hFr' => k H' locs ls c2 s2 e1 e2 hW' hFr' hl
  case newarray at_ =>
    obtain ⟨x, r, rfl, h⟩ := db_sI_e h
    obtain ⟨⟨q, μ2⟩, hv, h⟩ := db_bind_e h
    cases h
    exact db_newa_ok hF hX hW hFr hv hd hcl hsl fun H' c2 s2 e1 e2 hW' hFr' => k H' locs ls c2 s2 e1 e2 hW' hFr' hl
  case anewarray ix =>
    obtain ⟨x, r, rfl, h⟩ := db_sI_e h
    obtain ⟨⟨q, μ2⟩, hv, h⟩ := db_bind_e h
    cases h
    exact db_anew_ok hok hF hX hW hFr hv hd hcl hsl fun H' c2 s2 e1 e2 hW' hFr' => k H' locs ls c2 s2 e1 e2 hW' hFr' hl
  case multianewarray ix dm =>
    obtain ⟨hq2, h⟩ := db_condn_e h
    have zdm := Nat.eq_of_beq_eq_true hq2
    subst zdm
    obtain ⟨x, y, r, rfl, h⟩ := db_sII_e h
    obtain ⟨⟨q, μ2⟩, hv, h⟩ := db_bind_e h
    cases h
    exact db_mnew_ok hok hF hX hW hFr hv hd hcl hsl fun H' locs' c2 s2 e1 e2 hW' hFr' => k H' locs' ls c2 s2 e1 e2 hW' hFr' hl
  case iaload =>
    obtain ⟨a, j, r, rfl, h⟩ := db_sRI_e h
    rcases db_cond_e h with ⟨hq, h⟩ | ⟨hq, h⟩
    · cases Nat.eq_of_beq_eq_true hq
      cases X with
      | none => cases h
      | some Lx =>
        obtain ⟨L, xs⟩ := Lx
        obtain ⟨hin, h⟩ := db_condn_e h
        cases h
        have b3 := b3 L xs rfl
        have hcv : (Value.int j :: Value.ref 0 :: r).map (db_cv xv o) = .int j :: .ref b0 :: r.map (db_cv xv o) := by
          show Value.int j :: xv 0 :: _ = _
          rw [b1]
        rw [hcv]
        exact va_sld hx hb b3 (Nat.lt_of_lt_of_le (Nat.lt_of_not_le b2) hFr.1) b2 hFr.S (db_in_e hin) hd (k H locs ls cells slots rfl rfl hW hFr hl)
    · obtain ⟨v, hv, h⟩ := db_bind_e h
      cases h
      obtain ⟨n, F, h1, h2, h3, h4⟩ := db_ald_e (o := o) (xv := xv) (D := D) (ck := ck) hv
      have hcv : (Value.int j :: Value.ref a :: r).map (db_cv xv o) = .int j :: .ref (o + (a - 4)) :: r.map (db_cv xv o) := by
        show Value.int j :: db_cv xv o (.ref a) :: _ = _
        rw [db_cv_own h4]
      rw [hcv]
      exact W.iald (v := db_cv xv o v) hx hb (h1 H hW) ((hK.2 1 _ rfl).1 n F) (fun q => by cases q) (db_out h2) (db_rdv h2 h3) rfl rfl hd (k H locs ls cells slots rfl rfl hW hFr hl)
  case baload =>
    obtain ⟨a, j, r, rfl, h⟩ := db_sRI_e h
    rcases db_cond_e h with ⟨hq, h⟩ | ⟨hq, h⟩
    · cases Nat.eq_of_beq_eq_true hq
      obtain ⟨hin, h⟩ := db_condn_e h
      cases h
      have hcv : (Value.int j :: Value.ref 2 :: r).map (db_cv xv o) = .int j :: .ref a2 :: r.map (db_cv xv o) := by
        show Value.int j :: xv 2 :: _ = _
        rw [g2]
      rw [hcv]
      exact va_tb hx hb g6 hFr.S (db_in_e hin) rfl hd (k H locs ls cells slots rfl rfl hW hFr hl)
    · obtain ⟨v, hv, h⟩ := db_bind_e h
      cases h
      obtain ⟨n, F, h1, h2, h3, h4⟩ := db_ald_e (o := o) (xv := xv) (D := D) (ck := ck) hv
      have hcv : (Value.int j :: Value.ref a :: r).map (db_cv xv o) = .int j :: .ref (o + (a - 4)) :: r.map (db_cv xv o) := by
        show Value.int j :: db_cv xv o (.ref a) :: _ = _
        rw [db_cv_own h4]
      rw [hcv]
      exact W.bald (v := db_cv xv o v) hx hb (h1 H hW) ((hK.2 0 _ rfl).1 n F) (fun q => by cases q) (db_out h2) (db_rdv h2 h3) rfl rfl hd (k H locs ls cells slots rfl rfl hW hFr hl)
  case laload =>
    obtain ⟨a, j, r, rfl, h⟩ := db_sRI_e h
    obtain ⟨v, hv, h⟩ := db_bind_e h
    cases h
    obtain ⟨n, F, h1, h2, h3, h4⟩ := db_ald_e (o := o) (xv := xv) (D := D) (ck := ck) hv
    have hcv : (Value.int j :: Value.ref a :: r).map (db_cv xv o) = .int j :: .ref (o + (a - 4)) :: r.map (db_cv xv o) := by
      show Value.int j :: db_cv xv o (.ref a) :: _ = _
      rw [db_cv_own h4]
    rw [hcv]
    exact W.lald (v := db_cv xv o v) hx hb (h1 H hW) ((hK.2 2 _ rfl).1 n F) (fun q => by cases q) (db_out h2) (db_rdv h2 h3) rfl rfl hd (k H locs ls cells slots rfl rfl hW hFr hl)
  case aaload =>
    have hh := db_sRI_e h
    clear h
    obtain ⟨a, j, r, hst, h⟩ := hh
    subst hst
    split at h
    · rename_i kd _ _ _
      obtain ⟨hq, h⟩ := db_condn_e h
      obtain ⟨v, hv, h⟩ := db_bind_e h
      cases h
      simp only [Bool.and_eq_true] at hq
      obtain ⟨n, F, h1, h2, h3, h4⟩ := db_ald_e (o := o) (xv := xv) (D := D) (ck := ck) hv
      have hcv : (Value.int j :: Value.ref a :: r).map (db_cv xv o) = .int j :: .ref (o + (a - 4)) :: r.map (db_cv xv o) := by
        show Value.int j :: db_cv xv o (.ref a) :: _ = _
        rw [db_cv_own h4]
      rw [hcv]
      have key : ∀ ty, (db_tl ck)[kd]? = some (ck kd, ty) → ty.isReference = true → W p l e R s m args below meth c H locs cells slots Q (F0 m pc ls (.int j :: .ref (o + (a - 4)) :: r.map (db_cv xv o))) := fun ty hk hr =>
        W.aald (v := db_cv xv o v) hx hb (h1 H hW) ((hK.2 kd _ hk).1 n F) hr (fun q => by cases q) (db_out h2) (db_rdv h2 h3) rfl rfl hd (k H locs ls cells slots rfl rfl hW hFr hl)
      have hlo := Nat.le_of_ble_eq_true hq.1
      have hhi := Nat.le_of_ble_eq_true hq.2
      have : kd = 3 ∨ kd = 4 ∨ kd = 5 ∨ kd = 6 ∨ kd = 7 := by omega
      rcases this with rfl | rfl | rfl | rfl | rfl <;> exact key _ rfl rfl
    · cases h
  case iastore =>
    have hh := db_sRIV_e h
    clear h
    obtain ⟨a, j, v, r, hst, h⟩ := hh
    subst hst
    obtain ⟨μ2, hv, h⟩ := db_bind_e h
    cases h
    obtain ⟨n, F, w, e2, h1, h2, h4, rfl, h5, h6⟩ := db_ast_e (o := o) (xv := xv) (D := D) (ck := ck) hv
    rcases h6 with ⟨-, x, rfl, rfl⟩ | ⟨h6, -⟩
    · have hcv : (Value.int x :: Value.int j :: Value.ref a :: st').map (db_cv xv o) = .int x :: .int j :: .ref (o + (a - 4)) :: st'.map (db_cv xv o) := by
        show Value.int x :: Value.int j :: db_cv xv o (.ref a) :: _ = _
        rw [db_cv_own h4]
      rw [hcv]
      exact W.iast hx hb (h1 H hW) ((hK.2 1 _ rfl).1 n F) (fun q => by cases q) (db_out h2) rfl rfl hd fun H' e1 z oq => k H' _ ls cells slots rfl rfl (hW.set h4 z oq (h5 H' (by rw [e1, arrV_store]; rfl))) (hFr.set z oq) hl
    · omega
  case bastore =>
    have hh := db_sRIV_e h
    clear h
    obtain ⟨a, j, v, r, hst, h⟩ := hh
    subst hst
    obtain ⟨μ2, hv, h⟩ := db_bind_e h
    cases h
    obtain ⟨n, F, w, e2, h1, h2, h4, rfl, h5, h6⟩ := db_ast_e (o := o) (xv := xv) (D := D) (ck := ck) hv
    rcases h6 with ⟨-, x, rfl, rfl⟩ | ⟨h6, -⟩
    · have hcv : (Value.int x :: Value.int j :: Value.ref a :: st').map (db_cv xv o) = .int x :: .int j :: .ref (o + (a - 4)) :: st'.map (db_cv xv o) := by
        show Value.int x :: Value.int j :: db_cv xv o (.ref a) :: _ = _
        rw [db_cv_own h4]
      rw [hcv]
      exact W.bast hx hb (h1 H hW) ((hK.2 0 _ rfl).1 n F) (fun q => by cases q) (db_out h2) rfl rfl hd fun H' e1 z oq => k H' _ ls cells slots rfl rfl (hW.set h4 z oq (h5 H' (by rw [e1, arrV_store]; rfl))) (hFr.set z oq) hl
    · omega
  case lastore =>
    have hh := db_sRIV_e h
    clear h
    obtain ⟨a, j, v, r, hst, h⟩ := hh
    subst hst
    obtain ⟨μ2, hv, h⟩ := db_bind_e h
    cases h
    obtain ⟨n, F, w, e2, h1, h2, h4, rfl, h5, h6⟩ := db_ast_e (o := o) (xv := xv) (D := D) (ck := ck) hv
    rcases h6 with ⟨h6, -⟩ | ⟨-, x, rfl, rfl⟩
    · omega
    · have hcv : (Value.long x :: Value.int j :: Value.ref a :: st').map (db_cv xv o) = .long x :: .int j :: .ref (o + (a - 4)) :: st'.map (db_cv xv o) := by
        show Value.long x :: Value.int j :: db_cv xv o (.ref a) :: _ = _
        rw [db_cv_own h4]
      rw [hcv]
      exact W.last hx hb (h1 H hW) ((hK.2 2 _ rfl).1 n F) (fun q => by cases q) (db_out h2) rfl rfl hd fun H' e1 z oq => k H' _ ls cells slots rfl rfl (hW.set h4 z oq (h5 H' (by rw [e1, arrV_store]))) (hFr.set z oq) hl
  case aastore =>
    have hh := db_sRIV_e h
    clear h
    obtain ⟨a, j, v, r, hst, h⟩ := hh
    subst hst
    split at h
    · rename_i t
      obtain ⟨μ2, hv, h⟩ := db_bind_e h
      cases h
      exact db_asq_ok hF hX hW hFr hv hd fun H' locs' e1 e2 hW' hFr' => k H' locs' ls cells slots (by rw [e1]) (by rw [e2]) hW' hFr' hl
    · cases h
  case arraylength =>
    obtain ⟨a, r, rfl, h⟩ := db_sR_e h
    rcases db_cond_e h with ⟨hq, h⟩ | ⟨hq, h⟩
    · cases Nat.eq_of_beq_eq_true hq
      cases X with
      | none => cases h
      | some Lx =>
        obtain ⟨L, xs⟩ := Lx
        cases h
        have b3 := b3 L xs rfl
        have hcv : (Value.ref 0 :: r).map (db_cv xv o) = .ref b0 :: r.map (db_cv xv o) := by
          show xv 0 :: _ = _
          rw [b1]
        rw [hcv]
        exact va_slen hx hb b3 (Nat.lt_of_lt_of_le (Nat.lt_of_not_le b2) hFr.1) b2 hFr.S hd (k H locs ls cells slots rfl rfl hW hFr hl)
    · rcases db_cond_e h with ⟨hq2, h⟩ | ⟨hq2, h⟩
      · cases Nat.eq_of_beq_eq_true hq2
        cases h
        have hcv : (Value.ref 2 :: r).map (db_cv xv o) = .ref a2 :: r.map (db_cv xv o) := by
          show xv 2 :: _ = _
          rw [g2]
        rw [hcv]
        exact va_tlen hx hb g6 hFr.S rfl hd (k H locs ls cells slots rfl rfl hW hFr hl)
      · split at h
        · rename_i kd n c0 harr
          obtain ⟨hk7, h⟩ := db_condn_e h
          cases h
          have a4 := (db_arr_e harr).1
          have hk7 := Nat.le_of_ble_eq_true hk7
          have hA := hW.arr harr
          rw [List.map_cons, db_cv_own a4]
          obtain ⟨F, hF1⟩ : ∃ F, vp_cell (ck kd) (n, db_cc o c0) = arrV (ck kd) n F := by
            rcases c0 with f | f | f | f | f
            · exact ⟨fun j => .int (f j), rfl⟩
            · exact ⟨fun j => .long (f j), rfl⟩
            · exact ⟨fun j => .float (f j), rfl⟩
            · exact ⟨fun j => .double (f j), rfl⟩
            · exact ⟨fun j => va_rf ((f j).map (fun t => o + (t - 4))), rfl⟩
          rw [hF1] at hA
          have key : ∀ ty, (db_tl ck)[kd]? = some (ck kd, ty) → W p l e R s m args below meth c H locs cells slots Q (F0 m pc ls (.ref (o + (a - 4)) :: r.map (db_cv xv o))) := fun ty hk =>
            W.alen hx hb hA ((hK.2 kd _ hk).1 n F) (n := Int32.ofNat n) (by rw [arrV_size]) rfl rfl hd (k H locs ls cells slots rfl rfl hW hFr hl)
          have : kd = 0 ∨ kd = 1 ∨ kd = 2 ∨ kd = 3 ∨ kd = 4 ∨ kd = 5 ∨ kd = 6 ∨ kd = 7 := by omega
          rcases this with rfl | rfl | rfl | rfl | rfl | rfl | rfl | rfl <;> exact key _ rfl
        · cases h
  case invokespecial ix =>
    split at h
    · rename_i hlink
      obtain ⟨a, r, rfl, h⟩ := db_sR_e h
      obtain ⟨hq, h⟩ := db_condn_e h
      cases h
      simp only [Bool.and_eq_true, Bool.not_eq_true', decide_eq_true_eq] at hq
      obtain ⟨y, hy⟩ := db_ref hF hq.1
      have hw := (db_words hok.2.2 hts hlink).2
      simp only [db_lws] at hw
      rw [List.map_cons, hy]
      exact W.objInit hx hb hown (hw _ List.mem_cons_self) (hw _ (List.mem_cons_of_mem _ List.mem_cons_self)) (hw _ (List.mem_cons_of_mem _ (List.mem_cons_of_mem _ List.mem_cons_self))) rfl hmls.symm rfl hd hR.1 (by show 2 * 0 + _ + 12 ≤ _; rw [db_cats hcat]; omega) (k H locs ls cells slots rfl rfl hW hFr hl)
    · cases h
  case invokestatic ix =>
    split at h
    · rename_i hlink
      obtain ⟨x, y, r, rfl, h⟩ := db_sII_e h
      obtain ⟨hq, h⟩ := db_condn_e h
      cases h
      have hw := (db_words hok.2.2 hts hlink).2
      simp only [db_lws] at hw
      have hq := of_decide_eq_true hq
      exact va_mmin hx hb hmls hown (hw _ List.mem_cons_self) (hw _ (List.mem_cons_of_mem _ List.mem_cons_self)) (hw _ (List.mem_cons_of_mem _ (List.mem_cons_of_mem _ List.mem_cons_self))) (hw _ (List.mem_cons_of_mem _ (List.mem_cons_of_mem _ (List.mem_cons_of_mem _ List.mem_cons_self)))) hR.1 (by rw [db_cats hcat]; omega) (by omega) (by omega) hd (k H locs ls cells slots rfl rfl hW hFr hl)
    · rename_i hlink
      obtain ⟨x, y, r, rfl, h⟩ := db_sII_e h
      obtain ⟨hq, h⟩ := db_condn_e h
      cases h
      have hw := (db_words hok.2.2 hts hlink).2
      simp only [db_lws] at hw
      have hq := of_decide_eq_true hq
      exact va_mmax hx hb hmls hown (hw _ List.mem_cons_self) (hw _ (List.mem_cons_of_mem _ List.mem_cons_self)) (hw _ (List.mem_cons_of_mem _ (List.mem_cons_of_mem _ List.mem_cons_self))) (hw _ (List.mem_cons_of_mem _ (List.mem_cons_of_mem _ (List.mem_cons_of_mem _ List.mem_cons_self)))) hR.1 (by rw [db_cats hcat]; omega) (by omega) (by omega) hd (k H locs ls cells slots rfl rfl hW hFr hl)
    · rename_i hlink
      obtain ⟨x, r, rfl, h⟩ := db_sL_e h
      obtain ⟨hq, h⟩ := db_condn_e h
      cases h
      have hw := (db_words hok.2.2 hts hlink).2
      simp only [db_lws] at hw
      have hq := of_decide_eq_true hq
      exact va_mabs_long hx hb hmls hown (hw _ List.mem_cons_self) (hw _ (List.mem_cons_of_mem _ List.mem_cons_self)) (hw _ (List.mem_cons_of_mem _ (List.mem_cons_of_mem _ List.mem_cons_self))) (hw _ (List.mem_cons_of_mem _ (List.mem_cons_of_mem _ (List.mem_cons_of_mem _ List.mem_cons_self)))) hR.1 (by rw [db_cats hcat]; omega) (by omega) (by omega) hd (k H locs ls cells slots rfl rfl hW hFr hl)
    · rename_i hlink
      obtain ⟨a, sp, d, dp, n, r, rfl, h⟩ := db_s5_e h
      obtain ⟨hq, h⟩ := db_condn_e h
      obtain ⟨μ2, hv, h⟩ := db_bind_e h
      cases h
      have hw := (db_words hok.2.2 hts hlink).2
      simp only [db_lws] at hw
      have hq := of_decide_eq_true hq
      exact db_cpy_ok hF hX hW hFr hls hv hw hR (by rw [db_cats hcat]; exact hq) hd fun H' locs' e1 e2 hW' hFr' => k H' locs' ls cells slots (by rw [e1]) (by rw [e2]) hW' hFr' hl
    · cases h
end DBY
