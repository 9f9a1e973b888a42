noncomputable def db_G : List Cond := lw_tbl.filter goodWord
def db_rm (d mc ms : Nat) : Room := { frames := d + 1, cells := mc, slots := ms, locals := 200 * (d + 1) }
noncomputable def db_ws (mr : db_MR) : List Cond := Cond.code mr.1 mr.2.1 mr.2.2.1 mr.2.2.2.1 :: db_G
/-- a method that may be called -/
def db_okA (mr : db_MR) : Prop := db_ok mr ∧ Cond.code mr.1 mr.2.1 mr.2.2.1 mr.2.2.2.1 ∈ db_T
def db_Pc (o : Nat) (xv : Nat → Value) (D : va_G) (ck : Nat → ClassId) (X : db_X) (as : List Value) (μ : db_H) : Array Value → State → Prop := fun v U => v = (as.map (db_cv xv o)).toArray ∧ db_W o xv D ck μ U.heap ∧ db_F o xv D ck X U U.heap ∧ o ≤ U.heap.size
def db_Qc (o : Nat) (xv : Nat → Value) (D : va_G) (ck : Nat → ClassId) (r : Option Value) (μ' : db_H) : Array Value → State → Outcome → State → Prop := fun _ st oc t => oc = .returned (r.map (db_cv xv o)) ∧ db_W o xv D ck μ' t.heap ∧ st.heap.size ≤ t.heap.size ∧ ∀ q, q < o → t.heap[q]? = st.heap[q]?
theorem db_T_G {w : Cond} (h : w ∈ db_T) (hg : goodWord w = true) : w ∈ db_G := List.mem_filter.mpr ⟨(List.mem_filter.mp h).1, hg⟩
theorem db_G_T {w : Cond} (h : w ∈ db_G) : w ∈ db_T := List.mem_filter.mpr ⟨(List.mem_filter.mp h).1, by rw [(List.mem_filter.mp h).2]; rfl⟩
theorem db_good_ws {mr : db_MR} (h : db_okA mr) : GoodIn db_T (db_ws mr) := by
  intro w hw
  rcases List.mem_cons.mp hw with rfl | hw
  · exact ⟨h.2, good_of_word rfl⟩
  · exact ⟨db_G_T hw, good_of_word (List.mem_filter.mp hw).2⟩
theorem db_isN_on {w : Cond} (h : db_isN w = true) : w.onTables = true := by
  cases w <;> first | rfl | (cases h)
theorem db_F.same {o : Nat} {xv : Nat → Value} {D : va_G} {ck : Nat → ClassId} {X : db_X} {u U : State} {H : Heap} (hv : u.vm = U.vm) (h : db_F o xv D ck X u H) : db_F o xv D ck X U H := by
  obtain ⟨h1, h2, ⟨h3, h4, h5⟩, ⟨h6, h7⟩, h8, h9, ⟨a1, a2, g1, g2, g3, g4, g5, g6, g7⟩, g8, g9⟩ := h
  have hvm : u.vm.Alike U.vm := by rw [hv]; exact Vm.Alike.refl _
  obtain ⟨b, b1, b2, b3⟩ := h9
  exact ⟨va_K.moved hvm h1, fun w hw hn => va_Nw.same (db_isN_on hn) hv (h2 w hw hn), ⟨h3.moved hvm, h4.moved hvm, h5.moved hvm⟩, ⟨h6.moved hvm, h7.moved hvm⟩, h8, ⟨b, b1, b2, fun L xs hx => (b3 L xs hx).moved hvm⟩, ⟨a1, a2, g1, g2, g3.moved hvm, g4.moved hvm, g5.moved hvm, g6.moved hvm, g7.same hv.symm⟩, g8.moved hvm, g9.moved hvm⟩
theorem db_blind {o : Nat} {xv : Nat → Value} {D : va_G} {ck : Nat → ClassId} {X : db_X} {as : List Value} {μ : db_H} : FrameBlind (db_Pc o xv D ck X as μ) := by
  intro a U g mk ⟨h1, h2, h3, h4⟩
  exact ⟨h1, h2, db_F.same (u := U) (U := U.calling g mk a) rfl h3, h4⟩
theorem db_sl_len (vs : List Value) : (lg_sl vs).length = (vs.map fun v => v.category).sum := by
  induction vs with
  | nil => rfl
  | cons v t ih =>
    have e : lg_sl (v :: t) = (if v.category = 2 then [Slot.val v, .second] else [.val v]) ++ lg_sl t := rfl
    rw [e, List.length_append, ih]
    rcases lv_cat v with h | h <;> simp [h]
section DBR
variable {p : Program} {l : Launch} {e : Env} {R : Room} {s : State} {m : MethodId} {args : Array Value} {below : List Frame} {meth : Method} {c : Code} {H : Heap} {locs : List Loc} {cells slots : Nat} {Q : State → Prop}
variable {o : Nat} {xv : Nat → Value} {D : va_G} {ck : Nat → ClassId} {X : db_X} {mr : db_MR} {μ : db_H} {ls : Array Slot} {pc : Nat} {rest : List Value}
theorem db_low_e {x : Int32} (h : db_low x = true) : narrow .byte (.int x) = .int x ∧ narrow .char (.int x) = .int x := by
  simp only [db_low, List.any_eq_true, decide_eq_true_eq] at h
  obtain ⟨n, hn, rfl⟩ := h
  have hn := List.mem_range.mp hn
  have : ∀ n, n < 128 → narrow .byte (.int (Int32.ofNat n)) = .int (Int32.ofNat n) ∧ narrow .char (.int (Int32.ofNat n)) = .int (Int32.ofNat n) := by decide +kernel
  exact this n hn
theorem db_fitR_e {ty : FieldType} {x : Int32} (h : db_fitR ty x = true) : narrow ty (.int x) = .int x := by
  unfold db_fitR at h
  split at h
  · rfl
  · simp only [Bool.or_eq_true, decide_eq_true_eq] at h
    rcases h with rfl | rfl <;> decide
  · exact (db_low_e h).1
  · exact (db_low_e h).2
  · cases h
/-- a method's end -/
theorem db_end {Qc : Array Value → State → Outcome → State → Prop} {free : Addr → Prop} {i : Instr} {st : List Value} {r : Option Value} (hX : db_Fx p s args m meth c mr) (hd : decode mr.2.1 pc = .ok (i, db_len pc i)) (h : db_ret mr i st = some r) (hq : ∀ t : State, t.heap = H → s.WarmedH t.vm → Qc args s (.returned (r.map (db_cv xv o))) t) (hf : ∀ q ∈ locs, free q.base) (hx3 : ∀ i, i < 4 → xv i = .null ∨ ∃ a, xv i = .ref a) :
    W p l e R s m args below meth c H locs cells slots (MQ below Qc args s cells slots free) (F0 m pc ls (st.map (db_cv xv o))) := by
  obtain ⟨hx, hb, hml, hown, hrt, hlk, hnm, hts⟩ := hX
  cases i <;> dsimp only [db_ret] at h <;> first | (cases h; done) | skip
  case ireturn =>
    split at h
    · rename_i x ty hty
      obtain ⟨hf2, h⟩ := db_condn_e h
      cases h
      exact W.zret hx hb (hrt.trans hty) (db_fitR_e hf2) hq hf hd hlk
    · cases h
  case lreturn =>
    split at h
    · rename_i x hty
      cases h
      exact W.lret hx hb (hrt.trans hty) hq hf hd hlk
    · cases h
  case areturn =>
    split at h
    · rename_i a ty hty
      cases h
      refine W.aret hx hb (hrt.trans hty) (Or.inr ⟨_, rfl⟩) ?_ hq hf hd hlk
      by_cases h4 : a < 4
      · have e : db_cv xv o (.ref a) = xv a := if_pos h4
        rw [e]
        exact hx3 a h4
      · have ha4 : 4 ≤ a := Nat.not_lt.mp h4
        rw [db_cv_own ha4]
        exact Or.inr ⟨_, rfl⟩
    · cases h
  case return_ =>
    split at h
    · rename_i hty
      cases h
      exact W.vret hx hb (hrt.trans hty) hq hf hd hlk
    · cases h
theorem db_call {cp mc ms : Nat} {st0 as : List Value} {r : Option Value} {μ' : db_H} {aa : Array Value} (hr : va_Run p l e R s m args below meth c H locs cells slots mc ms (F0 m pc ls st0) rest (db_Qc o xv D ck r μ' aa) (fun q => o ≤ q)) (hFr : db_Fr o s H locs)
    (kk : ∀ (H1 : Heap) (locs1 : List Loc), db_W o xv D ck μ' H1 → db_Fr o s H1 locs1 → W p l e R s m args below meth c H1 locs1 (cells + mc) (slots + ms) Q (F0 m (pc + 3) ls ((r.map (db_cv xv o)).toList ++ rest))) : W p l e R s m args below meth c H locs cells slots Q (F0 m pc ls st0) := by
  intro T hT Xs
  obtain ⟨v, st₀, t, T', L, h0, X', hL, e1, e2, ⟨hv, hW, hz, hk⟩, st⟩ := hr T hT Xs
  cases hv
  rw [h0] at hz hk
  obtain ⟨f0, f1, f2, f3⟩ := hFr
  obtain ⟨t2, a1, b1⟩ := kk T'.heap (locs ++ L) (by rw [e1]; exact hW) ⟨f0, by rw [e1]; omega, fun q hq => by rw [e1, hk q hq]; exact f2 q hq, fun q hq => by
      rcases List.mem_append.mp hq with h | h
      · exact f3 q h
      · exact hL q h⟩ T' rfl X'
  exact ⟨t2, st t2 a1, b1⟩
end DBR
theorem db_ev_mono {X : db_X} : ∀ (n d : Nat) (mr : db_MR) (pc : Nat) (lv : db_V) (st : List Value) (μ : db_H) (r : Option Value) (μ' : db_H), db_ev X n d mr pc lv st μ = some (r, μ') → μ.1 ≤ μ'.1 ∧ μ.2.1 ≤ μ'.2.1
  | 0, _, _, _, _, _, _, _, _, h => by simp [db_ev] at h
  | n + 1, d, mr, pc, lv, st, μ, r, μ', h => by
    rw [db_ev] at h
    split at h
    · cases h
    · split at h
      · cases h
      · split at h
        · cases h
          exact ⟨Nat.le_refl _, Nat.le_refl _⟩
        · split at h
          · split at h
            · cases h
            · split at h
              · cases h
              · rename_i h1
                have a := db_ev_mono n _ _ _ _ _ _ _ _ h1
                have b := db_ev_mono n _ _ _ _ _ _ _ _ h
                exact ⟨Nat.le_trans a.1 b.1, Nat.le_trans a.2 b.2⟩
          · split at h
            · cases h
            · obtain ⟨hb, h⟩ := db_condn_e h
              simp only [Bool.and_eq_true] at hb
              have b := db_ev_mono n _ _ _ _ _ _ _ _ h
              exact ⟨Nat.le_trans (Nat.le_of_ble_eq_true hb.1) b.1, Nat.le_trans (Nat.le_of_ble_eq_true hb.2) b.2⟩
/-- what a run of n steps gives -/
def db_So (X : db_X) (n : Nat) : Prop := ∀ (d : Nat) (mr : db_MR) (pc : Nat) (lv : db_V) (st : List Value) (μ : db_H) (r : Option Value) (μ' : db_H), db_ev X n d mr pc lv st μ = some (r, μ') → db_ok mr →
  ∀ (p : Program) (l : Launch) (e : Env) (R : Room) (s : State) (m : MethodId) (args : Array Value) (below : List Frame) (meth : Method) (c : Code) (H : Heap) (locs : List Loc) (cells slots : Nat) (Q : State → Prop) (o : Nat) (xv : Nat → Value) (D : va_G) (ck : Nat → ClassId) (ls : Array Slot),
    db_F o xv D ck X s s.heap → db_Fx p s args m meth c mr → db_W o xv D ck μ H → db_Fr o s H locs → lv_has ls mr.2.2.1 (lv.map (db_cq xv o)) → d + 1 ≤ R.frames ∧ 200 * (d + 1) ≤ R.locals → cells + μ'.1 ≤ R.cells + μ.1 → slots + μ'.2.1 ≤ R.slots + μ.2.1 → (∀ i, i < 4 → xv i = .null ∨ ∃ a, xv i = .ref a) →
    (∀ (pc' : Nat) (i : Instr) (st' : List Value) (H' : Heap) (locs' : List Loc) (ls' : Array Slot) (cells' slots' : Nat), decode mr.2.1 pc' = .ok (i, db_len pc' i) → db_ret mr i st' = some r → db_W o xv D ck μ' H' → db_Fr o s H' locs' → cells' + μ.1 = cells + μ'.1 → slots' + μ.2.1 = slots + μ'.2.1 → W p l e R s m args below meth c H' locs' cells' slots' Q (F0 m pc' ls' (st'.map (db_cv xv o)))) →
    W p l e R s m args below meth c H locs cells slots Q (F0 m pc ls (st.map (db_cv xv o)))
theorem db_met {X : db_X} {n : Nat} (ih : db_So X n) {d : Nat} {mr : db_MR} {as : List Value} {μ : db_H} {r : Option Value} {μ' : db_H} (h : db_ev X n d mr 0 (lv_args 0 as) [] μ = some (r, μ')) (hA : db_okA mr) (hlen : (as.map fun v => v.category).sum ≤ mr.2.2.1) (l : Launch) {o : Nat} {xv : Nat → Value} {D : va_G} {ck : Nat → ClassId} (hx3 : ∀ i, i < 4 → xv i = .null ∨ ∃ a, xv i = .ref a) :
    Met l mr.1 (db_ws mr) (db_rm d (μ'.1 - μ.1) (μ'.2.1 - μ.2.1)) (db_Pc o xv D ck X as μ) (db_Qc o xv D ck r μ') (μ'.1 - μ.1) (μ'.2.1 - μ.2.1) (fun q => o ≤ q) := by
  obtain ⟨m1, m2⟩ := db_ev_mono n d mr 0 _ _ μ r μ' h
  have hmck := hA.1.2.1
  simp only [db_mck, Bool.and_eq_true, decide_eq_true_eq] at hmck
  obtain ⟨⟨⟨⟨k1, k2⟩, k3⟩, k4⟩, k5⟩ := hmck
  refine va_MetF (cc := mr.2.1) (maxL := mr.2.2.1) (ret := mr.2.2.2.1) k1 rfl ?_
  intro p e s m args below meth c s₁ B hml hP
  obtain ⟨rfl, hW, hF, ho⟩ := hP
  have hcat := hF.2.2.2.2.1
  have hpre : ∀ w ∈ db_ws mr, w.before (as.map (db_cv xv o)).toArray s = true := atoms_spec (ws := db_ws mr) B.pre
  have hts : ∀ w ∈ db_T, w.before (as.map (db_cv xv o)).toArray s = true := by
    intro w hw
    have h2 := (List.mem_filter.mp hw).2
    rcases Bool.or_eq_true _ _ |>.mp h2 with h3 | h3
    · exact hpre w (List.mem_cons_of_mem _ (db_T_G hw h3))
    · exact va_Nw.use (db_isN_on h3) (hF.2.1 w hw h3)
  have hX : db_Fx p s (as.map (db_cv xv o)).toArray m meth c mr := ⟨B.exec, B.bytes, hml, by rw [← k2]; exact findClass_of_methodNamed B.named, B.returns, B.notSynchronized, fun hi => (name_of_methodNamed B.named B.method).1.trans hi, hts⟩
  have hl := lv_entry (as.map (db_cv xv o)) (n := mr.2.2.1) (by rw [db_sl_len, db_cats hcat]; exact hlen)
  rw [lg_entry_eq]
  generalize (lg_sl (as.map (db_cv xv o)) ++ List.replicate (mr.2.2.1 - (lg_sl (as.map (db_cv xv o))).length) Slot.unset).toArray = ls at hl ⊢
  rw [db_args_map hcat] at hl
  refine ih d mr 0 (lv_args 0 as) [] μ r μ' h hA.1 p l e _ s m _ below meth c s.heap [] 0 0 _ o xv D ck ls hF hX hW ⟨ho, Nat.le_refl _, fun _ _ => rfl, fun _ h => by cases h⟩ hl ⟨Nat.le_refl _, Nat.le_refl _⟩ (by show 0 + μ'.1 ≤ (μ'.1 - μ.1) + μ.1; omega) (by show 0 + μ'.2.1 ≤ (μ'.2.1 - μ.2.1) + μ.2.1; omega) hx3 ?_
  intro pc' i st' H' locs' ls' cells' slots' hd hret hW' hFr' e1 e2
  have e1' : cells' = μ'.1 - μ.1 := by omega
  have e2' : slots' = μ'.2.1 - μ.2.1 := by omega
  subst e1'
  subst e2'
  exact db_end hX hd hret (fun t ht _ => ⟨rfl, by rw [ht]; exact hW', by rw [ht]; exact hFr'.2.1, fun q hq => by rw [ht]; exact hFr'.2.2.1 q hq⟩) hFr'.2.2.2 hx3
