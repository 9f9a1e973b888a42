/-! new T[n][k]: the model's instruction, from the laws of a new array, a loop over a list and a write -/
/-- the outer array when the first i rows are laid, at the heap's end h -/
def db_oc (cA : ClassId) (N h i : Nat) : Cell := arrV cA N (fun j => if j < i then .ref (h + 1 + j) else .null)
theorem db_oc_next (cA : ClassId) (N h i : Nat) : (db_oc cA N h i).setSlot i (.ref (h + 1 + i)) = db_oc cA N h (i + 1) := by
  unfold db_oc
  rw [arrV_store]
  refine congrArg (arrV cA N) (funext fun j => ?_)
  by_cases hj : j = i
  · subst hj; simp [updV]
  · by_cases hl : j < i
    · simp [updV, hj, hl, Nat.lt_succ_of_lt hl]
    · simp [updV, hj, hl, show ¬ j < i + 1 by omega]
/-- the state when i rows of M places are made and laid -/
def db_gs (S : State) (cA cI : ClassId) (N M : Nat) (z : Value) : Nat → State
  | 0 => S.pushCell (db_oc cA N S.heap.size 0)
  | i + 1 => ((db_gs S cA cI N M z i).pushCell (arrV cI M (fun _ => z))).setCell S.heap.size (db_oc cA N S.heap.size (i + 1))
section DBG
variable (S : State) (cA cI : ClassId) (N M : Nat) (z : Value)
theorem db_gs_size : ∀ i, (db_gs S cA cI N M z i).heap.size = S.heap.size + 1 + i
  | 0 => by simp [db_gs, State.pushCell]
  | i + 1 => by rw [db_gs, size_setCell, size_pushCell, db_gs_size i]; omega
theorem db_gs_vm : ∀ i, (db_gs S cA cI N M z i).vm = S.vm
  | 0 => rfl
  | i + 1 => db_gs_vm i
theorem db_gs_used : ∀ i, (db_gs S cA cI N M z i).slotsUsed = S.slotsUsed + N + i * M
  | 0 => by
    show S.slotsUsed + (arrV cA N _).slots.size = _
    rw [arrV_size]; omega
  | i + 1 => by
    show (db_gs S cA cI N M z i).slotsUsed + (arrV cI M _).slots.size = _
    rw [db_gs_used i, arrV_size, Nat.succ_mul]; omega
theorem db_gs_outer : ∀ i, (db_gs S cA cI N M z i).heap[S.heap.size]? = some (db_oc cA N S.heap.size i)
  | 0 => by simp [db_gs]
  | i + 1 => by
    have h2 : S.heap.size < ((db_gs S cA cI N M z i).pushCell (arrV cI M (fun _ => z))).heap.size := by rw [size_pushCell, db_gs_size S cA cI N M z i]; omega
    rw [db_gs]
    exact heapAt_setCell_self _ h2
theorem db_gs_old {q : Nat} (hq : q < S.heap.size) : ∀ i, (db_gs S cA cI N M z i).heap[q]? = S.heap[q]?
  | 0 => State.heap_pushCell_of_lt _ _ hq
  | i + 1 => by
    have hz := db_gs_size S cA cI N M z i
    have h1 : S.heap.size ≠ q := by omega
    have h2 : q < (db_gs S cA cI N M z i).heap.size := by rw [hz]; omega
    rw [db_gs, heapAt_setCell_ne _ h1, State.heap_pushCell_of_lt _ _ h2]
    exact db_gs_old hq i
theorem db_gs_row {j : Nat} : ∀ i, j < i → (db_gs S cA cI N M z i).heap[S.heap.size + 1 + j]? = some (arrV cI M (fun _ => z))
  | 0, h => absurd h (Nat.not_lt_zero _)
  | i + 1, h => by
    have hz := db_gs_size S cA cI N M z i
    have h1 : S.heap.size ≠ S.heap.size + 1 + j := by omega
    rw [db_gs, heapAt_setCell_ne _ h1]
    by_cases hj : j < i
    · have h2 : S.heap.size + 1 + j < (db_gs S cA cI N M z i).heap.size := by rw [hz]; omega
      rw [State.heap_pushCell_of_lt _ _ h2]
      exact db_gs_row i hj
    · have e : S.heap.size + 1 + j = (db_gs S cA cI N M z i).heap.size := by rw [hz]; omega
      rw [e]
      exact State.heap_pushCell_size _ _
theorem db_gs_top (f : JFrame) : ∀ i, db_gs (S.setTop f) cA cI N M z i = (db_gs S cA cI N M z i).setTop f
  | 0 => by simp only [db_gs, State.heap_setTop, State.pushCell_setTop]
  | i + 1 => by simp only [db_gs, db_gs_top f i, State.heap_setTop, State.pushCell_setTop, State.setCell_setTop]
end DBG
theorem db_gs_stand {p : Program} {l : Launch} {e : Env} {R : Room} {s : State} {m : MethodId} {args : Array Value} {below : List Frame} {meth : Method} {c : Code} {T : State} {locs : List Loc} {cells slots : Nat} (X : Stand p l e R s m args below meth c T locs cells slots) (cA cI : ClassId) (N M : Nat) (z : Value) :
    ∀ i, Stand p l e R s m args below meth c (db_gs T cA cI N M z i) (locs ++ (List.range i).map fun j => ⟨T.heap.size, j⟩) (cells + 1 + i) (slots + N + i * M)
  | 0 => by
    have h := X.pushed (db_oc cA N T.heap.size 0)
    rw [show (db_oc cA N T.heap.size 0).slots.size = N from arrV_size _ _ _] at h
    simpa [db_gs] using h
  | i + 1 => by
    have Xi := db_gs_stand X cA cI N M z i
    have hcell : ((db_gs T cA cI N M z i).pushCell (arrV cI M (fun _ => z))).heap[T.heap.size]? = some (db_oc cA N T.heap.size i) := by
      have h2 : T.heap.size < (db_gs T cA cI N M z i).heap.size := by rw [db_gs_size]; omega
      rw [State.heap_pushCell_of_lt _ _ h2]
      exact db_gs_outer T cA cI N M z i
    have h := (Xi.pushed (arrV cI M (fun _ => z))).stored hcell i (.ref (T.heap.size + 1 + i))
    rw [db_oc_next, show (arrV cI M (fun _ => z)).slots.size = M from arrV_size _ _ _] at h
    have e2 : (locs ++ (List.range (i + 1)).map fun j => (⟨T.heap.size, j⟩ : Loc)) = (locs ++ (List.range i).map fun j => (⟨T.heap.size, j⟩ : Loc)) ++ [⟨T.heap.size, i⟩] := by simp [List.range_succ, List.append_assoc]
    rw [e2, show slots + N + (i + 1) * M = slots + N + i * M + M by rw [Nat.succ_mul]; omega]
    exact h
section DBGW
variable {E : CtlPost} {e : Env} {d : Bool} {acts : List Action} {S : State}
theorem db_make1 {cI cc : ClassId} {kI : Class} {ty : FieldType} {y : Int32} (hk : S.vm.classes[cI]? = some kI) (hkind : kI.kind = .array cc ty) (hy : ¬ y < 0) (hlim : ¬ y.toNatClampNeg > e.platform.arrayLengthLimit) (hhp : ¬ y.toNatClampNeg * componentBytes ty > e.platform.maxHeapBytes) (hft : fits ty (defaultValue ty) = true)
    (hc : S.heap.size < e.platform.maxCells) (hs : S.slotsUsed + y.toNatClampNeg ≤ e.platform.maxSlots) {Q : Addr → Pre} (hq : ∀ acts', Q S.heap.size d acts' (S.pushCell (arrV cI y.toNatClampNeg (fun _ => defaultValue ty)))) : wp (multianewarray.make cI [y]) Q E e d acts S := by
  rw [multianewarray.make]
  simp only [wp_bind', W.ite, hy, if_false, wp_pure', W.theClass, hk, hkind, Option.some.injEq, exists_eq_left']
  refine W.newArray_of hk hkind hlim hhp hc hs hft fun acts' => ?_
  have h := hq acts'
  rw [← arrV_new] at h
  exact h
theorem db_make2 {cA cI cc : ClassId} {kA kI : Class} {ty : FieldType} {x y : Int32} (hkA : S.vm.classes[cA]? = some kA) (hkindA : kA.kind = .array cI (.array ty)) (hkI : S.vm.classes[cI]? = some kI) (hkindI : kI.kind = .array cc ty) (hx : ¬ x < 0) (hy : ¬ y < 0)
    (hl1 : ¬ x.toNatClampNeg > e.platform.arrayLengthLimit) (hh1 : ¬ x.toNatClampNeg * componentBytes (.array ty) > e.platform.maxHeapBytes) (hl2 : ¬ y.toNatClampNeg > e.platform.arrayLengthLimit) (hh2 : ¬ y.toNatClampNeg * componentBytes ty > e.platform.maxHeapBytes) (hft : fits ty (defaultValue ty) = true)
    (hc : S.heap.size + 1 + x.toNatClampNeg ≤ e.platform.maxCells) (hs : S.slotsUsed + x.toNatClampNeg + x.toNatClampNeg * y.toNatClampNeg ≤ e.platform.maxSlots) {Q : Addr → Pre}
    (hq : ∀ d' acts', Q S.heap.size d' acts' (db_gs S cA cI x.toNatClampNeg y.toNatClampNeg (defaultValue ty) x.toNatClampNeg)) : wp (multianewarray.make cA [x, y]) Q E e d acts S := by
  generalize hN : x.toNatClampNeg = N at *
  generalize hM : y.toNatClampNeg = M at *
  have hfind : ([y].find? (· < 0)) = none := by simp [hy]
  rw [multianewarray.make]
  simp only [wp_bind', W.ite, hx, if_false, wp_pure', W.theClass, hkA, hkindA, Option.some.injEq, exists_eq_left', hN]
  have hNM : 0 ≤ N * M := Nat.zero_le _
  refine W.newArray_of hkA hkindA hl1 hh1 (by omega) (by omega) rfl fun acts1 => ?_
  simp only [hfind]
  rw [ite_self, wp_bind', Std.Legacy.Range.forIn_eq_forIn_range']
  rw [show ([:N] : Std.Legacy.Range).size = N by simp [Std.Legacy.Range.size]]
  have e0 : S.pushCell { cls := cA, slots := Array.replicate N Value.null } = db_gs S cA cI N M (defaultValue ty) 0 := by
    show _ = S.pushCell (db_oc cA N S.heap.size 0)
    congr 1
    rw [show db_oc cA N S.heap.size 0 = arrV cA N (fun _ => Value.null) by unfold db_oc; exact congrArg (arrV cA N) (funext fun j => by simp), ← arrV_new]
  rw [e0]
  refine wp_forIn_inv (fun todo S' => ∃ i, i ≤ N ∧ todo = List.range' i (N - i) ∧ S' = db_gs S cA cI N M (defaultValue ty) i) _ _ ⟨0, Nat.zero_le _, rfl, rfl⟩ ?_ ?_
  · rintro j todo S' d' acts' Q' ⟨i, hi, hl, rfl⟩ hnext
    have hlt : i < N := by
      rcases Nat.lt_or_ge i N with h | h
      · exact h
      · rw [show N - i = 0 by omega] at hl; cases hl
    rw [show N - i = (N - (i + 1)) + 1 by omega, List.range'_succ] at hl
    obtain ⟨rfl, htodo⟩ : j = i ∧ todo = List.range' (i + 1) (N - (i + 1)) := ⟨(List.cons.inj hl).1, (List.cons.inj hl).2⟩
    have hz := db_gs_size S cA cI N M (defaultValue ty) j
    have hu := db_gs_used S cA cI N M (defaultValue ty) j
    have hv := db_gs_vm S cA cI N M (defaultValue ty) j
    have hmul : j * M + M ≤ N * M := by
      have := Nat.mul_le_mul_right M (show j + 1 ≤ N from hlt)
      rwa [Nat.succ_mul] at this
    simp only [wp_bind']
    refine db_make1 (kI := kI) (cc := cc) (ty := ty) (by rw [hv]; exact hkI) hkindI hy (by rw [hM]; exact hl2) (by rw [hM]; exact hh2) hft (by rw [hz]; omega) (by rw [hu, hM]; omega) fun acts2 => ?_
    rw [hM]
    simp only [wp_bind', W.writeLoc, wp_pure']
    have hcell : ((db_gs S cA cI N M (defaultValue ty) j).pushCell (arrV cI M (fun _ => defaultValue ty))).heap[S.heap.size]? = some (db_oc cA N S.heap.size j) := by
      have h2 : S.heap.size < (db_gs S cA cI N M (defaultValue ty) j).heap.size := by rw [hz]; omega
      rw [State.heap_pushCell_of_lt _ _ h2]
      exact db_gs_outer S cA cI N M (defaultValue ty) j
    refine ⟨_, hcell, (fun h => by cases h), by rw [show (db_oc cA N S.heap.size j).slots.size = N from arrV_size _ _ _]; exact hlt, ?_, hnext _ _ _ ⟨j + 1, hlt, htodo, ?_⟩⟩
    · show State.fitsSlot _ cA .none j _ = true
      simp [State.fitsSlot, State.slotType?, hv, hkA, hkindA]
      rfl
    · rw [hz, db_oc_next]
      rfl
  · rintro S' d' acts' ⟨i, hi, hl, rfl⟩
    have hiN : i = N := by
      rcases Nat.lt_or_ge i N with h | h
      · rw [show N - i = (N - (i + 1)) + 1 by omega, List.range'_succ] at hl; cases hl
      · omega
    subst hiN
    simp only [wp_pure']
    exact hq _ _
end DBGW
theorem db_grid {p : Program} {l : Launch} {e : Env} {R : Room} {s : State} {m : MethodId} {args : Array Value} {below : List Frame} {meth : Method} {c : Code} {T : State} {locs : List Loc} {cells slots : Nat} (X : Stand p l e R s m args below meth c T locs cells slots) (hexec : p.tables.exec = Jvm.exec) {own : String} {index : Nat} {ty : FieldType}
    (hown : s.vm.findClass own = some m.cls) (hclink : (Cond.classLink own index ("[" ++ (FieldType.array ty).toString)).before args s = true) (hover : db_AA ty s) (harr : (Cond.arrayClass ty).before args s = true)
    {g : JFrame} (hg : g.method = m) (hdg : decode c.code g.pc = .ok (.multianewarray index 2, 4)) {x y : Int32} {rest : List Value} (hstack : g.stack = .int y :: .int x :: rest) (hx : ¬ x < 0) (hy : ¬ y < 0) (hb1 : x.toNatClampNeg ≤ 100) (hb2 : y.toNatClampNeg ≤ 100) (hcb : componentBytes ty ≤ 8) (hft : fits ty (defaultValue ty) = true)
    (hcells : cells + (1 + x.toNatClampNeg) ≤ R.cells) (hslots : slots + (x.toNatClampNeg + x.toNatClampNeg * y.toNatClampNeg) ≤ R.slots) :
    ∃ (vm₁ : Vm) (cA cI : ClassId), s.WarmedH vm₁ ∧ s.vm.findClass ("[" ++ (FieldType.array ty).toString) = some cA ∧ s.vm.findClass (FieldType.array ty).toString = some cI ∧
      Stand p l e R s m args below meth c (db_gs (T.setVm vm₁) cA cI x.toNatClampNeg y.toNatClampNeg (defaultValue ty) x.toNatClampNeg) (locs ++ (List.range x.toNatClampNeg).map fun j => ⟨T.heap.size, j⟩) (cells + 1 + x.toNatClampNeg) (slots + x.toNatClampNeg + x.toNatClampNeg * y.toNatClampNeg) ∧
      ∀ target, Steps p.tables e below ((db_gs (T.setVm vm₁) cA cI x.toNatClampNeg y.toNatClampNeg (defaultValue ty) x.toNatClampNeg).setTop { g with pc := g.pc + 4, stack := .ref T.heap.size :: rest }) target → Steps p.tables e below (T.setTop g) target := by
  subst hg
  have hpl : e.platform.magicAccessors = ({} : Platform).magicAccessors := by rw [X.admits.platform]
  obtain ⟨cI, cA, kA, hcomp, -, hkA, hkindA, hnameA⟩ := arrayOverA_spec hover
  obtain ⟨cI', kI, cc, hcI', hkI, hkindI⟩ := Cond.arrayClass_spec harr
  have ecomp : cI' = cI := Option.some.inj (hcI'.symm.trans hcomp)
  subst ecomp
  obtain ⟨c0, hfc0, hcl⟩ := Cond.classLink_spec hown hclink e.platform hpl
  cases hnameA.symm.trans hfc0
  obtain ⟨hg₁, hwarm₁, -⟩ := State.classEntry (e := e) X.warmed hcl
  generalize T.vm.noted g.method.cls index (.cls cA) = vm₁ at hg₁ hwarm₁
  have hal : s.vm.Alike vm₁ := hwarm₁.alike
  obtain ⟨kA₁, hkA₁, heA⟩ := hal.2.2 _ _ hkA
  obtain ⟨kI₁, hkI₁, heI⟩ := hal.2.2 _ _ hkI
  have X₁ := X.noted hwarm₁
  obtain ⟨hr1, hr2⟩ := X.roomAbove hcells hslots
  have XF := db_gs_stand X₁ cA cI' x.toNatClampNeg y.toNatClampNeg (defaultValue ty) x.toNatClampNeg
  refine ⟨vm₁, cA, cI', hwarm₁, hnameA, hcomp, XF, fun target hrest => ?_⟩
  have hlm := Launch.admits_arrayLengthLimit X.admits
  have hhp := Launch.admits_maxHeapBytes X.admits
  have hm8 : y.toNatClampNeg * componentBytes ty ≤ 100 * 8 := Nat.mul_le_mul hb2 hcb
  jvm_step X.here [hexec, hdg]
  simp only [multianewarray.sem, wp_bind', W.resolveClassAt_links (State.method?_setTop g X.here.top) hg₁]
  rw [W.popN, if_neg (by decide)]
  refine ⟨g, State.topJava?_setTop' (s := T.setVm vm₁) g X.here.top, [.int x, .int y], rest, rfl, hstack, ?_⟩
  simp only [List.mapM_cons, List.mapM_nil, wp_bind', wp_pure']
  refine db_make2 (kA := kA₁) (kI := kI₁) (cI := cI') (cc := cc) (ty := ty) hkA₁ (by rw [heA]; exact hkindA) hkI₁ (by rw [heI]; exact hkindI) hx hy (by rw [hlm]; omega) (by rw [hhp]; show ¬ _ * 4 > _; omega) (by rw [hlm]; omega) (by rw [hhp]; omega) hft (by show T.heap.size + 1 + _ ≤ _; omega) (by show T.slotsUsed + _ + _ ≤ _; omega) (fun d' acts' => ?_)
  have eS : ((T.setTop g).setVm vm₁).setTop { g with stack := rest } = (T.setVm vm₁).setTop { g with stack := rest } := by
    show ((T.setVm vm₁).setTop g).setTop _ = _
    rw [State.setTop_setTop]
  rw [eS, db_gs_top]
  simp only [wp_bind', W.mark, W.pushRef, State.topJava?_setTop' _ XF.here.top, Option.some.injEq, exists_eq_left', State.setTop_setTop, State.heap_setTop]
  intro acts
  simp [jvm, XF.here.top]
  exact hrest
