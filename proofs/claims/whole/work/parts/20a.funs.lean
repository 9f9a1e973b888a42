/-! THE METHODS AS PURE FUNCTIONS: written by wip/whole/gen16.py out of the listed instructions -/
def db_bd {α β : Type} (f : Option (α × db_S)) (t : α → db_S → Option β) : Option β := f.bind fun q => t q.1 q.2
/-- a reference that is one of ours -/
def db_g4 {β : Type} (a : Nat) (t : Nat → Option β) : Option β := cond (Nat.ble 4 a) (t a) none
/-- fuel of a recursion -/
def db_FR : Nat := 12
section DBRD
variable {β : Type} {X : db_X} {d : Nat} {mr mr' : db_MR} {pc pc' : Nat} {lv lv1 : db_V} {st r as rest : List Value} {s : db_S} {w : β → Option Value × db_S} {ks : Option (List Nat)} {i : Instr}
theorem db_RcdI {f : Option (Int32 × db_S)} {t : Int32 → db_S → Option β} (hf : db_fi pc mr.2.2.2.2.2.1 = some (i, ks)) (hn : db_nrm lv ks = some lv1) (hr : db_ret mr i st = none) (hc : db_cal mr i st (db_me s) = some (mr', as, rest)) (hp : pc' = pc + 3) (hM : db_Rf X d mr' 0 (lv_args 0 as) [] s db_zI f) (k : ∀ q s', db_Rf X (d + 1) mr pc' lv1 (.int q :: rest) s' w (t q s')) : db_Rf X (d + 1) mr pc lv st s w (db_bd f t) := db_RczI hf hn hr hc hp hM k
theorem db_RcdB {f : Option (Bool × db_S)} {t : Bool → db_S → Option β} (hf : db_fi pc mr.2.2.2.2.2.1 = some (i, ks)) (hn : db_nrm lv ks = some lv1) (hr : db_ret mr i st = none) (hc : db_cal mr i st (db_me s) = some (mr', as, rest)) (hp : pc' = pc + 3) (hM : db_Rf X d mr' 0 (lv_args 0 as) [] s db_zB f) (k : ∀ q s', db_Rf X (d + 1) mr pc' lv1 (.int (db_i q) :: rest) s' w (t q s')) : db_Rf X (d + 1) mr pc lv st s w (db_bd f t) := db_RczB hf hn hr hc hp hM k
theorem db_RcdL {f : Option (Int64 × db_S)} {t : Int64 → db_S → Option β} (hf : db_fi pc mr.2.2.2.2.2.1 = some (i, ks)) (hn : db_nrm lv ks = some lv1) (hr : db_ret mr i st = none) (hc : db_cal mr i st (db_me s) = some (mr', as, rest)) (hp : pc' = pc + 3) (hM : db_Rf X d mr' 0 (lv_args 0 as) [] s db_zL f) (k : ∀ q s', db_Rf X (d + 1) mr pc' lv1 (.long q :: rest) s' w (t q s')) : db_Rf X (d + 1) mr pc lv st s w (db_bd f t) := db_RczL hf hn hr hc hp hM k
theorem db_RcdR {f : Option (Nat × db_S)} {t : Nat → db_S → Option β} (hf : db_fi pc mr.2.2.2.2.2.1 = some (i, ks)) (hn : db_nrm lv ks = some lv1) (hr : db_ret mr i st = none) (hc : db_cal mr i st (db_me s) = some (mr', as, rest)) (hp : pc' = pc + 3) (hM : db_Rf X d mr' 0 (lv_args 0 as) [] s db_zR f) (k : ∀ q s', db_Rf X (d + 1) mr pc' lv1 (.ref q :: rest) s' w (t q s')) : db_Rf X (d + 1) mr pc lv st s w (db_bd f t) := db_RczR hf hn hr hc hp hM k
theorem db_RgF {a : Nat} {t : Nat → Option β} (k : ∀ y, db_Rf X d mr pc lv (.ref (y + 4) :: r) s w (t (y + 4))) : db_Rf X d mr pc lv (.ref a :: r) s w (db_g4 a t) := db_Rg4 k
theorem db_RlenK {n : Int32} {a : Nat} {t : Option β} (hf : db_fi pc mr.2.2.2.2.2.1 = some (.arraylength, ks)) (hn : db_nrm lv ks = some lv1) (hp : pc' = pc + 1) (hl : db_ln a = some n) (k : db_Rf X d mr pc' lv1 (.int n :: r) s w t) : db_Rf X d mr pc lv (.ref a :: r) s w t := by
  have h := db_Rlen (a := a) (t := fun x => if x = n then t else none) (X := X) (d := d) (s := s) (w := w) (r := r) hf hn hp fun x => by
    by_cases hx : x = n
    · subst hx; simpa using k
    · simp only [hx, if_false]; exact db_Rnone
  simpa [hl] using h
theorem db_swd {x : Int32} {lo hi : Int} (n : Nat) (hn : hi - lo < n) (h : ∀ k : Nat, k < n → x ≠ Int32.ofInt (lo + k)) : x.toInt < lo ∨ hi < x.toInt := by
  by_cases h1 : x.toInt < lo
  · exact Or.inl h1
  by_cases h2 : hi < x.toInt
  · exact Or.inr h2
  exfalso
  refine h (x.toInt - lo).toNat (by omega) ?_
  rw [show lo + ((x.toInt - lo).toNat : Int) = x.toInt by omega]
  exact (Int32.ofInt_toInt x).symm
end DBRD

/-- DreamBook.status()I -/
noncomputable def db_f22 (s : db_S) : Option Int32 :=
  (some (s.1 4 0))
set_option maxRecDepth 100000 in
theorem db_f22_ok {X : db_X} {d : Nat} {s : db_S} : db_Rf X (d + 0) dbm_22 0 (lv_args 0 [.ref 4]) [] s (db_yI s) (db_f22 s ) := by
  show db_Rf _ _ _ 0 [(0, .ref 4)] [] _ _ _
  unfold db_f22
  refine db_Rgo (pc' := 4) (lv' := [(0, .ref 4)]) (st' := [.int (s.1 4 0)]) 2 rfl ?_
  exact db_Rret (lv1 := [(0, .ref 4)]) rfl rfl rfl rfl
/-- DreamBookModel.status()I -/
noncomputable def db_f207 (s : db_S) : Option (Int32 × db_S) :=
  ((db_pI s 669 1 (0 : Int32)).bind fun s1 => (some ((s1.1 669 0), s1)))
set_option maxRecDepth 100000 in
theorem db_f207_ok {X : db_X} {d : Nat} {s : db_S} : db_Rf X (d + 0) dbm_207 0 (lv_args 0 [.ref 669]) [] s db_zI (db_f207 s ) := by
  show db_Rf _ _ _ 0 [(0, .ref 669)] [] _ _ _
  unfold db_f207
  refine db_Rgo (pc' := 2) (lv' := [(0, .ref 669)]) (st' := [.int (0 : Int32), .ref 669]) 2 rfl ?_
  refine db_RpuI (pc' := 5) (lv1 := [(0, .ref 669)]) rfl rfl rfl rfl rfl rfl (by decide) rfl rfl fun s1 => ?_
  refine db_Rgo (pc' := 9) (lv' := [(0, .ref 669)]) (st' := [.int (s1.1 669 0)]) 2 rfl ?_
  exact db_Rret (lv1 := [(0, .ref 669)]) rfl rfl rfl rfl
/-- DreamBook.top()J -/
noncomputable def db_f23 (s : db_S) : Option Int64 :=
  (some (s.2 282 0))
set_option maxRecDepth 100000 in
theorem db_f23_ok {X : db_X} {d : Nat} {s : db_S} : db_Rf X (d + 0) dbm_23 0 (lv_args 0 [.ref 4]) [] s (db_yL s) (db_f23 s ) := by
  show db_Rf _ _ _ 0 [(0, .ref 4)] [] _ _ _
  unfold db_f23
  refine db_Rgo (pc' := 7) (lv' := [(0, .ref 4)]) (st' := [.long (s.2 282 0)]) 3 rfl ?_
  exact db_Rret (lv1 := [(0, .ref 4)]) rfl rfl rfl rfl
/-- DreamBookModel.top()J -/
noncomputable def db_f208 (s : db_S) : Option (Int64 × db_S) :=
  ((db_pI s 669 1 (0 : Int32)).bind fun s1 => (some ((s1.2 669 2), s1)))
set_option maxRecDepth 100000 in
theorem db_f208_ok {X : db_X} {d : Nat} {s : db_S} : db_Rf X (d + 0) dbm_208 0 (lv_args 0 [.ref 669]) [] s db_zL (db_f208 s ) := by
  show db_Rf _ _ _ 0 [(0, .ref 669)] [] _ _ _
  unfold db_f208
  refine db_Rgo (pc' := 2) (lv' := [(0, .ref 669)]) (st' := [.int (0 : Int32), .ref 669]) 2 rfl ?_
  refine db_RpuI (pc' := 5) (lv1 := [(0, .ref 669)]) rfl rfl rfl rfl rfl rfl (by decide) rfl rfl fun s1 => ?_
  refine db_Rgo (pc' := 9) (lv' := [(0, .ref 669)]) (st' := [.long (s1.2 669 2)]) 2 rfl ?_
  exact db_Rret (lv1 := [(0, .ref 669)]) rfl rfl rfl rfl
/-- DreamBook.bottom()J -/
noncomputable def db_f24 (s : db_S) : Option Int64 :=
  (some (s.2 282 1))
set_option maxRecDepth 100000 in
theorem db_f24_ok {X : db_X} {d : Nat} {s : db_S} : db_Rf X (d + 0) dbm_24 0 (lv_args 0 [.ref 4]) [] s (db_yL s) (db_f24 s ) := by
  show db_Rf _ _ _ 0 [(0, .ref 4)] [] _ _ _
  unfold db_f24
  refine db_Rgo (pc' := 7) (lv' := [(0, .ref 4)]) (st' := [.long (s.2 282 1)]) 3 rfl ?_
  exact db_Rret (lv1 := [(0, .ref 4)]) rfl rfl rfl rfl
/-- DreamBookModel.bottom()J -/
noncomputable def db_f209 (s : db_S) : Option (Int64 × db_S) :=
  ((db_pI s 669 1 (0 : Int32)).bind fun s1 => (some ((s1.2 669 3), s1)))
set_option maxRecDepth 100000 in
theorem db_f209_ok {X : db_X} {d : Nat} {s : db_S} : db_Rf X (d + 0) dbm_209 0 (lv_args 0 [.ref 669]) [] s db_zL (db_f209 s ) := by
  show db_Rf _ _ _ 0 [(0, .ref 669)] [] _ _ _
  unfold db_f209
  refine db_Rgo (pc' := 2) (lv' := [(0, .ref 669)]) (st' := [.int (0 : Int32), .ref 669]) 2 rfl ?_
  refine db_RpuI (pc' := 5) (lv1 := [(0, .ref 669)]) rfl rfl rfl rfl rfl rfl (by decide) rfl rfl fun s1 => ?_
  refine db_Rgo (pc' := 9) (lv' := [(0, .ref 669)]) (st' := [.long (s1.2 669 3)]) 2 rfl ?_
  exact db_Rret (lv1 := [(0, .ref 669)]) rfl rfl rfl rfl
/-- DreamBook.within(III)Z -/
noncomputable def db_f27 (s : db_S) (v0 : Int32) (v1 : Int32) (v2 : Int32) : Option Bool :=
  (cond (db_cnd .lt v0 v1) (some false) (cond (db_cnd .gt v0 v2) (some false) (some true)))
set_option maxRecDepth 100000 in
theorem db_f27_ok {X : db_X} {d : Nat} {s : db_S} {v0 : Int32} {v1 : Int32} {v2 : Int32} : db_Rf X (d + 0) dbm_27 0 (lv_args 0 [.int v0, .int v1, .int v2]) [] s (db_yB s) (db_f27 s v0 v1 v2) := by
  show db_Rf _ _ _ 0 [(0, .int v0), (1, .int v1), (2, .int v2)] [] _ _ _
  unfold db_f27
  refine db_Rgo (pc' := 2) (lv' := [(0, .int v0), (1, .int v1), (2, .int v2)]) (st' := [.int v1, .int v0]) 2 rfl ?_
  refine db_Ric (pc' := 5) (tg := 14) (lv1 := [(0, .int v0), (1, .int v1), (2, .int v2)]) rfl rfl rfl rfl ?_ ?_
  · refine db_Rgo (pc' := 15) (lv' := []) (st' := [.int (0 : Int32)]) 1 rfl ?_
    exact db_Rret (lv1 := []) rfl rfl rfl rfl
  refine db_Rgo (pc' := 7) (lv' := [(0, .int v0), (1, .int v1), (2, .int v2)]) (st' := [.int v2, .int v0]) 2 rfl ?_
  refine db_Ric (pc' := 10) (tg := 14) (lv1 := [(0, .int v0), (1, .int v1), (2, .int v2)]) rfl rfl rfl rfl ?_ ?_
  · refine db_Rgo (pc' := 15) (lv' := []) (st' := [.int (0 : Int32)]) 1 rfl ?_
    exact db_Rret (lv1 := []) rfl rfl rfl rfl
  refine db_Rgo (pc' := 15) (lv' := [(0, .int v0), (1, .int v1), (2, .int v2)]) (st' := [.int (1 : Int32)]) 2 rfl ?_
  exact db_Rret (lv1 := []) rfl rfl rfl rfl
/-- DreamBook$Trays.isTray(I)Z -/
noncomputable def db_f26 (s : db_S) (v1 : Int32) : Option Bool :=
  ((db_f27 s v1 (0 : Int32) (3 : Int32)).bind fun q1 => (some q1))
set_option maxRecDepth 100000 in
theorem db_f26_ok {X : db_X} {d : Nat} {s : db_S} {v1 : Int32} : db_Rf X (d + 1) dbm_26 0 (lv_args 0 [.ref 5, .int v1]) [] s (db_yB s) (db_f26 s v1) := by
  show db_Rf _ _ _ 0 [(0, .ref 5), (1, .int v1)] [] _ _ _
  unfold db_f26
  refine db_Rgo (pc' := 3) (lv' := [(0, .ref 5), (1, .int v1)]) (st' := [.int (3 : Int32), .int (0 : Int32), .int v1]) 3 rfl ?_
  refine db_RcyB (mr' := dbm_27) (as := [.int v1, .int (0 : Int32), .int (3 : Int32)]) (rest := []) (pc' := 6) (lv1 := [(0, .ref 5), (1, .int v1)]) rfl rfl rfl rfl rfl (db_f27_ok) fun q1 => ?_
  exact db_RretB (lv1 := [(0, .ref 5), (1, .int v1)]) rfl rfl rfl rfl
noncomputable def db_f30_b6 : Nat → db_S → Nat → Int64 → Int32 → Int32 → Option db_S
  | 0, _, _, _, _, _ => none
  | n + 1, s, a0, v1, v3, v4 =>
    (cond (db_cnd .ge v3 v4) (some s) ((db_wL s a0 v3 v1).bind fun s1 => (db_f30_b6 n s1 a0 v1 (v3 + (1 : Int32)) v4)))
set_option maxRecDepth 100000 in
theorem db_f30_b6_ok {X : db_X} {d : Nat}  (n : Nat) : ∀ (s : db_S) (a0 : Nat) (v1 : Int64) (v3 : Int32) (v4 : Int32), db_Rf X (d + 0) dbm_30 6 [(0, .ref (a0 + 4)), (1, .long v1), (3, .int v3), (4, .int v4)] [] s db_zV (db_f30_b6 n s (a0 + 4) v1 v3 v4) := by
  induction n with
  | zero => intros; exact db_Rnone
  | succ n ih =>
    intro s a0 v1 v3 v4
    unfold db_f30_b6
    refine db_Rgo (pc' := 9) (lv' := [(0, .ref (a0 + 4)), (1, .long v1), (3, .int v3), (4, .int v4)]) (st' := [.int v4, .int v3]) 2 rfl ?_
    refine db_Ric (pc' := 12) (tg := 22) (lv1 := [(0, .ref (a0 + 4)), (1, .long v1), (3, .int v3), (4, .int v4)]) rfl rfl rfl rfl ?_ ?_
    · exact db_Rret (lv1 := []) rfl rfl rfl rfl
    refine db_Rgo (pc' := 15) (lv' := [(0, .ref (a0 + 4)), (1, .long v1), (3, .int v3), (4, .int v4)]) (st' := [.long v1, .int v3, .ref (a0 + 4)]) 3 rfl ?_
    refine db_RstL (pc' := 16) (lv1 := [(0, .ref (a0 + 4)), (1, .long v1), (3, .int v3), (4, .int v4)]) rfl rfl rfl fun s1 => ?_
    refine db_Rgo (pc' := 6) (lv' := [(3, .int (v3 + (1 : Int32))), (0, .ref (a0 + 4)), (1, .long v1), (4, .int v4)]) (st' := []) 2 rfl ?_
    refine db_Rn (lv1 := [(0, .ref (a0 + 4)), (1, .long v1), (3, .int (v3 + (1 : Int32))), (4, .int v4)]) rfl rfl rfl ?_
    exact ih _ _ _ _ _
/-- java/util/Arrays.fill([JJ)V -/
noncomputable def db_f30 (s : db_S) (a0 : Nat) (v1 : Int64) : Option db_S :=
  ((db_ln a0).bind fun x1 => (db_f30_b6 db_FU s a0 v1 (0 : Int32) x1))
set_option maxRecDepth 100000 in
theorem db_f30_ok {X : db_X} {d : Nat} {s : db_S} {a0 : Nat} {v1 : Int64} : db_Rf X (d + 0) dbm_30 0 (lv_args 0 [.ref (a0 + 4), .long v1]) [] s db_zV (db_f30 s (a0 + 4) v1) := by
  show db_Rf _ _ _ 0 [(0, .ref (a0 + 4)), (1, .long v1)] [] _ _ _
  unfold db_f30
  refine db_Rgo (pc' := 3) (lv' := [(3, .int (0 : Int32)), (0, .ref (a0 + 4)), (1, .long v1)]) (st' := [.ref (a0 + 4)]) 3 rfl ?_
  refine db_Rlen (pc' := 4) (lv1 := [(3, .int (0 : Int32)), (0, .ref (a0 + 4)), (1, .long v1)]) rfl rfl rfl fun x1 => ?_
  refine db_Rgo (pc' := 6) (lv' := [(4, .int x1), (3, .int (0 : Int32)), (0, .ref (a0 + 4)), (1, .long v1)]) (st' := []) 1 rfl ?_
  refine db_Rn (lv1 := [(0, .ref (a0 + 4)), (1, .long v1), (3, .int (0 : Int32)), (4, .int x1)]) rfl rfl rfl ?_
  exact db_f30_b6_ok db_FU _ _ _ _ _
/-- DreamBook$Trays.lay(III)V -/
noncomputable def db_f29 (s : db_S) (v1 : Int32) (v2 : Int32) (v3 : Int32) : Option db_S :=
  ((db_rR 6 v1).bind fun y1 => ((db_f30 s y1 (0 : Int64)).bind fun s3 => ((db_wI s3 11 v1 v2).bind fun s4 => ((db_wI s4 12 v1 v3).bind fun s5 => (some s5)))))
set_option maxRecDepth 100000 in
theorem db_f29_ok {X : db_X} {d : Nat} {s : db_S} {v1 : Int32} {v2 : Int32} {v3 : Int32} : db_Rf X (d + 1) dbm_29 0 (lv_args 0 [.ref 5, .int v1, .int v2, .int v3]) [] s db_zV (db_f29 s v1 v2 v3) := by
  show db_Rf _ _ _ 0 [(0, .ref 5), (1, .int v1), (2, .int v2), (3, .int v3)] [] _ _ _
  unfold db_f29
  refine db_Rgo (pc' := 5) (lv' := [(0, .ref 5), (1, .int v1), (2, .int v2), (3, .int v3)]) (st' := [.int v1, .ref 6]) 3 rfl ?_
  refine db_RldR (pc' := 6) (lv1 := [(0, .ref 5), (1, .int v1), (2, .int v2), (3, .int v3)]) rfl rfl rfl fun y1 => ?_
  refine db_Rgo (pc' := 7) (lv' := [(0, .ref 5), (1, .int v1), (2, .int v2), (3, .int v3)]) (st' := [.long (0 : Int64), .ref (y1 + 4)]) 1 rfl ?_
  refine db_RcV (mr' := dbm_30) (as := [.ref (y1 + 4), .long (0 : Int64)]) (rest := []) (pc' := 10) (lv1 := [(0, .ref 5), (1, .int v1), (2, .int v2), (3, .int v3)]) rfl rfl rfl rfl rfl (db_f30_ok) fun s3 => ?_
  refine db_Rgo (pc' := 16) (lv' := [(0, .ref 5), (1, .int v1), (2, .int v2), (3, .int v3)]) (st' := [.int v2, .int v1, .ref 11]) 4 rfl ?_
  refine db_RstI (pc' := 17) (lv1 := [(0, .ref 5), (1, .int v1), (2, .int v2), (3, .int v3)]) rfl rfl rfl fun s4 => ?_
  refine db_Rgo (pc' := 23) (lv' := [(0, .ref 5), (1, .int v1), (2, .int v2), (3, .int v3)]) (st' := [.int v3, .int v1, .ref 12]) 4 rfl ?_
  refine db_RstI (pc' := 24) (lv1 := [(0, .ref 5), (1, .int v1), (2, .int v2), (3, .int v3)]) rfl rfl rfl fun s5 => ?_
  exact db_Rret (lv1 := [(0, .ref 5), (1, .int v1), (2, .int v2), (3, .int v3)]) rfl rfl rfl rfl
/-- DreamBook.agree()Z -/
noncomputable def db_f31 (s : db_S) : Option (Bool × db_S) :=
  ((db_pI s 4 0 (0 : Int32)).bind fun s1 => (some (true, s1)))
set_option maxRecDepth 100000 in
theorem db_f31_ok {X : db_X} {d : Nat} {s : db_S} : db_Rf X (d + 0) dbm_31 0 (lv_args 0 [.ref 4]) [] s db_zB (db_f31 s ) := by
  show db_Rf _ _ _ 0 [(0, .ref 4)] [] _ _ _
  unfold db_f31
  refine db_Rgo (pc' := 2) (lv' := [(0, .ref 4)]) (st' := [.int (0 : Int32), .ref 4]) 2 rfl ?_
  refine db_RpuI (pc' := 5) (lv1 := [(0, .ref 4)]) rfl rfl rfl rfl rfl rfl (by decide) rfl rfl fun s1 => ?_
  refine db_Rgo (pc' := 6) (lv' := [(0, .ref 4)]) (st' := [.int (1 : Int32)]) 1 rfl ?_
  exact db_Rret (lv1 := [(0, .ref 4)]) rfl rfl rfl rfl
/-- DreamBook.refuse(I)Z -/
noncomputable def db_f28 (s : db_S) (v1 : Int32) : Option (Bool × db_S) :=
  ((db_pI s 4 0 v1).bind fun s1 => (some (false, s1)))
set_option maxRecDepth 100000 in
theorem db_f28_ok {X : db_X} {d : Nat} {s : db_S} {v1 : Int32} : db_Rf X (d + 0) dbm_28 0 (lv_args 0 [.ref 4, .int v1]) [] s db_zB (db_f28 s v1) := by
  show db_Rf _ _ _ 0 [(0, .ref 4), (1, .int v1)] [] _ _ _
  unfold db_f28
  refine db_Rgo (pc' := 2) (lv' := [(0, .ref 4), (1, .int v1)]) (st' := [.int v1, .ref 4]) 2 rfl ?_
  refine db_RpuI (pc' := 5) (lv1 := [(0, .ref 4), (1, .int v1)]) rfl rfl rfl rfl rfl rfl (by decide) rfl rfl fun s1 => ?_
  refine db_Rgo (pc' := 6) (lv' := [(0, .ref 4), (1, .int v1)]) (st' := [.int (0 : Int32)]) 1 rfl ?_
  exact db_Rret (lv1 := [(0, .ref 4), (1, .int v1)]) rfl rfl rfl rfl
noncomputable def db_f25_b20 (s : db_S) : Option (Bool × db_S) :=
  (db_bd (db_f28 s (1 : Int32)) fun q1 s2 => (some (q1, s2)))
set_option maxRecDepth 100000 in
theorem db_f25_b20_ok {X : db_X} {d : Nat}  {s : db_S} : db_Rf X (d + 2) dbm_25 20 [(0, .ref 4)] [] s db_zB (db_f25_b20 s ) := by
  unfold db_f25_b20
  refine db_Rgo (pc' := 22) (lv' := [(0, .ref 4)]) (st' := [.int (1 : Int32), .ref 4]) 2 rfl ?_
  refine db_RcdB (mr' := dbm_28) (as := [.ref 4, .int (1 : Int32)]) (rest := []) (pc' := 25) (lv1 := [(0, .ref 4)]) rfl rfl rfl rfl rfl (db_f28_ok) fun q1 s2 => ?_
  exact db_RretB (lv1 := [(0, .ref 4)]) rfl rfl rfl rfl
/-- DreamBook.tray(III)Z -/
noncomputable def db_f25 (s : db_S) (v1 : Int32) (v2 : Int32) (v3 : Int32) : Option (Bool × db_S) :=
  ((db_f26 s v1).bind fun q1 => (cond q1 ((db_f27 s v2 (0 : Int32) (3 : Int32)).bind fun q3 => (cond q3 (cond (db_cnd .le v3 (60 : Int32)) (cond (db_cnd .ge v3 0) ((db_f29 s v1 v2 v3).bind fun s6 => (db_bd (db_f31 s6) fun q7 s8 => (some (q7, s8)))) (db_bd (db_f28 s (6 : Int32)) fun q9 s10 => (some (q9, s10)))) (db_bd (db_f28 s (5 : Int32)) fun q11 s12 => (some (q11, s12)))) (db_f25_b20 s ))) (db_f25_b20 s )))
set_option maxRecDepth 100000 in
theorem db_f25_ok {X : db_X} {d : Nat} {s : db_S} {v1 : Int32} {v2 : Int32} {v3 : Int32} : db_Rf X (d + 2) dbm_25 0 (lv_args 0 [.ref 4, .int v1, .int v2, .int v3]) [] s db_zB (db_f25 s v1 v2 v3) := by
  show db_Rf _ _ _ 0 [(0, .ref 4), (1, .int v1), (2, .int v2), (3, .int v3)] [] _ _ _
  unfold db_f25
  refine db_Rgo (pc' := 5) (lv' := [(0, .ref 4), (1, .int v1), (2, .int v2), (3, .int v3)]) (st' := [.int v1, .ref 5]) 3 rfl ?_
  refine db_RcyB (mr' := dbm_26) (as := [.ref 5, .int v1]) (rest := []) (pc' := 8) (lv1 := [(0, .ref 4), (1, .int v1), (2, .int v2), (3, .int v3)]) rfl rfl rfl rfl rfl (db_f26_ok) fun q1 => ?_
  refine db_RifBe (pc' := 11) (tg := 20) (lv1 := [(0, .ref 4), (1, .int v1), (2, .int v2), (3, .int v3)]) rfl rfl rfl rfl ?_ ?_
  · refine db_Rn (lv1 := [(0, .ref 4)]) rfl rfl rfl ?_
    exact db_f25_b20_ok
  refine db_Rgo (pc' := 14) (lv' := [(0, .ref 4), (1, .int v1), (2, .int v2), (3, .int v3)]) (st' := [.int (3 : Int32), .int (0 : Int32), .int v2]) 3 rfl ?_
  refine db_RcyB (mr' := dbm_27) (as := [.int v2, .int (0 : Int32), .int (3 : Int32)]) (rest := []) (pc' := 17) (lv1 := [(0, .ref 4), (1, .int v1), (2, .int v2), (3, .int v3)]) rfl rfl rfl rfl rfl (db_f27_ok) fun q3 => ?_
  refine db_RifBn (pc' := 20) (tg := 26) (lv1 := [(0, .ref 4), (1, .int v1), (2, .int v2), (3, .int v3)]) rfl rfl rfl rfl ?_ ?_
  · refine db_Rgo (pc' := 29) (lv' := [(0, .ref 4), (1, .int v1), (2, .int v2), (3, .int v3)]) (st' := [.int (60 : Int32), .int v3]) 2 rfl ?_
    refine db_Ric (pc' := 32) (tg := 38) (lv1 := [(0, .ref 4), (1, .int v1), (2, .int v2), (3, .int v3)]) rfl rfl rfl rfl ?_ ?_
    · refine db_Rgo (pc' := 39) (lv' := [(0, .ref 4), (1, .int v1), (2, .int v2), (3, .int v3)]) (st' := [.int v3]) 1 rfl ?_
      refine db_Rif (pc' := 42) (tg := 49) (lv1 := [(0, .ref 4), (1, .int v1), (2, .int v2), (3, .int v3)]) rfl rfl rfl rfl ?_ ?_
      · refine db_Rgo (pc' := 56) (lv' := [(0, .ref 4), (1, .int v1), (2, .int v2), (3, .int v3)]) (st' := [.int v3, .int v2, .int v1, .ref 5]) 5 rfl ?_
        refine db_RcV (mr' := dbm_29) (as := [.ref 5, .int v1, .int v2, .int v3]) (rest := []) (pc' := 59) (lv1 := [(0, .ref 4), (1, .int v1), (2, .int v2), (3, .int v3)]) rfl rfl rfl rfl rfl (db_f29_ok) fun s6 => ?_
        refine db_Rgo (pc' := 60) (lv' := [(0, .ref 4), (1, .int v1), (2, .int v2), (3, .int v3)]) (st' := [.ref 4]) 1 rfl ?_
        refine db_RcdB (mr' := dbm_31) (as := [.ref 4]) (rest := []) (pc' := 63) (lv1 := [(0, .ref 4), (1, .int v1), (2, .int v2), (3, .int v3)]) rfl rfl rfl rfl rfl (db_f31_ok) fun q7 s8 => ?_
        exact db_RretB (lv1 := [(0, .ref 4), (1, .int v1), (2, .int v2), (3, .int v3)]) rfl rfl rfl rfl
      refine db_Rgo (pc' := 45) (lv' := [(0, .ref 4), (1, .int v1), (2, .int v2), (3, .int v3)]) (st' := [.int (6 : Int32), .ref 4]) 2 rfl ?_
      refine db_RcdB (mr' := dbm_28) (as := [.ref 4, .int (6 : Int32)]) (rest := []) (pc' := 48) (lv1 := [(0, .ref 4), (1, .int v1), (2, .int v2), (3, .int v3)]) rfl rfl rfl rfl rfl (db_f28_ok) fun q9 s10 => ?_
      exact db_RretB (lv1 := [(0, .ref 4), (1, .int v1), (2, .int v2), (3, .int v3)]) rfl rfl rfl rfl
    refine db_Rgo (pc' := 34) (lv' := [(0, .ref 4), (1, .int v1), (2, .int v2), (3, .int v3)]) (st' := [.int (5 : Int32), .ref 4]) 2 rfl ?_
    refine db_RcdB (mr' := dbm_28) (as := [.ref 4, .int (5 : Int32)]) (rest := []) (pc' := 37) (lv1 := [(0, .ref 4), (1, .int v1), (2, .int v2), (3, .int v3)]) rfl rfl rfl rfl rfl (db_f28_ok) fun q11 s12 => ?_
    exact db_RretB (lv1 := [(0, .ref 4), (1, .int v1), (2, .int v2), (3, .int v3)]) rfl rfl rfl rfl
  refine db_Rn (lv1 := [(0, .ref 4)]) rfl rfl rfl ?_
  exact db_f25_b20_ok
/-- DreamBookModel.no(I)Z -/
noncomputable def db_f211 (s : db_S) (v1 : Int32) : Option (Bool × db_S) :=
  ((db_pI s 669 0 v1).bind fun s1 => (some (false, s1)))
set_option maxRecDepth 100000 in
theorem db_f211_ok {X : db_X} {d : Nat} {s : db_S} {v1 : Int32} : db_Rf X (d + 0) dbm_211 0 (lv_args 0 [.ref 669, .int v1]) [] s db_zB (db_f211 s v1) := by
  show db_Rf _ _ _ 0 [(0, .ref 669), (1, .int v1)] [] _ _ _
  unfold db_f211
  refine db_Rgo (pc' := 2) (lv' := [(0, .ref 669), (1, .int v1)]) (st' := [.int v1, .ref 669]) 2 rfl ?_
  refine db_RpuI (pc' := 5) (lv1 := [(0, .ref 669), (1, .int v1)]) rfl rfl rfl rfl rfl rfl (by decide) rfl rfl fun s1 => ?_
  refine db_Rgo (pc' := 6) (lv' := [(0, .ref 669), (1, .int v1)]) (st' := [.int (0 : Int32)]) 1 rfl ?_
  exact db_Rret (lv1 := [(0, .ref 669), (1, .int v1)]) rfl rfl rfl rfl
noncomputable def db_f210_b28 (s : db_S) : Option (Bool × db_S) :=
  (db_bd (db_f211 s (1 : Int32)) fun q1 s2 => (some (q1, s2)))
set_option maxRecDepth 100000 in
theorem db_f210_b28_ok {X : db_X} {d : Nat}  {s : db_S} : db_Rf X (d + 1) dbm_210 28 [(0, .ref 669)] [] s db_zB (db_f210_b28 s ) := by
  unfold db_f210_b28
  refine db_Rgo (pc' := 30) (lv' := [(0, .ref 669)]) (st' := [.int (1 : Int32), .ref 669]) 2 rfl ?_
  refine db_RcdB (mr' := dbm_211) (as := [.ref 669, .int (1 : Int32)]) (rest := []) (pc' := 33) (lv1 := [(0, .ref 669)]) rfl rfl rfl rfl rfl (db_f211_ok) fun q1 s2 => ?_
  exact db_RretB (lv1 := [(0, .ref 669)]) rfl rfl rfl rfl
noncomputable def db_f210_b74 : Nat → db_S → Int32 → Int32 → Int32 → Option (Bool × db_S)
  | 0, _, _, _, _ => none
  | n + 1, s, v1, v3, v4 =>
    (cond (db_cnd .ge v4 v3) (some (true, s)) ((db_wL s 672 (((60 : Int32) * v1) + v4) (0 : Int64)).bind fun s1 => (db_f210_b74 n s1 v1 v3 (v4 + (1 : Int32)))))
set_option maxRecDepth 100000 in
theorem db_f210_b74_ok {X : db_X} {d : Nat}  (n : Nat) : ∀ (s : db_S) (v1 : Int32) (v3 : Int32) (v4 : Int32), db_Rf X (d + 1) dbm_210 74 [(0, .ref 669), (1, .int v1), (3, .int v3), (4, .int v4)] [] s db_zB (db_f210_b74 n s v1 v3 v4) := by
  induction n with
  | zero => intros; exact db_Rnone
  | succ n ih =>
    intro s v1 v3 v4
    unfold db_f210_b74
    refine db_Rgo (pc' := 77) (lv' := [(0, .ref 669), (1, .int v1), (3, .int v3), (4, .int v4)]) (st' := [.int v3, .int v4]) 2 rfl ?_
    refine db_Ric (pc' := 80) (tg := 99) (lv1 := [(0, .ref 669), (1, .int v1), (3, .int v3), (4, .int v4)]) rfl rfl rfl rfl ?_ ?_
    · refine db_Rgo (pc' := 100) (lv' := []) (st' := [.int (1 : Int32)]) 1 rfl ?_
      exact db_Rret (lv1 := []) rfl rfl rfl rfl
    refine db_Rgo (pc' := 92) (lv' := [(0, .ref 669), (1, .int v1), (3, .int v3), (4, .int v4)]) (st' := [.long (0 : Int64), .int (((60 : Int32) * v1) + v4), .ref 672]) 8 rfl ?_
    refine db_RstL (pc' := 93) (lv1 := [(0, .ref 669), (1, .int v1), (3, .int v3), (4, .int v4)]) rfl rfl rfl fun s1 => ?_
    refine db_Rgo (pc' := 74) (lv' := [(4, .int (v4 + (1 : Int32))), (0, .ref 669), (1, .int v1), (3, .int v3)]) (st' := []) 2 rfl ?_
    refine db_Rn (lv1 := [(0, .ref 669), (1, .int v1), (3, .int v3), (4, .int (v4 + (1 : Int32)))]) rfl rfl rfl ?_
    exact ih _ _ _ _
/-- DreamBookModel.tray(III)Z -/
noncomputable def db_f210 (s : db_S) (v1 : Int32) (v2 : Int32) (v3 : Int32) : Option (Bool × db_S) :=
  ((db_pI s 669 1 (0 : Int32)).bind fun s1 => ((db_pI s1 669 0 (0 : Int32)).bind fun s2 => (cond (db_cnd .lt v1 0) (db_f210_b28 s2 ) (cond (db_cnd .ge v1 (4 : Int32)) (db_f210_b28 s2 ) (cond (db_cnd .lt v2 0) (db_f210_b28 s2 ) (cond (db_cnd .le v2 (3 : Int32)) (cond (db_cnd .le v3 (60 : Int32)) (cond (db_cnd .ge v3 0) ((db_wI s2 670 v1 v2).bind fun s3 => ((db_wI s3 671 v1 v3).bind fun s4 => (db_f210_b74 db_FU s4 v1 v3 (0 : Int32)))) (db_bd (db_f211 s2 (6 : Int32)) fun q5 s6 => (some (q5, s6)))) (db_bd (db_f211 s2 (5 : Int32)) fun q7 s8 => (some (q7, s8)))) (db_f210_b28 s2 )))))))
set_option maxRecDepth 100000 in
theorem db_f210_ok {X : db_X} {d : Nat} {s : db_S} {v1 : Int32} {v2 : Int32} {v3 : Int32} : db_Rf X (d + 1) dbm_210 0 (lv_args 0 [.ref 669, .int v1, .int v2, .int v3]) [] s db_zB (db_f210 s v1 v2 v3) := by
  show db_Rf _ _ _ 0 [(0, .ref 669), (1, .int v1), (2, .int v2), (3, .int v3)] [] _ _ _
  unfold db_f210
  refine db_Rgo (pc' := 2) (lv' := [(0, .ref 669), (1, .int v1), (2, .int v2), (3, .int v3)]) (st' := [.int (0 : Int32), .ref 669]) 2 rfl ?_
  refine db_RpuI (pc' := 5) (lv1 := [(0, .ref 669), (1, .int v1), (2, .int v2), (3, .int v3)]) rfl rfl rfl rfl rfl rfl (by decide) rfl rfl fun s1 => ?_
  refine db_Rgo (pc' := 7) (lv' := [(0, .ref 669), (1, .int v1), (2, .int v2), (3, .int v3)]) (st' := [.int (0 : Int32), .ref 669]) 2 rfl ?_
  refine db_RpuI (pc' := 10) (lv1 := [(0, .ref 669), (1, .int v1), (2, .int v2), (3, .int v3)]) rfl rfl rfl rfl rfl rfl (by decide) rfl rfl fun s2 => ?_
  refine db_Rgo (pc' := 11) (lv' := [(0, .ref 669), (1, .int v1), (2, .int v2), (3, .int v3)]) (st' := [.int v1]) 1 rfl ?_
  refine db_Rif (pc' := 14) (tg := 28) (lv1 := [(0, .ref 669), (1, .int v1), (2, .int v2), (3, .int v3)]) rfl rfl rfl rfl ?_ ?_
  · refine db_Rn (lv1 := [(0, .ref 669)]) rfl rfl rfl ?_
    exact db_f210_b28_ok
  refine db_Rgo (pc' := 16) (lv' := [(0, .ref 669), (1, .int v1), (2, .int v2), (3, .int v3)]) (st' := [.int (4 : Int32), .int v1]) 2 rfl ?_
  refine db_Ric (pc' := 19) (tg := 28) (lv1 := [(0, .ref 669), (1, .int v1), (2, .int v2), (3, .int v3)]) rfl rfl rfl rfl ?_ ?_
  · refine db_Rn (lv1 := [(0, .ref 669)]) rfl rfl rfl ?_
    exact db_f210_b28_ok
  refine db_Rgo (pc' := 20) (lv' := [(0, .ref 669), (1, .int v1), (2, .int v2), (3, .int v3)]) (st' := [.int v2]) 1 rfl ?_
  refine db_Rif (pc' := 23) (tg := 28) (lv1 := [(0, .ref 669), (1, .int v1), (2, .int v2), (3, .int v3)]) rfl rfl rfl rfl ?_ ?_
  · refine db_Rn (lv1 := [(0, .ref 669)]) rfl rfl rfl ?_
    exact db_f210_b28_ok
  refine db_Rgo (pc' := 25) (lv' := [(0, .ref 669), (1, .int v1), (2, .int v2), (3, .int v3)]) (st' := [.int (3 : Int32), .int v2]) 2 rfl ?_
  refine db_Ric (pc' := 28) (tg := 34) (lv1 := [(0, .ref 669), (1, .int v1), (2, .int v2), (3, .int v3)]) rfl rfl rfl rfl ?_ ?_
  · refine db_Rgo (pc' := 37) (lv' := [(0, .ref 669), (1, .int v1), (2, .int v2), (3, .int v3)]) (st' := [.int (60 : Int32), .int v3]) 2 rfl ?_
    refine db_Ric (pc' := 40) (tg := 46) (lv1 := [(0, .ref 669), (1, .int v1), (2, .int v2), (3, .int v3)]) rfl rfl rfl rfl ?_ ?_
    · refine db_Rgo (pc' := 47) (lv' := [(0, .ref 669), (1, .int v1), (2, .int v2), (3, .int v3)]) (st' := [.int v3]) 1 rfl ?_
      refine db_Rif (pc' := 50) (tg := 57) (lv1 := [(0, .ref 669), (1, .int v1), (2, .int v2), (3, .int v3)]) rfl rfl rfl rfl ?_ ?_
      · refine db_Rgo (pc' := 63) (lv' := [(0, .ref 669), (1, .int v1), (2, .int v2), (3, .int v3)]) (st' := [.int v2, .int v1, .ref 670]) 4 rfl ?_
        refine db_RstI (pc' := 64) (lv1 := [(0, .ref 669), (1, .int v1), (2, .int v2), (3, .int v3)]) rfl rfl rfl fun s3 => ?_
        refine db_Rgo (pc' := 70) (lv' := [(0, .ref 669), (1, .int v1), (2, .int v2), (3, .int v3)]) (st' := [.int v3, .int v1, .ref 671]) 4 rfl ?_
        refine db_RstI (pc' := 71) (lv1 := [(0, .ref 669), (1, .int v1), (2, .int v2), (3, .int v3)]) rfl rfl rfl fun s4 => ?_
        refine db_Rgo (pc' := 74) (lv' := [(4, .int (0 : Int32)), (0, .ref 669), (1, .int v1), (2, .int v2), (3, .int v3)]) (st' := []) 2 rfl ?_
        refine db_Rn (lv1 := [(0, .ref 669), (1, .int v1), (3, .int v3), (4, .int (0 : Int32))]) rfl rfl rfl ?_
        exact db_f210_b74_ok db_FU _ _ _ _
      refine db_Rgo (pc' := 53) (lv' := [(0, .ref 669), (1, .int v1), (2, .int v2), (3, .int v3)]) (st' := [.int (6 : Int32), .ref 669]) 2 rfl ?_
      refine db_RcdB (mr' := dbm_211) (as := [.ref 669, .int (6 : Int32)]) (rest := []) (pc' := 56) (lv1 := [(0, .ref 669), (1, .int v1), (2, .int v2), (3, .int v3)]) rfl rfl rfl rfl rfl (db_f211_ok) fun q5 s6 => ?_
      exact db_RretB (lv1 := [(0, .ref 669), (1, .int v1), (2, .int v2), (3, .int v3)]) rfl rfl rfl rfl
    refine db_Rgo (pc' := 42) (lv' := [(0, .ref 669), (1, .int v1), (2, .int v2), (3, .int v3)]) (st' := [.int (5 : Int32), .ref 669]) 2 rfl ?_
    refine db_RcdB (mr' := dbm_211) (as := [.ref 669, .int (5 : Int32)]) (rest := []) (pc' := 45) (lv1 := [(0, .ref 669), (1, .int v1), (2, .int v2), (3, .int v3)]) rfl rfl rfl rfl rfl (db_f211_ok) fun q7 s8 => ?_
    exact db_RretB (lv1 := [(0, .ref 669), (1, .int v1), (2, .int v2), (3, .int v3)]) rfl rfl rfl rfl
  refine db_Rn (lv1 := [(0, .ref 669)]) rfl rfl rfl ?_
  exact db_f210_b28_ok
/-- DreamBook$Trays.check(I)I -/
noncomputable def db_f33 (s : db_S) (v1 : Int32) : Option Int32 :=
  ((db_f26 s v1).bind fun q1 => (cond q1 ((db_rI s 12 v1).bind fun x3 => (cond (db_cnd .ne x3 (-1 : Int32)) (some (0 : Int32)) (some (3 : Int32)))) (some (1 : Int32))))
set_option maxRecDepth 100000 in
theorem db_f33_ok {X : db_X} {d : Nat} {s : db_S} {v1 : Int32} : db_Rf X (d + 2) dbm_33 0 (lv_args 0 [.ref 5, .int v1]) [] s (db_yI s) (db_f33 s v1) := by
  show db_Rf _ _ _ 0 [(0, .ref 5), (1, .int v1)] [] _ _ _
  unfold db_f33
  refine db_Rgo (pc' := 2) (lv' := [(0, .ref 5), (1, .int v1)]) (st' := [.int v1, .ref 5]) 2 rfl ?_
  refine db_RcyB (mr' := dbm_26) (as := [.ref 5, .int v1]) (rest := []) (pc' := 5) (lv1 := [(0, .ref 5), (1, .int v1)]) rfl rfl rfl rfl rfl (db_f26_ok) fun q1 => ?_
  refine db_RifBn (pc' := 8) (tg := 10) (lv1 := [(0, .ref 5), (1, .int v1)]) rfl rfl rfl rfl ?_ ?_
  · refine db_Rgo (pc' := 15) (lv' := [(0, .ref 5), (1, .int v1)]) (st' := [.int v1, .ref 12]) 3 rfl ?_
    refine db_RldI (pc' := 16) (lv1 := [(0, .ref 5), (1, .int v1)]) rfl rfl rfl fun x3 => ?_
    refine db_Rgo (pc' := 17) (lv' := [(0, .ref 5), (1, .int v1)]) (st' := [.int (-1 : Int32), .int x3]) 1 rfl ?_
    refine db_Ric (pc' := 20) (tg := 24) (lv1 := [(0, .ref 5), (1, .int v1)]) rfl rfl rfl rfl ?_ ?_
    · refine db_Rgo (pc' := 25) (lv' := []) (st' := [.int (0 : Int32)]) 1 rfl ?_
      exact db_Rret (lv1 := []) rfl rfl rfl rfl
    refine db_Rgo (pc' := 25) (lv' := [(0, .ref 5), (1, .int v1)]) (st' := [.int (3 : Int32)]) 2 rfl ?_
    exact db_Rret (lv1 := []) rfl rfl rfl rfl
  refine db_Rgo (pc' := 9) (lv' := [(0, .ref 5), (1, .int v1)]) (st' := [.int (1 : Int32)]) 1 rfl ?_
  exact db_Rret (lv1 := [(0, .ref 5), (1, .int v1)]) rfl rfl rfl rfl
/-- DreamBook$Trays.hasPlace(II)Z -/
noncomputable def db_f34 (s : db_S) (v1 : Int32) (v2 : Int32) : Option Bool :=
  ((db_rI s 12 v1).bind fun x1 => ((db_f27 s v2 (0 : Int32) (x1 - (1 : Int32))).bind fun q2 => (some q2)))
set_option maxRecDepth 100000 in
theorem db_f34_ok {X : db_X} {d : Nat} {s : db_S} {v1 : Int32} {v2 : Int32} : db_Rf X (d + 1) dbm_34 0 (lv_args 0 [.ref 5, .int v1, .int v2]) [] s (db_yB s) (db_f34 s v1 v2) := by
  show db_Rf _ _ _ 0 [(0, .ref 5), (1, .int v1), (2, .int v2)] [] _ _ _
  unfold db_f34
  refine db_Rgo (pc' := 7) (lv' := [(0, .ref 5), (1, .int v1), (2, .int v2)]) (st' := [.int v1, .ref 12, .int (0 : Int32), .int v2]) 5 rfl ?_
  refine db_RldI (pc' := 8) (lv1 := [(0, .ref 5), (1, .int v1), (2, .int v2)]) rfl rfl rfl fun x1 => ?_
  refine db_Rgo (pc' := 10) (lv' := [(0, .ref 5), (1, .int v1), (2, .int v2)]) (st' := [.int (x1 - (1 : Int32)), .int (0 : Int32), .int v2]) 2 rfl ?_
  refine db_RcyB (mr' := dbm_27) (as := [.int v2, .int (0 : Int32), .int (x1 - (1 : Int32))]) (rest := []) (pc' := 13) (lv1 := [(0, .ref 5), (1, .int v1), (2, .int v2)]) rfl rfl rfl rfl rfl (db_f27_ok) fun q2 => ?_
  exact db_RretB (lv1 := [(0, .ref 5), (1, .int v1), (2, .int v2)]) rfl rfl rfl rfl
/-- DreamBook$Trays.put(IIJ)V -/
noncomputable def db_f35 (s : db_S) (v1 : Int32) (v2 : Int32) (v3 : Int64) : Option db_S :=
  ((db_rI s 11 v1).bind fun x1 => (if x1 = (0 : Int32) then ((db_rR 6 v1).bind fun y2 => ((db_wL s y2 v2 (Int32.toInt64 (Int32.toInt8 (Int64.toInt32 v3)).toInt32)).bind fun s3 => (some s3))) else (if x1 = (1 : Int32) then ((db_rR 6 v1).bind fun y4 => ((db_wL s y4 v2 (Int32.toInt64 (Int32.toInt16 (Int64.toInt32 v3)).toInt32)).bind fun s5 => (some s5))) else (if x1 = (2 : Int32) then ((db_rR 6 v1).bind fun y6 => ((db_wL s y6 v2 (Int32.toInt64 (Int64.toInt32 v3))).bind fun s7 => (some s7))) else ((db_rR 6 v1).bind fun y8 => ((db_wL s y8 v2 v3).bind fun s9 => (some s9)))))))
set_option maxRecDepth 100000 in
theorem db_f35_ok {X : db_X} {d : Nat} {s : db_S} {v1 : Int32} {v2 : Int32} {v3 : Int64} : db_Rf X (d + 0) dbm_35 0 (lv_args 0 [.ref 5, .int v1, .int v2, .long v3]) [] s db_zV (db_f35 s v1 v2 v3) := by
  show db_Rf _ _ _ 0 [(0, .ref 5), (1, .int v1), (2, .int v2), (3, .long v3)] [] _ _ _
  unfold db_f35
  refine db_Rgo (pc' := 5) (lv' := [(0, .ref 5), (1, .int v1), (2, .int v2), (3, .long v3)]) (st' := [.int v1, .ref 11]) 3 rfl ?_
  refine db_RldI (pc' := 6) (lv1 := [(0, .ref 5), (1, .int v1), (2, .int v2), (3, .long v3)]) rfl rfl rfl fun x1 => ?_
  refine db_Rsw (v := (0 : Int32)) (tg := 32) (lv1 := [(0, .ref 5), (1, .int v1), (2, .int v2), (3, .long v3)]) rfl rfl rfl rfl rfl ?_ (fun zc10 => ?_)
  · refine db_Rgo (pc' := 37) (lv' := [(0, .ref 5), (1, .int v1), (2, .int v2), (3, .long v3)]) (st' := [.int v1, .ref 6]) 3 rfl ?_
    refine db_RldR (pc' := 38) (lv1 := [(0, .ref 5), (1, .int v1), (2, .int v2), (3, .long v3)]) rfl rfl rfl fun y2 => ?_
    refine db_Rgo (pc' := 43) (lv' := [(0, .ref 5), (1, .int v1), (2, .int v2), (3, .long v3)]) (st' := [.long (Int32.toInt64 (Int32.toInt8 (Int64.toInt32 v3)).toInt32), .int v2, .ref (y2 + 4)]) 5 rfl ?_
    refine db_RstL (pc' := 44) (lv1 := [(0, .ref 5), (1, .int v1), (2, .int v2), (3, .long v3)]) rfl rfl rfl fun s3 => ?_
    refine db_Rgo (pc' := 85) (lv' := [(0, .ref 5), (1, .int v1), (2, .int v2), (3, .long v3)]) (st' := []) 1 rfl ?_
    exact db_Rret (lv1 := []) rfl rfl rfl rfl
  refine db_Rsw (v := (1 : Int32)) (tg := 47) (lv1 := [(0, .ref 5), (1, .int v1), (2, .int v2), (3, .long v3)]) rfl rfl rfl rfl rfl ?_ (fun zc11 => ?_)
  · refine db_Rgo (pc' := 52) (lv' := [(0, .ref 5), (1, .int v1), (2, .int v2), (3, .long v3)]) (st' := [.int v1, .ref 6]) 3 rfl ?_
    refine db_RldR (pc' := 53) (lv1 := [(0, .ref 5), (1, .int v1), (2, .int v2), (3, .long v3)]) rfl rfl rfl fun y4 => ?_
    refine db_Rgo (pc' := 58) (lv' := [(0, .ref 5), (1, .int v1), (2, .int v2), (3, .long v3)]) (st' := [.long (Int32.toInt64 (Int32.toInt16 (Int64.toInt32 v3)).toInt32), .int v2, .ref (y4 + 4)]) 5 rfl ?_
    refine db_RstL (pc' := 59) (lv1 := [(0, .ref 5), (1, .int v1), (2, .int v2), (3, .long v3)]) rfl rfl rfl fun s5 => ?_
    refine db_Rgo (pc' := 85) (lv' := [(0, .ref 5), (1, .int v1), (2, .int v2), (3, .long v3)]) (st' := []) 1 rfl ?_
    exact db_Rret (lv1 := []) rfl rfl rfl rfl
  refine db_Rsw (v := (2 : Int32)) (tg := 62) (lv1 := [(0, .ref 5), (1, .int v1), (2, .int v2), (3, .long v3)]) rfl rfl rfl rfl rfl ?_ (fun zc12 => ?_)
  · refine db_Rgo (pc' := 67) (lv' := [(0, .ref 5), (1, .int v1), (2, .int v2), (3, .long v3)]) (st' := [.int v1, .ref 6]) 3 rfl ?_
    refine db_RldR (pc' := 68) (lv1 := [(0, .ref 5), (1, .int v1), (2, .int v2), (3, .long v3)]) rfl rfl rfl fun y6 => ?_
    refine db_Rgo (pc' := 72) (lv' := [(0, .ref 5), (1, .int v1), (2, .int v2), (3, .long v3)]) (st' := [.long (Int32.toInt64 (Int64.toInt32 v3)), .int v2, .ref (y6 + 4)]) 4 rfl ?_
    refine db_RstL (pc' := 73) (lv1 := [(0, .ref 5), (1, .int v1), (2, .int v2), (3, .long v3)]) rfl rfl rfl fun s7 => ?_
    refine db_Rgo (pc' := 85) (lv' := [(0, .ref 5), (1, .int v1), (2, .int v2), (3, .long v3)]) (st' := []) 1 rfl ?_
    exact db_Rret (lv1 := []) rfl rfl rfl rfl
  refine db_Rsd (tg := 76) (lv1 := [(0, .ref 5), (1, .int v1), (2, .int v2), (3, .long v3)]) rfl rfl (db_swd 3 (by decide) (fun k hk => by match k, hk with | 0, _ => exact zc10 | 1, _ => exact zc11 | 2, _ => exact zc12 | k + 3, hk => exact absurd hk (by omega))) rfl ?_
  refine db_Rgo (pc' := 81) (lv' := [(0, .ref 5), (1, .int v1), (2, .int v2), (3, .long v3)]) (st' := [.int v1, .ref 6]) 3 rfl ?_
  refine db_RldR (pc' := 82) (lv1 := [(0, .ref 5), (1, .int v1), (2, .int v2), (3, .long v3)]) rfl rfl rfl fun y8 => ?_
  refine db_Rgo (pc' := 84) (lv' := [(0, .ref 5), (1, .int v1), (2, .int v2), (3, .long v3)]) (st' := [.long v3, .int v2, .ref (y8 + 4)]) 2 rfl ?_
  refine db_RstL (pc' := 85) (lv1 := [(0, .ref 5), (1, .int v1), (2, .int v2), (3, .long v3)]) rfl rfl rfl fun s9 => ?_
  exact db_Rret (lv1 := []) rfl rfl rfl rfl
noncomputable def db_f32_b30 (s : db_S) (v1 : Int32) (v2 : Int32) (v3 : Int64) (v5 : Int32) : Option (Bool × db_S) :=
  (cond (db_cnd .eq v5 0) ((db_f35 s v1 v2 v3).bind fun s2 => (db_bd (db_f31 s2) fun q3 s4 => (some (q3, s4)))) (db_bd (db_f28 s v5) fun q5 s6 => (some (q5, s6))))
set_option maxRecDepth 100000 in
theorem db_f32_b30_ok {X : db_X} {d : Nat}  {s : db_S} {v1 : Int32} {v2 : Int32} {v3 : Int64} {v5 : Int32} : db_Rf X (d + 3) dbm_32 30 [(0, .ref 4), (1, .int v1), (2, .int v2), (3, .long v3), (5, .int v5)] [] s db_zB (db_f32_b30 s v1 v2 v3 v5) := by
  unfold db_f32_b30
  refine db_Rgo (pc' := 32) (lv' := [(0, .ref 4), (1, .int v1), (2, .int v2), (3, .long v3), (5, .int v5)]) (st' := [.int v5]) 1 rfl ?_
  refine db_Rif (pc' := 35) (tg := 42) (lv1 := [(0, .ref 4), (1, .int v1), (2, .int v2), (3, .long v3), (5, .int v5)]) rfl rfl rfl rfl ?_ ?_
  · refine db_Rgo (pc' := 49) (lv' := [(0, .ref 4), (1, .int v1), (2, .int v2), (3, .long v3)]) (st' := [.long v3, .int v2, .int v1, .ref 5]) 5 rfl ?_
    refine db_RcV (mr' := dbm_35) (as := [.ref 5, .int v1, .int v2, .long v3]) (rest := []) (pc' := 52) (lv1 := [(0, .ref 4), (1, .int v1), (2, .int v2), (3, .long v3)]) rfl rfl rfl rfl rfl (db_f35_ok) fun s2 => ?_
    refine db_Rgo (pc' := 53) (lv' := [(0, .ref 4), (1, .int v1), (2, .int v2), (3, .long v3)]) (st' := [.ref 4]) 1 rfl ?_
    refine db_RcdB (mr' := dbm_31) (as := [.ref 4]) (rest := []) (pc' := 56) (lv1 := [(0, .ref 4), (1, .int v1), (2, .int v2), (3, .long v3)]) rfl rfl rfl rfl rfl (db_f31_ok) fun q3 s4 => ?_
    exact db_RretB (lv1 := [(0, .ref 4), (1, .int v1), (2, .int v2), (3, .long v3)]) rfl rfl rfl rfl
  refine db_Rgo (pc' := 38) (lv' := [(0, .ref 4), (1, .int v1), (2, .int v2), (3, .long v3), (5, .int v5)]) (st' := [.int v5, .ref 4]) 2 rfl ?_
  refine db_RcdB (mr' := dbm_28) (as := [.ref 4, .int v5]) (rest := []) (pc' := 41) (lv1 := [(0, .ref 4), (1, .int v1), (2, .int v2), (3, .long v3), (5, .int v5)]) rfl rfl rfl rfl rfl (db_f28_ok) fun q5 s6 => ?_
  exact db_RretB (lv1 := [(0, .ref 4), (1, .int v1), (2, .int v2), (3, .long v3), (5, .int v5)]) rfl rfl rfl rfl
/-- DreamBook.write(IIJ)Z -/
noncomputable def db_f32 (s : db_S) (v1 : Int32) (v2 : Int32) (v3 : Int64) : Option (Bool × db_S) :=
  ((db_f33 s v1).bind fun q1 => (cond (db_cnd .ne q1 0) (db_f32_b30 s v1 v2 v3 q1) ((db_f34 s v1 v2).bind fun q3 => (cond q3 (db_f32_b30 s v1 v2 v3 q1) (db_f32_b30 s v1 v2 v3 (4 : Int32))))))
set_option maxRecDepth 100000 in
theorem db_f32_ok {X : db_X} {d : Nat} {s : db_S} {v1 : Int32} {v2 : Int32} {v3 : Int64} : db_Rf X (d + 3) dbm_32 0 (lv_args 0 [.ref 4, .int v1, .int v2, .long v3]) [] s db_zB (db_f32 s v1 v2 v3) := by
  show db_Rf _ _ _ 0 [(0, .ref 4), (1, .int v1), (2, .int v2), (3, .long v3)] [] _ _ _
  unfold db_f32
  refine db_Rgo (pc' := 5) (lv' := [(0, .ref 4), (1, .int v1), (2, .int v2), (3, .long v3)]) (st' := [.int v1, .ref 5]) 3 rfl ?_
  refine db_RcyI (mr' := dbm_33) (as := [.ref 5, .int v1]) (rest := []) (pc' := 8) (lv1 := [(0, .ref 4), (1, .int v1), (2, .int v2), (3, .long v3)]) rfl rfl rfl rfl rfl (db_f33_ok) fun q1 => ?_
  refine db_Rgo (pc' := 12) (lv' := [(5, .int q1), (0, .ref 4), (1, .int v1), (2, .int v2), (3, .long v3)]) (st' := [.int q1]) 2 rfl ?_
  refine db_Rif (pc' := 15) (tg := 30) (lv1 := [(5, .int q1), (0, .ref 4), (1, .int v1), (2, .int v2), (3, .long v3)]) rfl rfl rfl rfl ?_ ?_
  · refine db_Rn (lv1 := [(0, .ref 4), (1, .int v1), (2, .int v2), (3, .long v3), (5, .int q1)]) rfl rfl rfl ?_
    exact db_f32_b30_ok
  refine db_Rgo (pc' := 21) (lv' := [(5, .int q1), (0, .ref 4), (1, .int v1), (2, .int v2), (3, .long v3)]) (st' := [.int v2, .int v1, .ref 5]) 4 rfl ?_
  refine db_RcyB (mr' := dbm_34) (as := [.ref 5, .int v1, .int v2]) (rest := []) (pc' := 24) (lv1 := [(5, .int q1), (0, .ref 4), (1, .int v1), (2, .int v2), (3, .long v3)]) rfl rfl rfl rfl rfl (db_f34_ok) fun q3 => ?_
  refine db_RifBn (pc' := 27) (tg := 30) (lv1 := [(5, .int q1), (0, .ref 4), (1, .int v1), (2, .int v2), (3, .long v3)]) rfl rfl rfl rfl ?_ ?_
  · refine db_Rn (lv1 := [(0, .ref 4), (1, .int v1), (2, .int v2), (3, .long v3), (5, .int q1)]) rfl rfl rfl ?_
    exact db_f32_b30_ok
  refine db_Rgo (pc' := 30) (lv' := [(5, .int (4 : Int32)), (0, .ref 4), (1, .int v1), (2, .int v2), (3, .long v3)]) (st' := []) 2 rfl ?_
  refine db_Rn (lv1 := [(0, .ref 4), (1, .int v1), (2, .int v2), (3, .long v3), (5, .int (4 : Int32))]) rfl rfl rfl ?_
  exact db_f32_b30_ok
/-- DreamBookModel.trayed(I)I -/
noncomputable def db_f214 (s : db_S) (v1 : Int32) : Option Int32 :=
  (cond (db_cnd .lt v1 0) (some (1 : Int32)) (cond (db_cnd .lt v1 (4 : Int32)) ((db_rI s 671 v1).bind fun x1 => (cond (db_cnd .ge x1 0) (some (0 : Int32)) (some (3 : Int32)))) (some (1 : Int32))))
set_option maxRecDepth 100000 in
theorem db_f214_ok {X : db_X} {d : Nat} {s : db_S} {v1 : Int32} : db_Rf X (d + 0) dbm_214 0 (lv_args 0 [.ref 669, .int v1]) [] s (db_yI s) (db_f214 s v1) := by
  show db_Rf _ _ _ 0 [(0, .ref 669), (1, .int v1)] [] _ _ _
  unfold db_f214
  refine db_Rgo (pc' := 1) (lv' := [(0, .ref 669), (1, .int v1)]) (st' := [.int v1]) 1 rfl ?_
  refine db_Rif (pc' := 4) (tg := 9) (lv1 := [(0, .ref 669), (1, .int v1)]) rfl rfl rfl rfl ?_ ?_
  · refine db_Rgo (pc' := 27) (lv' := []) (st' := [.int (1 : Int32)]) 2 rfl ?_
    exact db_Rret (lv1 := []) rfl rfl rfl rfl
  refine db_Rgo (pc' := 6) (lv' := [(0, .ref 669), (1, .int v1)]) (st' := [.int (4 : Int32), .int v1]) 2 rfl ?_
  refine db_Ric (pc' := 9) (tg := 13) (lv1 := [(0, .ref 669), (1, .int v1)]) rfl rfl rfl rfl ?_ ?_
  · refine db_Rgo (pc' := 18) (lv' := [(0, .ref 669), (1, .int v1)]) (st' := [.int v1, .ref 671]) 3 rfl ?_
    refine db_RldI (pc' := 19) (lv1 := [(0, .ref 669), (1, .int v1)]) rfl rfl rfl fun x1 => ?_
    refine db_Rif (pc' := 22) (tg := 26) (lv1 := [(0, .ref 669), (1, .int v1)]) rfl rfl rfl rfl ?_ ?_
    · refine db_Rgo (pc' := 27) (lv' := []) (st' := [.int (0 : Int32)]) 1 rfl ?_
      exact db_Rret (lv1 := []) rfl rfl rfl rfl
    refine db_Rgo (pc' := 27) (lv' := [(0, .ref 669), (1, .int v1)]) (st' := [.int (3 : Int32)]) 2 rfl ?_
    exact db_Rret (lv1 := []) rfl rfl rfl rfl
  refine db_Rgo (pc' := 27) (lv' := []) (st' := [.int (1 : Int32)]) 2 rfl ?_
  exact db_Rret (lv1 := []) rfl rfl rfl rfl
/-- DreamBookModel.placed(II)I -/
noncomputable def db_f213 (s : db_S) (v1 : Int32) (v2 : Int32) : Option Int32 :=
  ((db_f214 s v1).bind fun q1 => (cond (db_cnd .le q1 0) (cond (db_cnd .lt v2 0) (some (4 : Int32)) ((db_rI s 671 v1).bind fun x3 => (cond (db_cnd .lt v2 x3) (some (0 : Int32)) (some (4 : Int32))))) (some q1)))
set_option maxRecDepth 100000 in
theorem db_f213_ok {X : db_X} {d : Nat} {s : db_S} {v1 : Int32} {v2 : Int32} : db_Rf X (d + 1) dbm_213 0 (lv_args 0 [.ref 669, .int v1, .int v2]) [] s (db_yI s) (db_f213 s v1 v2) := by
  show db_Rf _ _ _ 0 [(0, .ref 669), (1, .int v1), (2, .int v2)] [] _ _ _
  unfold db_f213
  refine db_Rgo (pc' := 2) (lv' := [(0, .ref 669), (1, .int v1), (2, .int v2)]) (st' := [.int v1, .ref 669]) 2 rfl ?_
  refine db_RcyI (mr' := dbm_214) (as := [.ref 669, .int v1]) (rest := []) (pc' := 5) (lv1 := [(0, .ref 669), (1, .int v1), (2, .int v2)]) rfl rfl rfl rfl rfl (db_f214_ok) fun q1 => ?_
  refine db_Rgo (pc' := 7) (lv' := [(3, .int q1), (0, .ref 669), (1, .int v1), (2, .int v2)]) (st' := [.int q1]) 2 rfl ?_
  refine db_Rif (pc' := 10) (tg := 14) (lv1 := [(3, .int q1), (0, .ref 669), (1, .int v1), (2, .int v2)]) rfl rfl rfl rfl ?_ ?_
  · refine db_Rgo (pc' := 15) (lv' := [(0, .ref 669), (1, .int v1), (2, .int v2)]) (st' := [.int v2]) 1 rfl ?_
    refine db_Rif (pc' := 18) (tg := 28) (lv1 := [(0, .ref 669), (1, .int v1), (2, .int v2)]) rfl rfl rfl rfl ?_ ?_
    · refine db_Rgo (pc' := 33) (lv' := []) (st' := [.int (4 : Int32)]) 2 rfl ?_
      exact db_Rret (lv1 := []) rfl rfl rfl rfl
    refine db_Rgo (pc' := 24) (lv' := [(0, .ref 669), (1, .int v1), (2, .int v2)]) (st' := [.int v1, .ref 671, .int v2]) 4 rfl ?_
    refine db_RldI (pc' := 25) (lv1 := [(0, .ref 669), (1, .int v1), (2, .int v2)]) rfl rfl rfl fun x3 => ?_
    refine db_Ric (pc' := 28) (tg := 32) (lv1 := [(0, .ref 669), (1, .int v1), (2, .int v2)]) rfl rfl rfl rfl ?_ ?_
    · refine db_Rgo (pc' := 33) (lv' := []) (st' := [.int (0 : Int32)]) 1 rfl ?_
      exact db_Rret (lv1 := []) rfl rfl rfl rfl
    refine db_Rgo (pc' := 33) (lv' := []) (st' := [.int (4 : Int32)]) 2 rfl ?_
    exact db_Rret (lv1 := []) rfl rfl rfl rfl
  refine db_Rgo (pc' := 33) (lv' := [(3, .int q1), (0, .ref 669), (1, .int v1), (2, .int v2)]) (st' := [.int q1]) 2 rfl ?_
  exact db_Rret (lv1 := []) rfl rfl rfl rfl
/-- DreamBookModel.cut(IJ)J -/
noncomputable def db_f215 (s : db_S) (v0 : Int32) (v1 : Int64) : Option Int64 :=
  (cond (db_cnd .ne v0 0) (cond (db_cnd .ne v0 (1 : Int32)) (cond (db_cnd .ne v0 (2 : Int32)) (some v1) (some (Int32.toInt64 (Int64.toInt32 v1)))) (some (Int32.toInt64 (Int32.toInt16 (Int64.toInt32 v1)).toInt32))) (some (Int32.toInt64 (Int32.toInt8 (Int64.toInt32 v1)).toInt32)))
set_option maxRecDepth 100000 in
theorem db_f215_ok {X : db_X} {d : Nat} {s : db_S} {v0 : Int32} {v1 : Int64} : db_Rf X (d + 0) dbm_215 0 (lv_args 0 [.int v0, .long v1]) [] s (db_yL s) (db_f215 s v0 v1) := by
  show db_Rf _ _ _ 0 [(0, .int v0), (1, .long v1)] [] _ _ _
  unfold db_f215
  refine db_Rgo (pc' := 1) (lv' := [(0, .int v0), (1, .long v1)]) (st' := [.int v0]) 1 rfl ?_
  refine db_Rif (pc' := 4) (tg := 11) (lv1 := [(0, .int v0), (1, .long v1)]) rfl rfl rfl rfl ?_ ?_
  · refine db_Rgo (pc' := 13) (lv' := [(0, .int v0), (1, .long v1)]) (st' := [.int (1 : Int32), .int v0]) 2 rfl ?_
    refine db_Ric (pc' := 16) (tg := 23) (lv1 := [(0, .int v0), (1, .long v1)]) rfl rfl rfl rfl ?_ ?_
    · refine db_Rgo (pc' := 25) (lv' := [(0, .int v0), (1, .long v1)]) (st' := [.int (2 : Int32), .int v0]) 2 rfl ?_
      refine db_Ric (pc' := 28) (tg := 34) (lv1 := [(0, .int v0), (1, .long v1)]) rfl rfl rfl rfl ?_ ?_
      · refine db_Rgo (pc' := 35) (lv' := [(1, .long v1)]) (st' := [.long v1]) 1 rfl ?_
        exact db_Rret (lv1 := []) rfl rfl rfl rfl
      refine db_Rgo (pc' := 35) (lv' := [(0, .int v0), (1, .long v1)]) (st' := [.long (Int32.toInt64 (Int64.toInt32 v1))]) 4 rfl ?_
      exact db_Rret (lv1 := []) rfl rfl rfl rfl
    refine db_Rgo (pc' := 35) (lv' := [(0, .int v0), (1, .long v1)]) (st' := [.long (Int32.toInt64 (Int32.toInt16 (Int64.toInt32 v1)).toInt32)]) 5 rfl ?_
    exact db_Rret (lv1 := []) rfl rfl rfl rfl
  refine db_Rgo (pc' := 35) (lv' := [(0, .int v0), (1, .long v1)]) (st' := [.long (Int32.toInt64 (Int32.toInt8 (Int64.toInt32 v1)).toInt32)]) 5 rfl ?_
  exact db_Rret (lv1 := []) rfl rfl rfl rfl
/-- DreamBookModel.write(IIJ)Z -/
noncomputable def db_f212 (s : db_S) (v1 : Int32) (v2 : Int32) (v3 : Int64) : Option (Bool × db_S) :=
  ((db_pI s 669 1 (0 : Int32)).bind fun s1 => ((db_f213 s1 v1 v2).bind fun q2 => ((db_pI s1 669 0 q2).bind fun s4 => (cond (db_cnd .le (s4.1 669 0) 0) ((db_rI s4 670 v1).bind fun x5 => ((db_f215 s4 x5 v3).bind fun q6 => ((db_wL s4 672 (((60 : Int32) * v1) + v2) q6).bind fun s8 => (some (true, s8))))) (some (false, s4))))))
set_option maxRecDepth 100000 in
theorem db_f212_ok {X : db_X} {d : Nat} {s : db_S} {v1 : Int32} {v2 : Int32} {v3 : Int64} : db_Rf X (d + 2) dbm_212 0 (lv_args 0 [.ref 669, .int v1, .int v2, .long v3]) [] s db_zB (db_f212 s v1 v2 v3) := by
  show db_Rf _ _ _ 0 [(0, .ref 669), (1, .int v1), (2, .int v2), (3, .long v3)] [] _ _ _
  unfold db_f212
  refine db_Rgo (pc' := 2) (lv' := [(0, .ref 669), (1, .int v1), (2, .int v2), (3, .long v3)]) (st' := [.int (0 : Int32), .ref 669]) 2 rfl ?_
  refine db_RpuI (pc' := 5) (lv1 := [(0, .ref 669), (1, .int v1), (2, .int v2), (3, .long v3)]) rfl rfl rfl rfl rfl rfl (by decide) rfl rfl fun s1 => ?_
  refine db_Rgo (pc' := 9) (lv' := [(0, .ref 669), (1, .int v1), (2, .int v2), (3, .long v3)]) (st' := [.int v2, .int v1, .ref 669, .ref 669]) 4 rfl ?_
  refine db_RcyI (mr' := dbm_213) (as := [.ref 669, .int v1, .int v2]) (rest := [.ref 669]) (pc' := 12) (lv1 := [(0, .ref 669), (1, .int v1), (2, .int v2), (3, .long v3)]) rfl rfl rfl rfl rfl (db_f213_ok) fun q2 => ?_
  refine db_RpuI (pc' := 15) (lv1 := [(0, .ref 669), (1, .int v1), (2, .int v2), (3, .long v3)]) rfl rfl rfl rfl rfl rfl (by decide) rfl rfl fun s4 => ?_
  refine db_Rgo (pc' := 19) (lv' := [(0, .ref 669), (1, .int v1), (2, .int v2), (3, .long v3)]) (st' := [.int (s4.1 669 0)]) 2 rfl ?_
  refine db_Rif (pc' := 22) (tg := 24) (lv1 := [(0, .ref 669), (1, .int v1), (2, .int v2), (3, .long v3)]) rfl rfl rfl rfl ?_ ?_
  · refine db_Rgo (pc' := 39) (lv' := [(0, .ref 669), (1, .int v1), (2, .int v2), (3, .long v3)]) (st' := [.int v1, .ref 670, .int (((60 : Int32) * v1) + v2), .ref 672]) 10 rfl ?_
    refine db_RldI (pc' := 40) (lv1 := [(0, .ref 669), (1, .int v1), (2, .int v2), (3, .long v3)]) rfl rfl rfl fun x5 => ?_
    refine db_Rgo (pc' := 41) (lv' := [(0, .ref 669), (1, .int v1), (2, .int v2), (3, .long v3)]) (st' := [.long v3, .int x5, .int (((60 : Int32) * v1) + v2), .ref 672]) 1 rfl ?_
    refine db_RcyL (mr' := dbm_215) (as := [.int x5, .long v3]) (rest := [.int (((60 : Int32) * v1) + v2), .ref 672]) (pc' := 44) (lv1 := [(0, .ref 669), (1, .int v1), (2, .int v2), (3, .long v3)]) rfl rfl rfl rfl rfl (db_f215_ok) fun q6 => ?_
    refine db_RstL (pc' := 45) (lv1 := [(0, .ref 669), (1, .int v1), (2, .int v2), (3, .long v3)]) rfl rfl rfl fun s8 => ?_
    refine db_Rgo (pc' := 46) (lv' := [(0, .ref 669), (1, .int v1), (2, .int v2), (3, .long v3)]) (st' := [.int (1 : Int32)]) 1 rfl ?_
    exact db_Rret (lv1 := [(0, .ref 669), (1, .int v1), (2, .int v2), (3, .long v3)]) rfl rfl rfl rfl
  refine db_Rgo (pc' := 23) (lv' := [(0, .ref 669), (1, .int v1), (2, .int v2), (3, .long v3)]) (st' := [.int (0 : Int32)]) 1 rfl ?_
  exact db_Rret (lv1 := [(0, .ref 669), (1, .int v1), (2, .int v2), (3, .long v3)]) rfl rfl rfl rfl
/-- DreamBook.no(I)I -/
noncomputable def db_f37 (s : db_S) (v1 : Int32) : Option (Int32 × db_S) :=
  ((db_pI s 4 0 v1).bind fun s1 => (some ((-1 : Int32), s1)))
set_option maxRecDepth 100000 in
theorem db_f37_ok {X : db_X} {d : Nat} {s : db_S} {v1 : Int32} : db_Rf X (d + 0) dbm_37 0 (lv_args 0 [.ref 4, .int v1]) [] s db_zI (db_f37 s v1) := by
  show db_Rf _ _ _ 0 [(0, .ref 4), (1, .int v1)] [] _ _ _
  unfold db_f37
  refine db_Rgo (pc' := 2) (lv' := [(0, .ref 4), (1, .int v1)]) (st' := [.int v1, .ref 4]) 2 rfl ?_
  refine db_RpuI (pc' := 5) (lv1 := [(0, .ref 4), (1, .int v1)]) rfl rfl rfl rfl rfl rfl (by decide) rfl rfl fun s1 => ?_
  refine db_Rgo (pc' := 6) (lv' := [(0, .ref 4), (1, .int v1)]) (st' := [.int (-1 : Int32)]) 1 rfl ?_
  exact db_Rret (lv1 := [(0, .ref 4), (1, .int v1)]) rfl rfl rfl rfl
noncomputable def db_f36_b27 (s : db_S) (v1 : Int32) (v2 : Int32) (v3 : Int32) : Option (Int64 × db_S) :=
  (cond (db_cnd .eq v3 0) ((db_pI s 4 0 (0 : Int32)).bind fun s1 => ((db_rR 6 v1).bind fun y2 => ((db_rL s1 y2 v2).bind fun x3 => (some (x3, s1))))) (db_bd (db_f37 s v3) fun q4 s5 => (some ((Int32.toInt64 q4), s5))))
set_option maxRecDepth 100000 in
theorem db_f36_b27_ok {X : db_X} {d : Nat}  {s : db_S} {v1 : Int32} {v2 : Int32} {v3 : Int32} : db_Rf X (d + 3) dbm_36 27 [(0, .ref 4), (1, .int v1), (2, .int v2), (3, .int v3)] [] s db_zL (db_f36_b27 s v1 v2 v3) := by
  unfold db_f36_b27
  refine db_Rgo (pc' := 28) (lv' := [(0, .ref 4), (1, .int v1), (2, .int v2), (3, .int v3)]) (st' := [.int v3]) 1 rfl ?_
  refine db_Rif (pc' := 31) (tg := 38) (lv1 := [(0, .ref 4), (1, .int v1), (2, .int v2), (3, .int v3)]) rfl rfl rfl rfl ?_ ?_
  · refine db_Rgo (pc' := 40) (lv' := [(0, .ref 4), (1, .int v1), (2, .int v2)]) (st' := [.int (0 : Int32), .ref 4]) 2 rfl ?_
    refine db_RpuI (pc' := 43) (lv1 := [(0, .ref 4), (1, .int v1), (2, .int v2)]) rfl rfl rfl rfl rfl rfl (by decide) rfl rfl fun s1 => ?_
    refine db_Rgo (pc' := 51) (lv' := [(0, .ref 4), (1, .int v1), (2, .int v2)]) (st' := [.int v1, .ref 6]) 4 rfl ?_
    refine db_RldR (pc' := 52) (lv1 := [(0, .ref 4), (1, .int v1), (2, .int v2)]) rfl rfl rfl fun y2 => ?_
    refine db_Rgo (pc' := 53) (lv' := [(0, .ref 4), (1, .int v1), (2, .int v2)]) (st' := [.int v2, .ref (y2 + 4)]) 1 rfl ?_
    refine db_RldL (pc' := 54) (lv1 := [(0, .ref 4), (1, .int v1), (2, .int v2)]) rfl rfl rfl fun x3 => ?_
    exact db_Rret (lv1 := [(0, .ref 4), (1, .int v1), (2, .int v2)]) rfl rfl rfl rfl
  refine db_Rgo (pc' := 33) (lv' := [(0, .ref 4), (1, .int v1), (2, .int v2), (3, .int v3)]) (st' := [.int v3, .ref 4]) 2 rfl ?_
  refine db_RcdI (mr' := dbm_37) (as := [.ref 4, .int v3]) (rest := []) (pc' := 36) (lv1 := [(0, .ref 4), (1, .int v1), (2, .int v2), (3, .int v3)]) rfl rfl rfl rfl rfl (db_f37_ok) fun q4 s5 => ?_
  refine db_Rgo (pc' := 37) (lv' := [(0, .ref 4), (1, .int v1), (2, .int v2), (3, .int v3)]) (st' := [.long (Int32.toInt64 q4)]) 1 rfl ?_
  exact db_Rret (lv1 := [(0, .ref 4), (1, .int v1), (2, .int v2), (3, .int v3)]) rfl rfl rfl rfl
/-- DreamBook.read(II)J -/
noncomputable def db_f36 (s : db_S) (v1 : Int32) (v2 : Int32) : Option (Int64 × db_S) :=
  ((db_f33 s v1).bind fun q1 => (cond (db_cnd .ne q1 0) (db_f36_b27 s v1 v2 q1) ((db_f34 s v1 v2).bind fun q3 => (cond q3 (db_f36_b27 s v1 v2 q1) (db_f36_b27 s v1 v2 (4 : Int32))))))
set_option maxRecDepth 100000 in
theorem db_f36_ok {X : db_X} {d : Nat} {s : db_S} {v1 : Int32} {v2 : Int32} : db_Rf X (d + 3) dbm_36 0 (lv_args 0 [.ref 4, .int v1, .int v2]) [] s db_zL (db_f36 s v1 v2) := by
  show db_Rf _ _ _ 0 [(0, .ref 4), (1, .int v1), (2, .int v2)] [] _ _ _
  unfold db_f36
  refine db_Rgo (pc' := 5) (lv' := [(0, .ref 4), (1, .int v1), (2, .int v2)]) (st' := [.int v1, .ref 5]) 3 rfl ?_
  refine db_RcyI (mr' := dbm_33) (as := [.ref 5, .int v1]) (rest := []) (pc' := 8) (lv1 := [(0, .ref 4), (1, .int v1), (2, .int v2)]) rfl rfl rfl rfl rfl (db_f33_ok) fun q1 => ?_
  refine db_Rgo (pc' := 10) (lv' := [(3, .int q1), (0, .ref 4), (1, .int v1), (2, .int v2)]) (st' := [.int q1]) 2 rfl ?_
  refine db_Rif (pc' := 13) (tg := 27) (lv1 := [(3, .int q1), (0, .ref 4), (1, .int v1), (2, .int v2)]) rfl rfl rfl rfl ?_ ?_
  · refine db_Rn (lv1 := [(0, .ref 4), (1, .int v1), (2, .int v2), (3, .int q1)]) rfl rfl rfl ?_
    exact db_f36_b27_ok
  refine db_Rgo (pc' := 19) (lv' := [(3, .int q1), (0, .ref 4), (1, .int v1), (2, .int v2)]) (st' := [.int v2, .int v1, .ref 5]) 4 rfl ?_
  refine db_RcyB (mr' := dbm_34) (as := [.ref 5, .int v1, .int v2]) (rest := []) (pc' := 22) (lv1 := [(3, .int q1), (0, .ref 4), (1, .int v1), (2, .int v2)]) rfl rfl rfl rfl rfl (db_f34_ok) fun q3 => ?_
  refine db_RifBn (pc' := 25) (tg := 27) (lv1 := [(3, .int q1), (0, .ref 4), (1, .int v1), (2, .int v2)]) rfl rfl rfl rfl ?_ ?_
  · refine db_Rn (lv1 := [(0, .ref 4), (1, .int v1), (2, .int v2), (3, .int q1)]) rfl rfl rfl ?_
    exact db_f36_b27_ok
  refine db_Rgo (pc' := 27) (lv' := [(3, .int (4 : Int32)), (0, .ref 4), (1, .int v1), (2, .int v2)]) (st' := []) 2 rfl ?_
  refine db_Rn (lv1 := [(0, .ref 4), (1, .int v1), (2, .int v2), (3, .int (4 : Int32))]) rfl rfl rfl ?_
  exact db_f36_b27_ok
/-- DreamBookModel.read(II)J -/
noncomputable def db_f216 (s : db_S) (v1 : Int32) (v2 : Int32) : Option (Int64 × db_S) :=
  ((db_pI s 669 1 (0 : Int32)).bind fun s1 => ((db_f213 s1 v1 v2).bind fun q2 => ((db_pI s1 669 0 q2).bind fun s4 => (cond (db_cnd .le (s4.1 669 0) 0) ((db_rL s4 672 (((60 : Int32) * v1) + v2)).bind fun x5 => (some (x5, s4))) (some ((-1 : Int64), s4))))))
set_option maxRecDepth 100000 in
theorem db_f216_ok {X : db_X} {d : Nat} {s : db_S} {v1 : Int32} {v2 : Int32} : db_Rf X (d + 2) dbm_216 0 (lv_args 0 [.ref 669, .int v1, .int v2]) [] s db_zL (db_f216 s v1 v2) := by
  show db_Rf _ _ _ 0 [(0, .ref 669), (1, .int v1), (2, .int v2)] [] _ _ _
  unfold db_f216
  refine db_Rgo (pc' := 2) (lv' := [(0, .ref 669), (1, .int v1), (2, .int v2)]) (st' := [.int (0 : Int32), .ref 669]) 2 rfl ?_
  refine db_RpuI (pc' := 5) (lv1 := [(0, .ref 669), (1, .int v1), (2, .int v2)]) rfl rfl rfl rfl rfl rfl (by decide) rfl rfl fun s1 => ?_
  refine db_Rgo (pc' := 9) (lv' := [(0, .ref 669), (1, .int v1), (2, .int v2)]) (st' := [.int v2, .int v1, .ref 669, .ref 669]) 4 rfl ?_
  refine db_RcyI (mr' := dbm_213) (as := [.ref 669, .int v1, .int v2]) (rest := [.ref 669]) (pc' := 12) (lv1 := [(0, .ref 669), (1, .int v1), (2, .int v2)]) rfl rfl rfl rfl rfl (db_f213_ok) fun q2 => ?_
  refine db_RpuI (pc' := 15) (lv1 := [(0, .ref 669), (1, .int v1), (2, .int v2)]) rfl rfl rfl rfl rfl rfl (by decide) rfl rfl fun s4 => ?_
  refine db_Rgo (pc' := 19) (lv' := [(0, .ref 669), (1, .int v1), (2, .int v2)]) (st' := [.int (s4.1 669 0)]) 2 rfl ?_
  refine db_Rif (pc' := 22) (tg := 28) (lv1 := [(0, .ref 669), (1, .int v1), (2, .int v2)]) rfl rfl rfl rfl ?_ ?_
  · refine db_Rgo (pc' := 38) (lv' := [(0, .ref 669), (1, .int v1), (2, .int v2)]) (st' := [.int (((60 : Int32) * v1) + v2), .ref 672]) 7 rfl ?_
    refine db_RldL (pc' := 39) (lv1 := [(0, .ref 669), (1, .int v1), (2, .int v2)]) rfl rfl rfl fun x5 => ?_
    exact db_Rret (lv1 := []) rfl rfl rfl rfl
  refine db_Rgo (pc' := 39) (lv' := [(0, .ref 669), (1, .int v1), (2, .int v2)]) (st' := [.long (-1 : Int64)]) 2 rfl ?_
  exact db_Rret (lv1 := []) rfl rfl rfl rfl
/-- DreamBook$Trays.checkBoth(II)I -/
noncomputable def db_f39 (s : db_S) (v1 : Int32) (v2 : Int32) : Option Int32 :=
  ((db_f26 s v1).bind fun q1 => (cond q1 ((db_f26 s v2).bind fun q3 => (cond q3 ((db_rI s 12 v1).bind fun x5 => (cond (db_cnd .eq x5 (-1 : Int32)) (some (3 : Int32)) ((db_rI s 12 v2).bind fun x6 => (cond (db_cnd .ne x6 (-1 : Int32)) ((db_rI s 11 v1).bind fun x7 => ((db_rI s 11 v2).bind fun x8 => (cond (db_cnd .ne x7 x8) (some (11 : Int32)) (some (0 : Int32))))) (some (3 : Int32)))))) (some (1 : Int32)))) (some (1 : Int32))))
set_option maxRecDepth 100000 in
theorem db_f39_ok {X : db_X} {d : Nat} {s : db_S} {v1 : Int32} {v2 : Int32} : db_Rf X (d + 2) dbm_39 0 (lv_args 0 [.ref 5, .int v1, .int v2]) [] s (db_yI s) (db_f39 s v1 v2) := by
  show db_Rf _ _ _ 0 [(0, .ref 5), (1, .int v1), (2, .int v2)] [] _ _ _
  unfold db_f39
  refine db_Rgo (pc' := 2) (lv' := [(0, .ref 5), (1, .int v1), (2, .int v2)]) (st' := [.int v1, .ref 5]) 2 rfl ?_
  refine db_RcyB (mr' := dbm_26) (as := [.ref 5, .int v1]) (rest := []) (pc' := 5) (lv1 := [(0, .ref 5), (1, .int v1), (2, .int v2)]) rfl rfl rfl rfl rfl (db_f26_ok) fun q1 => ?_
  refine db_RifBe (pc' := 8) (tg := 16) (lv1 := [(0, .ref 5), (1, .int v1), (2, .int v2)]) rfl rfl rfl rfl ?_ ?_
  · refine db_Rgo (pc' := 17) (lv' := []) (st' := [.int (1 : Int32)]) 1 rfl ?_
    exact db_Rret (lv1 := []) rfl rfl rfl rfl
  refine db_Rgo (pc' := 10) (lv' := [(0, .ref 5), (1, .int v1), (2, .int v2)]) (st' := [.int v2, .ref 5]) 2 rfl ?_
  refine db_RcyB (mr' := dbm_26) (as := [.ref 5, .int v2]) (rest := []) (pc' := 13) (lv1 := [(0, .ref 5), (1, .int v1), (2, .int v2)]) rfl rfl rfl rfl rfl (db_f26_ok) fun q3 => ?_
  refine db_RifBn (pc' := 16) (tg := 18) (lv1 := [(0, .ref 5), (1, .int v1), (2, .int v2)]) rfl rfl rfl rfl ?_ ?_
  · refine db_Rgo (pc' := 23) (lv' := [(0, .ref 5), (1, .int v1), (2, .int v2)]) (st' := [.int v1, .ref 12]) 3 rfl ?_
    refine db_RldI (pc' := 24) (lv1 := [(0, .ref 5), (1, .int v1), (2, .int v2)]) rfl rfl rfl fun x5 => ?_
    refine db_Rgo (pc' := 25) (lv' := [(0, .ref 5), (1, .int v1), (2, .int v2)]) (st' := [.int (-1 : Int32), .int x5]) 1 rfl ?_
    refine db_Ric (pc' := 28) (tg := 38) (lv1 := [(0, .ref 5), (1, .int v1), (2, .int v2)]) rfl rfl rfl rfl ?_ ?_
    · refine db_Rgo (pc' := 39) (lv' := []) (st' := [.int (3 : Int32)]) 1 rfl ?_
      exact db_Rret (lv1 := []) rfl rfl rfl rfl
    refine db_Rgo (pc' := 33) (lv' := [(0, .ref 5), (1, .int v1), (2, .int v2)]) (st' := [.int v2, .ref 12]) 3 rfl ?_
    refine db_RldI (pc' := 34) (lv1 := [(0, .ref 5), (1, .int v1), (2, .int v2)]) rfl rfl rfl fun x6 => ?_
    refine db_Rgo (pc' := 35) (lv' := [(0, .ref 5), (1, .int v1), (2, .int v2)]) (st' := [.int (-1 : Int32), .int x6]) 1 rfl ?_
    refine db_Ric (pc' := 38) (tg := 40) (lv1 := [(0, .ref 5), (1, .int v1), (2, .int v2)]) rfl rfl rfl rfl ?_ ?_
    · refine db_Rgo (pc' := 45) (lv' := [(0, .ref 5), (1, .int v1), (2, .int v2)]) (st' := [.int v1, .ref 11]) 3 rfl ?_
      refine db_RldI (pc' := 46) (lv1 := [(0, .ref 5), (1, .int v1), (2, .int v2)]) rfl rfl rfl fun x7 => ?_
      refine db_Rgo (pc' := 51) (lv' := [(0, .ref 5), (1, .int v1), (2, .int v2)]) (st' := [.int v2, .ref 11, .int x7]) 3 rfl ?_
      refine db_RldI (pc' := 52) (lv1 := [(0, .ref 5), (1, .int v1), (2, .int v2)]) rfl rfl rfl fun x8 => ?_
      refine db_Ric (pc' := 55) (tg := 59) (lv1 := [(0, .ref 5), (1, .int v1), (2, .int v2)]) rfl rfl rfl rfl ?_ ?_
      · refine db_Rgo (pc' := 61) (lv' := []) (st' := [.int (11 : Int32)]) 1 rfl ?_
        exact db_Rret (lv1 := []) rfl rfl rfl rfl
      refine db_Rgo (pc' := 61) (lv' := [(0, .ref 5), (1, .int v1), (2, .int v2)]) (st' := [.int (0 : Int32)]) 2 rfl ?_
      exact db_Rret (lv1 := []) rfl rfl rfl rfl
    refine db_Rgo (pc' := 39) (lv' := []) (st' := [.int (3 : Int32)]) 1 rfl ?_
    exact db_Rret (lv1 := []) rfl rfl rfl rfl
  refine db_Rgo (pc' := 17) (lv' := []) (st' := [.int (1 : Int32)]) 1 rfl ?_
  exact db_Rret (lv1 := []) rfl rfl rfl rfl
/-- DreamBook$Trays.hasRun(III)Z -/
noncomputable def db_f40 (s : db_S) (v1 : Int32) (v2 : Int32) (v3 : Int32) : Option Bool :=
  (cond (db_cnd .lt v2 0) (some false) ((db_rI s 12 v1).bind fun x1 => (cond (db_cnd .gt (lg_cmp ((Int32.toInt64 v2) + (Int32.toInt64 v3)) (Int32.toInt64 x1)) 0) (some false) (some true))))
set_option maxRecDepth 100000 in
theorem db_f40_ok {X : db_X} {d : Nat} {s : db_S} {v1 : Int32} {v2 : Int32} {v3 : Int32} : db_Rf X (d + 0) dbm_40 0 (lv_args 0 [.ref 5, .int v1, .int v2, .int v3]) [] s (db_yB s) (db_f40 s v1 v2 v3) := by
  show db_Rf _ _ _ 0 [(0, .ref 5), (1, .int v1), (2, .int v2), (3, .int v3)] [] _ _ _
  unfold db_f40
  refine db_Rgo (pc' := 1) (lv' := [(0, .ref 5), (1, .int v1), (2, .int v2), (3, .int v3)]) (st' := [.int v2]) 1 rfl ?_
  refine db_Rif (pc' := 4) (tg := 24) (lv1 := [(0, .ref 5), (1, .int v1), (2, .int v2), (3, .int v3)]) rfl rfl rfl rfl ?_ ?_
  · refine db_Rgo (pc' := 25) (lv' := []) (st' := [.int (0 : Int32)]) 1 rfl ?_
    exact db_Rret (lv1 := []) rfl rfl rfl rfl
  refine db_Rgo (pc' := 14) (lv' := [(0, .ref 5), (1, .int v1), (2, .int v2), (3, .int v3)]) (st' := [.int v1, .ref 12, .long ((Int32.toInt64 v2) + (Int32.toInt64 v3))]) 8 rfl ?_
  refine db_RldI (pc' := 15) (lv1 := [(0, .ref 5), (1, .int v1), (2, .int v2), (3, .int v3)]) rfl rfl rfl fun x1 => ?_
  refine db_Rgo (pc' := 17) (lv' := [(0, .ref 5), (1, .int v1), (2, .int v2), (3, .int v3)]) (st' := [.int (lg_cmp ((Int32.toInt64 v2) + (Int32.toInt64 v3)) (Int32.toInt64 x1))]) 2 rfl ?_
  refine db_Rif (pc' := 20) (tg := 24) (lv1 := [(0, .ref 5), (1, .int v1), (2, .int v2), (3, .int v3)]) rfl rfl rfl rfl ?_ ?_
  · refine db_Rgo (pc' := 25) (lv' := []) (st' := [.int (0 : Int32)]) 1 rfl ?_
    exact db_Rret (lv1 := []) rfl rfl rfl rfl
  refine db_Rgo (pc' := 25) (lv' := [(0, .ref 5), (1, .int v1), (2, .int v2), (3, .int v3)]) (st' := [.int (1 : Int32)]) 2 rfl ?_
  exact db_Rret (lv1 := []) rfl rfl rfl rfl
noncomputable def db_f38_b62 (s : db_S) (v1 : Int32) (v2 : Int32) (v3 : Int32) (v4 : Int32) (v5 : Int32) (v6 : Int32) : Option (Bool × db_S) :=
  (cond (db_cnd .eq v6 0) ((db_rR 6 v1).bind fun y1 => ((db_rR 6 v3).bind fun y2 => ((db_cL s y1 v2 y2 v4 v5).bind fun s3 => (db_bd (db_f31 s3) fun q4 s5 => (some (q4, s5)))))) (db_bd (db_f28 s v6) fun q6 s7 => (some (q6, s7))))
set_option maxRecDepth 100000 in
theorem db_f38_b62_ok {X : db_X} {d : Nat}  {s : db_S} {v1 : Int32} {v2 : Int32} {v3 : Int32} {v4 : Int32} {v5 : Int32} {v6 : Int32} : db_Rf X (d + 3) dbm_38 62 [(0, .ref 4), (1, .int v1), (2, .int v2), (3, .int v3), (4, .int v4), (5, .int v5), (6, .int v6)] [] s db_zB (db_f38_b62 s v1 v2 v3 v4 v5 v6) := by
  unfold db_f38_b62
  refine db_Rgo (pc' := 64) (lv' := [(0, .ref 4), (1, .int v1), (2, .int v2), (3, .int v3), (4, .int v4), (5, .int v5), (6, .int v6)]) (st' := [.int v6]) 1 rfl ?_
  refine db_Rif (pc' := 67) (tg := 74) (lv1 := [(0, .ref 4), (1, .int v1), (2, .int v2), (3, .int v3), (4, .int v4), (5, .int v5), (6, .int v6)]) rfl rfl rfl rfl ?_ ?_
  · refine db_Rgo (pc' := 82) (lv' := [(0, .ref 4), (1, .int v1), (2, .int v2), (3, .int v3), (4, .int v4), (5, .int v5)]) (st' := [.int v1, .ref 6]) 4 rfl ?_
    refine db_RldR (pc' := 83) (lv1 := [(0, .ref 4), (1, .int v1), (2, .int v2), (3, .int v3), (4, .int v4), (5, .int v5)]) rfl rfl rfl fun y1 => ?_
    refine db_Rgo (pc' := 92) (lv' := [(0, .ref 4), (1, .int v1), (2, .int v2), (3, .int v3), (4, .int v4), (5, .int v5)]) (st' := [.int v3, .ref 6, .int v2, .ref (y1 + 4)]) 5 rfl ?_
    refine db_RldR (pc' := 93) (lv1 := [(0, .ref 4), (1, .int v1), (2, .int v2), (3, .int v3), (4, .int v4), (5, .int v5)]) rfl rfl rfl fun y2 => ?_
    refine db_Rgo (pc' := 97) (lv' := [(0, .ref 4), (1, .int v1), (2, .int v2), (3, .int v3), (4, .int v4), (5, .int v5)]) (st' := [.int v5, .int v4, .ref (y2 + 4), .int v2, .ref (y1 + 4)]) 2 rfl ?_
    refine db_RcpL (pc' := 100) (lv1 := [(0, .ref 4), (1, .int v1), (2, .int v2), (3, .int v3), (4, .int v4), (5, .int v5)]) rfl rfl rfl rfl rfl fun s3 => ?_
    refine db_Rgo (pc' := 101) (lv' := [(0, .ref 4), (1, .int v1), (2, .int v2), (3, .int v3), (4, .int v4), (5, .int v5)]) (st' := [.ref 4]) 1 rfl ?_
    refine db_RcdB (mr' := dbm_31) (as := [.ref 4]) (rest := []) (pc' := 104) (lv1 := [(0, .ref 4), (1, .int v1), (2, .int v2), (3, .int v3), (4, .int v4), (5, .int v5)]) rfl rfl rfl rfl rfl (db_f31_ok) fun q4 s5 => ?_
    exact db_RretB (lv1 := [(0, .ref 4), (1, .int v1), (2, .int v2), (3, .int v3), (4, .int v4), (5, .int v5)]) rfl rfl rfl rfl
  refine db_Rgo (pc' := 70) (lv' := [(0, .ref 4), (1, .int v1), (2, .int v2), (3, .int v3), (4, .int v4), (5, .int v5), (6, .int v6)]) (st' := [.int v6, .ref 4]) 2 rfl ?_
  refine db_RcdB (mr' := dbm_28) (as := [.ref 4, .int v6]) (rest := []) (pc' := 73) (lv1 := [(0, .ref 4), (1, .int v1), (2, .int v2), (3, .int v3), (4, .int v4), (5, .int v5), (6, .int v6)]) rfl rfl rfl rfl rfl (db_f28_ok) fun q6 s7 => ?_
  exact db_RretB (lv1 := [(0, .ref 4), (1, .int v1), (2, .int v2), (3, .int v3), (4, .int v4), (5, .int v5), (6, .int v6)]) rfl rfl rfl rfl
noncomputable def db_f38_b59 (s : db_S) (v1 : Int32) (v2 : Int32) (v3 : Int32) (v4 : Int32) (v5 : Int32) : Option (Bool × db_S) :=
  (db_f38_b62 s v1 v2 v3 v4 v5 (4 : Int32))
set_option maxRecDepth 100000 in
theorem db_f38_b59_ok {X : db_X} {d : Nat}  {s : db_S} {v1 : Int32} {v2 : Int32} {v3 : Int32} {v4 : Int32} {v5 : Int32} : db_Rf X (d + 3) dbm_38 59 [(0, .ref 4), (1, .int v1), (2, .int v2), (3, .int v3), (4, .int v4), (5, .int v5)] [] s db_zB (db_f38_b59 s v1 v2 v3 v4 v5) := by
  unfold db_f38_b59
  refine db_Rgo (pc' := 62) (lv' := [(6, .int (4 : Int32)), (0, .ref 4), (1, .int v1), (2, .int v2), (3, .int v3), (4, .int v4), (5, .int v5)]) (st' := []) 2 rfl ?_
  refine db_Rn (lv1 := [(0, .ref 4), (1, .int v1), (2, .int v2), (3, .int v3), (4, .int v4), (5, .int v5), (6, .int (4 : Int32))]) rfl rfl rfl ?_
  exact db_f38_b62_ok
noncomputable def db_f38_b25 (s : db_S) (v1 : Int32) (v2 : Int32) (v3 : Int32) (v4 : Int32) (v5 : Int32) (v6 : Int32) : Option (Bool × db_S) :=
  (cond (db_cnd .ne v6 0) (db_f38_b62 s v1 v2 v3 v4 v5 v6) ((db_f40 s v1 v2 v5).bind fun q1 => (cond q1 ((db_f40 s v3 v4 v5).bind fun q3 => (cond q3 (db_f38_b62 s v1 v2 v3 v4 v5 v6) (db_f38_b59 s v1 v2 v3 v4 v5))) (db_f38_b59 s v1 v2 v3 v4 v5))))
set_option maxRecDepth 100000 in
theorem db_f38_b25_ok {X : db_X} {d : Nat}  {s : db_S} {v1 : Int32} {v2 : Int32} {v3 : Int32} {v4 : Int32} {v5 : Int32} {v6 : Int32} : db_Rf X (d + 3) dbm_38 25 [(0, .ref 4), (1, .int v1), (2, .int v2), (3, .int v3), (4, .int v4), (5, .int v5), (6, .int v6)] [] s db_zB (db_f38_b25 s v1 v2 v3 v4 v5 v6) := by
  unfold db_f38_b25
  refine db_Rgo (pc' := 27) (lv' := [(0, .ref 4), (1, .int v1), (2, .int v2), (3, .int v3), (4, .int v4), (5, .int v5), (6, .int v6)]) (st' := [.int v6]) 1 rfl ?_
  refine db_Rif (pc' := 30) (tg := 62) (lv1 := [(0, .ref 4), (1, .int v1), (2, .int v2), (3, .int v3), (4, .int v4), (5, .int v5), (6, .int v6)]) rfl rfl rfl rfl ?_ ?_
  · exact db_f38_b62_ok
  refine db_Rgo (pc' := 38) (lv' := [(0, .ref 4), (1, .int v1), (2, .int v2), (3, .int v3), (4, .int v4), (5, .int v5), (6, .int v6)]) (st' := [.int v5, .int v2, .int v1, .ref 5]) 5 rfl ?_
  refine db_RcyB (mr' := dbm_40) (as := [.ref 5, .int v1, .int v2, .int v5]) (rest := []) (pc' := 41) (lv1 := [(0, .ref 4), (1, .int v1), (2, .int v2), (3, .int v3), (4, .int v4), (5, .int v5), (6, .int v6)]) rfl rfl rfl rfl rfl (db_f40_ok) fun q1 => ?_
  refine db_RifBe (pc' := 44) (tg := 59) (lv1 := [(0, .ref 4), (1, .int v1), (2, .int v2), (3, .int v3), (4, .int v4), (5, .int v5), (6, .int v6)]) rfl rfl rfl rfl ?_ ?_
  · refine db_Rn (lv1 := [(0, .ref 4), (1, .int v1), (2, .int v2), (3, .int v3), (4, .int v4), (5, .int v5)]) rfl rfl rfl ?_
    exact db_f38_b59_ok
  refine db_Rgo (pc' := 53) (lv' := [(0, .ref 4), (1, .int v1), (2, .int v2), (3, .int v3), (4, .int v4), (5, .int v5), (6, .int v6)]) (st' := [.int v5, .int v4, .int v3, .ref 5]) 5 rfl ?_
  refine db_RcyB (mr' := dbm_40) (as := [.ref 5, .int v3, .int v4, .int v5]) (rest := []) (pc' := 56) (lv1 := [(0, .ref 4), (1, .int v1), (2, .int v2), (3, .int v3), (4, .int v4), (5, .int v5), (6, .int v6)]) rfl rfl rfl rfl rfl (db_f40_ok) fun q3 => ?_
  refine db_RifBn (pc' := 59) (tg := 62) (lv1 := [(0, .ref 4), (1, .int v1), (2, .int v2), (3, .int v3), (4, .int v4), (5, .int v5), (6, .int v6)]) rfl rfl rfl rfl ?_ ?_
  · exact db_f38_b62_ok
  refine db_Rn (lv1 := [(0, .ref 4), (1, .int v1), (2, .int v2), (3, .int v3), (4, .int v4), (5, .int v5)]) rfl rfl rfl ?_
  exact db_f38_b59_ok
/-- DreamBook.pour(IIIII)Z -/
noncomputable def db_f38 (s : db_S) (v1 : Int32) (v2 : Int32) (v3 : Int32) (v4 : Int32) (v5 : Int32) : Option (Bool × db_S) :=
  ((db_f39 s v1 v3).bind fun q1 => (cond (db_cnd .ne q1 0) (db_f38_b25 s v1 v2 v3 v4 v5 q1) (cond (db_cnd .ge v5 0) (db_f38_b25 s v1 v2 v3 v4 v5 q1) (db_f38_b25 s v1 v2 v3 v4 v5 (6 : Int32)))))
set_option maxRecDepth 100000 in
theorem db_f38_ok {X : db_X} {d : Nat} {s : db_S} {v1 : Int32} {v2 : Int32} {v3 : Int32} {v4 : Int32} {v5 : Int32} : db_Rf X (d + 3) dbm_38 0 (lv_args 0 [.ref 4, .int v1, .int v2, .int v3, .int v4, .int v5]) [] s db_zB (db_f38 s v1 v2 v3 v4 v5) := by
  show db_Rf _ _ _ 0 [(0, .ref 4), (1, .int v1), (2, .int v2), (3, .int v3), (4, .int v4), (5, .int v5)] [] _ _ _
  unfold db_f38
  refine db_Rgo (pc' := 6) (lv' := [(0, .ref 4), (1, .int v1), (2, .int v2), (3, .int v3), (4, .int v4), (5, .int v5)]) (st' := [.int v3, .int v1, .ref 5]) 4 rfl ?_
  refine db_RcyI (mr' := dbm_39) (as := [.ref 5, .int v1, .int v3]) (rest := []) (pc' := 9) (lv1 := [(0, .ref 4), (1, .int v1), (2, .int v2), (3, .int v3), (4, .int v4), (5, .int v5)]) rfl rfl rfl rfl rfl (db_f39_ok) fun q1 => ?_
  refine db_Rgo (pc' := 13) (lv' := [(6, .int q1), (0, .ref 4), (1, .int v1), (2, .int v2), (3, .int v3), (4, .int v4), (5, .int v5)]) (st' := [.int q1]) 2 rfl ?_
  refine db_Rif (pc' := 16) (tg := 25) (lv1 := [(6, .int q1), (0, .ref 4), (1, .int v1), (2, .int v2), (3, .int v3), (4, .int v4), (5, .int v5)]) rfl rfl rfl rfl ?_ ?_
  · refine db_Rn (lv1 := [(0, .ref 4), (1, .int v1), (2, .int v2), (3, .int v3), (4, .int v4), (5, .int v5), (6, .int q1)]) rfl rfl rfl ?_
    exact db_f38_b25_ok
  refine db_Rgo (pc' := 18) (lv' := [(6, .int q1), (0, .ref 4), (1, .int v1), (2, .int v2), (3, .int v3), (4, .int v4), (5, .int v5)]) (st' := [.int v5]) 1 rfl ?_
  refine db_Rif (pc' := 21) (tg := 25) (lv1 := [(6, .int q1), (0, .ref 4), (1, .int v1), (2, .int v2), (3, .int v3), (4, .int v4), (5, .int v5)]) rfl rfl rfl rfl ?_ ?_
  · refine db_Rn (lv1 := [(0, .ref 4), (1, .int v1), (2, .int v2), (3, .int v3), (4, .int v4), (5, .int v5), (6, .int q1)]) rfl rfl rfl ?_
    exact db_f38_b25_ok
  refine db_Rgo (pc' := 25) (lv' := [(6, .int (6 : Int32)), (0, .ref 4), (1, .int v1), (2, .int v2), (3, .int v3), (4, .int v4), (5, .int v5)]) (st' := []) 2 rfl ?_
  refine db_Rn (lv1 := [(0, .ref 4), (1, .int v1), (2, .int v2), (3, .int v3), (4, .int v4), (5, .int v5), (6, .int (6 : Int32))]) rfl rfl rfl ?_
  exact db_f38_b25_ok
noncomputable def db_f217_b28 (s : db_S) : Option (Bool × db_S) :=
  (db_bd (db_f211 s (1 : Int32)) fun q1 s2 => (some (q1, s2)))
set_option maxRecDepth 100000 in
theorem db_f217_b28_ok {X : db_X} {d : Nat}  {s : db_S} : db_Rf X (d + 1) dbm_217 28 [(0, .ref 669)] [] s db_zB (db_f217_b28 s ) := by
  unfold db_f217_b28
  refine db_Rgo (pc' := 30) (lv' := [(0, .ref 669)]) (st' := [.int (1 : Int32), .ref 669]) 2 rfl ?_
  refine db_RcdB (mr' := dbm_211) (as := [.ref 669, .int (1 : Int32)]) (rest := []) (pc' := 33) (lv1 := [(0, .ref 669)]) rfl rfl rfl rfl rfl (db_f211_ok) fun q1 s2 => ?_
  exact db_RretB (lv1 := [(0, .ref 669)]) rfl rfl rfl rfl
noncomputable def db_f217_b52 (s : db_S) : Option (Bool × db_S) :=
  (db_bd (db_f211 s (3 : Int32)) fun q1 s2 => (some (q1, s2)))
set_option maxRecDepth 100000 in
theorem db_f217_b52_ok {X : db_X} {d : Nat}  {s : db_S} : db_Rf X (d + 1) dbm_217 52 [(0, .ref 669)] [] s db_zB (db_f217_b52 s ) := by
  unfold db_f217_b52
  refine db_Rgo (pc' := 54) (lv' := [(0, .ref 669)]) (st' := [.int (3 : Int32), .ref 669]) 2 rfl ?_
  refine db_RcdB (mr' := dbm_211) (as := [.ref 669, .int (3 : Int32)]) (rest := []) (pc' := 57) (lv1 := [(0, .ref 669)]) rfl rfl rfl rfl rfl (db_f211_ok) fun q1 s2 => ?_
  exact db_RretB (lv1 := [(0, .ref 669)]) rfl rfl rfl rfl
noncomputable def db_f217_b136 (s : db_S) : Option (Bool × db_S) :=
  (db_bd (db_f211 s (4 : Int32)) fun q1 s2 => (some (q1, s2)))
set_option maxRecDepth 100000 in
theorem db_f217_b136_ok {X : db_X} {d : Nat}  {s : db_S} : db_Rf X (d + 1) dbm_217 136 [(0, .ref 669)] [] s db_zB (db_f217_b136 s ) := by
  unfold db_f217_b136
  refine db_Rgo (pc' := 138) (lv' := [(0, .ref 669)]) (st' := [.int (4 : Int32), .ref 669]) 2 rfl ?_
  refine db_RcdB (mr' := dbm_211) (as := [.ref 669, .int (4 : Int32)]) (rest := []) (pc' := 141) (lv1 := [(0, .ref 669)]) rfl rfl rfl rfl rfl (db_f211_ok) fun q1 s2 => ?_
  exact db_RretB (lv1 := [(0, .ref 669)]) rfl rfl rfl rfl
noncomputable def db_f217_b182 (h158 : db_S → Int32 → Int32 → Int32 → Int32 → Int32 → Int32 → Int32 → Option (Bool × db_S)) (s : db_S) (v1 : Int32) (v2 : Int32) (v3 : Int32) (v4 : Int32) (v5 : Int32) (v6 : Int32) (v7 : Int32) (t0 : Int32) : Option (Bool × db_S) :=
  ((db_rL s 672 ((((60 : Int32) * v1) + v2) + t0)).bind fun x1 => ((db_wL s 672 ((((60 : Int32) * v3) + v4) + t0) x1).bind fun s2 => (h158 s2 v1 v2 v3 v4 v5 v6 (v7 + (1 : Int32)))))
set_option maxRecDepth 100000 in
theorem db_f217_b182_ok {X : db_X} {d : Nat}  {h158 : db_S → Int32 → Int32 → Int32 → Int32 → Int32 → Int32 → Int32 → Option (Bool × db_S)} {s : db_S} {v1 : Int32} {v2 : Int32} {v3 : Int32} {v4 : Int32} {v5 : Int32} {v6 : Int32} {v7 : Int32} {t0 : Int32} (zh158 : ∀ (s' : db_S) (v1 : Int32) (v2 : Int32) (v3 : Int32) (v4 : Int32) (v5 : Int32) (v6 : Int32) (v7 : Int32) , db_Rf X (d + 1) dbm_217 158 [(0, .ref 669), (1, .int v1), (2, .int v2), (3, .int v3), (4, .int v4), (5, .int v5), (6, .int v6), (7, .int v7)] [] s' db_zB (h158 s' v1 v2 v3 v4 v5 v6 v7)) : db_Rf X (d + 1) dbm_217 182 [(0, .ref 669), (1, .int v1), (2, .int v2), (3, .int v3), (4, .int v4), (5, .int v5), (6, .int v6), (7, .int v7)] [.int t0] s db_zB (db_f217_b182 h158 s v1 v2 v3 v4 v5 v6 v7 t0) := by
  unfold db_f217_b182
  refine db_Rgo (pc' := 211) (lv' := [(8, .int t0), (0, .ref 669), (1, .int v1), (2, .int v2), (3, .int v3), (4, .int v4), (5, .int v5), (6, .int v6), (7, .int v7)]) (st' := [.int ((((60 : Int32) * v1) + v2) + t0), .ref 672, .int ((((60 : Int32) * v3) + v4) + t0), .ref 672]) 19 rfl ?_
  refine db_RldL (pc' := 212) (lv1 := [(8, .int t0), (0, .ref 669), (1, .int v1), (2, .int v2), (3, .int v3), (4, .int v4), (5, .int v5), (6, .int v6), (7, .int v7)]) rfl rfl rfl fun x1 => ?_
  refine db_RstL (pc' := 213) (lv1 := [(8, .int t0), (0, .ref 669), (1, .int v1), (2, .int v2), (3, .int v3), (4, .int v4), (5, .int v5), (6, .int v6), (7, .int v7)]) rfl rfl rfl fun s2 => ?_
  refine db_Rgo (pc' := 158) (lv' := [(7, .int (v7 + (1 : Int32))), (8, .int t0), (0, .ref 669), (1, .int v1), (2, .int v2), (3, .int v3), (4, .int v4), (5, .int v5), (6, .int v6)]) (st' := []) 2 rfl ?_
  refine db_Rn (lv1 := [(0, .ref 669), (1, .int v1), (2, .int v2), (3, .int v3), (4, .int v4), (5, .int v5), (6, .int v6), (7, .int (v7 + (1 : Int32)))]) rfl rfl rfl ?_
  exact zh158 _ _ _ _ _ _ _ _
noncomputable def db_f217_b158 : Nat → db_S → Int32 → Int32 → Int32 → Int32 → Int32 → Int32 → Int32 → Option (Bool × db_S)
  | 0, _, _, _, _, _, _, _, _ => none
  | n + 1, s, v1, v2, v3, v4, v5, v6, v7 =>
    (cond (db_cnd .ge v7 v5) (some (true, s)) (cond (db_cnd .eq v6 0) (db_f217_b182 (db_f217_b158 n) s v1 v2 v3 v4 v5 v6 v7 v7) (db_f217_b182 (db_f217_b158 n) s v1 v2 v3 v4 v5 v6 v7 ((v5 - (1 : Int32)) - v7))))
set_option maxRecDepth 100000 in
theorem db_f217_b158_ok {X : db_X} {d : Nat}  (n : Nat) : ∀ (s : db_S) (v1 : Int32) (v2 : Int32) (v3 : Int32) (v4 : Int32) (v5 : Int32) (v6 : Int32) (v7 : Int32), db_Rf X (d + 1) dbm_217 158 [(0, .ref 669), (1, .int v1), (2, .int v2), (3, .int v3), (4, .int v4), (5, .int v5), (6, .int v6), (7, .int v7)] [] s db_zB (db_f217_b158 n s v1 v2 v3 v4 v5 v6 v7) := by
  induction n with
  | zero => intros; exact db_Rnone
  | succ n ih =>
    intro s v1 v2 v3 v4 v5 v6 v7
    unfold db_f217_b158
    refine db_Rgo (pc' := 162) (lv' := [(0, .ref 669), (1, .int v1), (2, .int v2), (3, .int v3), (4, .int v4), (5, .int v5), (6, .int v6), (7, .int v7)]) (st' := [.int v5, .int v7]) 2 rfl ?_
    refine db_Ric (pc' := 165) (tg := 219) (lv1 := [(0, .ref 669), (1, .int v1), (2, .int v2), (3, .int v3), (4, .int v4), (5, .int v5), (6, .int v6), (7, .int v7)]) rfl rfl rfl rfl ?_ ?_
    · refine db_Rgo (pc' := 220) (lv' := []) (st' := [.int (1 : Int32)]) 1 rfl ?_
      exact db_Rret (lv1 := []) rfl rfl rfl rfl
    refine db_Rgo (pc' := 167) (lv' := [(0, .ref 669), (1, .int v1), (2, .int v2), (3, .int v3), (4, .int v4), (5, .int v5), (6, .int v6), (7, .int v7)]) (st' := [.int v6]) 1 rfl ?_
    refine db_Rif (pc' := 170) (tg := 180) (lv1 := [(0, .ref 669), (1, .int v1), (2, .int v2), (3, .int v3), (4, .int v4), (5, .int v5), (6, .int v6), (7, .int v7)]) rfl rfl rfl rfl ?_ ?_
    · refine db_Rgo (pc' := 182) (lv' := [(0, .ref 669), (1, .int v1), (2, .int v2), (3, .int v3), (4, .int v4), (5, .int v5), (6, .int v6), (7, .int v7)]) (st' := [.int v7]) 1 rfl ?_
      exact db_f217_b182_ok ih
    refine db_Rgo (pc' := 182) (lv' := [(0, .ref 669), (1, .int v1), (2, .int v2), (3, .int v3), (4, .int v4), (5, .int v5), (6, .int v6), (7, .int v7)]) (st' := [.int ((v5 - (1 : Int32)) - v7)]) 6 rfl ?_
    exact db_f217_b182_ok ih
noncomputable def db_f217_b153 (s : db_S) (v1 : Int32) (v2 : Int32) (v3 : Int32) (v4 : Int32) (v5 : Int32) (t0 : Int32) : Option (Bool × db_S) :=
  (db_f217_b158 db_FU s v1 v2 v3 v4 v5 t0 (0 : Int32))
set_option maxRecDepth 100000 in
theorem db_f217_b153_ok {X : db_X} {d : Nat}  {s : db_S} {v1 : Int32} {v2 : Int32} {v3 : Int32} {v4 : Int32} {v5 : Int32} {t0 : Int32} : db_Rf X (d + 1) dbm_217 153 [(0, .ref 669), (1, .int v1), (2, .int v2), (3, .int v3), (4, .int v4), (5, .int v5)] [.int t0] s db_zB (db_f217_b153 s v1 v2 v3 v4 v5 t0) := by
  unfold db_f217_b153
  refine db_Rgo (pc' := 158) (lv' := [(7, .int (0 : Int32)), (6, .int t0), (0, .ref 669), (1, .int v1), (2, .int v2), (3, .int v3), (4, .int v4), (5, .int v5)]) (st' := []) 3 rfl ?_
  refine db_Rn (lv1 := [(0, .ref 669), (1, .int v1), (2, .int v2), (3, .int v3), (4, .int v4), (5, .int v5), (6, .int t0), (7, .int (0 : Int32))]) rfl rfl rfl ?_
  exact db_f217_b158_ok db_FU _ _ _ _ _ _ _ _
/-- DreamBookModel.pour(IIIII)Z -/
noncomputable def db_f217 (s : db_S) (v1 : Int32) (v2 : Int32) (v3 : Int32) (v4 : Int32) (v5 : Int32) : Option (Bool × db_S) :=
  ((db_pI s 669 1 (0 : Int32)).bind fun s1 => ((db_pI s1 669 0 (0 : Int32)).bind fun s2 => (cond (db_cnd .lt v1 0) (db_f217_b28 s2 ) (cond (db_cnd .ge v1 (4 : Int32)) (db_f217_b28 s2 ) (cond (db_cnd .lt v3 0) (db_f217_b28 s2 ) (cond (db_cnd .lt v3 (4 : Int32)) ((db_rI s2 671 v1).bind fun x3 => (cond (db_cnd .lt x3 0) (db_f217_b52 s2 ) ((db_rI s2 671 v3).bind fun x4 => (cond (db_cnd .ge x4 0) ((db_rI s2 670 v1).bind fun x5 => ((db_rI s2 670 v3).bind fun x6 => (cond (db_cnd .eq x5 x6) (cond (db_cnd .ge v5 0) (cond (db_cnd .lt v2 0) (db_f217_b136 s2 ) (cond (db_cnd .lt v4 0) (db_f217_b136 s2 ) ((db_rI s2 671 v1).bind fun x7 => (cond (db_cnd .gt (lg_cmp ((Int32.toInt64 v2) + (Int32.toInt64 v5)) (Int32.toInt64 x7)) 0) (db_f217_b136 s2 ) ((db_rI s2 671 v3).bind fun x8 => (cond (db_cnd .le (lg_cmp ((Int32.toInt64 v4) + (Int32.toInt64 v5)) (Int32.toInt64 x8)) 0) (cond (db_cnd .ge v2 v4) (db_f217_b153 s2 v1 v2 v3 v4 v5 (0 : Int32)) (db_f217_b153 s2 v1 v2 v3 v4 v5 (1 : Int32))) (db_f217_b136 s2 ))))))) (db_bd (db_f211 s2 (6 : Int32)) fun q9 s10 => (some (q9, s10)))) (db_bd (db_f211 s2 (11 : Int32)) fun q11 s12 => (some (q11, s12)))))) (db_f217_b52 s2 ))))) (db_f217_b28 s2 )))))))
set_option maxRecDepth 100000 in
theorem db_f217_ok {X : db_X} {d : Nat} {s : db_S} {v1 : Int32} {v2 : Int32} {v3 : Int32} {v4 : Int32} {v5 : Int32} : db_Rf X (d + 1) dbm_217 0 (lv_args 0 [.ref 669, .int v1, .int v2, .int v3, .int v4, .int v5]) [] s db_zB (db_f217 s v1 v2 v3 v4 v5) := by
  show db_Rf _ _ _ 0 [(0, .ref 669), (1, .int v1), (2, .int v2), (3, .int v3), (4, .int v4), (5, .int v5)] [] _ _ _
  unfold db_f217
  refine db_Rgo (pc' := 2) (lv' := [(0, .ref 669), (1, .int v1), (2, .int v2), (3, .int v3), (4, .int v4), (5, .int v5)]) (st' := [.int (0 : Int32), .ref 669]) 2 rfl ?_
  refine db_RpuI (pc' := 5) (lv1 := [(0, .ref 669), (1, .int v1), (2, .int v2), (3, .int v3), (4, .int v4), (5, .int v5)]) rfl rfl rfl rfl rfl rfl (by decide) rfl rfl fun s1 => ?_
  refine db_Rgo (pc' := 7) (lv' := [(0, .ref 669), (1, .int v1), (2, .int v2), (3, .int v3), (4, .int v4), (5, .int v5)]) (st' := [.int (0 : Int32), .ref 669]) 2 rfl ?_
  refine db_RpuI (pc' := 10) (lv1 := [(0, .ref 669), (1, .int v1), (2, .int v2), (3, .int v3), (4, .int v4), (5, .int v5)]) rfl rfl rfl rfl rfl rfl (by decide) rfl rfl fun s2 => ?_
  refine db_Rgo (pc' := 11) (lv' := [(0, .ref 669), (1, .int v1), (2, .int v2), (3, .int v3), (4, .int v4), (5, .int v5)]) (st' := [.int v1]) 1 rfl ?_
  refine db_Rif (pc' := 14) (tg := 28) (lv1 := [(0, .ref 669), (1, .int v1), (2, .int v2), (3, .int v3), (4, .int v4), (5, .int v5)]) rfl rfl rfl rfl ?_ ?_
  · refine db_Rn (lv1 := [(0, .ref 669)]) rfl rfl rfl ?_
    exact db_f217_b28_ok
  refine db_Rgo (pc' := 16) (lv' := [(0, .ref 669), (1, .int v1), (2, .int v2), (3, .int v3), (4, .int v4), (5, .int v5)]) (st' := [.int (4 : Int32), .int v1]) 2 rfl ?_
  refine db_Ric (pc' := 19) (tg := 28) (lv1 := [(0, .ref 669), (1, .int v1), (2, .int v2), (3, .int v3), (4, .int v4), (5, .int v5)]) rfl rfl rfl rfl ?_ ?_
  · refine db_Rn (lv1 := [(0, .ref 669)]) rfl rfl rfl ?_
    exact db_f217_b28_ok
  refine db_Rgo (pc' := 20) (lv' := [(0, .ref 669), (1, .int v1), (2, .int v2), (3, .int v3), (4, .int v4), (5, .int v5)]) (st' := [.int v3]) 1 rfl ?_
  refine db_Rif (pc' := 23) (tg := 28) (lv1 := [(0, .ref 669), (1, .int v1), (2, .int v2), (3, .int v3), (4, .int v4), (5, .int v5)]) rfl rfl rfl rfl ?_ ?_
  · refine db_Rn (lv1 := [(0, .ref 669)]) rfl rfl rfl ?_
    exact db_f217_b28_ok
  refine db_Rgo (pc' := 25) (lv' := [(0, .ref 669), (1, .int v1), (2, .int v2), (3, .int v3), (4, .int v4), (5, .int v5)]) (st' := [.int (4 : Int32), .int v3]) 2 rfl ?_
  refine db_Ric (pc' := 28) (tg := 34) (lv1 := [(0, .ref 669), (1, .int v1), (2, .int v2), (3, .int v3), (4, .int v4), (5, .int v5)]) rfl rfl rfl rfl ?_ ?_
  · refine db_Rgo (pc' := 39) (lv' := [(0, .ref 669), (1, .int v1), (2, .int v2), (3, .int v3), (4, .int v4), (5, .int v5)]) (st' := [.int v1, .ref 671]) 3 rfl ?_
    refine db_RldI (pc' := 40) (lv1 := [(0, .ref 669), (1, .int v1), (2, .int v2), (3, .int v3), (4, .int v4), (5, .int v5)]) rfl rfl rfl fun x3 => ?_
    refine db_Rif (pc' := 43) (tg := 52) (lv1 := [(0, .ref 669), (1, .int v1), (2, .int v2), (3, .int v3), (4, .int v4), (5, .int v5)]) rfl rfl rfl rfl ?_ ?_
    · refine db_Rn (lv1 := [(0, .ref 669)]) rfl rfl rfl ?_
      exact db_f217_b52_ok
    refine db_Rgo (pc' := 48) (lv' := [(0, .ref 669), (1, .int v1), (2, .int v2), (3, .int v3), (4, .int v4), (5, .int v5)]) (st' := [.int v3, .ref 671]) 3 rfl ?_
    refine db_RldI (pc' := 49) (lv1 := [(0, .ref 669), (1, .int v1), (2, .int v2), (3, .int v3), (4, .int v4), (5, .int v5)]) rfl rfl rfl fun x4 => ?_
    refine db_Rif (pc' := 52) (tg := 58) (lv1 := [(0, .ref 669), (1, .int v1), (2, .int v2), (3, .int v3), (4, .int v4), (5, .int v5)]) rfl rfl rfl rfl ?_ ?_
    · refine db_Rgo (pc' := 63) (lv' := [(0, .ref 669), (1, .int v1), (2, .int v2), (3, .int v3), (4, .int v4), (5, .int v5)]) (st' := [.int v1, .ref 670]) 3 rfl ?_
      refine db_RldI (pc' := 64) (lv1 := [(0, .ref 669), (1, .int v1), (2, .int v2), (3, .int v3), (4, .int v4), (5, .int v5)]) rfl rfl rfl fun x5 => ?_
      refine db_Rgo (pc' := 69) (lv' := [(0, .ref 669), (1, .int v1), (2, .int v2), (3, .int v3), (4, .int v4), (5, .int v5)]) (st' := [.int v3, .ref 670, .int x5]) 3 rfl ?_
      refine db_RldI (pc' := 70) (lv1 := [(0, .ref 669), (1, .int v1), (2, .int v2), (3, .int v3), (4, .int v4), (5, .int v5)]) rfl rfl rfl fun x6 => ?_
      refine db_Ric (pc' := 73) (tg := 80) (lv1 := [(0, .ref 669), (1, .int v1), (2, .int v2), (3, .int v3), (4, .int v4), (5, .int v5)]) rfl rfl rfl rfl ?_ ?_
      · refine db_Rgo (pc' := 82) (lv' := [(0, .ref 669), (1, .int v1), (2, .int v2), (3, .int v3), (4, .int v4), (5, .int v5)]) (st' := [.int v5]) 1 rfl ?_
        refine db_Rif (pc' := 85) (tg := 92) (lv1 := [(0, .ref 669), (1, .int v1), (2, .int v2), (3, .int v3), (4, .int v4), (5, .int v5)]) rfl rfl rfl rfl ?_ ?_
        · refine db_Rgo (pc' := 93) (lv' := [(0, .ref 669), (1, .int v1), (2, .int v2), (3, .int v3), (4, .int v4), (5, .int v5)]) (st' := [.int v2]) 1 rfl ?_
          refine db_Rif (pc' := 96) (tg := 136) (lv1 := [(0, .ref 669), (1, .int v1), (2, .int v2), (3, .int v3), (4, .int v4), (5, .int v5)]) rfl rfl rfl rfl ?_ ?_
          · refine db_Rn (lv1 := [(0, .ref 669)]) rfl rfl rfl ?_
            exact db_f217_b136_ok
          refine db_Rgo (pc' := 98) (lv' := [(0, .ref 669), (1, .int v1), (2, .int v2), (3, .int v3), (4, .int v4), (5, .int v5)]) (st' := [.int v4]) 1 rfl ?_
          refine db_Rif (pc' := 101) (tg := 136) (lv1 := [(0, .ref 669), (1, .int v1), (2, .int v2), (3, .int v3), (4, .int v4), (5, .int v5)]) rfl rfl rfl rfl ?_ ?_
          · refine db_Rn (lv1 := [(0, .ref 669)]) rfl rfl rfl ?_
            exact db_f217_b136_ok
          refine db_Rgo (pc' := 112) (lv' := [(0, .ref 669), (1, .int v1), (2, .int v2), (3, .int v3), (4, .int v4), (5, .int v5)]) (st' := [.int v1, .ref 671, .long ((Int32.toInt64 v2) + (Int32.toInt64 v5))]) 8 rfl ?_
          refine db_RldI (pc' := 113) (lv1 := [(0, .ref 669), (1, .int v1), (2, .int v2), (3, .int v3), (4, .int v4), (5, .int v5)]) rfl rfl rfl fun x7 => ?_
          refine db_Rgo (pc' := 115) (lv' := [(0, .ref 669), (1, .int v1), (2, .int v2), (3, .int v3), (4, .int v4), (5, .int v5)]) (st' := [.int (lg_cmp ((Int32.toInt64 v2) + (Int32.toInt64 v5)) (Int32.toInt64 x7))]) 2 rfl ?_
          refine db_Rif (pc' := 118) (tg := 136) (lv1 := [(0, .ref 669), (1, .int v1), (2, .int v2), (3, .int v3), (4, .int v4), (5, .int v5)]) rfl rfl rfl rfl ?_ ?_
          · refine db_Rn (lv1 := [(0, .ref 669)]) rfl rfl rfl ?_
            exact db_f217_b136_ok
          refine db_Rgo (pc' := 130) (lv' := [(0, .ref 669), (1, .int v1), (2, .int v2), (3, .int v3), (4, .int v4), (5, .int v5)]) (st' := [.int v3, .ref 671, .long ((Int32.toInt64 v4) + (Int32.toInt64 v5))]) 8 rfl ?_
          refine db_RldI (pc' := 131) (lv1 := [(0, .ref 669), (1, .int v1), (2, .int v2), (3, .int v3), (4, .int v4), (5, .int v5)]) rfl rfl rfl fun x8 => ?_
          refine db_Rgo (pc' := 133) (lv' := [(0, .ref 669), (1, .int v1), (2, .int v2), (3, .int v3), (4, .int v4), (5, .int v5)]) (st' := [.int (lg_cmp ((Int32.toInt64 v4) + (Int32.toInt64 v5)) (Int32.toInt64 x8))]) 2 rfl ?_
          refine db_Rif (pc' := 136) (tg := 142) (lv1 := [(0, .ref 669), (1, .int v1), (2, .int v2), (3, .int v3), (4, .int v4), (5, .int v5)]) rfl rfl rfl rfl ?_ ?_
          · refine db_Rgo (pc' := 145) (lv' := [(0, .ref 669), (1, .int v1), (2, .int v2), (3, .int v3), (4, .int v4), (5, .int v5)]) (st' := [.int v4, .int v2]) 2 rfl ?_
            refine db_Ric (pc' := 148) (tg := 152) (lv1 := [(0, .ref 669), (1, .int v1), (2, .int v2), (3, .int v3), (4, .int v4), (5, .int v5)]) rfl rfl rfl rfl ?_ ?_
            · refine db_Rgo (pc' := 153) (lv' := [(0, .ref 669), (1, .int v1), (2, .int v2), (3, .int v3), (4, .int v4), (5, .int v5)]) (st' := [.int (0 : Int32)]) 1 rfl ?_
              exact db_f217_b153_ok
            refine db_Rgo (pc' := 153) (lv' := [(0, .ref 669), (1, .int v1), (2, .int v2), (3, .int v3), (4, .int v4), (5, .int v5)]) (st' := [.int (1 : Int32)]) 2 rfl ?_
            exact db_f217_b153_ok
          refine db_Rn (lv1 := [(0, .ref 669)]) rfl rfl rfl ?_
          exact db_f217_b136_ok
        refine db_Rgo (pc' := 88) (lv' := [(0, .ref 669), (1, .int v1), (2, .int v2), (3, .int v3), (4, .int v4), (5, .int v5)]) (st' := [.int (6 : Int32), .ref 669]) 2 rfl ?_
        refine db_RcdB (mr' := dbm_211) (as := [.ref 669, .int (6 : Int32)]) (rest := []) (pc' := 91) (lv1 := [(0, .ref 669), (1, .int v1), (2, .int v2), (3, .int v3), (4, .int v4), (5, .int v5)]) rfl rfl rfl rfl rfl (db_f211_ok) fun q9 s10 => ?_
        exact db_RretB (lv1 := [(0, .ref 669), (1, .int v1), (2, .int v2), (3, .int v3), (4, .int v4), (5, .int v5)]) rfl rfl rfl rfl
      refine db_Rgo (pc' := 76) (lv' := [(0, .ref 669), (1, .int v1), (2, .int v2), (3, .int v3), (4, .int v4), (5, .int v5)]) (st' := [.int (11 : Int32), .ref 669]) 2 rfl ?_
      refine db_RcdB (mr' := dbm_211) (as := [.ref 669, .int (11 : Int32)]) (rest := []) (pc' := 79) (lv1 := [(0, .ref 669), (1, .int v1), (2, .int v2), (3, .int v3), (4, .int v4), (5, .int v5)]) rfl rfl rfl rfl rfl (db_f211_ok) fun q11 s12 => ?_
      exact db_RretB (lv1 := [(0, .ref 669), (1, .int v1), (2, .int v2), (3, .int v3), (4, .int v4), (5, .int v5)]) rfl rfl rfl rfl
    refine db_Rn (lv1 := [(0, .ref 669)]) rfl rfl rfl ?_
    exact db_f217_b52_ok
  refine db_Rn (lv1 := [(0, .ref 669)]) rfl rfl rfl ?_
  exact db_f217_b28_ok
/-- DreamBook$Scanner.hasRoom()Z -/
noncomputable def db_f42 (s : db_S) : Option Bool :=
  (cond (db_cnd .gt ((s.1 13 1) + (20 : Int32)) (900 : Int32)) (some false) (some true))
set_option maxRecDepth 100000 in
theorem db_f42_ok {X : db_X} {d : Nat} {s : db_S} : db_Rf X (d + 0) dbm_42 0 (lv_args 0 [.ref 13]) [] s (db_yB s) (db_f42 s ) := by
  show db_Rf _ _ _ 0 [(0, .ref 13)] [] _ _ _
  unfold db_f42
  refine db_Rgo (pc' := 10) (lv' := [(0, .ref 13)]) (st' := [.int (900 : Int32), .int ((s.1 13 1) + (20 : Int32))]) 5 rfl ?_
  refine db_Ric (pc' := 13) (tg := 17) (lv1 := [(0, .ref 13)]) rfl rfl rfl rfl ?_ ?_
  · refine db_Rgo (pc' := 18) (lv' := []) (st' := [.int (0 : Int32)]) 1 rfl ?_
    exact db_Rret (lv1 := []) rfl rfl rfl rfl
  refine db_Rgo (pc' := 18) (lv' := [(0, .ref 13)]) (st' := [.int (1 : Int32)]) 2 rfl ?_
  exact db_Rret (lv1 := []) rfl rfl rfl rfl
noncomputable def db_f43_b3 : Nat → db_S → Int32 → Int32 → Option db_S
  | 0, _, _, _ => none
  | n + 1, s, v1, v2 =>
    (cond (db_cnd .lt v2 0) (some s) (cond (db_cnd .ge (s.1 13 1) (900 : Int32)) (some s) ((db_wB s 14 (s.1 13 1) (Int32.toInt8 (v1 >>> (v2 &&& 31))).toInt32).bind fun s1 => ((db_pI s1 13 1 ((s1.1 13 1) + (1 : Int32))).bind fun s2 => (db_f43_b3 n s2 v1 (v2 + (-8 : Int32)))))))
set_option maxRecDepth 100000 in
theorem db_f43_b3_ok {X : db_X} {d : Nat}  (n : Nat) : ∀ (s : db_S) (v1 : Int32) (v2 : Int32), db_Rf X (d + 0) dbm_43 3 [(0, .ref 13), (1, .int v1), (2, .int v2)] [] s db_zV (db_f43_b3 n s v1 v2) := by
  induction n with
  | zero => intros; exact db_Rnone
  | succ n ih =>
    intro s v1 v2
    unfold db_f43_b3
    refine db_Rgo (pc' := 4) (lv' := [(0, .ref 13), (1, .int v1), (2, .int v2)]) (st' := [.int v2]) 1 rfl ?_
    refine db_Rif (pc' := 7) (tg := 46) (lv1 := [(0, .ref 13), (1, .int v1), (2, .int v2)]) rfl rfl rfl rfl ?_ ?_
    · exact db_Rret (lv1 := []) rfl rfl rfl rfl
    refine db_Rgo (pc' := 14) (lv' := [(0, .ref 13), (1, .int v1), (2, .int v2)]) (st' := [.int (900 : Int32), .int (s.1 13 1)]) 3 rfl ?_
    refine db_Ric (pc' := 17) (tg := 46) (lv1 := [(0, .ref 13), (1, .int v1), (2, .int v2)]) rfl rfl rfl rfl ?_ ?_
    · exact db_Rret (lv1 := []) rfl rfl rfl rfl
    refine db_Rgo (pc' := 29) (lv' := [(0, .ref 13), (1, .int v1), (2, .int v2)]) (st' := [.int (Int32.toInt8 (v1 >>> (v2 &&& 31))).toInt32, .int (s.1 13 1), .ref 14]) 8 rfl ?_
    refine db_RstB (pc' := 30) (lv1 := [(0, .ref 13), (1, .int v1), (2, .int v2)]) rfl rfl rfl fun s1 => ?_
    refine db_Rgo (pc' := 37) (lv' := [(0, .ref 13), (1, .int v1), (2, .int v2)]) (st' := [.int ((s1.1 13 1) + (1 : Int32)), .ref 13]) 5 rfl ?_
    refine db_RpuI (pc' := 40) (lv1 := [(0, .ref 13), (1, .int v1), (2, .int v2)]) rfl rfl rfl rfl rfl rfl (by decide) rfl rfl fun s2 => ?_
    refine db_Rgo (pc' := 3) (lv' := [(2, .int (v2 + (-8 : Int32))), (0, .ref 13), (1, .int v1)]) (st' := []) 2 rfl ?_
    refine db_Rn (lv1 := [(0, .ref 13), (1, .int v1), (2, .int (v2 + (-8 : Int32)))]) rfl rfl rfl ?_
    exact ih _ _ _
/-- DreamBook$Scanner.append(I)V -/
noncomputable def db_f43 (s : db_S) (v1 : Int32) : Option db_S :=
  (db_f43_b3 db_FU s v1 (24 : Int32))
set_option maxRecDepth 100000 in
theorem db_f43_ok {X : db_X} {d : Nat} {s : db_S} {v1 : Int32} : db_Rf X (d + 0) dbm_43 0 (lv_args 0 [.ref 13, .int v1]) [] s db_zV (db_f43 s v1) := by
  show db_Rf _ _ _ 0 [(0, .ref 13), (1, .int v1)] [] _ _ _
  unfold db_f43
  refine db_Rgo (pc' := 3) (lv' := [(2, .int (24 : Int32)), (0, .ref 13), (1, .int v1)]) (st' := []) 2 rfl ?_
  refine db_Rn (lv1 := [(0, .ref 13), (1, .int v1), (2, .int (24 : Int32))]) rfl rfl rfl ?_
  exact db_f43_b3_ok db_FU _ _ _
/-- DreamBook.feed(IIIII)I -/
noncomputable def db_f41 (s : db_S) (v1 : Int32) (v2 : Int32) (v3 : Int32) (v4 : Int32) (v5 : Int32) : Option (Int32 × db_S) :=
  ((db_f42 s).bind fun q1 => (cond q1 ((db_f43 s v1).bind fun s4 => ((db_f43 s4 v2).bind fun s6 => ((db_f43 s6 v3).bind fun s8 => ((db_f43 s8 v4).bind fun s10 => ((db_f43 s10 v5).bind fun s12 => (some ((s12.1 13 1), s12))))))) (some ((-1 : Int32), s))))
set_option maxRecDepth 100000 in
theorem db_f41_ok {X : db_X} {d : Nat} {s : db_S} {v1 : Int32} {v2 : Int32} {v3 : Int32} {v4 : Int32} {v5 : Int32} : db_Rf X (d + 1) dbm_41 0 (lv_args 0 [.ref 4, .int v1, .int v2, .int v3, .int v4, .int v5]) [] s db_zI (db_f41 s v1 v2 v3 v4 v5) := by
  show db_Rf _ _ _ 0 [(0, .ref 4), (1, .int v1), (2, .int v2), (3, .int v3), (4, .int v4), (5, .int v5)] [] _ _ _
  unfold db_f41
  refine db_Rgo (pc' := 4) (lv' := [(0, .ref 4), (1, .int v1), (2, .int v2), (3, .int v3), (4, .int v4), (5, .int v5)]) (st' := [.ref 13]) 2 rfl ?_
  refine db_RcyB (mr' := dbm_42) (as := [.ref 13]) (rest := []) (pc' := 7) (lv1 := [(0, .ref 4), (1, .int v1), (2, .int v2), (3, .int v3), (4, .int v4), (5, .int v5)]) rfl rfl rfl rfl rfl (db_f42_ok) fun q1 => ?_
  refine db_RifBn (pc' := 10) (tg := 12) (lv1 := [(0, .ref 4), (1, .int v1), (2, .int v2), (3, .int v3), (4, .int v4), (5, .int v5)]) rfl rfl rfl rfl ?_ ?_
  · refine db_Rgo (pc' := 17) (lv' := [(0, .ref 4), (1, .int v1), (2, .int v2), (3, .int v3), (4, .int v4), (5, .int v5)]) (st' := [.int v1, .ref 13]) 3 rfl ?_
    refine db_RcV (mr' := dbm_43) (as := [.ref 13, .int v1]) (rest := []) (pc' := 20) (lv1 := [(0, .ref 4), (1, .int v1), (2, .int v2), (3, .int v3), (4, .int v4), (5, .int v5)]) rfl rfl rfl rfl rfl (db_f43_ok) fun s4 => ?_
    refine db_Rgo (pc' := 25) (lv' := [(0, .ref 4), (1, .int v1), (2, .int v2), (3, .int v3), (4, .int v4), (5, .int v5)]) (st' := [.int v2, .ref 13]) 3 rfl ?_
    refine db_RcV (mr' := dbm_43) (as := [.ref 13, .int v2]) (rest := []) (pc' := 28) (lv1 := [(0, .ref 4), (1, .int v1), (2, .int v2), (3, .int v3), (4, .int v4), (5, .int v5)]) rfl rfl rfl rfl rfl (db_f43_ok) fun s6 => ?_
    refine db_Rgo (pc' := 33) (lv' := [(0, .ref 4), (1, .int v1), (2, .int v2), (3, .int v3), (4, .int v4), (5, .int v5)]) (st' := [.int v3, .ref 13]) 3 rfl ?_
    refine db_RcV (mr' := dbm_43) (as := [.ref 13, .int v3]) (rest := []) (pc' := 36) (lv1 := [(0, .ref 4), (1, .int v1), (2, .int v2), (3, .int v3), (4, .int v4), (5, .int v5)]) rfl rfl rfl rfl rfl (db_f43_ok) fun s8 => ?_
    refine db_Rgo (pc' := 42) (lv' := [(0, .ref 4), (1, .int v1), (2, .int v2), (3, .int v3), (4, .int v4), (5, .int v5)]) (st' := [.int v4, .ref 13]) 3 rfl ?_
    refine db_RcV (mr' := dbm_43) (as := [.ref 13, .int v4]) (rest := []) (pc' := 45) (lv1 := [(0, .ref 4), (1, .int v1), (2, .int v2), (3, .int v3), (4, .int v4), (5, .int v5)]) rfl rfl rfl rfl rfl (db_f43_ok) fun s10 => ?_
    refine db_Rgo (pc' := 51) (lv' := [(0, .ref 4), (1, .int v1), (2, .int v2), (3, .int v3), (4, .int v4), (5, .int v5)]) (st' := [.int v5, .ref 13]) 3 rfl ?_
    refine db_RcV (mr' := dbm_43) (as := [.ref 13, .int v5]) (rest := []) (pc' := 54) (lv1 := [(0, .ref 4), (1, .int v1), (2, .int v2), (3, .int v3), (4, .int v4), (5, .int v5)]) rfl rfl rfl rfl rfl (db_f43_ok) fun s12 => ?_
    refine db_Rgo (pc' := 61) (lv' := [(0, .ref 4), (1, .int v1), (2, .int v2), (3, .int v3), (4, .int v4), (5, .int v5)]) (st' := [.int (s12.1 13 1)]) 3 rfl ?_
    exact db_Rret (lv1 := [(0, .ref 4), (1, .int v1), (2, .int v2), (3, .int v3), (4, .int v4), (5, .int v5)]) rfl rfl rfl rfl
  refine db_Rgo (pc' := 11) (lv' := [(0, .ref 4), (1, .int v1), (2, .int v2), (3, .int v3), (4, .int v4), (5, .int v5)]) (st' := [.int (-1 : Int32)]) 1 rfl ?_
  exact db_Rret (lv1 := [(0, .ref 4), (1, .int v1), (2, .int v2), (3, .int v3), (4, .int v4), (5, .int v5)]) rfl rfl rfl rfl
noncomputable def db_f219_b2 : Nat → db_S → Int32 → Int32 → Option db_S
  | 0, _, _, _ => none
  | n + 1, s, v1, v2 =>
    (cond (db_cnd .lt v2 0) (some s) ((db_wB s 673 (s.1 669 8) (Int32.toInt8 (v1 >>> (((8 : Int32) * v2) &&& 31))).toInt32).bind fun s1 => ((db_pI s1 669 8 ((s1.1 669 8) + (1 : Int32))).bind fun s2 => (db_f219_b2 n s2 v1 (v2 + (-1 : Int32))))))
set_option maxRecDepth 100000 in
theorem db_f219_b2_ok {X : db_X} {d : Nat}  (n : Nat) : ∀ (s : db_S) (v1 : Int32) (v2 : Int32), db_Rf X (d + 0) dbm_219 2 [(0, .ref 669), (1, .int v1), (2, .int v2)] [] s db_zV (db_f219_b2 n s v1 v2) := by
  induction n with
  | zero => intros; exact db_Rnone
  | succ n ih =>
    intro s v1 v2
    unfold db_f219_b2
    refine db_Rgo (pc' := 3) (lv' := [(0, .ref 669), (1, .int v1), (2, .int v2)]) (st' := [.int v2]) 1 rfl ?_
    refine db_Rif (pc' := 6) (tg := 38) (lv1 := [(0, .ref 669), (1, .int v1), (2, .int v2)]) rfl rfl rfl rfl ?_ ?_
    · exact db_Rret (lv1 := []) rfl rfl rfl rfl
    refine db_Rgo (pc' := 21) (lv' := [(0, .ref 669), (1, .int v1), (2, .int v2)]) (st' := [.int (Int32.toInt8 (v1 >>> (((8 : Int32) * v2) &&& 31))).toInt32, .int (s.1 669 8), .ref 673]) 10 rfl ?_
    refine db_RstB (pc' := 22) (lv1 := [(0, .ref 669), (1, .int v1), (2, .int v2)]) rfl rfl rfl fun s1 => ?_
    refine db_Rgo (pc' := 29) (lv' := [(0, .ref 669), (1, .int v1), (2, .int v2)]) (st' := [.int ((s1.1 669 8) + (1 : Int32)), .ref 669]) 5 rfl ?_
    refine db_RpuI (pc' := 32) (lv1 := [(0, .ref 669), (1, .int v1), (2, .int v2)]) rfl rfl rfl rfl rfl rfl (by decide) rfl rfl fun s2 => ?_
    refine db_Rgo (pc' := 2) (lv' := [(2, .int (v2 + (-1 : Int32))), (0, .ref 669), (1, .int v1)]) (st' := []) 2 rfl ?_
    refine db_Rn (lv1 := [(0, .ref 669), (1, .int v1), (2, .int (v2 + (-1 : Int32)))]) rfl rfl rfl ?_
    exact ih _ _ _
/-- DreamBookModel.lay(I)V -/
noncomputable def db_f219 (s : db_S) (v1 : Int32) : Option db_S :=
  (db_f219_b2 db_FU s v1 (3 : Int32))
set_option maxRecDepth 100000 in
theorem db_f219_ok {X : db_X} {d : Nat} {s : db_S} {v1 : Int32} : db_Rf X (d + 0) dbm_219 0 (lv_args 0 [.ref 669, .int v1]) [] s db_zV (db_f219 s v1) := by
  show db_Rf _ _ _ 0 [(0, .ref 669), (1, .int v1)] [] _ _ _
  unfold db_f219
  refine db_Rgo (pc' := 2) (lv' := [(2, .int (3 : Int32)), (0, .ref 669), (1, .int v1)]) (st' := []) 2 rfl ?_
  refine db_Rn (lv1 := [(0, .ref 669), (1, .int v1), (2, .int (3 : Int32))]) rfl rfl rfl ?_
  exact db_f219_b2_ok db_FU _ _ _
/-- DreamBookModel.feed(IIIII)I -/
noncomputable def db_f218 (s : db_S) (v1 : Int32) (v2 : Int32) (v3 : Int32) (v4 : Int32) (v5 : Int32) : Option (Int32 × db_S) :=
  ((db_pI s 669 1 (0 : Int32)).bind fun s1 => (cond (db_cnd .le ((s1.1 669 8) + (20 : Int32)) (900 : Int32)) ((db_f219 s1 v1).bind fun s3 => ((db_f219 s3 v2).bind fun s5 => ((db_f219 s5 v3).bind fun s7 => ((db_f219 s7 v4).bind fun s9 => ((db_f219 s9 v5).bind fun s11 => (some ((s11.1 669 8), s11))))))) (some ((-1 : Int32), s1))))
set_option maxRecDepth 100000 in
theorem db_f218_ok {X : db_X} {d : Nat} {s : db_S} {v1 : Int32} {v2 : Int32} {v3 : Int32} {v4 : Int32} {v5 : Int32} : db_Rf X (d + 1) dbm_218 0 (lv_args 0 [.ref 669, .int v1, .int v2, .int v3, .int v4, .int v5]) [] s db_zI (db_f218 s v1 v2 v3 v4 v5) := by
  show db_Rf _ _ _ 0 [(0, .ref 669), (1, .int v1), (2, .int v2), (3, .int v3), (4, .int v4), (5, .int v5)] [] _ _ _
  unfold db_f218
  refine db_Rgo (pc' := 2) (lv' := [(0, .ref 669), (1, .int v1), (2, .int v2), (3, .int v3), (4, .int v4), (5, .int v5)]) (st' := [.int (0 : Int32), .ref 669]) 2 rfl ?_
  refine db_RpuI (pc' := 5) (lv1 := [(0, .ref 669), (1, .int v1), (2, .int v2), (3, .int v3), (4, .int v4), (5, .int v5)]) rfl rfl rfl rfl rfl rfl (by decide) rfl rfl fun s1 => ?_
  refine db_Rgo (pc' := 15) (lv' := [(0, .ref 669), (1, .int v1), (2, .int v2), (3, .int v3), (4, .int v4), (5, .int v5)]) (st' := [.int (900 : Int32), .int ((s1.1 669 8) + (20 : Int32))]) 5 rfl ?_
  refine db_Ric (pc' := 18) (tg := 20) (lv1 := [(0, .ref 669), (1, .int v1), (2, .int v2), (3, .int v3), (4, .int v4), (5, .int v5)]) rfl rfl rfl rfl ?_ ?_
  · refine db_Rgo (pc' := 22) (lv' := [(0, .ref 669), (1, .int v1), (2, .int v2), (3, .int v3), (4, .int v4), (5, .int v5)]) (st' := [.int v1, .ref 669]) 2 rfl ?_
    refine db_RcV (mr' := dbm_219) (as := [.ref 669, .int v1]) (rest := []) (pc' := 25) (lv1 := [(0, .ref 669), (1, .int v1), (2, .int v2), (3, .int v3), (4, .int v4), (5, .int v5)]) rfl rfl rfl rfl rfl (db_f219_ok) fun s3 => ?_
    refine db_Rgo (pc' := 27) (lv' := [(0, .ref 669), (1, .int v1), (2, .int v2), (3, .int v3), (4, .int v4), (5, .int v5)]) (st' := [.int v2, .ref 669]) 2 rfl ?_
    refine db_RcV (mr' := dbm_219) (as := [.ref 669, .int v2]) (rest := []) (pc' := 30) (lv1 := [(0, .ref 669), (1, .int v1), (2, .int v2), (3, .int v3), (4, .int v4), (5, .int v5)]) rfl rfl rfl rfl rfl (db_f219_ok) fun s5 => ?_
    refine db_Rgo (pc' := 32) (lv' := [(0, .ref 669), (1, .int v1), (2, .int v2), (3, .int v3), (4, .int v4), (5, .int v5)]) (st' := [.int v3, .ref 669]) 2 rfl ?_
    refine db_RcV (mr' := dbm_219) (as := [.ref 669, .int v3]) (rest := []) (pc' := 35) (lv1 := [(0, .ref 669), (1, .int v1), (2, .int v2), (3, .int v3), (4, .int v4), (5, .int v5)]) rfl rfl rfl rfl rfl (db_f219_ok) fun s7 => ?_
    refine db_Rgo (pc' := 38) (lv' := [(0, .ref 669), (1, .int v1), (2, .int v2), (3, .int v3), (4, .int v4), (5, .int v5)]) (st' := [.int v4, .ref 669]) 2 rfl ?_
    refine db_RcV (mr' := dbm_219) (as := [.ref 669, .int v4]) (rest := []) (pc' := 41) (lv1 := [(0, .ref 669), (1, .int v1), (2, .int v2), (3, .int v3), (4, .int v4), (5, .int v5)]) rfl rfl rfl rfl rfl (db_f219_ok) fun s9 => ?_
    refine db_Rgo (pc' := 44) (lv' := [(0, .ref 669), (1, .int v1), (2, .int v2), (3, .int v3), (4, .int v4), (5, .int v5)]) (st' := [.int v5, .ref 669]) 2 rfl ?_
    refine db_RcV (mr' := dbm_219) (as := [.ref 669, .int v5]) (rest := []) (pc' := 47) (lv1 := [(0, .ref 669), (1, .int v1), (2, .int v2), (3, .int v3), (4, .int v4), (5, .int v5)]) rfl rfl rfl rfl rfl (db_f219_ok) fun s11 => ?_
    refine db_Rgo (pc' := 51) (lv' := [(0, .ref 669), (1, .int v1), (2, .int v2), (3, .int v3), (4, .int v4), (5, .int v5)]) (st' := [.int (s11.1 669 8)]) 2 rfl ?_
    exact db_Rret (lv1 := [(0, .ref 669), (1, .int v1), (2, .int v2), (3, .int v3), (4, .int v4), (5, .int v5)]) rfl rfl rfl rfl
  refine db_Rgo (pc' := 19) (lv' := [(0, .ref 669), (1, .int v1), (2, .int v2), (3, .int v3), (4, .int v4), (5, .int v5)]) (st' := [.int (-1 : Int32)]) 1 rfl ?_
  exact db_Rret (lv1 := [(0, .ref 669), (1, .int v1), (2, .int v2), (3, .int v3), (4, .int v4), (5, .int v5)]) rfl rfl rfl rfl
noncomputable def db_f2_b5 : Nat → db_S → Nat → Int32 → Int32 → Int32 → Option db_S
  | 0, _, _, _, _, _ => none
  | n + 1, s, a0, v1, v2, v3 =>
    (cond (db_cnd .ge v2 v3) (some s) ((db_wI s a0 v2 v1).bind fun s1 => (db_f2_b5 n s1 a0 v1 (v2 + (1 : Int32)) v3)))
set_option maxRecDepth 100000 in
theorem db_f2_b5_ok {X : db_X} {d : Nat}  (n : Nat) : ∀ (s : db_S) (a0 : Nat) (v1 : Int32) (v2 : Int32) (v3 : Int32), db_Rf X (d + 0) dbm_2 5 [(0, .ref (a0 + 4)), (1, .int v1), (2, .int v2), (3, .int v3)] [] s db_zV (db_f2_b5 n s (a0 + 4) v1 v2 v3) := by
  induction n with
  | zero => intros; exact db_Rnone
  | succ n ih =>
    intro s a0 v1 v2 v3
    unfold db_f2_b5
    refine db_Rgo (pc' := 7) (lv' := [(0, .ref (a0 + 4)), (1, .int v1), (2, .int v2), (3, .int v3)]) (st' := [.int v3, .int v2]) 2 rfl ?_
    refine db_Ric (pc' := 10) (tg := 20) (lv1 := [(0, .ref (a0 + 4)), (1, .int v1), (2, .int v2), (3, .int v3)]) rfl rfl rfl rfl ?_ ?_
    · exact db_Rret (lv1 := []) rfl rfl rfl rfl
    refine db_Rgo (pc' := 13) (lv' := [(0, .ref (a0 + 4)), (1, .int v1), (2, .int v2), (3, .int v3)]) (st' := [.int v1, .int v2, .ref (a0 + 4)]) 3 rfl ?_
    refine db_RstI (pc' := 14) (lv1 := [(0, .ref (a0 + 4)), (1, .int v1), (2, .int v2), (3, .int v3)]) rfl rfl rfl fun s1 => ?_
    refine db_Rgo (pc' := 5) (lv' := [(2, .int (v2 + (1 : Int32))), (0, .ref (a0 + 4)), (1, .int v1), (3, .int v3)]) (st' := []) 2 rfl ?_
    refine db_Rn (lv1 := [(0, .ref (a0 + 4)), (1, .int v1), (2, .int (v2 + (1 : Int32))), (3, .int v3)]) rfl rfl rfl ?_
    exact ih _ _ _ _ _
/-- java/util/Arrays.fill([II)V -/
noncomputable def db_f2 (s : db_S) (a0 : Nat) (v1 : Int32) : Option db_S :=
  ((db_ln a0).bind fun x1 => (db_f2_b5 db_FU s a0 v1 (0 : Int32) x1))
set_option maxRecDepth 100000 in
theorem db_f2_ok {X : db_X} {d : Nat} {s : db_S} {a0 : Nat} {v1 : Int32} : db_Rf X (d + 0) dbm_2 0 (lv_args 0 [.ref (a0 + 4), .int v1]) [] s db_zV (db_f2 s (a0 + 4) v1) := by
  show db_Rf _ _ _ 0 [(0, .ref (a0 + 4)), (1, .int v1)] [] _ _ _
  unfold db_f2
  refine db_Rgo (pc' := 3) (lv' := [(2, .int (0 : Int32)), (0, .ref (a0 + 4)), (1, .int v1)]) (st' := [.ref (a0 + 4)]) 3 rfl ?_
  refine db_Rlen (pc' := 4) (lv1 := [(2, .int (0 : Int32)), (0, .ref (a0 + 4)), (1, .int v1)]) rfl rfl rfl fun x1 => ?_
  refine db_Rgo (pc' := 5) (lv' := [(3, .int x1), (2, .int (0 : Int32)), (0, .ref (a0 + 4)), (1, .int v1)]) (st' := []) 1 rfl ?_
  refine db_Rn (lv1 := [(0, .ref (a0 + 4)), (1, .int v1), (2, .int (0 : Int32)), (3, .int x1)]) rfl rfl rfl ?_
  exact db_f2_b5_ok db_FU _ _ _ _ _
/-- DreamBook$Told.clear()V -/
noncomputable def db_f46_146 (s : db_S) : Option db_S :=
  ((db_f2 s 147 (0 : Int32)).bind fun s2 => ((db_pI s2 146 18 (0 : Int32)).bind fun s3 => (some s3)))
set_option maxRecDepth 100000 in
theorem db_f46_146_ok {X : db_X} {d : Nat} {s : db_S} : db_Rf X (d + 1) dbm_46 0 (lv_args 0 [.ref 146]) [] s db_zV (db_f46_146 s ) := by
  show db_Rf _ _ _ 0 [(0, .ref 146)] [] _ _ _
  unfold db_f46_146
  refine db_Rgo (pc' := 5) (lv' := [(0, .ref 146)]) (st' := [.int (0 : Int32), .ref 147]) 3 rfl ?_
  refine db_RcV (mr' := dbm_2) (as := [.ref 147, .int (0 : Int32)]) (rest := []) (pc' := 8) (lv1 := [(0, .ref 146)]) rfl rfl rfl rfl rfl (db_f2_ok) fun s2 => ?_
  refine db_Rgo (pc' := 10) (lv' := [(0, .ref 146)]) (st' := [.int (0 : Int32), .ref 146]) 2 rfl ?_
  refine db_RpuI (pc' := 13) (lv1 := [(0, .ref 146)]) rfl rfl rfl rfl rfl rfl (by decide) rfl rfl fun s3 => ?_
  exact db_Rret (lv1 := [(0, .ref 146)]) rfl rfl rfl rfl
/-- DreamBook$Scanner.isBlank(I)Z -/
noncomputable def db_f48 (s : db_S) (v0 : Int32) : Option Bool :=
  (cond (db_cnd .eq v0 (10 : Int32)) (some true) (cond (db_cnd .ne v0 (32 : Int32)) (some false) (some true)))
set_option maxRecDepth 100000 in
theorem db_f48_ok {X : db_X} {d : Nat} {s : db_S} {v0 : Int32} : db_Rf X (d + 0) dbm_48 0 (lv_args 0 [.int v0]) [] s (db_yB s) (db_f48 s v0) := by
  show db_Rf _ _ _ 0 [(0, .int v0)] [] _ _ _
  unfold db_f48
  refine db_Rgo (pc' := 3) (lv' := [(0, .int v0)]) (st' := [.int (10 : Int32), .int v0]) 2 rfl ?_
  refine db_Ric (pc' := 6) (tg := 12) (lv1 := [(0, .int v0)]) rfl rfl rfl rfl ?_ ?_
  · refine db_Rgo (pc' := 17) (lv' := []) (st' := [.int (1 : Int32)]) 2 rfl ?_
    exact db_Rret (lv1 := []) rfl rfl rfl rfl
  refine db_Rgo (pc' := 9) (lv' := [(0, .int v0)]) (st' := [.int (32 : Int32), .int v0]) 2 rfl ?_
  refine db_Ric (pc' := 12) (tg := 16) (lv1 := [(0, .int v0)]) rfl rfl rfl rfl ?_ ?_
  · refine db_Rgo (pc' := 17) (lv' := []) (st' := [.int (0 : Int32)]) 1 rfl ?_
    exact db_Rret (lv1 := []) rfl rfl rfl rfl
  refine db_Rgo (pc' := 17) (lv' := []) (st' := [.int (1 : Int32)]) 2 rfl ?_
  exact db_Rret (lv1 := []) rfl rfl rfl rfl
/-- DreamBook$Scanner.isLetter(I)Z -/
noncomputable def db_f11 (s : db_S) (v0 : Int32) : Option Bool :=
  (cond (db_cnd .lt v0 (97 : Int32)) (some false) (cond (db_cnd .gt v0 (122 : Int32)) (some false) (some true)))
set_option maxRecDepth 100000 in
theorem db_f11_ok {X : db_X} {d : Nat} {s : db_S} {v0 : Int32} : db_Rf X (d + 0) dbm_11 0 (lv_args 0 [.int v0]) [] s (db_yB s) (db_f11 s v0) := by
  show db_Rf _ _ _ 0 [(0, .int v0)] [] _ _ _
  unfold db_f11
  refine db_Rgo (pc' := 3) (lv' := [(0, .int v0)]) (st' := [.int (97 : Int32), .int v0]) 2 rfl ?_
  refine db_Ric (pc' := 6) (tg := 16) (lv1 := [(0, .int v0)]) rfl rfl rfl rfl ?_ ?_
  · refine db_Rgo (pc' := 17) (lv' := []) (st' := [.int (0 : Int32)]) 1 rfl ?_
    exact db_Rret (lv1 := []) rfl rfl rfl rfl
  refine db_Rgo (pc' := 9) (lv' := [(0, .int v0)]) (st' := [.int (122 : Int32), .int v0]) 2 rfl ?_
  refine db_Ric (pc' := 12) (tg := 16) (lv1 := [(0, .int v0)]) rfl rfl rfl rfl ?_ ?_
  · refine db_Rgo (pc' := 17) (lv' := []) (st' := [.int (0 : Int32)]) 1 rfl ?_
    exact db_Rret (lv1 := []) rfl rfl rfl rfl
  refine db_Rgo (pc' := 17) (lv' := [(0, .int v0)]) (st' := [.int (1 : Int32)]) 2 rfl ?_
  exact db_Rret (lv1 := []) rfl rfl rfl rfl
/-- DreamBook$Scanner.isDigit(I)Z -/
noncomputable def db_f52 (s : db_S) (v0 : Int32) : Option Bool :=
  (cond (db_cnd .lt v0 (48 : Int32)) (some false) (cond (db_cnd .gt v0 (57 : Int32)) (some false) (some true)))
set_option maxRecDepth 100000 in
theorem db_f52_ok {X : db_X} {d : Nat} {s : db_S} {v0 : Int32} : db_Rf X (d + 0) dbm_52 0 (lv_args 0 [.int v0]) [] s (db_yB s) (db_f52 s v0) := by
  show db_Rf _ _ _ 0 [(0, .int v0)] [] _ _ _
  unfold db_f52
  refine db_Rgo (pc' := 3) (lv' := [(0, .int v0)]) (st' := [.int (48 : Int32), .int v0]) 2 rfl ?_
  refine db_Ric (pc' := 6) (tg := 16) (lv1 := [(0, .int v0)]) rfl rfl rfl rfl ?_ ?_
  · refine db_Rgo (pc' := 17) (lv' := []) (st' := [.int (0 : Int32)]) 1 rfl ?_
    exact db_Rret (lv1 := []) rfl rfl rfl rfl
  refine db_Rgo (pc' := 9) (lv' := [(0, .int v0)]) (st' := [.int (57 : Int32), .int v0]) 2 rfl ?_
  refine db_Ric (pc' := 12) (tg := 16) (lv1 := [(0, .int v0)]) rfl rfl rfl rfl ?_ ?_
  · refine db_Rgo (pc' := 17) (lv' := []) (st' := [.int (0 : Int32)]) 1 rfl ?_
    exact db_Rret (lv1 := []) rfl rfl rfl rfl
  refine db_Rgo (pc' := 17) (lv' := [(0, .int v0)]) (st' := [.int (1 : Int32)]) 2 rfl ?_
  exact db_Rret (lv1 := []) rfl rfl rfl rfl
/-- DreamBook$Scanner.isSign(I)Z -/
noncomputable def db_f54 (s : db_S) (v0 : Int32) : Option Bool :=
  (cond (db_cnd .eq v0 (59 : Int32)) (some true) (cond (db_cnd .eq v0 (60 : Int32)) (some true) (cond (db_cnd .eq v0 (61 : Int32)) (some true) (cond (db_cnd .ne v0 (62 : Int32)) (some false) (some true)))))
set_option maxRecDepth 100000 in
theorem db_f54_ok {X : db_X} {d : Nat} {s : db_S} {v0 : Int32} : db_Rf X (d + 0) dbm_54 0 (lv_args 0 [.int v0]) [] s (db_yB s) (db_f54 s v0) := by
  show db_Rf _ _ _ 0 [(0, .int v0)] [] _ _ _
  unfold db_f54
  refine db_Rgo (pc' := 3) (lv' := [(0, .int v0)]) (st' := [.int (59 : Int32), .int v0]) 2 rfl ?_
  refine db_Ric (pc' := 6) (tg := 24) (lv1 := [(0, .int v0)]) rfl rfl rfl rfl ?_ ?_
  · refine db_Rgo (pc' := 29) (lv' := []) (st' := [.int (1 : Int32)]) 2 rfl ?_
    exact db_Rret (lv1 := []) rfl rfl rfl rfl
  refine db_Rgo (pc' := 9) (lv' := [(0, .int v0)]) (st' := [.int (60 : Int32), .int v0]) 2 rfl ?_
  refine db_Ric (pc' := 12) (tg := 24) (lv1 := [(0, .int v0)]) rfl rfl rfl rfl ?_ ?_
  · refine db_Rgo (pc' := 29) (lv' := []) (st' := [.int (1 : Int32)]) 2 rfl ?_
    exact db_Rret (lv1 := []) rfl rfl rfl rfl
  refine db_Rgo (pc' := 15) (lv' := [(0, .int v0)]) (st' := [.int (61 : Int32), .int v0]) 2 rfl ?_
  refine db_Ric (pc' := 18) (tg := 24) (lv1 := [(0, .int v0)]) rfl rfl rfl rfl ?_ ?_
  · refine db_Rgo (pc' := 29) (lv' := []) (st' := [.int (1 : Int32)]) 2 rfl ?_
    exact db_Rret (lv1 := []) rfl rfl rfl rfl
  refine db_Rgo (pc' := 21) (lv' := [(0, .int v0)]) (st' := [.int (62 : Int32), .int v0]) 2 rfl ?_
  refine db_Ric (pc' := 24) (tg := 28) (lv1 := [(0, .int v0)]) rfl rfl rfl rfl ?_ ?_
  · refine db_Rgo (pc' := 29) (lv' := []) (st' := [.int (0 : Int32)]) 1 rfl ?_
    exact db_Rret (lv1 := []) rfl rfl rfl rfl
  refine db_Rgo (pc' := 29) (lv' := []) (st' := [.int (1 : Int32)]) 2 rfl ?_
  exact db_Rret (lv1 := []) rfl rfl rfl rfl
noncomputable def db_f53_b51 (h5 : db_S → Int32 → Int32 → Int32 → Int32 → Option (Int32 × db_S)) (s : db_S) (v1 : Int32) (v2 : Int32) (v3 : Int32) (v4 : Int32) : Option (Int32 × db_S) :=
  (h5 s v1 v2 v3 (v4 + (1 : Int32)))
set_option maxRecDepth 100000 in
theorem db_f53_b51_ok {X : db_X} {d : Nat}  {h5 : db_S → Int32 → Int32 → Int32 → Int32 → Option (Int32 × db_S)} {s : db_S} {v1 : Int32} {v2 : Int32} {v3 : Int32} {v4 : Int32} (zh5 : ∀ (s' : db_S) (v1 : Int32) (v2 : Int32) (v3 : Int32) (v4 : Int32) , db_Rf X (d + 1) dbm_53 5 [(0, .ref 13), (1, .int v1), (2, .int v2), (3, .int v3), (4, .int v4)] [] s' db_zI (h5 s' v1 v2 v3 v4)) : db_Rf X (d + 1) dbm_53 51 [(0, .ref 13), (1, .int v1), (2, .int v2), (3, .int v3), (4, .int v4)] [] s db_zI (db_f53_b51 h5 s v1 v2 v3 v4) := by
  unfold db_f53_b51
  refine db_Rgo (pc' := 5) (lv' := [(4, .int (v4 + (1 : Int32))), (0, .ref 13), (1, .int v1), (2, .int v2), (3, .int v3)]) (st' := []) 2 rfl ?_
  refine db_Rn (lv1 := [(0, .ref 13), (1, .int v1), (2, .int v2), (3, .int v3), (4, .int (v4 + (1 : Int32)))]) rfl rfl rfl ?_
  exact zh5 _ _ _ _ _
noncomputable def db_f53_b75 (s : db_S) (v1 : Int32) (v3 : Int32) (v4 : Int32) (t1 : Int32) (t2 : Int32) : Option (Int32 × db_S) :=
  ((db_wI s 16 t1 t2).bind fun s1 => ((db_wI s1 18 v1 v3).bind fun s2 => (some (v4, s2))))
set_option maxRecDepth 100000 in
theorem db_f53_b75_ok {X : db_X} {d : Nat}  {s : db_S} {v1 : Int32} {v3 : Int32} {v4 : Int32} {t1 : Int32} {t2 : Int32} : db_Rf X (d + 1) dbm_53 75 [(0, .ref 13), (1, .int v1), (3, .int v3), (4, .int v4)] [.int t2, .int t1, .ref 16] s db_zI (db_f53_b75 s v1 v3 v4 t1 t2) := by
  unfold db_f53_b75
  refine db_RstI (pc' := 76) (lv1 := [(0, .ref 13), (1, .int v1), (3, .int v3), (4, .int v4)]) rfl rfl rfl fun s1 => ?_
  refine db_Rgo (pc' := 82) (lv' := [(0, .ref 13), (1, .int v1), (3, .int v3), (4, .int v4)]) (st' := [.int v3, .int v1, .ref 18]) 4 rfl ?_
  refine db_RstI (pc' := 83) (lv1 := [(0, .ref 13), (1, .int v1), (3, .int v3), (4, .int v4)]) rfl rfl rfl fun s2 => ?_
  refine db_Rgo (pc' := 85) (lv' := [(0, .ref 13), (1, .int v1), (3, .int v3), (4, .int v4)]) (st' := [.int v4]) 1 rfl ?_
  exact db_Rret (lv1 := [(0, .ref 13), (1, .int v1), (3, .int v3), (4, .int v4)]) rfl rfl rfl rfl
noncomputable def db_f53_b57 (s : db_S) (v1 : Int32) (v2 : Int32) (v3 : Int32) (v4 : Int32) : Option (Int32 × db_S) :=
  (cond (db_cnd .gt (v4 - v2) (4 : Int32)) (db_f53_b75 s v1 v3 v4 v1 (4 : Int32)) (db_f53_b75 s v1 v3 v4 v1 (2 : Int32)))
set_option maxRecDepth 100000 in
theorem db_f53_b57_ok {X : db_X} {d : Nat}  {s : db_S} {v1 : Int32} {v2 : Int32} {v3 : Int32} {v4 : Int32} : db_Rf X (d + 1) dbm_53 57 [(0, .ref 13), (1, .int v1), (2, .int v2), (3, .int v3), (4, .int v4)] [] s db_zI (db_f53_b57 s v1 v2 v3 v4) := by
  unfold db_f53_b57
  refine db_Rgo (pc' := 67) (lv' := [(0, .ref 13), (1, .int v1), (2, .int v2), (3, .int v3), (4, .int v4)]) (st' := [.int (4 : Int32), .int (v4 - v2), .int v1, .ref 16]) 7 rfl ?_
  refine db_Ric (pc' := 70) (tg := 74) (lv1 := [(0, .ref 13), (1, .int v1), (2, .int v2), (3, .int v3), (4, .int v4)]) rfl rfl rfl rfl ?_ ?_
  · refine db_Rgo (pc' := 75) (lv' := [(0, .ref 13), (1, .int v1), (3, .int v3), (4, .int v4)]) (st' := [.int (4 : Int32), .int v1, .ref 16]) 1 rfl ?_
    exact db_f53_b75_ok
  refine db_Rgo (pc' := 75) (lv' := [(0, .ref 13), (1, .int v1), (2, .int v2), (3, .int v3), (4, .int v4)]) (st' := [.int (2 : Int32), .int v1, .ref 16]) 2 rfl ?_
  refine db_Rn (lv1 := [(0, .ref 13), (1, .int v1), (3, .int v3), (4, .int v4)]) rfl rfl rfl ?_
  exact db_f53_b75_ok
noncomputable def db_f53_b5 : Nat → db_S → Int32 → Int32 → Int32 → Int32 → Option (Int32 × db_S)
  | 0, _, _, _, _, _ => none
  | n + 1, s, v1, v2, v3, v4 =>
    (cond (db_cnd .ge v4 (s.1 13 10)) (db_f53_b57 s v1 v2 v3 v4) ((db_rB s 14 v4).bind fun x1 => ((db_f52 s x1).bind fun q2 => (cond q2 (cond (db_cnd .ge (v4 - v2) (4 : Int32)) (db_f53_b51 (db_f53_b5 n) s v1 v2 v3 v4) ((db_rB s 14 v4).bind fun x4 => (db_f53_b51 (db_f53_b5 n) s v1 v2 (((v3 * (10 : Int32)) + x4) - (48 : Int32)) v4))) (db_f53_b57 s v1 v2 v3 v4)))))
set_option maxRecDepth 100000 in
theorem db_f53_b5_ok {X : db_X} {d : Nat}  (n : Nat) : ∀ (s : db_S) (v1 : Int32) (v2 : Int32) (v3 : Int32) (v4 : Int32), db_Rf X (d + 1) dbm_53 5 [(0, .ref 13), (1, .int v1), (2, .int v2), (3, .int v3), (4, .int v4)] [] s db_zI (db_f53_b5 n s v1 v2 v3 v4) := by
  induction n with
  | zero => intros; exact db_Rnone
  | succ n ih =>
    intro s v1 v2 v3 v4
    unfold db_f53_b5
    refine db_Rgo (pc' := 11) (lv' := [(0, .ref 13), (1, .int v1), (2, .int v2), (3, .int v3), (4, .int v4)]) (st' := [.int (s.1 13 10), .int v4]) 3 rfl ?_
    refine db_Ric (pc' := 14) (tg := 57) (lv1 := [(0, .ref 13), (1, .int v1), (2, .int v2), (3, .int v3), (4, .int v4)]) rfl rfl rfl rfl ?_ ?_
    · exact db_f53_b57_ok
    refine db_Rgo (pc' := 20) (lv' := [(0, .ref 13), (1, .int v1), (2, .int v2), (3, .int v3), (4, .int v4)]) (st' := [.int v4, .ref 14]) 3 rfl ?_
    refine db_RldB (pc' := 21) (lv1 := [(0, .ref 13), (1, .int v1), (2, .int v2), (3, .int v3), (4, .int v4)]) rfl rfl rfl fun x1 => ?_
    refine db_RcyB (mr' := dbm_52) (as := [.int x1]) (rest := []) (pc' := 24) (lv1 := [(0, .ref 13), (1, .int v1), (2, .int v2), (3, .int v3), (4, .int v4)]) rfl rfl rfl rfl rfl (db_f52_ok) fun q2 => ?_
    refine db_RifBe (pc' := 27) (tg := 57) (lv1 := [(0, .ref 13), (1, .int v1), (2, .int v2), (3, .int v3), (4, .int v4)]) rfl rfl rfl rfl ?_ ?_
    · exact db_f53_b57_ok
    refine db_Rgo (pc' := 32) (lv' := [(0, .ref 13), (1, .int v1), (2, .int v2), (3, .int v3), (4, .int v4)]) (st' := [.int (4 : Int32), .int (v4 - v2)]) 4 rfl ?_
    refine db_Ric (pc' := 35) (tg := 51) (lv1 := [(0, .ref 13), (1, .int v1), (2, .int v2), (3, .int v3), (4, .int v4)]) rfl rfl rfl rfl ?_ ?_
    · exact db_f53_b51_ok ih
    refine db_Rgo (pc' := 45) (lv' := [(0, .ref 13), (1, .int v1), (2, .int v2), (3, .int v3), (4, .int v4)]) (st' := [.int v4, .ref 14, .int (v3 * (10 : Int32))]) 6 rfl ?_
    refine db_RldB (pc' := 46) (lv1 := [(0, .ref 13), (1, .int v1), (2, .int v2), (3, .int v3), (4, .int v4)]) rfl rfl rfl fun x4 => ?_
    refine db_Rgo (pc' := 51) (lv' := [(3, .int (((v3 * (10 : Int32)) + x4) - (48 : Int32))), (0, .ref 13), (1, .int v1), (2, .int v2), (4, .int v4)]) (st' := []) 4 rfl ?_
    refine db_Rn (lv1 := [(0, .ref 13), (1, .int v1), (2, .int v2), (3, .int (((v3 * (10 : Int32)) + x4) - (48 : Int32))), (4, .int v4)]) rfl rfl rfl ?_
    exact db_f53_b51_ok ih
/-- DreamBook$Scanner.scanNumber(II)I -/
noncomputable def db_f53 (s : db_S) (v1 : Int32) (v2 : Int32) : Option (Int32 × db_S) :=
  (db_f53_b5 db_FU s v1 v2 (0 : Int32) v2)
set_option maxRecDepth 100000 in
theorem db_f53_ok {X : db_X} {d : Nat} {s : db_S} {v1 : Int32} {v2 : Int32} : db_Rf X (d + 1) dbm_53 0 (lv_args 0 [.ref 13, .int v1, .int v2]) [] s db_zI (db_f53 s v1 v2) := by
  show db_Rf _ _ _ 0 [(0, .ref 13), (1, .int v1), (2, .int v2)] [] _ _ _
  unfold db_f53
  refine db_Rgo (pc' := 5) (lv' := [(4, .int v2), (3, .int (0 : Int32)), (0, .ref 13), (1, .int v1), (2, .int v2)]) (st' := []) 4 rfl ?_
  refine db_Rn (lv1 := [(0, .ref 13), (1, .int v1), (2, .int v2), (3, .int (0 : Int32)), (4, .int v2)]) rfl rfl rfl ?_
  exact db_f53_b5_ok db_FU _ _ _ _ _
/-- DreamBook$Scanner.pack(JI)J -/
noncomputable def db_f12 (s : db_S) (v0 : Int64) (v2 : Int32) : Option Int64 :=
  (some ((((v0 * (32 : Int64)) + (Int32.toInt64 v2)) - (97 : Int64)) + (1 : Int64)))
set_option maxRecDepth 100000 in
theorem db_f12_ok {X : db_X} {d : Nat} {s : db_S} {v0 : Int64} {v2 : Int32} : db_Rf X (d + 0) dbm_12 0 (lv_args 0 [.long v0, .int v2]) [] s (db_yL s) (db_f12 s v0 v2) := by
  show db_Rf _ _ _ 0 [(0, .long v0), (2, .int v2)] [] _ _ _
  unfold db_f12
  refine db_Rgo (pc' := 14) (lv' := [(0, .long v0), (2, .int v2)]) (st' := [.long ((((v0 * (32 : Int64)) + (Int32.toInt64 v2)) - (97 : Int64)) + (1 : Int64))]) 10 rfl ?_
  exact db_Rret (lv1 := [(0, .long v0), (2, .int v2)]) rfl rfl rfl rfl
noncomputable def db_f51_b2 (s : db_S) : Nat → Int64 → Int32 → Option Int32
  | 0, _, _ => none
  | n + 1, v1, v3 =>
    (cond (db_cnd .ge v3 (28 : Int32)) (some (-1 : Int32)) ((db_rL s 15 v3).bind fun x1 => (cond (db_cnd .ne (lg_cmp x1 v1) 0) (db_f51_b2 s n v1 (v3 + (1 : Int32))) (some v3))))
set_option maxRecDepth 100000 in
theorem db_f51_b2_ok {X : db_X} {d : Nat} {s : db_S} (n : Nat) : ∀ (v1 : Int64) (v3 : Int32), db_Rf X (d + 0) dbm_51 2 [(0, .ref 13), (1, .long v1), (3, .int v3)] [] s (db_yI s) (db_f51_b2 s n v1 v3) := by
  induction n with
  | zero => intros; exact db_Rnone
  | succ n ih =>
    intro v1 v3
    unfold db_f51_b2
    refine db_Rgo (pc' := 5) (lv' := [(0, .ref 13), (1, .long v1), (3, .int v3)]) (st' := [.int (28 : Int32), .int v3]) 2 rfl ?_
    refine db_Ric (pc' := 8) (tg := 27) (lv1 := [(0, .ref 13), (1, .long v1), (3, .int v3)]) rfl rfl rfl rfl ?_ ?_
    · refine db_Rgo (pc' := 28) (lv' := []) (st' := [.int (-1 : Int32)]) 1 rfl ?_
      exact db_Rret (lv1 := []) rfl rfl rfl rfl
    refine db_Rgo (pc' := 13) (lv' := [(0, .ref 13), (1, .long v1), (3, .int v3)]) (st' := [.int v3, .ref 15]) 3 rfl ?_
    refine db_RldL (pc' := 14) (lv1 := [(0, .ref 13), (1, .long v1), (3, .int v3)]) rfl rfl rfl fun x1 => ?_
    refine db_Rgo (pc' := 16) (lv' := [(0, .ref 13), (1, .long v1), (3, .int v3)]) (st' := [.int (lg_cmp x1 v1)]) 2 rfl ?_
    refine db_Rif (pc' := 19) (tg := 21) (lv1 := [(0, .ref 13), (1, .long v1), (3, .int v3)]) rfl rfl rfl rfl ?_ ?_
    · refine db_Rgo (pc' := 2) (lv' := [(3, .int (v3 + (1 : Int32))), (0, .ref 13), (1, .long v1)]) (st' := []) 2 rfl ?_
      refine db_Rn (lv1 := [(0, .ref 13), (1, .long v1), (3, .int (v3 + (1 : Int32)))]) rfl rfl rfl ?_
      exact ih _ _
    refine db_Rgo (pc' := 20) (lv' := [(0, .ref 13), (1, .long v1), (3, .int v3)]) (st' := [.int v3]) 1 rfl ?_
    exact db_Rret (lv1 := [(0, .ref 13), (1, .long v1), (3, .int v3)]) rfl rfl rfl rfl
/-- DreamBook$Scanner.keywordOf(J)I -/
noncomputable def db_f51 (s : db_S) (v1 : Int64) : Option Int32 :=
  (db_f51_b2 s db_FU v1 (0 : Int32))
set_option maxRecDepth 100000 in
theorem db_f51_ok {X : db_X} {d : Nat} {s : db_S} {v1 : Int64} : db_Rf X (d + 0) dbm_51 0 (lv_args 0 [.ref 13, .long v1]) [] s (db_yI s) (db_f51 s v1) := by
  show db_Rf _ _ _ 0 [(0, .ref 13), (1, .long v1)] [] _ _ _
  unfold db_f51
  refine db_Rgo (pc' := 2) (lv' := [(3, .int (0 : Int32)), (0, .ref 13), (1, .long v1)]) (st' := []) 2 rfl ?_
  refine db_Rn (lv1 := [(0, .ref 13), (1, .long v1), (3, .int (0 : Int32))]) rfl rfl rfl ?_
  exact db_f51_b2_ok db_FU _ _
noncomputable def db_f50_b48 (h5 : db_S → Int32 → Int32 → Int64 → Int32 → Option (Int32 × db_S)) (s : db_S) (v1 : Int32) (v2 : Int32) (v3 : Int64) (v5 : Int32) : Option (Int32 × db_S) :=
  (h5 s v1 v2 v3 (v5 + (1 : Int32)))
set_option maxRecDepth 100000 in
theorem db_f50_b48_ok {X : db_X} {d : Nat}  {h5 : db_S → Int32 → Int32 → Int64 → Int32 → Option (Int32 × db_S)} {s : db_S} {v1 : Int32} {v2 : Int32} {v3 : Int64} {v5 : Int32} (zh5 : ∀ (s' : db_S) (v1 : Int32) (v2 : Int32) (v3 : Int64) (v5 : Int32) , db_Rf X (d + 1) dbm_50 5 [(0, .ref 13), (1, .int v1), (2, .int v2), (3, .long v3), (5, .int v5)] [] s' db_zI (h5 s' v1 v2 v3 v5)) : db_Rf X (d + 1) dbm_50 48 [(0, .ref 13), (1, .int v1), (2, .int v2), (3, .long v3), (5, .int v5)] [] s db_zI (db_f50_b48 h5 s v1 v2 v3 v5) := by
  unfold db_f50_b48
  refine db_Rgo (pc' := 5) (lv' := [(5, .int (v5 + (1 : Int32))), (0, .ref 13), (1, .int v1), (2, .int v2), (3, .long v3)]) (st' := []) 2 rfl ?_
  refine db_Rn (lv1 := [(0, .ref 13), (1, .int v1), (2, .int v2), (3, .long v3), (5, .int (v5 + (1 : Int32)))]) rfl rfl rfl ?_
  exact zh5 _ _ _ _ _
noncomputable def db_f50_b114 (s : db_S) (v5 : Int32) (t1 : Int32) (t2 : Int32) : Option (Int32 × db_S) :=
  ((db_wI s 18 t1 t2).bind fun s1 => (some (v5, s1)))
set_option maxRecDepth 100000 in
theorem db_f50_b114_ok {X : db_X} {d : Nat}  {s : db_S} {v5 : Int32} {t1 : Int32} {t2 : Int32} : db_Rf X (d + 1) dbm_50 114 [(5, .int v5)] [.int t2, .int t1, .ref 18] s db_zI (db_f50_b114 s v5 t1 t2) := by
  unfold db_f50_b114
  refine db_RstI (pc' := 115) (lv1 := [(5, .int v5)]) rfl rfl rfl fun s1 => ?_
  refine db_Rgo (pc' := 117) (lv' := [(5, .int v5)]) (st' := [.int v5]) 1 rfl ?_
  exact db_Rret (lv1 := [(5, .int v5)]) rfl rfl rfl rfl
noncomputable def db_f50_b94 (s : db_S) (v1 : Int32) (v3 : Int64) (v5 : Int32) (v6 : Int32) (t1 : Int32) (t2 : Int64) : Option (Int32 × db_S) :=
  ((db_wL s 19 t1 t2).bind fun s1 => (cond (db_cnd .eq v6 0) (db_f50_b114 s1 v5 v1 (-1 : Int32)) ((db_f51 s1 v3).bind fun q2 => (db_f50_b114 s1 v5 v1 q2))))
set_option maxRecDepth 100000 in
theorem db_f50_b94_ok {X : db_X} {d : Nat}  {s : db_S} {v1 : Int32} {v3 : Int64} {v5 : Int32} {v6 : Int32} {t1 : Int32} {t2 : Int64} : db_Rf X (d + 1) dbm_50 94 [(0, .ref 13), (1, .int v1), (3, .long v3), (5, .int v5), (6, .int v6)] [.long t2, .int t1, .ref 19] s db_zI (db_f50_b94 s v1 v3 v5 v6 t1 t2) := by
  unfold db_f50_b94
  refine db_RstL (pc' := 95) (lv1 := [(0, .ref 13), (1, .int v1), (3, .long v3), (5, .int v5), (6, .int v6)]) rfl rfl rfl fun s1 => ?_
  refine db_Rgo (pc' := 102) (lv' := [(0, .ref 13), (1, .int v1), (3, .long v3), (5, .int v5), (6, .int v6)]) (st' := [.int v6, .int v1, .ref 18]) 4 rfl ?_
  refine db_Rif (pc' := 105) (tg := 113) (lv1 := [(0, .ref 13), (1, .int v1), (3, .long v3), (5, .int v5), (6, .int v6)]) rfl rfl rfl rfl ?_ ?_
  · refine db_Rgo (pc' := 114) (lv' := [(5, .int v5)]) (st' := [.int (-1 : Int32), .int v1, .ref 18]) 1 rfl ?_
    exact db_f50_b114_ok
  refine db_Rgo (pc' := 107) (lv' := [(0, .ref 13), (1, .int v1), (3, .long v3), (5, .int v5), (6, .int v6)]) (st' := [.long v3, .ref 13, .int v1, .ref 18]) 2 rfl ?_
  refine db_RcyI (mr' := dbm_51) (as := [.ref 13, .long v3]) (rest := [.int v1, .ref 18]) (pc' := 110) (lv1 := [(0, .ref 13), (1, .int v1), (3, .long v3), (5, .int v5), (6, .int v6)]) rfl rfl rfl rfl rfl (db_f51_ok) fun q2 => ?_
  refine db_Rgo (pc' := 114) (lv' := [(0, .ref 13), (1, .int v1), (3, .long v3), (5, .int v5), (6, .int v6)]) (st' := [.int q2, .int v1, .ref 18]) 1 rfl ?_
  refine db_Rn (lv1 := [(5, .int v5)]) rfl rfl rfl ?_
  exact db_f50_b114_ok
noncomputable def db_f50_b68 (s : db_S) (v1 : Int32) (v3 : Int64) (v5 : Int32) (t0 : Int32) : Option (Int32 × db_S) :=
  ((db_wI s 16 v1 (1 : Int32)).bind fun s1 => (cond (db_cnd .eq t0 0) (db_f50_b94 s1 v1 v3 v5 t0 v1 (-1 : Int64)) (db_f50_b94 s1 v1 v3 v5 t0 v1 v3)))
set_option maxRecDepth 100000 in
theorem db_f50_b68_ok {X : db_X} {d : Nat}  {s : db_S} {v1 : Int32} {v3 : Int64} {v5 : Int32} {t0 : Int32} : db_Rf X (d + 1) dbm_50 68 [(0, .ref 13), (1, .int v1), (3, .long v3), (5, .int v5)] [.int t0] s db_zI (db_f50_b68 s v1 v3 v5 t0) := by
  unfold db_f50_b68
  refine db_Rgo (pc' := 76) (lv' := [(6, .int t0), (0, .ref 13), (1, .int v1), (3, .long v3), (5, .int v5)]) (st' := [.int (1 : Int32), .int v1, .ref 16]) 5 rfl ?_
  refine db_RstI (pc' := 77) (lv1 := [(6, .int t0), (0, .ref 13), (1, .int v1), (3, .long v3), (5, .int v5)]) rfl rfl rfl fun s1 => ?_
  refine db_Rgo (pc' := 84) (lv' := [(6, .int t0), (0, .ref 13), (1, .int v1), (3, .long v3), (5, .int v5)]) (st' := [.int t0, .int v1, .ref 19]) 4 rfl ?_
  refine db_Rif (pc' := 87) (tg := 91) (lv1 := [(6, .int t0), (0, .ref 13), (1, .int v1), (3, .long v3), (5, .int v5)]) rfl rfl rfl rfl ?_ ?_
  · refine db_Rgo (pc' := 94) (lv' := [(0, .ref 13), (1, .int v1), (3, .long v3), (5, .int v5), (6, .int t0)]) (st' := [.long (-1 : Int64), .int v1, .ref 19]) 1 rfl ?_
    exact db_f50_b94_ok
  refine db_Rgo (pc' := 94) (lv' := [(6, .int t0), (0, .ref 13), (1, .int v1), (3, .long v3), (5, .int v5)]) (st' := [.long v3, .int v1, .ref 19]) 2 rfl ?_
  refine db_Rn (lv1 := [(0, .ref 13), (1, .int v1), (3, .long v3), (5, .int v5), (6, .int t0)]) rfl rfl rfl ?_
  exact db_f50_b94_ok
noncomputable def db_f50_b54 (s : db_S) (v1 : Int32) (v2 : Int32) (v3 : Int64) (v5 : Int32) : Option (Int32 × db_S) :=
  (cond (db_cnd .gt (v5 - v2) (8 : Int32)) (db_f50_b68 s v1 v3 v5 (0 : Int32)) (db_f50_b68 s v1 v3 v5 (1 : Int32)))
set_option maxRecDepth 100000 in
theorem db_f50_b54_ok {X : db_X} {d : Nat}  {s : db_S} {v1 : Int32} {v2 : Int32} {v3 : Int64} {v5 : Int32} : db_Rf X (d + 1) dbm_50 54 [(0, .ref 13), (1, .int v1), (2, .int v2), (3, .long v3), (5, .int v5)] [] s db_zI (db_f50_b54 s v1 v2 v3 v5) := by
  unfold db_f50_b54
  refine db_Rgo (pc' := 60) (lv' := [(0, .ref 13), (1, .int v1), (2, .int v2), (3, .long v3), (5, .int v5)]) (st' := [.int (8 : Int32), .int (v5 - v2)]) 4 rfl ?_
  refine db_Ric (pc' := 63) (tg := 67) (lv1 := [(0, .ref 13), (1, .int v1), (2, .int v2), (3, .long v3), (5, .int v5)]) rfl rfl rfl rfl ?_ ?_
  · refine db_Rgo (pc' := 68) (lv' := [(0, .ref 13), (1, .int v1), (3, .long v3), (5, .int v5)]) (st' := [.int (0 : Int32)]) 1 rfl ?_
    exact db_f50_b68_ok
  refine db_Rgo (pc' := 68) (lv' := [(0, .ref 13), (1, .int v1), (2, .int v2), (3, .long v3), (5, .int v5)]) (st' := [.int (1 : Int32)]) 2 rfl ?_
  refine db_Rn (lv1 := [(0, .ref 13), (1, .int v1), (3, .long v3), (5, .int v5)]) rfl rfl rfl ?_
  exact db_f50_b68_ok
noncomputable def db_f50_b5 : Nat → db_S → Int32 → Int32 → Int64 → Int32 → Option (Int32 × db_S)
  | 0, _, _, _, _, _ => none
  | n + 1, s, v1, v2, v3, v5 =>
    (cond (db_cnd .ge v5 (s.1 13 10)) (db_f50_b54 s v1 v2 v3 v5) ((db_rB s 14 v5).bind fun x1 => ((db_f11 s x1).bind fun q2 => (cond q2 (cond (db_cnd .ge (v5 - v2) (8 : Int32)) (db_f50_b48 (db_f50_b5 n) s v1 v2 v3 v5) ((db_rB s 14 v5).bind fun x4 => ((db_f12 s v3 x4).bind fun q5 => (db_f50_b48 (db_f50_b5 n) s v1 v2 q5 v5)))) (db_f50_b54 s v1 v2 v3 v5)))))
set_option maxRecDepth 100000 in
theorem db_f50_b5_ok {X : db_X} {d : Nat}  (n : Nat) : ∀ (s : db_S) (v1 : Int32) (v2 : Int32) (v3 : Int64) (v5 : Int32), db_Rf X (d + 1) dbm_50 5 [(0, .ref 13), (1, .int v1), (2, .int v2), (3, .long v3), (5, .int v5)] [] s db_zI (db_f50_b5 n s v1 v2 v3 v5) := by
  induction n with
  | zero => intros; exact db_Rnone
  | succ n ih =>
    intro s v1 v2 v3 v5
    unfold db_f50_b5
    refine db_Rgo (pc' := 11) (lv' := [(0, .ref 13), (1, .int v1), (2, .int v2), (3, .long v3), (5, .int v5)]) (st' := [.int (s.1 13 10), .int v5]) 3 rfl ?_
    refine db_Ric (pc' := 14) (tg := 54) (lv1 := [(0, .ref 13), (1, .int v1), (2, .int v2), (3, .long v3), (5, .int v5)]) rfl rfl rfl rfl ?_ ?_
    · exact db_f50_b54_ok
    refine db_Rgo (pc' := 20) (lv' := [(0, .ref 13), (1, .int v1), (2, .int v2), (3, .long v3), (5, .int v5)]) (st' := [.int v5, .ref 14]) 3 rfl ?_
    refine db_RldB (pc' := 21) (lv1 := [(0, .ref 13), (1, .int v1), (2, .int v2), (3, .long v3), (5, .int v5)]) rfl rfl rfl fun x1 => ?_
    refine db_RcyB (mr' := dbm_11) (as := [.int x1]) (rest := []) (pc' := 24) (lv1 := [(0, .ref 13), (1, .int v1), (2, .int v2), (3, .long v3), (5, .int v5)]) rfl rfl rfl rfl rfl (db_f11_ok) fun q2 => ?_
    refine db_RifBe (pc' := 27) (tg := 54) (lv1 := [(0, .ref 13), (1, .int v1), (2, .int v2), (3, .long v3), (5, .int v5)]) rfl rfl rfl rfl ?_ ?_
    · exact db_f50_b54_ok
    refine db_Rgo (pc' := 33) (lv' := [(0, .ref 13), (1, .int v1), (2, .int v2), (3, .long v3), (5, .int v5)]) (st' := [.int (8 : Int32), .int (v5 - v2)]) 4 rfl ?_
    refine db_Ric (pc' := 36) (tg := 48) (lv1 := [(0, .ref 13), (1, .int v1), (2, .int v2), (3, .long v3), (5, .int v5)]) rfl rfl rfl rfl ?_ ?_
    · exact db_f50_b48_ok ih
    refine db_Rgo (pc' := 43) (lv' := [(0, .ref 13), (1, .int v1), (2, .int v2), (3, .long v3), (5, .int v5)]) (st' := [.int v5, .ref 14, .long v3]) 4 rfl ?_
    refine db_RldB (pc' := 44) (lv1 := [(0, .ref 13), (1, .int v1), (2, .int v2), (3, .long v3), (5, .int v5)]) rfl rfl rfl fun x4 => ?_
    refine db_RcyL (mr' := dbm_12) (as := [.long v3, .int x4]) (rest := []) (pc' := 47) (lv1 := [(0, .ref 13), (1, .int v1), (2, .int v2), (3, .long v3), (5, .int v5)]) rfl rfl rfl rfl rfl (db_f12_ok) fun q5 => ?_
    refine db_Rgo (pc' := 48) (lv' := [(3, .long q5), (0, .ref 13), (1, .int v1), (2, .int v2), (5, .int v5)]) (st' := []) 1 rfl ?_
    refine db_Rn (lv1 := [(0, .ref 13), (1, .int v1), (2, .int v2), (3, .long q5), (5, .int v5)]) rfl rfl rfl ?_
    exact db_f50_b48_ok ih
/-- DreamBook$Scanner.scanWord(II)I -/
noncomputable def db_f50 (s : db_S) (v1 : Int32) (v2 : Int32) : Option (Int32 × db_S) :=
  (db_f50_b5 db_FU s v1 v2 (0 : Int64) v2)
set_option maxRecDepth 100000 in
theorem db_f50_ok {X : db_X} {d : Nat} {s : db_S} {v1 : Int32} {v2 : Int32} : db_Rf X (d + 1) dbm_50 0 (lv_args 0 [.ref 13, .int v1, .int v2]) [] s db_zI (db_f50 s v1 v2) := by
  show db_Rf _ _ _ 0 [(0, .ref 13), (1, .int v1), (2, .int v2)] [] _ _ _
  unfold db_f50
  refine db_Rgo (pc' := 5) (lv' := [(5, .int v2), (3, .long (0 : Int64)), (0, .ref 13), (1, .int v1), (2, .int v2)]) (st' := []) 4 rfl ?_
  refine db_Rn (lv1 := [(0, .ref 13), (1, .int v1), (2, .int v2), (3, .long (0 : Int64)), (5, .int v2)]) rfl rfl rfl ?_
  exact db_f50_b5_ok db_FU _ _ _ _ _
