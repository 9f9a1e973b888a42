/-! THE FIRST PART, by the kernel: both constructors (written by gen99n.py) -/
noncomputable def du_fi (pc : Nat) (l : List (Nat × Instr × Option (List Nat))) : Option (Instr × Option (List Nat)) := List.rec (motive := fun _ => Option (Instr × Option (List Nat))) none (fun h _ ih => cond (Nat.beq h.1 pc) (some (h.2.1, h.2.2)) ih) l
theorem du_fi_e {pc : Nat} : ∀ l, du_fi pc l = db_fi pc l
  | [] => rfl
  | (p, i, k) :: t => by
    have h := du_fi_e (pc := pc) t
    show cond (Nat.beq p pc) (some (i, k)) (du_fi pc t) = cond (Nat.beq p pc) (some (i, k)) (db_fi pc t)
    rw [h]
noncomputable def du_stp : Instr → db_X → db_MR → Nat → db_V → List Value → db_H → Option db_R := fun i => match i with
  | .iconst n => fun X mr pc lv st μ => some (pc + 1, lv, .int (Int32.ofInt n) :: st, μ)
  | .bipush n => fun X mr pc lv st μ => some (pc + 2, lv, .int ((Int8.ofInt n).toInt32) :: st, μ)
  | .sipush n => fun X mr pc lv st μ => some (pc + 3, lv, .int ((Int16.ofInt n).toInt32) :: st, μ)
  | .lconst n => fun X mr pc lv st μ => some (pc + 1, lv, .long (Int64.ofNat (n : Nat)) :: st, μ)
  | .ldc ix => fun X mr pc lv st μ => (match db_lk ix mr.2.2.2.2.2.2 with
    | some (12, _, _, v, _) => some (pc + 2, lv, .int (Int32.ofInt v) :: st, μ)
    | some (13, _, _, _, _) => some (pc + 2, lv, .ref 1 :: st, μ)
    | _ => none)
  | .ldc_w ix => fun X mr pc lv st μ => (match db_lk ix mr.2.2.2.2.2.2 with
    | some (12, _, _, v, _) => some (pc + 3, lv, .int (Int32.ofInt v) :: st, μ)
    | _ => none)
  | .ldc2_w ix => fun X mr pc lv st μ => (match db_lk ix mr.2.2.2.2.2.2 with
    | some (19, _, _, v, _) => some (pc + 3, lv, .long (Int64.ofInt v) :: st, μ)
    | _ => none)
  | .iload_n k => fun X mr pc lv st μ => db_gI (db_get (k : Nat) lv) fun x => some (pc + 1, lv, .int x :: st, μ)
  | .iload k => fun X mr pc lv st μ => db_gI (db_get k lv) fun x => some (pc + 2, lv, .int x :: st, μ)
  | .lload_n k => fun X mr pc lv st μ => db_gL (db_get (k : Nat) lv) fun x => some (pc + 1, lv, .long x :: st, μ)
  | .lload k => fun X mr pc lv st μ => db_gL (db_get k lv) fun x => some (pc + 2, lv, .long x :: st, μ)
  | .aload_n k => fun X mr pc lv st μ => db_gR (db_get (k : Nat) lv) fun x => cond (Nat.beq x 3) none (some (pc + 1, lv, .ref x :: st, μ))
  | .aload k => fun X mr pc lv st μ => db_gR (db_get k lv) fun x => cond (Nat.beq x 3) none (some (pc + 2, lv, .ref x :: st, μ))
  | .istore_n k => fun X mr pc lv st μ => cond (Nat.blt (k : Nat) mr.2.2.1) (db_sI st fun x r => some (pc + 1, db_p1 (k : Nat) (.int x) lv, r, μ)) none
  | .istore k => fun X mr pc lv st μ => cond (Nat.blt k mr.2.2.1) (db_sI st fun x r => some (pc + 2, db_p1 k (.int x) lv, r, μ)) none
  | .lstore_n k => fun X mr pc lv st μ => cond (Nat.blt ((k : Nat) + 1) mr.2.2.1) (db_sL st fun x r => some (pc + 1, db_p2 (k : Nat) (.long x) lv, r, μ)) none
  | .lstore k => fun X mr pc lv st μ => cond (Nat.blt (k + 1) mr.2.2.1) (db_sL st fun x r => some (pc + 2, db_p2 k (.long x) lv, r, μ)) none
  | .astore_n k => fun X mr pc lv st μ => cond (Nat.blt (k : Nat) mr.2.2.1) (db_sR st fun x r => cond (Nat.beq x 3) none (some (pc + 1, db_p1 (k : Nat) (.ref x) lv, r, μ))) none
  | .astore k => fun X mr pc lv st μ => cond (Nat.blt k mr.2.2.1) (db_sR st fun x r => cond (Nat.beq x 3) none (some (pc + 2, db_p1 k (.ref x) lv, r, μ))) none
  | .iinc k n => fun X mr pc lv st μ => cond (Nat.blt k mr.2.2.1) (db_gI (db_get k lv) fun x => some (pc + 3, db_p1 k (.int (x + Int32.ofInt n)) lv, st, μ)) none
  | .iadd => fun X mr pc lv st μ => db_sII st fun x y r => some (pc + 1, lv, .int (x + y) :: r, μ)
  | .isub => fun X mr pc lv st μ => db_sII st fun x y r => some (pc + 1, lv, .int (x - y) :: r, μ)
  | .imul => fun X mr pc lv st μ => db_sII st fun x y r => some (pc + 1, lv, .int (x * y) :: r, μ)
  | .iand => fun X mr pc lv st μ => db_sII st fun x y r => some (pc + 1, lv, .int (x &&& y) :: r, μ)
  | .ior => fun X mr pc lv st μ => db_sII st fun x y r => some (pc + 1, lv, .int (x ||| y) :: r, μ)
  | .ixor => fun X mr pc lv st μ => db_sII st fun x y r => some (pc + 1, lv, .int (x ^^^ y) :: r, μ)
  | .ishl => fun X mr pc lv st μ => db_sII st fun x y r => some (pc + 1, lv, .int (x <<< (y &&& 31)) :: r, μ)
  | .ishr => fun X mr pc lv st μ => db_sII st fun x y r => some (pc + 1, lv, .int (x >>> (y &&& 31)) :: r, μ)
  | .iushr => fun X mr pc lv st μ => db_sII st fun x y r => some (pc + 1, lv, .int ((x.toUInt32 >>> (y.toUInt32 &&& Int32.toUInt32 31)).toInt32) :: r, μ)
  | .idiv => fun X mr pc lv st μ => db_sII st fun x y r => cond (decide (y = 0)) none (some (pc + 1, lv, .int (x / y) :: r, μ))
  | .irem => fun X mr pc lv st μ => db_sII st fun x y r => cond (decide (y = 0)) none (some (pc + 1, lv, .int (x - x / y * y) :: r, μ))
  | .ineg => fun X mr pc lv st μ => db_sI st fun x r => some (pc + 1, lv, .int (-x) :: r, μ)
  | .ladd => fun X mr pc lv st μ => db_sLL st fun x y r => some (pc + 1, lv, .long (x + y) :: r, μ)
  | .lsub => fun X mr pc lv st μ => db_sLL st fun x y r => some (pc + 1, lv, .long (x - y) :: r, μ)
  | .lmul => fun X mr pc lv st μ => db_sLL st fun x y r => some (pc + 1, lv, .long (x * y) :: r, μ)
  | .land => fun X mr pc lv st μ => db_sLL st fun x y r => some (pc + 1, lv, .long (x &&& y) :: r, μ)
  | .lor => fun X mr pc lv st μ => db_sLL st fun x y r => some (pc + 1, lv, .long (x ||| y) :: r, μ)
  | .ldiv => fun X mr pc lv st μ => db_sLL st fun x y r => cond (decide (y = 0)) none (some (pc + 1, lv, .long (x / y) :: r, μ))
  | .lrem => fun X mr pc lv st μ => db_sLL st fun x y r => cond (decide (y = 0)) none (some (pc + 1, lv, .long (x - x / y * y) :: r, μ))
  | .lneg => fun X mr pc lv st μ => db_sL st fun x r => some (pc + 1, lv, .long (-x) :: r, μ)
  | .lshl => fun X mr pc lv st μ => db_sLI st fun x y r => some (pc + 1, lv, .long (x <<< (y.toInt64 &&& 63)) :: r, μ)
  | .lcmp => fun X mr pc lv st μ => db_sLL st fun x y r => some (pc + 1, lv, .int (lg_cmp x y) :: r, μ)
  | .i2l => fun X mr pc lv st μ => db_sI st fun x r => some (pc + 1, lv, .long x.toInt64 :: r, μ)
  | .l2i => fun X mr pc lv st μ => db_sL st fun x r => some (pc + 1, lv, .int x.toInt32 :: r, μ)
  | .i2b => fun X mr pc lv st μ => db_sI st fun x r => some (pc + 1, lv, .int x.toInt8.toInt32 :: r, μ)
  | .i2s => fun X mr pc lv st μ => db_sI st fun x r => some (pc + 1, lv, .int x.toInt16.toInt32 :: r, μ)
  | .i2c => fun X mr pc lv st μ => db_sI st fun x r => some (pc + 1, lv, .int ((x.toUInt32 % 65536).toInt32) :: r, μ)
  | .dup => fun X mr pc lv st μ => db_sV st fun v r => cond (Nat.beq v.category 1) (some (pc + 1, lv, v :: v :: r, μ)) none
  | .pop => fun X mr pc lv st μ => db_sV st fun v r => cond (Nat.beq v.category 1) (some (pc + 1, lv, r, μ)) none
  | .dup2 => fun X mr pc lv st μ => db_sVV st fun x y r => cond (Nat.beq y.category 1 && Nat.beq x.category 1) (some (pc + 1, lv, y :: x :: y :: x :: r, μ)) none
  | .ifCond c off => fun X mr pc lv st μ => db_sI st fun x r => (db_tgt pc off).bind fun t => some (cond (db_cnd c x 0) t (pc + 3), lv, r, μ)
  | .if_icmp c off => fun X mr pc lv st μ => db_sII st fun x y r => (db_tgt pc off).bind fun t => some (cond (db_cnd c x y) t (pc + 3), lv, r, μ)
  | .goto off => fun X mr pc lv st μ => (db_tgt pc off).bind fun t => some (t, lv, st, μ)
  | .tableswitch dflt lo hi offs => fun X mr pc lv st μ => db_sI st fun x r => cond (decide (x.toInt < lo) || decide (hi < x.toInt)) ((db_tgt pc dflt).bind fun t => some (t, lv, r, μ)) (offs[(x.toInt - lo).toNat]?.bind fun off => (db_tgt pc off).bind fun t => some (t, lv, r, μ))
  | .getfield ix => fun X mr pc lv st μ => db_sR st fun a r => (db_getf mr ix μ a).bind fun v => some (pc + 3, lv, v :: r, μ)
  | .putfield ix => fun X mr pc lv st μ => db_sVR st fun v a r => (db_putf mr ix μ a v).bind fun μ' => some (pc + 3, lv, r, μ')
  | .getstatic ix => fun X mr pc lv st μ => (match db_lk ix mr.2.2.2.2.2.2 with
    | some (14, _, _, _, _) => some (pc + 3, lv, .int 1 :: st, μ)
    | some (15, _, _, _, _) => some (pc + 3, lv, .ref 3 :: st, μ)
    | _ => none)
  | .new ix => fun X mr pc lv st μ => (db_new mr ix μ).bind fun q => some (pc + 3, lv, .ref q.1 :: st, q.2)
  | .newarray t => fun X mr pc lv st μ => db_sI st fun x r => (db_newa t x μ).bind fun q => some (pc + 2, lv, .ref q.1 :: r, q.2)
  | .anewarray ix => fun X mr pc lv st μ => db_sI st fun x r => (db_anew mr ix x μ).bind fun q => some (pc + 3, lv, .ref q.1 :: r, q.2)
  | .multianewarray ix d => fun X mr pc lv st μ => cond (Nat.beq d 2) (db_sII st fun x y r => (db_mnew mr ix x y μ).bind fun q => some (pc + 4, lv, .ref q.1 :: r, q.2)) none
  | .iaload => fun X mr pc lv st μ => db_sRI st fun a j r => cond (Nat.beq a 0) (match X with
    | some (L, xs) => cond (db_in j L) (some (pc + 1, lv, .int (xs j.toNatClampNeg) :: r, μ)) none
    | none => none) ((db_ald 1 μ a j).bind fun v => some (pc + 1, lv, v :: r, μ))
  | .baload => fun X mr pc lv st μ => db_sRI st fun a j r => cond (Nat.beq a 2) (cond (db_in j db_str.length) (some (pc + 1, lv, .int (db_str.getD j.toNatClampNeg 0) :: r, μ)) none) ((db_ald 0 μ a j).bind fun v => some (pc + 1, lv, v :: r, μ))
  | .laload => fun X mr pc lv st μ => db_sRI st fun a j r => (db_ald 2 μ a j).bind fun v => some (pc + 1, lv, v :: r, μ)
  | .aaload => fun X mr pc lv st μ => db_sRI st fun a j r => (match db_arr μ a with
    | some (k, _, _) => cond (Nat.ble 3 k && Nat.ble k 7) ((db_ald k μ a j).bind fun v => some (pc + 1, lv, v :: r, μ)) none
    | none => none)
  | .iastore => fun X mr pc lv st μ => db_sRIV st fun a j v r => (db_ast 1 μ a j v).bind fun μ' => some (pc + 1, lv, r, μ')
  | .bastore => fun X mr pc lv st μ => db_sRIV st fun a j v r => (db_ast 0 μ a j v).bind fun μ' => some (pc + 1, lv, r, μ')
  | .lastore => fun X mr pc lv st μ => db_sRIV st fun a j v r => (db_ast 2 μ a j v).bind fun μ' => some (pc + 1, lv, r, μ')
  | .aastore => fun X mr pc lv st μ => db_sRIV st fun a j v r => (match v with
    | .ref t => (db_asq μ a j t).bind fun μ' => some (pc + 1, lv, r, μ')
    | _ => none)
  | .arraylength => fun X mr pc lv st μ => db_sR st fun a r => cond (Nat.beq a 0) (match X with
    | some (L, _) => some (pc + 1, lv, .int (Int32.ofNat L) :: r, μ)
    | none => none) (cond (Nat.beq a 2) (some (pc + 1, lv, .int (Int32.ofNat db_str.length) :: r, μ)) (match db_arr μ a with
    | some (k, n, _) => cond (Nat.ble k 7) (some (pc + 1, lv, .int (Int32.ofNat n) :: r, μ)) none
    | none => none))
  | .invokespecial ix => fun X mr pc lv st μ => (match db_lk ix mr.2.2.2.2.2.2 with
    | some (6, _, _, _, _) => db_sR st fun a r => cond (!Nat.beq a 3 && decide ((r.map fun v => v.category).sum ≤ 8)) (some (pc + 3, lv, r, μ)) none
    | _ => none)
  | .invokestatic ix => fun X mr pc lv st μ => (match db_lk ix mr.2.2.2.2.2.2 with
    | some (7, _, _, _, _) => db_sII st fun x y r => cond (decide ((r.map fun v => v.category).sum ≤ 8)) (some (pc + 3, lv, .int (if y < x then y else x) :: r, μ)) none
    | some (8, _, _, _, _) => db_sII st fun x y r => cond (decide ((r.map fun v => v.category).sum ≤ 8)) (some (pc + 3, lv, .int (if x < y then y else x) :: r, μ)) none
    | some (9, _, _, _, _) => db_sL st fun x r => cond (decide ((r.map fun v => v.category).sum ≤ 8)) (some (pc + 3, lv, .long (if 0 < x then x else -x) :: r, μ)) none
    | some (10, _, _, _, _) => db_s5 st fun a sp d dp n r => cond (decide ((r.map fun v => v.category).sum ≤ 8)) ((db_cpy μ a sp d dp n).bind fun μ' => some (pc + 3, lv, r, μ')) none
    | _ => none)
  | _ => fun X mr pc lv st μ => none
def du_ret : Instr → db_MR → List Value → Option (Option Value) := fun i => match i with
  | .ireturn => fun mr st => (match st, mr.2.2.2.1 with
    | [.int x], some ty => cond (db_fitR ty x) (some (some (.int x))) none
    | _, _ => none)
  | .lreturn => fun mr st => (match st, mr.2.2.2.1 with
    | [.long x], some .long => some (some (.long x))
    | _, _ => none)
  | .areturn => fun mr st => (match st, mr.2.2.2.1 with
    | [.ref a], some (.array _) => some (some (.ref a))
    | _, _ => none)
  | .return_ => fun mr st => (match st, mr.2.2.2.1 with
    | [], none => some none
    | _, _ => none)
  | _ => fun mr st => none
noncomputable def du_cal : Instr → db_MR → List Value → db_H → Option (db_MR × List Value × List Value) := fun i => match i with
  | .invokevirtual ix => fun mr st μ => (match db_lk ix mr.2.2.2.2.2.2 with
    | some (1, k, n, _, _) => (match db_ms[k]?, st.drop n with
      | some mr', .ref a :: r => cond (Nat.beq (st.take n).length n && decide ((r.map fun v => v.category).sum ≤ 8) && (match db_obj μ a with
        | some (ci, _) => Nat.beq ci mr'.2.2.2.2.1
        | none => Nat.beq a 1 && Nat.beq mr'.2.2.2.2.1 14) && decide (((Value.ref a :: (st.take n).reverse).map fun v => v.category).sum ≤ mr'.2.2.1)) (some (mr', .ref a :: (st.take n).reverse, r)) none
      | _, _ => none)
    | _ => none)
  | .invokestatic ix => fun mr st μ => (match db_lk ix mr.2.2.2.2.2.2 with
    | some (kd, k, n, _, _) => cond (Nat.beq kd 2 || Nat.beq kd 4) (match db_ms[k]? with
      | some mr' => cond (Nat.beq (st.take n).length n && decide (((st.drop n).map fun v => v.category).sum ≤ 8) && decide ((((st.take n).reverse).map fun v => v.category).sum ≤ mr'.2.2.1)) (some (mr', (st.take n).reverse, st.drop n)) none
      | none => none) none
    | none => none)
  | .invokespecial ix => fun mr st μ => (match db_lk ix mr.2.2.2.2.2.2 with
    | some (kd, k, n, _, _) => cond (Nat.beq kd 3 || Nat.beq kd 5) (match db_ms[k]?, st.drop n with
      | some mr', .ref a :: r => cond (Nat.beq (st.take n).length n && decide ((r.map fun v => v.category).sum ≤ 8) && decide (((Value.ref a :: (st.take n).reverse).map fun v => v.category).sum ≤ mr'.2.2.1) && !Nat.beq a 3) (some (mr', .ref a :: (st.take n).reverse, r)) none
      | _, _ => none) none
    | none => none)
  | _ => fun mr st μ => none
theorem du_stp_e {X : db_X} {mr : db_MR} {pc : Nat} {i : Instr} {lv : db_V} {st : List Value} {μ : db_H} : du_stp i X mr pc lv st μ = db_stp X mr pc i lv st μ := by
  cases i <;> rfl
theorem du_ret_e {mr : db_MR} {i : Instr} {st : List Value} : du_ret i mr st = db_ret mr i st := by
  cases i <;> rfl
theorem du_cal_e {mr : db_MR} {i : Instr} {st : List Value} {μ : db_H} : du_cal i mr st μ = db_cal mr i st μ := by
  cases i <;> rfl
noncomputable def du_3 (ih : Nat → db_MR → Nat → db_V → List Value → db_H → Option (Option Value × db_H)) (X : db_X) (d : Nat) (mr : db_MR) (pc : Nat) (lv : db_V) (st : List Value) (μ : db_H) (i : Instr) : Option (db_MR × List Value × List Value) → Option (Option Value × db_H)
  | some (mr', as, rest) => (match d with
    | 0 => none
    | d' + 1 => match ih d' mr' 0 (lv_args 0 as) [] μ with
      | none => none
      | some (r, μ1) => ih (d' + 1) mr (pc + 3) lv (r.toList ++ rest) μ1)
  | none => match du_stp i X mr pc lv st μ with
    | none => none
    | some (pc', lv', st', μ') => cond (Nat.ble μ.1 μ'.1 && Nat.ble μ.2.1 μ'.2.1) (ih d mr pc' lv' st' μ') none
noncomputable def du_2 (ih : Nat → db_MR → Nat → db_V → List Value → db_H → Option (Option Value × db_H)) (X : db_X) (d : Nat) (mr : db_MR) (pc : Nat) (st : List Value) (μ : db_H) (i : Instr) : Option db_V → Option (Option Value × db_H)
  | none => none
  | some lv => match du_ret i mr st with
    | some r => some (r, μ)
    | none => du_3 ih X d mr pc lv st μ i (du_cal i mr st μ)
noncomputable def du_1 (ih : Nat → db_MR → Nat → db_V → List Value → db_H → Option (Option Value × db_H)) (X : db_X) (d : Nat) (mr : db_MR) (pc : Nat) (lv0 : db_V) (st : List Value) (μ : db_H) : Option (Instr × Option (List Nat)) → Option (Option Value × db_H)
  | none => none
  | some (i, ks) => du_2 ih X d mr pc st μ i (db_nrm lv0 ks)
noncomputable def du_ev (X : db_X) (n : Nat) : Nat → db_MR → Nat → db_V → List Value → db_H → Option (Option Value × db_H) := Nat.rec (motive := fun _ => Nat → db_MR → Nat → db_V → List Value → db_H → Option (Option Value × db_H)) (fun _ _ _ _ _ _ => none) (fun _ ih d mr pc lv0 st μ => du_1 ih X d mr pc lv0 st μ (du_fi pc mr.2.2.2.2.2.1)) n
theorem du_ev_e {X : db_X} : ∀ (n d : Nat) (mr : db_MR) (pc : Nat) (lv : db_V) (st : List Value) (μ : db_H), du_ev X n d mr pc lv st μ = db_ev X n d mr pc lv st μ
  | 0, _, _, _, _, _, _ => rfl
  | n + 1, d, mr, pc, lv, st, μ => by
    have IH := du_ev_e (X := X) n
    show du_1 (du_ev X n) X d mr pc lv st μ (du_fi pc mr.2.2.2.2.2.1) = _
    rw [du_fi_e, db_ev]
    cases db_fi pc mr.2.2.2.2.2.1 with
    | none => rfl
    | some q =>
      obtain ⟨i, ks⟩ := q
      show du_2 (du_ev X n) X d mr pc st μ i (db_nrm lv ks) = _
      dsimp only
      cases db_nrm lv ks with
      | none => rfl
      | some lv1 =>
        unfold du_2
        dsimp only
        rw [du_ret_e]
        cases db_ret mr i st with
        | some r => rfl
        | none =>
          dsimp only
          rw [du_cal_e]
          cases db_cal mr i st μ with
          | some q =>
            obtain ⟨mr', as, rest⟩ := q
            unfold du_3
            cases d with
            | zero => rfl
            | succ d =>
              dsimp only
              rw [IH d mr' 0 (lv_args 0 as) [] μ]
              cases db_ev X n d mr' 0 (lv_args 0 as) [] μ with
              | none => rfl
              | some q =>
                obtain ⟨r, μ1⟩ := q
                exact IH _ _ _ _ _ _
          | none =>
            unfold du_3
            dsimp only
            rw [du_stp_e]
            cases db_stp X mr pc i lv1 st μ with
            | none => rfl
            | some q =>
              obtain ⟨a1, a2, a3, μ1⟩ := q
              dsimp only
              rw [IH]
def dy_h : db_H := (4, 0, fun _ => .inr (0, []))
def dy_M0 : db_H := (5, 16, db_up (fun _ => .inr (0, [])) 4 (.inr (11, (List.range 16).map (fun k => defaultValue (db_ty 11 k)))))
def dy_N (h : Nat → db_E) : db_H := (670, 9893, db_up h 669 (.inr (12, (List.range 46).map (fun k => defaultValue (db_ty 12 k)))))
def dy_2 (x : Option (Option Value × db_H)) (f : db_H → Option (Option Value × db_H)) : Option (Option Value × db_H) := match x with
  | some (none, μ) => cond (Nat.beq μ.1 669 && Nat.beq μ.2.1 9847) (f μ) none
  | _ => none
/-- what a cell holds -/
def dy_xi (e : db_E) (j : Nat) : Int32 := match e with
  | .inl (_, _, .inl f) => f j
  | .inr (_, fs) => (match fs[j]? with
    | some (.int x) => x
    | _ => 0)
  | _ => 0
def dy_xl (e : db_E) (j : Nat) : Int64 := match e with
  | .inl (_, _, .inr (.inl f)) => f j
  | .inr (_, fs) => (match fs[j]? with
    | some (.long x) => x
    | _ => 0)
  | _ => 0
def dy_ex (μ : db_H) : db_S := (fun i j => dy_xi (μ.2.2 i) j, fun i j => dy_xl (μ.2.2 i) j)
/-- a cell has the shape -/
def dy_f1 (k r : Nat) (v : Value) : Bool := match v with
  | .int _ => Nat.beq k 0
  | .long _ => Nat.beq k 1
  | .ref a => Nat.ble 2 k && Nat.beq a r
  | _ => false
def dy_fl : List (Nat × Nat) → List Value → Bool
  | [], [] => true
  | (k, r) :: t, v :: vs => dy_f1 k r v && dy_fl t vs
  | _, _ => false
def dy_ck (e : db_E) (sh : db_Sh) : Bool := match sh, e with
  | .inl (k, n), .inl (k', n', .inl _) => !Nat.beq k 2 && Nat.beq k' k && Nat.beq n' n
  | .inl (k, n), .inl (k', n', .inr (.inl _)) => Nat.beq k 2 && Nat.beq k' 2 && Nat.beq n' n
  | .inr (.inl (ci, fs)), .inr (ci', vs) => Nat.beq ci' ci && dy_fl fs vs
  | .inr (.inr (k, n, b, st)), .inl (k', n', .inr (.inr (.inr (.inr f)))) => Nat.beq k' k && Nat.beq n' n && (List.range n).all (fun j => match f j with
    | some t => Nat.beq t (b + st * j)
    | none => false)
  | _, _ => false
/-- what stands there -/
def dy_z : List (Nat × Nat) := [(4, 0), (669, 0), (13, 1), (669, 8), (4, 15), (669, 23), (274, 1), (669, 34), (20, 13), (20, 14), (20, 18), (80, 2), (80, 3), (83, 0), (83, 1), (83, 2), (21, 0), (21, 1), (21, 2), (21, 3), (21, 4), (21, 5), (284, 0), (669, 40), (285, 0), (285, 1), (285, 2), (285, 3), (285, 4), (683, 0), (683, 1), (683, 2), (683, 3), (683, 4)]
def dy_m : List (Nat × Nat) := [(12, 0), (12, 1), (12, 2), (12, 3), (671, 0), (671, 1), (671, 2), (671, 3), (274, 2), (669, 35)]
def dy_fact (s : db_S) : Bool := dy_z.all (fun q => decide (s.1 q.1 q.2 = nI 0)) && (dy_m.all (fun q => decide (s.1 q.1 q.2 = -(nI 1))) && (decide (s.1 13 2 = s.1 669 10) && (decide (s.1 13 3 = s.1 669 11) && (decide (s.2 282 0 = s.2 669 2) && (decide (s.2 282 1 = s.2 669 3) && ((List.range 28).all (fun i => decide (s.2 15 i = db_kw i)) && (List.range 480).all (fun k => decide (s.1 674 k = nI 0))))))))
def dy_all : Option (Option Value × db_H) → Bool
  | some (none, μ) => Nat.beq μ.1 685 && (Nat.beq μ.2.1 28467 && ((List.range 681).all (fun i => dy_ck (μ.2.2 (i + 4)) (db_shp (i + 4))) && dy_fact (dy_ex μ)))
  | _ => false
theorem dy_2_e {x : Option (Option Value × db_H)} {f : db_H → Option (Option Value × db_H)} (h : dy_all (dy_2 x f) = true) : ∃ M1 M2, x = some (none, M1) ∧ M1.1 = 669 ∧ M1.2.1 = 9847 ∧ f M1 = some (none, M2) ∧ dy_all (some (none, M2)) = true := by
  have key : ∀ y : Option (Option Value × db_H), dy_all y = true → ∃ M, y = some (none, M) := fun y h => by
    unfold dy_all at h
    split at h
    · exact ⟨_, rfl⟩
    · cases h
  obtain ⟨M2, e2⟩ := key _ h
  rw [e2] at h
  unfold dy_2 at e2
  split at e2
  · rename_i μ
    obtain ⟨hb, e2⟩ := db_condn_e e2
    rw [Bool.and_eq_true] at hb
    exact ⟨μ, M2, rfl, Nat.eq_of_beq_eq_true hb.1, Nat.eq_of_beq_eq_true hb.2, e2, h⟩
  · cases e2
set_option maxRecDepth 1000000 in
theorem dy_t : dy_all (dy_2 (du_ev none 15000 35 dbm_0 0 (lv_args 0 [.ref 4]) [] dy_M0) (fun μ => du_ev none 15000 35 dbm_206 0 (lv_args 0 [.ref 669]) [] (dy_N μ.2.2))) = true := by decide +kernel
