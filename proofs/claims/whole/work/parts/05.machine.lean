/-! THE ABSTRACT MACHINE: cells by number (0 the script, 1 the String constant, 2 its bytes, 3 the formatter, from 4 on our own in the order of their making) -/
abbrev db_E : Type := (Nat × vp_A) ⊕ (Nat × List Value)
abbrev db_H : Type := Nat × Nat × (Nat → db_E)
abbrev db_V : Type := List (Nat × Value)
abbrev db_X : Type := Option (Nat × (Nat → Int32))
abbrev db_R : Type := Nat × db_V × List Value × db_H
def db_up (h : Nat → db_E) (i : Nat) (e : db_E) : Nat → db_E := fun j => cond (Nat.beq j i) e (h j)
def db_upr (h : Nat → db_E) (i n : Nat) (e : db_E) : Nat → db_E := fun j => cond (Nat.ble i j && Nat.blt j (i + n)) e (h j)
def db_fi (pc : Nat) : List (Nat × Instr × Option (List Nat)) → Option (Instr × Option (List Nat))
  | [] => none
  | (p, i, l) :: t => cond (Nat.beq p pc) (some (i, l)) (db_fi pc t)
def db_lk (ix : Nat) : List db_L → Option (Nat × Nat × Nat × Int × String)
  | [] => none
  | (p, q) :: t => cond (Nat.beq p ix) (some q) (db_lk ix t)
def db_get (i : Nat) : db_V → Option Value
  | [] => none
  | (p, v) :: t => cond (Nat.beq p i) (some v) (db_get i t)
def db_pk (lv : db_V) : List Nat → Option db_V
  | [] => some []
  | k :: ks => match db_get k lv, db_pk lv ks with
    | some v, some r => some ((k, v) :: r)
    | _, _ => none
def db_nrm (lv : db_V) : Option (List Nat) → Option db_V
  | none => some lv
  | some ks => db_pk lv ks
def db_p1 (i : Nat) (v : Value) (lv : db_V) : db_V := (i, v) :: lv.filter (fun q => !(q.1 == i) && !(q.1 + 1 == i && q.2.category == 2))
def db_p2 (i : Nat) (v : Value) (lv : db_V) : db_V := (i, v) :: lv.filter (fun q => !(q.1 == i) && (!(q.1 == i + 1) && !(q.1 + 1 == i && q.2.category == 2)))
section DBS
variable {β : Type}
def db_sI (st : List Value) (f : Int32 → List Value → Option β) : Option β := match st with
  | .int x :: r => f x r
  | _ => none
def db_sII (st : List Value) (f : Int32 → Int32 → List Value → Option β) : Option β := match st with
  | .int y :: .int x :: r => f x y r
  | _ => none
def db_sL (st : List Value) (f : Int64 → List Value → Option β) : Option β := match st with
  | .long x :: r => f x r
  | _ => none
def db_sLL (st : List Value) (f : Int64 → Int64 → List Value → Option β) : Option β := match st with
  | .long y :: .long x :: r => f x y r
  | _ => none
def db_sLI (st : List Value) (f : Int64 → Int32 → List Value → Option β) : Option β := match st with
  | .int y :: .long x :: r => f x y r
  | _ => none
def db_sR (st : List Value) (f : Nat → List Value → Option β) : Option β := match st with
  | .ref a :: r => f a r
  | _ => none
def db_sV (st : List Value) (f : Value → List Value → Option β) : Option β := match st with
  | v :: r => f v r
  | _ => none
def db_sVV (st : List Value) (f : Value → Value → List Value → Option β) : Option β := match st with
  | y :: x :: r => f x y r
  | _ => none
def db_sVR (st : List Value) (f : Value → Nat → List Value → Option β) : Option β := match st with
  | v :: .ref a :: r => f v a r
  | _ => none
def db_sRI (st : List Value) (f : Nat → Int32 → List Value → Option β) : Option β := match st with
  | .int j :: .ref a :: r => f a j r
  | _ => none
def db_sRIV (st : List Value) (f : Nat → Int32 → Value → List Value → Option β) : Option β := match st with
  | v :: .int j :: .ref a :: r => f a j v r
  | _ => none
def db_s5 (st : List Value) (f : Nat → Int32 → Nat → Int32 → Int32 → List Value → Option β) : Option β := match st with
  | .int n :: .int dp :: .ref d :: .int sp :: .ref a :: r => f a sp d dp n r
  | _ => none
def db_gI (v : Option Value) (f : Int32 → Option β) : Option β := match v with
  | some (.int x) => f x
  | _ => none
def db_gL (v : Option Value) (f : Int64 → Option β) : Option β := match v with
  | some (.long x) => f x
  | _ => none
def db_gR (v : Option Value) (f : Nat → Option β) : Option β := match v with
  | some (.ref x) => f x
  | _ => none
end DBS
def db_kty : List FieldType := [.byte, .int, .long, .array .int, .array .long, .object "DreamBook$Told", .object "DreamBook$Life", .object "DreamBook$Plan"]
def db_fld (ci : Nat) : Option vw_C := db_cl[ci]?
def db_obj (μ : db_H) (i : Nat) : Option (Nat × List Value) := cond (Nat.ble 4 i && Nat.blt i μ.1) (match μ.2.2 i with
  | .inr o => some o
  | _ => none) none
def db_arr (μ : db_H) (i : Nat) : Option (Nat × vp_A) := cond (Nat.ble 4 i && Nat.blt i μ.1) (match μ.2.2 i with
  | .inl o => some o
  | _ => none) none
def db_set (μ : db_H) (i : Nat) (e : db_E) : db_H := (μ.1, μ.2.1, db_up μ.2.2 i e)
/-- an index within -/
def db_in (j : Int32) (n : Nat) : Bool := !decide (j < 0) && decide (j.toNatClampNeg < n)
/-- a value that a field of such a type keeps as it is -/
def db_fit : FieldType → Value → Bool
  | .int, .int _ => true
  | .long, .long _ => true
  | .boolean, .int x => decide (x = 0) || decide (x = 1)
  | .object _, .ref i => Nat.ble 4 i
  | .array _, .ref i => Nat.ble 4 i
  | _, _ => false
def db_low (x : Int32) : Bool := (List.range 128).any (fun n => decide (x = Int32.ofNat n))
def db_fitR : FieldType → Int32 → Bool
  | .int, _ => true
  | .boolean, x => decide (x = 0) || decide (x = 1)
  | .byte, x => db_low x
  | .char, x => db_low x
  | _, _ => false
def db_str : List Int32 := [116, 104, 105, 110, 103, 32, 112, 101, 114, 115, 111, 110, 32, 115, 101, 97, 115, 111, 110, 32, 114, 117, 108, 101, 32, 110, 111, 116, 101, 32, 100, 114, 101, 97, 109, 32, 119, 105, 100, 111, 119, 32, 116, 117, 114, 110, 115, 32, 111, 102, 32, 109, 101, 97, 110, 115, 32, 108, 101, 115, 115, 32, 98, 121, 32, 117, 110, 108, 101, 115, 115, 32, 102, 111, 114, 32, 105, 110, 32, 115, 116, 114, 105, 107, 101, 115, 32, 99, 111, 115, 116, 115, 32, 99, 104, 97, 110, 99, 101, 32, 110, 105, 103, 104, 116, 32, 97, 110, 121, 32, 115, 116, 114, 105, 107, 101, 32, 112, 114, 105, 110, 116, 32, 119, 104, 101, 110, 32, 108, 111, 111, 112, 32, 115, 116, 111, 112, 32, 101, 110, 100, 32, 115, 117, 109, 32, 119, 111, 114, 110, 32]
def db_cnd : Jvm.ClassFile.Cond → Int32 → Int32 → Bool
  | .eq, x, y => decide (x = y)
  | .ne, x, y => !decide (x = y)
  | .lt, x, y => decide (x < y)
  | .ge, x, y => decide (y ≤ x)
  | .gt, x, y => decide (y < x)
  | .le, x, y => decide (x ≤ y)
def db_tgt (pc : Nat) (off : Int) : Option Nat := match (pc : Int) + off with
  | .ofNat t => some t
  | _ => none
/-- arrays: read, write -/
def db_ald (k : Nat) (μ : db_H) (a : Nat) (j : Int32) : Option Value := match db_arr μ a with
  | some (k', n, c) => cond (Nat.beq k' k && db_in j n) (match c with
    | .inl f => some (.int (f j.toNatClampNeg))
    | .inr (.inl f) => some (.long (f j.toNatClampNeg))
    | .inr (.inr (.inr (.inr f))) => (match f j.toNatClampNeg with
      | some t => cond (Nat.ble 4 t) (some (.ref t)) none
      | none => none)
    | _ => none) none
  | none => none
def db_ast (k : Nat) (μ : db_H) (a : Nat) (j : Int32) (v : Value) : Option db_H := match db_arr μ a with
  | some (k', n, c) => cond (Nat.beq k' k && db_in j n) (match c, v with
    | .inl f, .int x => cond (Nat.ble k 1) (some (db_set μ a (.inl (k', n, .inl (upd f j.toNatClampNeg (cond (Nat.beq k 0) (x.toInt8.toInt32) x)))))) none
    | .inr (.inl f), .long x => cond (Nat.beq k 2) (some (db_set μ a (.inl (k', n, .inr (.inl (vp_updL f j.toNatClampNeg x)))))) none
    | _, _ => none) none
  | none => none
def db_asq (μ : db_H) (a : Nat) (j : Int32) (t : Nat) : Option db_H := match db_arr μ a, db_obj μ t with
  | some (k, n, .inr (.inr (.inr (.inr f)))), some (ci, _) => cond ((Nat.beq k 5 && Nat.beq ci 9 || Nat.beq k 6 && Nat.beq ci 2 || Nat.beq k 7 && Nat.beq ci 4) && db_in j n) (some (db_set μ a (.inl (k, n, .inr (.inr (.inr (.inr (va_up f j.toNatClampNeg (some t))))))))) none
  | _, _ => none
def db_getf (mr : db_MR) (ix : Nat) (μ : db_H) (a : Nat) : Option Value := match db_lk ix mr.2.2.2.2.2.2 with
  | some (0, ci, k, _, _) => (match db_obj μ a with
    | some (ci', fs) => cond (Nat.beq ci' ci) fs[k]? none
    | none => none)
  | some (16, 0, _, _, _) => cond (Nat.beq a 1) (some (.ref 2)) none
  | some (16, 1, _, _, _) => cond (Nat.beq a 1) (some (.int 0)) none
  | _ => none
noncomputable def db_putf (mr : db_MR) (ix : Nat) (μ : db_H) (a : Nat) (v : Value) : Option db_H := match db_lk ix mr.2.2.2.2.2.2 with
  | some (0, ci, k, _, _) => (match db_obj μ a, db_cl[ci]? with
    | some (ci', fs), some (_, T, _) => cond (Nat.beq ci' ci && Nat.blt k fs.length && db_fit (db_ty ci k) v && (!(T k).2.2.2 || (Nat.beq ci mr.2.2.2.2.1 && decide (mr.1.name = "<init>")))) (some (db_set μ a (.inr (ci', fs.set k v)))) none
    | _, _ => none)
  | _ => none
def db_new (mr : db_MR) (ix : Nat) (μ : db_H) : Option (Nat × db_H) := match db_lk ix mr.2.2.2.2.2.2 with
  | some (11, ci, N, _, _) => some (μ.1, (μ.1 + 1, μ.2.1 + N, db_up μ.2.2 μ.1 (.inr (ci, (List.range N).map (fun k => defaultValue (db_ty ci k))))))
  | _ => none
def db_newa (at_ : ArrayType) (x : Int32) (μ : db_H) : Option (Nat × db_H) := cond (!decide (x < 0) && Nat.ble x.toNatClampNeg 10000) (match at_ with
  | .byte => some (μ.1, (μ.1 + 1, μ.2.1 + x.toNatClampNeg, db_up μ.2.2 μ.1 (.inl (0, x.toNatClampNeg, .inl (fun _ => 0)))))
  | .int => some (μ.1, (μ.1 + 1, μ.2.1 + x.toNatClampNeg, db_up μ.2.2 μ.1 (.inl (1, x.toNatClampNeg, .inl (fun _ => 0)))))
  | .long => some (μ.1, (μ.1 + 1, μ.2.1 + x.toNatClampNeg, db_up μ.2.2 μ.1 (.inl (2, x.toNatClampNeg, .inr (.inl (fun _ => 0))))))
  | _ => none) none
def db_anew (mr : db_MR) (ix : Nat) (x : Int32) (μ : db_H) : Option (Nat × db_H) := match db_lk ix mr.2.2.2.2.2.2 with
  | some (11, ci, _, _, _) => cond (!decide (x < 0) && Nat.ble x.toNatClampNeg 10000 && (Nat.beq ci 9 || Nat.beq ci 2 || Nat.beq ci 4)) (some (μ.1, (μ.1 + 1, μ.2.1 + x.toNatClampNeg, db_up μ.2.2 μ.1 (.inl (cond (Nat.beq ci 9) 5 (cond (Nat.beq ci 2) 6 7), x.toNatClampNeg, .inr (.inr (.inr (.inr (fun _ => none))))))))) none
  | _ => none
def db_mnew (mr : db_MR) (ix : Nat) (x y : Int32) (μ : db_H) : Option (Nat × db_H) := match db_lk ix mr.2.2.2.2.2.2 with
  | some (17, q, _, _, _) => cond (!decide (x < 0) && Nat.ble x.toNatClampNeg 100 && !decide (y < 0) && Nat.ble y.toNatClampNeg 100 && Nat.ble q 1) (some (μ.1, (μ.1 + 1 + x.toNatClampNeg, μ.2.1 + x.toNatClampNeg + x.toNatClampNeg * y.toNatClampNeg,
      db_upr (db_up μ.2.2 μ.1 (.inl (cond (Nat.beq q 0) 3 4, x.toNatClampNeg, .inr (.inr (.inr (.inr (fun j => cond (Nat.blt j x.toNatClampNeg) (some (μ.1 + 1 + j)) none))))))) (μ.1 + 1) x.toNatClampNeg (cond (Nat.beq q 0) (.inl (1, y.toNatClampNeg, .inl (fun _ => 0))) (.inl (2, y.toNatClampNeg, .inr (.inl (fun _ => 0)))))))) none
  | _ => none
def db_cpy (μ : db_H) (a : Nat) (sp : Int32) (d : Nat) (dp n : Int32) : Option db_H := match db_arr μ a, db_arr μ d with
  | some (k, n0, c), some (k', n1, c') => cond (Nat.beq k k' && !decide (sp < 0) && !decide (dp < 0) && !decide (n < 0) && Nat.ble (sp.toNatClampNeg + n.toNatClampNeg) n0 && Nat.ble (dp.toNatClampNeg + n.toNatClampNeg) n1) (match c, c' with
    | .inl f, .inl g => cond (Nat.beq k 1) (some (db_set μ d (.inl (k', n1, .inl (va_cpy f g sp.toNatClampNeg dp.toNatClampNeg n.toNatClampNeg))))) none
    | .inr (.inl f), .inr (.inl g) => cond (Nat.beq k 2) (some (db_set μ d (.inl (k', n1, .inr (.inl (va_cpy f g sp.toNatClampNeg dp.toNatClampNeg n.toNatClampNeg)))))) none
    | _, _ => none) none
  | _, _ => none
/-- an instruction that neither calls nor ends -/
noncomputable def db_stp (X : db_X) (mr : db_MR) (pc : Nat) (i : Instr) (lv : db_V) (st : List Value) (μ : db_H) : Option db_R :=
  match i with
  | .iconst n => some (pc + 1, lv, .int (Int32.ofInt n) :: st, μ)
  | .bipush n => some (pc + 2, lv, .int ((Int8.ofInt n).toInt32) :: st, μ)
  | .sipush n => some (pc + 3, lv, .int ((Int16.ofInt n).toInt32) :: st, μ)
  | .lconst n => some (pc + 1, lv, .long (Int64.ofNat (n : Nat)) :: st, μ)
  | .ldc ix => (match db_lk ix mr.2.2.2.2.2.2 with
    | some (12, _, _, v, _) => some (pc + 2, lv, .int (Int32.ofInt v) :: st, μ)
    | some (13, _, _, _, _) => some (pc + 2, lv, .ref 1 :: st, μ)
    | _ => none)
  | .ldc_w ix => (match db_lk ix mr.2.2.2.2.2.2 with
    | some (12, _, _, v, _) => some (pc + 3, lv, .int (Int32.ofInt v) :: st, μ)
    | _ => none)
  | .ldc2_w ix => (match db_lk ix mr.2.2.2.2.2.2 with
    | some (19, _, _, v, _) => some (pc + 3, lv, .long (Int64.ofInt v) :: st, μ)
    | _ => none)
  | .iload_n k => db_gI (db_get (k : Nat) lv) fun x => some (pc + 1, lv, .int x :: st, μ)
  | .iload k => db_gI (db_get k lv) fun x => some (pc + 2, lv, .int x :: st, μ)
  | .lload_n k => db_gL (db_get (k : Nat) lv) fun x => some (pc + 1, lv, .long x :: st, μ)
  | .lload k => db_gL (db_get k lv) fun x => some (pc + 2, lv, .long x :: st, μ)
  | .aload_n k => db_gR (db_get (k : Nat) lv) fun x => cond (Nat.beq x 3) none (some (pc + 1, lv, .ref x :: st, μ))
  | .aload k => db_gR (db_get k lv) fun x => cond (Nat.beq x 3) none (some (pc + 2, lv, .ref x :: st, μ))
  | .istore_n k => cond (Nat.blt (k : Nat) mr.2.2.1) (db_sI st fun x r => some (pc + 1, db_p1 (k : Nat) (.int x) lv, r, μ)) none
  | .istore k => cond (Nat.blt k mr.2.2.1) (db_sI st fun x r => some (pc + 2, db_p1 k (.int x) lv, r, μ)) none
  | .lstore_n k => cond (Nat.blt ((k : Nat) + 1) mr.2.2.1) (db_sL st fun x r => some (pc + 1, db_p2 (k : Nat) (.long x) lv, r, μ)) none
  | .lstore k => cond (Nat.blt (k + 1) mr.2.2.1) (db_sL st fun x r => some (pc + 2, db_p2 k (.long x) lv, r, μ)) none
  | .astore_n k => cond (Nat.blt (k : Nat) mr.2.2.1) (db_sR st fun x r => cond (Nat.beq x 3) none (some (pc + 1, db_p1 (k : Nat) (.ref x) lv, r, μ))) none
  | .astore k => cond (Nat.blt k mr.2.2.1) (db_sR st fun x r => cond (Nat.beq x 3) none (some (pc + 2, db_p1 k (.ref x) lv, r, μ))) none
  | .iinc k n => cond (Nat.blt k mr.2.2.1) (db_gI (db_get k lv) fun x => some (pc + 3, db_p1 k (.int (x + Int32.ofInt n)) lv, st, μ)) none
  | .iadd => db_sII st fun x y r => some (pc + 1, lv, .int (x + y) :: r, μ)
  | .isub => db_sII st fun x y r => some (pc + 1, lv, .int (x - y) :: r, μ)
  | .imul => db_sII st fun x y r => some (pc + 1, lv, .int (x * y) :: r, μ)
  | .iand => db_sII st fun x y r => some (pc + 1, lv, .int (x &&& y) :: r, μ)
  | .ior => db_sII st fun x y r => some (pc + 1, lv, .int (x ||| y) :: r, μ)
  | .ixor => db_sII st fun x y r => some (pc + 1, lv, .int (x ^^^ y) :: r, μ)
  | .ishl => db_sII st fun x y r => some (pc + 1, lv, .int (x <<< (y &&& 31)) :: r, μ)
  | .ishr => db_sII st fun x y r => some (pc + 1, lv, .int (x >>> (y &&& 31)) :: r, μ)
  | .iushr => db_sII st fun x y r => some (pc + 1, lv, .int ((x.toUInt32 >>> (y.toUInt32 &&& Int32.toUInt32 31)).toInt32) :: r, μ)
  | .idiv => db_sII st fun x y r => cond (decide (y = 0)) none (some (pc + 1, lv, .int (x / y) :: r, μ))
  | .irem => db_sII st fun x y r => cond (decide (y = 0)) none (some (pc + 1, lv, .int (x - x / y * y) :: r, μ))
  | .ineg => db_sI st fun x r => some (pc + 1, lv, .int (-x) :: r, μ)
  | .ladd => db_sLL st fun x y r => some (pc + 1, lv, .long (x + y) :: r, μ)
  | .lsub => db_sLL st fun x y r => some (pc + 1, lv, .long (x - y) :: r, μ)
  | .lmul => db_sLL st fun x y r => some (pc + 1, lv, .long (x * y) :: r, μ)
  | .land => db_sLL st fun x y r => some (pc + 1, lv, .long (x &&& y) :: r, μ)
  | .lor => db_sLL st fun x y r => some (pc + 1, lv, .long (x ||| y) :: r, μ)
  | .ldiv => db_sLL st fun x y r => cond (decide (y = 0)) none (some (pc + 1, lv, .long (x / y) :: r, μ))
  | .lrem => db_sLL st fun x y r => cond (decide (y = 0)) none (some (pc + 1, lv, .long (x - x / y * y) :: r, μ))
  | .lneg => db_sL st fun x r => some (pc + 1, lv, .long (-x) :: r, μ)
  | .lshl => db_sLI st fun x y r => some (pc + 1, lv, .long (x <<< (y.toInt64 &&& 63)) :: r, μ)
  | .lcmp => db_sLL st fun x y r => some (pc + 1, lv, .int (lg_cmp x y) :: r, μ)
  | .i2l => db_sI st fun x r => some (pc + 1, lv, .long x.toInt64 :: r, μ)
  | .l2i => db_sL st fun x r => some (pc + 1, lv, .int x.toInt32 :: r, μ)
  | .i2b => db_sI st fun x r => some (pc + 1, lv, .int x.toInt8.toInt32 :: r, μ)
  | .i2s => db_sI st fun x r => some (pc + 1, lv, .int x.toInt16.toInt32 :: r, μ)
  | .i2c => db_sI st fun x r => some (pc + 1, lv, .int ((x.toUInt32 % 65536).toInt32) :: r, μ)
  | .dup => db_sV st fun v r => cond (Nat.beq v.category 1) (some (pc + 1, lv, v :: v :: r, μ)) none
  | .pop => db_sV st fun v r => cond (Nat.beq v.category 1) (some (pc + 1, lv, r, μ)) none
  | .dup2 => db_sVV st fun x y r => cond (Nat.beq y.category 1 && Nat.beq x.category 1) (some (pc + 1, lv, y :: x :: y :: x :: r, μ)) none
  | .ifCond c off => db_sI st fun x r => (db_tgt pc off).bind fun t => some (cond (db_cnd c x 0) t (pc + 3), lv, r, μ)
  | .if_icmp c off => db_sII st fun x y r => (db_tgt pc off).bind fun t => some (cond (db_cnd c x y) t (pc + 3), lv, r, μ)
  | .goto off => (db_tgt pc off).bind fun t => some (t, lv, st, μ)
  | .tableswitch dflt lo hi offs => db_sI st fun x r => cond (decide (x.toInt < lo) || decide (hi < x.toInt)) ((db_tgt pc dflt).bind fun t => some (t, lv, r, μ)) (offs[(x.toInt - lo).toNat]?.bind fun off => (db_tgt pc off).bind fun t => some (t, lv, r, μ))
  | .getfield ix => db_sR st fun a r => (db_getf mr ix μ a).bind fun v => some (pc + 3, lv, v :: r, μ)
  | .putfield ix => db_sVR st fun v a r => (db_putf mr ix μ a v).bind fun μ' => some (pc + 3, lv, r, μ')
  | .getstatic ix => (match db_lk ix mr.2.2.2.2.2.2 with
    | some (14, _, _, _, _) => some (pc + 3, lv, .int 1 :: st, μ)
    | some (15, _, _, _, _) => some (pc + 3, lv, .ref 3 :: st, μ)
    | _ => none)
  | .new ix => (db_new mr ix μ).bind fun q => some (pc + 3, lv, .ref q.1 :: st, q.2)
  | .newarray t => db_sI st fun x r => (db_newa t x μ).bind fun q => some (pc + 2, lv, .ref q.1 :: r, q.2)
  | .anewarray ix => db_sI st fun x r => (db_anew mr ix x μ).bind fun q => some (pc + 3, lv, .ref q.1 :: r, q.2)
  | .multianewarray ix d => cond (Nat.beq d 2) (db_sII st fun x y r => (db_mnew mr ix x y μ).bind fun q => some (pc + 4, lv, .ref q.1 :: r, q.2)) none
  | .iaload => db_sRI st fun a j r => cond (Nat.beq a 0) (match X with
    | some (L, xs) => cond (db_in j L) (some (pc + 1, lv, .int (xs j.toNatClampNeg) :: r, μ)) none
    | none => none) ((db_ald 1 μ a j).bind fun v => some (pc + 1, lv, v :: r, μ))
  | .baload => db_sRI st fun a j r => cond (Nat.beq a 2) (cond (db_in j db_str.length) (some (pc + 1, lv, .int (db_str.getD j.toNatClampNeg 0) :: r, μ)) none) ((db_ald 0 μ a j).bind fun v => some (pc + 1, lv, v :: r, μ))
  | .laload => db_sRI st fun a j r => (db_ald 2 μ a j).bind fun v => some (pc + 1, lv, v :: r, μ)
  | .aaload => db_sRI st fun a j r => (match db_arr μ a with
    | some (k, _, _) => cond (Nat.ble 3 k && Nat.ble k 7) ((db_ald k μ a j).bind fun v => some (pc + 1, lv, v :: r, μ)) none
    | none => none)
  | .iastore => db_sRIV st fun a j v r => (db_ast 1 μ a j v).bind fun μ' => some (pc + 1, lv, r, μ')
  | .bastore => db_sRIV st fun a j v r => (db_ast 0 μ a j v).bind fun μ' => some (pc + 1, lv, r, μ')
  | .lastore => db_sRIV st fun a j v r => (db_ast 2 μ a j v).bind fun μ' => some (pc + 1, lv, r, μ')
  | .aastore => db_sRIV st fun a j v r => (match v with
    | .ref t => (db_asq μ a j t).bind fun μ' => some (pc + 1, lv, r, μ')
    | _ => none)
  | .arraylength => db_sR st fun a r => cond (Nat.beq a 0) (match X with
    | some (L, _) => some (pc + 1, lv, .int (Int32.ofNat L) :: r, μ)
    | none => none) (cond (Nat.beq a 2) (some (pc + 1, lv, .int (Int32.ofNat db_str.length) :: r, μ)) (match db_arr μ a with
    | some (k, n, _) => cond (Nat.ble k 7) (some (pc + 1, lv, .int (Int32.ofNat n) :: r, μ)) none
    | none => none))
  | .invokespecial ix => (match db_lk ix mr.2.2.2.2.2.2 with
    | some (6, _, _, _, _) => db_sR st fun a r => cond (!Nat.beq a 3 && decide ((r.map fun v => v.category).sum ≤ 8)) (some (pc + 3, lv, r, μ)) none
    | _ => none)
  | .invokestatic ix => (match db_lk ix mr.2.2.2.2.2.2 with
    | some (7, _, _, _, _) => db_sII st fun x y r => cond (decide ((r.map fun v => v.category).sum ≤ 8)) (some (pc + 3, lv, .int (if y < x then y else x) :: r, μ)) none
    | some (8, _, _, _, _) => db_sII st fun x y r => cond (decide ((r.map fun v => v.category).sum ≤ 8)) (some (pc + 3, lv, .int (if x < y then y else x) :: r, μ)) none
    | some (9, _, _, _, _) => db_sL st fun x r => cond (decide ((r.map fun v => v.category).sum ≤ 8)) (some (pc + 3, lv, .long (if 0 < x then x else -x) :: r, μ)) none
    | some (10, _, _, _, _) => db_s5 st fun a sp d dp n r => cond (decide ((r.map fun v => v.category).sum ≤ 8)) ((db_cpy μ a sp d dp n).bind fun μ' => some (pc + 3, lv, r, μ')) none
    | _ => none)
  | _ => none
/-- an end: what is answered -/
def db_ret (mr : db_MR) (i : Instr) (st : List Value) : Option (Option Value) :=
  match i with
  | .ireturn => (match st, mr.2.2.2.1 with
    | [.int x], some ty => cond (db_fitR ty x) (some (some (.int x))) none
    | _, _ => none)
  | .lreturn => (match st, mr.2.2.2.1 with
    | [.long x], some .long => some (some (.long x))
    | _, _ => none)
  | .areturn => (match st, mr.2.2.2.1 with
    | [.ref a], some (.array _) => some (some (.ref a))
    | _, _ => none)
  | .return_ => (match st, mr.2.2.2.1 with
    | [], none => some none
    | _, _ => none)
  | _ => none
/-- a call: its opcode's kinds, the method, its arguments, what is left -/
noncomputable def db_cal (mr : db_MR) (i : Instr) (st : List Value) (μ : db_H) : Option (db_MR × List Value × List Value) :=
  match i with
  | .invokevirtual ix => (match db_lk ix mr.2.2.2.2.2.2 with
    | some (1, k, n, _, _) => (match db_ms[k]?, st.drop n with
      | some mr', .ref a :: r => cond (Nat.beq (st.take n).length n && decide ((r.map fun v => v.category).sum ≤ 8) && (match db_obj μ a with
        | some (ci, _) => Nat.beq ci mr'.2.2.2.2.1
        | none => Nat.beq a 1 && Nat.beq mr'.2.2.2.2.1 14) && decide (((Value.ref a :: (st.take n).reverse).map fun v => v.category).sum ≤ mr'.2.2.1)) (some (mr', .ref a :: (st.take n).reverse, r)) none
      | _, _ => none)
    | _ => none)
  | .invokestatic ix => (match db_lk ix mr.2.2.2.2.2.2 with
    | some (kd, k, n, _, _) => cond (Nat.beq kd 2 || Nat.beq kd 4) (match db_ms[k]? with
      | some mr' => cond (Nat.beq (st.take n).length n && decide (((st.drop n).map fun v => v.category).sum ≤ 8) && decide ((((st.take n).reverse).map fun v => v.category).sum ≤ mr'.2.2.1)) (some (mr', (st.take n).reverse, st.drop n)) none
      | none => none) none
    | none => none)
  | .invokespecial ix => (match db_lk ix mr.2.2.2.2.2.2 with
    | some (kd, k, n, _, _) => cond (Nat.beq kd 3 || Nat.beq kd 5) (match db_ms[k]?, st.drop n with
      | some mr', .ref a :: r => cond (Nat.beq (st.take n).length n && decide ((r.map fun v => v.category).sum ≤ 8) && decide (((Value.ref a :: (st.take n).reverse).map fun v => v.category).sum ≤ mr'.2.2.1) && !Nat.beq a 3) (some (mr', .ref a :: (st.take n).reverse, r)) none
      | _, _ => none) none
    | none => none)
  | _ => none
/-- a run: fuel, depth -/
noncomputable def db_ev (X : db_X) : Nat → Nat → db_MR → Nat → db_V → List Value → db_H → Option (Option Value × db_H)
  | 0, _, _, _, _, _, _ => none
  | n + 1, d, mr, pc, lv0, st, μ =>
    match db_fi pc mr.2.2.2.2.2.1 with
    | none => none
    | some (i, ks) =>
      match db_nrm lv0 ks with
      | none => none
      | some lv =>
        match db_ret mr i st with
        | some r => some (r, μ)
        | none =>
          match db_cal mr i st μ with
          | some (mr', as, rest) =>
            (match d with
            | 0 => none
            | d' + 1 => match db_ev X n d' mr' 0 (lv_args 0 as) [] μ with
              | none => none
              | some (r, μ1) => db_ev X n (d' + 1) mr (pc + 3) lv (r.toList ++ rest) μ1)
          | none =>
            match db_stp X mr pc i lv st μ with
            | none => none
            | some (pc', lv', st', μ') => cond (Nat.ble μ.1 μ'.1 && Nat.ble μ.2.1 μ'.2.1) (db_ev X n d mr pc' lv' st' μ') none
