/-! THE FIRST PART, by the kernel: both constructors -/
def dy_h : db_H := (4, 0, fun _ => .inr (0, []))
def dy_M0 : db_H := (5, 16, db_up (fun _ => .inr (0, [])) 4 (.inr (11, (List.range 16).map (fun k => defaultValue (db_ty 11 k)))))
def dy_N (h : Nat → db_E) : db_H := (670, 9893, db_up h 669 (.inr (12, (List.range 46).map (fun k => defaultValue (db_ty 12 k)))))
noncomputable def dy_1 : Option (Option Value × db_H) := db_ev none 15000 35 dbm_0 0 (lv_args 0 [.ref 4]) [] dy_M0
noncomputable def dy_2 : Option (Option Value × db_H) := match dy_1 with
  | some (none, μ) => cond (Nat.beq μ.1 669 && Nat.beq μ.2.1 9847) (db_ev none 15000 35 dbm_206 0 (lv_args 0 [.ref 669]) [] (dy_N μ.2.2)) none
  | _ => none
/-- what a cell holds -/
def dy_xi (e : db_E) (j : Nat) : Int32 := match e with
  | .inl (_, _, .inl f) => f j
  | .inr (_, fs) => (match fs[j]? with
    | some (.int x) => x
    | _ => 0)
  | _ => 0
def dy_xl (e : db_E) (j : Nat) : Int64 := match e with
  | .inl (_, _, .inr (.inl f)) => f j
  | .inr (_, fs) => (match fs[j]? with
    | some (.long x) => x
    | _ => 0)
  | _ => 0
def dy_ex (μ : db_H) : db_S := (fun i j => dy_xi (μ.2.2 i) j, fun i j => dy_xl (μ.2.2 i) j)
/-- a cell has the shape -/
def dy_f1 (k r : Nat) (v : Value) : Bool := match v with
  | .int _ => Nat.beq k 0
  | .long _ => Nat.beq k 1
  | .ref a => Nat.ble 2 k && Nat.beq a r
  | _ => false
def dy_fl : List (Nat × Nat) → List Value → Bool
  | [], [] => true
  | (k, r) :: t, v :: vs => dy_f1 k r v && dy_fl t vs
  | _, _ => false
def dy_ck (e : db_E) (sh : db_Sh) : Bool := match sh, e with
  | .inl (k, n), .inl (k', n', .inl _) => !Nat.beq k 2 && Nat.beq k' k && Nat.beq n' n
  | .inl (k, n), .inl (k', n', .inr (.inl _)) => Nat.beq k 2 && Nat.beq k' 2 && Nat.beq n' n
  | .inr (.inl (ci, fs)), .inr (ci', vs) => Nat.beq ci' ci && dy_fl fs vs
  | .inr (.inr (k, n, b, st)), .inl (k', n', .inr (.inr (.inr (.inr f)))) => Nat.beq k' k && Nat.beq n' n && (List.range n).all (fun j => match f j with
    | some t => Nat.beq t (b + st * j)
    | none => false)
  | _, _ => false
/-- what stands there -/
def dy_z : List (Nat × Nat) := [(4, 0), (669, 0), (13, 1), (669, 8), (4, 15), (669, 23), (274, 1), (669, 34), (20, 13), (20, 14), (20, 18), (80, 2), (80, 3), (83, 0), (83, 1), (83, 2), (21, 0), (21, 1), (21, 2), (21, 3), (21, 4), (21, 5), (284, 0), (669, 40), (285, 0), (285, 1), (285, 2), (285, 3), (285, 4), (683, 0), (683, 1), (683, 2), (683, 3), (683, 4)]
def dy_m : List (Nat × Nat) := [(12, 0), (12, 1), (12, 2), (12, 3), (671, 0), (671, 1), (671, 2), (671, 3), (274, 2), (669, 35)]
def dy_fact (s : db_S) : Bool := dy_z.all (fun q => decide (s.1 q.1 q.2 = nI 0)) && (dy_m.all (fun q => decide (s.1 q.1 q.2 = -(nI 1))) && (decide (s.1 13 2 = s.1 669 10) && (decide (s.1 13 3 = s.1 669 11) && (decide (s.2 282 0 = s.2 669 2) && (decide (s.2 282 1 = s.2 669 3) && ((List.range 28).all (fun i => decide (s.2 15 i = db_kw i)) && (List.range 480).all (fun k => decide (s.1 674 k = nI 0))))))))
def dy_all : Option (Option Value × db_H) → Bool
  | some (none, μ) => Nat.beq μ.1 685 && (Nat.beq μ.2.1 28467 && ((List.range 681).all (fun i => dy_ck (μ.2.2 (i + 4)) (db_shp (i + 4))) && dy_fact (dy_ex μ)))
  | _ => false
set_option maxRecDepth 1000000 in
theorem dy_t : dy_all dy_2 = true := by decide +kernel
