noncomputable def db_f364_b9 : Nat → db_S → Int64 → Int64 → Int64 → Int64 → Option (Bool × db_S)
  | 0, _, _, _, _, _ => none
  | n + 1, s, v1, v3, v5, v7 =>
    (cond (db_cnd .eq (lg_cmp v7 (0 : Int64)) 0) (if v5 = 0 then none else ((db_pL s 669 2 (v1 / v5)).bind fun s1 => (if v5 = 0 then none else ((db_pL s1 669 3 (v3 / v5)).bind fun s2 => (some (true, s2)))))) (if v7 = 0 then none else (db_f364_b9 n s v1 v3 v7 (v5 - v5 / v7 * v7))))
set_option maxRecDepth 100000 in
theorem db_f364_b9_ok {X : db_X} {d : Nat}  (n : Nat) : ∀ (s : db_S) (v1 : Int64) (v3 : Int64) (v5 : Int64) (v7 : Int64), db_Rf X (d + 0) dbm_364 9 [(0, .ref 669), (1, .long v1), (3, .long v3), (5, .long v5), (7, .long v7)] [] s db_zB (db_f364_b9 n s v1 v3 v5 v7) := by
  induction n with
  | zero => intros; exact db_Rnone
  | succ n ih =>
    intro s v1 v3 v5 v7
    unfold db_f364_b9
    refine db_Rgo (pc' := 13) (lv' := [(0, .ref 669), (1, .long v1), (3, .long v3), (5, .long v5), (7, .long v7)]) (st' := [.int (lg_cmp v7 (0 : Int64))]) 3 rfl ?_
    refine db_Rif (pc' := 16) (tg := 34) (lv1 := [(0, .ref 669), (1, .long v1), (3, .long v3), (5, .long v5), (7, .long v7)]) rfl rfl rfl rfl ?_ ?_
    · refine db_Rgo (pc' := 38) (lv' := [(0, .ref 669), (1, .long v1), (3, .long v3), (5, .long v5)]) (st' := [.long v5, .long v1, .ref 669]) 3 rfl ?_
      refine db_RdivL (pc' := 39) (lv1 := [(0, .ref 669), (1, .long v1), (3, .long v3), (5, .long v5)]) rfl rfl rfl ?_
      refine db_RpuL (pc' := 42) (lv1 := [(0, .ref 669), (1, .long v1), (3, .long v3), (5, .long v5)]) rfl rfl rfl rfl rfl rfl (by decide) rfl rfl fun s1 => ?_
      refine db_Rgo (pc' := 46) (lv' := [(0, .ref 669), (1, .long v1), (3, .long v3), (5, .long v5)]) (st' := [.long v5, .long v3, .ref 669]) 3 rfl ?_
      refine db_RdivL (pc' := 47) (lv1 := [(0, .ref 669), (1, .long v1), (3, .long v3), (5, .long v5)]) rfl rfl rfl ?_
      refine db_RpuL (pc' := 50) (lv1 := [(0, .ref 669), (1, .long v1), (3, .long v3), (5, .long v5)]) rfl rfl rfl rfl rfl rfl (by decide) rfl rfl fun s2 => ?_
      refine db_Rgo (pc' := 51) (lv' := [(0, .ref 669), (1, .long v1), (3, .long v3), (5, .long v5)]) (st' := [.int (1 : Int32)]) 1 rfl ?_
      exact db_Rret (lv1 := [(0, .ref 669), (1, .long v1), (3, .long v3), (5, .long v5)]) rfl rfl rfl rfl
    refine db_Rgo (pc' := 20) (lv' := [(0, .ref 669), (1, .long v1), (3, .long v3), (5, .long v5), (7, .long v7)]) (st' := [.long v7, .long v5]) 2 rfl ?_
    refine db_RremL (pc' := 21) (lv1 := [(0, .ref 669), (1, .long v1), (3, .long v3), (5, .long v5), (7, .long v7)]) rfl rfl rfl ?_
    refine db_Rgo (pc' := 9) (lv' := [(7, .long (v5 - v5 / v7 * v7)), (5, .long v7), (9, .long (v5 - v5 / v7 * v7)), (0, .ref 669), (1, .long v1), (3, .long v3)]) (st' := []) 6 rfl ?_
    refine db_Rn (lv1 := [(0, .ref 669), (1, .long v1), (3, .long v3), (5, .long v7), (7, .long (v5 - v5 / v7 * v7))]) rfl rfl rfl ?_
    exact ih _ _ _ _ _
/-- DreamBookModel.fraction(JJ)Z -/
noncomputable def db_f364 (s : db_S) (v1 : Int64) (v3 : Int64) : Option (Bool × db_S) :=
  (db_f364_b9 db_FU s v1 v3 (if 0 < v1 then v1 else -v1) v3)
set_option maxRecDepth 100000 in
theorem db_f364_ok {X : db_X} {d : Nat} {s : db_S} {v1 : Int64} {v3 : Int64} : db_Rf X (d + 0) dbm_364 0 (lv_args 0 [.ref 669, .long v1, .long v3]) [] s db_zB (db_f364 s v1 v3) := by
  show db_Rf _ _ _ 0 [(0, .ref 669), (1, .long v1), (3, .long v3)] [] _ _ _
  unfold db_f364
  refine db_Rgo (pc' := 9) (lv' := [(7, .long v3), (5, .long (if 0 < v1 then v1 else -v1)), (0, .ref 669), (1, .long v1), (3, .long v3)]) (st' := []) 5 rfl ?_
  refine db_Rn (lv1 := [(0, .ref 669), (1, .long v1), (3, .long v3), (5, .long (if 0 < v1 then v1 else -v1)), (7, .long v3)]) rfl rfl rfl ?_
  exact db_f364_b9_ok db_FU _ _ _ _ _
noncomputable def db_f363_b65 : Nat → db_S → Int32 → Int32 → Int32 → Int64 → Int32 → Option (Bool × db_S)
  | 0, _, _, _, _, _, _ => none
  | n + 1, s, v1, v2, v3, v4, v6 =>
    ((db_rI s 674 (5 : Int32)).bind fun x1 => (cond (db_cnd .ge v6 x1) ((db_f282 s).bind fun q2 => (db_bd (db_f364 s ((Int32.toInt64 v1) * v4) (Int32.toInt64 q2)) fun q4 s5 => (some (q4, s5)))) ((db_rI s 674 ((143 : Int32) + v6)).bind fun x6 => (db_bd (db_f316 s v6 v2 v3) fun q7 s8 => (db_f363_b65 n s8 v1 v2 v3 (v4 + ((Int32.toInt64 x6) * (Int32.toInt64 q7))) (v6 + (1 : Int32)))))))
set_option maxRecDepth 100000 in
theorem db_f363_b65_ok {X : db_X} {d : Nat}  (n : Nat) : ∀ (s : db_S) (v1 : Int32) (v2 : Int32) (v3 : Int32) (v4 : Int64) (v6 : Int32), db_Rf X (d + 5) dbm_363 65 [(0, .ref 669), (1, .int v1), (2, .int v2), (3, .int v3), (4, .long v4), (6, .int v6)] [] s db_zB (db_f363_b65 n s v1 v2 v3 v4 v6) := by
  induction n with
  | zero => intros; exact db_Rnone
  | succ n ih =>
    intro s v1 v2 v3 v4 v6
    unfold db_f363_b65
    refine db_Rgo (pc' := 72) (lv' := [(0, .ref 669), (1, .int v1), (2, .int v2), (3, .int v3), (4, .long v4), (6, .int v6)]) (st' := [.int (5 : Int32), .ref 674, .int v6]) 4 rfl ?_
    refine db_RldI (pc' := 73) (lv1 := [(0, .ref 669), (1, .int v1), (2, .int v2), (3, .int v3), (4, .long v4), (6, .int v6)]) rfl rfl rfl fun x1 => ?_
    refine db_Ric (pc' := 76) (tg := 109) (lv1 := [(0, .ref 669), (1, .int v1), (2, .int v2), (3, .int v3), (4, .long v4), (6, .int v6)]) rfl rfl rfl rfl ?_ ?_
    · refine db_Rgo (pc' := 116) (lv' := [(0, .ref 669), (1, .int v1), (4, .long v4)]) (st' := [.ref 669, .long ((Int32.toInt64 v1) * v4), .ref 669]) 6 rfl ?_
      refine db_RcyI (mr' := dbm_282) (as := [.ref 669]) (rest := [.long ((Int32.toInt64 v1) * v4), .ref 669]) (pc' := 119) (lv1 := [(0, .ref 669), (1, .int v1), (4, .long v4)]) rfl rfl rfl rfl rfl (db_f282_ok) fun q2 => ?_
      refine db_Rgo (pc' := 120) (lv' := [(0, .ref 669), (1, .int v1), (4, .long v4)]) (st' := [.long (Int32.toInt64 q2), .long ((Int32.toInt64 v1) * v4), .ref 669]) 1 rfl ?_
      refine db_RcdB (mr' := dbm_364) (as := [.ref 669, .long ((Int32.toInt64 v1) * v4), .long (Int32.toInt64 q2)]) (rest := []) (pc' := 123) (lv1 := [(0, .ref 669), (1, .int v1), (4, .long v4)]) rfl rfl rfl rfl rfl (db_f364_ok) fun q4 s5 => ?_
      exact db_RretB (lv1 := [(0, .ref 669), (1, .int v1), (4, .long v4)]) rfl rfl rfl rfl
    refine db_Rgo (pc' := 88) (lv' := [(0, .ref 669), (1, .int v1), (2, .int v2), (3, .int v3), (4, .long v4), (6, .int v6)]) (st' := [.int ((143 : Int32) + v6), .ref 674, .long v4]) 6 rfl ?_
    refine db_RldI (pc' := 89) (lv1 := [(0, .ref 669), (1, .int v1), (2, .int v2), (3, .int v3), (4, .long v4), (6, .int v6)]) rfl rfl rfl fun x6 => ?_
    refine db_Rgo (pc' := 95) (lv' := [(0, .ref 669), (1, .int v1), (2, .int v2), (3, .int v3), (4, .long v4), (6, .int v6)]) (st' := [.int v3, .int v2, .int v6, .ref 669, .long (Int32.toInt64 x6), .long v4]) 5 rfl ?_
    refine db_RcdI (mr' := dbm_316) (as := [.ref 669, .int v6, .int v2, .int v3]) (rest := [.long (Int32.toInt64 x6), .long v4]) (pc' := 98) (lv1 := [(0, .ref 669), (1, .int v1), (2, .int v2), (3, .int v3), (4, .long v4), (6, .int v6)]) rfl rfl rfl rfl rfl (db_f316_ok) fun q7 s8 => ?_
    refine db_Rgo (pc' := 65) (lv' := [(6, .int (v6 + (1 : Int32))), (4, .long (v4 + ((Int32.toInt64 x6) * (Int32.toInt64 q7)))), (0, .ref 669), (1, .int v1), (2, .int v2), (3, .int v3)]) (st' := []) 6 rfl ?_
    refine db_Rn (lv1 := [(0, .ref 669), (1, .int v1), (2, .int v2), (3, .int v3), (4, .long (v4 + ((Int32.toInt64 x6) * (Int32.toInt64 q7)))), (6, .int (v6 + (1 : Int32)))]) rfl rfl rfl ?_
    exact ih _ _ _ _ _ _
/-- DreamBookModel.week(III)Z -/
noncomputable def db_f363 (s : db_S) (v1 : Int32) (v2 : Int32) (v3 : Int32) : Option (Bool × db_S) :=
  ((db_pI s 669 1 (0 : Int32)).bind fun s1 => ((db_pI s1 669 0 (0 : Int32)).bind fun s2 => ((db_f315 s2 v2 v3).bind fun q3 => (cond q3 ((db_f269 s2 (Int32.toInt64 v1) (1 : Int64) (6 : Int64)).bind fun q5 => (cond q5 ((db_rI s2 674 (5 : Int32)).bind fun x7 => (cond (db_cnd .ne x7 0) (db_f363_b65 db_FU s2 v1 v2 v3 (0 : Int64) (0 : Int32)) (db_bd (db_f211 s2 (8 : Int32)) fun q8 s9 => (some (q8, s9))))) (db_bd (db_f211 s2 (5 : Int32)) fun q10 s11 => (some (q10, s11))))) (db_bd (db_f211 s2 (2 : Int32)) fun q12 s13 => (some (q12, s13)))))))
set_option maxRecDepth 100000 in
theorem db_f363_ok {X : db_X} {d : Nat} {s : db_S} {v1 : Int32} {v2 : Int32} {v3 : Int32} : db_Rf X (d + 5) dbm_363 0 (lv_args 0 [.ref 669, .int v1, .int v2, .int v3]) [] s db_zB (db_f363 s v1 v2 v3) := by
  show db_Rf _ _ _ 0 [(0, .ref 669), (1, .int v1), (2, .int v2), (3, .int v3)] [] _ _ _
  unfold db_f363
  refine db_Rgo (pc' := 2) (lv' := [(0, .ref 669), (1, .int v1), (2, .int v2), (3, .int v3)]) (st' := [.int (0 : Int32), .ref 669]) 2 rfl ?_
  refine db_RpuI (pc' := 5) (lv1 := [(0, .ref 669), (1, .int v1), (2, .int v2), (3, .int v3)]) rfl rfl rfl rfl rfl rfl (by decide) rfl rfl fun s1 => ?_
  refine db_Rgo (pc' := 7) (lv' := [(0, .ref 669), (1, .int v1), (2, .int v2), (3, .int v3)]) (st' := [.int (0 : Int32), .ref 669]) 2 rfl ?_
  refine db_RpuI (pc' := 10) (lv1 := [(0, .ref 669), (1, .int v1), (2, .int v2), (3, .int v3)]) rfl rfl rfl rfl rfl rfl (by decide) rfl rfl fun s2 => ?_
  refine db_Rgo (pc' := 13) (lv' := [(0, .ref 669), (1, .int v1), (2, .int v2), (3, .int v3)]) (st' := [.int v3, .int v2, .ref 669]) 3 rfl ?_
  refine db_RcyB (mr' := dbm_315) (as := [.ref 669, .int v2, .int v3]) (rest := []) (pc' := 16) (lv1 := [(0, .ref 669), (1, .int v1), (2, .int v2), (3, .int v3)]) rfl rfl rfl rfl rfl (db_f315_ok) fun q3 => ?_
  refine db_RifBn (pc' := 19) (tg := 25) (lv1 := [(0, .ref 669), (1, .int v1), (2, .int v2), (3, .int v3)]) rfl rfl rfl rfl ?_ ?_
  · refine db_Rgo (pc' := 31) (lv' := [(0, .ref 669), (1, .int v1), (2, .int v2), (3, .int v3)]) (st' := [.long (6 : Int64), .long (1 : Int64), .long (Int32.toInt64 v1)]) 4 rfl ?_
    refine db_RcyB (mr' := dbm_269) (as := [.long (Int32.toInt64 v1), .long (1 : Int64), .long (6 : Int64)]) (rest := []) (pc' := 34) (lv1 := [(0, .ref 669), (1, .int v1), (2, .int v2), (3, .int v3)]) rfl rfl rfl rfl rfl (db_f269_ok) fun q5 => ?_
    refine db_RifBn (pc' := 37) (tg := 43) (lv1 := [(0, .ref 669), (1, .int v1), (2, .int v2), (3, .int v3)]) rfl rfl rfl rfl ?_ ?_
    · refine db_Rgo (pc' := 48) (lv' := [(0, .ref 669), (1, .int v1), (2, .int v2), (3, .int v3)]) (st' := [.int (5 : Int32), .ref 674]) 3 rfl ?_
      refine db_RldI (pc' := 49) (lv1 := [(0, .ref 669), (1, .int v1), (2, .int v2), (3, .int v3)]) rfl rfl rfl fun x7 => ?_
      refine db_Rif (pc' := 52) (tg := 59) (lv1 := [(0, .ref 669), (1, .int v1), (2, .int v2), (3, .int v3)]) rfl rfl rfl rfl ?_ ?_
      · refine db_Rgo (pc' := 65) (lv' := [(6, .int (0 : Int32)), (4, .long (0 : Int64)), (0, .ref 669), (1, .int v1), (2, .int v2), (3, .int v3)]) (st' := []) 4 rfl ?_
        refine db_Rn (lv1 := [(0, .ref 669), (1, .int v1), (2, .int v2), (3, .int v3), (4, .long (0 : Int64)), (6, .int (0 : Int32))]) rfl rfl rfl ?_
        exact db_f363_b65_ok db_FU _ _ _ _ _ _
      refine db_Rgo (pc' := 55) (lv' := [(0, .ref 669), (1, .int v1), (2, .int v2), (3, .int v3)]) (st' := [.int (8 : Int32), .ref 669]) 2 rfl ?_
      refine db_RcdB (mr' := dbm_211) (as := [.ref 669, .int (8 : Int32)]) (rest := []) (pc' := 58) (lv1 := [(0, .ref 669), (1, .int v1), (2, .int v2), (3, .int v3)]) rfl rfl rfl rfl rfl (db_f211_ok) fun q8 s9 => ?_
      exact db_RretB (lv1 := [(0, .ref 669), (1, .int v1), (2, .int v2), (3, .int v3)]) rfl rfl rfl rfl
    refine db_Rgo (pc' := 39) (lv' := [(0, .ref 669), (1, .int v1), (2, .int v2), (3, .int v3)]) (st' := [.int (5 : Int32), .ref 669]) 2 rfl ?_
    refine db_RcdB (mr' := dbm_211) (as := [.ref 669, .int (5 : Int32)]) (rest := []) (pc' := 42) (lv1 := [(0, .ref 669), (1, .int v1), (2, .int v2), (3, .int v3)]) rfl rfl rfl rfl rfl (db_f211_ok) fun q10 s11 => ?_
    exact db_RretB (lv1 := [(0, .ref 669), (1, .int v1), (2, .int v2), (3, .int v3)]) rfl rfl rfl rfl
  refine db_Rgo (pc' := 21) (lv' := [(0, .ref 669), (1, .int v1), (2, .int v2), (3, .int v3)]) (st' := [.int (2 : Int32), .ref 669]) 2 rfl ?_
  refine db_RcdB (mr' := dbm_211) (as := [.ref 669, .int (2 : Int32)]) (rest := []) (pc' := 24) (lv1 := [(0, .ref 669), (1, .int v1), (2, .int v2), (3, .int v3)]) rfl rfl rfl rfl rfl (db_f211_ok) fun q12 s13 => ?_
  exact db_RretB (lv1 := [(0, .ref 669), (1, .int v1), (2, .int v2), (3, .int v3)]) rfl rfl rfl rfl
noncomputable def db_f192_b38 (r192 : Int32 → Int32 → Int32 → Option Int64) (s : db_S) : Nat → Int32 → Int32 → Int32 → Int64 → Int64 → Int32 → Option Int64
  | 0, _, _, _, _, _, _ => none
  | n + 1, v1, v2, v3, v4, v6, v8 =>
    (cond (db_cnd .gt v8 v2) (some v4) ((db_rI s 283 v1).bind fun x1 => ((r192 (v1 + (1 : Int32)) (v2 - v8) (v3 - (v8 * x1))).bind fun q2 => ((db_rI s 61 v1).bind fun x4 => (if (Int32.toInt64 (v8 + (1 : Int32))) = 0 then none else (db_f192_b38 r192 s n v1 v2 v3 (v4 + (v6 * q2)) (((v6 * (Int32.toInt64 (v2 - v8))) * (Int32.toInt64 x4)) / (Int32.toInt64 (v8 + (1 : Int32)))) (v8 + (1 : Int32))))))))
set_option maxRecDepth 100000 in
theorem db_f192_b38_ok {X : db_X} {d : Nat} {s : db_S} {r192 : Int32 → Int32 → Int32 → Option Int64} (z192 : ∀ (v1 : Int32) (v2 : Int32) (v3 : Int32) , db_Rf X (d + 0) dbm_192 0 (lv_args 0 [.ref 282, .int v1, .int v2, .int v3]) [] s (db_yL s) (r192 v1 v2 v3)) (n : Nat) : ∀ (v1 : Int32) (v2 : Int32) (v3 : Int32) (v4 : Int64) (v6 : Int64) (v8 : Int32), db_Rf X (d + 1) dbm_192 38 [(0, .ref 282), (1, .int v1), (2, .int v2), (3, .int v3), (4, .long v4), (6, .long v6), (8, .int v8)] [] s (db_yL s) (db_f192_b38 r192 s n v1 v2 v3 v4 v6 v8) := by
  induction n with
  | zero => intros; exact db_Rnone
  | succ n ih =>
    intro v1 v2 v3 v4 v6 v8
    unfold db_f192_b38
    refine db_Rgo (pc' := 41) (lv' := [(0, .ref 282), (1, .int v1), (2, .int v2), (3, .int v3), (4, .long v4), (6, .long v6), (8, .int v8)]) (st' := [.int v2, .int v8]) 2 rfl ?_
    refine db_Ric (pc' := 44) (tg := 107) (lv1 := [(0, .ref 282), (1, .int v1), (2, .int v2), (3, .int v3), (4, .long v4), (6, .long v6), (8, .int v8)]) rfl rfl rfl rfl ?_ ?_
    · refine db_Rgo (pc' := 109) (lv' := [(4, .long v4)]) (st' := [.long v4]) 1 rfl ?_
      exact db_Rret (lv1 := [(4, .long v4)]) rfl rfl rfl rfl
    refine db_Rgo (pc' := 64) (lv' := [(0, .ref 282), (1, .int v1), (2, .int v2), (3, .int v3), (4, .long v4), (6, .long v6), (8, .int v8)]) (st' := [.int v1, .ref 283, .int v8, .int v3, .int (v2 - v8), .int (v1 + (1 : Int32)), .ref 282, .long v6, .long v4]) 14 rfl ?_
    refine db_RldI (pc' := 65) (lv1 := [(0, .ref 282), (1, .int v1), (2, .int v2), (3, .int v3), (4, .long v4), (6, .long v6), (8, .int v8)]) rfl rfl rfl fun x1 => ?_
    refine db_Rgo (pc' := 67) (lv' := [(0, .ref 282), (1, .int v1), (2, .int v2), (3, .int v3), (4, .long v4), (6, .long v6), (8, .int v8)]) (st' := [.int (v3 - (v8 * x1)), .int (v2 - v8), .int (v1 + (1 : Int32)), .ref 282, .long v6, .long v4]) 2 rfl ?_
    refine db_RcyL (mr' := dbm_192) (as := [.ref 282, .int (v1 + (1 : Int32)), .int (v2 - v8), .int (v3 - (v8 * x1))]) (rest := [.long v6, .long v4]) (pc' := 70) (lv1 := [(0, .ref 282), (1, .int v1), (2, .int v2), (3, .int v3), (4, .long v4), (6, .long v6), (8, .int v8)]) rfl rfl rfl rfl rfl (z192 _ _ _) fun q2 => ?_
    refine db_Rgo (pc' := 90) (lv' := [(4, .long (v4 + (v6 * q2))), (0, .ref 282), (1, .int v1), (2, .int v2), (3, .int v3), (6, .long v6), (8, .int v8)]) (st' := [.int v1, .ref 61, .long (v6 * (Int32.toInt64 (v2 - v8)))]) 13 rfl ?_
    refine db_RldI (pc' := 91) (lv1 := [(4, .long (v4 + (v6 * q2))), (0, .ref 282), (1, .int v1), (2, .int v2), (3, .int v3), (6, .long v6), (8, .int v8)]) rfl rfl rfl fun x4 => ?_
    refine db_Rgo (pc' := 98) (lv' := [(4, .long (v4 + (v6 * q2))), (0, .ref 282), (1, .int v1), (2, .int v2), (3, .int v3), (6, .long v6), (8, .int v8)]) (st' := [.long (Int32.toInt64 (v8 + (1 : Int32))), .long ((v6 * (Int32.toInt64 (v2 - v8))) * (Int32.toInt64 x4))]) 6 rfl ?_
    refine db_RdivL (pc' := 99) (lv1 := [(4, .long (v4 + (v6 * q2))), (0, .ref 282), (1, .int v1), (2, .int v2), (3, .int v3), (6, .long v6), (8, .int v8)]) rfl rfl rfl ?_
    refine db_Rgo (pc' := 38) (lv' := [(8, .int (v8 + (1 : Int32))), (6, .long (((v6 * (Int32.toInt64 (v2 - v8))) * (Int32.toInt64 x4)) / (Int32.toInt64 (v8 + (1 : Int32))))), (4, .long (v4 + (v6 * q2))), (0, .ref 282), (1, .int v1), (2, .int v2), (3, .int v3)]) (st' := []) 3 rfl ?_
    refine db_Rn (lv1 := [(0, .ref 282), (1, .int v1), (2, .int v2), (3, .int v3), (4, .long (v4 + (v6 * q2))), (6, .long (((v6 * (Int32.toInt64 (v2 - v8))) * (Int32.toInt64 x4)) / (Int32.toInt64 (v8 + (1 : Int32))))), (8, .int (v8 + (1 : Int32)))]) rfl rfl rfl ?_
    exact ih _ _ _ _ _ _
/-- DreamBook$Odds.countWays(III)J -/
noncomputable def db_f192_e (r192 : Int32 → Int32 → Int32 → Option Int64) (s : db_S) (v1 : Int32) (v2 : Int32) (v3 : Int32) : Option Int64 :=
  (cond (db_cnd .ne v2 0) ((db_rI s 21 (5 : Int32)).bind fun x1 => (cond (db_cnd .lt v1 x1) (db_f192_b38 r192 s db_FU v1 v2 v3 (0 : Int64) (1 : Int64) (0 : Int32)) (some (0 : Int64)))) (cond (db_cnd .gt v3 0) (some (0 : Int64)) (some (1 : Int64))))
set_option maxRecDepth 100000 in
theorem db_f192_e_ok {X : db_X} {d : Nat} {s : db_S} {v1 : Int32} {v2 : Int32} {v3 : Int32} {r192 : Int32 → Int32 → Int32 → Option Int64} (z192 : ∀ (v1 : Int32) (v2 : Int32) (v3 : Int32) , db_Rf X (d + 0) dbm_192 0 (lv_args 0 [.ref 282, .int v1, .int v2, .int v3]) [] s (db_yL s) (r192 v1 v2 v3)) : db_Rf X (d + 1) dbm_192 0 (lv_args 0 [.ref 282, .int v1, .int v2, .int v3]) [] s (db_yL s) (db_f192_e r192 s v1 v2 v3) := by
  show db_Rf _ _ _ 0 [(0, .ref 282), (1, .int v1), (2, .int v2), (3, .int v3)] [] _ _ _
  unfold db_f192_e
  refine db_Rgo (pc' := 1) (lv' := [(0, .ref 282), (1, .int v1), (2, .int v2), (3, .int v3)]) (st' := [.int v2]) 1 rfl ?_
  refine db_Rif (pc' := 4) (tg := 14) (lv1 := [(0, .ref 282), (1, .int v1), (2, .int v2), (3, .int v3)]) rfl rfl rfl rfl ?_ ?_
  · refine db_Rgo (pc' := 23) (lv' := [(0, .ref 282), (1, .int v1), (2, .int v2), (3, .int v3)]) (st' := [.int (5 : Int32), .ref 21, .int v1]) 5 rfl ?_
    refine db_RldI (pc' := 24) (lv1 := [(0, .ref 282), (1, .int v1), (2, .int v2), (3, .int v3)]) rfl rfl rfl fun x1 => ?_
    refine db_Ric (pc' := 27) (tg := 29) (lv1 := [(0, .ref 282), (1, .int v1), (2, .int v2), (3, .int v3)]) rfl rfl rfl rfl ?_ ?_
    · refine db_Rgo (pc' := 38) (lv' := [(8, .int (0 : Int32)), (6, .long (1 : Int64)), (4, .long (0 : Int64)), (0, .ref 282), (1, .int v1), (2, .int v2), (3, .int v3)]) (st' := []) 6 rfl ?_
      refine db_Rn (lv1 := [(0, .ref 282), (1, .int v1), (2, .int v2), (3, .int v3), (4, .long (0 : Int64)), (6, .long (1 : Int64)), (8, .int (0 : Int32))]) rfl rfl rfl ?_
      exact db_f192_b38_ok z192 db_FU _ _ _ _ _ _
    refine db_Rgo (pc' := 28) (lv' := [(0, .ref 282), (1, .int v1), (2, .int v2), (3, .int v3)]) (st' := [.long (0 : Int64)]) 1 rfl ?_
    exact db_Rret (lv1 := [(0, .ref 282), (1, .int v1), (2, .int v2), (3, .int v3)]) rfl rfl rfl rfl
  refine db_Rgo (pc' := 5) (lv' := [(0, .ref 282), (1, .int v1), (2, .int v2), (3, .int v3)]) (st' := [.int v3]) 1 rfl ?_
  refine db_Rif (pc' := 8) (tg := 12) (lv1 := [(0, .ref 282), (1, .int v1), (2, .int v2), (3, .int v3)]) rfl rfl rfl rfl ?_ ?_
  · refine db_Rgo (pc' := 13) (lv' := []) (st' := [.long (0 : Int64)]) 1 rfl ?_
    exact db_Rret (lv1 := []) rfl rfl rfl rfl
  refine db_Rgo (pc' := 13) (lv' := [(0, .ref 282), (1, .int v1), (2, .int v2), (3, .int v3)]) (st' := [.long (1 : Int64)]) 2 rfl ?_
  exact db_Rret (lv1 := []) rfl rfl rfl rfl
noncomputable def db_f192 (s : db_S) : Nat → Int32 → Int32 → Int32 → Option Int64
  | 0, _, _, _ => none
  | n + 1, v1, v2, v3 => db_f192_e (db_f192 s n) s v1 v2 v3
set_option maxRecDepth 100000 in
theorem db_f192_ok {X : db_X} {s : db_S} : ∀ (n e : Nat), 1 + 1 * n ≤ e → ∀ (v1 : Int32) (v2 : Int32) (v3 : Int32) , db_Rf X e dbm_192 0 (lv_args 0 [.ref 282, .int v1, .int v2, .int v3]) [] s (db_yL s) (db_f192 s n v1 v2 v3)
  | 0, _, _ => by
    intros
    exact db_Rnone
  | n + 1, e, he => by
    intro v1 v2 v3
    obtain ⟨d, rfl⟩ : ∃ d, e = d + 1 := ⟨e - 1, by omega⟩
    exact db_f192_e_ok (d := d) (fun _ _ _  => db_f192_ok n (d + 0) (by omega) _ _ _)
noncomputable def db_f191_b34 : Nat → db_S → Int32 → Int32 → Int32 → Int32 → Int64 → Int32 → Option db_S
  | 0, _, _, _, _, _, _, _ => none
  | n + 1, s, v1, v2, v3, v4, v5, v7 =>
    ((db_rI s 21 (5 : Int32)).bind fun x1 => (cond (db_cnd .ge v7 x1) ((db_f192 s db_FR (0 : Int32) v1 v2).bind fun q2 => ((db_f189 s q2 v5).bind fun s5 => (some s5))) (db_bd (db_f127 s v7 v3 v4) fun q6 s7 => ((db_wI s7 283 v7 q6).bind fun s8 => (db_f191_b34 n s8 v1 v2 v3 v4 v5 (v7 + (1 : Int32)))))))
set_option maxRecDepth 100000 in
theorem db_f191_b34_ok {X : db_X} {d : Nat}  (n : Nat) : ∀ (s : db_S) (v1 : Int32) (v2 : Int32) (v3 : Int32) (v4 : Int32) (v5 : Int64) (v7 : Int32), db_Rf X (d + 14) dbm_191 34 [(0, .ref 282), (1, .int v1), (2, .int v2), (3, .int v3), (4, .int v4), (5, .long v5), (7, .int v7)] [] s db_zV (db_f191_b34 n s v1 v2 v3 v4 v5 v7) := by
  induction n with
  | zero => intros; exact db_Rnone
  | succ n ih =>
    intro s v1 v2 v3 v4 v5 v7
    unfold db_f191_b34
    refine db_Rgo (pc' := 44) (lv' := [(0, .ref 282), (1, .int v1), (2, .int v2), (3, .int v3), (4, .int v4), (5, .long v5), (7, .int v7)]) (st' := [.int (5 : Int32), .ref 21, .int v7]) 5 rfl ?_
    refine db_RldI (pc' := 45) (lv1 := [(0, .ref 282), (1, .int v1), (2, .int v2), (3, .int v3), (4, .int v4), (5, .long v5), (7, .int v7)]) rfl rfl rfl fun x1 => ?_
    refine db_Ric (pc' := 48) (tg := 73) (lv1 := [(0, .ref 282), (1, .int v1), (2, .int v2), (3, .int v3), (4, .int v4), (5, .long v5), (7, .int v7)]) rfl rfl rfl rfl ?_ ?_
    · refine db_Rgo (pc' := 78) (lv' := [(0, .ref 282), (1, .int v1), (2, .int v2), (5, .long v5)]) (st' := [.int v2, .int v1, .int (0 : Int32), .ref 282, .ref 282]) 5 rfl ?_
      refine db_RcyL (d := d + 13) (mr' := dbm_192) (as := [.ref 282, .int (0 : Int32), .int v1, .int v2]) (rest := [.ref 282]) (pc' := 81) (lv1 := [(0, .ref 282), (1, .int v1), (2, .int v2), (5, .long v5)]) rfl rfl rfl rfl rfl (db_f192_ok db_FR _ (by unfold db_FR; omega) _ _ _) fun q2 => ?_
      refine db_Rgo (pc' := 83) (lv' := [(0, .ref 282), (1, .int v1), (2, .int v2), (5, .long v5)]) (st' := [.long v5, .long q2, .ref 282]) 1 rfl ?_
      refine db_RcV (mr' := dbm_189) (as := [.ref 282, .long q2, .long v5]) (rest := []) (pc' := 86) (lv1 := [(0, .ref 282), (1, .int v1), (2, .int v2), (5, .long v5)]) rfl rfl rfl rfl rfl (db_f189_ok) fun s5 => ?_
      exact db_Rret (lv1 := [(0, .ref 282), (1, .int v1), (2, .int v2), (5, .long v5)]) rfl rfl rfl rfl
    refine db_Rgo (pc' := 63) (lv' := [(0, .ref 282), (1, .int v1), (2, .int v2), (3, .int v3), (4, .int v4), (5, .long v5), (7, .int v7)]) (st' := [.int v4, .int v3, .int v7, .ref 271, .int v7, .ref 283]) 8 rfl ?_
    refine db_RcdI (mr' := dbm_127) (as := [.ref 271, .int v7, .int v3, .int v4]) (rest := [.int v7, .ref 283]) (pc' := 66) (lv1 := [(0, .ref 282), (1, .int v1), (2, .int v2), (3, .int v3), (4, .int v4), (5, .long v5), (7, .int v7)]) rfl rfl rfl rfl rfl (db_f127_ok) fun q6 s7 => ?_
    refine db_RstI (pc' := 67) (lv1 := [(0, .ref 282), (1, .int v1), (2, .int v2), (3, .int v3), (4, .int v4), (5, .long v5), (7, .int v7)]) rfl rfl rfl fun s8 => ?_
    refine db_Rgo (pc' := 34) (lv' := [(7, .int (v7 + (1 : Int32))), (0, .ref 282), (1, .int v1), (2, .int v2), (3, .int v3), (4, .int v4), (5, .long v5)]) (st' := []) 2 rfl ?_
    refine db_Rn (lv1 := [(0, .ref 282), (1, .int v1), (2, .int v2), (3, .int v3), (4, .int v4), (5, .long v5), (7, .int (v7 + (1 : Int32)))]) rfl rfl rfl ?_
    exact ih _ _ _ _ _ _ _
noncomputable def db_f191_b6 : Nat → db_S → Int32 → Int32 → Int32 → Int32 → Int64 → Int32 → Option db_S
  | 0, _, _, _, _, _, _, _ => none
  | n + 1, s, v1, v2, v3, v4, v5, v7 =>
    (cond (db_cnd .ge v7 v1) (db_f191_b34 db_FU s v1 v2 v3 v4 v5 (0 : Int32)) ((db_f100_20 s).bind fun q1 => (db_f191_b6 n s v1 v2 v3 v4 (v5 * (Int32.toInt64 q1)) (v7 + (1 : Int32)))))
set_option maxRecDepth 100000 in
theorem db_f191_b6_ok {X : db_X} {d : Nat}  (n : Nat) : ∀ (s : db_S) (v1 : Int32) (v2 : Int32) (v3 : Int32) (v4 : Int32) (v5 : Int64) (v7 : Int32), db_Rf X (d + 14) dbm_191 6 [(0, .ref 282), (1, .int v1), (2, .int v2), (3, .int v3), (4, .int v4), (5, .long v5), (7, .int v7)] [] s db_zV (db_f191_b6 n s v1 v2 v3 v4 v5 v7) := by
  induction n with
  | zero => intros; exact db_Rnone
  | succ n ih =>
    intro s v1 v2 v3 v4 v5 v7
    unfold db_f191_b6
    refine db_Rgo (pc' := 9) (lv' := [(0, .ref 282), (1, .int v1), (2, .int v2), (3, .int v3), (4, .int v4), (5, .long v5), (7, .int v7)]) (st' := [.int v1, .int v7]) 2 rfl ?_
    refine db_Ric (pc' := 12) (tg := 31) (lv1 := [(0, .ref 282), (1, .int v1), (2, .int v2), (3, .int v3), (4, .int v4), (5, .long v5), (7, .int v7)]) rfl rfl rfl rfl ?_ ?_
    · refine db_Rgo (pc' := 34) (lv' := [(7, .int (0 : Int32)), (0, .ref 282), (1, .int v1), (2, .int v2), (3, .int v3), (4, .int v4), (5, .long v5)]) (st' := []) 2 rfl ?_
      refine db_Rn (lv1 := [(0, .ref 282), (1, .int v1), (2, .int v2), (3, .int v3), (4, .int v4), (5, .long v5), (7, .int (0 : Int32))]) rfl rfl rfl ?_
      exact db_f191_b34_ok db_FU _ _ _ _ _ _ _
    refine db_Rgo (pc' := 18) (lv' := [(0, .ref 282), (1, .int v1), (2, .int v2), (3, .int v3), (4, .int v4), (5, .long v5), (7, .int v7)]) (st' := [.ref 20, .long v5]) 3 rfl ?_
    refine db_RcyI (mr' := dbm_100) (as := [.ref 20]) (rest := [.long v5]) (pc' := 21) (lv1 := [(0, .ref 282), (1, .int v1), (2, .int v2), (3, .int v3), (4, .int v4), (5, .long v5), (7, .int v7)]) rfl rfl rfl rfl rfl (db_f100_20_ok) fun q1 => ?_
    refine db_Rgo (pc' := 6) (lv' := [(7, .int (v7 + (1 : Int32))), (5, .long (v5 * (Int32.toInt64 q1))), (0, .ref 282), (1, .int v1), (2, .int v2), (3, .int v3), (4, .int v4)]) (st' := []) 5 rfl ?_
    refine db_Rn (lv1 := [(0, .ref 282), (1, .int v1), (2, .int v2), (3, .int v3), (4, .int v4), (5, .long (v5 * (Int32.toInt64 q1))), (7, .int (v7 + (1 : Int32)))]) rfl rfl rfl ?_
    exact ih _ _ _ _ _ _ _
/-- DreamBook$Odds.tellOdds(IIII)V -/
noncomputable def db_f191 (s : db_S) (v1 : Int32) (v2 : Int32) (v3 : Int32) (v4 : Int32) : Option db_S :=
  (db_f191_b6 db_FU s v1 v2 v3 v4 (1 : Int64) (0 : Int32))
set_option maxRecDepth 100000 in
theorem db_f191_ok {X : db_X} {d : Nat} {s : db_S} {v1 : Int32} {v2 : Int32} {v3 : Int32} {v4 : Int32} : db_Rf X (d + 14) dbm_191 0 (lv_args 0 [.ref 282, .int v1, .int v2, .int v3, .int v4]) [] s db_zV (db_f191 s v1 v2 v3 v4) := by
  show db_Rf _ _ _ 0 [(0, .ref 282), (1, .int v1), (2, .int v2), (3, .int v3), (4, .int v4)] [] _ _ _
  unfold db_f191
  refine db_Rgo (pc' := 6) (lv' := [(7, .int (0 : Int32)), (5, .long (1 : Int64)), (0, .ref 282), (1, .int v1), (2, .int v2), (3, .int v3), (4, .int v4)]) (st' := []) 4 rfl ?_
  refine db_Rn (lv1 := [(0, .ref 282), (1, .int v1), (2, .int v2), (3, .int v3), (4, .int v4), (5, .long (1 : Int64)), (7, .int (0 : Int32))]) rfl rfl rfl ?_
  exact db_f191_b6_ok db_FU _ _ _ _ _ _ _
/-- DreamBook.atLeast(IIII)Z -/
noncomputable def db_f190 (s : db_S) (v1 : Int32) (v2 : Int32) (v3 : Int32) (v4 : Int32) : Option (Bool × db_S) :=
  ((db_f187 s v1 v2 v3 v4).bind fun q1 => (cond (db_cnd .eq q1 0) ((db_f191 s v1 v2 v3 v4).bind fun s4 => (db_bd (db_f31 s4) fun q5 s6 => (some (q5, s6)))) (db_bd (db_f28 s q1) fun q7 s8 => (some (q7, s8)))))
set_option maxRecDepth 100000 in
theorem db_f190_ok {X : db_X} {d : Nat} {s : db_S} {v1 : Int32} {v2 : Int32} {v3 : Int32} {v4 : Int32} : db_Rf X (d + 15) dbm_190 0 (lv_args 0 [.ref 4, .int v1, .int v2, .int v3, .int v4]) [] s db_zB (db_f190 s v1 v2 v3 v4) := by
  show db_Rf _ _ _ 0 [(0, .ref 4), (1, .int v1), (2, .int v2), (3, .int v3), (4, .int v4)] [] _ _ _
  unfold db_f190
  refine db_Rgo (pc' := 6) (lv' := [(0, .ref 4), (1, .int v1), (2, .int v2), (3, .int v3), (4, .int v4)]) (st' := [.int v4, .int v3, .int v2, .int v1, .ref 4]) 5 rfl ?_
  refine db_RcyI (mr' := dbm_187) (as := [.ref 4, .int v1, .int v2, .int v3, .int v4]) (rest := []) (pc' := 9) (lv1 := [(0, .ref 4), (1, .int v1), (2, .int v2), (3, .int v3), (4, .int v4)]) rfl rfl rfl rfl rfl (db_f187_ok) fun q1 => ?_
  refine db_Rgo (pc' := 13) (lv' := [(5, .int q1), (0, .ref 4), (1, .int v1), (2, .int v2), (3, .int v3), (4, .int v4)]) (st' := [.int q1]) 2 rfl ?_
  refine db_Rif (pc' := 16) (tg := 23) (lv1 := [(5, .int q1), (0, .ref 4), (1, .int v1), (2, .int v2), (3, .int v3), (4, .int v4)]) rfl rfl rfl rfl ?_ ?_
  · refine db_Rgo (pc' := 32) (lv' := [(0, .ref 4), (1, .int v1), (2, .int v2), (3, .int v3), (4, .int v4)]) (st' := [.int v4, .int v3, .int v2, .int v1, .ref 282]) 6 rfl ?_
    refine db_RcV (mr' := dbm_191) (as := [.ref 282, .int v1, .int v2, .int v3, .int v4]) (rest := []) (pc' := 35) (lv1 := [(0, .ref 4), (1, .int v1), (2, .int v2), (3, .int v3), (4, .int v4)]) rfl rfl rfl rfl rfl (db_f191_ok) fun s4 => ?_
    refine db_Rgo (pc' := 36) (lv' := [(0, .ref 4), (1, .int v1), (2, .int v2), (3, .int v3), (4, .int v4)]) (st' := [.ref 4]) 1 rfl ?_
    refine db_RcdB (mr' := dbm_31) (as := [.ref 4]) (rest := []) (pc' := 39) (lv1 := [(0, .ref 4), (1, .int v1), (2, .int v2), (3, .int v3), (4, .int v4)]) rfl rfl rfl rfl rfl (db_f31_ok) fun q5 s6 => ?_
    exact db_RretB (lv1 := [(0, .ref 4), (1, .int v1), (2, .int v2), (3, .int v3), (4, .int v4)]) rfl rfl rfl rfl
  refine db_Rgo (pc' := 19) (lv' := [(5, .int q1), (0, .ref 4), (1, .int v1), (2, .int v2), (3, .int v3), (4, .int v4)]) (st' := [.int q1, .ref 4]) 2 rfl ?_
  refine db_RcdB (mr' := dbm_28) (as := [.ref 4, .int q1]) (rest := []) (pc' := 22) (lv1 := [(5, .int q1), (0, .ref 4), (1, .int v1), (2, .int v2), (3, .int v3), (4, .int v4)]) rfl rfl rfl rfl rfl (db_f28_ok) fun q7 s8 => ?_
  exact db_RretB (lv1 := [(5, .int q1), (0, .ref 4), (1, .int v1), (2, .int v2), (3, .int v3), (4, .int v4)]) rfl rfl rfl rfl
noncomputable def db_f365_b52 (s : db_S) : Option (Bool × db_S) :=
  (db_bd (db_f211 s (5 : Int32)) fun q1 s2 => (some (q1, s2)))
set_option maxRecDepth 100000 in
theorem db_f365_b52_ok {X : db_X} {d : Nat}  {s : db_S} : db_Rf X (d + 5) dbm_365 52 [(0, .ref 669)] [] s db_zB (db_f365_b52 s ) := by
  unfold db_f365_b52
  refine db_Rgo (pc' := 54) (lv' := [(0, .ref 669)]) (st' := [.int (5 : Int32), .ref 669]) 2 rfl ?_
  refine db_RcdB (mr' := dbm_211) (as := [.ref 669, .int (5 : Int32)]) (rest := []) (pc' := 57) (lv1 := [(0, .ref 669)]) rfl rfl rfl rfl rfl (db_f211_ok) fun q1 s2 => ?_
  exact db_RretB (lv1 := [(0, .ref 669)]) rfl rfl rfl rfl
noncomputable def db_f365_b106 (h77 : db_S → Int32 → Int32 → Int32 → Int32 → Int32 → Option (Bool × db_S)) (s : db_S) (v1 : Int32) (v2 : Int32) (v3 : Int32) (v4 : Int32) (v5 : Int32) (t1 : Int32) (t2 : Int64) : Option (Bool × db_S) :=
  ((db_wL s 681 t1 t2).bind fun s1 => (h77 s1 v1 v2 v3 v4 (v5 + (1 : Int32))))
set_option maxRecDepth 100000 in
theorem db_f365_b106_ok {X : db_X} {d : Nat}  {h77 : db_S → Int32 → Int32 → Int32 → Int32 → Int32 → Option (Bool × db_S)} {s : db_S} {v1 : Int32} {v2 : Int32} {v3 : Int32} {v4 : Int32} {v5 : Int32} {t1 : Int32} {t2 : Int64} (zh77 : ∀ (s' : db_S) (v1 : Int32) (v2 : Int32) (v3 : Int32) (v4 : Int32) (v5 : Int32) , db_Rf X (d + 5) dbm_365 77 [(0, .ref 669), (1, .int v1), (2, .int v2), (3, .int v3), (4, .int v4), (5, .int v5)] [] s' db_zB (h77 s' v1 v2 v3 v4 v5)) : db_Rf X (d + 5) dbm_365 106 [(0, .ref 669), (1, .int v1), (2, .int v2), (3, .int v3), (4, .int v4), (5, .int v5)] [.long t2, .int t1, .ref 681] s db_zB (db_f365_b106 h77 s v1 v2 v3 v4 v5 t1 t2) := by
  unfold db_f365_b106
  refine db_RstL (pc' := 107) (lv1 := [(0, .ref 669), (1, .int v1), (2, .int v2), (3, .int v3), (4, .int v4), (5, .int v5)]) rfl rfl rfl fun s1 => ?_
  refine db_Rgo (pc' := 77) (lv' := [(5, .int (v5 + (1 : Int32))), (0, .ref 669), (1, .int v1), (2, .int v2), (3, .int v3), (4, .int v4)]) (st' := []) 2 rfl ?_
  refine db_Rn (lv1 := [(0, .ref 669), (1, .int v1), (2, .int v2), (3, .int v3), (4, .int v4), (5, .int (v5 + (1 : Int32)))]) rfl rfl rfl ?_
  exact zh77 _ _ _ _ _ _
noncomputable def db_f365_b245 (h116 : db_S → Int32 → Int32 → Int32 → Int32 → Int32 → Option (Bool × db_S)) (h152 : db_S → Int32 → Int32 → Int32 → Int32 → Int32 → Int32 → Option (Bool × db_S)) (s : db_S) (v1 : Int32) (v2 : Int32) (v3 : Int32) (v4 : Int32) (v5 : Int32) (v6 : Int32) : Option (Bool × db_S) :=
  (h152 s v1 v2 v3 v4 v5 (v6 + (1 : Int32)))
set_option maxRecDepth 100000 in
theorem db_f365_b245_ok {X : db_X} {d : Nat}  {h116 : db_S → Int32 → Int32 → Int32 → Int32 → Int32 → Option (Bool × db_S)} {h152 : db_S → Int32 → Int32 → Int32 → Int32 → Int32 → Int32 → Option (Bool × db_S)} {s : db_S} {v1 : Int32} {v2 : Int32} {v3 : Int32} {v4 : Int32} {v5 : Int32} {v6 : Int32} (zh116 : ∀ (s' : db_S) (v1 : Int32) (v2 : Int32) (v3 : Int32) (v4 : Int32) (v5 : Int32) , db_Rf X (d + 5) dbm_365 116 [(0, .ref 669), (1, .int v1), (2, .int v2), (3, .int v3), (4, .int v4), (5, .int v5)] [] s' db_zB (h116 s' v1 v2 v3 v4 v5)) (zh152 : ∀ (s' : db_S) (v1 : Int32) (v2 : Int32) (v3 : Int32) (v4 : Int32) (v5 : Int32) (v6 : Int32) , db_Rf X (d + 5) dbm_365 152 [(0, .ref 669), (1, .int v1), (2, .int v2), (3, .int v3), (4, .int v4), (5, .int v5), (6, .int v6)] [] s' db_zB (h152 s' v1 v2 v3 v4 v5 v6)) : db_Rf X (d + 5) dbm_365 245 [(0, .ref 669), (1, .int v1), (2, .int v2), (3, .int v3), (4, .int v4), (5, .int v5), (6, .int v6)] [] s db_zB (db_f365_b245 h116 h152 s v1 v2 v3 v4 v5 v6) := by
  unfold db_f365_b245
  refine db_Rgo (pc' := 152) (lv' := [(6, .int (v6 + (1 : Int32))), (0, .ref 669), (1, .int v1), (2, .int v2), (3, .int v3), (4, .int v4), (5, .int v5)]) (st' := []) 2 rfl ?_
  refine db_Rn (lv1 := [(0, .ref 669), (1, .int v1), (2, .int v2), (3, .int v3), (4, .int v4), (5, .int v5), (6, .int (v6 + (1 : Int32)))]) rfl rfl rfl ?_
  exact zh152 _ _ _ _ _ _ _
noncomputable def db_f365_b183 (h116 : db_S → Int32 → Int32 → Int32 → Int32 → Int32 → Option (Bool × db_S)) (h152 : db_S → Int32 → Int32 → Int32 → Int32 → Int32 → Int32 → Option (Bool × db_S)) : Nat → db_S → Int32 → Int32 → Int32 → Int32 → Int32 → Int32 → Int32 → Int32 → Option (Bool × db_S)
  | 0, _, _, _, _, _, _, _, _, _ => none
  | n + 1, s, v1, v2, v3, v4, v5, v6, v7, v8 =>
    (cond (db_cnd .ge v8 (7201 : Int32)) (db_f365_b245 h116 h152 s v1 v2 v3 v4 v5 v6) (cond (db_cnd .ge (v8 + v7) (7201 : Int32)) (db_f365_b245 h116 h152 s v1 v2 v3 v4 v5 v6) ((db_rL s 682 (v8 + v7)).bind fun x1 => ((db_rL s 681 v8).bind fun x2 => ((db_rI s 674 ((143 : Int32) + v6)).bind fun x3 => ((db_wL s 682 (v8 + v7) (x1 + (x2 * (Int32.toInt64 x3)))).bind fun s4 => (db_f365_b183 h116 h152 n s4 v1 v2 v3 v4 v5 v6 v7 (v8 + (1 : Int32)))))))))
set_option maxRecDepth 100000 in
theorem db_f365_b183_ok {X : db_X} {d : Nat}  {h116 : db_S → Int32 → Int32 → Int32 → Int32 → Int32 → Option (Bool × db_S)} {h152 : db_S → Int32 → Int32 → Int32 → Int32 → Int32 → Int32 → Option (Bool × db_S)} (zh116 : ∀ (s' : db_S) (v1 : Int32) (v2 : Int32) (v3 : Int32) (v4 : Int32) (v5 : Int32) , db_Rf X (d + 5) dbm_365 116 [(0, .ref 669), (1, .int v1), (2, .int v2), (3, .int v3), (4, .int v4), (5, .int v5)] [] s' db_zB (h116 s' v1 v2 v3 v4 v5)) (zh152 : ∀ (s' : db_S) (v1 : Int32) (v2 : Int32) (v3 : Int32) (v4 : Int32) (v5 : Int32) (v6 : Int32) , db_Rf X (d + 5) dbm_365 152 [(0, .ref 669), (1, .int v1), (2, .int v2), (3, .int v3), (4, .int v4), (5, .int v5), (6, .int v6)] [] s' db_zB (h152 s' v1 v2 v3 v4 v5 v6)) (n : Nat) : ∀ (s : db_S) (v1 : Int32) (v2 : Int32) (v3 : Int32) (v4 : Int32) (v5 : Int32) (v6 : Int32) (v7 : Int32) (v8 : Int32), db_Rf X (d + 5) dbm_365 183 [(0, .ref 669), (1, .int v1), (2, .int v2), (3, .int v3), (4, .int v4), (5, .int v5), (6, .int v6), (7, .int v7), (8, .int v8)] [] s db_zB (db_f365_b183 h116 h152 n s v1 v2 v3 v4 v5 v6 v7 v8) := by
  induction n with
  | zero => intros; exact db_Rnone
  | succ n ih =>
    intro s v1 v2 v3 v4 v5 v6 v7 v8
    unfold db_f365_b183
    refine db_Rgo (pc' := 189) (lv' := [(0, .ref 669), (1, .int v1), (2, .int v2), (3, .int v3), (4, .int v4), (5, .int v5), (6, .int v6), (7, .int v7), (8, .int v8)]) (st' := [.ref 681, .int v8]) 3 rfl ?_
    refine db_RlenK (n := (7201 : Int32)) (pc' := 190) (lv1 := [(0, .ref 669), (1, .int v1), (2, .int v2), (3, .int v3), (4, .int v4), (5, .int v5), (6, .int v6), (7, .int v7), (8, .int v8)]) rfl rfl rfl rfl ?_
    refine db_Ric (pc' := 193) (tg := 245) (lv1 := [(0, .ref 669), (1, .int v1), (2, .int v2), (3, .int v3), (4, .int v4), (5, .int v5), (6, .int v6), (7, .int v7), (8, .int v8)]) rfl rfl rfl rfl ?_ ?_
    · refine db_Rn (lv1 := [(0, .ref 669), (1, .int v1), (2, .int v2), (3, .int v3), (4, .int v4), (5, .int v5), (6, .int v6)]) rfl rfl rfl ?_
      exact db_f365_b245_ok zh116 zh152
    refine db_Rgo (pc' := 202) (lv' := [(0, .ref 669), (1, .int v1), (2, .int v2), (3, .int v3), (4, .int v4), (5, .int v5), (6, .int v6), (7, .int v7), (8, .int v8)]) (st' := [.ref 681, .int (v8 + v7)]) 5 rfl ?_
    refine db_RlenK (n := (7201 : Int32)) (pc' := 203) (lv1 := [(0, .ref 669), (1, .int v1), (2, .int v2), (3, .int v3), (4, .int v4), (5, .int v5), (6, .int v6), (7, .int v7), (8, .int v8)]) rfl rfl rfl rfl ?_
    refine db_Ric (pc' := 206) (tg := 245) (lv1 := [(0, .ref 669), (1, .int v1), (2, .int v2), (3, .int v3), (4, .int v4), (5, .int v5), (6, .int v6), (7, .int v7), (8, .int v8)]) rfl rfl rfl rfl ?_ ?_
    · refine db_Rn (lv1 := [(0, .ref 669), (1, .int v1), (2, .int v2), (3, .int v3), (4, .int v4), (5, .int v5), (6, .int v6)]) rfl rfl rfl ?_
      exact db_f365_b245_ok zh116 zh152
    refine db_Rgo (pc' := 216) (lv' := [(0, .ref 669), (1, .int v1), (2, .int v2), (3, .int v3), (4, .int v4), (5, .int v5), (6, .int v6), (7, .int v7), (8, .int v8)]) (st' := [.int (v8 + v7), .ref 682, .int (v8 + v7), .ref 682]) 6 rfl ?_
    refine db_RldL (pc' := 217) (lv1 := [(0, .ref 669), (1, .int v1), (2, .int v2), (3, .int v3), (4, .int v4), (5, .int v5), (6, .int v6), (7, .int v7), (8, .int v8)]) rfl rfl rfl fun x1 => ?_
    refine db_Rgo (pc' := 223) (lv' := [(0, .ref 669), (1, .int v1), (2, .int v2), (3, .int v3), (4, .int v4), (5, .int v5), (6, .int v6), (7, .int v7), (8, .int v8)]) (st' := [.int v8, .ref 681, .long x1, .int (v8 + v7), .ref 682]) 3 rfl ?_
    refine db_RldL (pc' := 224) (lv1 := [(0, .ref 669), (1, .int v1), (2, .int v2), (3, .int v3), (4, .int v4), (5, .int v5), (6, .int v6), (7, .int v7), (8, .int v8)]) rfl rfl rfl fun x2 => ?_
    refine db_Rgo (pc' := 234) (lv' := [(0, .ref 669), (1, .int v1), (2, .int v2), (3, .int v3), (4, .int v4), (5, .int v5), (6, .int v6), (7, .int v7), (8, .int v8)]) (st' := [.int ((143 : Int32) + v6), .ref 674, .long x2, .long x1, .int (v8 + v7), .ref 682]) 5 rfl ?_
    refine db_RldI (pc' := 235) (lv1 := [(0, .ref 669), (1, .int v1), (2, .int v2), (3, .int v3), (4, .int v4), (5, .int v5), (6, .int v6), (7, .int v7), (8, .int v8)]) rfl rfl rfl fun x3 => ?_
    refine db_Rgo (pc' := 238) (lv' := [(0, .ref 669), (1, .int v1), (2, .int v2), (3, .int v3), (4, .int v4), (5, .int v5), (6, .int v6), (7, .int v7), (8, .int v8)]) (st' := [.long (x1 + (x2 * (Int32.toInt64 x3))), .int (v8 + v7), .ref 682]) 3 rfl ?_
    refine db_RstL (pc' := 239) (lv1 := [(0, .ref 669), (1, .int v1), (2, .int v2), (3, .int v3), (4, .int v4), (5, .int v5), (6, .int v6), (7, .int v7), (8, .int v8)]) rfl rfl rfl fun s4 => ?_
    refine db_Rgo (pc' := 183) (lv' := [(8, .int (v8 + (1 : Int32))), (0, .ref 669), (1, .int v1), (2, .int v2), (3, .int v3), (4, .int v4), (5, .int v5), (6, .int v6), (7, .int v7)]) (st' := []) 2 rfl ?_
    refine db_Rn (lv1 := [(0, .ref 669), (1, .int v1), (2, .int v2), (3, .int v3), (4, .int v4), (5, .int v5), (6, .int v6), (7, .int v7), (8, .int (v8 + (1 : Int32)))]) rfl rfl rfl ?_
    exact ih _ _ _ _ _ _ _ _ _
noncomputable def db_f365_b254 (h116 : db_S → Int32 → Int32 → Int32 → Int32 → Int32 → Option (Bool × db_S)) : Nat → db_S → Int32 → Int32 → Int32 → Int32 → Int32 → Int32 → Option (Bool × db_S)
  | 0, _, _, _, _, _, _, _ => none
  | n + 1, s, v1, v2, v3, v4, v5, v6 =>
    (cond (db_cnd .ge v6 (7201 : Int32)) (h116 s v1 v2 v3 v4 (v5 + (1 : Int32))) ((db_rL s 682 v6).bind fun x1 => ((db_wL s 681 v6 x1).bind fun s2 => (db_f365_b254 h116 n s2 v1 v2 v3 v4 v5 (v6 + (1 : Int32))))))
set_option maxRecDepth 100000 in
theorem db_f365_b254_ok {X : db_X} {d : Nat}  {h116 : db_S → Int32 → Int32 → Int32 → Int32 → Int32 → Option (Bool × db_S)} (zh116 : ∀ (s' : db_S) (v1 : Int32) (v2 : Int32) (v3 : Int32) (v4 : Int32) (v5 : Int32) , db_Rf X (d + 5) dbm_365 116 [(0, .ref 669), (1, .int v1), (2, .int v2), (3, .int v3), (4, .int v4), (5, .int v5)] [] s' db_zB (h116 s' v1 v2 v3 v4 v5)) (n : Nat) : ∀ (s : db_S) (v1 : Int32) (v2 : Int32) (v3 : Int32) (v4 : Int32) (v5 : Int32) (v6 : Int32), db_Rf X (d + 5) dbm_365 254 [(0, .ref 669), (1, .int v1), (2, .int v2), (3, .int v3), (4, .int v4), (5, .int v5), (6, .int v6)] [] s db_zB (db_f365_b254 h116 n s v1 v2 v3 v4 v5 v6) := by
  induction n with
  | zero => intros; exact db_Rnone
  | succ n ih =>
    intro s v1 v2 v3 v4 v5 v6
    unfold db_f365_b254
    refine db_Rgo (pc' := 260) (lv' := [(0, .ref 669), (1, .int v1), (2, .int v2), (3, .int v3), (4, .int v4), (5, .int v5), (6, .int v6)]) (st' := [.ref 681, .int v6]) 3 rfl ?_
    refine db_RlenK (n := (7201 : Int32)) (pc' := 261) (lv1 := [(0, .ref 669), (1, .int v1), (2, .int v2), (3, .int v3), (4, .int v4), (5, .int v5), (6, .int v6)]) rfl rfl rfl rfl ?_
    refine db_Ric (pc' := 264) (tg := 284) (lv1 := [(0, .ref 669), (1, .int v1), (2, .int v2), (3, .int v3), (4, .int v4), (5, .int v5), (6, .int v6)]) rfl rfl rfl rfl ?_ ?_
    · refine db_Rgo (pc' := 116) (lv' := [(5, .int (v5 + (1 : Int32))), (0, .ref 669), (1, .int v1), (2, .int v2), (3, .int v3), (4, .int v4)]) (st' := []) 2 rfl ?_
      refine db_Rn (lv1 := [(0, .ref 669), (1, .int v1), (2, .int v2), (3, .int v3), (4, .int v4), (5, .int (v5 + (1 : Int32)))]) rfl rfl rfl ?_
      exact zh116 _ _ _ _ _ _
    refine db_Rgo (pc' := 276) (lv' := [(0, .ref 669), (1, .int v1), (2, .int v2), (3, .int v3), (4, .int v4), (5, .int v5), (6, .int v6)]) (st' := [.int v6, .ref 682, .int v6, .ref 681]) 6 rfl ?_
    refine db_RldL (pc' := 277) (lv1 := [(0, .ref 669), (1, .int v1), (2, .int v2), (3, .int v3), (4, .int v4), (5, .int v5), (6, .int v6)]) rfl rfl rfl fun x1 => ?_
    refine db_RstL (pc' := 278) (lv1 := [(0, .ref 669), (1, .int v1), (2, .int v2), (3, .int v3), (4, .int v4), (5, .int v5), (6, .int v6)]) rfl rfl rfl fun s2 => ?_
    refine db_Rgo (pc' := 254) (lv' := [(6, .int (v6 + (1 : Int32))), (0, .ref 669), (1, .int v1), (2, .int v2), (3, .int v3), (4, .int v4), (5, .int v5)]) (st' := []) 2 rfl ?_
    refine db_Rn (lv1 := [(0, .ref 669), (1, .int v1), (2, .int v2), (3, .int v3), (4, .int v4), (5, .int v5), (6, .int (v6 + (1 : Int32)))]) rfl rfl rfl ?_
    exact ih _ _ _ _ _ _ _
noncomputable def db_f365_b152 (h116 : db_S → Int32 → Int32 → Int32 → Int32 → Int32 → Option (Bool × db_S)) : Nat → db_S → Int32 → Int32 → Int32 → Int32 → Int32 → Int32 → Option (Bool × db_S)
  | 0, _, _, _, _, _, _, _ => none
  | n + 1, s, v1, v2, v3, v4, v5, v6 =>
    ((db_rI s 674 (5 : Int32)).bind fun x1 => (cond (db_cnd .ge v6 x1) (db_f365_b254 h116 db_FU s v1 v2 v3 v4 v5 (0 : Int32)) (db_bd (db_f316 s v6 v3 v4) fun q2 s3 => (db_f365_b183 h116 (db_f365_b152 h116 n) db_FU s3 v1 v2 v3 v4 v5 v6 q2 (if (0 : Int32) < (-q2) then (-q2) else (0 : Int32))))))
set_option maxRecDepth 100000 in
theorem db_f365_b152_ok {X : db_X} {d : Nat}  {h116 : db_S → Int32 → Int32 → Int32 → Int32 → Int32 → Option (Bool × db_S)} (zh116 : ∀ (s' : db_S) (v1 : Int32) (v2 : Int32) (v3 : Int32) (v4 : Int32) (v5 : Int32) , db_Rf X (d + 5) dbm_365 116 [(0, .ref 669), (1, .int v1), (2, .int v2), (3, .int v3), (4, .int v4), (5, .int v5)] [] s' db_zB (h116 s' v1 v2 v3 v4 v5)) (n : Nat) : ∀ (s : db_S) (v1 : Int32) (v2 : Int32) (v3 : Int32) (v4 : Int32) (v5 : Int32) (v6 : Int32), db_Rf X (d + 5) dbm_365 152 [(0, .ref 669), (1, .int v1), (2, .int v2), (3, .int v3), (4, .int v4), (5, .int v5), (6, .int v6)] [] s db_zB (db_f365_b152 h116 n s v1 v2 v3 v4 v5 v6) := by
  induction n with
  | zero => intros; exact db_Rnone
  | succ n ih =>
    intro s v1 v2 v3 v4 v5 v6
    unfold db_f365_b152
    refine db_Rgo (pc' := 159) (lv' := [(0, .ref 669), (1, .int v1), (2, .int v2), (3, .int v3), (4, .int v4), (5, .int v5), (6, .int v6)]) (st' := [.int (5 : Int32), .ref 674, .int v6]) 4 rfl ?_
    refine db_RldI (pc' := 160) (lv1 := [(0, .ref 669), (1, .int v1), (2, .int v2), (3, .int v3), (4, .int v4), (5, .int v5), (6, .int v6)]) rfl rfl rfl fun x1 => ?_
    refine db_Ric (pc' := 163) (tg := 251) (lv1 := [(0, .ref 669), (1, .int v1), (2, .int v2), (3, .int v3), (4, .int v4), (5, .int v5), (6, .int v6)]) rfl rfl rfl rfl ?_ ?_
    · refine db_Rgo (pc' := 254) (lv' := [(6, .int (0 : Int32)), (0, .ref 669), (1, .int v1), (2, .int v2), (3, .int v3), (4, .int v4), (5, .int v5)]) (st' := []) 2 rfl ?_
      refine db_Rn (lv1 := [(0, .ref 669), (1, .int v1), (2, .int v2), (3, .int v3), (4, .int v4), (5, .int v5), (6, .int (0 : Int32))]) rfl rfl rfl ?_
      exact db_f365_b254_ok zh116 db_FU _ _ _ _ _ _ _
    refine db_Rgo (pc' := 169) (lv' := [(0, .ref 669), (1, .int v1), (2, .int v2), (3, .int v3), (4, .int v4), (5, .int v5), (6, .int v6)]) (st' := [.int v4, .int v3, .int v6, .ref 669]) 4 rfl ?_
    refine db_RcdI (mr' := dbm_316) (as := [.ref 669, .int v6, .int v3, .int v4]) (rest := []) (pc' := 172) (lv1 := [(0, .ref 669), (1, .int v1), (2, .int v2), (3, .int v3), (4, .int v4), (5, .int v5), (6, .int v6)]) rfl rfl rfl rfl rfl (db_f316_ok) fun q2 s3 => ?_
    refine db_Rgo (pc' := 183) (lv' := [(8, .int (if (0 : Int32) < (-q2) then (-q2) else (0 : Int32))), (7, .int q2), (0, .ref 669), (1, .int v1), (2, .int v2), (3, .int v3), (4, .int v4), (5, .int v5), (6, .int v6)]) (st' := []) 6 rfl ?_
    refine db_Rn (lv1 := [(0, .ref 669), (1, .int v1), (2, .int v2), (3, .int v3), (4, .int v4), (5, .int v5), (6, .int v6), (7, .int q2), (8, .int (if (0 : Int32) < (-q2) then (-q2) else (0 : Int32)))]) rfl rfl rfl ?_
    exact db_f365_b183_ok zh116 ih db_FU _ _ _ _ _ _ _ _ _
noncomputable def db_f365_b125 (h116 : db_S → Int32 → Int32 → Int32 → Int32 → Int32 → Option (Bool × db_S)) : Nat → db_S → Int32 → Int32 → Int32 → Int32 → Int32 → Int32 → Option (Bool × db_S)
  | 0, _, _, _, _, _, _, _ => none
  | n + 1, s, v1, v2, v3, v4, v5, v6 =>
    (cond (db_cnd .ge v6 (7201 : Int32)) (db_f365_b152 h116 db_FU s v1 v2 v3 v4 v5 (0 : Int32)) ((db_wL s 682 v6 (0 : Int64)).bind fun s1 => (db_f365_b125 h116 n s1 v1 v2 v3 v4 v5 (v6 + (1 : Int32)))))
set_option maxRecDepth 100000 in
theorem db_f365_b125_ok {X : db_X} {d : Nat}  {h116 : db_S → Int32 → Int32 → Int32 → Int32 → Int32 → Option (Bool × db_S)} (zh116 : ∀ (s' : db_S) (v1 : Int32) (v2 : Int32) (v3 : Int32) (v4 : Int32) (v5 : Int32) , db_Rf X (d + 5) dbm_365 116 [(0, .ref 669), (1, .int v1), (2, .int v2), (3, .int v3), (4, .int v4), (5, .int v5)] [] s' db_zB (h116 s' v1 v2 v3 v4 v5)) (n : Nat) : ∀ (s : db_S) (v1 : Int32) (v2 : Int32) (v3 : Int32) (v4 : Int32) (v5 : Int32) (v6 : Int32), db_Rf X (d + 5) dbm_365 125 [(0, .ref 669), (1, .int v1), (2, .int v2), (3, .int v3), (4, .int v4), (5, .int v5), (6, .int v6)] [] s db_zB (db_f365_b125 h116 n s v1 v2 v3 v4 v5 v6) := by
  induction n with
  | zero => intros; exact db_Rnone
  | succ n ih =>
    intro s v1 v2 v3 v4 v5 v6
    unfold db_f365_b125
    refine db_Rgo (pc' := 131) (lv' := [(0, .ref 669), (1, .int v1), (2, .int v2), (3, .int v3), (4, .int v4), (5, .int v5), (6, .int v6)]) (st' := [.ref 682, .int v6]) 3 rfl ?_
    refine db_RlenK (n := (7201 : Int32)) (pc' := 132) (lv1 := [(0, .ref 669), (1, .int v1), (2, .int v2), (3, .int v3), (4, .int v4), (5, .int v5), (6, .int v6)]) rfl rfl rfl rfl ?_
    refine db_Ric (pc' := 135) (tg := 149) (lv1 := [(0, .ref 669), (1, .int v1), (2, .int v2), (3, .int v3), (4, .int v4), (5, .int v5), (6, .int v6)]) rfl rfl rfl rfl ?_ ?_
    · refine db_Rgo (pc' := 152) (lv' := [(6, .int (0 : Int32)), (0, .ref 669), (1, .int v1), (2, .int v2), (3, .int v3), (4, .int v4), (5, .int v5)]) (st' := []) 2 rfl ?_
      refine db_Rn (lv1 := [(0, .ref 669), (1, .int v1), (2, .int v2), (3, .int v3), (4, .int v4), (5, .int v5), (6, .int (0 : Int32))]) rfl rfl rfl ?_
      exact db_f365_b152_ok zh116 db_FU _ _ _ _ _ _ _
    refine db_Rgo (pc' := 142) (lv' := [(0, .ref 669), (1, .int v1), (2, .int v2), (3, .int v3), (4, .int v4), (5, .int v5), (6, .int v6)]) (st' := [.long (0 : Int64), .int v6, .ref 682]) 4 rfl ?_
    refine db_RstL (pc' := 143) (lv1 := [(0, .ref 669), (1, .int v1), (2, .int v2), (3, .int v3), (4, .int v4), (5, .int v5), (6, .int v6)]) rfl rfl rfl fun s1 => ?_
    refine db_Rgo (pc' := 125) (lv' := [(6, .int (v6 + (1 : Int32))), (0, .ref 669), (1, .int v1), (2, .int v2), (3, .int v3), (4, .int v4), (5, .int v5)]) (st' := []) 2 rfl ?_
    refine db_Rn (lv1 := [(0, .ref 669), (1, .int v1), (2, .int v2), (3, .int v3), (4, .int v4), (5, .int v5), (6, .int (v6 + (1 : Int32)))]) rfl rfl rfl ?_
    exact ih _ _ _ _ _ _ _
noncomputable def db_f365_b344 (h299 : db_S → Int32 → Int64 → Int64 → Int32 → Option (Bool × db_S)) (s : db_S) (v2 : Int32) (v7 : Int64) (v9 : Int32) (t0 : Int64) (t1 : Int64) : Option (Bool × db_S) :=
  (h299 s v2 (t0 + t1) v7 (v9 + (1 : Int32)))
set_option maxRecDepth 100000 in
theorem db_f365_b344_ok {X : db_X} {d : Nat}  {h299 : db_S → Int32 → Int64 → Int64 → Int32 → Option (Bool × db_S)} {s : db_S} {v2 : Int32} {v7 : Int64} {v9 : Int32} {t0 : Int64} {t1 : Int64} (zh299 : ∀ (s' : db_S) (v2 : Int32) (v5 : Int64) (v7 : Int64) (v9 : Int32) , db_Rf X (d + 5) dbm_365 299 [(0, .ref 669), (2, .int v2), (5, .long v5), (7, .long v7), (9, .int v9)] [] s' db_zB (h299 s' v2 v5 v7 v9)) : db_Rf X (d + 5) dbm_365 344 [(0, .ref 669), (2, .int v2), (7, .long v7), (9, .int v9)] [.long t1, .long t0] s db_zB (db_f365_b344 h299 s v2 v7 v9 t0 t1) := by
  unfold db_f365_b344
  refine db_Rgo (pc' := 299) (lv' := [(9, .int (v9 + (1 : Int32))), (5, .long (t0 + t1)), (0, .ref 669), (2, .int v2), (7, .long v7)]) (st' := []) 4 rfl ?_
  refine db_Rn (lv1 := [(0, .ref 669), (2, .int v2), (5, .long (t0 + t1)), (7, .long v7), (9, .int (v9 + (1 : Int32)))]) rfl rfl rfl ?_
  exact zh299 _ _ _ _ _
noncomputable def db_f365_b299 : Nat → db_S → Int32 → Int64 → Int64 → Int32 → Option (Bool × db_S)
  | 0, _, _, _, _, _ => none
  | n + 1, s, v2, v5, v7, v9 =>
    (cond (db_cnd .ge v9 (7201 : Int32)) (db_bd (db_f364 s v5 v7) fun q1 s2 => (some (q1, s2))) ((db_rL s 681 v9).bind fun x3 => (cond (db_cnd .lt (v9 - (3600 : Int32)) v2) (db_f365_b344 (db_f365_b299 n) s v2 (v7 + x3) v9 v5 (0 : Int64)) ((db_rL s 681 v9).bind fun x4 => (db_f365_b344 (db_f365_b299 n) s v2 (v7 + x3) v9 v5 x4)))))
set_option maxRecDepth 100000 in
theorem db_f365_b299_ok {X : db_X} {d : Nat}  (n : Nat) : ∀ (s : db_S) (v2 : Int32) (v5 : Int64) (v7 : Int64) (v9 : Int32), db_Rf X (d + 5) dbm_365 299 [(0, .ref 669), (2, .int v2), (5, .long v5), (7, .long v7), (9, .int v9)] [] s db_zB (db_f365_b299 n s v2 v5 v7 v9) := by
  induction n with
  | zero => intros; exact db_Rnone
  | succ n ih =>
    intro s v2 v5 v7 v9
    unfold db_f365_b299
    refine db_Rgo (pc' := 305) (lv' := [(0, .ref 669), (2, .int v2), (5, .long v5), (7, .long v7), (9, .int v9)]) (st' := [.ref 681, .int v9]) 3 rfl ?_
    refine db_RlenK (n := (7201 : Int32)) (pc' := 306) (lv1 := [(0, .ref 669), (2, .int v2), (5, .long v5), (7, .long v7), (9, .int v9)]) rfl rfl rfl rfl ?_
    refine db_Ric (pc' := 309) (tg := 353) (lv1 := [(0, .ref 669), (2, .int v2), (5, .long v5), (7, .long v7), (9, .int v9)]) rfl rfl rfl rfl ?_ ?_
    · refine db_Rgo (pc' := 358) (lv' := [(0, .ref 669), (5, .long v5), (7, .long v7)]) (st' := [.long v7, .long v5, .ref 669]) 3 rfl ?_
      refine db_RcdB (mr' := dbm_364) (as := [.ref 669, .long v5, .long v7]) (rest := []) (pc' := 361) (lv1 := [(0, .ref 669), (5, .long v5), (7, .long v7)]) rfl rfl rfl rfl rfl (db_f364_ok) fun q1 s2 => ?_
      exact db_RretB (lv1 := [(0, .ref 669), (5, .long v5), (7, .long v7)]) rfl rfl rfl rfl
    refine db_Rgo (pc' := 317) (lv' := [(0, .ref 669), (2, .int v2), (5, .long v5), (7, .long v7), (9, .int v9)]) (st' := [.int v9, .ref 681, .long v7]) 4 rfl ?_
    refine db_RldL (pc' := 318) (lv1 := [(0, .ref 669), (2, .int v2), (5, .long v5), (7, .long v7), (9, .int v9)]) rfl rfl rfl fun x3 => ?_
    refine db_Rgo (pc' := 330) (lv' := [(7, .long (v7 + x3)), (0, .ref 669), (2, .int v2), (5, .long v5), (9, .int v9)]) (st' := [.int v2, .int (v9 - (3600 : Int32)), .long v5]) 7 rfl ?_
    refine db_Ric (pc' := 333) (tg := 343) (lv1 := [(7, .long (v7 + x3)), (0, .ref 669), (2, .int v2), (5, .long v5), (9, .int v9)]) rfl rfl rfl rfl ?_ ?_
    · refine db_Rgo (pc' := 344) (lv' := [(0, .ref 669), (2, .int v2), (7, .long (v7 + x3)), (9, .int v9)]) (st' := [.long (0 : Int64), .long v5]) 1 rfl ?_
      exact db_f365_b344_ok ih
    refine db_Rgo (pc' := 339) (lv' := [(7, .long (v7 + x3)), (0, .ref 669), (2, .int v2), (5, .long v5), (9, .int v9)]) (st' := [.int v9, .ref 681, .long v5]) 3 rfl ?_
    refine db_RldL (pc' := 340) (lv1 := [(7, .long (v7 + x3)), (0, .ref 669), (2, .int v2), (5, .long v5), (9, .int v9)]) rfl rfl rfl fun x4 => ?_
    refine db_Rgo (pc' := 344) (lv' := [(7, .long (v7 + x3)), (0, .ref 669), (2, .int v2), (5, .long v5), (9, .int v9)]) (st' := [.long x4, .long v5]) 1 rfl ?_
    refine db_Rn (lv1 := [(0, .ref 669), (2, .int v2), (7, .long (v7 + x3)), (9, .int v9)]) rfl rfl rfl ?_
    exact db_f365_b344_ok ih
noncomputable def db_f365_b116 : Nat → db_S → Int32 → Int32 → Int32 → Int32 → Int32 → Option (Bool × db_S)
  | 0, _, _, _, _, _, _ => none
  | n + 1, s, v1, v2, v3, v4, v5 =>
    (cond (db_cnd .ge v5 v1) (db_f365_b299 db_FU s v2 (0 : Int64) (0 : Int64) (0 : Int32)) (db_f365_b125 (db_f365_b116 n) db_FU s v1 v2 v3 v4 v5 (0 : Int32)))
set_option maxRecDepth 100000 in
theorem db_f365_b116_ok {X : db_X} {d : Nat}  (n : Nat) : ∀ (s : db_S) (v1 : Int32) (v2 : Int32) (v3 : Int32) (v4 : Int32) (v5 : Int32), db_Rf X (d + 5) dbm_365 116 [(0, .ref 669), (1, .int v1), (2, .int v2), (3, .int v3), (4, .int v4), (5, .int v5)] [] s db_zB (db_f365_b116 n s v1 v2 v3 v4 v5) := by
  induction n with
  | zero => intros; exact db_Rnone
  | succ n ih =>
    intro s v1 v2 v3 v4 v5
    unfold db_f365_b116
    refine db_Rgo (pc' := 119) (lv' := [(0, .ref 669), (1, .int v1), (2, .int v2), (3, .int v3), (4, .int v4), (5, .int v5)]) (st' := [.int v1, .int v5]) 2 rfl ?_
    refine db_Ric (pc' := 122) (tg := 290) (lv1 := [(0, .ref 669), (1, .int v1), (2, .int v2), (3, .int v3), (4, .int v4), (5, .int v5)]) rfl rfl rfl rfl ?_ ?_
    · refine db_Rgo (pc' := 299) (lv' := [(9, .int (0 : Int32)), (7, .long (0 : Int64)), (5, .long (0 : Int64)), (0, .ref 669), (2, .int v2)]) (st' := []) 6 rfl ?_
      refine db_Rn (lv1 := [(0, .ref 669), (2, .int v2), (5, .long (0 : Int64)), (7, .long (0 : Int64)), (9, .int (0 : Int32))]) rfl rfl rfl ?_
      exact db_f365_b299_ok db_FU _ _ _ _ _
    refine db_Rgo (pc' := 125) (lv' := [(6, .int (0 : Int32)), (0, .ref 669), (1, .int v1), (2, .int v2), (3, .int v3), (4, .int v4), (5, .int v5)]) (st' := []) 2 rfl ?_
    refine db_Rn (lv1 := [(0, .ref 669), (1, .int v1), (2, .int v2), (3, .int v3), (4, .int v4), (5, .int v5), (6, .int (0 : Int32))]) rfl rfl rfl ?_
    exact db_f365_b125_ok ih db_FU _ _ _ _ _ _ _
noncomputable def db_f365_b77 : Nat → db_S → Int32 → Int32 → Int32 → Int32 → Int32 → Option (Bool × db_S)
  | 0, _, _, _, _, _, _ => none
  | n + 1, s, v1, v2, v3, v4, v5 =>
    (cond (db_cnd .ge v5 (7201 : Int32)) (db_f365_b116 db_FU s v1 v2 v3 v4 (0 : Int32)) (cond (db_cnd .ne v5 (3600 : Int32)) (db_f365_b106 (db_f365_b77 n) s v1 v2 v3 v4 v5 v5 (0 : Int64)) (db_f365_b106 (db_f365_b77 n) s v1 v2 v3 v4 v5 v5 (1 : Int64))))
set_option maxRecDepth 100000 in
theorem db_f365_b77_ok {X : db_X} {d : Nat}  (n : Nat) : ∀ (s : db_S) (v1 : Int32) (v2 : Int32) (v3 : Int32) (v4 : Int32) (v5 : Int32), db_Rf X (d + 5) dbm_365 77 [(0, .ref 669), (1, .int v1), (2, .int v2), (3, .int v3), (4, .int v4), (5, .int v5)] [] s db_zB (db_f365_b77 n s v1 v2 v3 v4 v5) := by
  induction n with
  | zero => intros; exact db_Rnone
  | succ n ih =>
    intro s v1 v2 v3 v4 v5
    unfold db_f365_b77
    refine db_Rgo (pc' := 83) (lv' := [(0, .ref 669), (1, .int v1), (2, .int v2), (3, .int v3), (4, .int v4), (5, .int v5)]) (st' := [.ref 681, .int v5]) 3 rfl ?_
    refine db_RlenK (n := (7201 : Int32)) (pc' := 84) (lv1 := [(0, .ref 669), (1, .int v1), (2, .int v2), (3, .int v3), (4, .int v4), (5, .int v5)]) rfl rfl rfl rfl ?_
    refine db_Ric (pc' := 87) (tg := 113) (lv1 := [(0, .ref 669), (1, .int v1), (2, .int v2), (3, .int v3), (4, .int v4), (5, .int v5)]) rfl rfl rfl rfl ?_ ?_
    · refine db_Rgo (pc' := 116) (lv' := [(5, .int (0 : Int32)), (0, .ref 669), (1, .int v1), (2, .int v2), (3, .int v3), (4, .int v4)]) (st' := []) 2 rfl ?_
      refine db_Rn (lv1 := [(0, .ref 669), (1, .int v1), (2, .int v2), (3, .int v3), (4, .int v4), (5, .int (0 : Int32))]) rfl rfl rfl ?_
      exact db_f365_b116_ok db_FU _ _ _ _ _ _
    refine db_Rgo (pc' := 98) (lv' := [(0, .ref 669), (1, .int v1), (2, .int v2), (3, .int v3), (4, .int v4), (5, .int v5)]) (st' := [.int (3600 : Int32), .int v5, .int v5, .ref 681]) 5 rfl ?_
    refine db_Ric (pc' := 101) (tg := 105) (lv1 := [(0, .ref 669), (1, .int v1), (2, .int v2), (3, .int v3), (4, .int v4), (5, .int v5)]) rfl rfl rfl rfl ?_ ?_
    · refine db_Rgo (pc' := 106) (lv' := [(0, .ref 669), (1, .int v1), (2, .int v2), (3, .int v3), (4, .int v4), (5, .int v5)]) (st' := [.long (0 : Int64), .int v5, .ref 681]) 1 rfl ?_
      exact db_f365_b106_ok ih
    refine db_Rgo (pc' := 106) (lv' := [(0, .ref 669), (1, .int v1), (2, .int v2), (3, .int v3), (4, .int v4), (5, .int v5)]) (st' := [.long (1 : Int64), .int v5, .ref 681]) 2 rfl ?_
    exact db_f365_b106_ok ih
/-- DreamBookModel.atLeast(IIII)Z -/
noncomputable def db_f365 (s : db_S) (v1 : Int32) (v2 : Int32) (v3 : Int32) (v4 : Int32) : Option (Bool × db_S) :=
  ((db_pI s 669 1 (0 : Int32)).bind fun s1 => ((db_pI s1 669 0 (0 : Int32)).bind fun s2 => ((db_f315 s2 v3 v4).bind fun q3 => (cond q3 ((db_f269 s2 (Int32.toInt64 v1) (1 : Int64) (6 : Int64)).bind fun q5 => (cond q5 ((db_f269 s2 (Int32.toInt64 v2) (-999 : Int64) (999 : Int64)).bind fun q7 => (cond q7 ((db_rI s2 674 (5 : Int32)).bind fun x9 => (cond (db_cnd .ne x9 0) (db_f365_b77 db_FU s2 v1 v2 v3 v4 (0 : Int32)) (db_bd (db_f211 s2 (8 : Int32)) fun q10 s11 => (some (q10, s11))))) (db_f365_b52 s2 ))) (db_f365_b52 s2 ))) (db_bd (db_f211 s2 (2 : Int32)) fun q12 s13 => (some (q12, s13)))))))
set_option maxRecDepth 100000 in
theorem db_f365_ok {X : db_X} {d : Nat} {s : db_S} {v1 : Int32} {v2 : Int32} {v3 : Int32} {v4 : Int32} : db_Rf X (d + 5) dbm_365 0 (lv_args 0 [.ref 669, .int v1, .int v2, .int v3, .int v4]) [] s db_zB (db_f365 s v1 v2 v3 v4) := by
  show db_Rf _ _ _ 0 [(0, .ref 669), (1, .int v1), (2, .int v2), (3, .int v3), (4, .int v4)] [] _ _ _
  unfold db_f365
  refine db_Rgo (pc' := 2) (lv' := [(0, .ref 669), (1, .int v1), (2, .int v2), (3, .int v3), (4, .int v4)]) (st' := [.int (0 : Int32), .ref 669]) 2 rfl ?_
  refine db_RpuI (pc' := 5) (lv1 := [(0, .ref 669), (1, .int v1), (2, .int v2), (3, .int v3), (4, .int v4)]) rfl rfl rfl rfl rfl rfl (by decide) rfl rfl fun s1 => ?_
  refine db_Rgo (pc' := 7) (lv' := [(0, .ref 669), (1, .int v1), (2, .int v2), (3, .int v3), (4, .int v4)]) (st' := [.int (0 : Int32), .ref 669]) 2 rfl ?_
  refine db_RpuI (pc' := 10) (lv1 := [(0, .ref 669), (1, .int v1), (2, .int v2), (3, .int v3), (4, .int v4)]) rfl rfl rfl rfl rfl rfl (by decide) rfl rfl fun s2 => ?_
  refine db_Rgo (pc' := 14) (lv' := [(0, .ref 669), (1, .int v1), (2, .int v2), (3, .int v3), (4, .int v4)]) (st' := [.int v4, .int v3, .ref 669]) 3 rfl ?_
  refine db_RcyB (mr' := dbm_315) (as := [.ref 669, .int v3, .int v4]) (rest := []) (pc' := 17) (lv1 := [(0, .ref 669), (1, .int v1), (2, .int v2), (3, .int v3), (4, .int v4)]) rfl rfl rfl rfl rfl (db_f315_ok) fun q3 => ?_
  refine db_RifBn (pc' := 20) (tg := 26) (lv1 := [(0, .ref 669), (1, .int v1), (2, .int v2), (3, .int v3), (4, .int v4)]) rfl rfl rfl rfl ?_ ?_
  · refine db_Rgo (pc' := 32) (lv' := [(0, .ref 669), (1, .int v1), (2, .int v2), (3, .int v3), (4, .int v4)]) (st' := [.long (6 : Int64), .long (1 : Int64), .long (Int32.toInt64 v1)]) 4 rfl ?_
    refine db_RcyB (mr' := dbm_269) (as := [.long (Int32.toInt64 v1), .long (1 : Int64), .long (6 : Int64)]) (rest := []) (pc' := 35) (lv1 := [(0, .ref 669), (1, .int v1), (2, .int v2), (3, .int v3), (4, .int v4)]) rfl rfl rfl rfl rfl (db_f269_ok) fun q5 => ?_
    refine db_RifBe (pc' := 38) (tg := 52) (lv1 := [(0, .ref 669), (1, .int v1), (2, .int v2), (3, .int v3), (4, .int v4)]) rfl rfl rfl rfl ?_ ?_
    · refine db_Rn (lv1 := [(0, .ref 669)]) rfl rfl rfl ?_
      exact db_f365_b52_ok
    refine db_Rgo (pc' := 46) (lv' := [(0, .ref 669), (1, .int v1), (2, .int v2), (3, .int v3), (4, .int v4)]) (st' := [.long (999 : Int64), .long (-999 : Int64), .long (Int32.toInt64 v2)]) 4 rfl ?_
    refine db_RcyB (mr' := dbm_269) (as := [.long (Int32.toInt64 v2), .long (-999 : Int64), .long (999 : Int64)]) (rest := []) (pc' := 49) (lv1 := [(0, .ref 669), (1, .int v1), (2, .int v2), (3, .int v3), (4, .int v4)]) rfl rfl rfl rfl rfl (db_f269_ok) fun q7 => ?_
    refine db_RifBn (pc' := 52) (tg := 58) (lv1 := [(0, .ref 669), (1, .int v1), (2, .int v2), (3, .int v3), (4, .int v4)]) rfl rfl rfl rfl ?_ ?_
    · refine db_Rgo (pc' := 63) (lv' := [(0, .ref 669), (1, .int v1), (2, .int v2), (3, .int v3), (4, .int v4)]) (st' := [.int (5 : Int32), .ref 674]) 3 rfl ?_
      refine db_RldI (pc' := 64) (lv1 := [(0, .ref 669), (1, .int v1), (2, .int v2), (3, .int v3), (4, .int v4)]) rfl rfl rfl fun x9 => ?_
      refine db_Rif (pc' := 67) (tg := 74) (lv1 := [(0, .ref 669), (1, .int v1), (2, .int v2), (3, .int v3), (4, .int v4)]) rfl rfl rfl rfl ?_ ?_
      · refine db_Rgo (pc' := 77) (lv' := [(5, .int (0 : Int32)), (0, .ref 669), (1, .int v1), (2, .int v2), (3, .int v3), (4, .int v4)]) (st' := []) 2 rfl ?_
        refine db_Rn (lv1 := [(0, .ref 669), (1, .int v1), (2, .int v2), (3, .int v3), (4, .int v4), (5, .int (0 : Int32))]) rfl rfl rfl ?_
        exact db_f365_b77_ok db_FU _ _ _ _ _ _
      refine db_Rgo (pc' := 70) (lv' := [(0, .ref 669), (1, .int v1), (2, .int v2), (3, .int v3), (4, .int v4)]) (st' := [.int (8 : Int32), .ref 669]) 2 rfl ?_
      refine db_RcdB (mr' := dbm_211) (as := [.ref 669, .int (8 : Int32)]) (rest := []) (pc' := 73) (lv1 := [(0, .ref 669), (1, .int v1), (2, .int v2), (3, .int v3), (4, .int v4)]) rfl rfl rfl rfl rfl (db_f211_ok) fun q10 s11 => ?_
      exact db_RretB (lv1 := [(0, .ref 669), (1, .int v1), (2, .int v2), (3, .int v3), (4, .int v4)]) rfl rfl rfl rfl
    refine db_Rn (lv1 := [(0, .ref 669)]) rfl rfl rfl ?_
    exact db_f365_b52_ok
  refine db_Rgo (pc' := 22) (lv' := [(0, .ref 669), (1, .int v1), (2, .int v2), (3, .int v3), (4, .int v4)]) (st' := [.int (2 : Int32), .ref 669]) 2 rfl ?_
  refine db_RcdB (mr' := dbm_211) (as := [.ref 669, .int (2 : Int32)]) (rest := []) (pc' := 25) (lv1 := [(0, .ref 669), (1, .int v1), (2, .int v2), (3, .int v3), (4, .int v4)]) rfl rfl rfl rfl rfl (db_f211_ok) fun q12 s13 => ?_
  exact db_RretB (lv1 := [(0, .ref 669), (1, .int v1), (2, .int v2), (3, .int v3), (4, .int v4)]) rfl rfl rfl rfl
noncomputable def db_f197_b47 : Nat → db_S → Int32 → Int32 → Option (Int32 × db_S)
  | 0, _, _, _ => none
  | n + 1, s, v2, v3 =>
    ((db_rI s 21 (5 : Int32)).bind fun x1 => (cond (db_cnd .ge (v3 + (1 : Int32)) x1) (some (v3, s)) ((db_rI s 61 v3).bind fun x2 => (cond (db_cnd .lt v2 x2) (some (v3, s)) ((db_rI s 61 v3).bind fun x3 => (db_f197_b47 n s (v2 - x3) (v3 + (1 : Int32))))))))
set_option maxRecDepth 100000 in
theorem db_f197_b47_ok {X : db_X} {d : Nat}  (n : Nat) : ∀ (s : db_S) (v2 : Int32) (v3 : Int32), db_Rf X (d + 1) dbm_197 47 [(0, .ref 284), (2, .int v2), (3, .int v3)] [] s db_zI (db_f197_b47 n s v2 v3) := by
  induction n with
  | zero => intros; exact db_Rnone
  | succ n ih =>
    intro s v2 v3
    unfold db_f197_b47
    refine db_Rgo (pc' := 58) (lv' := [(0, .ref 284), (2, .int v2), (3, .int v3)]) (st' := [.int (5 : Int32), .ref 21, .int (v3 + (1 : Int32))]) 7 rfl ?_
    refine db_RldI (pc' := 59) (lv1 := [(0, .ref 284), (2, .int v2), (3, .int v3)]) rfl rfl rfl fun x1 => ?_
    refine db_Ric (pc' := 62) (tg := 93) (lv1 := [(0, .ref 284), (2, .int v2), (3, .int v3)]) rfl rfl rfl rfl ?_ ?_
    · refine db_Rgo (pc' := 94) (lv' := [(3, .int v3)]) (st' := [.int v3]) 1 rfl ?_
      exact db_Rret (lv1 := [(3, .int v3)]) rfl rfl rfl rfl
    refine db_Rgo (pc' := 71) (lv' := [(0, .ref 284), (2, .int v2), (3, .int v3)]) (st' := [.int v3, .ref 61, .int v2]) 5 rfl ?_
    refine db_RldI (pc' := 72) (lv1 := [(0, .ref 284), (2, .int v2), (3, .int v3)]) rfl rfl rfl fun x2 => ?_
    refine db_Ric (pc' := 75) (tg := 93) (lv1 := [(0, .ref 284), (2, .int v2), (3, .int v3)]) rfl rfl rfl rfl ?_ ?_
    · refine db_Rgo (pc' := 94) (lv' := [(3, .int v3)]) (st' := [.int v3]) 1 rfl ?_
      exact db_Rret (lv1 := [(3, .int v3)]) rfl rfl rfl rfl
    refine db_Rgo (pc' := 84) (lv' := [(0, .ref 284), (2, .int v2), (3, .int v3)]) (st' := [.int v3, .ref 61, .int v2]) 5 rfl ?_
    refine db_RldI (pc' := 85) (lv1 := [(0, .ref 284), (2, .int v2), (3, .int v3)]) rfl rfl rfl fun x3 => ?_
    refine db_Rgo (pc' := 47) (lv' := [(3, .int (v3 + (1 : Int32))), (2, .int (v2 - x3)), (0, .ref 284)]) (st' := []) 4 rfl ?_
    refine db_Rn (lv1 := [(0, .ref 284), (2, .int (v2 - x3)), (3, .int (v3 + (1 : Int32)))]) rfl rfl rfl ?_
    exact ih _ _ _
noncomputable def db_f197_b44 (s : db_S) (t0 : Int32) : Option (Int32 × db_S) :=
  (db_f197_b47 db_FU s t0 (0 : Int32))
set_option maxRecDepth 100000 in
theorem db_f197_b44_ok {X : db_X} {d : Nat}  {s : db_S} {t0 : Int32} : db_Rf X (d + 1) dbm_197 44 [(0, .ref 284)] [.int t0] s db_zI (db_f197_b44 s t0) := by
  unfold db_f197_b44
  refine db_Rgo (pc' := 47) (lv' := [(3, .int (0 : Int32)), (2, .int t0), (0, .ref 284)]) (st' := []) 3 rfl ?_
  refine db_Rn (lv1 := [(0, .ref 284), (2, .int t0), (3, .int (0 : Int32))]) rfl rfl rfl ?_
  exact db_f197_b47_ok db_FU _ _ _
/-- DreamBook$Runner.drawDream()I -/
noncomputable def db_f197 (s : db_S) : Option (Int32 × db_S) :=
  ((db_pI s 284 9 ((((s.1 284 9) * (2917 : Int32)) + (10613 : Int32)) - (((s.1 284 9) * (2917 : Int32)) + (10613 : Int32)) / (65536 : Int32) * (65536 : Int32))).bind fun s1 => ((db_f100_20 s1).bind fun q2 => (cond (db_cnd .le q2 0) (db_f197_b44 s1 (0 : Int32)) (if q2 = 0 then none else (db_f197_b44 s1 (((s1.1 284 9) / (8 : Int32)) - ((s1.1 284 9) / (8 : Int32)) / q2 * q2))))))
set_option maxRecDepth 100000 in
theorem db_f197_ok {X : db_X} {d : Nat} {s : db_S} : db_Rf X (d + 1) dbm_197 0 (lv_args 0 [.ref 284]) [] s db_zI (db_f197 s ) := by
  show db_Rf _ _ _ 0 [(0, .ref 284)] [] _ _ _
  unfold db_f197
  refine db_Rgo (pc' := 16) (lv' := [(0, .ref 284)]) (st' := [.int ((((s.1 284 9) * (2917 : Int32)) + (10613 : Int32)) - (((s.1 284 9) * (2917 : Int32)) + (10613 : Int32)) / (65536 : Int32) * (65536 : Int32)), .ref 284]) 9 rfl ?_
  refine db_RpuI (pc' := 19) (lv1 := [(0, .ref 284)]) rfl rfl rfl rfl rfl rfl (by decide) rfl rfl fun s1 => ?_
  refine db_Rgo (pc' := 23) (lv' := [(0, .ref 284)]) (st' := [.ref 20]) 2 rfl ?_
  refine db_RcyI (mr' := dbm_100) (as := [.ref 20]) (rest := []) (pc' := 26) (lv1 := [(0, .ref 284)]) rfl rfl rfl rfl rfl (db_f100_20_ok) fun q2 => ?_
  refine db_Rgo (pc' := 28) (lv' := [(1, .int q2), (0, .ref 284)]) (st' := [.int q2]) 2 rfl ?_
  refine db_Rif (pc' := 31) (tg := 43) (lv1 := [(1, .int q2), (0, .ref 284)]) rfl rfl rfl rfl ?_ ?_
  · refine db_Rgo (pc' := 44) (lv' := [(0, .ref 284)]) (st' := [.int (0 : Int32)]) 1 rfl ?_
    exact db_f197_b44_ok
  refine db_Rgo (pc' := 39) (lv' := [(1, .int q2), (0, .ref 284)]) (st' := [.int q2, .int ((s1.1 284 9) / (8 : Int32))]) 5 rfl ?_
  refine db_Rrem (pc' := 40) (lv1 := [(1, .int q2), (0, .ref 284)]) rfl rfl rfl ?_
  refine db_Rgo (pc' := 44) (lv' := [(1, .int q2), (0, .ref 284)]) (st' := [.int (((s1.1 284 9) / (8 : Int32)) - ((s1.1 284 9) / (8 : Int32)) / q2 * q2)]) 1 rfl ?_
  refine db_Rn (lv1 := [(0, .ref 284)]) rfl rfl rfl ?_
  exact db_f197_b44_ok
/-- java/lang/Integer.signum(I)I -/
noncomputable def db_f199 (s : db_S) (v0 : Int32) : Option Int32 :=
  (some ((v0 >>> ((31 : Int32) &&& 31)) ||| ((Int32.toUInt32 (-v0) >>> (Int32.toUInt32 (31 : Int32) &&& Int32.toUInt32 31)).toInt32)))
set_option maxRecDepth 100000 in
theorem db_f199_ok {X : db_X} {d : Nat} {s : db_S} {v0 : Int32} : db_Rf X (d + 0) dbm_199 0 (lv_args 0 [.int v0]) [] s (db_yI s) (db_f199 s v0) := by
  show db_Rf _ _ _ 0 [(0, .int v0)] [] _ _ _
  unfold db_f199
  refine db_Rgo (pc' := 10) (lv' := [(0, .int v0)]) (st' := [.int ((v0 >>> ((31 : Int32) &&& 31)) ||| ((Int32.toUInt32 (-v0) >>> (Int32.toUInt32 (31 : Int32) &&& Int32.toUInt32 31)).toInt32))]) 8 rfl ?_
  exact db_Rret (lv1 := [(0, .int v0)]) rfl rfl rfl rfl
/-- DreamBook$Runner.holds([I)Z -/
noncomputable def db_f198 (s : db_S) (a1 : Nat) : Option Bool :=
  ((db_rI s a1 (2 : Int32)).bind fun x1 => (cond (db_cnd .ne x1 (-1 : Int32)) ((db_rI s a1 (2 : Int32)).bind fun x2 => ((db_rI s 82 x2).bind fun x3 => ((db_rI s a1 (4 : Int32)).bind fun x4 => ((db_f199 s (x3 - x4)).bind fun q5 => ((db_rI s a1 (3 : Int32)).bind fun x7 => (cond (db_cnd .ne q5 x7) (some false) (some true))))))) ((db_rI s a1 (1 : Int32)).bind fun x8 => ((db_f104 s x8).bind fun q9 => (cond (db_cnd .ne q9 0) (some false) (some true))))))
set_option maxRecDepth 100000 in
theorem db_f198_ok {X : db_X} {d : Nat} {s : db_S} {a1 : Nat} : db_Rf X (d + 1) dbm_198 0 (lv_args 0 [.ref 284, .ref (a1 + 4)]) [] s (db_yB s) (db_f198 s (a1 + 4)) := by
  show db_Rf _ _ _ 0 [(0, .ref 284), (1, .ref (a1 + 4))] [] _ _ _
  unfold db_f198
  refine db_Rgo (pc' := 2) (lv' := [(0, .ref 284), (1, .ref (a1 + 4))]) (st' := [.int (2 : Int32), .ref (a1 + 4)]) 2 rfl ?_
  refine db_RldI (pc' := 3) (lv1 := [(0, .ref 284), (1, .ref (a1 + 4))]) rfl rfl rfl fun x1 => ?_
  refine db_Rgo (pc' := 4) (lv' := [(0, .ref 284), (1, .ref (a1 + 4))]) (st' := [.int (-1 : Int32), .int x1]) 1 rfl ?_
  refine db_Ric (pc' := 7) (tg := 26) (lv1 := [(0, .ref 284), (1, .ref (a1 + 4))]) rfl rfl rfl rfl ?_ ?_
  · refine db_Rgo (pc' := 35) (lv' := [(0, .ref 284), (1, .ref (a1 + 4))]) (st' := [.int (2 : Int32), .ref (a1 + 4), .ref 82]) 5 rfl ?_
    refine db_RldI (pc' := 36) (lv1 := [(0, .ref 284), (1, .ref (a1 + 4))]) rfl rfl rfl fun x2 => ?_
    refine db_RldI (pc' := 37) (lv1 := [(0, .ref 284), (1, .ref (a1 + 4))]) rfl rfl rfl fun x3 => ?_
    refine db_Rgo (pc' := 39) (lv' := [(0, .ref 284), (1, .ref (a1 + 4))]) (st' := [.int (4 : Int32), .ref (a1 + 4), .int x3]) 2 rfl ?_
    refine db_RldI (pc' := 40) (lv1 := [(0, .ref 284), (1, .ref (a1 + 4))]) rfl rfl rfl fun x4 => ?_
    refine db_Rgo (pc' := 41) (lv' := [(0, .ref 284), (1, .ref (a1 + 4))]) (st' := [.int (x3 - x4)]) 1 rfl ?_
    refine db_RcyI (mr' := dbm_199) (as := [.int (x3 - x4)]) (rest := []) (pc' := 44) (lv1 := [(0, .ref 284), (1, .ref (a1 + 4))]) rfl rfl rfl rfl rfl (db_f199_ok) fun q5 => ?_
    refine db_Rgo (pc' := 46) (lv' := [(0, .ref 284), (1, .ref (a1 + 4))]) (st' := [.int (3 : Int32), .ref (a1 + 4), .int q5]) 2 rfl ?_
    refine db_RldI (pc' := 47) (lv1 := [(0, .ref 284), (1, .ref (a1 + 4))]) rfl rfl rfl fun x7 => ?_
    refine db_Ric (pc' := 50) (tg := 54) (lv1 := [(0, .ref 284), (1, .ref (a1 + 4))]) rfl rfl rfl rfl ?_ ?_
    · refine db_Rgo (pc' := 55) (lv' := []) (st' := [.int (0 : Int32)]) 1 rfl ?_
      exact db_Rret (lv1 := []) rfl rfl rfl rfl
    refine db_Rgo (pc' := 55) (lv' := [(0, .ref 284), (1, .ref (a1 + 4))]) (st' := [.int (1 : Int32)]) 2 rfl ?_
    exact db_Rret (lv1 := []) rfl rfl rfl rfl
  refine db_Rgo (pc' := 13) (lv' := [(0, .ref 284), (1, .ref (a1 + 4))]) (st' := [.int (1 : Int32), .ref (a1 + 4), .ref 271]) 4 rfl ?_
  refine db_RldI (pc' := 14) (lv1 := [(0, .ref 284), (1, .ref (a1 + 4))]) rfl rfl rfl fun x8 => ?_
  refine db_RcyI (mr' := dbm_104) (as := [.ref 271, .int x8]) (rest := []) (pc' := 17) (lv1 := [(0, .ref 284), (1, .ref (a1 + 4))]) rfl rfl rfl rfl rfl (db_f104_ok) fun q9 => ?_
  refine db_Rif (pc' := 20) (tg := 24) (lv1 := [(0, .ref 284), (1, .ref (a1 + 4))]) rfl rfl rfl rfl ?_ ?_
  · refine db_Rgo (pc' := 25) (lv' := []) (st' := [.int (0 : Int32)]) 1 rfl ?_
    exact db_Rret (lv1 := []) rfl rfl rfl rfl
  refine db_Rgo (pc' := 25) (lv' := [(0, .ref 284), (1, .ref (a1 + 4))]) (st' := [.int (1 : Int32)]) 2 rfl ?_
  exact db_Rret (lv1 := []) rfl rfl rfl rfl
noncomputable def db_f196_b212 (s : db_S) (v1 : Int32) (t1 : Int32) (t2 : Int32) (t3 : Int32) : Option (Int32 × db_S) :=
  ((db_wI s 286 t1 (t2 + t3)).bind fun s1 => (some ((v1 + (1 : Int32)), s1)))
set_option maxRecDepth 100000 in
theorem db_f196_b212_ok {X : db_X} {d : Nat}  {s : db_S} {v1 : Int32} {t1 : Int32} {t2 : Int32} {t3 : Int32} : db_Rf X (d + 4) dbm_196 212 [(1, .int v1)] [.int t3, .int t2, .int t1, .ref 286] s db_zI (db_f196_b212 s v1 t1 t2 t3) := by
  unfold db_f196_b212
  refine db_Rgo (pc' := 213) (lv' := [(1, .int v1)]) (st' := [.int (t2 + t3), .int t1, .ref 286]) 1 rfl ?_
  refine db_RstI (pc' := 214) (lv1 := [(1, .int v1)]) rfl rfl rfl fun s1 => ?_
  refine db_Rgo (pc' := 217) (lv' := [(1, .int v1)]) (st' := [.int (v1 + (1 : Int32))]) 3 rfl ?_
  exact db_Rret (lv1 := [(1, .int v1)]) rfl rfl rfl rfl
noncomputable def db_f196_b196 (s : db_S) (v1 : Int32) (v3 : Int32) : Option (Int32 × db_S) :=
  ((db_rI s 286 (0 : Int32)).bind fun x1 => (cond (db_cnd .eq v3 0) (db_f196_b212 s v1 (0 : Int32) x1 (1 : Int32)) (db_f196_b212 s v1 (0 : Int32) x1 (0 : Int32))))
set_option maxRecDepth 100000 in
theorem db_f196_b196_ok {X : db_X} {d : Nat}  {s : db_S} {v1 : Int32} {v3 : Int32} : db_Rf X (d + 4) dbm_196 196 [(0, .ref 284), (1, .int v1), (3, .int v3)] [] s db_zI (db_f196_b196 s v1 v3) := by
  unfold db_f196_b196
  refine db_Rgo (pc' := 202) (lv' := [(0, .ref 284), (1, .int v1), (3, .int v3)]) (st' := [.int (0 : Int32), .ref 286, .int (0 : Int32), .ref 286]) 4 rfl ?_
  refine db_RldI (pc' := 203) (lv1 := [(0, .ref 284), (1, .int v1), (3, .int v3)]) rfl rfl rfl fun x1 => ?_
  refine db_Rgo (pc' := 204) (lv' := [(0, .ref 284), (1, .int v1), (3, .int v3)]) (st' := [.int v3, .int x1, .int (0 : Int32), .ref 286]) 1 rfl ?_
  refine db_Rif (pc' := 207) (tg := 211) (lv1 := [(0, .ref 284), (1, .int v1), (3, .int v3)]) rfl rfl rfl rfl ?_ ?_
  · refine db_Rgo (pc' := 212) (lv' := [(1, .int v1)]) (st' := [.int (1 : Int32), .int x1, .int (0 : Int32), .ref 286]) 1 rfl ?_
    exact db_f196_b212_ok
  refine db_Rgo (pc' := 212) (lv' := [(0, .ref 284), (1, .int v1), (3, .int v3)]) (st' := [.int (0 : Int32), .int x1, .int (0 : Int32), .ref 286]) 2 rfl ?_
  refine db_Rn (lv1 := [(1, .int v1)]) rfl rfl rfl ?_
  exact db_f196_b212_ok
noncomputable def db_f196_b103 (s : db_S) (v1 : Int32) (t0 : Int32) : Option (Int32 × db_S) :=
  (db_f196_b196 s v1 t0)
set_option maxRecDepth 100000 in
theorem db_f196_b103_ok {X : db_X} {d : Nat}  {s : db_S} {v1 : Int32} {t0 : Int32} : db_Rf X (d + 4) dbm_196 103 [(0, .ref 284), (1, .int v1)] [.int t0] s db_zI (db_f196_b103 s v1 t0) := by
  unfold db_f196_b103
  refine db_Rgo (pc' := 196) (lv' := [(3, .int t0), (0, .ref 284), (1, .int v1)]) (st' := []) 2 rfl ?_
  refine db_Rn (lv1 := [(0, .ref 284), (1, .int v1), (3, .int t0)]) rfl rfl rfl ?_
  exact db_f196_b196_ok
noncomputable def db_f196_b102 (s : db_S) (v1 : Int32) : Option (Int32 × db_S) :=
  (db_f196_b103 s v1 (0 : Int32))
set_option maxRecDepth 100000 in
theorem db_f196_b102_ok {X : db_X} {d : Nat}  {s : db_S} {v1 : Int32} : db_Rf X (d + 4) dbm_196 102 [(0, .ref 284), (1, .int v1)] [] s db_zI (db_f196_b102 s v1) := by
  unfold db_f196_b102
  refine db_Rgo (pc' := 103) (lv' := [(0, .ref 284), (1, .int v1)]) (st' := [.int (0 : Int32)]) 1 rfl ?_
  exact db_f196_b103_ok
noncomputable def db_f196_b140 (s : db_S) (v1 : Int32) (a2 : Nat) (t0 : Int32) : Option (Int32 × db_S) :=
  ((db_rI s a2 (1 : Int32)).bind fun x1 => ((db_wI s 81 x1 (0 : Int32)).bind fun s2 => (db_f196_b196 s2 v1 t0)))
set_option maxRecDepth 100000 in
theorem db_f196_b140_ok {X : db_X} {d : Nat}  {s : db_S} {v1 : Int32} {a2 : Nat} {t0 : Int32} : db_Rf X (d + 4) dbm_196 140 [(0, .ref 284), (1, .int v1), (2, .ref (a2 + 4))] [.int t0] s db_zI (db_f196_b140 s v1 (a2 + 4) t0) := by
  unfold db_f196_b140
  refine db_Rgo (pc' := 150) (lv' := [(3, .int t0), (0, .ref 284), (1, .int v1), (2, .ref (a2 + 4))]) (st' := [.int (1 : Int32), .ref (a2 + 4), .ref 81]) 6 rfl ?_
  refine db_RldI (pc' := 151) (lv1 := [(3, .int t0), (0, .ref 284), (1, .int v1), (2, .ref (a2 + 4))]) rfl rfl rfl fun x1 => ?_
  refine db_Rgo (pc' := 152) (lv' := [(3, .int t0), (0, .ref 284), (1, .int v1), (2, .ref (a2 + 4))]) (st' := [.int (0 : Int32), .int x1, .ref 81]) 1 rfl ?_
  refine db_RstI (pc' := 153) (lv1 := [(3, .int t0), (0, .ref 284), (1, .int v1), (2, .ref (a2 + 4))]) rfl rfl rfl fun s2 => ?_
  refine db_Rgo (pc' := 196) (lv' := [(3, .int t0), (0, .ref 284), (1, .int v1), (2, .ref (a2 + 4))]) (st' := []) 1 rfl ?_
  refine db_Rn (lv1 := [(0, .ref 284), (1, .int v1), (3, .int t0)]) rfl rfl rfl ?_
  exact db_f196_b196_ok
/-- DreamBook$Runner.doStep(I)I -/
noncomputable def db_f196 (s : db_S) (v1 : Int32) : Option (Int32 × db_S) :=
  ((db_rR 84 v1).bind fun y1 => ((db_rI s y1 (0 : Int32)).bind fun x2 => (if x2 = (18 : Int32) then ((db_rI s y1 (1 : Int32)).bind fun x3 => ((db_rI s y1 (2 : Int32)).bind fun x4 => ((db_rI s y1 (3 : Int32)).bind fun x5 => (db_bd (db_f137 s x3 x4 x5) fun q6 s7 => (db_f196_b196 s7 v1 (db_i q6)))))) else (if x2 = (19 : Int32) then ((db_rI s 21 (5 : Int32)).bind fun x8 => (cond (db_cnd .le x8 0) (db_f196_b102 s v1) (db_bd (db_f197 s) fun q9 s10 => ((db_rI s10 y1 (2 : Int32)).bind fun x11 => ((db_rI s10 y1 (3 : Int32)).bind fun x12 => (db_bd (db_f137 s10 q9 x11 x12) fun q13 s14 => (cond q13 (db_f196_b103 s14 v1 (1 : Int32)) (db_f196_b102 s14 v1)))))))) else (if x2 = (20 : Int32) then ((db_rI s y1 (1 : Int32)).bind fun x15 => (db_bd (db_f121_80 s x15) fun q16 s17 => (db_f196_b196 s17 v1 (db_i q16)))) else (if x2 = (21 : Int32) then ((db_rI s y1 (1 : Int32)).bind fun x18 => ((db_rI s 81 x18).bind fun x19 => (cond (db_cnd .le x19 0) (db_f196_b140 s v1 y1 (0 : Int32)) (db_f196_b140 s v1 y1 (1 : Int32))))) else (if x2 = (22 : Int32) then ((db_f198 s y1).bind fun q20 => (cond q20 (some ((v1 + (1 : Int32)), s)) ((db_rI s y1 (5 : Int32)).bind fun x22 => (some ((x22 + (1 : Int32)), s))))) else (if x2 = (23 : Int32) then ((db_rI s y1 (4 : Int32)).bind fun x23 => ((db_wI s 290 v1 x23).bind fun s24 => (db_f196_b196 s24 v1 (1 : Int32)))) else (some ((s.1 83 2), s))))))))))
set_option maxRecDepth 100000 in
theorem db_f196_ok {X : db_X} {d : Nat} {s : db_S} {v1 : Int32} : db_Rf X (d + 4) dbm_196 0 (lv_args 0 [.ref 284, .int v1]) [] s db_zI (db_f196 s v1) := by
  show db_Rf _ _ _ 0 [(0, .ref 284), (1, .int v1)] [] _ _ _
  unfold db_f196
  refine db_Rgo (pc' := 8) (lv' := [(0, .ref 284), (1, .int v1)]) (st' := [.int v1, .ref 84]) 4 rfl ?_
  refine db_RldR (pc' := 9) (lv1 := [(0, .ref 284), (1, .int v1)]) rfl rfl rfl fun y1 => ?_
  refine db_Rgo (pc' := 14) (lv' := [(3, .int (1 : Int32)), (2, .ref (y1 + 4)), (0, .ref 284), (1, .int v1)]) (st' := [.int (0 : Int32), .ref (y1 + 4)]) 5 rfl ?_
  refine db_RldI (pc' := 15) (lv1 := [(3, .int (1 : Int32)), (2, .ref (y1 + 4)), (0, .ref 284), (1, .int v1)]) rfl rfl rfl fun x2 => ?_
  refine db_Rsw (v := (18 : Int32)) (tg := 52) (lv1 := [(3, .int (1 : Int32)), (2, .ref (y1 + 4)), (0, .ref 284), (1, .int v1)]) rfl rfl rfl rfl rfl ?_ (fun zc25 => ?_)
  · refine db_Rgo (pc' := 55) (lv' := [(0, .ref 284), (1, .int v1), (2, .ref (y1 + 4))]) (st' := [.int (1 : Int32), .ref (y1 + 4), .ref 284]) 3 rfl ?_
    refine db_RldI (pc' := 56) (lv1 := [(0, .ref 284), (1, .int v1), (2, .ref (y1 + 4))]) rfl rfl rfl fun x3 => ?_
    refine db_Rgo (pc' := 58) (lv' := [(0, .ref 284), (1, .int v1), (2, .ref (y1 + 4))]) (st' := [.int (2 : Int32), .ref (y1 + 4), .int x3, .ref 284]) 2 rfl ?_
    refine db_RldI (pc' := 59) (lv1 := [(0, .ref 284), (1, .int v1), (2, .ref (y1 + 4))]) rfl rfl rfl fun x4 => ?_
    refine db_Rgo (pc' := 61) (lv' := [(0, .ref 284), (1, .int v1), (2, .ref (y1 + 4))]) (st' := [.int (3 : Int32), .ref (y1 + 4), .int x4, .int x3, .ref 284]) 2 rfl ?_
    refine db_RldI (pc' := 62) (lv1 := [(0, .ref 284), (1, .int v1), (2, .ref (y1 + 4))]) rfl rfl rfl fun x5 => ?_
    refine db_RcdB (mr' := dbm_137) (as := [.ref 284, .int x3, .int x4, .int x5]) (rest := []) (pc' := 65) (lv1 := [(0, .ref 284), (1, .int v1), (2, .ref (y1 + 4))]) rfl rfl rfl rfl rfl (db_f137_ok) fun q6 s7 => ?_
    refine db_Rgo (pc' := 196) (lv' := [(3, .int (db_i q6)), (0, .ref 284), (1, .int v1), (2, .ref (y1 + 4))]) (st' := []) 2 rfl ?_
    refine db_Rn (lv1 := [(0, .ref 284), (1, .int v1), (3, .int (db_i q6))]) rfl rfl rfl ?_
    exact db_f196_b196_ok
  refine db_Rsw (v := (19 : Int32)) (tg := 69) (lv1 := [(3, .int (1 : Int32)), (2, .ref (y1 + 4)), (0, .ref 284), (1, .int v1)]) rfl rfl rfl rfl rfl ?_ (fun zc26 => ?_)
  · refine db_Rgo (pc' := 77) (lv' := [(0, .ref 284), (1, .int v1), (2, .ref (y1 + 4))]) (st' := [.int (5 : Int32), .ref 21]) 4 rfl ?_
    refine db_RldI (pc' := 78) (lv1 := [(0, .ref 284), (1, .int v1), (2, .ref (y1 + 4))]) rfl rfl rfl fun x8 => ?_
    refine db_Rif (pc' := 81) (tg := 102) (lv1 := [(0, .ref 284), (1, .int v1), (2, .ref (y1 + 4))]) rfl rfl rfl rfl ?_ ?_
    · refine db_Rn (lv1 := [(0, .ref 284), (1, .int v1)]) rfl rfl rfl ?_
      exact db_f196_b102_ok
    refine db_Rgo (pc' := 83) (lv' := [(0, .ref 284), (1, .int v1), (2, .ref (y1 + 4))]) (st' := [.ref 284, .ref 284]) 2 rfl ?_
    refine db_RcdI (mr' := dbm_197) (as := [.ref 284]) (rest := [.ref 284]) (pc' := 86) (lv1 := [(0, .ref 284), (1, .int v1), (2, .ref (y1 + 4))]) rfl rfl rfl rfl rfl (db_f197_ok) fun q9 s10 => ?_
    refine db_Rgo (pc' := 88) (lv' := [(0, .ref 284), (1, .int v1), (2, .ref (y1 + 4))]) (st' := [.int (2 : Int32), .ref (y1 + 4), .int q9, .ref 284]) 2 rfl ?_
    refine db_RldI (pc' := 89) (lv1 := [(0, .ref 284), (1, .int v1), (2, .ref (y1 + 4))]) rfl rfl rfl fun x11 => ?_
    refine db_Rgo (pc' := 91) (lv' := [(0, .ref 284), (1, .int v1), (2, .ref (y1 + 4))]) (st' := [.int (3 : Int32), .ref (y1 + 4), .int x11, .int q9, .ref 284]) 2 rfl ?_
    refine db_RldI (pc' := 92) (lv1 := [(0, .ref 284), (1, .int v1), (2, .ref (y1 + 4))]) rfl rfl rfl fun x12 => ?_
    refine db_RcdB (mr' := dbm_137) (as := [.ref 284, .int q9, .int x11, .int x12]) (rest := []) (pc' := 95) (lv1 := [(0, .ref 284), (1, .int v1), (2, .ref (y1 + 4))]) rfl rfl rfl rfl rfl (db_f137_ok) fun q13 s14 => ?_
    refine db_RifBe (pc' := 98) (tg := 102) (lv1 := [(0, .ref 284), (1, .int v1), (2, .ref (y1 + 4))]) rfl rfl rfl rfl ?_ ?_
    · refine db_Rn (lv1 := [(0, .ref 284), (1, .int v1)]) rfl rfl rfl ?_
      exact db_f196_b102_ok
    refine db_Rgo (pc' := 103) (lv' := [(0, .ref 284), (1, .int v1), (2, .ref (y1 + 4))]) (st' := [.int (1 : Int32)]) 2 rfl ?_
    refine db_Rn (lv1 := [(0, .ref 284), (1, .int v1)]) rfl rfl rfl ?_
    exact db_f196_b103_ok
  refine db_Rsw (v := (20 : Int32)) (tg := 107) (lv1 := [(3, .int (1 : Int32)), (2, .ref (y1 + 4)), (0, .ref 284), (1, .int v1)]) rfl rfl rfl rfl rfl ?_ (fun zc27 => ?_)
  · refine db_Rgo (pc' := 113) (lv' := [(0, .ref 284), (1, .int v1), (2, .ref (y1 + 4))]) (st' := [.int (1 : Int32), .ref (y1 + 4), .ref 80]) 4 rfl ?_
    refine db_RldI (pc' := 114) (lv1 := [(0, .ref 284), (1, .int v1), (2, .ref (y1 + 4))]) rfl rfl rfl fun x15 => ?_
    refine db_RcdB (mr' := dbm_121) (as := [.ref 80, .int x15]) (rest := []) (pc' := 117) (lv1 := [(0, .ref 284), (1, .int v1), (2, .ref (y1 + 4))]) rfl rfl rfl rfl rfl (db_f121_80_ok) fun q16 s17 => ?_
    refine db_Rgo (pc' := 196) (lv' := [(3, .int (db_i q16)), (0, .ref 284), (1, .int v1), (2, .ref (y1 + 4))]) (st' := []) 2 rfl ?_
    refine db_Rn (lv1 := [(0, .ref 284), (1, .int v1), (3, .int (db_i q16))]) rfl rfl rfl ?_
    exact db_f196_b196_ok
  refine db_Rsw (v := (21 : Int32)) (tg := 121) (lv1 := [(3, .int (1 : Int32)), (2, .ref (y1 + 4)), (0, .ref 284), (1, .int v1)]) rfl rfl rfl rfl rfl ?_ (fun zc28 => ?_)
  · refine db_Rgo (pc' := 130) (lv' := [(0, .ref 284), (1, .int v1), (2, .ref (y1 + 4))]) (st' := [.int (1 : Int32), .ref (y1 + 4), .ref 81]) 5 rfl ?_
    refine db_RldI (pc' := 131) (lv1 := [(0, .ref 284), (1, .int v1), (2, .ref (y1 + 4))]) rfl rfl rfl fun x18 => ?_
    refine db_RldI (pc' := 132) (lv1 := [(0, .ref 284), (1, .int v1), (2, .ref (y1 + 4))]) rfl rfl rfl fun x19 => ?_
    refine db_Rif (pc' := 135) (tg := 139) (lv1 := [(0, .ref 284), (1, .int v1), (2, .ref (y1 + 4))]) rfl rfl rfl rfl ?_ ?_
    · refine db_Rgo (pc' := 140) (lv' := [(0, .ref 284), (1, .int v1), (2, .ref (y1 + 4))]) (st' := [.int (0 : Int32)]) 1 rfl ?_
      exact db_f196_b140_ok
    refine db_Rgo (pc' := 140) (lv' := [(0, .ref 284), (1, .int v1), (2, .ref (y1 + 4))]) (st' := [.int (1 : Int32)]) 2 rfl ?_
    exact db_f196_b140_ok
  refine db_Rsw (v := (22 : Int32)) (tg := 156) (lv1 := [(3, .int (1 : Int32)), (2, .ref (y1 + 4)), (0, .ref 284), (1, .int v1)]) rfl rfl rfl rfl rfl ?_ (fun zc29 => ?_)
  · refine db_Rgo (pc' := 158) (lv' := [(0, .ref 284), (1, .int v1), (2, .ref (y1 + 4))]) (st' := [.ref (y1 + 4), .ref 284]) 2 rfl ?_
    refine db_RcyB (mr' := dbm_198) (as := [.ref 284, .ref (y1 + 4)]) (rest := []) (pc' := 161) (lv1 := [(0, .ref 284), (1, .int v1), (2, .ref (y1 + 4))]) rfl rfl rfl rfl rfl (db_f198_ok) fun q20 => ?_
    refine db_RifBe (pc' := 164) (tg := 170) (lv1 := [(0, .ref 284), (1, .int v1), (2, .ref (y1 + 4))]) rfl rfl rfl rfl ?_ ?_
    · refine db_Rgo (pc' := 172) (lv' := [(2, .ref (y1 + 4))]) (st' := [.int (5 : Int32), .ref (y1 + 4)]) 2 rfl ?_
      refine db_RldI (pc' := 173) (lv1 := [(2, .ref (y1 + 4))]) rfl rfl rfl fun x22 => ?_
      refine db_Rgo (pc' := 175) (lv' := [(2, .ref (y1 + 4))]) (st' := [.int (x22 + (1 : Int32))]) 2 rfl ?_
      exact db_Rret (lv1 := []) rfl rfl rfl rfl
    refine db_Rgo (pc' := 175) (lv' := [(0, .ref 284), (1, .int v1), (2, .ref (y1 + 4))]) (st' := [.int (v1 + (1 : Int32))]) 4 rfl ?_
    exact db_Rret (lv1 := []) rfl rfl rfl rfl
  refine db_Rsw (v := (23 : Int32)) (tg := 176) (lv1 := [(3, .int (1 : Int32)), (2, .ref (y1 + 4)), (0, .ref 284), (1, .int v1)]) rfl rfl rfl rfl rfl ?_ (fun zc30 => ?_)
  · refine db_Rgo (pc' := 183) (lv' := [(0, .ref 284), (1, .int v1), (2, .ref (y1 + 4)), (3, .int (1 : Int32))]) (st' := [.int (4 : Int32), .ref (y1 + 4), .int v1, .ref 290]) 5 rfl ?_
    refine db_RldI (pc' := 184) (lv1 := [(0, .ref 284), (1, .int v1), (2, .ref (y1 + 4)), (3, .int (1 : Int32))]) rfl rfl rfl fun x23 => ?_
    refine db_RstI (pc' := 185) (lv1 := [(0, .ref 284), (1, .int v1), (2, .ref (y1 + 4)), (3, .int (1 : Int32))]) rfl rfl rfl fun s24 => ?_
    refine db_Rgo (pc' := 196) (lv' := [(0, .ref 284), (1, .int v1), (2, .ref (y1 + 4)), (3, .int (1 : Int32))]) (st' := []) 1 rfl ?_
    refine db_Rn (lv1 := [(0, .ref 284), (1, .int v1), (3, .int (1 : Int32))]) rfl rfl rfl ?_
    exact db_f196_b196_ok
  refine db_Rsd (tg := 188) (lv1 := [(3, .int (1 : Int32)), (2, .ref (y1 + 4)), (0, .ref 284), (1, .int v1)]) rfl rfl (db_swd 6 (by decide) (fun k hk => by match k, hk with | 0, _ => exact zc25 | 1, _ => exact zc26 | 2, _ => exact zc27 | 3, _ => exact zc28 | 4, _ => exact zc29 | 5, _ => exact zc30 | k + 6, hk => exact absurd hk (by omega))) rfl ?_
  refine db_Rgo (pc' := 195) (lv' := [(0, .ref 284)]) (st' := [.int (s.1 83 2)]) 3 rfl ?_
  exact db_Rret (lv1 := [(0, .ref 284)]) rfl rfl rfl rfl
/-- DreamBook$Runner.leave(I)I -/
noncomputable def db_f195 (s : db_S) (v1 : Int32) : Option (Int32 × db_S) :=
  ((db_rR 84 v1).bind fun y1 => ((db_rI s y1 (5 : Int32)).bind fun x2 => ((db_rR 84 x2).bind fun y3 => ((db_rI s y3 (0 : Int32)).bind fun x4 => (cond (db_cnd .ne x4 (23 : Int32)) (some ((v1 + (1 : Int32)), s)) ((db_rI s 290 x2).bind fun x5 => ((db_wI s 290 x2 (x5 - (1 : Int32))).bind fun s6 => ((db_rI s6 290 x2).bind fun x7 => (cond (db_cnd .le x7 0) (some ((v1 + (1 : Int32)), s6)) (some ((x2 + (1 : Int32)), s6)))))))))))
set_option maxRecDepth 100000 in
theorem db_f195_ok {X : db_X} {d : Nat} {s : db_S} {v1 : Int32} : db_Rf X (d + 0) dbm_195 0 (lv_args 0 [.ref 284, .int v1]) [] s db_zI (db_f195 s v1) := by
  show db_Rf _ _ _ 0 [(0, .ref 284), (1, .int v1)] [] _ _ _
  unfold db_f195
  refine db_Rgo (pc' := 8) (lv' := [(0, .ref 284), (1, .int v1)]) (st' := [.int v1, .ref 84]) 4 rfl ?_
  refine db_RldR (pc' := 9) (lv1 := [(0, .ref 284), (1, .int v1)]) rfl rfl rfl fun y1 => ?_
  refine db_Rgo (pc' := 10) (lv' := [(0, .ref 284), (1, .int v1)]) (st' := [.int (5 : Int32), .ref (y1 + 4)]) 1 rfl ?_
  refine db_RldI (pc' := 11) (lv1 := [(0, .ref 284), (1, .int v1)]) rfl rfl rfl fun x2 => ?_
  refine db_Rgo (pc' := 20) (lv' := [(2, .int x2), (0, .ref 284), (1, .int v1)]) (st' := [.int x2, .ref 84]) 5 rfl ?_
  refine db_RldR (pc' := 21) (lv1 := [(2, .int x2), (0, .ref 284), (1, .int v1)]) rfl rfl rfl fun y3 => ?_
  refine db_Rgo (pc' := 22) (lv' := [(2, .int x2), (0, .ref 284), (1, .int v1)]) (st' := [.int (0 : Int32), .ref (y3 + 4)]) 1 rfl ?_
  refine db_RldI (pc' := 23) (lv1 := [(2, .int x2), (0, .ref 284), (1, .int v1)]) rfl rfl rfl fun x4 => ?_
  refine db_Rgo (pc' := 25) (lv' := [(2, .int x2), (0, .ref 284), (1, .int v1)]) (st' := [.int (23 : Int32), .int x4]) 1 rfl ?_
  refine db_Ric (pc' := 28) (tg := 51) (lv1 := [(2, .int x2), (0, .ref 284), (1, .int v1)]) rfl rfl rfl rfl ?_ ?_
  · refine db_Rgo (pc' := 54) (lv' := [(1, .int v1)]) (st' := [.int (v1 + (1 : Int32))]) 3 rfl ?_
    exact db_Rret (lv1 := [(1, .int v1)]) rfl rfl rfl rfl
  refine db_Rgo (pc' := 34) (lv' := [(2, .int x2), (0, .ref 284), (1, .int v1)]) (st' := [.int x2, .ref 290, .int x2, .ref 290]) 4 rfl ?_
  refine db_RldI (pc' := 35) (lv1 := [(2, .int x2), (0, .ref 284), (1, .int v1)]) rfl rfl rfl fun x5 => ?_
  refine db_Rgo (pc' := 37) (lv' := [(2, .int x2), (0, .ref 284), (1, .int v1)]) (st' := [.int (x5 - (1 : Int32)), .int x2, .ref 290]) 2 rfl ?_
  refine db_RstI (pc' := 38) (lv1 := [(2, .int x2), (0, .ref 284), (1, .int v1)]) rfl rfl rfl fun s6 => ?_
  refine db_Rgo (pc' := 43) (lv' := [(2, .int x2), (0, .ref 284), (1, .int v1)]) (st' := [.int x2, .ref 290]) 3 rfl ?_
  refine db_RldI (pc' := 44) (lv1 := [(2, .int x2), (0, .ref 284), (1, .int v1)]) rfl rfl rfl fun x7 => ?_
  refine db_Rif (pc' := 47) (tg := 51) (lv1 := [(2, .int x2), (0, .ref 284), (1, .int v1)]) rfl rfl rfl rfl ?_ ?_
  · refine db_Rgo (pc' := 54) (lv' := [(1, .int v1)]) (st' := [.int (v1 + (1 : Int32))]) 3 rfl ?_
    exact db_Rret (lv1 := [(1, .int v1)]) rfl rfl rfl rfl
  refine db_Rgo (pc' := 50) (lv' := [(2, .int x2), (0, .ref 284), (1, .int v1)]) (st' := [.int (x2 + (1 : Int32))]) 3 rfl ?_
  exact db_Rret (lv1 := [(2, .int x2), (0, .ref 284), (1, .int v1)]) rfl rfl rfl rfl
noncomputable def db_f194_b88 (h20 : db_S → Int32 → Int32 → Int32 → Option (Int32 × db_S)) (s : db_S) (v2 : Int32) (v3 : Int32) (v4 : Int32) : Option (Int32 × db_S) :=
  (h20 s v2 v3 (v4 + (1 : Int32)))
set_option maxRecDepth 100000 in
theorem db_f194_b88_ok {X : db_X} {d : Nat}  {h20 : db_S → Int32 → Int32 → Int32 → Option (Int32 × db_S)} {s : db_S} {v2 : Int32} {v3 : Int32} {v4 : Int32} (zh20 : ∀ (s' : db_S) (v2 : Int32) (v3 : Int32) (v4 : Int32) , db_Rf X (d + 5) dbm_194 20 [(0, .ref 284), (2, .int v2), (3, .int v3), (4, .int v4)] [] s' db_zI (h20 s' v2 v3 v4)) : db_Rf X (d + 5) dbm_194 88 [(0, .ref 284), (2, .int v2), (3, .int v3), (4, .int v4)] [] s db_zI (db_f194_b88 h20 s v2 v3 v4) := by
  unfold db_f194_b88
  refine db_Rgo (pc' := 20) (lv' := [(4, .int (v4 + (1 : Int32))), (0, .ref 284), (2, .int v2), (3, .int v3)]) (st' := []) 2 rfl ?_
  refine db_Rn (lv1 := [(0, .ref 284), (2, .int v2), (3, .int v3), (4, .int (v4 + (1 : Int32)))]) rfl rfl rfl ?_
  exact zh20 _ _ _ _
noncomputable def db_f194_b20 : Nat → db_S → Int32 → Int32 → Int32 → Option (Int32 × db_S)
  | 0, _, _, _, _ => none
  | n + 1, s, v2, v3, v4 =>
    (cond (db_cnd .ge v4 (1000000 : Int32)) (some (v2, s)) (cond (db_cnd .ge v3 (s.1 83 2)) (some (v2, s)) ((db_rR 84 v3).bind fun y1 => ((db_rI s y1 (0 : Int32)).bind fun x2 => (cond (db_cnd .ne x2 (25 : Int32)) (cond (db_cnd .ne v2 (300 : Int32)) (db_bd (db_f196 s v3) fun q3 s4 => (db_f194_b88 (db_f194_b20 n) s4 (v2 + (1 : Int32)) q3 v4)) ((db_wI s 286 (4 : Int32) (1 : Int32)).bind fun s5 => (some (v2, s5)))) (db_bd (db_f195 s v3) fun q6 s7 => (db_f194_b88 (db_f194_b20 n) s7 v2 q6 v4)))))))
set_option maxRecDepth 100000 in
theorem db_f194_b20_ok {X : db_X} {d : Nat}  (n : Nat) : ∀ (s : db_S) (v2 : Int32) (v3 : Int32) (v4 : Int32), db_Rf X (d + 5) dbm_194 20 [(0, .ref 284), (2, .int v2), (3, .int v3), (4, .int v4)] [] s db_zI (db_f194_b20 n s v2 v3 v4) := by
  induction n with
  | zero => intros; exact db_Rnone
  | succ n ih =>
    intro s v2 v3 v4
    unfold db_f194_b20
    refine db_Rgo (pc' := 24) (lv' := [(0, .ref 284), (2, .int v2), (3, .int v3), (4, .int v4)]) (st' := [.int (1000000 : Int32), .int v4]) 2 rfl ?_
    refine db_Ric (pc' := 27) (tg := 94) (lv1 := [(0, .ref 284), (2, .int v2), (3, .int v3), (4, .int v4)]) rfl rfl rfl rfl ?_ ?_
    · refine db_Rgo (pc' := 95) (lv' := [(2, .int v2)]) (st' := [.int v2]) 1 rfl ?_
      exact db_Rret (lv1 := [(2, .int v2)]) rfl rfl rfl rfl
    refine db_Rgo (pc' := 35) (lv' := [(0, .ref 284), (2, .int v2), (3, .int v3), (4, .int v4)]) (st' := [.int (s.1 83 2), .int v3]) 4 rfl ?_
    refine db_Ric (pc' := 38) (tg := 94) (lv1 := [(0, .ref 284), (2, .int v2), (3, .int v3), (4, .int v4)]) rfl rfl rfl rfl ?_ ?_
    · refine db_Rgo (pc' := 95) (lv' := [(2, .int v2)]) (st' := [.int v2]) 1 rfl ?_
      exact db_Rret (lv1 := [(2, .int v2)]) rfl rfl rfl rfl
    refine db_Rgo (pc' := 46) (lv' := [(0, .ref 284), (2, .int v2), (3, .int v3), (4, .int v4)]) (st' := [.int v3, .ref 84]) 4 rfl ?_
    refine db_RldR (pc' := 47) (lv1 := [(0, .ref 284), (2, .int v2), (3, .int v3), (4, .int v4)]) rfl rfl rfl fun y1 => ?_
    refine db_Rgo (pc' := 48) (lv' := [(0, .ref 284), (2, .int v2), (3, .int v3), (4, .int v4)]) (st' := [.int (0 : Int32), .ref (y1 + 4)]) 1 rfl ?_
    refine db_RldI (pc' := 49) (lv1 := [(0, .ref 284), (2, .int v2), (3, .int v3), (4, .int v4)]) rfl rfl rfl fun x2 => ?_
    refine db_Rgo (pc' := 51) (lv' := [(0, .ref 284), (2, .int v2), (3, .int v3), (4, .int v4)]) (st' := [.int (25 : Int32), .int x2]) 1 rfl ?_
    refine db_Ric (pc' := 54) (tg := 63) (lv1 := [(0, .ref 284), (2, .int v2), (3, .int v3), (4, .int v4)]) rfl rfl rfl rfl ?_ ?_
    · refine db_Rgo (pc' := 67) (lv' := [(0, .ref 284), (2, .int v2), (3, .int v3), (4, .int v4)]) (st' := [.int (300 : Int32), .int v2]) 2 rfl ?_
      refine db_Ric (pc' := 70) (tg := 79) (lv1 := [(0, .ref 284), (2, .int v2), (3, .int v3), (4, .int v4)]) rfl rfl rfl rfl ?_ ?_
      · refine db_Rgo (pc' := 84) (lv' := [(2, .int (v2 + (1 : Int32))), (0, .ref 284), (3, .int v3), (4, .int v4)]) (st' := [.int v3, .ref 284]) 3 rfl ?_
        refine db_RcdI (mr' := dbm_196) (as := [.ref 284, .int v3]) (rest := []) (pc' := 87) (lv1 := [(2, .int (v2 + (1 : Int32))), (0, .ref 284), (3, .int v3), (4, .int v4)]) rfl rfl rfl rfl rfl (db_f196_ok) fun q3 s4 => ?_
        refine db_Rgo (pc' := 88) (lv' := [(3, .int q3), (2, .int (v2 + (1 : Int32))), (0, .ref 284), (4, .int v4)]) (st' := []) 1 rfl ?_
        refine db_Rn (lv1 := [(0, .ref 284), (2, .int (v2 + (1 : Int32))), (3, .int q3), (4, .int v4)]) rfl rfl rfl ?_
        exact db_f194_b88_ok ih
      refine db_Rgo (pc' := 76) (lv' := [(0, .ref 284), (2, .int v2), (3, .int v3), (4, .int v4)]) (st' := [.int (1 : Int32), .int (4 : Int32), .ref 286]) 4 rfl ?_
      refine db_RstI (pc' := 77) (lv1 := [(0, .ref 284), (2, .int v2), (3, .int v3), (4, .int v4)]) rfl rfl rfl fun s5 => ?_
      refine db_Rgo (pc' := 78) (lv' := [(0, .ref 284), (2, .int v2), (3, .int v3), (4, .int v4)]) (st' := [.int v2]) 1 rfl ?_
      exact db_Rret (lv1 := [(0, .ref 284), (2, .int v2), (3, .int v3), (4, .int v4)]) rfl rfl rfl rfl
    refine db_Rgo (pc' := 56) (lv' := [(0, .ref 284), (2, .int v2), (3, .int v3), (4, .int v4)]) (st' := [.int v3, .ref 284]) 2 rfl ?_
    refine db_RcdI (mr' := dbm_195) (as := [.ref 284, .int v3]) (rest := []) (pc' := 59) (lv1 := [(0, .ref 284), (2, .int v2), (3, .int v3), (4, .int v4)]) rfl rfl rfl rfl rfl (db_f195_ok) fun q6 s7 => ?_
    refine db_Rgo (pc' := 88) (lv' := [(3, .int q6), (0, .ref 284), (2, .int v2), (4, .int v4)]) (st' := []) 2 rfl ?_
    refine db_Rn (lv1 := [(0, .ref 284), (2, .int v2), (3, .int q6), (4, .int v4)]) rfl rfl rfl ?_
    exact db_f194_b88_ok ih
/-- DreamBook$Runner.run(I)I -/
noncomputable def db_f194 (s : db_S) (v1 : Int32) : Option (Int32 × db_S) :=
  ((db_f2 s 286 (0 : Int32)).bind fun s2 => ((db_pI s2 284 9 v1).bind fun s3 => (db_f194_b20 db_FU s3 (0 : Int32) (0 : Int32) (0 : Int32))))
set_option maxRecDepth 100000 in
theorem db_f194_ok {X : db_X} {d : Nat} {s : db_S} {v1 : Int32} : db_Rf X (d + 5) dbm_194 0 (lv_args 0 [.ref 284, .int v1]) [] s db_zI (db_f194 s v1) := by
  show db_Rf _ _ _ 0 [(0, .ref 284), (1, .int v1)] [] _ _ _
  unfold db_f194
  refine db_Rgo (pc' := 5) (lv' := [(0, .ref 284), (1, .int v1)]) (st' := [.int (0 : Int32), .ref 286]) 3 rfl ?_
  refine db_RcV (mr' := dbm_2) (as := [.ref 286, .int (0 : Int32)]) (rest := []) (pc' := 8) (lv1 := [(0, .ref 284), (1, .int v1)]) rfl rfl rfl rfl rfl (db_f2_ok) fun s2 => ?_
  refine db_Rgo (pc' := 10) (lv' := [(0, .ref 284), (1, .int v1)]) (st' := [.int v1, .ref 284]) 2 rfl ?_
  refine db_RpuI (pc' := 13) (lv1 := [(0, .ref 284), (1, .int v1)]) rfl rfl rfl rfl rfl rfl (by decide) rfl rfl fun s3 => ?_
  refine db_Rgo (pc' := 20) (lv' := [(4, .int (0 : Int32)), (3, .int (0 : Int32)), (2, .int (0 : Int32)), (0, .ref 284), (1, .int v1)]) (st' := []) 6 rfl ?_
  refine db_Rn (lv1 := [(0, .ref 284), (2, .int (0 : Int32)), (3, .int (0 : Int32)), (4, .int (0 : Int32))]) rfl rfl rfl ?_
  exact db_f194_b20_ok db_FU _ _ _ _
/-- DreamBook$Runner.keepTally()V -/
noncomputable def db_f200 (s : db_S) : Option db_S :=
  ((db_f83 s 286 285).bind fun s2 => ((db_pI s2 284 0 (1 : Int32)).bind fun s3 => (some s3)))
set_option maxRecDepth 100000 in
theorem db_f200_ok {X : db_X} {d : Nat} {s : db_S} : db_Rf X (d + 1) dbm_200 0 (lv_args 0 [.ref 284]) [] s db_zV (db_f200 s ) := by
  show db_Rf _ _ _ 0 [(0, .ref 284)] [] _ _ _
  unfold db_f200
  refine db_Rgo (pc' := 8) (lv' := [(0, .ref 284)]) (st' := [.ref 285, .ref 286]) 4 rfl ?_
  refine db_RcV (mr' := dbm_83) (as := [.ref 286, .ref 285]) (rest := []) (pc' := 11) (lv1 := [(0, .ref 284)]) rfl rfl rfl rfl rfl (db_f83_ok) fun s2 => ?_
  refine db_Rgo (pc' := 13) (lv' := [(0, .ref 284)]) (st' := [.int (1 : Int32), .ref 284]) 2 rfl ?_
  refine db_RpuI (pc' := 16) (lv1 := [(0, .ref 284)]) rfl rfl rfl rfl rfl rfl (by decide) rfl rfl fun s3 => ?_
  exact db_Rret (lv1 := [(0, .ref 284)]) rfl rfl rfl rfl
/-- DreamBook.live(I)I -/
noncomputable def db_f193 (s : db_S) (v1 : Int32) : Option (Int32 × db_S) :=
  ((db_f27 s v1 (0 : Int32) (9999 : Int32)).bind fun q1 => (cond q1 (cond (db_cnd .ne (s.1 83 0) 0) (db_bd (db_f194 s v1) fun q3 s4 => ((db_f200 s4).bind fun s6 => (db_bd (db_f87 s6 q3) fun q7 s8 => (some (q7, s8))))) (db_bd (db_f37 s (8 : Int32)) fun q9 s10 => (some (q9, s10)))) (db_bd (db_f37 s (5 : Int32)) fun q11 s12 => (some (q11, s12)))))
set_option maxRecDepth 100000 in
theorem db_f193_ok {X : db_X} {d : Nat} {s : db_S} {v1 : Int32} : db_Rf X (d + 6) dbm_193 0 (lv_args 0 [.ref 4, .int v1]) [] s db_zI (db_f193 s v1) := by
  show db_Rf _ _ _ 0 [(0, .ref 4), (1, .int v1)] [] _ _ _
  unfold db_f193
  refine db_Rgo (pc' := 5) (lv' := [(0, .ref 4), (1, .int v1)]) (st' := [.int (9999 : Int32), .int (0 : Int32), .int v1]) 3 rfl ?_
  refine db_RcyB (mr' := dbm_27) (as := [.int v1, .int (0 : Int32), .int (9999 : Int32)]) (rest := []) (pc' := 8) (lv1 := [(0, .ref 4), (1, .int v1)]) rfl rfl rfl rfl rfl (db_f27_ok) fun q1 => ?_
  refine db_RifBn (pc' := 11) (tg := 17) (lv1 := [(0, .ref 4), (1, .int v1)]) rfl rfl rfl rfl ?_ ?_
  · refine db_Rgo (pc' := 24) (lv' := [(0, .ref 4), (1, .int v1)]) (st' := [.int (s.1 83 0)]) 3 rfl ?_
    refine db_Rif (pc' := 27) (tg := 34) (lv1 := [(0, .ref 4), (1, .int v1)]) rfl rfl rfl rfl ?_ ?_
    · refine db_Rgo (pc' := 39) (lv' := [(0, .ref 4), (1, .int v1)]) (st' := [.int v1, .ref 284]) 3 rfl ?_
      refine db_RcdI (mr' := dbm_194) (as := [.ref 284, .int v1]) (rest := []) (pc' := 42) (lv1 := [(0, .ref 4), (1, .int v1)]) rfl rfl rfl rfl rfl (db_f194_ok) fun q3 s4 => ?_
      refine db_Rgo (pc' := 47) (lv' := [(2, .int q3), (0, .ref 4), (1, .int v1)]) (st' := [.ref 284]) 3 rfl ?_
      refine db_RcV (mr' := dbm_200) (as := [.ref 284]) (rest := []) (pc' := 50) (lv1 := [(2, .int q3), (0, .ref 4), (1, .int v1)]) rfl rfl rfl rfl rfl (db_f200_ok) fun s6 => ?_
      refine db_Rgo (pc' := 52) (lv' := [(2, .int q3), (0, .ref 4), (1, .int v1)]) (st' := [.int q3, .ref 4]) 2 rfl ?_
      refine db_RcdI (mr' := dbm_87) (as := [.ref 4, .int q3]) (rest := []) (pc' := 55) (lv1 := [(2, .int q3), (0, .ref 4), (1, .int v1)]) rfl rfl rfl rfl rfl (db_f87_ok) fun q7 s8 => ?_
      exact db_Rret (lv1 := [(2, .int q3), (0, .ref 4), (1, .int v1)]) rfl rfl rfl rfl
    refine db_Rgo (pc' := 30) (lv' := [(0, .ref 4), (1, .int v1)]) (st' := [.int (8 : Int32), .ref 4]) 2 rfl ?_
    refine db_RcdI (mr' := dbm_37) (as := [.ref 4, .int (8 : Int32)]) (rest := []) (pc' := 33) (lv1 := [(0, .ref 4), (1, .int v1)]) rfl rfl rfl rfl rfl (db_f37_ok) fun q9 s10 => ?_
    exact db_Rret (lv1 := [(0, .ref 4), (1, .int v1)]) rfl rfl rfl rfl
  refine db_Rgo (pc' := 13) (lv' := [(0, .ref 4), (1, .int v1)]) (st' := [.int (5 : Int32), .ref 4]) 2 rfl ?_
  refine db_RcdI (mr' := dbm_37) (as := [.ref 4, .int (5 : Int32)]) (rest := []) (pc' := 16) (lv1 := [(0, .ref 4), (1, .int v1)]) rfl rfl rfl rfl rfl (db_f37_ok) fun q11 s12 => ?_
  exact db_Rret (lv1 := [(0, .ref 4), (1, .int v1)]) rfl rfl rfl rfl
/-- DreamBookModel.isSo(I)Z -/
noncomputable def db_f373 (s : db_S) (v1 : Int32) : Option Bool :=
  ((db_rI s 674 (v1 + (6 : Int32))).bind fun x1 => (cond (db_cnd .ne x1 (1 : Int32)) ((db_rI s 674 (v1 + (1 : Int32))).bind fun x2 => ((db_rI s 674 ((12 : Int32) + x2)).bind fun x3 => ((db_rI s 674 (v1 + (7 : Int32))).bind fun x4 => (cond (db_cnd .ne x4 (60 : Int32)) ((db_rI s 674 (v1 + (7 : Int32))).bind fun x5 => (cond (db_cnd .ne x5 (62 : Int32)) ((db_rI s 674 (v1 + (2 : Int32))).bind fun x6 => (cond (db_cnd .ne x3 x6) (some false) (some true))) ((db_rI s 674 (v1 + (2 : Int32))).bind fun x7 => (cond (db_cnd .le x3 x7) (some false) (some true))))) ((db_rI s 674 (v1 + (2 : Int32))).bind fun x8 => (cond (db_cnd .ge x3 x8) (some false) (some true))))))) ((db_rI s 674 (v1 + (1 : Int32))).bind fun x9 => ((db_f290 s x9).bind fun q10 => (cond (db_cnd .ne q10 0) (some false) (some true))))))
set_option maxRecDepth 100000 in
theorem db_f373_ok {X : db_X} {d : Nat} {s : db_S} {v1 : Int32} : db_Rf X (d + 1) dbm_373 0 (lv_args 0 [.ref 669, .int v1]) [] s (db_yB s) (db_f373 s v1) := by
  show db_Rf _ _ _ 0 [(0, .ref 669), (1, .int v1)] [] _ _ _
  unfold db_f373
  refine db_Rgo (pc' := 8) (lv' := [(0, .ref 669), (1, .int v1)]) (st' := [.int (v1 + (6 : Int32)), .ref 674]) 5 rfl ?_
  refine db_RldI (pc' := 9) (lv1 := [(0, .ref 669), (1, .int v1)]) rfl rfl rfl fun x1 => ?_
  refine db_Rgo (pc' := 10) (lv' := [(0, .ref 669), (1, .int v1)]) (st' := [.int (1 : Int32), .int x1]) 1 rfl ?_
  refine db_Ric (pc' := 13) (tg := 34) (lv1 := [(0, .ref 669), (1, .int v1)]) rfl rfl rfl rfl ?_ ?_
  · refine db_Rgo (pc' := 47) (lv' := [(0, .ref 669), (1, .int v1)]) (st' := [.int (v1 + (1 : Int32)), .ref 674, .int (12 : Int32), .ref 674]) 8 rfl ?_
    refine db_RldI (pc' := 48) (lv1 := [(0, .ref 669), (1, .int v1)]) rfl rfl rfl fun x2 => ?_
    refine db_Rgo (pc' := 49) (lv' := [(0, .ref 669), (1, .int v1)]) (st' := [.int ((12 : Int32) + x2), .ref 674]) 1 rfl ?_
    refine db_RldI (pc' := 50) (lv1 := [(0, .ref 669), (1, .int v1)]) rfl rfl rfl fun x3 => ?_
    refine db_Rgo (pc' := 59) (lv' := [(2, .int x3), (0, .ref 669), (1, .int v1)]) (st' := [.int (v1 + (7 : Int32)), .ref 674]) 6 rfl ?_
    refine db_RldI (pc' := 60) (lv1 := [(2, .int x3), (0, .ref 669), (1, .int v1)]) rfl rfl rfl fun x4 => ?_
    refine db_Rgo (pc' := 62) (lv' := [(2, .int x3), (0, .ref 669), (1, .int v1)]) (st' := [.int (60 : Int32), .int x4]) 1 rfl ?_
    refine db_Ric (pc' := 65) (tg := 85) (lv1 := [(2, .int x3), (0, .ref 669), (1, .int v1)]) rfl rfl rfl rfl ?_ ?_
    · refine db_Rgo (pc' := 93) (lv' := [(0, .ref 669), (1, .int v1), (2, .int x3)]) (st' := [.int (v1 + (7 : Int32)), .ref 674]) 5 rfl ?_
      refine db_RldI (pc' := 94) (lv1 := [(0, .ref 669), (1, .int v1), (2, .int x3)]) rfl rfl rfl fun x5 => ?_
      refine db_Rgo (pc' := 96) (lv' := [(0, .ref 669), (1, .int v1), (2, .int x3)]) (st' := [.int (62 : Int32), .int x5]) 1 rfl ?_
      refine db_Ric (pc' := 99) (tg := 119) (lv1 := [(0, .ref 669), (1, .int v1), (2, .int x3)]) rfl rfl rfl rfl ?_ ?_
      · refine db_Rgo (pc' := 127) (lv' := [(0, .ref 669), (1, .int v1), (2, .int x3)]) (st' := [.int (v1 + (2 : Int32)), .ref 674, .int x3]) 6 rfl ?_
        refine db_RldI (pc' := 128) (lv1 := [(0, .ref 669), (1, .int v1), (2, .int x3)]) rfl rfl rfl fun x6 => ?_
        refine db_Ric (pc' := 131) (tg := 135) (lv1 := [(0, .ref 669), (1, .int v1), (2, .int x3)]) rfl rfl rfl rfl ?_ ?_
        · refine db_Rgo (pc' := 136) (lv' := []) (st' := [.int (0 : Int32)]) 1 rfl ?_
          exact db_Rret (lv1 := []) rfl rfl rfl rfl
        refine db_Rgo (pc' := 136) (lv' := [(0, .ref 669), (1, .int v1), (2, .int x3)]) (st' := [.int (1 : Int32)]) 2 rfl ?_
        exact db_Rret (lv1 := []) rfl rfl rfl rfl
      refine db_Rgo (pc' := 107) (lv' := [(0, .ref 669), (1, .int v1), (2, .int x3)]) (st' := [.int (v1 + (2 : Int32)), .ref 674, .int x3]) 6 rfl ?_
      refine db_RldI (pc' := 108) (lv1 := [(0, .ref 669), (1, .int v1), (2, .int x3)]) rfl rfl rfl fun x7 => ?_
      refine db_Ric (pc' := 111) (tg := 115) (lv1 := [(0, .ref 669), (1, .int v1), (2, .int x3)]) rfl rfl rfl rfl ?_ ?_
      · refine db_Rgo (pc' := 136) (lv' := []) (st' := [.int (0 : Int32)]) 2 rfl ?_
        exact db_Rret (lv1 := []) rfl rfl rfl rfl
      refine db_Rgo (pc' := 136) (lv' := [(0, .ref 669), (1, .int v1), (2, .int x3)]) (st' := [.int (1 : Int32)]) 2 rfl ?_
      exact db_Rret (lv1 := []) rfl rfl rfl rfl
    refine db_Rgo (pc' := 73) (lv' := [(2, .int x3), (0, .ref 669), (1, .int v1)]) (st' := [.int (v1 + (2 : Int32)), .ref 674, .int x3]) 6 rfl ?_
    refine db_RldI (pc' := 74) (lv1 := [(2, .int x3), (0, .ref 669), (1, .int v1)]) rfl rfl rfl fun x8 => ?_
    refine db_Ric (pc' := 77) (tg := 81) (lv1 := [(2, .int x3), (0, .ref 669), (1, .int v1)]) rfl rfl rfl rfl ?_ ?_
    · refine db_Rgo (pc' := 136) (lv' := []) (st' := [.int (0 : Int32)]) 2 rfl ?_
      exact db_Rret (lv1 := []) rfl rfl rfl rfl
    refine db_Rgo (pc' := 136) (lv' := [(2, .int x3), (0, .ref 669), (1, .int v1)]) (st' := [.int (1 : Int32)]) 2 rfl ?_
    exact db_Rret (lv1 := []) rfl rfl rfl rfl
  refine db_Rgo (pc' := 21) (lv' := [(0, .ref 669), (1, .int v1)]) (st' := [.int (v1 + (1 : Int32)), .ref 674, .ref 669]) 6 rfl ?_
  refine db_RldI (pc' := 22) (lv1 := [(0, .ref 669), (1, .int v1)]) rfl rfl rfl fun x9 => ?_
  refine db_RcyI (mr' := dbm_290) (as := [.ref 669, .int x9]) (rest := []) (pc' := 25) (lv1 := [(0, .ref 669), (1, .int v1)]) rfl rfl rfl rfl rfl (db_f290_ok) fun q10 => ?_
  refine db_Rif (pc' := 28) (tg := 32) (lv1 := [(0, .ref 669), (1, .int v1)]) rfl rfl rfl rfl ?_ ?_
  · refine db_Rgo (pc' := 33) (lv' := []) (st' := [.int (0 : Int32)]) 1 rfl ?_
    exact db_Rret (lv1 := []) rfl rfl rfl rfl
  refine db_Rgo (pc' := 33) (lv' := [(0, .ref 669), (1, .int v1)]) (st' := [.int (1 : Int32)]) 2 rfl ?_
  exact db_Rret (lv1 := []) rfl rfl rfl rfl
/-- DreamBookModel.draw(I)I -/
noncomputable def db_f372 (s : db_S) (v1 : Int32) : Option (Int32 × db_S) :=
  ((db_pI s 669 42 ((((s.1 669 42) * (2917 : Int32)) + (10613 : Int32)) - (((s.1 669 42) * (2917 : Int32)) + (10613 : Int32)) / (65536 : Int32) * (65536 : Int32))).bind fun s1 => (if v1 = 0 then none else (some ((((s1.1 669 42) / (8 : Int32)) - ((s1.1 669 42) / (8 : Int32)) / v1 * v1), s1))))
set_option maxRecDepth 100000 in
theorem db_f372_ok {X : db_X} {d : Nat} {s : db_S} {v1 : Int32} : db_Rf X (d + 0) dbm_372 0 (lv_args 0 [.ref 669, .int v1]) [] s db_zI (db_f372 s v1) := by
  show db_Rf _ _ _ 0 [(0, .ref 669), (1, .int v1)] [] _ _ _
  unfold db_f372
  refine db_Rgo (pc' := 17) (lv' := [(0, .ref 669), (1, .int v1)]) (st' := [.int ((((s.1 669 42) * (2917 : Int32)) + (10613 : Int32)) - (((s.1 669 42) * (2917 : Int32)) + (10613 : Int32)) / (65536 : Int32) * (65536 : Int32)), .ref 669]) 9 rfl ?_
  refine db_RpuI (pc' := 20) (lv1 := [(0, .ref 669), (1, .int v1)]) rfl rfl rfl rfl rfl rfl (by decide) rfl rfl fun s1 => ?_
  refine db_Rgo (pc' := 28) (lv' := [(0, .ref 669), (1, .int v1)]) (st' := [.int v1, .int ((s1.1 669 42) / (8 : Int32))]) 5 rfl ?_
  refine db_Rrem (pc' := 29) (lv1 := [(0, .ref 669), (1, .int v1)]) rfl rfl rfl ?_
  exact db_Rret (lv1 := [(0, .ref 669), (1, .int v1)]) rfl rfl rfl rfl
noncomputable def db_f371_b23 : Nat → db_S → Int32 → Int32 → Int32 → Int32 → Option (Bool × db_S)
  | 0, _, _, _, _, _ => none
  | n + 1, s, v1, v2, v3, v4 =>
    ((db_rI s 674 ((143 : Int32) + v4)).bind fun x1 => (cond (db_cnd .lt v3 x1) (db_bd (db_f333 s v4 v1 v2) fun q2 s3 => (some (q2, s3))) ((db_rI s 674 ((143 : Int32) + v4)).bind fun x4 => (db_f371_b23 n s v1 v2 (v3 - x4) (v4 + (1 : Int32))))))
set_option maxRecDepth 100000 in
theorem db_f371_b23_ok {X : db_X} {d : Nat}  (n : Nat) : ∀ (s : db_S) (v1 : Int32) (v2 : Int32) (v3 : Int32) (v4 : Int32), db_Rf X (d + 6) dbm_371 23 [(0, .ref 669), (1, .int v1), (2, .int v2), (3, .int v3), (4, .int v4)] [] s db_zB (db_f371_b23 n s v1 v2 v3 v4) := by
  induction n with
  | zero => intros; exact db_Rnone
  | succ n ih =>
    intro s v1 v2 v3 v4
    unfold db_f371_b23
    refine db_Rgo (pc' := 34) (lv' := [(0, .ref 669), (1, .int v1), (2, .int v2), (3, .int v3), (4, .int v4)]) (st' := [.int ((143 : Int32) + v4), .ref 674, .int v3]) 6 rfl ?_
    refine db_RldI (pc' := 35) (lv1 := [(0, .ref 669), (1, .int v1), (2, .int v2), (3, .int v3), (4, .int v4)]) rfl rfl rfl fun x1 => ?_
    refine db_Ric (pc' := 38) (tg := 58) (lv1 := [(0, .ref 669), (1, .int v1), (2, .int v2), (3, .int v3), (4, .int v4)]) rfl rfl rfl rfl ?_ ?_
    · refine db_Rgo (pc' := 63) (lv' := [(0, .ref 669), (1, .int v1), (2, .int v2), (4, .int v4)]) (st' := [.int v2, .int v1, .int v4, .ref 669]) 4 rfl ?_
      refine db_RcdB (mr' := dbm_333) (as := [.ref 669, .int v4, .int v1, .int v2]) (rest := []) (pc' := 66) (lv1 := [(0, .ref 669), (1, .int v1), (2, .int v2), (4, .int v4)]) rfl rfl rfl rfl rfl (db_f333_ok) fun q2 s3 => ?_
      exact db_RretB (lv1 := [(0, .ref 669), (1, .int v1), (2, .int v2), (4, .int v4)]) rfl rfl rfl rfl
    refine db_Rgo (pc' := 49) (lv' := [(0, .ref 669), (1, .int v1), (2, .int v2), (3, .int v3), (4, .int v4)]) (st' := [.int ((143 : Int32) + v4), .ref 674, .int v3]) 6 rfl ?_
    refine db_RldI (pc' := 50) (lv1 := [(0, .ref 669), (1, .int v1), (2, .int v2), (3, .int v3), (4, .int v4)]) rfl rfl rfl fun x4 => ?_
    refine db_Rgo (pc' := 23) (lv' := [(4, .int (v4 + (1 : Int32))), (3, .int (v3 - x4)), (0, .ref 669), (1, .int v1), (2, .int v2)]) (st' := []) 4 rfl ?_
    refine db_Rn (lv1 := [(0, .ref 669), (1, .int v1), (2, .int v2), (3, .int (v3 - x4)), (4, .int (v4 + (1 : Int32)))]) rfl rfl rfl ?_
    exact ih _ _ _ _ _
/-- DreamBookModel.anyDream(II)Z -/
noncomputable def db_f371 (s : db_S) (v1 : Int32) (v2 : Int32) : Option (Bool × db_S) :=
  ((db_rI s 674 (5 : Int32)).bind fun x1 => (cond (db_cnd .ne x1 0) ((db_f282 s).bind fun q2 => (db_bd (db_f372 s q2) fun q4 s5 => (db_f371_b23 db_FU s5 v1 v2 q4 (0 : Int32)))) (some (false, s))))
set_option maxRecDepth 100000 in
theorem db_f371_ok {X : db_X} {d : Nat} {s : db_S} {v1 : Int32} {v2 : Int32} : db_Rf X (d + 6) dbm_371 0 (lv_args 0 [.ref 669, .int v1, .int v2]) [] s db_zB (db_f371 s v1 v2) := by
  show db_Rf _ _ _ 0 [(0, .ref 669), (1, .int v1), (2, .int v2)] [] _ _ _
  unfold db_f371
  refine db_Rgo (pc' := 5) (lv' := [(0, .ref 669), (1, .int v1), (2, .int v2)]) (st' := [.int (5 : Int32), .ref 674]) 3 rfl ?_
  refine db_RldI (pc' := 6) (lv1 := [(0, .ref 669), (1, .int v1), (2, .int v2)]) rfl rfl rfl fun x1 => ?_
  refine db_Rif (pc' := 9) (tg := 11) (lv1 := [(0, .ref 669), (1, .int v1), (2, .int v2)]) rfl rfl rfl rfl ?_ ?_
  · refine db_Rgo (pc' := 13) (lv' := [(0, .ref 669), (1, .int v1), (2, .int v2)]) (st' := [.ref 669, .ref 669]) 2 rfl ?_
    refine db_RcyI (mr' := dbm_282) (as := [.ref 669]) (rest := [.ref 669]) (pc' := 16) (lv1 := [(0, .ref 669), (1, .int v1), (2, .int v2)]) rfl rfl rfl rfl rfl (db_f282_ok) fun q2 => ?_
    refine db_RcdI (mr' := dbm_372) (as := [.ref 669, .int q2]) (rest := []) (pc' := 19) (lv1 := [(0, .ref 669), (1, .int v1), (2, .int v2)]) rfl rfl rfl rfl rfl (db_f372_ok) fun q4 s5 => ?_
    refine db_Rgo (pc' := 23) (lv' := [(4, .int (0 : Int32)), (3, .int q4), (0, .ref 669), (1, .int v1), (2, .int v2)]) (st' := []) 3 rfl ?_
    refine db_Rn (lv1 := [(0, .ref 669), (1, .int v1), (2, .int v2), (3, .int q4), (4, .int (0 : Int32))]) rfl rfl rfl ?_
    exact db_f371_b23_ok db_FU _ _ _ _ _
  refine db_Rgo (pc' := 10) (lv' := [(0, .ref 669), (1, .int v1), (2, .int v2)]) (st' := [.int (0 : Int32)]) 1 rfl ?_
  exact db_Rret (lv1 := [(0, .ref 669), (1, .int v1), (2, .int v2)]) rfl rfl rfl rfl
noncomputable def db_f370_b108 (s : db_S) (v1 : Int32) (t0 : Int32) : Option (Bool × db_S) :=
  ((db_rI s 674 (v1 + (1 : Int32))).bind fun x1 => ((db_wI s 674 ((91 : Int32) + x1) (0 : Int32)).bind fun s2 => (cond (db_b01 t0) (some ((decide (t0 = 1)), s2)) none)))
set_option maxRecDepth 100000 in
theorem db_f370_b108_ok {X : db_X} {d : Nat}  {s : db_S} {v1 : Int32} {t0 : Int32} : db_Rf X (d + 7) dbm_370 108 [(0, .ref 669), (1, .int v1)] [.int t0] s db_zB (db_f370_b108 s v1 t0) := by
  unfold db_f370_b108
  refine db_Rgo (pc' := 122) (lv' := [(3, .int t0), (0, .ref 669), (1, .int v1)]) (st' := [.int (v1 + (1 : Int32)), .ref 674, .int (91 : Int32), .ref 674]) 9 rfl ?_
  refine db_RldI (pc' := 123) (lv1 := [(3, .int t0), (0, .ref 669), (1, .int v1)]) rfl rfl rfl fun x1 => ?_
  refine db_Rgo (pc' := 125) (lv' := [(3, .int t0), (0, .ref 669), (1, .int v1)]) (st' := [.int (0 : Int32), .int ((91 : Int32) + x1), .ref 674]) 2 rfl ?_
  refine db_RstI (pc' := 126) (lv1 := [(3, .int t0), (0, .ref 669), (1, .int v1)]) rfl rfl rfl fun s2 => ?_
  refine db_Rgo (pc' := 127) (lv' := [(3, .int t0), (0, .ref 669), (1, .int v1)]) (st' := [.int t0]) 1 rfl ?_
  exact db_RretX (v := fun b => (b, s2)) (lv1 := [(3, .int t0), (0, .ref 669), (1, .int v1)]) rfl rfl rfl (fun _ => rfl)
/-- DreamBookModel.does(I)Z -/
noncomputable def db_f370 (s : db_S) (v1 : Int32) : Option (Bool × db_S) :=
  ((db_rI s 674 v1).bind fun x1 => (cond (db_cnd .ne x1 0) (cond (db_cnd .ne x1 (1 : Int32)) (cond (db_cnd .ne x1 (2 : Int32)) ((db_rI s 674 (v1 + (1 : Int32))).bind fun x2 => ((db_rI s 674 ((91 : Int32) + x2)).bind fun x3 => (cond (db_cnd .le x3 0) (db_f370_b108 s v1 (0 : Int32)) (db_f370_b108 s v1 (1 : Int32))))) ((db_rI s 674 (v1 + (1 : Int32))).bind fun x4 => (db_bd (db_f310 s x4) fun q5 s6 => (some (q5, s6))))) ((db_rI s 674 (v1 + (2 : Int32))).bind fun x7 => ((db_rI s 674 (v1 + (3 : Int32))).bind fun x8 => (db_bd (db_f371 s x7 x8) fun q9 s10 => (some (q9, s10)))))) ((db_rI s 674 (v1 + (1 : Int32))).bind fun x11 => ((db_rI s 674 (v1 + (2 : Int32))).bind fun x12 => ((db_rI s 674 (v1 + (3 : Int32))).bind fun x13 => (db_bd (db_f333 s x11 x12 x13) fun q14 s15 => (some (q14, s15))))))))
set_option maxRecDepth 100000 in
theorem db_f370_ok {X : db_X} {d : Nat} {s : db_S} {v1 : Int32} : db_Rf X (d + 7) dbm_370 0 (lv_args 0 [.ref 669, .int v1]) [] s db_zB (db_f370 s v1) := by
  show db_Rf _ _ _ 0 [(0, .ref 669), (1, .int v1)] [] _ _ _
  unfold db_f370
  refine db_Rgo (pc' := 5) (lv' := [(0, .ref 669), (1, .int v1)]) (st' := [.int v1, .ref 674]) 3 rfl ?_
  refine db_RldI (pc' := 6) (lv1 := [(0, .ref 669), (1, .int v1)]) rfl rfl rfl fun x1 => ?_
  refine db_Rgo (pc' := 8) (lv' := [(2, .int x1), (0, .ref 669), (1, .int v1)]) (st' := [.int x1]) 2 rfl ?_
  refine db_Rif (pc' := 11) (tg := 40) (lv1 := [(2, .int x1), (0, .ref 669), (1, .int v1)]) rfl rfl rfl rfl ?_ ?_
  · refine db_Rgo (pc' := 42) (lv' := [(0, .ref 669), (1, .int v1), (2, .int x1)]) (st' := [.int (1 : Int32), .int x1]) 2 rfl ?_
    refine db_Ric (pc' := 45) (tg := 66) (lv1 := [(0, .ref 669), (1, .int v1), (2, .int x1)]) rfl rfl rfl rfl ?_ ?_
    · refine db_Rgo (pc' := 68) (lv' := [(0, .ref 669), (1, .int v1), (2, .int x1)]) (st' := [.int (2 : Int32), .int x1]) 2 rfl ?_
      refine db_Ric (pc' := 71) (tg := 84) (lv1 := [(0, .ref 669), (1, .int v1), (2, .int x1)]) rfl rfl rfl rfl ?_ ?_
      · refine db_Rgo (pc' := 97) (lv' := [(0, .ref 669), (1, .int v1)]) (st' := [.int (v1 + (1 : Int32)), .ref 674, .int (91 : Int32), .ref 674]) 8 rfl ?_
        refine db_RldI (pc' := 98) (lv1 := [(0, .ref 669), (1, .int v1)]) rfl rfl rfl fun x2 => ?_
        refine db_Rgo (pc' := 99) (lv' := [(0, .ref 669), (1, .int v1)]) (st' := [.int ((91 : Int32) + x2), .ref 674]) 1 rfl ?_
        refine db_RldI (pc' := 100) (lv1 := [(0, .ref 669), (1, .int v1)]) rfl rfl rfl fun x3 => ?_
        refine db_Rif (pc' := 103) (tg := 107) (lv1 := [(0, .ref 669), (1, .int v1)]) rfl rfl rfl rfl ?_ ?_
        · refine db_Rgo (pc' := 108) (lv' := [(0, .ref 669), (1, .int v1)]) (st' := [.int (0 : Int32)]) 1 rfl ?_
          exact db_f370_b108_ok
        refine db_Rgo (pc' := 108) (lv' := [(0, .ref 669), (1, .int v1)]) (st' := [.int (1 : Int32)]) 2 rfl ?_
        exact db_f370_b108_ok
      refine db_Rgo (pc' := 79) (lv' := [(0, .ref 669), (1, .int v1), (2, .int x1)]) (st' := [.int (v1 + (1 : Int32)), .ref 674, .ref 669]) 6 rfl ?_
      refine db_RldI (pc' := 80) (lv1 := [(0, .ref 669), (1, .int v1), (2, .int x1)]) rfl rfl rfl fun x4 => ?_
      refine db_RcdB (mr' := dbm_310) (as := [.ref 669, .int x4]) (rest := []) (pc' := 83) (lv1 := [(0, .ref 669), (1, .int v1), (2, .int x1)]) rfl rfl rfl rfl rfl (db_f310_ok) fun q5 s6 => ?_
      exact db_RretB (lv1 := [(0, .ref 669), (1, .int v1), (2, .int x1)]) rfl rfl rfl rfl
    refine db_Rgo (pc' := 53) (lv' := [(0, .ref 669), (1, .int v1), (2, .int x1)]) (st' := [.int (v1 + (2 : Int32)), .ref 674, .ref 669]) 6 rfl ?_
    refine db_RldI (pc' := 54) (lv1 := [(0, .ref 669), (1, .int v1), (2, .int x1)]) rfl rfl rfl fun x7 => ?_
    refine db_Rgo (pc' := 61) (lv' := [(0, .ref 669), (1, .int v1), (2, .int x1)]) (st' := [.int (v1 + (3 : Int32)), .ref 674, .int x7, .ref 669]) 5 rfl ?_
    refine db_RldI (pc' := 62) (lv1 := [(0, .ref 669), (1, .int v1), (2, .int x1)]) rfl rfl rfl fun x8 => ?_
    refine db_RcdB (mr' := dbm_371) (as := [.ref 669, .int x7, .int x8]) (rest := []) (pc' := 65) (lv1 := [(0, .ref 669), (1, .int v1), (2, .int x1)]) rfl rfl rfl rfl rfl (db_f371_ok) fun q9 s10 => ?_
    exact db_RretB (lv1 := [(0, .ref 669), (1, .int v1), (2, .int x1)]) rfl rfl rfl rfl
  refine db_Rgo (pc' := 19) (lv' := [(2, .int x1), (0, .ref 669), (1, .int v1)]) (st' := [.int (v1 + (1 : Int32)), .ref 674, .ref 669]) 6 rfl ?_
  refine db_RldI (pc' := 20) (lv1 := [(2, .int x1), (0, .ref 669), (1, .int v1)]) rfl rfl rfl fun x11 => ?_
  refine db_Rgo (pc' := 27) (lv' := [(2, .int x1), (0, .ref 669), (1, .int v1)]) (st' := [.int (v1 + (2 : Int32)), .ref 674, .int x11, .ref 669]) 5 rfl ?_
  refine db_RldI (pc' := 28) (lv1 := [(2, .int x1), (0, .ref 669), (1, .int v1)]) rfl rfl rfl fun x12 => ?_
  refine db_Rgo (pc' := 35) (lv' := [(2, .int x1), (0, .ref 669), (1, .int v1)]) (st' := [.int (v1 + (3 : Int32)), .ref 674, .int x12, .int x11, .ref 669]) 5 rfl ?_
  refine db_RldI (pc' := 36) (lv1 := [(2, .int x1), (0, .ref 669), (1, .int v1)]) rfl rfl rfl fun x13 => ?_
  refine db_RcdB (mr' := dbm_333) (as := [.ref 669, .int x11, .int x12, .int x13]) (rest := []) (pc' := 39) (lv1 := [(2, .int x1), (0, .ref 669), (1, .int v1)]) rfl rfl rfl rfl rfl (db_f333_ok) fun q14 s15 => ?_
  exact db_RretB (lv1 := [(2, .int x1), (0, .ref 669), (1, .int v1)]) rfl rfl rfl rfl
noncomputable def db_f369_b70 (r368 : db_S → Int32 → Int32 → Option db_S) (s : db_S) (t1 : Int32) (t2 : Int32) : Option db_S :=
  ((db_pI s 669 44 (t1 + t2)).bind fun s1 => (some s1))
set_option maxRecDepth 100000 in
theorem db_f369_b70_ok {X : db_X} {d : Nat}  {r368 : db_S → Int32 → Int32 → Option db_S} {s : db_S} {t1 : Int32} {t2 : Int32} (z368 : ∀ (s' : db_S) (v1 : Int32) (v2 : Int32) , db_Rf X (d + 7) dbm_368 0 (lv_args 0 [.ref 669, .int v1, .int v2]) [] s' db_zV (r368 s' v1 v2)) : db_Rf X (d + 8) dbm_369 70 [] [.int t2, .int t1, .ref 669] s db_zV (db_f369_b70 r368 s t1 t2) := by
  unfold db_f369_b70
  refine db_Rgo (pc' := 71) (lv' := []) (st' := [.int (t1 + t2), .ref 669]) 1 rfl ?_
  refine db_RpuI (pc' := 74) (lv1 := []) rfl rfl rfl rfl rfl rfl (by decide) rfl rfl fun s1 => ?_
  refine db_Rgo (pc' := 172) (lv' := []) (st' := []) 1 rfl ?_
  exact db_Rret (lv1 := []) rfl rfl rfl rfl
noncomputable def db_f369_b117 (r368 : db_S → Int32 → Int32 → Option db_S) : Nat → db_S → Int32 → Int32 → Int32 → Option db_S
  | 0, _, _, _, _ => none
  | n + 1, s, v1, v2, v4 =>
    ((db_rI s 674 (v2 + (1 : Int32))).bind fun x1 => (cond (db_cnd .ge v4 x1) (some s) (cond (db_cnd .ne (s.1 669 41) 0) (some s) ((db_rI s 674 (v2 + (8 : Int32))).bind fun x2 => ((r368 s (v1 + (1 : Int32)) x2).bind fun s4 => (db_f369_b117 r368 n s4 v1 v2 (v4 + (1 : Int32))))))))
set_option maxRecDepth 100000 in
theorem db_f369_b117_ok {X : db_X} {d : Nat}  {r368 : db_S → Int32 → Int32 → Option db_S} (z368 : ∀ (s' : db_S) (v1 : Int32) (v2 : Int32) , db_Rf X (d + 7) dbm_368 0 (lv_args 0 [.ref 669, .int v1, .int v2]) [] s' db_zV (r368 s' v1 v2)) (n : Nat) : ∀ (s : db_S) (v1 : Int32) (v2 : Int32) (v4 : Int32), db_Rf X (d + 8) dbm_369 117 [(0, .ref 669), (1, .int v1), (2, .int v2), (4, .int v4)] [] s db_zV (db_f369_b117 r368 n s v1 v2 v4) := by
  induction n with
  | zero => intros; exact db_Rnone
  | succ n ih =>
    intro s v1 v2 v4
    unfold db_f369_b117
    refine db_Rgo (pc' := 126) (lv' := [(0, .ref 669), (1, .int v1), (2, .int v2), (4, .int v4)]) (st' := [.int (v2 + (1 : Int32)), .ref 674, .int v4]) 6 rfl ?_
    refine db_RldI (pc' := 127) (lv1 := [(0, .ref 669), (1, .int v1), (2, .int v2), (4, .int v4)]) rfl rfl rfl fun x1 => ?_
    refine db_Ric (pc' := 130) (tg := 159) (lv1 := [(0, .ref 669), (1, .int v1), (2, .int v2), (4, .int v4)]) rfl rfl rfl rfl ?_ ?_
    · refine db_Rgo (pc' := 172) (lv' := []) (st' := []) 1 rfl ?_
      exact db_Rret (lv1 := []) rfl rfl rfl rfl
    refine db_Rgo (pc' := 134) (lv' := [(0, .ref 669), (1, .int v1), (2, .int v2), (4, .int v4)]) (st' := [.int (s.1 669 41)]) 2 rfl ?_
    refine db_Rif (pc' := 137) (tg := 159) (lv1 := [(0, .ref 669), (1, .int v1), (2, .int v2), (4, .int v4)]) rfl rfl rfl rfl ?_ ?_
    · refine db_Rgo (pc' := 172) (lv' := []) (st' := []) 1 rfl ?_
      exact db_Rret (lv1 := []) rfl rfl rfl rfl
    refine db_Rgo (pc' := 149) (lv' := [(0, .ref 669), (1, .int v1), (2, .int v2), (4, .int v4)]) (st' := [.int (v2 + (8 : Int32)), .ref 674, .int (v1 + (1 : Int32)), .ref 669]) 9 rfl ?_
    refine db_RldI (pc' := 150) (lv1 := [(0, .ref 669), (1, .int v1), (2, .int v2), (4, .int v4)]) rfl rfl rfl fun x2 => ?_
    refine db_RcV (mr' := dbm_368) (as := [.ref 669, .int (v1 + (1 : Int32)), .int x2]) (rest := []) (pc' := 153) (lv1 := [(0, .ref 669), (1, .int v1), (2, .int v2), (4, .int v4)]) rfl rfl rfl rfl rfl (z368 _ _ _) fun s4 => ?_
    refine db_Rgo (pc' := 117) (lv' := [(4, .int (v4 + (1 : Int32))), (0, .ref 669), (1, .int v1), (2, .int v2)]) (st' := []) 2 rfl ?_
    refine db_Rn (lv1 := [(0, .ref 669), (1, .int v1), (2, .int v2), (4, .int (v4 + (1 : Int32)))]) rfl rfl rfl ?_
    exact ih _ _ _ _
noncomputable def db_f369_b109 (r368 : db_S → Int32 → Int32 → Option db_S) (s : db_S) (v1 : Int32) (v2 : Int32) (v3 : Int32) : Option db_S :=
  (cond (db_cnd .ne v3 (5 : Int32)) (cond (db_cnd .le v3 (5 : Int32)) (some s) ((db_pI s 669 41 (1 : Int32)).bind fun s1 => (some s1))) (db_f369_b117 r368 db_FU s v1 v2 (0 : Int32)))
set_option maxRecDepth 100000 in
theorem db_f369_b109_ok {X : db_X} {d : Nat}  {r368 : db_S → Int32 → Int32 → Option db_S} {s : db_S} {v1 : Int32} {v2 : Int32} {v3 : Int32} (z368 : ∀ (s' : db_S) (v1 : Int32) (v2 : Int32) , db_Rf X (d + 7) dbm_368 0 (lv_args 0 [.ref 669, .int v1, .int v2]) [] s' db_zV (r368 s' v1 v2)) : db_Rf X (d + 8) dbm_369 109 [(0, .ref 669), (1, .int v1), (2, .int v2), (3, .int v3)] [] s db_zV (db_f369_b109 r368 s v1 v2 v3) := by
  unfold db_f369_b109
  refine db_Rgo (pc' := 111) (lv' := [(0, .ref 669), (1, .int v1), (2, .int v2), (3, .int v3)]) (st' := [.int (5 : Int32), .int v3]) 2 rfl ?_
  refine db_Ric (pc' := 114) (tg := 162) (lv1 := [(0, .ref 669), (1, .int v1), (2, .int v2), (3, .int v3)]) rfl rfl rfl rfl ?_ ?_
  · refine db_Rgo (pc' := 164) (lv' := [(0, .ref 669), (3, .int v3)]) (st' := [.int (5 : Int32), .int v3]) 2 rfl ?_
    refine db_Ric (pc' := 167) (tg := 172) (lv1 := [(0, .ref 669), (3, .int v3)]) rfl rfl rfl rfl ?_ ?_
    · exact db_Rret (lv1 := []) rfl rfl rfl rfl
    refine db_Rgo (pc' := 169) (lv' := [(0, .ref 669), (3, .int v3)]) (st' := [.int (1 : Int32), .ref 669]) 2 rfl ?_
    refine db_RpuI (pc' := 172) (lv1 := [(0, .ref 669), (3, .int v3)]) rfl rfl rfl rfl rfl rfl (by decide) rfl rfl fun s1 => ?_
    exact db_Rret (lv1 := []) rfl rfl rfl rfl
  refine db_Rgo (pc' := 117) (lv' := [(4, .int (0 : Int32)), (0, .ref 669), (1, .int v1), (2, .int v2), (3, .int v3)]) (st' := []) 2 rfl ?_
  refine db_Rn (lv1 := [(0, .ref 669), (1, .int v1), (2, .int v2), (4, .int (0 : Int32))]) rfl rfl rfl ?_
  exact db_f369_b117_ok z368 db_FU _ _ _ _
/-- DreamBookModel.doOne(I)V -/
noncomputable def db_f369 (r368 : db_S → Int32 → Int32 → Option db_S) (s : db_S) (v1 : Int32) : Option db_S :=
  (cond (db_cnd .ne (s.1 669 43) (300 : Int32)) ((db_pI s 669 43 ((s.1 669 43) + (1 : Int32))).bind fun s1 => ((db_rI s1 674 ((201 : Int32) + ((9 : Int32) * v1))).bind fun x2 => (cond (db_cnd .ge x2 (4 : Int32)) (cond (db_cnd .ne x2 (4 : Int32)) (db_f369_b109 r368 s1 v1 ((201 : Int32) + ((9 : Int32) * v1)) x2) ((db_f373 s1 ((201 : Int32) + ((9 : Int32) * v1))).bind fun q3 => (cond q3 ((db_rI s1 674 (((201 : Int32) + ((9 : Int32) * v1)) + (8 : Int32))).bind fun x5 => ((r368 s1 (v1 + (1 : Int32)) x5).bind fun s7 => (some s7))) (db_f369_b109 r368 s1 v1 ((201 : Int32) + ((9 : Int32) * v1)) x2)))) (db_bd (db_f370 s1 ((201 : Int32) + ((9 : Int32) * v1))) fun q8 s9 => (cond q8 (db_f369_b70 r368 s9 (s1.1 669 44) (0 : Int32)) (db_f369_b70 r368 s9 (s1.1 669 44) (1 : Int32))))))) ((db_pI s 669 41 (1 : Int32)).bind fun s10 => ((db_pI s10 669 45 (1 : Int32)).bind fun s11 => (some s11))))
set_option maxRecDepth 100000 in
theorem db_f369_ok {X : db_X} {d : Nat} {s : db_S} {v1 : Int32} {r368 : db_S → Int32 → Int32 → Option db_S} (z368 : ∀ (s' : db_S) (v1 : Int32) (v2 : Int32) , db_Rf X (d + 7) dbm_368 0 (lv_args 0 [.ref 669, .int v1, .int v2]) [] s' db_zV (r368 s' v1 v2)) : db_Rf X (d + 8) dbm_369 0 (lv_args 0 [.ref 669, .int v1]) [] s db_zV (db_f369 r368 s v1) := by
  show db_Rf _ _ _ 0 [(0, .ref 669), (1, .int v1)] [] _ _ _
  unfold db_f369
  refine db_Rgo (pc' := 7) (lv' := [(0, .ref 669), (1, .int v1)]) (st' := [.int (300 : Int32), .int (s.1 669 43)]) 3 rfl ?_
  refine db_Ric (pc' := 10) (tg := 21) (lv1 := [(0, .ref 669), (1, .int v1)]) rfl rfl rfl rfl ?_ ?_
  · refine db_Rgo (pc' := 28) (lv' := [(0, .ref 669), (1, .int v1)]) (st' := [.int ((s.1 669 43) + (1 : Int32)), .ref 669]) 5 rfl ?_
    refine db_RpuI (pc' := 31) (lv1 := [(0, .ref 669), (1, .int v1)]) rfl rfl rfl rfl rfl rfl (by decide) rfl rfl fun s1 => ?_
    refine db_Rgo (pc' := 45) (lv' := [(2, .int ((201 : Int32) + ((9 : Int32) * v1))), (0, .ref 669), (1, .int v1)]) (st' := [.int ((201 : Int32) + ((9 : Int32) * v1)), .ref 674]) 9 rfl ?_
    refine db_RldI (pc' := 46) (lv1 := [(2, .int ((201 : Int32) + ((9 : Int32) * v1))), (0, .ref 669), (1, .int v1)]) rfl rfl rfl fun x2 => ?_
    refine db_Rgo (pc' := 49) (lv' := [(3, .int x2), (2, .int ((201 : Int32) + ((9 : Int32) * v1))), (0, .ref 669), (1, .int v1)]) (st' := [.int (4 : Int32), .int x2]) 3 rfl ?_
    refine db_Ric (pc' := 52) (tg := 77) (lv1 := [(3, .int x2), (2, .int ((201 : Int32) + ((9 : Int32) * v1))), (0, .ref 669), (1, .int v1)]) rfl rfl rfl rfl ?_ ?_
    · refine db_Rgo (pc' := 79) (lv' := [(0, .ref 669), (1, .int v1), (2, .int ((201 : Int32) + ((9 : Int32) * v1))), (3, .int x2)]) (st' := [.int (4 : Int32), .int x2]) 2 rfl ?_
      refine db_Ric (pc' := 82) (tg := 109) (lv1 := [(0, .ref 669), (1, .int v1), (2, .int ((201 : Int32) + ((9 : Int32) * v1))), (3, .int x2)]) rfl rfl rfl rfl ?_ ?_
      · exact db_f369_b109_ok z368
      refine db_Rgo (pc' := 84) (lv' := [(0, .ref 669), (1, .int v1), (2, .int ((201 : Int32) + ((9 : Int32) * v1))), (3, .int x2)]) (st' := [.int ((201 : Int32) + ((9 : Int32) * v1)), .ref 669]) 2 rfl ?_
      refine db_RcyB (mr' := dbm_373) (as := [.ref 669, .int ((201 : Int32) + ((9 : Int32) * v1))]) (rest := []) (pc' := 87) (lv1 := [(0, .ref 669), (1, .int v1), (2, .int ((201 : Int32) + ((9 : Int32) * v1))), (3, .int x2)]) rfl rfl rfl rfl rfl (db_f373_ok) fun q3 => ?_
      refine db_RifBe (pc' := 90) (tg := 109) (lv1 := [(0, .ref 669), (1, .int v1), (2, .int ((201 : Int32) + ((9 : Int32) * v1))), (3, .int x2)]) rfl rfl rfl rfl ?_ ?_
      · exact db_f369_b109_ok z368
      refine db_Rgo (pc' := 102) (lv' := [(0, .ref 669), (1, .int v1), (2, .int ((201 : Int32) + ((9 : Int32) * v1))), (3, .int x2)]) (st' := [.int (((201 : Int32) + ((9 : Int32) * v1)) + (8 : Int32)), .ref 674, .int (v1 + (1 : Int32)), .ref 669]) 9 rfl ?_
      refine db_RldI (pc' := 103) (lv1 := [(0, .ref 669), (1, .int v1), (2, .int ((201 : Int32) + ((9 : Int32) * v1))), (3, .int x2)]) rfl rfl rfl fun x5 => ?_
      refine db_RcV (mr' := dbm_368) (as := [.ref 669, .int (v1 + (1 : Int32)), .int x5]) (rest := []) (pc' := 106) (lv1 := [(0, .ref 669), (1, .int v1), (2, .int ((201 : Int32) + ((9 : Int32) * v1))), (3, .int x2)]) rfl rfl rfl rfl rfl (z368 _ _ _) fun s7 => ?_
      refine db_Rgo (pc' := 172) (lv' := [(0, .ref 669), (1, .int v1), (2, .int ((201 : Int32) + ((9 : Int32) * v1))), (3, .int x2)]) (st' := []) 1 rfl ?_
      exact db_Rret (lv1 := []) rfl rfl rfl rfl
    refine db_Rgo (pc' := 59) (lv' := [(3, .int x2), (2, .int ((201 : Int32) + ((9 : Int32) * v1))), (0, .ref 669), (1, .int v1)]) (st' := [.int ((201 : Int32) + ((9 : Int32) * v1)), .ref 669, .int (s1.1 669 44), .ref 669]) 5 rfl ?_
    refine db_RcdB (mr' := dbm_370) (as := [.ref 669, .int ((201 : Int32) + ((9 : Int32) * v1))]) (rest := [.int (s1.1 669 44), .ref 669]) (pc' := 62) (lv1 := [(3, .int x2), (2, .int ((201 : Int32) + ((9 : Int32) * v1))), (0, .ref 669), (1, .int v1)]) rfl rfl rfl rfl rfl (db_f370_ok) fun q8 s9 => ?_
    refine db_RifBe (pc' := 65) (tg := 69) (lv1 := [(3, .int x2), (2, .int ((201 : Int32) + ((9 : Int32) * v1))), (0, .ref 669), (1, .int v1)]) rfl rfl rfl rfl ?_ ?_
    · refine db_Rgo (pc' := 70) (lv' := []) (st' := [.int (1 : Int32), .int (s1.1 669 44), .ref 669]) 1 rfl ?_
      exact db_f369_b70_ok z368
    refine db_Rgo (pc' := 70) (lv' := [(3, .int x2), (2, .int ((201 : Int32) + ((9 : Int32) * v1))), (0, .ref 669), (1, .int v1)]) (st' := [.int (0 : Int32), .int (s1.1 669 44), .ref 669]) 2 rfl ?_
    refine db_Rn (lv1 := []) rfl rfl rfl ?_
    exact db_f369_b70_ok z368
  refine db_Rgo (pc' := 12) (lv' := [(0, .ref 669), (1, .int v1)]) (st' := [.int (1 : Int32), .ref 669]) 2 rfl ?_
  refine db_RpuI (pc' := 15) (lv1 := [(0, .ref 669), (1, .int v1)]) rfl rfl rfl rfl rfl rfl (by decide) rfl rfl fun s10 => ?_
  refine db_Rgo (pc' := 17) (lv' := [(0, .ref 669), (1, .int v1)]) (st' := [.int (1 : Int32), .ref 669]) 2 rfl ?_
  refine db_RpuI (pc' := 20) (lv1 := [(0, .ref 669), (1, .int v1)]) rfl rfl rfl rfl rfl rfl (by decide) rfl rfl fun s11 => ?_
  exact db_Rret (lv1 := [(0, .ref 669), (1, .int v1)]) rfl rfl rfl rfl
