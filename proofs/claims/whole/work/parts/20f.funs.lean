/-- DreamBookModel.isTray(I)Z -/
noncomputable def db_f301 (s : db_S) (v1 : Int32) : Option Bool :=
  ((db_f269 s (Int32.toInt64 v1) (0 : Int64) (3 : Int64)).bind fun q1 => (some q1))
set_option maxRecDepth 100000 in
theorem db_f301_ok {X : db_X} {d : Nat} {s : db_S} {v1 : Int32} : db_Rf X (d + 1) dbm_301 0 (lv_args 0 [.ref 669, .int v1]) [] s (db_yB s) (db_f301 s v1) := by
  show db_Rf _ _ _ 0 [(0, .ref 669), (1, .int v1)] [] _ _ _
  unfold db_f301
  refine db_Rgo (pc' := 6) (lv' := [(0, .ref 669), (1, .int v1)]) (st' := [.long (3 : Int64), .long (0 : Int64), .long (Int32.toInt64 v1)]) 4 rfl ?_
  refine db_RcyB (mr' := dbm_269) (as := [.long (Int32.toInt64 v1), .long (0 : Int64), .long (3 : Int64)]) (rest := []) (pc' := 9) (lv1 := [(0, .ref 669), (1, .int v1)]) rfl rfl rfl rfl rfl (db_f269_ok) fun q1 => ?_
  exact db_RretB (lv1 := [(0, .ref 669), (1, .int v1)]) rfl rfl rfl rfl
noncomputable def db_f300_b79 : Nat → db_S → Int32 → Int32 → Int32 → Option (Int32 × db_S)
  | 0, _, _, _, _ => none
  | n + 1, s, v1, v2, v3 =>
    ((db_rI s 674 ((127 : Int32) + v1)).bind fun x1 => (cond (db_cnd .ge v3 x1) ((db_rI s 674 ((127 : Int32) + v1)).bind fun x2 => (some (x2, s))) ((db_f299 s v1 v3).bind fun q3 => ((db_wL s 672 (((60 : Int32) * v2) + v3) (Int32.toInt64 q3)).bind fun s5 => (db_f300_b79 n s5 v1 v2 (v3 + (1 : Int32)))))))
set_option maxRecDepth 100000 in
theorem db_f300_b79_ok {X : db_X} {d : Nat}  (n : Nat) : ∀ (s : db_S) (v1 : Int32) (v2 : Int32) (v3 : Int32), db_Rf X (d + 2) dbm_300 79 [(0, .ref 669), (1, .int v1), (2, .int v2), (3, .int v3)] [] s db_zI (db_f300_b79 n s v1 v2 v3) := by
  induction n with
  | zero => intros; exact db_Rnone
  | succ n ih =>
    intro s v1 v2 v3
    unfold db_f300_b79
    refine db_Rgo (pc' := 88) (lv' := [(0, .ref 669), (1, .int v1), (2, .int v2), (3, .int v3)]) (st' := [.int ((127 : Int32) + v1), .ref 674, .int v3]) 6 rfl ?_
    refine db_RldI (pc' := 89) (lv1 := [(0, .ref 669), (1, .int v1), (2, .int v2), (3, .int v3)]) rfl rfl rfl fun x1 => ?_
    refine db_Ric (pc' := 92) (tg := 116) (lv1 := [(0, .ref 669), (1, .int v1), (2, .int v2), (3, .int v3)]) rfl rfl rfl rfl ?_ ?_
    · refine db_Rgo (pc' := 124) (lv' := [(0, .ref 669), (1, .int v1)]) (st' := [.int ((127 : Int32) + v1), .ref 674]) 5 rfl ?_
      refine db_RldI (pc' := 125) (lv1 := [(0, .ref 669), (1, .int v1)]) rfl rfl rfl fun x2 => ?_
      exact db_Rret (lv1 := [(0, .ref 669), (1, .int v1)]) rfl rfl rfl rfl
    refine db_Rgo (pc' := 105) (lv' := [(0, .ref 669), (1, .int v1), (2, .int v2), (3, .int v3)]) (st' := [.int v3, .int v1, .ref 669, .int (((60 : Int32) * v2) + v3), .ref 672]) 10 rfl ?_
    refine db_RcyI (mr' := dbm_299) (as := [.ref 669, .int v1, .int v3]) (rest := [.int (((60 : Int32) * v2) + v3), .ref 672]) (pc' := 108) (lv1 := [(0, .ref 669), (1, .int v1), (2, .int v2), (3, .int v3)]) rfl rfl rfl rfl rfl (db_f299_ok) fun q3 => ?_
    refine db_Rgo (pc' := 109) (lv' := [(0, .ref 669), (1, .int v1), (2, .int v2), (3, .int v3)]) (st' := [.long (Int32.toInt64 q3), .int (((60 : Int32) * v2) + v3), .ref 672]) 1 rfl ?_
    refine db_RstL (pc' := 110) (lv1 := [(0, .ref 669), (1, .int v1), (2, .int v2), (3, .int v3)]) rfl rfl rfl fun s5 => ?_
    refine db_Rgo (pc' := 79) (lv' := [(3, .int (v3 + (1 : Int32))), (0, .ref 669), (1, .int v1), (2, .int v2)]) (st' := []) 2 rfl ?_
    refine db_Rn (lv1 := [(0, .ref 669), (1, .int v1), (2, .int v2), (3, .int (v3 + (1 : Int32)))]) rfl rfl rfl ?_
    exact ih _ _ _ _
/-- DreamBookModel.copyDream(II)I -/
noncomputable def db_f300 (s : db_S) (v1 : Int32) (v2 : Int32) : Option (Int32 × db_S) :=
  ((db_pI s 669 1 (0 : Int32)).bind fun s1 => ((db_pI s1 669 0 (0 : Int32)).bind fun s2 => ((db_f301 s2 v2).bind fun q3 => (cond q3 ((db_rI s2 671 v2).bind fun x5 => (cond (db_cnd .ge x5 0) ((db_f297 s2 v1).bind fun q6 => (cond q6 ((db_rI s2 671 v2).bind fun x8 => ((db_rI s2 674 ((127 : Int32) + v1)).bind fun x9 => (cond (db_cnd .ge x8 x9) (db_f300_b79 db_FU s2 v1 v2 (0 : Int32)) (db_bd (db_f281 s2 (4 : Int32)) fun q10 s11 => (some (q10, s11)))))) (db_bd (db_f281 s2 (2 : Int32)) fun q12 s13 => (some (q12, s13))))) (db_bd (db_f281 s2 (3 : Int32)) fun q14 s15 => (some (q14, s15))))) (db_bd (db_f281 s2 (1 : Int32)) fun q16 s17 => (some (q16, s17)))))))
set_option maxRecDepth 100000 in
theorem db_f300_ok {X : db_X} {d : Nat} {s : db_S} {v1 : Int32} {v2 : Int32} : db_Rf X (d + 2) dbm_300 0 (lv_args 0 [.ref 669, .int v1, .int v2]) [] s db_zI (db_f300 s v1 v2) := by
  show db_Rf _ _ _ 0 [(0, .ref 669), (1, .int v1), (2, .int v2)] [] _ _ _
  unfold db_f300
  refine db_Rgo (pc' := 2) (lv' := [(0, .ref 669), (1, .int v1), (2, .int v2)]) (st' := [.int (0 : Int32), .ref 669]) 2 rfl ?_
  refine db_RpuI (pc' := 5) (lv1 := [(0, .ref 669), (1, .int v1), (2, .int v2)]) rfl rfl rfl rfl rfl rfl (by decide) rfl rfl fun s1 => ?_
  refine db_Rgo (pc' := 7) (lv' := [(0, .ref 669), (1, .int v1), (2, .int v2)]) (st' := [.int (0 : Int32), .ref 669]) 2 rfl ?_
  refine db_RpuI (pc' := 10) (lv1 := [(0, .ref 669), (1, .int v1), (2, .int v2)]) rfl rfl rfl rfl rfl rfl (by decide) rfl rfl fun s2 => ?_
  refine db_Rgo (pc' := 12) (lv' := [(0, .ref 669), (1, .int v1), (2, .int v2)]) (st' := [.int v2, .ref 669]) 2 rfl ?_
  refine db_RcyB (mr' := dbm_301) (as := [.ref 669, .int v2]) (rest := []) (pc' := 15) (lv1 := [(0, .ref 669), (1, .int v1), (2, .int v2)]) rfl rfl rfl rfl rfl (db_f301_ok) fun q3 => ?_
  refine db_RifBn (pc' := 18) (tg := 24) (lv1 := [(0, .ref 669), (1, .int v1), (2, .int v2)]) rfl rfl rfl rfl ?_ ?_
  · refine db_Rgo (pc' := 29) (lv' := [(0, .ref 669), (1, .int v1), (2, .int v2)]) (st' := [.int v2, .ref 671]) 3 rfl ?_
    refine db_RldI (pc' := 30) (lv1 := [(0, .ref 669), (1, .int v1), (2, .int v2)]) rfl rfl rfl fun x5 => ?_
    refine db_Rif (pc' := 33) (tg := 39) (lv1 := [(0, .ref 669), (1, .int v1), (2, .int v2)]) rfl rfl rfl rfl ?_ ?_
    · refine db_Rgo (pc' := 41) (lv' := [(0, .ref 669), (1, .int v1), (2, .int v2)]) (st' := [.int v1, .ref 669]) 2 rfl ?_
      refine db_RcyB (mr' := dbm_297) (as := [.ref 669, .int v1]) (rest := []) (pc' := 44) (lv1 := [(0, .ref 669), (1, .int v1), (2, .int v2)]) rfl rfl rfl rfl rfl (db_f297_ok) fun q6 => ?_
      refine db_RifBn (pc' := 47) (tg := 53) (lv1 := [(0, .ref 669), (1, .int v1), (2, .int v2)]) rfl rfl rfl rfl ?_ ?_
      · refine db_Rgo (pc' := 58) (lv' := [(0, .ref 669), (1, .int v1), (2, .int v2)]) (st' := [.int v2, .ref 671]) 3 rfl ?_
        refine db_RldI (pc' := 59) (lv1 := [(0, .ref 669), (1, .int v1), (2, .int v2)]) rfl rfl rfl fun x8 => ?_
        refine db_Rgo (pc' := 67) (lv' := [(0, .ref 669), (1, .int v1), (2, .int v2)]) (st' := [.int ((127 : Int32) + v1), .ref 674, .int x8]) 5 rfl ?_
        refine db_RldI (pc' := 68) (lv1 := [(0, .ref 669), (1, .int v1), (2, .int v2)]) rfl rfl rfl fun x9 => ?_
        refine db_Ric (pc' := 71) (tg := 77) (lv1 := [(0, .ref 669), (1, .int v1), (2, .int v2)]) rfl rfl rfl rfl ?_ ?_
        · refine db_Rgo (pc' := 79) (lv' := [(3, .int (0 : Int32)), (0, .ref 669), (1, .int v1), (2, .int v2)]) (st' := []) 2 rfl ?_
          refine db_Rn (lv1 := [(0, .ref 669), (1, .int v1), (2, .int v2), (3, .int (0 : Int32))]) rfl rfl rfl ?_
          exact db_f300_b79_ok db_FU _ _ _ _
        refine db_Rgo (pc' := 73) (lv' := [(0, .ref 669), (1, .int v1), (2, .int v2)]) (st' := [.int (4 : Int32), .ref 669]) 2 rfl ?_
        refine db_RcdI (mr' := dbm_281) (as := [.ref 669, .int (4 : Int32)]) (rest := []) (pc' := 76) (lv1 := [(0, .ref 669), (1, .int v1), (2, .int v2)]) rfl rfl rfl rfl rfl (db_f281_ok) fun q10 s11 => ?_
        exact db_Rret (lv1 := [(0, .ref 669), (1, .int v1), (2, .int v2)]) rfl rfl rfl rfl
      refine db_Rgo (pc' := 49) (lv' := [(0, .ref 669), (1, .int v1), (2, .int v2)]) (st' := [.int (2 : Int32), .ref 669]) 2 rfl ?_
      refine db_RcdI (mr' := dbm_281) (as := [.ref 669, .int (2 : Int32)]) (rest := []) (pc' := 52) (lv1 := [(0, .ref 669), (1, .int v1), (2, .int v2)]) rfl rfl rfl rfl rfl (db_f281_ok) fun q12 s13 => ?_
      exact db_Rret (lv1 := [(0, .ref 669), (1, .int v1), (2, .int v2)]) rfl rfl rfl rfl
    refine db_Rgo (pc' := 35) (lv' := [(0, .ref 669), (1, .int v1), (2, .int v2)]) (st' := [.int (3 : Int32), .ref 669]) 2 rfl ?_
    refine db_RcdI (mr' := dbm_281) (as := [.ref 669, .int (3 : Int32)]) (rest := []) (pc' := 38) (lv1 := [(0, .ref 669), (1, .int v1), (2, .int v2)]) rfl rfl rfl rfl rfl (db_f281_ok) fun q14 s15 => ?_
    exact db_Rret (lv1 := [(0, .ref 669), (1, .int v1), (2, .int v2)]) rfl rfl rfl rfl
  refine db_Rgo (pc' := 20) (lv' := [(0, .ref 669), (1, .int v1), (2, .int v2)]) (st' := [.int (1 : Int32), .ref 669]) 2 rfl ?_
  refine db_RcdI (mr' := dbm_281) (as := [.ref 669, .int (1 : Int32)]) (rest := []) (pc' := 23) (lv1 := [(0, .ref 669), (1, .int v1), (2, .int v2)]) rfl rfl rfl rfl rfl (db_f281_ok) fun q16 s17 => ?_
  exact db_Rret (lv1 := [(0, .ref 669), (1, .int v1), (2, .int v2)]) rfl rfl rfl rfl
/-- DreamBook.isIn(II)Z -/
noncomputable def db_f112 (s : db_S) (v0 : Int32) (v1 : Int32) : Option Bool :=
  (cond (db_cnd .eq ((v0 >>> (v1 &&& 31)) &&& (1 : Int32)) 0) (some false) (some true))
set_option maxRecDepth 100000 in
theorem db_f112_ok {X : db_X} {d : Nat} {s : db_S} {v0 : Int32} {v1 : Int32} : db_Rf X (d + 0) dbm_112 0 (lv_args 0 [.int v0, .int v1]) [] s (db_yB s) (db_f112 s v0 v1) := by
  show db_Rf _ _ _ 0 [(0, .int v0), (1, .int v1)] [] _ _ _
  unfold db_f112
  refine db_Rgo (pc' := 5) (lv' := [(0, .int v0), (1, .int v1)]) (st' := [.int ((v0 >>> (v1 &&& 31)) &&& (1 : Int32))]) 5 rfl ?_
  refine db_Rif (pc' := 8) (tg := 12) (lv1 := [(0, .int v0), (1, .int v1)]) rfl rfl rfl rfl ?_ ?_
  · refine db_Rgo (pc' := 13) (lv' := []) (st' := [.int (0 : Int32)]) 1 rfl ?_
    exact db_Rret (lv1 := []) rfl rfl rfl rfl
  refine db_Rgo (pc' := 13) (lv' := [(0, .int v0), (1, .int v1)]) (st' := [.int (1 : Int32)]) 2 rfl ?_
  exact db_Rret (lv1 := []) rfl rfl rfl rfl
noncomputable def db_f111_b55 (s : db_S) (t1 : Int32) : Option (Int32 × db_S) :=
  (db_bd (db_f87 s t1) fun q1 s2 => (some (q1, s2)))
set_option maxRecDepth 100000 in
theorem db_f111_b55_ok {X : db_X} {d : Nat}  {s : db_S} {t1 : Int32} : db_Rf X (d + 1) dbm_111 55 [] [.int t1, .ref 4] s db_zI (db_f111_b55 s t1) := by
  unfold db_f111_b55
  refine db_RcdI (mr' := dbm_87) (as := [.ref 4, .int t1]) (rest := []) (pc' := 58) (lv1 := []) rfl rfl rfl rfl rfl (db_f87_ok) fun q1 s2 => ?_
  exact db_Rret (lv1 := []) rfl rfl rfl rfl
/-- DreamBook.standing(I)I -/
noncomputable def db_f111 (s : db_S) (v1 : Int32) : Option (Int32 × db_S) :=
  ((db_f103 s (3 : Int32) v1).bind fun q1 => (cond q1 ((db_f112 s (s.1 20 13) v1).bind fun q3 => (cond q3 (db_bd (db_f87 s (0 : Int32)) fun q7 s8 => (some (q7, s8))) ((db_f112 s (s.1 20 14) v1).bind fun q5 => (cond q5 (db_f111_b55 s (1 : Int32)) (db_f111_b55 s (2 : Int32)))))) (db_bd (db_f37 s (2 : Int32)) fun q9 s10 => (some (q9, s10)))))
set_option maxRecDepth 100000 in
theorem db_f111_ok {X : db_X} {d : Nat} {s : db_S} {v1 : Int32} : db_Rf X (d + 1) dbm_111 0 (lv_args 0 [.ref 4, .int v1]) [] s db_zI (db_f111 s v1) := by
  show db_Rf _ _ _ 0 [(0, .ref 4), (1, .int v1)] [] _ _ _
  unfold db_f111
  refine db_Rgo (pc' := 3) (lv' := [(0, .ref 4), (1, .int v1)]) (st' := [.int v1, .int (3 : Int32), .ref 4]) 3 rfl ?_
  refine db_RcyB (mr' := dbm_103) (as := [.ref 4, .int (3 : Int32), .int v1]) (rest := []) (pc' := 6) (lv1 := [(0, .ref 4), (1, .int v1)]) rfl rfl rfl rfl rfl (db_f103_ok) fun q1 => ?_
  refine db_RifBn (pc' := 9) (tg := 15) (lv1 := [(0, .ref 4), (1, .int v1)]) rfl rfl rfl rfl ?_ ?_
  · refine db_Rgo (pc' := 23) (lv' := [(0, .ref 4), (1, .int v1)]) (st' := [.int v1, .int (s.1 20 13)]) 4 rfl ?_
    refine db_RcyB (mr' := dbm_112) (as := [.int (s.1 20 13), .int v1]) (rest := []) (pc' := 26) (lv1 := [(0, .ref 4), (1, .int v1)]) rfl rfl rfl rfl rfl (db_f112_ok) fun q3 => ?_
    refine db_RifBe (pc' := 29) (tg := 35) (lv1 := [(0, .ref 4), (1, .int v1)]) rfl rfl rfl rfl ?_ ?_
    · refine db_Rgo (pc' := 44) (lv' := [(0, .ref 4), (1, .int v1)]) (st' := [.int v1, .int (s.1 20 14), .ref 4]) 5 rfl ?_
      refine db_RcyB (mr' := dbm_112) (as := [.int (s.1 20 14), .int v1]) (rest := [.ref 4]) (pc' := 47) (lv1 := [(0, .ref 4), (1, .int v1)]) rfl rfl rfl rfl rfl (db_f112_ok) fun q5 => ?_
      refine db_RifBe (pc' := 50) (tg := 54) (lv1 := [(0, .ref 4), (1, .int v1)]) rfl rfl rfl rfl ?_ ?_
      · refine db_Rgo (pc' := 55) (lv' := []) (st' := [.int (2 : Int32), .ref 4]) 1 rfl ?_
        exact db_f111_b55_ok
      refine db_Rgo (pc' := 55) (lv' := [(0, .ref 4), (1, .int v1)]) (st' := [.int (1 : Int32), .ref 4]) 2 rfl ?_
      refine db_Rn (lv1 := []) rfl rfl rfl ?_
      exact db_f111_b55_ok
    refine db_Rgo (pc' := 31) (lv' := [(0, .ref 4), (1, .int v1)]) (st' := [.int (0 : Int32), .ref 4]) 2 rfl ?_
    refine db_RcdI (mr' := dbm_87) (as := [.ref 4, .int (0 : Int32)]) (rest := []) (pc' := 34) (lv1 := [(0, .ref 4), (1, .int v1)]) rfl rfl rfl rfl rfl (db_f87_ok) fun q7 s8 => ?_
    exact db_Rret (lv1 := [(0, .ref 4), (1, .int v1)]) rfl rfl rfl rfl
  refine db_Rgo (pc' := 11) (lv' := [(0, .ref 4), (1, .int v1)]) (st' := [.int (2 : Int32), .ref 4]) 2 rfl ?_
  refine db_RcdI (mr' := dbm_37) (as := [.ref 4, .int (2 : Int32)]) (rest := []) (pc' := 14) (lv1 := [(0, .ref 4), (1, .int v1)]) rfl rfl rfl rfl rfl (db_f37_ok) fun q9 s10 => ?_
  exact db_Rret (lv1 := [(0, .ref 4), (1, .int v1)]) rfl rfl rfl rfl
/-- DreamBookModel.standing(I)I -/
noncomputable def db_f302 (s : db_S) (v1 : Int32) : Option (Int32 × db_S) :=
  ((db_pI s 669 1 (0 : Int32)).bind fun s1 => ((db_pI s1 669 0 (0 : Int32)).bind fun s2 => ((db_f289 s2 v1).bind fun q3 => (cond q3 ((db_f284 s2).bind fun s6 => ((db_rI s6 677 v1).bind fun x7 => (some (x7, s6)))) (db_bd (db_f281 s2 (2 : Int32)) fun q8 s9 => (some (q8, s9)))))))
set_option maxRecDepth 100000 in
theorem db_f302_ok {X : db_X} {d : Nat} {s : db_S} {v1 : Int32} : db_Rf X (d + 3) dbm_302 0 (lv_args 0 [.ref 669, .int v1]) [] s db_zI (db_f302 s v1) := by
  show db_Rf _ _ _ 0 [(0, .ref 669), (1, .int v1)] [] _ _ _
  unfold db_f302
  refine db_Rgo (pc' := 2) (lv' := [(0, .ref 669), (1, .int v1)]) (st' := [.int (0 : Int32), .ref 669]) 2 rfl ?_
  refine db_RpuI (pc' := 5) (lv1 := [(0, .ref 669), (1, .int v1)]) rfl rfl rfl rfl rfl rfl (by decide) rfl rfl fun s1 => ?_
  refine db_Rgo (pc' := 7) (lv' := [(0, .ref 669), (1, .int v1)]) (st' := [.int (0 : Int32), .ref 669]) 2 rfl ?_
  refine db_RpuI (pc' := 10) (lv1 := [(0, .ref 669), (1, .int v1)]) rfl rfl rfl rfl rfl rfl (by decide) rfl rfl fun s2 => ?_
  refine db_Rgo (pc' := 12) (lv' := [(0, .ref 669), (1, .int v1)]) (st' := [.int v1, .ref 669]) 2 rfl ?_
  refine db_RcyB (mr' := dbm_289) (as := [.ref 669, .int v1]) (rest := []) (pc' := 15) (lv1 := [(0, .ref 669), (1, .int v1)]) rfl rfl rfl rfl rfl (db_f289_ok) fun q3 => ?_
  refine db_RifBn (pc' := 18) (tg := 24) (lv1 := [(0, .ref 669), (1, .int v1)]) rfl rfl rfl rfl ?_ ?_
  · refine db_Rgo (pc' := 25) (lv' := [(0, .ref 669), (1, .int v1)]) (st' := [.ref 669]) 1 rfl ?_
    refine db_RcV (mr' := dbm_284) (as := [.ref 669]) (rest := []) (pc' := 28) (lv1 := [(0, .ref 669), (1, .int v1)]) rfl rfl rfl rfl rfl (db_f284_ok) fun s6 => ?_
    refine db_Rgo (pc' := 33) (lv' := [(0, .ref 669), (1, .int v1)]) (st' := [.int v1, .ref 677]) 3 rfl ?_
    refine db_RldI (pc' := 34) (lv1 := [(0, .ref 669), (1, .int v1)]) rfl rfl rfl fun x7 => ?_
    exact db_Rret (lv1 := [(0, .ref 669), (1, .int v1)]) rfl rfl rfl rfl
  refine db_Rgo (pc' := 20) (lv' := [(0, .ref 669), (1, .int v1)]) (st' := [.int (2 : Int32), .ref 669]) 2 rfl ?_
  refine db_RcdI (mr' := dbm_281) (as := [.ref 669, .int (2 : Int32)]) (rest := []) (pc' := 23) (lv1 := [(0, .ref 669), (1, .int v1)]) rfl rfl rfl rfl rfl (db_f281_ok) fun q8 s9 => ?_
  exact db_Rret (lv1 := [(0, .ref 669), (1, .int v1)]) rfl rfl rfl rfl
/-- DreamBook$Told.sets()I -/
noncomputable def db_f115_20 (s : db_S) : Option Int32 :=
  ((db_rI s 21 (3 : Int32)).bind fun x1 => (some ((1 : Int32) <<< (x1 &&& 31))))
set_option maxRecDepth 100000 in
theorem db_f115_20_ok {X : db_X} {d : Nat} {s : db_S} : db_Rf X (d + 0) dbm_115 0 (lv_args 0 [.ref 20]) [] s (db_yI s) (db_f115_20 s ) := by
  show db_Rf _ _ _ 0 [(0, .ref 20)] [] _ _ _
  unfold db_f115_20
  refine db_Rgo (pc' := 6) (lv' := [(0, .ref 20)]) (st' := [.int (3 : Int32), .ref 21, .int (1 : Int32)]) 4 rfl ?_
  refine db_RldI (pc' := 7) (lv1 := [(0, .ref 20)]) rfl rfl rfl fun x1 => ?_
  refine db_Rgo (pc' := 8) (lv' := [(0, .ref 20)]) (st' := [.int ((1 : Int32) <<< (x1 &&& 31))]) 1 rfl ?_
  exact db_Rret (lv1 := [(0, .ref 20)]) rfl rfl rfl rfl
noncomputable def db_f116_20_b33 (h2 : Int32 → Int32 → Option Bool) (s : db_S) (v1 : Int32) (v2 : Int32) (t0 : Int32) (t1 : Int32) : Option Bool :=
  (cond (db_cnd .ne t0 t1) (h2 v1 (v2 + (1 : Int32))) (some false))
set_option maxRecDepth 100000 in
theorem db_f116_20_b33_ok {X : db_X} {d : Nat}  {h2 : Int32 → Int32 → Option Bool} {s : db_S} {v1 : Int32} {v2 : Int32} {t0 : Int32} {t1 : Int32} (zh2 : ∀ (v1 : Int32) (v2 : Int32) , db_Rf X (d + 1) dbm_116 2 [(0, .ref 20), (1, .int v1), (2, .int v2)] [] s (db_yB s) (h2 v1 v2)) : db_Rf X (d + 1) dbm_116 33 [(0, .ref 20), (1, .int v1), (2, .int v2)] [.int t1, .int t0] s (db_yB s) (db_f116_20_b33 h2 s v1 v2 t0 t1) := by
  unfold db_f116_20_b33
  refine db_Ric (pc' := 36) (tg := 38) (lv1 := [(0, .ref 20), (1, .int v1), (2, .int v2)]) rfl rfl rfl rfl ?_ ?_
  · refine db_Rgo (pc' := 2) (lv' := [(2, .int (v2 + (1 : Int32))), (0, .ref 20), (1, .int v1)]) (st' := []) 2 rfl ?_
    refine db_Rn (lv1 := [(0, .ref 20), (1, .int v1), (2, .int (v2 + (1 : Int32)))]) rfl rfl rfl ?_
    exact zh2 _ _
  refine db_Rgo (pc' := 37) (lv' := [(0, .ref 20), (1, .int v1), (2, .int v2)]) (st' := [.int (0 : Int32)]) 1 rfl ?_
  exact db_Rret (lv1 := [(0, .ref 20), (1, .int v1), (2, .int v2)]) rfl rfl rfl rfl
noncomputable def db_f116_20_b2 (s : db_S) : Nat → Int32 → Int32 → Option Bool
  | 0, _, _ => none
  | n + 1, v1, v2 =>
    ((db_rI s 21 (3 : Int32)).bind fun x1 => (cond (db_cnd .ge v2 x1) (some true) ((db_f112 s v1 v2).bind fun q2 => ((db_rI s 63 v2).bind fun x4 => (cond (db_cnd .eq (x4 &&& v1) 0) (db_f116_20_b33 (db_f116_20_b2 s n) s v1 v2 (db_i q2) (0 : Int32)) (db_f116_20_b33 (db_f116_20_b2 s n) s v1 v2 (db_i q2) (1 : Int32)))))))
set_option maxRecDepth 100000 in
theorem db_f116_20_b2_ok {X : db_X} {d : Nat} {s : db_S} (n : Nat) : ∀ (v1 : Int32) (v2 : Int32), db_Rf X (d + 1) dbm_116 2 [(0, .ref 20), (1, .int v1), (2, .int v2)] [] s (db_yB s) (db_f116_20_b2 s n v1 v2) := by
  induction n with
  | zero => intros; exact db_Rnone
  | succ n ih =>
    intro v1 v2
    unfold db_f116_20_b2
    refine db_Rgo (pc' := 8) (lv' := [(0, .ref 20), (1, .int v1), (2, .int v2)]) (st' := [.int (3 : Int32), .ref 21, .int v2]) 4 rfl ?_
    refine db_RldI (pc' := 9) (lv1 := [(0, .ref 20), (1, .int v1), (2, .int v2)]) rfl rfl rfl fun x1 => ?_
    refine db_Ric (pc' := 12) (tg := 44) (lv1 := [(0, .ref 20), (1, .int v1), (2, .int v2)]) rfl rfl rfl rfl ?_ ?_
    · refine db_Rgo (pc' := 45) (lv' := []) (st' := [.int (1 : Int32)]) 1 rfl ?_
      exact db_Rret (lv1 := []) rfl rfl rfl rfl
    refine db_Rgo (pc' := 14) (lv' := [(0, .ref 20), (1, .int v1), (2, .int v2)]) (st' := [.int v2, .int v1]) 2 rfl ?_
    refine db_RcyB (mr' := dbm_112) (as := [.int v1, .int v2]) (rest := []) (pc' := 17) (lv1 := [(0, .ref 20), (1, .int v1), (2, .int v2)]) rfl rfl rfl rfl rfl (db_f112_ok) fun q2 => ?_
    refine db_Rgo (pc' := 22) (lv' := [(0, .ref 20), (1, .int v1), (2, .int v2)]) (st' := [.int v2, .ref 63, .int (db_i q2)]) 3 rfl ?_
    refine db_RldI (pc' := 23) (lv1 := [(0, .ref 20), (1, .int v1), (2, .int v2)]) rfl rfl rfl fun x4 => ?_
    refine db_Rgo (pc' := 25) (lv' := [(0, .ref 20), (1, .int v1), (2, .int v2)]) (st' := [.int (x4 &&& v1), .int (db_i q2)]) 2 rfl ?_
    refine db_Rif (pc' := 28) (tg := 32) (lv1 := [(0, .ref 20), (1, .int v1), (2, .int v2)]) rfl rfl rfl rfl ?_ ?_
    · refine db_Rgo (pc' := 33) (lv' := [(0, .ref 20), (1, .int v1), (2, .int v2)]) (st' := [.int (0 : Int32), .int (db_i q2)]) 1 rfl ?_
      exact db_f116_20_b33_ok ih
    refine db_Rgo (pc' := 33) (lv' := [(0, .ref 20), (1, .int v1), (2, .int v2)]) (st' := [.int (1 : Int32), .int (db_i q2)]) 2 rfl ?_
    exact db_f116_20_b33_ok ih
/-- DreamBook$Told.isStable(I)Z -/
noncomputable def db_f116_20 (s : db_S) (v1 : Int32) : Option Bool :=
  (db_f116_20_b2 s db_FU v1 (0 : Int32))
set_option maxRecDepth 100000 in
theorem db_f116_20_ok {X : db_X} {d : Nat} {s : db_S} {v1 : Int32} : db_Rf X (d + 1) dbm_116 0 (lv_args 0 [.ref 20, .int v1]) [] s (db_yB s) (db_f116_20 s v1) := by
  show db_Rf _ _ _ 0 [(0, .ref 20), (1, .int v1)] [] _ _ _
  unfold db_f116_20
  refine db_Rgo (pc' := 2) (lv' := [(2, .int (0 : Int32)), (0, .ref 20), (1, .int v1)]) (st' := []) 2 rfl ?_
  refine db_Rn (lv1 := [(0, .ref 20), (1, .int v1), (2, .int (0 : Int32))]) rfl rfl rfl ?_
  exact db_f116_20_b2_ok db_FU _ _
noncomputable def db_f114_20_b23 (h4 : Int32 → Int32 → Option Int32) (s : db_S) (v1 : Int32) (v2 : Int32) : Option Int32 :=
  (h4 v1 (v2 + (1 : Int32)))
set_option maxRecDepth 100000 in
theorem db_f114_20_b23_ok {X : db_X} {d : Nat}  {h4 : Int32 → Int32 → Option Int32} {s : db_S} {v1 : Int32} {v2 : Int32} (zh4 : ∀ (v1 : Int32) (v2 : Int32) , db_Rf X (d + 2) dbm_114 4 [(0, .ref 20), (1, .int v1), (2, .int v2)] [] s (db_yI s) (h4 v1 v2)) : db_Rf X (d + 2) dbm_114 23 [(0, .ref 20), (1, .int v1), (2, .int v2)] [] s (db_yI s) (db_f114_20_b23 h4 s v1 v2) := by
  unfold db_f114_20_b23
  refine db_Rgo (pc' := 4) (lv' := [(2, .int (v2 + (1 : Int32))), (0, .ref 20), (1, .int v1)]) (st' := []) 2 rfl ?_
  refine db_Rn (lv1 := [(0, .ref 20), (1, .int v1), (2, .int (v2 + (1 : Int32)))]) rfl rfl rfl ?_
  exact zh4 _ _
noncomputable def db_f114_20_b4 (s : db_S) : Nat → Int32 → Int32 → Option Int32
  | 0, _, _ => none
  | n + 1, v1, v2 =>
    ((db_f115_20 s).bind fun q1 => (cond (db_cnd .ge v2 q1) (some v1) ((db_f116_20 s v2).bind fun q3 => (cond q3 (db_f114_20_b23 (db_f114_20_b4 s n) s (v1 + (1 : Int32)) v2) (db_f114_20_b23 (db_f114_20_b4 s n) s v1 v2)))))
set_option maxRecDepth 100000 in
theorem db_f114_20_b4_ok {X : db_X} {d : Nat} {s : db_S} (n : Nat) : ∀ (v1 : Int32) (v2 : Int32), db_Rf X (d + 2) dbm_114 4 [(0, .ref 20), (1, .int v1), (2, .int v2)] [] s (db_yI s) (db_f114_20_b4 s n v1 v2) := by
  induction n with
  | zero => intros; exact db_Rnone
  | succ n ih =>
    intro v1 v2
    unfold db_f114_20_b4
    refine db_Rgo (pc' := 6) (lv' := [(0, .ref 20), (1, .int v1), (2, .int v2)]) (st' := [.ref 20, .int v2]) 2 rfl ?_
    refine db_RcyI (mr' := dbm_115) (as := [.ref 20]) (rest := [.int v2]) (pc' := 9) (lv1 := [(0, .ref 20), (1, .int v1), (2, .int v2)]) rfl rfl rfl rfl rfl (db_f115_20_ok) fun q1 => ?_
    refine db_Ric (pc' := 12) (tg := 29) (lv1 := [(0, .ref 20), (1, .int v1), (2, .int v2)]) rfl rfl rfl rfl ?_ ?_
    · refine db_Rgo (pc' := 30) (lv' := [(1, .int v1)]) (st' := [.int v1]) 1 rfl ?_
      exact db_Rret (lv1 := [(1, .int v1)]) rfl rfl rfl rfl
    refine db_Rgo (pc' := 14) (lv' := [(0, .ref 20), (1, .int v1), (2, .int v2)]) (st' := [.int v2, .ref 20]) 2 rfl ?_
    refine db_RcyB (mr' := dbm_116) (as := [.ref 20, .int v2]) (rest := []) (pc' := 17) (lv1 := [(0, .ref 20), (1, .int v1), (2, .int v2)]) rfl rfl rfl rfl rfl (db_f116_20_ok) fun q3 => ?_
    refine db_RifBe (pc' := 20) (tg := 23) (lv1 := [(0, .ref 20), (1, .int v1), (2, .int v2)]) rfl rfl rfl rfl ?_ ?_
    · exact db_f114_20_b23_ok ih
    refine db_Rgo (pc' := 23) (lv' := [(1, .int (v1 + (1 : Int32))), (0, .ref 20), (2, .int v2)]) (st' := []) 1 rfl ?_
    refine db_Rn (lv1 := [(0, .ref 20), (1, .int (v1 + (1 : Int32))), (2, .int v2)]) rfl rfl rfl ?_
    exact db_f114_20_b23_ok ih
/-- DreamBook$Told.countStable()I -/
noncomputable def db_f114_20 (s : db_S) : Option Int32 :=
  (db_f114_20_b4 s db_FU (0 : Int32) (0 : Int32))
set_option maxRecDepth 100000 in
theorem db_f114_20_ok {X : db_X} {d : Nat} {s : db_S} : db_Rf X (d + 2) dbm_114 0 (lv_args 0 [.ref 20]) [] s (db_yI s) (db_f114_20 s ) := by
  show db_Rf _ _ _ 0 [(0, .ref 20)] [] _ _ _
  unfold db_f114_20
  refine db_Rgo (pc' := 4) (lv' := [(2, .int (0 : Int32)), (1, .int (0 : Int32)), (0, .ref 20)]) (st' := []) 4 rfl ?_
  refine db_Rn (lv1 := [(0, .ref 20), (1, .int (0 : Int32)), (2, .int (0 : Int32))]) rfl rfl rfl ?_
  exact db_f114_20_b4_ok db_FU _ _
/-- DreamBook.stables()I -/
noncomputable def db_f113 (s : db_S) : Option (Int32 × db_S) :=
  ((db_f114_20 s).bind fun q1 => (db_bd (db_f87 s q1) fun q3 s4 => (some (q3, s4))))
set_option maxRecDepth 100000 in
theorem db_f113_ok {X : db_X} {d : Nat} {s : db_S} : db_Rf X (d + 3) dbm_113 0 (lv_args 0 [.ref 4]) [] s db_zI (db_f113 s ) := by
  show db_Rf _ _ _ 0 [(0, .ref 4)] [] _ _ _
  unfold db_f113
  refine db_Rgo (pc' := 5) (lv' := [(0, .ref 4)]) (st' := [.ref 20, .ref 4]) 3 rfl ?_
  refine db_RcyI (mr' := dbm_114) (as := [.ref 20]) (rest := [.ref 4]) (pc' := 8) (lv1 := [(0, .ref 4)]) rfl rfl rfl rfl rfl (db_f114_20_ok) fun q1 => ?_
  refine db_RcdI (mr' := dbm_87) (as := [.ref 4, .int q1]) (rest := []) (pc' := 11) (lv1 := [(0, .ref 4)]) rfl rfl rfl rfl rfl (db_f87_ok) fun q3 s4 => ?_
  exact db_Rret (lv1 := [(0, .ref 4)]) rfl rfl rfl rfl
noncomputable def db_f306_b31 (h4 : Int32 → Int32 → Int32 → Option Int32) (s : db_S) (v1 : Int32) (v3 : Int32) (t0 : Int32) (t1 : Int32) : Option Int32 :=
  (h4 v1 (t0 ||| t1) (v3 + (1 : Int32)))
set_option maxRecDepth 100000 in
theorem db_f306_b31_ok {X : db_X} {d : Nat}  {h4 : Int32 → Int32 → Int32 → Option Int32} {s : db_S} {v1 : Int32} {v3 : Int32} {t0 : Int32} {t1 : Int32} (zh4 : ∀ (v1 : Int32) (v2 : Int32) (v3 : Int32) , db_Rf X (d + 1) dbm_306 4 [(0, .ref 669), (1, .int v1), (2, .int v2), (3, .int v3)] [] s (db_yI s) (h4 v1 v2 v3)) : db_Rf X (d + 1) dbm_306 31 [(0, .ref 669), (1, .int v1), (3, .int v3)] [.int t1, .int t0] s (db_yI s) (db_f306_b31 h4 s v1 v3 t0 t1) := by
  unfold db_f306_b31
  refine db_Rgo (pc' := 4) (lv' := [(3, .int (v3 + (1 : Int32))), (2, .int (t0 ||| t1)), (0, .ref 669), (1, .int v1)]) (st' := []) 4 rfl ?_
  refine db_Rn (lv1 := [(0, .ref 669), (1, .int v1), (2, .int (t0 ||| t1)), (3, .int (v3 + (1 : Int32)))]) rfl rfl rfl ?_
  exact zh4 _ _ _
noncomputable def db_f306_b4 (s : db_S) : Nat → Int32 → Int32 → Int32 → Option Int32
  | 0, _, _, _ => none
  | n + 1, v1, v2, v3 =>
    ((db_rI s 674 (3 : Int32)).bind fun x1 => (cond (db_cnd .ge v3 x1) (some v2) ((db_f286 s v1 v3).bind fun q2 => (cond q2 (db_f306_b31 (db_f306_b4 s n) s v1 v3 v2 ((1 : Int32) <<< (v3 &&& 31))) (db_f306_b31 (db_f306_b4 s n) s v1 v3 v2 (0 : Int32))))))
set_option maxRecDepth 100000 in
theorem db_f306_b4_ok {X : db_X} {d : Nat} {s : db_S} (n : Nat) : ∀ (v1 : Int32) (v2 : Int32) (v3 : Int32), db_Rf X (d + 1) dbm_306 4 [(0, .ref 669), (1, .int v1), (2, .int v2), (3, .int v3)] [] s (db_yI s) (db_f306_b4 s n v1 v2 v3) := by
  induction n with
  | zero => intros; exact db_Rnone
  | succ n ih =>
    intro v1 v2 v3
    unfold db_f306_b4
    refine db_Rgo (pc' := 10) (lv' := [(0, .ref 669), (1, .int v1), (2, .int v2), (3, .int v3)]) (st' := [.int (3 : Int32), .ref 674, .int v3]) 4 rfl ?_
    refine db_RldI (pc' := 11) (lv1 := [(0, .ref 669), (1, .int v1), (2, .int v2), (3, .int v3)]) rfl rfl rfl fun x1 => ?_
    refine db_Ric (pc' := 14) (tg := 39) (lv1 := [(0, .ref 669), (1, .int v1), (2, .int v2), (3, .int v3)]) rfl rfl rfl rfl ?_ ?_
    · refine db_Rgo (pc' := 40) (lv' := [(2, .int v2)]) (st' := [.int v2]) 1 rfl ?_
      exact db_Rret (lv1 := [(2, .int v2)]) rfl rfl rfl rfl
    refine db_Rgo (pc' := 18) (lv' := [(0, .ref 669), (1, .int v1), (2, .int v2), (3, .int v3)]) (st' := [.int v3, .int v1, .ref 669, .int v2]) 4 rfl ?_
    refine db_RcyB (mr' := dbm_286) (as := [.ref 669, .int v1, .int v3]) (rest := [.int v2]) (pc' := 21) (lv1 := [(0, .ref 669), (1, .int v1), (2, .int v2), (3, .int v3)]) rfl rfl rfl rfl rfl (db_f286_ok) fun q2 => ?_
    refine db_RifBe (pc' := 24) (tg := 30) (lv1 := [(0, .ref 669), (1, .int v1), (2, .int v2), (3, .int v3)]) rfl rfl rfl rfl ?_ ?_
    · refine db_Rgo (pc' := 31) (lv' := [(0, .ref 669), (1, .int v1), (3, .int v3)]) (st' := [.int (0 : Int32), .int v2]) 1 rfl ?_
      exact db_f306_b31_ok ih
    refine db_Rgo (pc' := 31) (lv' := [(0, .ref 669), (1, .int v1), (2, .int v2), (3, .int v3)]) (st' := [.int ((1 : Int32) <<< (v3 &&& 31)), .int v2]) 4 rfl ?_
    refine db_Rn (lv1 := [(0, .ref 669), (1, .int v1), (3, .int v3)]) rfl rfl rfl ?_
    exact db_f306_b31_ok ih
/-- DreamBookModel.struckBy(I)I -/
noncomputable def db_f306 (s : db_S) (v1 : Int32) : Option Int32 :=
  (db_f306_b4 s db_FU v1 (0 : Int32) (0 : Int32))
set_option maxRecDepth 100000 in
theorem db_f306_ok {X : db_X} {d : Nat} {s : db_S} {v1 : Int32} : db_Rf X (d + 1) dbm_306 0 (lv_args 0 [.ref 669, .int v1]) [] s (db_yI s) (db_f306 s v1) := by
  show db_Rf _ _ _ 0 [(0, .ref 669), (1, .int v1)] [] _ _ _
  unfold db_f306
  refine db_Rgo (pc' := 4) (lv' := [(3, .int (0 : Int32)), (2, .int (0 : Int32)), (0, .ref 669), (1, .int v1)]) (st' := []) 4 rfl ?_
  refine db_Rn (lv1 := [(0, .ref 669), (1, .int v1), (2, .int (0 : Int32)), (3, .int (0 : Int32))]) rfl rfl rfl ?_
  exact db_f306_b4_ok db_FU _ _ _
noncomputable def db_f305_b32 (h4 : Int32 → Int32 → Int32 → Option Bool) (s : db_S) (v1 : Int32) (v3 : Int32) (t0 : Int32) (t1 : Int32) : Option Bool :=
  (h4 v1 (t0 ||| t1) (v3 + (1 : Int32)))
set_option maxRecDepth 100000 in
theorem db_f305_b32_ok {X : db_X} {d : Nat}  {h4 : Int32 → Int32 → Int32 → Option Bool} {s : db_S} {v1 : Int32} {v3 : Int32} {t0 : Int32} {t1 : Int32} (zh4 : ∀ (v1 : Int32) (v2 : Int32) (v3 : Int32) , db_Rf X (d + 2) dbm_305 4 [(0, .ref 669), (1, .int v1), (2, .int v2), (3, .int v3)] [] s (db_yB s) (h4 v1 v2 v3)) : db_Rf X (d + 2) dbm_305 32 [(0, .ref 669), (1, .int v1), (3, .int v3)] [.int t1, .int t0] s (db_yB s) (db_f305_b32 h4 s v1 v3 t0 t1) := by
  unfold db_f305_b32
  refine db_Rgo (pc' := 4) (lv' := [(3, .int (v3 + (1 : Int32))), (2, .int (t0 ||| t1)), (0, .ref 669), (1, .int v1)]) (st' := []) 4 rfl ?_
  refine db_Rn (lv1 := [(0, .ref 669), (1, .int v1), (2, .int (t0 ||| t1)), (3, .int (v3 + (1 : Int32)))]) rfl rfl rfl ?_
  exact zh4 _ _ _
noncomputable def db_f305_b4 (s : db_S) : Nat → Int32 → Int32 → Int32 → Option Bool
  | 0, _, _, _ => none
  | n + 1, v1, v2, v3 =>
    ((db_rI s 674 (3 : Int32)).bind fun x1 => (cond (db_cnd .ge v3 x1) ((db_rI s 674 (3 : Int32)).bind fun x2 => (cond (db_cnd .ne v2 ((((1 : Int32) <<< (x2 &&& 31)) - (1 : Int32)) &&& (v1 ^^^ (-1 : Int32)))) (some false) (some true))) ((db_f287 s v1 v3).bind fun q3 => (cond q3 ((db_f306 s v3).bind fun q5 => (db_f305_b32 (db_f305_b4 s n) s v1 v3 v2 q5)) (db_f305_b32 (db_f305_b4 s n) s v1 v3 v2 (0 : Int32))))))
set_option maxRecDepth 100000 in
theorem db_f305_b4_ok {X : db_X} {d : Nat} {s : db_S} (n : Nat) : ∀ (v1 : Int32) (v2 : Int32) (v3 : Int32), db_Rf X (d + 2) dbm_305 4 [(0, .ref 669), (1, .int v1), (2, .int v2), (3, .int v3)] [] s (db_yB s) (db_f305_b4 s n v1 v2 v3) := by
  induction n with
  | zero => intros; exact db_Rnone
  | succ n ih =>
    intro v1 v2 v3
    unfold db_f305_b4
    refine db_Rgo (pc' := 10) (lv' := [(0, .ref 669), (1, .int v1), (2, .int v2), (3, .int v3)]) (st' := [.int (3 : Int32), .ref 674, .int v3]) 4 rfl ?_
    refine db_RldI (pc' := 11) (lv1 := [(0, .ref 669), (1, .int v1), (2, .int v2), (3, .int v3)]) rfl rfl rfl fun x1 => ?_
    refine db_Ric (pc' := 14) (tg := 40) (lv1 := [(0, .ref 669), (1, .int v1), (2, .int v2), (3, .int v3)]) rfl rfl rfl rfl ?_ ?_
    · refine db_Rgo (pc' := 47) (lv' := [(0, .ref 669), (1, .int v1), (2, .int v2)]) (st' := [.int (3 : Int32), .ref 674, .int (1 : Int32), .int v2]) 5 rfl ?_
      refine db_RldI (pc' := 48) (lv1 := [(0, .ref 669), (1, .int v1), (2, .int v2)]) rfl rfl rfl fun x2 => ?_
      refine db_Rgo (pc' := 55) (lv' := [(0, .ref 669), (1, .int v1), (2, .int v2)]) (st' := [.int ((((1 : Int32) <<< (x2 &&& 31)) - (1 : Int32)) &&& (v1 ^^^ (-1 : Int32))), .int v2]) 7 rfl ?_
      refine db_Ric (pc' := 58) (tg := 62) (lv1 := [(0, .ref 669), (1, .int v1), (2, .int v2)]) rfl rfl rfl rfl ?_ ?_
      · refine db_Rgo (pc' := 63) (lv' := []) (st' := [.int (0 : Int32)]) 1 rfl ?_
        exact db_Rret (lv1 := []) rfl rfl rfl rfl
      refine db_Rgo (pc' := 63) (lv' := [(0, .ref 669), (1, .int v1), (2, .int v2)]) (st' := [.int (1 : Int32)]) 2 rfl ?_
      exact db_Rret (lv1 := []) rfl rfl rfl rfl
    refine db_Rgo (pc' := 17) (lv' := [(0, .ref 669), (1, .int v1), (2, .int v2), (3, .int v3)]) (st' := [.int v3, .int v1, .int v2]) 3 rfl ?_
    refine db_RcyB (mr' := dbm_287) (as := [.int v1, .int v3]) (rest := [.int v2]) (pc' := 20) (lv1 := [(0, .ref 669), (1, .int v1), (2, .int v2), (3, .int v3)]) rfl rfl rfl rfl rfl (db_f287_ok) fun q3 => ?_
    refine db_RifBe (pc' := 23) (tg := 31) (lv1 := [(0, .ref 669), (1, .int v1), (2, .int v2), (3, .int v3)]) rfl rfl rfl rfl ?_ ?_
    · refine db_Rgo (pc' := 32) (lv' := [(0, .ref 669), (1, .int v1), (3, .int v3)]) (st' := [.int (0 : Int32), .int v2]) 1 rfl ?_
      exact db_f305_b32_ok ih
    refine db_Rgo (pc' := 25) (lv' := [(0, .ref 669), (1, .int v1), (2, .int v2), (3, .int v3)]) (st' := [.int v3, .ref 669, .int v2]) 2 rfl ?_
    refine db_RcyI (mr' := dbm_306) (as := [.ref 669, .int v3]) (rest := [.int v2]) (pc' := 28) (lv1 := [(0, .ref 669), (1, .int v1), (2, .int v2), (3, .int v3)]) rfl rfl rfl rfl rfl (db_f306_ok) fun q5 => ?_
    refine db_Rgo (pc' := 32) (lv' := [(0, .ref 669), (1, .int v1), (2, .int v2), (3, .int v3)]) (st' := [.int q5, .int v2]) 1 rfl ?_
    refine db_Rn (lv1 := [(0, .ref 669), (1, .int v1), (3, .int v3)]) rfl rfl rfl ?_
    exact db_f305_b32_ok ih
/-- DreamBookModel.isStable(I)Z -/
noncomputable def db_f305 (s : db_S) (v1 : Int32) : Option Bool :=
  (db_f305_b4 s db_FU v1 (0 : Int32) (0 : Int32))
set_option maxRecDepth 100000 in
theorem db_f305_ok {X : db_X} {d : Nat} {s : db_S} {v1 : Int32} : db_Rf X (d + 2) dbm_305 0 (lv_args 0 [.ref 669, .int v1]) [] s (db_yB s) (db_f305 s v1) := by
  show db_Rf _ _ _ 0 [(0, .ref 669), (1, .int v1)] [] _ _ _
  unfold db_f305
  refine db_Rgo (pc' := 4) (lv' := [(3, .int (0 : Int32)), (2, .int (0 : Int32)), (0, .ref 669), (1, .int v1)]) (st' := []) 4 rfl ?_
  refine db_Rn (lv1 := [(0, .ref 669), (1, .int v1), (2, .int (0 : Int32)), (3, .int (0 : Int32))]) rfl rfl rfl ?_
  exact db_f305_b4_ok db_FU _ _ _
noncomputable def db_f304_b56 (h9 : db_S → Int32 → Int32 → Int32 → Option (Int32 × db_S)) (s : db_S) (v1 : Int32) (v2 : Int32) (v3 : Int32) : Option (Int32 × db_S) :=
  (h9 s v1 v2 (v3 + (1 : Int32)))
set_option maxRecDepth 100000 in
theorem db_f304_b56_ok {X : db_X} {d : Nat}  {h9 : db_S → Int32 → Int32 → Int32 → Option (Int32 × db_S)} {s : db_S} {v1 : Int32} {v2 : Int32} {v3 : Int32} (zh9 : ∀ (s' : db_S) (v1 : Int32) (v2 : Int32) (v3 : Int32) , db_Rf X (d + 3) dbm_304 9 [(0, .ref 669), (1, .int v1), (2, .int v2), (3, .int v3)] [] s' db_zI (h9 s' v1 v2 v3)) : db_Rf X (d + 3) dbm_304 56 [(0, .ref 669), (1, .int v1), (2, .int v2), (3, .int v3)] [] s db_zI (db_f304_b56 h9 s v1 v2 v3) := by
  unfold db_f304_b56
  refine db_Rgo (pc' := 9) (lv' := [(3, .int (v3 + (1 : Int32))), (0, .ref 669), (1, .int v1), (2, .int v2)]) (st' := []) 2 rfl ?_
  refine db_Rn (lv1 := [(0, .ref 669), (1, .int v1), (2, .int v2), (3, .int (v3 + (1 : Int32)))]) rfl rfl rfl ?_
  exact zh9 _ _ _ _
noncomputable def db_f304_b45 (h9 : db_S → Int32 → Int32 → Int32 → Option (Int32 × db_S)) (s : db_S) (v1 : Int32) (v3 : Int32) (t0 : Int32) : Option (Int32 × db_S) :=
  ((db_pI s 669 26 ((s.1 669 26) + (1 : Int32))).bind fun s1 => (db_f304_b56 h9 s1 v1 t0 v3))
set_option maxRecDepth 100000 in
theorem db_f304_b45_ok {X : db_X} {d : Nat}  {h9 : db_S → Int32 → Int32 → Int32 → Option (Int32 × db_S)} {s : db_S} {v1 : Int32} {v3 : Int32} {t0 : Int32} (zh9 : ∀ (s' : db_S) (v1 : Int32) (v2 : Int32) (v3 : Int32) , db_Rf X (d + 3) dbm_304 9 [(0, .ref 669), (1, .int v1), (2, .int v2), (3, .int v3)] [] s' db_zI (h9 s' v1 v2 v3)) : db_Rf X (d + 3) dbm_304 45 [(0, .ref 669), (1, .int v1), (3, .int v3)] [.int t0] s db_zI (db_f304_b45 h9 s v1 v3 t0) := by
  unfold db_f304_b45
  refine db_Rgo (pc' := 53) (lv' := [(2, .int t0), (0, .ref 669), (1, .int v1), (3, .int v3)]) (st' := [.int ((s.1 669 26) + (1 : Int32)), .ref 669]) 6 rfl ?_
  refine db_RpuI (pc' := 56) (lv1 := [(2, .int t0), (0, .ref 669), (1, .int v1), (3, .int v3)]) rfl rfl rfl rfl rfl rfl (by decide) rfl rfl fun s1 => ?_
  refine db_Rn (lv1 := [(0, .ref 669), (1, .int v1), (2, .int t0), (3, .int v3)]) rfl rfl rfl ?_
  exact db_f304_b56_ok zh9
noncomputable def db_f304_b9 : Nat → db_S → Int32 → Int32 → Int32 → Option (Int32 × db_S)
  | 0, _, _, _, _ => none
  | n + 1, s, v1, v2, v3 =>
    ((db_rI s 674 (3 : Int32)).bind fun x1 => (cond (db_cnd .ge v3 ((1 : Int32) <<< (x1 &&& 31))) (some (v2, s)) ((db_f305 s v3).bind fun q2 => (cond q2 (cond (db_cnd .ne (s.1 669 26) v1) (db_f304_b45 (db_f304_b9 n) s v1 v3 v2) (db_f304_b45 (db_f304_b9 n) s v1 v3 v3)) (db_f304_b56 (db_f304_b9 n) s v1 v2 v3)))))
set_option maxRecDepth 100000 in
theorem db_f304_b9_ok {X : db_X} {d : Nat}  (n : Nat) : ∀ (s : db_S) (v1 : Int32) (v2 : Int32) (v3 : Int32), db_Rf X (d + 3) dbm_304 9 [(0, .ref 669), (1, .int v1), (2, .int v2), (3, .int v3)] [] s db_zI (db_f304_b9 n s v1 v2 v3) := by
  induction n with
  | zero => intros; exact db_Rnone
  | succ n ih =>
    intro s v1 v2 v3
    unfold db_f304_b9
    refine db_Rgo (pc' := 16) (lv' := [(0, .ref 669), (1, .int v1), (2, .int v2), (3, .int v3)]) (st' := [.int (3 : Int32), .ref 674, .int (1 : Int32), .int v3]) 5 rfl ?_
    refine db_RldI (pc' := 17) (lv1 := [(0, .ref 669), (1, .int v1), (2, .int v2), (3, .int v3)]) rfl rfl rfl fun x1 => ?_
    refine db_Rgo (pc' := 18) (lv' := [(0, .ref 669), (1, .int v1), (2, .int v2), (3, .int v3)]) (st' := [.int ((1 : Int32) <<< (x1 &&& 31)), .int v3]) 1 rfl ?_
    refine db_Ric (pc' := 21) (tg := 62) (lv1 := [(0, .ref 669), (1, .int v1), (2, .int v2), (3, .int v3)]) rfl rfl rfl rfl ?_ ?_
    · refine db_Rgo (pc' := 63) (lv' := [(2, .int v2)]) (st' := [.int v2]) 1 rfl ?_
      exact db_Rret (lv1 := [(2, .int v2)]) rfl rfl rfl rfl
    refine db_Rgo (pc' := 23) (lv' := [(0, .ref 669), (1, .int v1), (2, .int v2), (3, .int v3)]) (st' := [.int v3, .ref 669]) 2 rfl ?_
    refine db_RcyB (mr' := dbm_305) (as := [.ref 669, .int v3]) (rest := []) (pc' := 26) (lv1 := [(0, .ref 669), (1, .int v1), (2, .int v2), (3, .int v3)]) rfl rfl rfl rfl rfl (db_f305_ok) fun q2 => ?_
    refine db_RifBn (pc' := 29) (tg := 32) (lv1 := [(0, .ref 669), (1, .int v1), (2, .int v2), (3, .int v3)]) rfl rfl rfl rfl ?_ ?_
    · refine db_Rgo (pc' := 37) (lv' := [(0, .ref 669), (1, .int v1), (2, .int v2), (3, .int v3)]) (st' := [.int v1, .int (s.1 669 26)]) 3 rfl ?_
      refine db_Ric (pc' := 40) (tg := 44) (lv1 := [(0, .ref 669), (1, .int v1), (2, .int v2), (3, .int v3)]) rfl rfl rfl rfl ?_ ?_
      · refine db_Rgo (pc' := 45) (lv' := [(0, .ref 669), (1, .int v1), (2, .int v2), (3, .int v3)]) (st' := [.int v2]) 1 rfl ?_
        refine db_Rn (lv1 := [(0, .ref 669), (1, .int v1), (3, .int v3)]) rfl rfl rfl ?_
        exact db_f304_b45_ok ih
      refine db_Rgo (pc' := 45) (lv' := [(0, .ref 669), (1, .int v1), (2, .int v2), (3, .int v3)]) (st' := [.int v3]) 2 rfl ?_
      refine db_Rn (lv1 := [(0, .ref 669), (1, .int v1), (3, .int v3)]) rfl rfl rfl ?_
      exact db_f304_b45_ok ih
    refine db_Rgo (pc' := 56) (lv' := [(0, .ref 669), (1, .int v1), (2, .int v2), (3, .int v3)]) (st' := []) 1 rfl ?_
    exact db_f304_b56_ok ih
/-- DreamBookModel.stableSet(I)I -/
noncomputable def db_f304 (s : db_S) (v1 : Int32) : Option (Int32 × db_S) :=
  ((db_pI s 669 26 (0 : Int32)).bind fun s1 => (db_f304_b9 db_FU s1 v1 (-1 : Int32) (0 : Int32)))
set_option maxRecDepth 100000 in
theorem db_f304_ok {X : db_X} {d : Nat} {s : db_S} {v1 : Int32} : db_Rf X (d + 3) dbm_304 0 (lv_args 0 [.ref 669, .int v1]) [] s db_zI (db_f304 s v1) := by
  show db_Rf _ _ _ 0 [(0, .ref 669), (1, .int v1)] [] _ _ _
  unfold db_f304
  refine db_Rgo (pc' := 4) (lv' := [(2, .int (-1 : Int32)), (0, .ref 669), (1, .int v1)]) (st' := [.int (0 : Int32), .ref 669]) 4 rfl ?_
  refine db_RpuI (pc' := 7) (lv1 := [(2, .int (-1 : Int32)), (0, .ref 669), (1, .int v1)]) rfl rfl rfl rfl rfl rfl (by decide) rfl rfl fun s1 => ?_
  refine db_Rgo (pc' := 9) (lv' := [(3, .int (0 : Int32)), (2, .int (-1 : Int32)), (0, .ref 669), (1, .int v1)]) (st' := []) 2 rfl ?_
  refine db_Rn (lv1 := [(0, .ref 669), (1, .int v1), (2, .int (-1 : Int32)), (3, .int (0 : Int32))]) rfl rfl rfl ?_
  exact db_f304_b9_ok db_FU _ _ _ _
/-- DreamBookModel.stables()I -/
noncomputable def db_f303 (s : db_S) : Option (Int32 × db_S) :=
  ((db_pI s 669 1 (0 : Int32)).bind fun s1 => ((db_pI s1 669 0 (0 : Int32)).bind fun s2 => (db_bd (db_f304 s2 (-1 : Int32)) fun q3 s4 => (some ((s4.1 669 26), s4)))))
set_option maxRecDepth 100000 in
theorem db_f303_ok {X : db_X} {d : Nat} {s : db_S} : db_Rf X (d + 4) dbm_303 0 (lv_args 0 [.ref 669]) [] s db_zI (db_f303 s ) := by
  show db_Rf _ _ _ 0 [(0, .ref 669)] [] _ _ _
  unfold db_f303
  refine db_Rgo (pc' := 2) (lv' := [(0, .ref 669)]) (st' := [.int (0 : Int32), .ref 669]) 2 rfl ?_
  refine db_RpuI (pc' := 5) (lv1 := [(0, .ref 669)]) rfl rfl rfl rfl rfl rfl (by decide) rfl rfl fun s1 => ?_
  refine db_Rgo (pc' := 7) (lv' := [(0, .ref 669)]) (st' := [.int (0 : Int32), .ref 669]) 2 rfl ?_
  refine db_RpuI (pc' := 10) (lv1 := [(0, .ref 669)]) rfl rfl rfl rfl rfl rfl (by decide) rfl rfl fun s2 => ?_
  refine db_Rgo (pc' := 12) (lv' := [(0, .ref 669)]) (st' := [.int (-1 : Int32), .ref 669]) 2 rfl ?_
  refine db_RcdI (mr' := dbm_304) (as := [.ref 669, .int (-1 : Int32)]) (rest := []) (pc' := 15) (lv1 := [(0, .ref 669)]) rfl rfl rfl rfl rfl (db_f304_ok) fun q3 s4 => ?_
  refine db_Rgo (pc' := 20) (lv' := [(0, .ref 669)]) (st' := [.int (s4.1 669 26)]) 3 rfl ?_
  exact db_Rret (lv1 := [(0, .ref 669)]) rfl rfl rfl rfl
noncomputable def db_f118_20_b35 (h4 : Int32 → Int32 → Int32 → Option Int32) (s : db_S) (v1 : Int32) (v2 : Int32) (v3 : Int32) : Option Int32 :=
  (h4 v1 v2 (v3 + (1 : Int32)))
set_option maxRecDepth 100000 in
theorem db_f118_20_b35_ok {X : db_X} {d : Nat}  {h4 : Int32 → Int32 → Int32 → Option Int32} {s : db_S} {v1 : Int32} {v2 : Int32} {v3 : Int32} (zh4 : ∀ (v1 : Int32) (v2 : Int32) (v3 : Int32) , db_Rf X (d + 2) dbm_118 4 [(0, .ref 20), (1, .int v1), (2, .int v2), (3, .int v3)] [] s (db_yI s) (h4 v1 v2 v3)) : db_Rf X (d + 2) dbm_118 35 [(0, .ref 20), (1, .int v1), (2, .int v2), (3, .int v3)] [] s (db_yI s) (db_f118_20_b35 h4 s v1 v2 v3) := by
  unfold db_f118_20_b35
  refine db_Rgo (pc' := 4) (lv' := [(3, .int (v3 + (1 : Int32))), (0, .ref 20), (1, .int v1), (2, .int v2)]) (st' := []) 2 rfl ?_
  refine db_Rn (lv1 := [(0, .ref 20), (1, .int v1), (2, .int v2), (3, .int (v3 + (1 : Int32)))]) rfl rfl rfl ?_
  exact zh4 _ _ _
noncomputable def db_f118_20_b4 (s : db_S) : Nat → Int32 → Int32 → Int32 → Option Int32
  | 0, _, _, _ => none
  | n + 1, v1, v2, v3 =>
    ((db_f115_20 s).bind fun q1 => (cond (db_cnd .ge v3 q1) (some (-1 : Int32)) (cond (db_cnd .gt v2 v1) (some (-1 : Int32)) ((db_f116_20 s v3).bind fun q3 => (cond q3 (cond (db_cnd .ne v2 v1) (db_f118_20_b35 (db_f118_20_b4 s n) s v1 (v2 + (1 : Int32)) v3) (some v3)) (db_f118_20_b35 (db_f118_20_b4 s n) s v1 v2 v3))))))
set_option maxRecDepth 100000 in
theorem db_f118_20_b4_ok {X : db_X} {d : Nat} {s : db_S} (n : Nat) : ∀ (v1 : Int32) (v2 : Int32) (v3 : Int32), db_Rf X (d + 2) dbm_118 4 [(0, .ref 20), (1, .int v1), (2, .int v2), (3, .int v3)] [] s (db_yI s) (db_f118_20_b4 s n v1 v2 v3) := by
  induction n with
  | zero => intros; exact db_Rnone
  | succ n ih =>
    intro v1 v2 v3
    unfold db_f118_20_b4
    refine db_Rgo (pc' := 6) (lv' := [(0, .ref 20), (1, .int v1), (2, .int v2), (3, .int v3)]) (st' := [.ref 20, .int v3]) 2 rfl ?_
    refine db_RcyI (mr' := dbm_115) (as := [.ref 20]) (rest := [.int v3]) (pc' := 9) (lv1 := [(0, .ref 20), (1, .int v1), (2, .int v2), (3, .int v3)]) rfl rfl rfl rfl rfl (db_f115_20_ok) fun q1 => ?_
    refine db_Ric (pc' := 12) (tg := 41) (lv1 := [(0, .ref 20), (1, .int v1), (2, .int v2), (3, .int v3)]) rfl rfl rfl rfl ?_ ?_
    · refine db_Rgo (pc' := 42) (lv' := []) (st' := [.int (-1 : Int32)]) 1 rfl ?_
      exact db_Rret (lv1 := []) rfl rfl rfl rfl
    refine db_Rgo (pc' := 14) (lv' := [(0, .ref 20), (1, .int v1), (2, .int v2), (3, .int v3)]) (st' := [.int v1, .int v2]) 2 rfl ?_
    refine db_Ric (pc' := 17) (tg := 41) (lv1 := [(0, .ref 20), (1, .int v1), (2, .int v2), (3, .int v3)]) rfl rfl rfl rfl ?_ ?_
    · refine db_Rgo (pc' := 42) (lv' := []) (st' := [.int (-1 : Int32)]) 1 rfl ?_
      exact db_Rret (lv1 := []) rfl rfl rfl rfl
    refine db_Rgo (pc' := 19) (lv' := [(0, .ref 20), (1, .int v1), (2, .int v2), (3, .int v3)]) (st' := [.int v3, .ref 20]) 2 rfl ?_
    refine db_RcyB (mr' := dbm_116) (as := [.ref 20, .int v3]) (rest := []) (pc' := 22) (lv1 := [(0, .ref 20), (1, .int v1), (2, .int v2), (3, .int v3)]) rfl rfl rfl rfl rfl (db_f116_20_ok) fun q3 => ?_
    refine db_RifBe (pc' := 25) (tg := 35) (lv1 := [(0, .ref 20), (1, .int v1), (2, .int v2), (3, .int v3)]) rfl rfl rfl rfl ?_ ?_
    · exact db_f118_20_b35_ok ih
    refine db_Rgo (pc' := 27) (lv' := [(0, .ref 20), (1, .int v1), (2, .int v2), (3, .int v3)]) (st' := [.int v1, .int v2]) 2 rfl ?_
    refine db_Ric (pc' := 30) (tg := 32) (lv1 := [(0, .ref 20), (1, .int v1), (2, .int v2), (3, .int v3)]) rfl rfl rfl rfl ?_ ?_
    · refine db_Rgo (pc' := 35) (lv' := [(2, .int (v2 + (1 : Int32))), (0, .ref 20), (1, .int v1), (3, .int v3)]) (st' := []) 1 rfl ?_
      refine db_Rn (lv1 := [(0, .ref 20), (1, .int v1), (2, .int (v2 + (1 : Int32))), (3, .int v3)]) rfl rfl rfl ?_
      exact db_f118_20_b35_ok ih
    refine db_Rgo (pc' := 31) (lv' := [(0, .ref 20), (1, .int v1), (2, .int v2), (3, .int v3)]) (st' := [.int v3]) 1 rfl ?_
    exact db_Rret (lv1 := [(0, .ref 20), (1, .int v1), (2, .int v2), (3, .int v3)]) rfl rfl rfl rfl
/-- DreamBook$Told.findStable(I)I -/
noncomputable def db_f118_20 (s : db_S) (v1 : Int32) : Option Int32 :=
  (db_f118_20_b4 s db_FU v1 (0 : Int32) (0 : Int32))
set_option maxRecDepth 100000 in
theorem db_f118_20_ok {X : db_X} {d : Nat} {s : db_S} {v1 : Int32} : db_Rf X (d + 2) dbm_118 0 (lv_args 0 [.ref 20, .int v1]) [] s (db_yI s) (db_f118_20 s v1) := by
  show db_Rf _ _ _ 0 [(0, .ref 20), (1, .int v1)] [] _ _ _
  unfold db_f118_20
  refine db_Rgo (pc' := 4) (lv' := [(3, .int (0 : Int32)), (2, .int (0 : Int32)), (0, .ref 20), (1, .int v1)]) (st' := []) 4 rfl ?_
  refine db_Rn (lv1 := [(0, .ref 20), (1, .int v1), (2, .int (0 : Int32)), (3, .int (0 : Int32))]) rfl rfl rfl ?_
  exact db_f118_20_b4_ok db_FU _ _ _
/-- DreamBook.stable(I)I -/
noncomputable def db_f117 (s : db_S) (v1 : Int32) : Option (Int32 × db_S) :=
  ((db_f118_20 s v1).bind fun q1 => (cond (db_cnd .ne q1 (-1 : Int32)) (db_bd (db_f87 s q1) fun q3 s4 => (some (q3, s4))) (db_bd (db_f37 s (8 : Int32)) fun q5 s6 => (some (q5, s6)))))
set_option maxRecDepth 100000 in
theorem db_f117_ok {X : db_X} {d : Nat} {s : db_S} {v1 : Int32} : db_Rf X (d + 3) dbm_117 0 (lv_args 0 [.ref 4, .int v1]) [] s db_zI (db_f117 s v1) := by
  show db_Rf _ _ _ 0 [(0, .ref 4), (1, .int v1)] [] _ _ _
  unfold db_f117
  refine db_Rgo (pc' := 5) (lv' := [(0, .ref 4), (1, .int v1)]) (st' := [.int v1, .ref 20]) 3 rfl ?_
  refine db_RcyI (mr' := dbm_118) (as := [.ref 20, .int v1]) (rest := []) (pc' := 8) (lv1 := [(0, .ref 4), (1, .int v1)]) rfl rfl rfl rfl rfl (db_f118_20_ok) fun q1 => ?_
  refine db_Rgo (pc' := 11) (lv' := [(2, .int q1), (0, .ref 4), (1, .int v1)]) (st' := [.int (-1 : Int32), .int q1]) 3 rfl ?_
  refine db_Ric (pc' := 14) (tg := 23) (lv1 := [(2, .int q1), (0, .ref 4), (1, .int v1)]) rfl rfl rfl rfl ?_ ?_
  · refine db_Rgo (pc' := 25) (lv' := [(0, .ref 4), (2, .int q1)]) (st' := [.int q1, .ref 4]) 2 rfl ?_
    refine db_RcdI (mr' := dbm_87) (as := [.ref 4, .int q1]) (rest := []) (pc' := 28) (lv1 := [(0, .ref 4), (2, .int q1)]) rfl rfl rfl rfl rfl (db_f87_ok) fun q3 s4 => ?_
    exact db_Rret (lv1 := []) rfl rfl rfl rfl
  refine db_Rgo (pc' := 17) (lv' := [(2, .int q1), (0, .ref 4), (1, .int v1)]) (st' := [.int (8 : Int32), .ref 4]) 2 rfl ?_
  refine db_RcdI (mr' := dbm_37) (as := [.ref 4, .int (8 : Int32)]) (rest := []) (pc' := 20) (lv1 := [(2, .int q1), (0, .ref 4), (1, .int v1)]) rfl rfl rfl rfl rfl (db_f37_ok) fun q5 s6 => ?_
  refine db_Rgo (pc' := 28) (lv' := [(2, .int q1), (0, .ref 4), (1, .int v1)]) (st' := [.int q5]) 1 rfl ?_
  exact db_Rret (lv1 := []) rfl rfl rfl rfl
/-- DreamBookModel.stable(I)I -/
noncomputable def db_f307 (s : db_S) (v1 : Int32) : Option (Int32 × db_S) :=
  ((db_pI s 669 1 (0 : Int32)).bind fun s1 => ((db_pI s1 669 0 (0 : Int32)).bind fun s2 => (db_bd (db_f304 s2 v1) fun q3 s4 => (cond (db_cnd .ge q3 0) (some (q3, s4)) (db_bd (db_f281 s4 (8 : Int32)) fun q5 s6 => (some (q5, s6)))))))
set_option maxRecDepth 100000 in
theorem db_f307_ok {X : db_X} {d : Nat} {s : db_S} {v1 : Int32} : db_Rf X (d + 4) dbm_307 0 (lv_args 0 [.ref 669, .int v1]) [] s db_zI (db_f307 s v1) := by
  show db_Rf _ _ _ 0 [(0, .ref 669), (1, .int v1)] [] _ _ _
  unfold db_f307
  refine db_Rgo (pc' := 2) (lv' := [(0, .ref 669), (1, .int v1)]) (st' := [.int (0 : Int32), .ref 669]) 2 rfl ?_
  refine db_RpuI (pc' := 5) (lv1 := [(0, .ref 669), (1, .int v1)]) rfl rfl rfl rfl rfl rfl (by decide) rfl rfl fun s1 => ?_
  refine db_Rgo (pc' := 7) (lv' := [(0, .ref 669), (1, .int v1)]) (st' := [.int (0 : Int32), .ref 669]) 2 rfl ?_
  refine db_RpuI (pc' := 10) (lv1 := [(0, .ref 669), (1, .int v1)]) rfl rfl rfl rfl rfl rfl (by decide) rfl rfl fun s2 => ?_
  refine db_Rgo (pc' := 12) (lv' := [(0, .ref 669), (1, .int v1)]) (st' := [.int v1, .ref 669]) 2 rfl ?_
  refine db_RcdI (mr' := dbm_304) (as := [.ref 669, .int v1]) (rest := []) (pc' := 15) (lv1 := [(0, .ref 669), (1, .int v1)]) rfl rfl rfl rfl rfl (db_f304_ok) fun q3 s4 => ?_
  refine db_Rgo (pc' := 17) (lv' := [(2, .int q3), (0, .ref 669), (1, .int v1)]) (st' := [.int q3]) 2 rfl ?_
  refine db_Rif (pc' := 20) (tg := 29) (lv1 := [(2, .int q3), (0, .ref 669), (1, .int v1)]) rfl rfl rfl rfl ?_ ?_
  · refine db_Rgo (pc' := 30) (lv' := [(2, .int q3)]) (st' := [.int q3]) 1 rfl ?_
    exact db_Rret (lv1 := []) rfl rfl rfl rfl
  refine db_Rgo (pc' := 23) (lv' := [(2, .int q3), (0, .ref 669), (1, .int v1)]) (st' := [.int (8 : Int32), .ref 669]) 2 rfl ?_
  refine db_RcdI (mr' := dbm_281) (as := [.ref 669, .int (8 : Int32)]) (rest := []) (pc' := 26) (lv1 := [(2, .int q3), (0, .ref 669), (1, .int v1)]) rfl rfl rfl rfl rfl (db_f281_ok) fun q5 s6 => ?_
  refine db_Rgo (pc' := 30) (lv' := [(2, .int q3), (0, .ref 669), (1, .int v1)]) (st' := [.int q5]) 1 rfl ?_
  exact db_Rret (lv1 := []) rfl rfl rfl rfl
noncomputable def db_f119_b56 (s : db_S) (t1 : Int32) : Option (Int32 × db_S) :=
  (db_bd (db_f87 s t1) fun q1 s2 => (some (q1, s2)))
set_option maxRecDepth 100000 in
theorem db_f119_b56_ok {X : db_X} {d : Nat}  {s : db_S} {t1 : Int32} : db_Rf X (d + 1) dbm_119 56 [] [.int t1, .ref 4] s db_zI (db_f119_b56 s t1) := by
  unfold db_f119_b56
  refine db_RcdI (mr' := dbm_87) (as := [.ref 4, .int t1]) (rest := []) (pc' := 59) (lv1 := []) rfl rfl rfl rfl rfl (db_f87_ok) fun q1 s2 => ?_
  exact db_Rret (lv1 := []) rfl rfl rfl rfl
/-- DreamBook.strikes(II)I -/
noncomputable def db_f119 (s : db_S) (v1 : Int32) (v2 : Int32) : Option (Int32 × db_S) :=
  ((db_f103 s (3 : Int32) v1).bind fun q1 => (cond q1 ((db_f27 s v2 (0 : Int32) (1 : Int32)).bind fun q3 => (cond q3 (cond (db_cnd .ne v2 0) ((db_rI s 63 v1).bind fun x5 => (db_f119_b56 s x5)) ((db_rI s 62 v1).bind fun x6 => (db_f119_b56 s x6))) (db_bd (db_f37 s (5 : Int32)) fun q7 s8 => (some (q7, s8))))) (db_bd (db_f37 s (2 : Int32)) fun q9 s10 => (some (q9, s10)))))
set_option maxRecDepth 100000 in
theorem db_f119_ok {X : db_X} {d : Nat} {s : db_S} {v1 : Int32} {v2 : Int32} : db_Rf X (d + 1) dbm_119 0 (lv_args 0 [.ref 4, .int v1, .int v2]) [] s db_zI (db_f119 s v1 v2) := by
  show db_Rf _ _ _ 0 [(0, .ref 4), (1, .int v1), (2, .int v2)] [] _ _ _
  unfold db_f119
  refine db_Rgo (pc' := 3) (lv' := [(0, .ref 4), (1, .int v1), (2, .int v2)]) (st' := [.int v1, .int (3 : Int32), .ref 4]) 3 rfl ?_
  refine db_RcyB (mr' := dbm_103) (as := [.ref 4, .int (3 : Int32), .int v1]) (rest := []) (pc' := 6) (lv1 := [(0, .ref 4), (1, .int v1), (2, .int v2)]) rfl rfl rfl rfl rfl (db_f103_ok) fun q1 => ?_
  refine db_RifBn (pc' := 9) (tg := 15) (lv1 := [(0, .ref 4), (1, .int v1), (2, .int v2)]) rfl rfl rfl rfl ?_ ?_
  · refine db_Rgo (pc' := 18) (lv' := [(0, .ref 4), (1, .int v1), (2, .int v2)]) (st' := [.int (1 : Int32), .int (0 : Int32), .int v2]) 3 rfl ?_
    refine db_RcyB (mr' := dbm_27) (as := [.int v2, .int (0 : Int32), .int (1 : Int32)]) (rest := []) (pc' := 21) (lv1 := [(0, .ref 4), (1, .int v1), (2, .int v2)]) rfl rfl rfl rfl rfl (db_f27_ok) fun q3 => ?_
    refine db_RifBn (pc' := 24) (tg := 30) (lv1 := [(0, .ref 4), (1, .int v1), (2, .int v2)]) rfl rfl rfl rfl ?_ ?_
    · refine db_Rgo (pc' := 32) (lv' := [(0, .ref 4), (1, .int v1), (2, .int v2)]) (st' := [.int v2, .ref 4]) 2 rfl ?_
      refine db_Rif (pc' := 35) (tg := 47) (lv1 := [(0, .ref 4), (1, .int v1), (2, .int v2)]) rfl rfl rfl rfl ?_ ?_
      · refine db_Rgo (pc' := 55) (lv' := [(0, .ref 4), (1, .int v1)]) (st' := [.int v1, .ref 63, .ref 4]) 4 rfl ?_
        refine db_RldI (pc' := 56) (lv1 := [(0, .ref 4), (1, .int v1)]) rfl rfl rfl fun x5 => ?_
        refine db_Rn (lv1 := []) rfl rfl rfl ?_
        exact db_f119_b56_ok
      refine db_Rgo (pc' := 43) (lv' := [(0, .ref 4), (1, .int v1), (2, .int v2)]) (st' := [.int v1, .ref 62, .ref 4]) 4 rfl ?_
      refine db_RldI (pc' := 44) (lv1 := [(0, .ref 4), (1, .int v1), (2, .int v2)]) rfl rfl rfl fun x6 => ?_
      refine db_Rgo (pc' := 56) (lv' := [(0, .ref 4), (1, .int v1), (2, .int v2)]) (st' := [.int x6, .ref 4]) 1 rfl ?_
      refine db_Rn (lv1 := []) rfl rfl rfl ?_
      exact db_f119_b56_ok
    refine db_Rgo (pc' := 26) (lv' := [(0, .ref 4), (1, .int v1), (2, .int v2)]) (st' := [.int (5 : Int32), .ref 4]) 2 rfl ?_
    refine db_RcdI (mr' := dbm_37) (as := [.ref 4, .int (5 : Int32)]) (rest := []) (pc' := 29) (lv1 := [(0, .ref 4), (1, .int v1), (2, .int v2)]) rfl rfl rfl rfl rfl (db_f37_ok) fun q7 s8 => ?_
    exact db_Rret (lv1 := [(0, .ref 4), (1, .int v1), (2, .int v2)]) rfl rfl rfl rfl
  refine db_Rgo (pc' := 11) (lv' := [(0, .ref 4), (1, .int v1), (2, .int v2)]) (st' := [.int (2 : Int32), .ref 4]) 2 rfl ?_
  refine db_RcdI (mr' := dbm_37) (as := [.ref 4, .int (2 : Int32)]) (rest := []) (pc' := 14) (lv1 := [(0, .ref 4), (1, .int v1), (2, .int v2)]) rfl rfl rfl rfl rfl (db_f37_ok) fun q9 s10 => ?_
  exact db_Rret (lv1 := [(0, .ref 4), (1, .int v1), (2, .int v2)]) rfl rfl rfl rfl
noncomputable def db_f308_b85 (h55 : db_S → Int32 → Int32 → Int32 → Option (Int32 × db_S)) (s : db_S) (v1 : Int32) (v4 : Int32) (t0 : Int32) (t1 : Int32) : Option (Int32 × db_S) :=
  (h55 s v1 (t0 ||| t1) (v4 + (1 : Int32)))
set_option maxRecDepth 100000 in
theorem db_f308_b85_ok {X : db_X} {d : Nat}  {h55 : db_S → Int32 → Int32 → Int32 → Option (Int32 × db_S)} {s : db_S} {v1 : Int32} {v4 : Int32} {t0 : Int32} {t1 : Int32} (zh55 : ∀ (s' : db_S) (v1 : Int32) (v3 : Int32) (v4 : Int32) , db_Rf X (d + 2) dbm_308 55 [(0, .ref 669), (1, .int v1), (3, .int v3), (4, .int v4)] [] s' db_zI (h55 s' v1 v3 v4)) : db_Rf X (d + 2) dbm_308 85 [(0, .ref 669), (1, .int v1), (4, .int v4)] [.int t1, .int t0] s db_zI (db_f308_b85 h55 s v1 v4 t0 t1) := by
  unfold db_f308_b85
  refine db_Rgo (pc' := 55) (lv' := [(4, .int (v4 + (1 : Int32))), (3, .int (t0 ||| t1)), (0, .ref 669), (1, .int v1)]) (st' := []) 4 rfl ?_
  refine db_Rn (lv1 := [(0, .ref 669), (1, .int v1), (3, .int (t0 ||| t1)), (4, .int (v4 + (1 : Int32)))]) rfl rfl rfl ?_
  exact zh55 _ _ _ _
noncomputable def db_f308_b55 : Nat → db_S → Int32 → Int32 → Int32 → Option (Int32 × db_S)
  | 0, _, _, _, _ => none
  | n + 1, s, v1, v3, v4 =>
    ((db_rI s 674 (3 : Int32)).bind fun x1 => (cond (db_cnd .ge v4 x1) (some (v3, s)) ((db_f286 s v4 v1).bind fun q2 => (cond q2 (db_f308_b85 (db_f308_b55 n) s v1 v4 v3 ((1 : Int32) <<< (v4 &&& 31))) (db_f308_b85 (db_f308_b55 n) s v1 v4 v3 (0 : Int32))))))
set_option maxRecDepth 100000 in
theorem db_f308_b55_ok {X : db_X} {d : Nat}  (n : Nat) : ∀ (s : db_S) (v1 : Int32) (v3 : Int32) (v4 : Int32), db_Rf X (d + 2) dbm_308 55 [(0, .ref 669), (1, .int v1), (3, .int v3), (4, .int v4)] [] s db_zI (db_f308_b55 n s v1 v3 v4) := by
  induction n with
  | zero => intros; exact db_Rnone
  | succ n ih =>
    intro s v1 v3 v4
    unfold db_f308_b55
    refine db_Rgo (pc' := 62) (lv' := [(0, .ref 669), (1, .int v1), (3, .int v3), (4, .int v4)]) (st' := [.int (3 : Int32), .ref 674, .int v4]) 4 rfl ?_
    refine db_RldI (pc' := 63) (lv1 := [(0, .ref 669), (1, .int v1), (3, .int v3), (4, .int v4)]) rfl rfl rfl fun x1 => ?_
    refine db_Ric (pc' := 66) (tg := 93) (lv1 := [(0, .ref 669), (1, .int v1), (3, .int v3), (4, .int v4)]) rfl rfl rfl rfl ?_ ?_
    · refine db_Rgo (pc' := 94) (lv' := [(3, .int v3)]) (st' := [.int v3]) 1 rfl ?_
      exact db_Rret (lv1 := [(3, .int v3)]) rfl rfl rfl rfl
    refine db_Rgo (pc' := 71) (lv' := [(0, .ref 669), (1, .int v1), (3, .int v3), (4, .int v4)]) (st' := [.int v1, .int v4, .ref 669, .int v3]) 4 rfl ?_
    refine db_RcyB (mr' := dbm_286) (as := [.ref 669, .int v4, .int v1]) (rest := [.int v3]) (pc' := 74) (lv1 := [(0, .ref 669), (1, .int v1), (3, .int v3), (4, .int v4)]) rfl rfl rfl rfl rfl (db_f286_ok) fun q2 => ?_
    refine db_RifBe (pc' := 77) (tg := 84) (lv1 := [(0, .ref 669), (1, .int v1), (3, .int v3), (4, .int v4)]) rfl rfl rfl rfl ?_ ?_
    · refine db_Rgo (pc' := 85) (lv' := [(0, .ref 669), (1, .int v1), (4, .int v4)]) (st' := [.int (0 : Int32), .int v3]) 1 rfl ?_
      exact db_f308_b85_ok ih
    refine db_Rgo (pc' := 85) (lv' := [(0, .ref 669), (1, .int v1), (3, .int v3), (4, .int v4)]) (st' := [.int ((1 : Int32) <<< (v4 &&& 31)), .int v3]) 4 rfl ?_
    refine db_Rn (lv1 := [(0, .ref 669), (1, .int v1), (4, .int v4)]) rfl rfl rfl ?_
    exact db_f308_b85_ok ih
/-- DreamBookModel.strikes(II)I -/
noncomputable def db_f308 (s : db_S) (v1 : Int32) (v2 : Int32) : Option (Int32 × db_S) :=
  ((db_pI s 669 1 (0 : Int32)).bind fun s1 => ((db_pI s1 669 0 (0 : Int32)).bind fun s2 => ((db_f289 s2 v1).bind fun q3 => (cond q3 ((db_f269 s2 (Int32.toInt64 v2) (0 : Int64) (1 : Int64)).bind fun q5 => (cond q5 (cond (db_cnd .ne v2 0) (db_f308_b55 db_FU s2 v1 (0 : Int32) (0 : Int32)) ((db_f306 s2 v1).bind fun q7 => (some (q7, s2)))) (db_bd (db_f281 s2 (5 : Int32)) fun q9 s10 => (some (q9, s10))))) (db_bd (db_f281 s2 (2 : Int32)) fun q11 s12 => (some (q11, s12)))))))
set_option maxRecDepth 100000 in
theorem db_f308_ok {X : db_X} {d : Nat} {s : db_S} {v1 : Int32} {v2 : Int32} : db_Rf X (d + 2) dbm_308 0 (lv_args 0 [.ref 669, .int v1, .int v2]) [] s db_zI (db_f308 s v1 v2) := by
  show db_Rf _ _ _ 0 [(0, .ref 669), (1, .int v1), (2, .int v2)] [] _ _ _
  unfold db_f308
  refine db_Rgo (pc' := 2) (lv' := [(0, .ref 669), (1, .int v1), (2, .int v2)]) (st' := [.int (0 : Int32), .ref 669]) 2 rfl ?_
  refine db_RpuI (pc' := 5) (lv1 := [(0, .ref 669), (1, .int v1), (2, .int v2)]) rfl rfl rfl rfl rfl rfl (by decide) rfl rfl fun s1 => ?_
  refine db_Rgo (pc' := 7) (lv' := [(0, .ref 669), (1, .int v1), (2, .int v2)]) (st' := [.int (0 : Int32), .ref 669]) 2 rfl ?_
  refine db_RpuI (pc' := 10) (lv1 := [(0, .ref 669), (1, .int v1), (2, .int v2)]) rfl rfl rfl rfl rfl rfl (by decide) rfl rfl fun s2 => ?_
  refine db_Rgo (pc' := 12) (lv' := [(0, .ref 669), (1, .int v1), (2, .int v2)]) (st' := [.int v1, .ref 669]) 2 rfl ?_
  refine db_RcyB (mr' := dbm_289) (as := [.ref 669, .int v1]) (rest := []) (pc' := 15) (lv1 := [(0, .ref 669), (1, .int v1), (2, .int v2)]) rfl rfl rfl rfl rfl (db_f289_ok) fun q3 => ?_
  refine db_RifBn (pc' := 18) (tg := 24) (lv1 := [(0, .ref 669), (1, .int v1), (2, .int v2)]) rfl rfl rfl rfl ?_ ?_
  · refine db_Rgo (pc' := 28) (lv' := [(0, .ref 669), (1, .int v1), (2, .int v2)]) (st' := [.long (1 : Int64), .long (0 : Int64), .long (Int32.toInt64 v2)]) 4 rfl ?_
    refine db_RcyB (mr' := dbm_269) (as := [.long (Int32.toInt64 v2), .long (0 : Int64), .long (1 : Int64)]) (rest := []) (pc' := 31) (lv1 := [(0, .ref 669), (1, .int v1), (2, .int v2)]) rfl rfl rfl rfl rfl (db_f269_ok) fun q5 => ?_
    refine db_RifBn (pc' := 34) (tg := 40) (lv1 := [(0, .ref 669), (1, .int v1), (2, .int v2)]) rfl rfl rfl rfl ?_ ?_
    · refine db_Rgo (pc' := 41) (lv' := [(0, .ref 669), (1, .int v1), (2, .int v2)]) (st' := [.int v2]) 1 rfl ?_
      refine db_Rif (pc' := 44) (tg := 50) (lv1 := [(0, .ref 669), (1, .int v1), (2, .int v2)]) rfl rfl rfl rfl ?_ ?_
      · refine db_Rgo (pc' := 55) (lv' := [(4, .int (0 : Int32)), (3, .int (0 : Int32)), (0, .ref 669), (1, .int v1)]) (st' := []) 4 rfl ?_
        refine db_Rn (lv1 := [(0, .ref 669), (1, .int v1), (3, .int (0 : Int32)), (4, .int (0 : Int32))]) rfl rfl rfl ?_
        exact db_f308_b55_ok db_FU _ _ _ _
      refine db_Rgo (pc' := 46) (lv' := [(0, .ref 669), (1, .int v1), (2, .int v2)]) (st' := [.int v1, .ref 669]) 2 rfl ?_
      refine db_RcyI (mr' := dbm_306) (as := [.ref 669, .int v1]) (rest := []) (pc' := 49) (lv1 := [(0, .ref 669), (1, .int v1), (2, .int v2)]) rfl rfl rfl rfl rfl (db_f306_ok) fun q7 => ?_
      exact db_Rret (lv1 := [(0, .ref 669), (1, .int v1), (2, .int v2)]) rfl rfl rfl rfl
    refine db_Rgo (pc' := 36) (lv' := [(0, .ref 669), (1, .int v1), (2, .int v2)]) (st' := [.int (5 : Int32), .ref 669]) 2 rfl ?_
    refine db_RcdI (mr' := dbm_281) (as := [.ref 669, .int (5 : Int32)]) (rest := []) (pc' := 39) (lv1 := [(0, .ref 669), (1, .int v1), (2, .int v2)]) rfl rfl rfl rfl rfl (db_f281_ok) fun q9 s10 => ?_
    exact db_Rret (lv1 := [(0, .ref 669), (1, .int v1), (2, .int v2)]) rfl rfl rfl rfl
  refine db_Rgo (pc' := 20) (lv' := [(0, .ref 669), (1, .int v1), (2, .int v2)]) (st' := [.int (2 : Int32), .ref 669]) 2 rfl ?_
  refine db_RcdI (mr' := dbm_281) (as := [.ref 669, .int (2 : Int32)]) (rest := []) (pc' := 23) (lv1 := [(0, .ref 669), (1, .int v1), (2, .int v2)]) rfl rfl rfl rfl rfl (db_f281_ok) fun q11 s12 => ?_
  exact db_Rret (lv1 := [(0, .ref 669), (1, .int v1), (2, .int v2)]) rfl rfl rfl rfl
/-- DreamBook$Life.strikeOut(I)Z -/
noncomputable def db_f121_80 (s : db_S) (v1 : Int32) : Option (Bool × db_S) :=
  ((db_f112 s (s.1 80 2) v1).bind fun q1 => (cond q1 (some (false, s)) ((db_pI s 80 2 ((s.1 80 2) ||| ((1 : Int32) <<< (v1 &&& 31)))).bind fun s3 => (some (true, s3)))))
set_option maxRecDepth 100000 in
theorem db_f121_80_ok {X : db_X} {d : Nat} {s : db_S} {v1 : Int32} : db_Rf X (d + 1) dbm_121 0 (lv_args 0 [.ref 80, .int v1]) [] s db_zB (db_f121_80 s v1) := by
  show db_Rf _ _ _ 0 [(0, .ref 80), (1, .int v1)] [] _ _ _
  unfold db_f121_80
  refine db_Rgo (pc' := 5) (lv' := [(0, .ref 80), (1, .int v1)]) (st' := [.int v1, .int (s.1 80 2)]) 3 rfl ?_
  refine db_RcyB (mr' := dbm_112) (as := [.int (s.1 80 2), .int v1]) (rest := []) (pc' := 8) (lv1 := [(0, .ref 80), (1, .int v1)]) rfl rfl rfl rfl rfl (db_f112_ok) fun q1 => ?_
  refine db_RifBe (pc' := 11) (tg := 13) (lv1 := [(0, .ref 80), (1, .int v1)]) rfl rfl rfl rfl ?_ ?_
  · refine db_Rgo (pc' := 22) (lv' := [(0, .ref 80), (1, .int v1)]) (st' := [.int ((s.1 80 2) ||| ((1 : Int32) <<< (v1 &&& 31))), .ref 80]) 7 rfl ?_
    refine db_RpuI (pc' := 25) (lv1 := [(0, .ref 80), (1, .int v1)]) rfl rfl rfl rfl rfl rfl (by decide) rfl rfl fun s3 => ?_
    refine db_Rgo (pc' := 26) (lv' := [(0, .ref 80), (1, .int v1)]) (st' := [.int (1 : Int32)]) 1 rfl ?_
    exact db_Rret (lv1 := [(0, .ref 80), (1, .int v1)]) rfl rfl rfl rfl
  refine db_Rgo (pc' := 12) (lv' := [(0, .ref 80), (1, .int v1)]) (st' := [.int (0 : Int32)]) 1 rfl ?_
  exact db_Rret (lv1 := [(0, .ref 80), (1, .int v1)]) rfl rfl rfl rfl
/-- DreamBook.strike(I)Z -/
noncomputable def db_f120 (s : db_S) (v1 : Int32) : Option (Bool × db_S) :=
  ((db_f103 s (3 : Int32) v1).bind fun q1 => (cond q1 (db_bd (db_f121_80 s v1) fun q3 s4 => (cond q3 (db_bd (db_f31 s4) fun q7 s8 => (some (q7, s8))) (db_bd (db_f28 s4 (9 : Int32)) fun q5 s6 => (some (q5, s6))))) (db_bd (db_f28 s (2 : Int32)) fun q9 s10 => (some (q9, s10)))))
set_option maxRecDepth 100000 in
theorem db_f120_ok {X : db_X} {d : Nat} {s : db_S} {v1 : Int32} : db_Rf X (d + 2) dbm_120 0 (lv_args 0 [.ref 4, .int v1]) [] s db_zB (db_f120 s v1) := by
  show db_Rf _ _ _ 0 [(0, .ref 4), (1, .int v1)] [] _ _ _
  unfold db_f120
  refine db_Rgo (pc' := 3) (lv' := [(0, .ref 4), (1, .int v1)]) (st' := [.int v1, .int (3 : Int32), .ref 4]) 3 rfl ?_
  refine db_RcyB (mr' := dbm_103) (as := [.ref 4, .int (3 : Int32), .int v1]) (rest := []) (pc' := 6) (lv1 := [(0, .ref 4), (1, .int v1)]) rfl rfl rfl rfl rfl (db_f103_ok) fun q1 => ?_
  refine db_RifBn (pc' := 9) (tg := 15) (lv1 := [(0, .ref 4), (1, .int v1)]) rfl rfl rfl rfl ?_ ?_
  · refine db_Rgo (pc' := 20) (lv' := [(0, .ref 4), (1, .int v1)]) (st' := [.int v1, .ref 80]) 3 rfl ?_
    refine db_RcdB (mr' := dbm_121) (as := [.ref 80, .int v1]) (rest := []) (pc' := 23) (lv1 := [(0, .ref 4), (1, .int v1)]) rfl rfl rfl rfl rfl (db_f121_80_ok) fun q3 s4 => ?_
    refine db_RifBe (pc' := 26) (tg := 33) (lv1 := [(0, .ref 4), (1, .int v1)]) rfl rfl rfl rfl ?_ ?_
    · refine db_Rgo (pc' := 36) (lv' := [(0, .ref 4)]) (st' := [.int (9 : Int32), .ref 4]) 2 rfl ?_
      refine db_RcdB (mr' := dbm_28) (as := [.ref 4, .int (9 : Int32)]) (rest := []) (pc' := 39) (lv1 := [(0, .ref 4)]) rfl rfl rfl rfl rfl (db_f28_ok) fun q5 s6 => ?_
      exact db_RretB (lv1 := []) rfl rfl rfl rfl
    refine db_Rgo (pc' := 27) (lv' := [(0, .ref 4), (1, .int v1)]) (st' := [.ref 4]) 1 rfl ?_
    refine db_RcdB (mr' := dbm_31) (as := [.ref 4]) (rest := []) (pc' := 30) (lv1 := [(0, .ref 4), (1, .int v1)]) rfl rfl rfl rfl rfl (db_f31_ok) fun q7 s8 => ?_
    refine db_Rgo (pc' := 39) (lv' := [(0, .ref 4), (1, .int v1)]) (st' := [.int (db_i q7)]) 1 rfl ?_
    exact db_RretB (lv1 := []) rfl rfl rfl rfl
  refine db_Rgo (pc' := 11) (lv' := [(0, .ref 4), (1, .int v1)]) (st' := [.int (2 : Int32), .ref 4]) 2 rfl ?_
  refine db_RcdB (mr' := dbm_28) (as := [.ref 4, .int (2 : Int32)]) (rest := []) (pc' := 14) (lv1 := [(0, .ref 4), (1, .int v1)]) rfl rfl rfl rfl rfl (db_f28_ok) fun q9 s10 => ?_
  exact db_RretB (lv1 := [(0, .ref 4), (1, .int v1)]) rfl rfl rfl rfl
/-- DreamBookModel.strikesOut(I)Z -/
noncomputable def db_f310 (s : db_S) (v1 : Int32) : Option (Bool × db_S) :=
  ((db_rI s 674 (7 : Int32)).bind fun x1 => ((db_f287 s x1 v1).bind fun q2 => (cond q2 (some (false, s)) ((db_rI s 674 (7 : Int32)).bind fun x4 => ((db_wI s 674 (7 : Int32) (x4 ||| ((1 : Int32) <<< (v1 &&& 31)))).bind fun s5 => (some (true, s5)))))))
set_option maxRecDepth 100000 in
theorem db_f310_ok {X : db_X} {d : Nat} {s : db_S} {v1 : Int32} : db_Rf X (d + 1) dbm_310 0 (lv_args 0 [.ref 669, .int v1]) [] s db_zB (db_f310 s v1) := by
  show db_Rf _ _ _ 0 [(0, .ref 669), (1, .int v1)] [] _ _ _
  unfold db_f310
  refine db_Rgo (pc' := 6) (lv' := [(0, .ref 669), (1, .int v1)]) (st' := [.int (7 : Int32), .ref 674]) 3 rfl ?_
  refine db_RldI (pc' := 7) (lv1 := [(0, .ref 669), (1, .int v1)]) rfl rfl rfl fun x1 => ?_
  refine db_Rgo (pc' := 8) (lv' := [(0, .ref 669), (1, .int v1)]) (st' := [.int v1, .int x1]) 1 rfl ?_
  refine db_RcyB (mr' := dbm_287) (as := [.int x1, .int v1]) (rest := []) (pc' := 11) (lv1 := [(0, .ref 669), (1, .int v1)]) rfl rfl rfl rfl rfl (db_f287_ok) fun q2 => ?_
  refine db_RifBe (pc' := 14) (tg := 16) (lv1 := [(0, .ref 669), (1, .int v1)]) rfl rfl rfl rfl ?_ ?_
  · refine db_Rgo (pc' := 23) (lv' := [(0, .ref 669), (1, .int v1)]) (st' := [.int (7 : Int32), .ref 674, .int (7 : Int32), .ref 674]) 4 rfl ?_
    refine db_RldI (pc' := 24) (lv1 := [(0, .ref 669), (1, .int v1)]) rfl rfl rfl fun x4 => ?_
    refine db_Rgo (pc' := 28) (lv' := [(0, .ref 669), (1, .int v1)]) (st' := [.int (x4 ||| ((1 : Int32) <<< (v1 &&& 31))), .int (7 : Int32), .ref 674]) 4 rfl ?_
    refine db_RstI (pc' := 29) (lv1 := [(0, .ref 669), (1, .int v1)]) rfl rfl rfl fun s5 => ?_
    refine db_Rgo (pc' := 30) (lv' := [(0, .ref 669), (1, .int v1)]) (st' := [.int (1 : Int32)]) 1 rfl ?_
    exact db_Rret (lv1 := [(0, .ref 669), (1, .int v1)]) rfl rfl rfl rfl
  refine db_Rgo (pc' := 15) (lv' := [(0, .ref 669), (1, .int v1)]) (st' := [.int (0 : Int32)]) 1 rfl ?_
  exact db_Rret (lv1 := [(0, .ref 669), (1, .int v1)]) rfl rfl rfl rfl
/-- DreamBookModel.strike(I)Z -/
noncomputable def db_f309 (s : db_S) (v1 : Int32) : Option (Bool × db_S) :=
  ((db_pI s 669 1 (0 : Int32)).bind fun s1 => ((db_pI s1 669 0 (0 : Int32)).bind fun s2 => ((db_f289 s2 v1).bind fun q3 => (cond q3 (db_bd (db_f310 s2 v1) fun q5 s6 => (cond q5 (some (true, s6)) (db_bd (db_f211 s6 (9 : Int32)) fun q7 s8 => (cond q7 (some (true, s8)) (some (false, s8)))))) (db_bd (db_f211 s2 (2 : Int32)) fun q9 s10 => (some (q9, s10)))))))
set_option maxRecDepth 100000 in
theorem db_f309_ok {X : db_X} {d : Nat} {s : db_S} {v1 : Int32} : db_Rf X (d + 2) dbm_309 0 (lv_args 0 [.ref 669, .int v1]) [] s db_zB (db_f309 s v1) := by
  show db_Rf _ _ _ 0 [(0, .ref 669), (1, .int v1)] [] _ _ _
  unfold db_f309
  refine db_Rgo (pc' := 2) (lv' := [(0, .ref 669), (1, .int v1)]) (st' := [.int (0 : Int32), .ref 669]) 2 rfl ?_
  refine db_RpuI (pc' := 5) (lv1 := [(0, .ref 669), (1, .int v1)]) rfl rfl rfl rfl rfl rfl (by decide) rfl rfl fun s1 => ?_
  refine db_Rgo (pc' := 7) (lv' := [(0, .ref 669), (1, .int v1)]) (st' := [.int (0 : Int32), .ref 669]) 2 rfl ?_
  refine db_RpuI (pc' := 10) (lv1 := [(0, .ref 669), (1, .int v1)]) rfl rfl rfl rfl rfl rfl (by decide) rfl rfl fun s2 => ?_
  refine db_Rgo (pc' := 12) (lv' := [(0, .ref 669), (1, .int v1)]) (st' := [.int v1, .ref 669]) 2 rfl ?_
  refine db_RcyB (mr' := dbm_289) (as := [.ref 669, .int v1]) (rest := []) (pc' := 15) (lv1 := [(0, .ref 669), (1, .int v1)]) rfl rfl rfl rfl rfl (db_f289_ok) fun q3 => ?_
  refine db_RifBn (pc' := 18) (tg := 24) (lv1 := [(0, .ref 669), (1, .int v1)]) rfl rfl rfl rfl ?_ ?_
  · refine db_Rgo (pc' := 26) (lv' := [(0, .ref 669), (1, .int v1)]) (st' := [.int v1, .ref 669]) 2 rfl ?_
    refine db_RcdB (mr' := dbm_310) (as := [.ref 669, .int v1]) (rest := []) (pc' := 29) (lv1 := [(0, .ref 669), (1, .int v1)]) rfl rfl rfl rfl rfl (db_f310_ok) fun q5 s6 => ?_
    refine db_RifBn (pc' := 32) (tg := 41) (lv1 := [(0, .ref 669), (1, .int v1)]) rfl rfl rfl rfl ?_ ?_
    · refine db_Rgo (pc' := 46) (lv' := []) (st' := [.int (1 : Int32)]) 2 rfl ?_
      exact db_Rret (lv1 := []) rfl rfl rfl rfl
    refine db_Rgo (pc' := 35) (lv' := [(0, .ref 669), (1, .int v1)]) (st' := [.int (9 : Int32), .ref 669]) 2 rfl ?_
    refine db_RcdB (mr' := dbm_211) (as := [.ref 669, .int (9 : Int32)]) (rest := []) (pc' := 38) (lv1 := [(0, .ref 669), (1, .int v1)]) rfl rfl rfl rfl rfl (db_f211_ok) fun q7 s8 => ?_
    refine db_RifBe (pc' := 41) (tg := 45) (lv1 := [(0, .ref 669), (1, .int v1)]) rfl rfl rfl rfl ?_ ?_
    · refine db_Rgo (pc' := 46) (lv' := []) (st' := [.int (0 : Int32)]) 1 rfl ?_
      exact db_Rret (lv1 := []) rfl rfl rfl rfl
    refine db_Rgo (pc' := 46) (lv' := []) (st' := [.int (1 : Int32)]) 2 rfl ?_
    exact db_Rret (lv1 := []) rfl rfl rfl rfl
  refine db_Rgo (pc' := 20) (lv' := [(0, .ref 669), (1, .int v1)]) (st' := [.int (2 : Int32), .ref 669]) 2 rfl ?_
  refine db_RcdB (mr' := dbm_211) (as := [.ref 669, .int (2 : Int32)]) (rest := []) (pc' := 23) (lv1 := [(0, .ref 669), (1, .int v1)]) rfl rfl rfl rfl rfl (db_f211_ok) fun q9 s10 => ?_
  exact db_RretB (lv1 := [(0, .ref 669), (1, .int v1)]) rfl rfl rfl rfl
/-- DreamBook.mend(I)Z -/
noncomputable def db_f122 (s : db_S) (v1 : Int32) : Option (Bool × db_S) :=
  ((db_f103 s (3 : Int32) v1).bind fun q1 => (cond q1 ((db_f112 s (s.1 80 2) v1).bind fun q3 => (cond q3 ((db_pI s 80 2 ((s.1 80 2) &&& (((1 : Int32) <<< (v1 &&& 31)) ^^^ (-1 : Int32)))).bind fun s5 => (db_bd (db_f31 s5) fun q6 s7 => (some (q6, s7)))) (db_bd (db_f28 s (9 : Int32)) fun q8 s9 => (some (q8, s9))))) (db_bd (db_f28 s (2 : Int32)) fun q10 s11 => (some (q10, s11)))))
set_option maxRecDepth 100000 in
theorem db_f122_ok {X : db_X} {d : Nat} {s : db_S} {v1 : Int32} : db_Rf X (d + 1) dbm_122 0 (lv_args 0 [.ref 4, .int v1]) [] s db_zB (db_f122 s v1) := by
  show db_Rf _ _ _ 0 [(0, .ref 4), (1, .int v1)] [] _ _ _
  unfold db_f122
  refine db_Rgo (pc' := 3) (lv' := [(0, .ref 4), (1, .int v1)]) (st' := [.int v1, .int (3 : Int32), .ref 4]) 3 rfl ?_
  refine db_RcyB (mr' := dbm_103) (as := [.ref 4, .int (3 : Int32), .int v1]) (rest := []) (pc' := 6) (lv1 := [(0, .ref 4), (1, .int v1)]) rfl rfl rfl rfl rfl (db_f103_ok) fun q1 => ?_
  refine db_RifBn (pc' := 9) (tg := 15) (lv1 := [(0, .ref 4), (1, .int v1)]) rfl rfl rfl rfl ?_ ?_
  · refine db_Rgo (pc' := 23) (lv' := [(0, .ref 4), (1, .int v1)]) (st' := [.int v1, .int (s.1 80 2)]) 4 rfl ?_
    refine db_RcyB (mr' := dbm_112) (as := [.int (s.1 80 2), .int v1]) (rest := []) (pc' := 26) (lv1 := [(0, .ref 4), (1, .int v1)]) rfl rfl rfl rfl rfl (db_f112_ok) fun q3 => ?_
    refine db_RifBn (pc' := 29) (tg := 36) (lv1 := [(0, .ref 4), (1, .int v1)]) rfl rfl rfl rfl ?_ ?_
    · refine db_Rgo (pc' := 50) (lv' := [(0, .ref 4), (1, .int v1)]) (st' := [.int ((s.1 80 2) &&& (((1 : Int32) <<< (v1 &&& 31)) ^^^ (-1 : Int32))), .ref 80]) 10 rfl ?_
      refine db_RpuI (pc' := 53) (lv1 := [(0, .ref 4), (1, .int v1)]) rfl rfl rfl rfl rfl rfl (by decide) rfl rfl fun s5 => ?_
      refine db_Rgo (pc' := 54) (lv' := [(0, .ref 4), (1, .int v1)]) (st' := [.ref 4]) 1 rfl ?_
      refine db_RcdB (mr' := dbm_31) (as := [.ref 4]) (rest := []) (pc' := 57) (lv1 := [(0, .ref 4), (1, .int v1)]) rfl rfl rfl rfl rfl (db_f31_ok) fun q6 s7 => ?_
      exact db_RretB (lv1 := [(0, .ref 4), (1, .int v1)]) rfl rfl rfl rfl
    refine db_Rgo (pc' := 32) (lv' := [(0, .ref 4), (1, .int v1)]) (st' := [.int (9 : Int32), .ref 4]) 2 rfl ?_
    refine db_RcdB (mr' := dbm_28) (as := [.ref 4, .int (9 : Int32)]) (rest := []) (pc' := 35) (lv1 := [(0, .ref 4), (1, .int v1)]) rfl rfl rfl rfl rfl (db_f28_ok) fun q8 s9 => ?_
    exact db_RretB (lv1 := [(0, .ref 4), (1, .int v1)]) rfl rfl rfl rfl
  refine db_Rgo (pc' := 11) (lv' := [(0, .ref 4), (1, .int v1)]) (st' := [.int (2 : Int32), .ref 4]) 2 rfl ?_
  refine db_RcdB (mr' := dbm_28) (as := [.ref 4, .int (2 : Int32)]) (rest := []) (pc' := 14) (lv1 := [(0, .ref 4), (1, .int v1)]) rfl rfl rfl rfl rfl (db_f28_ok) fun q10 s11 => ?_
  exact db_RretB (lv1 := [(0, .ref 4), (1, .int v1)]) rfl rfl rfl rfl
/-- DreamBookModel.mend(I)Z -/
noncomputable def db_f311 (s : db_S) (v1 : Int32) : Option (Bool × db_S) :=
  ((db_pI s 669 1 (0 : Int32)).bind fun s1 => ((db_pI s1 669 0 (0 : Int32)).bind fun s2 => ((db_f289 s2 v1).bind fun q3 => (cond q3 ((db_rI s2 674 (7 : Int32)).bind fun x5 => ((db_f287 s2 x5 v1).bind fun q6 => (cond q6 ((db_rI s2 674 (7 : Int32)).bind fun x8 => ((db_wI s2 674 (7 : Int32) (x8 &&& (((1 : Int32) <<< (v1 &&& 31)) ^^^ (-1 : Int32)))).bind fun s9 => (some (true, s9)))) (db_bd (db_f211 s2 (9 : Int32)) fun q10 s11 => (some (q10, s11)))))) (db_bd (db_f211 s2 (2 : Int32)) fun q12 s13 => (some (q12, s13)))))))
set_option maxRecDepth 100000 in
theorem db_f311_ok {X : db_X} {d : Nat} {s : db_S} {v1 : Int32} : db_Rf X (d + 2) dbm_311 0 (lv_args 0 [.ref 669, .int v1]) [] s db_zB (db_f311 s v1) := by
  show db_Rf _ _ _ 0 [(0, .ref 669), (1, .int v1)] [] _ _ _
  unfold db_f311
  refine db_Rgo (pc' := 2) (lv' := [(0, .ref 669), (1, .int v1)]) (st' := [.int (0 : Int32), .ref 669]) 2 rfl ?_
  refine db_RpuI (pc' := 5) (lv1 := [(0, .ref 669), (1, .int v1)]) rfl rfl rfl rfl rfl rfl (by decide) rfl rfl fun s1 => ?_
  refine db_Rgo (pc' := 7) (lv' := [(0, .ref 669), (1, .int v1)]) (st' := [.int (0 : Int32), .ref 669]) 2 rfl ?_
  refine db_RpuI (pc' := 10) (lv1 := [(0, .ref 669), (1, .int v1)]) rfl rfl rfl rfl rfl rfl (by decide) rfl rfl fun s2 => ?_
  refine db_Rgo (pc' := 12) (lv' := [(0, .ref 669), (1, .int v1)]) (st' := [.int v1, .ref 669]) 2 rfl ?_
  refine db_RcyB (mr' := dbm_289) (as := [.ref 669, .int v1]) (rest := []) (pc' := 15) (lv1 := [(0, .ref 669), (1, .int v1)]) rfl rfl rfl rfl rfl (db_f289_ok) fun q3 => ?_
  refine db_RifBn (pc' := 18) (tg := 24) (lv1 := [(0, .ref 669), (1, .int v1)]) rfl rfl rfl rfl ?_ ?_
  · refine db_Rgo (pc' := 30) (lv' := [(0, .ref 669), (1, .int v1)]) (st' := [.int (7 : Int32), .ref 674]) 3 rfl ?_
    refine db_RldI (pc' := 31) (lv1 := [(0, .ref 669), (1, .int v1)]) rfl rfl rfl fun x5 => ?_
    refine db_Rgo (pc' := 32) (lv' := [(0, .ref 669), (1, .int v1)]) (st' := [.int v1, .int x5]) 1 rfl ?_
    refine db_RcyB (mr' := dbm_287) (as := [.int x5, .int v1]) (rest := []) (pc' := 35) (lv1 := [(0, .ref 669), (1, .int v1)]) rfl rfl rfl rfl rfl (db_f287_ok) fun q6 => ?_
    refine db_RifBn (pc' := 38) (tg := 45) (lv1 := [(0, .ref 669), (1, .int v1)]) rfl rfl rfl rfl ?_ ?_
    · refine db_Rgo (pc' := 52) (lv' := [(0, .ref 669), (1, .int v1)]) (st' := [.int (7 : Int32), .ref 674, .int (7 : Int32), .ref 674]) 4 rfl ?_
      refine db_RldI (pc' := 53) (lv1 := [(0, .ref 669), (1, .int v1)]) rfl rfl rfl fun x8 => ?_
      refine db_Rgo (pc' := 59) (lv' := [(0, .ref 669), (1, .int v1)]) (st' := [.int (x8 &&& (((1 : Int32) <<< (v1 &&& 31)) ^^^ (-1 : Int32))), .int (7 : Int32), .ref 674]) 6 rfl ?_
      refine db_RstI (pc' := 60) (lv1 := [(0, .ref 669), (1, .int v1)]) rfl rfl rfl fun s9 => ?_
      refine db_Rgo (pc' := 61) (lv' := [(0, .ref 669), (1, .int v1)]) (st' := [.int (1 : Int32)]) 1 rfl ?_
      exact db_Rret (lv1 := [(0, .ref 669), (1, .int v1)]) rfl rfl rfl rfl
    refine db_Rgo (pc' := 41) (lv' := [(0, .ref 669), (1, .int v1)]) (st' := [.int (9 : Int32), .ref 669]) 2 rfl ?_
    refine db_RcdB (mr' := dbm_211) (as := [.ref 669, .int (9 : Int32)]) (rest := []) (pc' := 44) (lv1 := [(0, .ref 669), (1, .int v1)]) rfl rfl rfl rfl rfl (db_f211_ok) fun q10 s11 => ?_
    exact db_RretB (lv1 := [(0, .ref 669), (1, .int v1)]) rfl rfl rfl rfl
  refine db_Rgo (pc' := 20) (lv' := [(0, .ref 669), (1, .int v1)]) (st' := [.int (2 : Int32), .ref 669]) 2 rfl ?_
  refine db_RcdB (mr' := dbm_211) (as := [.ref 669, .int (2 : Int32)]) (rest := []) (pc' := 23) (lv1 := [(0, .ref 669), (1, .int v1)]) rfl rfl rfl rfl rfl (db_f211_ok) fun q12 s13 => ?_
  exact db_RretB (lv1 := [(0, .ref 669), (1, .int v1)]) rfl rfl rfl rfl
/-- DreamBook.print(I)I -/
noncomputable def db_f123 (s : db_S) (v1 : Int32) : Option (Int32 × db_S) :=
  ((db_f103 s (3 : Int32) v1).bind fun q1 => (cond q1 ((db_rI s 81 v1).bind fun x3 => ((db_wI s 81 v1 (0 : Int32)).bind fun s4 => (db_bd (db_f87 s4 x3) fun q5 s6 => (some (q5, s6))))) (db_bd (db_f37 s (2 : Int32)) fun q7 s8 => (some (q7, s8)))))
set_option maxRecDepth 100000 in
theorem db_f123_ok {X : db_X} {d : Nat} {s : db_S} {v1 : Int32} : db_Rf X (d + 1) dbm_123 0 (lv_args 0 [.ref 4, .int v1]) [] s db_zI (db_f123 s v1) := by
  show db_Rf _ _ _ 0 [(0, .ref 4), (1, .int v1)] [] _ _ _
  unfold db_f123
  refine db_Rgo (pc' := 3) (lv' := [(0, .ref 4), (1, .int v1)]) (st' := [.int v1, .int (3 : Int32), .ref 4]) 3 rfl ?_
  refine db_RcyB (mr' := dbm_103) (as := [.ref 4, .int (3 : Int32), .int v1]) (rest := []) (pc' := 6) (lv1 := [(0, .ref 4), (1, .int v1)]) rfl rfl rfl rfl rfl (db_f103_ok) fun q1 => ?_
  refine db_RifBn (pc' := 9) (tg := 15) (lv1 := [(0, .ref 4), (1, .int v1)]) rfl rfl rfl rfl ?_ ?_
  · refine db_Rgo (pc' := 23) (lv' := [(0, .ref 4), (1, .int v1)]) (st' := [.int v1, .ref 81]) 4 rfl ?_
    refine db_RldI (pc' := 24) (lv1 := [(0, .ref 4), (1, .int v1)]) rfl rfl rfl fun x3 => ?_
    refine db_Rgo (pc' := 34) (lv' := [(2, .int x3), (0, .ref 4), (1, .int v1)]) (st' := [.int (0 : Int32), .int v1, .ref 81]) 6 rfl ?_
    refine db_RstI (pc' := 35) (lv1 := [(2, .int x3), (0, .ref 4), (1, .int v1)]) rfl rfl rfl fun s4 => ?_
    refine db_Rgo (pc' := 37) (lv' := [(2, .int x3), (0, .ref 4), (1, .int v1)]) (st' := [.int x3, .ref 4]) 2 rfl ?_
    refine db_RcdI (mr' := dbm_87) (as := [.ref 4, .int x3]) (rest := []) (pc' := 40) (lv1 := [(2, .int x3), (0, .ref 4), (1, .int v1)]) rfl rfl rfl rfl rfl (db_f87_ok) fun q5 s6 => ?_
    exact db_Rret (lv1 := [(2, .int x3), (0, .ref 4), (1, .int v1)]) rfl rfl rfl rfl
  refine db_Rgo (pc' := 11) (lv' := [(0, .ref 4), (1, .int v1)]) (st' := [.int (2 : Int32), .ref 4]) 2 rfl ?_
  refine db_RcdI (mr' := dbm_37) (as := [.ref 4, .int (2 : Int32)]) (rest := []) (pc' := 14) (lv1 := [(0, .ref 4), (1, .int v1)]) rfl rfl rfl rfl rfl (db_f37_ok) fun q7 s8 => ?_
  exact db_Rret (lv1 := [(0, .ref 4), (1, .int v1)]) rfl rfl rfl rfl
/-- DreamBookModel.print(I)I -/
noncomputable def db_f312 (s : db_S) (v1 : Int32) : Option (Int32 × db_S) :=
  ((db_pI s 669 1 (0 : Int32)).bind fun s1 => ((db_pI s1 669 0 (0 : Int32)).bind fun s2 => ((db_f289 s2 v1).bind fun q3 => (cond q3 ((db_rI s2 674 ((91 : Int32) + v1)).bind fun x5 => ((db_wI s2 674 ((91 : Int32) + v1) (0 : Int32)).bind fun s6 => (some (x5, s6)))) (db_bd (db_f281 s2 (2 : Int32)) fun q7 s8 => (some (q7, s8)))))))
set_option maxRecDepth 100000 in
theorem db_f312_ok {X : db_X} {d : Nat} {s : db_S} {v1 : Int32} : db_Rf X (d + 2) dbm_312 0 (lv_args 0 [.ref 669, .int v1]) [] s db_zI (db_f312 s v1) := by
  show db_Rf _ _ _ 0 [(0, .ref 669), (1, .int v1)] [] _ _ _
  unfold db_f312
  refine db_Rgo (pc' := 2) (lv' := [(0, .ref 669), (1, .int v1)]) (st' := [.int (0 : Int32), .ref 669]) 2 rfl ?_
  refine db_RpuI (pc' := 5) (lv1 := [(0, .ref 669), (1, .int v1)]) rfl rfl rfl rfl rfl rfl (by decide) rfl rfl fun s1 => ?_
  refine db_Rgo (pc' := 7) (lv' := [(0, .ref 669), (1, .int v1)]) (st' := [.int (0 : Int32), .ref 669]) 2 rfl ?_
  refine db_RpuI (pc' := 10) (lv1 := [(0, .ref 669), (1, .int v1)]) rfl rfl rfl rfl rfl rfl (by decide) rfl rfl fun s2 => ?_
  refine db_Rgo (pc' := 12) (lv' := [(0, .ref 669), (1, .int v1)]) (st' := [.int v1, .ref 669]) 2 rfl ?_
  refine db_RcyB (mr' := dbm_289) (as := [.ref 669, .int v1]) (rest := []) (pc' := 15) (lv1 := [(0, .ref 669), (1, .int v1)]) rfl rfl rfl rfl rfl (db_f289_ok) fun q3 => ?_
  refine db_RifBn (pc' := 18) (tg := 24) (lv1 := [(0, .ref 669), (1, .int v1)]) rfl rfl rfl rfl ?_ ?_
  · refine db_Rgo (pc' := 32) (lv' := [(0, .ref 669), (1, .int v1)]) (st' := [.int ((91 : Int32) + v1), .ref 674]) 5 rfl ?_
    refine db_RldI (pc' := 33) (lv1 := [(0, .ref 669), (1, .int v1)]) rfl rfl rfl fun x5 => ?_
    refine db_Rgo (pc' := 43) (lv' := [(2, .int x5), (0, .ref 669), (1, .int v1)]) (st' := [.int (0 : Int32), .int ((91 : Int32) + v1), .ref 674]) 7 rfl ?_
    refine db_RstI (pc' := 44) (lv1 := [(2, .int x5), (0, .ref 669), (1, .int v1)]) rfl rfl rfl fun s6 => ?_
    refine db_Rgo (pc' := 45) (lv' := [(2, .int x5), (0, .ref 669), (1, .int v1)]) (st' := [.int x5]) 1 rfl ?_
    exact db_Rret (lv1 := [(2, .int x5), (0, .ref 669), (1, .int v1)]) rfl rfl rfl rfl
  refine db_Rgo (pc' := 20) (lv' := [(0, .ref 669), (1, .int v1)]) (st' := [.int (2 : Int32), .ref 669]) 2 rfl ?_
  refine db_RcdI (mr' := dbm_281) (as := [.ref 669, .int (2 : Int32)]) (rest := []) (pc' := 23) (lv1 := [(0, .ref 669), (1, .int v1)]) rfl rfl rfl rfl rfl (db_f281_ok) fun q7 s8 => ?_
  exact db_Rret (lv1 := [(0, .ref 669), (1, .int v1)]) rfl rfl rfl rfl
noncomputable def db_f126_b14 (s : db_S) (v2 : Int32) : Option Bool :=
  (cond (db_cnd .eq v2 (-1 : Int32)) (some true) ((db_f103 s (2 : Int32) v2).bind fun q1 => (cond q1 (some true) (some false))))
set_option maxRecDepth 100000 in
theorem db_f126_b14_ok {X : db_X} {d : Nat}  {s : db_S} {v2 : Int32} : db_Rf X (d + 1) dbm_126 14 [(0, .ref 4), (2, .int v2)] [] s (db_yB s) (db_f126_b14 s v2) := by
  unfold db_f126_b14
  refine db_Rgo (pc' := 16) (lv' := [(0, .ref 4), (2, .int v2)]) (st' := [.int (-1 : Int32), .int v2]) 2 rfl ?_
  refine db_Ric (pc' := 19) (tg := 28) (lv1 := [(0, .ref 4), (2, .int v2)]) rfl rfl rfl rfl ?_ ?_
  · refine db_Rgo (pc' := 33) (lv' := []) (st' := [.int (1 : Int32)]) 2 rfl ?_
    exact db_Rret (lv1 := []) rfl rfl rfl rfl
  refine db_Rgo (pc' := 22) (lv' := [(0, .ref 4), (2, .int v2)]) (st' := [.int v2, .int (2 : Int32), .ref 4]) 3 rfl ?_
  refine db_RcyB (mr' := dbm_103) (as := [.ref 4, .int (2 : Int32), .int v2]) (rest := []) (pc' := 25) (lv1 := [(0, .ref 4), (2, .int v2)]) rfl rfl rfl rfl rfl (db_f103_ok) fun q1 => ?_
  refine db_RifBe (pc' := 28) (tg := 32) (lv1 := [(0, .ref 4), (2, .int v2)]) rfl rfl rfl rfl ?_ ?_
  · refine db_Rgo (pc' := 33) (lv' := []) (st' := [.int (0 : Int32)]) 1 rfl ?_
    exact db_Rret (lv1 := []) rfl rfl rfl rfl
  refine db_Rgo (pc' := 33) (lv' := []) (st' := [.int (1 : Int32)]) 2 rfl ?_
  exact db_Rret (lv1 := []) rfl rfl rfl rfl
/-- DreamBook.isFor(II)Z -/
noncomputable def db_f126 (s : db_S) (v1 : Int32) (v2 : Int32) : Option Bool :=
  (cond (db_cnd .eq v1 (-1 : Int32)) (db_f126_b14 s v2) ((db_f103 s (1 : Int32) v1).bind fun q1 => (cond q1 (db_f126_b14 s v2) (some false))))
set_option maxRecDepth 100000 in
theorem db_f126_ok {X : db_X} {d : Nat} {s : db_S} {v1 : Int32} {v2 : Int32} : db_Rf X (d + 1) dbm_126 0 (lv_args 0 [.ref 4, .int v1, .int v2]) [] s (db_yB s) (db_f126 s v1 v2) := by
  show db_Rf _ _ _ 0 [(0, .ref 4), (1, .int v1), (2, .int v2)] [] _ _ _
  unfold db_f126
  refine db_Rgo (pc' := 2) (lv' := [(0, .ref 4), (1, .int v1), (2, .int v2)]) (st' := [.int (-1 : Int32), .int v1]) 2 rfl ?_
  refine db_Ric (pc' := 5) (tg := 14) (lv1 := [(0, .ref 4), (1, .int v1), (2, .int v2)]) rfl rfl rfl rfl ?_ ?_
  · refine db_Rn (lv1 := [(0, .ref 4), (2, .int v2)]) rfl rfl rfl ?_
    exact db_f126_b14_ok
  refine db_Rgo (pc' := 8) (lv' := [(0, .ref 4), (1, .int v1), (2, .int v2)]) (st' := [.int v1, .int (1 : Int32), .ref 4]) 3 rfl ?_
  refine db_RcyB (mr' := dbm_103) (as := [.ref 4, .int (1 : Int32), .int v1]) (rest := []) (pc' := 11) (lv1 := [(0, .ref 4), (1, .int v1), (2, .int v2)]) rfl rfl rfl rfl rfl (db_f103_ok) fun q1 => ?_
  refine db_RifBe (pc' := 14) (tg := 32) (lv1 := [(0, .ref 4), (1, .int v1), (2, .int v2)]) rfl rfl rfl rfl ?_ ?_
  · refine db_Rgo (pc' := 33) (lv' := []) (st' := [.int (0 : Int32)]) 1 rfl ?_
    exact db_Rret (lv1 := []) rfl rfl rfl rfl
  refine db_Rn (lv1 := [(0, .ref 4), (2, .int v2)]) rfl rfl rfl ?_
  exact db_f126_b14_ok
/-- DreamBook.isReading(III)Z -/
noncomputable def db_f125 (s : db_S) (v1 : Int32) (v2 : Int32) (v3 : Int32) : Option Bool :=
  ((db_f103 s (5 : Int32) v1).bind fun q1 => (cond q1 ((db_f126 s v2 v3).bind fun q3 => (cond q3 (some true) (some false))) (some false)))
set_option maxRecDepth 100000 in
theorem db_f125_ok {X : db_X} {d : Nat} {s : db_S} {v1 : Int32} {v2 : Int32} {v3 : Int32} : db_Rf X (d + 2) dbm_125 0 (lv_args 0 [.ref 4, .int v1, .int v2, .int v3]) [] s (db_yB s) (db_f125 s v1 v2 v3) := by
  show db_Rf _ _ _ 0 [(0, .ref 4), (1, .int v1), (2, .int v2), (3, .int v3)] [] _ _ _
  unfold db_f125
  refine db_Rgo (pc' := 3) (lv' := [(0, .ref 4), (1, .int v1), (2, .int v2), (3, .int v3)]) (st' := [.int v1, .int (5 : Int32), .ref 4]) 3 rfl ?_
  refine db_RcyB (mr' := dbm_103) (as := [.ref 4, .int (5 : Int32), .int v1]) (rest := []) (pc' := 6) (lv1 := [(0, .ref 4), (1, .int v1), (2, .int v2), (3, .int v3)]) rfl rfl rfl rfl rfl (db_f103_ok) fun q1 => ?_
  refine db_RifBe (pc' := 9) (tg := 22) (lv1 := [(0, .ref 4), (1, .int v1), (2, .int v2), (3, .int v3)]) rfl rfl rfl rfl ?_ ?_
  · refine db_Rgo (pc' := 23) (lv' := []) (st' := [.int (0 : Int32)]) 1 rfl ?_
    exact db_Rret (lv1 := []) rfl rfl rfl rfl
  refine db_Rgo (pc' := 12) (lv' := [(0, .ref 4), (1, .int v1), (2, .int v2), (3, .int v3)]) (st' := [.int v3, .int v2, .ref 4]) 3 rfl ?_
  refine db_RcyB (mr' := dbm_126) (as := [.ref 4, .int v2, .int v3]) (rest := []) (pc' := 15) (lv1 := [(0, .ref 4), (1, .int v1), (2, .int v2), (3, .int v3)]) rfl rfl rfl rfl rfl (db_f126_ok) fun q3 => ?_
  refine db_RifBe (pc' := 18) (tg := 22) (lv1 := [(0, .ref 4), (1, .int v1), (2, .int v2), (3, .int v3)]) rfl rfl rfl rfl ?_ ?_
  · refine db_Rgo (pc' := 23) (lv' := []) (st' := [.int (0 : Int32)]) 1 rfl ?_
    exact db_Rret (lv1 := []) rfl rfl rfl rfl
  refine db_Rgo (pc' := 23) (lv' := [(0, .ref 4), (1, .int v1), (2, .int v2), (3, .int v3)]) (st' := [.int (1 : Int32)]) 2 rfl ?_
  exact db_Rret (lv1 := []) rfl rfl rfl rfl
noncomputable def db_f128_b47 (s : db_S) (v3 : Int32) (t0 : Int32) : Option Int32 :=
  (cond (db_cnd .ne v3 t0) (some (-1 : Int32)) (some (1 : Int32)))
set_option maxRecDepth 100000 in
theorem db_f128_b47_ok {X : db_X} {d : Nat}  {s : db_S} {v3 : Int32} {t0 : Int32} : db_Rf X (d + 0) dbm_128 47 [(3, .int v3)] [.int t0] s (db_yI s) (db_f128_b47 s v3 t0) := by
  unfold db_f128_b47
  refine db_Rgo (pc' := 52) (lv' := [(4, .int t0), (3, .int v3)]) (st' := [.int t0, .int v3]) 3 rfl ?_
  refine db_Ric (pc' := 55) (tg := 59) (lv1 := [(4, .int t0), (3, .int v3)]) rfl rfl rfl rfl ?_ ?_
  · refine db_Rgo (pc' := 60) (lv' := []) (st' := [.int (-1 : Int32)]) 1 rfl ?_
    exact db_Rret (lv1 := []) rfl rfl rfl rfl
  refine db_Rgo (pc' := 60) (lv' := [(4, .int t0), (3, .int v3)]) (st' := [.int (1 : Int32)]) 2 rfl ?_
  exact db_Rret (lv1 := []) rfl rfl rfl rfl
noncomputable def db_f128_b46 (s : db_S) (v3 : Int32) : Option Int32 :=
  (db_f128_b47 s v3 (0 : Int32))
set_option maxRecDepth 100000 in
theorem db_f128_b46_ok {X : db_X} {d : Nat}  {s : db_S} {v3 : Int32} : db_Rf X (d + 0) dbm_128 46 [(3, .int v3)] [] s (db_yI s) (db_f128_b46 s v3) := by
  unfold db_f128_b46
  refine db_Rgo (pc' := 47) (lv' := [(3, .int v3)]) (st' := [.int (0 : Int32)]) 1 rfl ?_
  exact db_f128_b47_ok
noncomputable def db_f128_b23 (s : db_S) (v2 : Int32) (t0 : Int32) : Option Int32 :=
  (cond (db_cnd .eq v2 (-1 : Int32)) (db_f128_b46 s t0) ((db_rI s 23 v2).bind fun x1 => (cond (db_cnd .ne x1 (1 : Int32)) (db_f128_b46 s t0) (db_f128_b47 s t0 (1 : Int32)))))
set_option maxRecDepth 100000 in
theorem db_f128_b23_ok {X : db_X} {d : Nat}  {s : db_S} {v2 : Int32} {t0 : Int32} : db_Rf X (d + 0) dbm_128 23 [(0, .ref 271), (2, .int v2)] [.int t0] s (db_yI s) (db_f128_b23 s v2 t0) := by
  unfold db_f128_b23
  refine db_Rgo (pc' := 26) (lv' := [(3, .int t0), (0, .ref 271), (2, .int v2)]) (st' := [.int (-1 : Int32), .int v2]) 3 rfl ?_
  refine db_Ric (pc' := 29) (tg := 46) (lv1 := [(3, .int t0), (0, .ref 271), (2, .int v2)]) rfl rfl rfl rfl ?_ ?_
  · refine db_Rn (lv1 := [(3, .int t0)]) rfl rfl rfl ?_
    exact db_f128_b46_ok
  refine db_Rgo (pc' := 37) (lv' := [(3, .int t0), (0, .ref 271), (2, .int v2)]) (st' := [.int v2, .ref 23]) 4 rfl ?_
  refine db_RldI (pc' := 38) (lv1 := [(3, .int t0), (0, .ref 271), (2, .int v2)]) rfl rfl rfl fun x1 => ?_
  refine db_Rgo (pc' := 39) (lv' := [(3, .int t0), (0, .ref 271), (2, .int v2)]) (st' := [.int (1 : Int32), .int x1]) 1 rfl ?_
  refine db_Ric (pc' := 42) (tg := 46) (lv1 := [(3, .int t0), (0, .ref 271), (2, .int v2)]) rfl rfl rfl rfl ?_ ?_
  · refine db_Rn (lv1 := [(3, .int t0)]) rfl rfl rfl ?_
    exact db_f128_b46_ok
  refine db_Rgo (pc' := 47) (lv' := [(3, .int t0), (0, .ref 271), (2, .int v2)]) (st' := [.int (1 : Int32)]) 2 rfl ?_
  refine db_Rn (lv1 := [(3, .int t0)]) rfl rfl rfl ?_
  exact db_f128_b47_ok
noncomputable def db_f128_b22 (s : db_S) (v2 : Int32) : Option Int32 :=
  (db_f128_b23 s v2 (0 : Int32))
set_option maxRecDepth 100000 in
theorem db_f128_b22_ok {X : db_X} {d : Nat}  {s : db_S} {v2 : Int32} : db_Rf X (d + 0) dbm_128 22 [(0, .ref 271), (2, .int v2)] [] s (db_yI s) (db_f128_b22 s v2) := by
  unfold db_f128_b22
  refine db_Rgo (pc' := 23) (lv' := [(0, .ref 271), (2, .int v2)]) (st' := [.int (0 : Int32)]) 1 rfl ?_
  exact db_f128_b23_ok
/-- DreamBook$Reader.sign(II)I -/
noncomputable def db_f128 (s : db_S) (v1 : Int32) (v2 : Int32) : Option Int32 :=
  (cond (db_cnd .eq v1 (-1 : Int32)) (db_f128_b22 s v2) ((db_rI s 22 v1).bind fun x1 => (cond (db_cnd .ne x1 (1 : Int32)) (db_f128_b22 s v2) (db_f128_b23 s v2 (1 : Int32)))))
set_option maxRecDepth 100000 in
theorem db_f128_ok {X : db_X} {d : Nat} {s : db_S} {v1 : Int32} {v2 : Int32} : db_Rf X (d + 0) dbm_128 0 (lv_args 0 [.ref 271, .int v1, .int v2]) [] s (db_yI s) (db_f128 s v1 v2) := by
  show db_Rf _ _ _ 0 [(0, .ref 271), (1, .int v1), (2, .int v2)] [] _ _ _
  unfold db_f128
  refine db_Rgo (pc' := 2) (lv' := [(0, .ref 271), (1, .int v1), (2, .int v2)]) (st' := [.int (-1 : Int32), .int v1]) 2 rfl ?_
  refine db_Ric (pc' := 5) (tg := 22) (lv1 := [(0, .ref 271), (1, .int v1), (2, .int v2)]) rfl rfl rfl rfl ?_ ?_
  · refine db_Rn (lv1 := [(0, .ref 271), (2, .int v2)]) rfl rfl rfl ?_
    exact db_f128_b22_ok
  refine db_Rgo (pc' := 13) (lv' := [(0, .ref 271), (1, .int v1), (2, .int v2)]) (st' := [.int v1, .ref 22]) 4 rfl ?_
  refine db_RldI (pc' := 14) (lv1 := [(0, .ref 271), (1, .int v1), (2, .int v2)]) rfl rfl rfl fun x1 => ?_
  refine db_Rgo (pc' := 15) (lv' := [(0, .ref 271), (1, .int v1), (2, .int v2)]) (st' := [.int (1 : Int32), .int x1]) 1 rfl ?_
  refine db_Ric (pc' := 18) (tg := 22) (lv1 := [(0, .ref 271), (1, .int v1), (2, .int v2)]) rfl rfl rfl rfl ?_ ?_
  · refine db_Rn (lv1 := [(0, .ref 271), (2, .int v2)]) rfl rfl rfl ?_
    exact db_f128_b22_ok
  refine db_Rgo (pc' := 23) (lv' := [(0, .ref 271), (1, .int v1), (2, .int v2)]) (st' := [.int (1 : Int32)]) 2 rfl ?_
  refine db_Rn (lv1 := [(0, .ref 271), (2, .int v2)]) rfl rfl rfl ?_
  exact db_f128_b23_ok
noncomputable def db_f129_b99 (h11 : Int32 → Int32 → Int32 → Int32 → Int32 → Option Int32) (s : db_S) (v1 : Int32) (v2 : Int32) (v3 : Int32) (v4 : Int32) (v5 : Int32) : Option Int32 :=
  (h11 v1 v2 v3 v4 (v5 + (1 : Int32)))
set_option maxRecDepth 100000 in
theorem db_f129_b99_ok {X : db_X} {d : Nat}  {h11 : Int32 → Int32 → Int32 → Int32 → Int32 → Option Int32} {s : db_S} {v1 : Int32} {v2 : Int32} {v3 : Int32} {v4 : Int32} {v5 : Int32} (zh11 : ∀ (v1 : Int32) (v2 : Int32) (v3 : Int32) (v4 : Int32) (v5 : Int32) , db_Rf X (d + 1) dbm_129 11 [(0, .ref 271), (1, .int v1), (2, .int v2), (3, .int v3), (4, .int v4), (5, .int v5)] [] s (db_yI s) (h11 v1 v2 v3 v4 v5)) : db_Rf X (d + 1) dbm_129 99 [(0, .ref 271), (1, .int v1), (2, .int v2), (3, .int v3), (4, .int v4), (5, .int v5)] [] s (db_yI s) (db_f129_b99 h11 s v1 v2 v3 v4 v5) := by
  unfold db_f129_b99
  refine db_Rgo (pc' := 11) (lv' := [(5, .int (v5 + (1 : Int32))), (0, .ref 271), (1, .int v1), (2, .int v2), (3, .int v3), (4, .int v4)]) (st' := []) 2 rfl ?_
  refine db_Rn (lv1 := [(0, .ref 271), (1, .int v1), (2, .int v2), (3, .int v3), (4, .int v4), (5, .int (v5 + (1 : Int32)))]) rfl rfl rfl ?_
  exact zh11 _ _ _ _ _
noncomputable def db_f129_b74 (h11 : Int32 → Int32 → Int32 → Int32 → Int32 → Option Int32) (s : db_S) (v1 : Int32) (v2 : Int32) (v3 : Int32) (v4 : Int32) (v5 : Int32) (t0 : Int32) : Option Int32 :=
  (cond (db_cnd .eq t0 0) (db_f129_b99 h11 s v1 v2 v3 v4 v5) ((db_f112 s v3 v5).bind fun q1 => (cond q1 (db_f129_b99 h11 s v1 v2 v3 (v4 ||| ((1 : Int32) <<< (v5 &&& 31))) v5) (db_f129_b99 h11 s v1 v2 v3 v4 v5))))
set_option maxRecDepth 100000 in
theorem db_f129_b74_ok {X : db_X} {d : Nat}  {h11 : Int32 → Int32 → Int32 → Int32 → Int32 → Option Int32} {s : db_S} {v1 : Int32} {v2 : Int32} {v3 : Int32} {v4 : Int32} {v5 : Int32} {t0 : Int32} (zh11 : ∀ (v1 : Int32) (v2 : Int32) (v3 : Int32) (v4 : Int32) (v5 : Int32) , db_Rf X (d + 1) dbm_129 11 [(0, .ref 271), (1, .int v1), (2, .int v2), (3, .int v3), (4, .int v4), (5, .int v5)] [] s (db_yI s) (h11 v1 v2 v3 v4 v5)) : db_Rf X (d + 1) dbm_129 74 [(0, .ref 271), (1, .int v1), (2, .int v2), (3, .int v3), (4, .int v4), (5, .int v5)] [.int t0] s (db_yI s) (db_f129_b74 h11 s v1 v2 v3 v4 v5 t0) := by
  unfold db_f129_b74
  refine db_Rgo (pc' := 78) (lv' := [(7, .int t0), (0, .ref 271), (1, .int v1), (2, .int v2), (3, .int v3), (4, .int v4), (5, .int v5)]) (st' := [.int t0]) 2 rfl ?_
  refine db_Rif (pc' := 81) (tg := 99) (lv1 := [(7, .int t0), (0, .ref 271), (1, .int v1), (2, .int v2), (3, .int v3), (4, .int v4), (5, .int v5)]) rfl rfl rfl rfl ?_ ?_
  · refine db_Rn (lv1 := [(0, .ref 271), (1, .int v1), (2, .int v2), (3, .int v3), (4, .int v4), (5, .int v5)]) rfl rfl rfl ?_
    exact db_f129_b99_ok zh11
  refine db_Rgo (pc' := 84) (lv' := [(7, .int t0), (0, .ref 271), (1, .int v1), (2, .int v2), (3, .int v3), (4, .int v4), (5, .int v5)]) (st' := [.int v5, .int v3]) 2 rfl ?_
  refine db_RcyB (mr' := dbm_112) (as := [.int v3, .int v5]) (rest := []) (pc' := 87) (lv1 := [(7, .int t0), (0, .ref 271), (1, .int v1), (2, .int v2), (3, .int v3), (4, .int v4), (5, .int v5)]) rfl rfl rfl rfl rfl (db_f112_ok) fun q1 => ?_
  refine db_RifBe (pc' := 90) (tg := 99) (lv1 := [(7, .int t0), (0, .ref 271), (1, .int v1), (2, .int v2), (3, .int v3), (4, .int v4), (5, .int v5)]) rfl rfl rfl rfl ?_ ?_
  · refine db_Rn (lv1 := [(0, .ref 271), (1, .int v1), (2, .int v2), (3, .int v3), (4, .int v4), (5, .int v5)]) rfl rfl rfl ?_
    exact db_f129_b99_ok zh11
  refine db_Rgo (pc' := 99) (lv' := [(4, .int (v4 ||| ((1 : Int32) <<< (v5 &&& 31)))), (7, .int t0), (0, .ref 271), (1, .int v1), (2, .int v2), (3, .int v3), (5, .int v5)]) (st' := []) 6 rfl ?_
  refine db_Rn (lv1 := [(0, .ref 271), (1, .int v1), (2, .int v2), (3, .int v3), (4, .int (v4 ||| ((1 : Int32) <<< (v5 &&& 31)))), (5, .int v5)]) rfl rfl rfl ?_
  exact db_f129_b99_ok zh11
noncomputable def db_f129_b69 (h11 : Int32 → Int32 → Int32 → Int32 → Int32 → Option Int32) (s : db_S) (v1 : Int32) (v2 : Int32) (v3 : Int32) (v4 : Int32) (v5 : Int32) : Option Int32 :=
  (db_f129_b74 h11 s v1 v2 v3 v4 v5 (1 : Int32))
set_option maxRecDepth 100000 in
theorem db_f129_b69_ok {X : db_X} {d : Nat}  {h11 : Int32 → Int32 → Int32 → Int32 → Int32 → Option Int32} {s : db_S} {v1 : Int32} {v2 : Int32} {v3 : Int32} {v4 : Int32} {v5 : Int32} (zh11 : ∀ (v1 : Int32) (v2 : Int32) (v3 : Int32) (v4 : Int32) (v5 : Int32) , db_Rf X (d + 1) dbm_129 11 [(0, .ref 271), (1, .int v1), (2, .int v2), (3, .int v3), (4, .int v4), (5, .int v5)] [] s (db_yI s) (h11 v1 v2 v3 v4 v5)) : db_Rf X (d + 1) dbm_129 69 [(0, .ref 271), (1, .int v1), (2, .int v2), (3, .int v3), (4, .int v4), (5, .int v5)] [] s (db_yI s) (db_f129_b69 h11 s v1 v2 v3 v4 v5) := by
  unfold db_f129_b69
  refine db_Rgo (pc' := 74) (lv' := [(0, .ref 271), (1, .int v1), (2, .int v2), (3, .int v3), (4, .int v4), (5, .int v5)]) (st' := [.int (1 : Int32)]) 2 rfl ?_
  exact db_f129_b74_ok zh11
noncomputable def db_f129_b73 (h11 : Int32 → Int32 → Int32 → Int32 → Int32 → Option Int32) (s : db_S) (v1 : Int32) (v2 : Int32) (v3 : Int32) (v4 : Int32) (v5 : Int32) : Option Int32 :=
  (db_f129_b74 h11 s v1 v2 v3 v4 v5 (0 : Int32))
set_option maxRecDepth 100000 in
theorem db_f129_b73_ok {X : db_X} {d : Nat}  {h11 : Int32 → Int32 → Int32 → Int32 → Int32 → Option Int32} {s : db_S} {v1 : Int32} {v2 : Int32} {v3 : Int32} {v4 : Int32} {v5 : Int32} (zh11 : ∀ (v1 : Int32) (v2 : Int32) (v3 : Int32) (v4 : Int32) (v5 : Int32) , db_Rf X (d + 1) dbm_129 11 [(0, .ref 271), (1, .int v1), (2, .int v2), (3, .int v3), (4, .int v4), (5, .int v5)] [] s (db_yI s) (h11 v1 v2 v3 v4 v5)) : db_Rf X (d + 1) dbm_129 73 [(0, .ref 271), (1, .int v1), (2, .int v2), (3, .int v3), (4, .int v4), (5, .int v5)] [] s (db_yI s) (db_f129_b73 h11 s v1 v2 v3 v4 v5) := by
  unfold db_f129_b73
  refine db_Rgo (pc' := 74) (lv' := [(0, .ref 271), (1, .int v1), (2, .int v2), (3, .int v3), (4, .int v4), (5, .int v5)]) (st' := [.int (0 : Int32)]) 1 rfl ?_
  exact db_f129_b74_ok zh11
noncomputable def db_f129_b53 (h11 : Int32 → Int32 → Int32 → Int32 → Int32 → Option Int32) (s : db_S) (v1 : Int32) (v2 : Int32) (v3 : Int32) (v4 : Int32) (v5 : Int32) (a6 : Nat) : Option Int32 :=
  ((db_rI s a6 (5 : Int32)).bind fun x1 => (cond (db_cnd .eq x1 (-1 : Int32)) (db_f129_b69 h11 s v1 v2 v3 v4 v5) ((db_rI s a6 (5 : Int32)).bind fun x2 => (cond (db_cnd .ne x2 v2) (db_f129_b73 h11 s v1 v2 v3 v4 v5) (db_f129_b69 h11 s v1 v2 v3 v4 v5)))))
set_option maxRecDepth 100000 in
theorem db_f129_b53_ok {X : db_X} {d : Nat}  {h11 : Int32 → Int32 → Int32 → Int32 → Int32 → Option Int32} {s : db_S} {v1 : Int32} {v2 : Int32} {v3 : Int32} {v4 : Int32} {v5 : Int32} {a6 : Nat} (zh11 : ∀ (v1 : Int32) (v2 : Int32) (v3 : Int32) (v4 : Int32) (v5 : Int32) , db_Rf X (d + 1) dbm_129 11 [(0, .ref 271), (1, .int v1), (2, .int v2), (3, .int v3), (4, .int v4), (5, .int v5)] [] s (db_yI s) (h11 v1 v2 v3 v4 v5)) : db_Rf X (d + 1) dbm_129 53 [(0, .ref 271), (1, .int v1), (2, .int v2), (3, .int v3), (4, .int v4), (5, .int v5), (6, .ref (a6 + 4))] [] s (db_yI s) (db_f129_b53 h11 s v1 v2 v3 v4 v5 (a6 + 4)) := by
  unfold db_f129_b53
  refine db_Rgo (pc' := 56) (lv' := [(0, .ref 271), (1, .int v1), (2, .int v2), (3, .int v3), (4, .int v4), (5, .int v5), (6, .ref (a6 + 4))]) (st' := [.int (5 : Int32), .ref (a6 + 4)]) 2 rfl ?_
  refine db_RldI (pc' := 57) (lv1 := [(0, .ref 271), (1, .int v1), (2, .int v2), (3, .int v3), (4, .int v4), (5, .int v5), (6, .ref (a6 + 4))]) rfl rfl rfl fun x1 => ?_
  refine db_Rgo (pc' := 58) (lv' := [(0, .ref 271), (1, .int v1), (2, .int v2), (3, .int v3), (4, .int v4), (5, .int v5), (6, .ref (a6 + 4))]) (st' := [.int (-1 : Int32), .int x1]) 1 rfl ?_
  refine db_Ric (pc' := 61) (tg := 69) (lv1 := [(0, .ref 271), (1, .int v1), (2, .int v2), (3, .int v3), (4, .int v4), (5, .int v5), (6, .ref (a6 + 4))]) rfl rfl rfl rfl ?_ ?_
  · refine db_Rn (lv1 := [(0, .ref 271), (1, .int v1), (2, .int v2), (3, .int v3), (4, .int v4), (5, .int v5)]) rfl rfl rfl ?_
    exact db_f129_b69_ok zh11
  refine db_Rgo (pc' := 64) (lv' := [(0, .ref 271), (1, .int v1), (2, .int v2), (3, .int v3), (4, .int v4), (5, .int v5), (6, .ref (a6 + 4))]) (st' := [.int (5 : Int32), .ref (a6 + 4)]) 2 rfl ?_
  refine db_RldI (pc' := 65) (lv1 := [(0, .ref 271), (1, .int v1), (2, .int v2), (3, .int v3), (4, .int v4), (5, .int v5), (6, .ref (a6 + 4))]) rfl rfl rfl fun x2 => ?_
  refine db_Rgo (pc' := 66) (lv' := [(0, .ref 271), (1, .int v1), (2, .int v2), (3, .int v3), (4, .int v4), (5, .int v5), (6, .ref (a6 + 4))]) (st' := [.int v2, .int x2]) 1 rfl ?_
  refine db_Ric (pc' := 69) (tg := 73) (lv1 := [(0, .ref 271), (1, .int v1), (2, .int v2), (3, .int v3), (4, .int v4), (5, .int v5), (6, .ref (a6 + 4))]) rfl rfl rfl rfl ?_ ?_
  · refine db_Rn (lv1 := [(0, .ref 271), (1, .int v1), (2, .int v2), (3, .int v3), (4, .int v4), (5, .int v5)]) rfl rfl rfl ?_
    exact db_f129_b73_ok zh11
  refine db_Rn (lv1 := [(0, .ref 271), (1, .int v1), (2, .int v2), (3, .int v3), (4, .int v4), (5, .int v5)]) rfl rfl rfl ?_
  exact db_f129_b69_ok zh11
noncomputable def db_f129_b11 (s : db_S) : Nat → Int32 → Int32 → Int32 → Int32 → Int32 → Option Int32
  | 0, _, _, _, _, _ => none
  | n + 1, v1, v2, v3, v4, v5 =>
    ((db_rI s 21 (3 : Int32)).bind fun x1 => (cond (db_cnd .ge v5 x1) (some v4) ((db_rR 24 v5).bind fun y2 => ((db_rI s y2 (4 : Int32)).bind fun x3 => (cond (db_cnd .eq x3 (-1 : Int32)) (db_f129_b53 (db_f129_b11 s n) s v1 v2 v3 v4 v5 y2) ((db_rI s y2 (4 : Int32)).bind fun x4 => (cond (db_cnd .ne x4 v1) (db_f129_b73 (db_f129_b11 s n) s v1 v2 v3 v4 v5) (db_f129_b53 (db_f129_b11 s n) s v1 v2 v3 v4 v5 y2))))))))
set_option maxRecDepth 100000 in
theorem db_f129_b11_ok {X : db_X} {d : Nat} {s : db_S} (n : Nat) : ∀ (v1 : Int32) (v2 : Int32) (v3 : Int32) (v4 : Int32) (v5 : Int32), db_Rf X (d + 1) dbm_129 11 [(0, .ref 271), (1, .int v1), (2, .int v2), (3, .int v3), (4, .int v4), (5, .int v5)] [] s (db_yI s) (db_f129_b11 s n v1 v2 v3 v4 v5) := by
  induction n with
  | zero => intros; exact db_Rnone
  | succ n ih =>
    intro v1 v2 v3 v4 v5
    unfold db_f129_b11
    refine db_Rgo (pc' := 21) (lv' := [(0, .ref 271), (1, .int v1), (2, .int v2), (3, .int v3), (4, .int v4), (5, .int v5)]) (st' := [.int (3 : Int32), .ref 21, .int v5]) 5 rfl ?_
    refine db_RldI (pc' := 22) (lv1 := [(0, .ref 271), (1, .int v1), (2, .int v2), (3, .int v3), (4, .int v4), (5, .int v5)]) rfl rfl rfl fun x1 => ?_
    refine db_Ric (pc' := 25) (tg := 105) (lv1 := [(0, .ref 271), (1, .int v1), (2, .int v2), (3, .int v3), (4, .int v4), (5, .int v5)]) rfl rfl rfl rfl ?_ ?_
    · refine db_Rgo (pc' := 107) (lv' := [(4, .int v4)]) (st' := [.int v4]) 1 rfl ?_
      exact db_Rret (lv1 := [(4, .int v4)]) rfl rfl rfl rfl
    refine db_Rgo (pc' := 34) (lv' := [(0, .ref 271), (1, .int v1), (2, .int v2), (3, .int v3), (4, .int v4), (5, .int v5)]) (st' := [.int v5, .ref 24]) 4 rfl ?_
    refine db_RldR (pc' := 35) (lv1 := [(0, .ref 271), (1, .int v1), (2, .int v2), (3, .int v3), (4, .int v4), (5, .int v5)]) rfl rfl rfl fun y2 => ?_
    refine db_Rgo (pc' := 40) (lv' := [(6, .ref (y2 + 4)), (0, .ref 271), (1, .int v1), (2, .int v2), (3, .int v3), (4, .int v4), (5, .int v5)]) (st' := [.int (4 : Int32), .ref (y2 + 4)]) 3 rfl ?_
    refine db_RldI (pc' := 41) (lv1 := [(6, .ref (y2 + 4)), (0, .ref 271), (1, .int v1), (2, .int v2), (3, .int v3), (4, .int v4), (5, .int v5)]) rfl rfl rfl fun x3 => ?_
    refine db_Rgo (pc' := 42) (lv' := [(6, .ref (y2 + 4)), (0, .ref 271), (1, .int v1), (2, .int v2), (3, .int v3), (4, .int v4), (5, .int v5)]) (st' := [.int (-1 : Int32), .int x3]) 1 rfl ?_
    refine db_Ric (pc' := 45) (tg := 53) (lv1 := [(6, .ref (y2 + 4)), (0, .ref 271), (1, .int v1), (2, .int v2), (3, .int v3), (4, .int v4), (5, .int v5)]) rfl rfl rfl rfl ?_ ?_
    · refine db_Rn (lv1 := [(0, .ref 271), (1, .int v1), (2, .int v2), (3, .int v3), (4, .int v4), (5, .int v5), (6, .ref (y2 + 4))]) rfl rfl rfl ?_
      exact db_f129_b53_ok ih
    refine db_Rgo (pc' := 48) (lv' := [(6, .ref (y2 + 4)), (0, .ref 271), (1, .int v1), (2, .int v2), (3, .int v3), (4, .int v4), (5, .int v5)]) (st' := [.int (4 : Int32), .ref (y2 + 4)]) 2 rfl ?_
    refine db_RldI (pc' := 49) (lv1 := [(6, .ref (y2 + 4)), (0, .ref 271), (1, .int v1), (2, .int v2), (3, .int v3), (4, .int v4), (5, .int v5)]) rfl rfl rfl fun x4 => ?_
    refine db_Rgo (pc' := 50) (lv' := [(6, .ref (y2 + 4)), (0, .ref 271), (1, .int v1), (2, .int v2), (3, .int v3), (4, .int v4), (5, .int v5)]) (st' := [.int v1, .int x4]) 1 rfl ?_
    refine db_Ric (pc' := 53) (tg := 73) (lv1 := [(6, .ref (y2 + 4)), (0, .ref 271), (1, .int v1), (2, .int v2), (3, .int v3), (4, .int v4), (5, .int v5)]) rfl rfl rfl rfl ?_ ?_
    · refine db_Rn (lv1 := [(0, .ref 271), (1, .int v1), (2, .int v2), (3, .int v3), (4, .int v4), (5, .int v5)]) rfl rfl rfl ?_
      exact db_f129_b73_ok ih
    refine db_Rn (lv1 := [(0, .ref 271), (1, .int v1), (2, .int v2), (3, .int v3), (4, .int v4), (5, .int v5), (6, .ref (y2 + 4))]) rfl rfl rfl ?_
    exact db_f129_b53_ok ih
/-- DreamBook$Reader.openFor(II)I -/
noncomputable def db_f129 (s : db_S) (v1 : Int32) (v2 : Int32) : Option Int32 :=
  ((db_f101 s).bind fun q1 => (db_f129_b11 s db_FU v1 v2 q1 (0 : Int32) (0 : Int32)))
set_option maxRecDepth 100000 in
theorem db_f129_ok {X : db_X} {d : Nat} {s : db_S} {v1 : Int32} {v2 : Int32} : db_Rf X (d + 1) dbm_129 0 (lv_args 0 [.ref 271, .int v1, .int v2]) [] s (db_yI s) (db_f129 s v1 v2) := by
  show db_Rf _ _ _ 0 [(0, .ref 271), (1, .int v1), (2, .int v2)] [] _ _ _
  unfold db_f129
  refine db_Rgo (pc' := 1) (lv' := [(0, .ref 271), (1, .int v1), (2, .int v2)]) (st' := [.ref 271]) 1 rfl ?_
  refine db_RcyI (mr' := dbm_101) (as := [.ref 271]) (rest := []) (pc' := 4) (lv1 := [(0, .ref 271), (1, .int v1), (2, .int v2)]) rfl rfl rfl rfl rfl (db_f101_ok) fun q1 => ?_
  refine db_Rgo (pc' := 11) (lv' := [(5, .int (0 : Int32)), (4, .int (0 : Int32)), (3, .int q1), (0, .ref 271), (1, .int v1), (2, .int v2)]) (st' := []) 5 rfl ?_
  refine db_Rn (lv1 := [(0, .ref 271), (1, .int v1), (2, .int v2), (3, .int q1), (4, .int (0 : Int32)), (5, .int (0 : Int32))]) rfl rfl rfl ?_
  exact db_f129_b11_ok db_FU _ _ _ _ _
noncomputable def db_f131_b118 (h14 : Int32 → Int32 → Int32 → Int32 → Nat → Int32 → Option Int32) (s : db_S) (v1 : Int32) (v2 : Int32) (v3 : Int32) (v4 : Int32) (a5 : Nat) (v6 : Int32) : Option Int32 :=
  (h14 v1 v2 v3 v4 a5 (v6 + (1 : Int32)))
set_option maxRecDepth 100000 in
theorem db_f131_b118_ok {X : db_X} {d : Nat}  {h14 : Int32 → Int32 → Int32 → Int32 → Nat → Int32 → Option Int32} {s : db_S} {v1 : Int32} {v2 : Int32} {v3 : Int32} {v4 : Int32} {a5 : Nat} {v6 : Int32} (zh14 : ∀ (v1 : Int32) (v2 : Int32) (v3 : Int32) (v4 : Int32) (a5 : Nat) (v6 : Int32) , db_Rf X (d + 0) dbm_131 14 [(0, .ref 271), (1, .int v1), (2, .int v2), (3, .int v3), (4, .int v4), (5, .ref (a5 + 4)), (6, .int v6)] [] s (db_yI s) (h14 v1 v2 v3 v4 (a5 + 4) v6)) : db_Rf X (d + 0) dbm_131 118 [(0, .ref 271), (1, .int v1), (2, .int v2), (3, .int v3), (4, .int v4), (5, .ref (a5 + 4)), (6, .int v6)] [] s (db_yI s) (db_f131_b118 h14 s v1 v2 v3 v4 (a5 + 4) v6) := by
  unfold db_f131_b118
  refine db_Rgo (pc' := 14) (lv' := [(6, .int (v6 + (1 : Int32))), (0, .ref 271), (1, .int v1), (2, .int v2), (3, .int v3), (4, .int v4), (5, .ref (a5 + 4))]) (st' := []) 2 rfl ?_
  refine db_Rn (lv1 := [(0, .ref 271), (1, .int v1), (2, .int v2), (3, .int v3), (4, .int v4), (5, .ref (a5 + 4)), (6, .int (v6 + (1 : Int32)))]) rfl rfl rfl ?_
  exact zh14 _ _ _ _ _ _
noncomputable def db_f131_b79 (h14 : Int32 → Int32 → Int32 → Int32 → Nat → Int32 → Option Int32) (s : db_S) (v1 : Int32) (v2 : Int32) (v3 : Int32) (v4 : Int32) (a5 : Nat) (v6 : Int32) (v7 : Int32) : Option Int32 :=
  ((db_rR 24 v7).bind fun y1 => ((db_rI s y1 (3 : Int32)).bind fun x2 => (cond (db_cnd .eq x2 (-1 : Int32)) (some v7) ((db_rR 24 v7).bind fun y3 => ((db_rI s y3 (3 : Int32)).bind fun x4 => (cond (db_cnd .ne ((v4 >>> (x4 &&& 31)) &&& (1 : Int32)) 0) (db_f131_b118 h14 s v1 v2 v3 v4 a5 v6) (some v7)))))))
set_option maxRecDepth 100000 in
theorem db_f131_b79_ok {X : db_X} {d : Nat}  {h14 : Int32 → Int32 → Int32 → Int32 → Nat → Int32 → Option Int32} {s : db_S} {v1 : Int32} {v2 : Int32} {v3 : Int32} {v4 : Int32} {a5 : Nat} {v6 : Int32} {v7 : Int32} (zh14 : ∀ (v1 : Int32) (v2 : Int32) (v3 : Int32) (v4 : Int32) (a5 : Nat) (v6 : Int32) , db_Rf X (d + 0) dbm_131 14 [(0, .ref 271), (1, .int v1), (2, .int v2), (3, .int v3), (4, .int v4), (5, .ref (a5 + 4)), (6, .int v6)] [] s (db_yI s) (h14 v1 v2 v3 v4 (a5 + 4) v6)) : db_Rf X (d + 0) dbm_131 79 [(0, .ref 271), (1, .int v1), (2, .int v2), (3, .int v3), (4, .int v4), (5, .ref (a5 + 4)), (6, .int v6), (7, .int v7)] [] s (db_yI s) (db_f131_b79 h14 s v1 v2 v3 v4 (a5 + 4) v6 v7) := by
  unfold db_f131_b79
  refine db_Rgo (pc' := 88) (lv' := [(0, .ref 271), (1, .int v1), (2, .int v2), (3, .int v3), (4, .int v4), (5, .ref (a5 + 4)), (6, .int v6), (7, .int v7)]) (st' := [.int v7, .ref 24]) 4 rfl ?_
  refine db_RldR (pc' := 89) (lv1 := [(0, .ref 271), (1, .int v1), (2, .int v2), (3, .int v3), (4, .int v4), (5, .ref (a5 + 4)), (6, .int v6), (7, .int v7)]) rfl rfl rfl fun y1 => ?_
  refine db_Rgo (pc' := 90) (lv' := [(0, .ref 271), (1, .int v1), (2, .int v2), (3, .int v3), (4, .int v4), (5, .ref (a5 + 4)), (6, .int v6), (7, .int v7)]) (st' := [.int (3 : Int32), .ref (y1 + 4)]) 1 rfl ?_
  refine db_RldI (pc' := 91) (lv1 := [(0, .ref 271), (1, .int v1), (2, .int v2), (3, .int v3), (4, .int v4), (5, .ref (a5 + 4)), (6, .int v6), (7, .int v7)]) rfl rfl rfl fun x2 => ?_
  refine db_Rgo (pc' := 92) (lv' := [(0, .ref 271), (1, .int v1), (2, .int v2), (3, .int v3), (4, .int v4), (5, .ref (a5 + 4)), (6, .int v6), (7, .int v7)]) (st' := [.int (-1 : Int32), .int x2]) 1 rfl ?_
  refine db_Ric (pc' := 95) (tg := 115) (lv1 := [(0, .ref 271), (1, .int v1), (2, .int v2), (3, .int v3), (4, .int v4), (5, .ref (a5 + 4)), (6, .int v6), (7, .int v7)]) rfl rfl rfl rfl ?_ ?_
  · refine db_Rgo (pc' := 117) (lv' := [(7, .int v7)]) (st' := [.int v7]) 1 rfl ?_
    exact db_Rret (lv1 := [(7, .int v7)]) rfl rfl rfl rfl
  refine db_Rgo (pc' := 106) (lv' := [(0, .ref 271), (1, .int v1), (2, .int v2), (3, .int v3), (4, .int v4), (5, .ref (a5 + 4)), (6, .int v6), (7, .int v7)]) (st' := [.int v7, .ref 24, .int v4]) 5 rfl ?_
  refine db_RldR (pc' := 107) (lv1 := [(0, .ref 271), (1, .int v1), (2, .int v2), (3, .int v3), (4, .int v4), (5, .ref (a5 + 4)), (6, .int v6), (7, .int v7)]) rfl rfl rfl fun y3 => ?_
  refine db_Rgo (pc' := 108) (lv' := [(0, .ref 271), (1, .int v1), (2, .int v2), (3, .int v3), (4, .int v4), (5, .ref (a5 + 4)), (6, .int v6), (7, .int v7)]) (st' := [.int (3 : Int32), .ref (y3 + 4), .int v4]) 1 rfl ?_
  refine db_RldI (pc' := 109) (lv1 := [(0, .ref 271), (1, .int v1), (2, .int v2), (3, .int v3), (4, .int v4), (5, .ref (a5 + 4)), (6, .int v6), (7, .int v7)]) rfl rfl rfl fun x4 => ?_
  refine db_Rgo (pc' := 112) (lv' := [(0, .ref 271), (1, .int v1), (2, .int v2), (3, .int v3), (4, .int v4), (5, .ref (a5 + 4)), (6, .int v6), (7, .int v7)]) (st' := [.int ((v4 >>> (x4 &&& 31)) &&& (1 : Int32))]) 3 rfl ?_
  refine db_Rif (pc' := 115) (tg := 118) (lv1 := [(0, .ref 271), (1, .int v1), (2, .int v2), (3, .int v3), (4, .int v4), (5, .ref (a5 + 4)), (6, .int v6), (7, .int v7)]) rfl rfl rfl rfl ?_ ?_
  · refine db_Rn (lv1 := [(0, .ref 271), (1, .int v1), (2, .int v2), (3, .int v3), (4, .int v4), (5, .ref (a5 + 4)), (6, .int v6)]) rfl rfl rfl ?_
    exact db_f131_b118_ok zh14
  refine db_Rgo (pc' := 117) (lv' := [(7, .int v7)]) (st' := [.int v7]) 1 rfl ?_
  exact db_Rret (lv1 := [(7, .int v7)]) rfl rfl rfl rfl
noncomputable def db_f131_b14 (s : db_S) : Nat → Int32 → Int32 → Int32 → Int32 → Nat → Int32 → Option Int32
  | 0, _, _, _, _, _, _ => none
  | n + 1, v1, v2, v3, v4, a5, v6 =>
    ((db_rI s 75 v1).bind fun x1 => (cond (db_cnd .ge v6 x1) (some (-1 : Int32)) ((db_rI s a5 v6).bind fun x2 => (cond (db_cnd .eq ((v2 >>> (x2 &&& 31)) &&& (1 : Int32)) 0) (db_f131_b118 (db_f131_b14 s n) s v1 v2 v3 v4 a5 v6) ((db_rR 24 x2).bind fun y3 => ((db_rI s y3 (2 : Int32)).bind fun x4 => (cond (db_cnd .eq x4 (-1 : Int32)) (db_f131_b79 (db_f131_b14 s n) s v1 v2 v3 v4 a5 v6 x2) ((db_rR 24 x2).bind fun y5 => ((db_rI s y5 (2 : Int32)).bind fun x6 => (cond (db_cnd .eq ((v3 >>> (x6 &&& 31)) &&& (1 : Int32)) 0) (db_f131_b118 (db_f131_b14 s n) s v1 v2 v3 v4 a5 v6) (db_f131_b79 (db_f131_b14 s n) s v1 v2 v3 v4 a5 v6 x2)))))))))))
set_option maxRecDepth 100000 in
theorem db_f131_b14_ok {X : db_X} {d : Nat} {s : db_S} (n : Nat) : ∀ (v1 : Int32) (v2 : Int32) (v3 : Int32) (v4 : Int32) (a5 : Nat) (v6 : Int32), db_Rf X (d + 0) dbm_131 14 [(0, .ref 271), (1, .int v1), (2, .int v2), (3, .int v3), (4, .int v4), (5, .ref (a5 + 4)), (6, .int v6)] [] s (db_yI s) (db_f131_b14 s n v1 v2 v3 v4 (a5 + 4) v6) := by
  induction n with
  | zero => intros; exact db_Rnone
  | succ n ih =>
    intro v1 v2 v3 v4 a5 v6
    unfold db_f131_b14
    refine db_Rgo (pc' := 24) (lv' := [(0, .ref 271), (1, .int v1), (2, .int v2), (3, .int v3), (4, .int v4), (5, .ref (a5 + 4)), (6, .int v6)]) (st' := [.int v1, .ref 75, .int v6]) 5 rfl ?_
    refine db_RldI (pc' := 25) (lv1 := [(0, .ref 271), (1, .int v1), (2, .int v2), (3, .int v3), (4, .int v4), (5, .ref (a5 + 4)), (6, .int v6)]) rfl rfl rfl fun x1 => ?_
    refine db_Ric (pc' := 28) (tg := 124) (lv1 := [(0, .ref 271), (1, .int v1), (2, .int v2), (3, .int v3), (4, .int v4), (5, .ref (a5 + 4)), (6, .int v6)]) rfl rfl rfl rfl ?_ ?_
    · refine db_Rgo (pc' := 125) (lv' := []) (st' := [.int (-1 : Int32)]) 1 rfl ?_
      exact db_Rret (lv1 := []) rfl rfl rfl rfl
    refine db_Rgo (pc' := 32) (lv' := [(0, .ref 271), (1, .int v1), (2, .int v2), (3, .int v3), (4, .int v4), (5, .ref (a5 + 4)), (6, .int v6)]) (st' := [.int v6, .ref (a5 + 4)]) 2 rfl ?_
    refine db_RldI (pc' := 33) (lv1 := [(0, .ref 271), (1, .int v1), (2, .int v2), (3, .int v3), (4, .int v4), (5, .ref (a5 + 4)), (6, .int v6)]) rfl rfl rfl fun x2 => ?_
    refine db_Rgo (pc' := 41) (lv' := [(7, .int x2), (0, .ref 271), (1, .int v1), (2, .int v2), (3, .int v3), (4, .int v4), (5, .ref (a5 + 4)), (6, .int v6)]) (st' := [.int ((v2 >>> (x2 &&& 31)) &&& (1 : Int32))]) 6 rfl ?_
    refine db_Rif (pc' := 44) (tg := 118) (lv1 := [(7, .int x2), (0, .ref 271), (1, .int v1), (2, .int v2), (3, .int v3), (4, .int v4), (5, .ref (a5 + 4)), (6, .int v6)]) rfl rfl rfl rfl ?_ ?_
    · refine db_Rn (lv1 := [(0, .ref 271), (1, .int v1), (2, .int v2), (3, .int v3), (4, .int v4), (5, .ref (a5 + 4)), (6, .int v6)]) rfl rfl rfl ?_
      exact db_f131_b118_ok ih
    refine db_Rgo (pc' := 53) (lv' := [(7, .int x2), (0, .ref 271), (1, .int v1), (2, .int v2), (3, .int v3), (4, .int v4), (5, .ref (a5 + 4)), (6, .int v6)]) (st' := [.int x2, .ref 24]) 4 rfl ?_
    refine db_RldR (pc' := 54) (lv1 := [(7, .int x2), (0, .ref 271), (1, .int v1), (2, .int v2), (3, .int v3), (4, .int v4), (5, .ref (a5 + 4)), (6, .int v6)]) rfl rfl rfl fun y3 => ?_
    refine db_Rgo (pc' := 55) (lv' := [(7, .int x2), (0, .ref 271), (1, .int v1), (2, .int v2), (3, .int v3), (4, .int v4), (5, .ref (a5 + 4)), (6, .int v6)]) (st' := [.int (2 : Int32), .ref (y3 + 4)]) 1 rfl ?_
    refine db_RldI (pc' := 56) (lv1 := [(7, .int x2), (0, .ref 271), (1, .int v1), (2, .int v2), (3, .int v3), (4, .int v4), (5, .ref (a5 + 4)), (6, .int v6)]) rfl rfl rfl fun x4 => ?_
    refine db_Rgo (pc' := 57) (lv' := [(7, .int x2), (0, .ref 271), (1, .int v1), (2, .int v2), (3, .int v3), (4, .int v4), (5, .ref (a5 + 4)), (6, .int v6)]) (st' := [.int (-1 : Int32), .int x4]) 1 rfl ?_
    refine db_Ric (pc' := 60) (tg := 79) (lv1 := [(7, .int x2), (0, .ref 271), (1, .int v1), (2, .int v2), (3, .int v3), (4, .int v4), (5, .ref (a5 + 4)), (6, .int v6)]) rfl rfl rfl rfl ?_ ?_
    · refine db_Rn (lv1 := [(0, .ref 271), (1, .int v1), (2, .int v2), (3, .int v3), (4, .int v4), (5, .ref (a5 + 4)), (6, .int v6), (7, .int x2)]) rfl rfl rfl ?_
      exact db_f131_b79_ok ih
    refine db_Rgo (pc' := 70) (lv' := [(7, .int x2), (0, .ref 271), (1, .int v1), (2, .int v2), (3, .int v3), (4, .int v4), (5, .ref (a5 + 4)), (6, .int v6)]) (st' := [.int x2, .ref 24, .int v3]) 5 rfl ?_
    refine db_RldR (pc' := 71) (lv1 := [(7, .int x2), (0, .ref 271), (1, .int v1), (2, .int v2), (3, .int v3), (4, .int v4), (5, .ref (a5 + 4)), (6, .int v6)]) rfl rfl rfl fun y5 => ?_
    refine db_Rgo (pc' := 72) (lv' := [(7, .int x2), (0, .ref 271), (1, .int v1), (2, .int v2), (3, .int v3), (4, .int v4), (5, .ref (a5 + 4)), (6, .int v6)]) (st' := [.int (2 : Int32), .ref (y5 + 4), .int v3]) 1 rfl ?_
    refine db_RldI (pc' := 73) (lv1 := [(7, .int x2), (0, .ref 271), (1, .int v1), (2, .int v2), (3, .int v3), (4, .int v4), (5, .ref (a5 + 4)), (6, .int v6)]) rfl rfl rfl fun x6 => ?_
    refine db_Rgo (pc' := 76) (lv' := [(7, .int x2), (0, .ref 271), (1, .int v1), (2, .int v2), (3, .int v3), (4, .int v4), (5, .ref (a5 + 4)), (6, .int v6)]) (st' := [.int ((v3 >>> (x6 &&& 31)) &&& (1 : Int32))]) 3 rfl ?_
    refine db_Rif (pc' := 79) (tg := 118) (lv1 := [(7, .int x2), (0, .ref 271), (1, .int v1), (2, .int v2), (3, .int v3), (4, .int v4), (5, .ref (a5 + 4)), (6, .int v6)]) rfl rfl rfl rfl ?_ ?_
    · refine db_Rn (lv1 := [(0, .ref 271), (1, .int v1), (2, .int v2), (3, .int v3), (4, .int v4), (5, .ref (a5 + 4)), (6, .int v6)]) rfl rfl rfl ?_
      exact db_f131_b118_ok ih
    refine db_Rn (lv1 := [(0, .ref 271), (1, .int v1), (2, .int v2), (3, .int v3), (4, .int v4), (5, .ref (a5 + 4)), (6, .int v6), (7, .int x2)]) rfl rfl rfl ?_
    exact db_f131_b79_ok ih
/-- DreamBook$Reader.firstFit(IIII)I -/
noncomputable def db_f131 (s : db_S) (v1 : Int32) (v2 : Int32) (v3 : Int32) (v4 : Int32) : Option Int32 :=
  ((db_rR 64 v1).bind fun y1 => (db_f131_b14 s db_FU v1 v2 v3 v4 y1 (0 : Int32)))
set_option maxRecDepth 100000 in
theorem db_f131_ok {X : db_X} {d : Nat} {s : db_S} {v1 : Int32} {v2 : Int32} {v3 : Int32} {v4 : Int32} : db_Rf X (d + 0) dbm_131 0 (lv_args 0 [.ref 271, .int v1, .int v2, .int v3, .int v4]) [] s (db_yI s) (db_f131 s v1 v2 v3 v4) := by
  show db_Rf _ _ _ 0 [(0, .ref 271), (1, .int v1), (2, .int v2), (3, .int v3), (4, .int v4)] [] _ _ _
  unfold db_f131
  refine db_Rgo (pc' := 8) (lv' := [(0, .ref 271), (1, .int v1), (2, .int v2), (3, .int v3), (4, .int v4)]) (st' := [.int v1, .ref 64]) 4 rfl ?_
  refine db_RldR (pc' := 9) (lv1 := [(0, .ref 271), (1, .int v1), (2, .int v2), (3, .int v3), (4, .int v4)]) rfl rfl rfl fun y1 => ?_
  refine db_Rgo (pc' := 14) (lv' := [(6, .int (0 : Int32)), (5, .ref (y1 + 4)), (0, .ref 271), (1, .int v1), (2, .int v2), (3, .int v3), (4, .int v4)]) (st' := []) 3 rfl ?_
  refine db_Rn (lv1 := [(0, .ref 271), (1, .int v1), (2, .int v2), (3, .int v3), (4, .int v4), (5, .ref (y1 + 4)), (6, .int (0 : Int32))]) rfl rfl rfl ?_
  exact db_f131_b14_ok db_FU _ _ _ _ _ _
noncomputable def db_f130_b128 (h35 : db_S → Nat → Int32 → Int32 → Int32 → Int32 → Int32 → Option (Int32 × db_S)) (s : db_S) (a1 : Nat) (v2 : Int32) (v3 : Int32) (v4 : Int32) (v5 : Int32) (v6 : Int32) : Option (Int32 × db_S) :=
  (h35 s a1 v2 v3 v4 v5 (v6 + (1 : Int32)))
set_option maxRecDepth 100000 in
theorem db_f130_b128_ok {X : db_X} {d : Nat}  {h35 : db_S → Nat → Int32 → Int32 → Int32 → Int32 → Int32 → Option (Int32 × db_S)} {s : db_S} {a1 : Nat} {v2 : Int32} {v3 : Int32} {v4 : Int32} {v5 : Int32} {v6 : Int32} (zh35 : ∀ (s' : db_S) (a1 : Nat) (v2 : Int32) (v3 : Int32) (v4 : Int32) (v5 : Int32) (v6 : Int32) , db_Rf X (d + 1) dbm_130 35 [(0, .ref 271), (1, .ref (a1 + 4)), (2, .int v2), (3, .int v3), (4, .int v4), (5, .int v5), (6, .int v6)] [] s' db_zI (h35 s' (a1 + 4) v2 v3 v4 v5 v6)) : db_Rf X (d + 1) dbm_130 128 [(0, .ref 271), (1, .ref (a1 + 4)), (2, .int v2), (3, .int v3), (4, .int v4), (5, .int v5), (6, .int v6)] [] s db_zI (db_f130_b128 h35 s (a1 + 4) v2 v3 v4 v5 v6) := by
  unfold db_f130_b128
  refine db_Rgo (pc' := 35) (lv' := [(6, .int (v6 + (1 : Int32))), (0, .ref 271), (1, .ref (a1 + 4)), (2, .int v2), (3, .int v3), (4, .int v4), (5, .int v5)]) (st' := []) 2 rfl ?_
  refine db_Rn (lv1 := [(0, .ref 271), (1, .ref (a1 + 4)), (2, .int v2), (3, .int v3), (4, .int v4), (5, .int v5), (6, .int (v6 + (1 : Int32)))]) rfl rfl rfl ?_
  exact zh35 _ _ _ _ _ _ _
noncomputable def db_f130_b78 (h35 : db_S → Nat → Int32 → Int32 → Int32 → Int32 → Int32 → Option (Int32 × db_S)) (s : db_S) (a1 : Nat) (v2 : Int32) (v3 : Int32) (v4 : Int32) (v5 : Int32) (v6 : Int32) (t0 : Int32) (t1 : Int32) : Option (Int32 × db_S) :=
  ((db_rI s a1 v6).bind fun x1 => ((db_f131 s x1 v3 (t0 ||| t1) v4).bind fun q2 => ((db_wI s 273 v6 q2).bind fun s4 => ((db_rI s4 273 v6).bind fun x5 => (cond (db_cnd .eq x5 (-1 : Int32)) (db_f130_b128 h35 s4 a1 v2 v3 v4 v5 v6) ((db_rI s4 273 v6).bind fun x6 => ((db_f104 s4 x6).bind fun q7 => (db_f130_b128 h35 s4 a1 v2 v3 v4 (v5 + q7) v6))))))))
set_option maxRecDepth 100000 in
theorem db_f130_b78_ok {X : db_X} {d : Nat}  {h35 : db_S → Nat → Int32 → Int32 → Int32 → Int32 → Int32 → Option (Int32 × db_S)} {s : db_S} {a1 : Nat} {v2 : Int32} {v3 : Int32} {v4 : Int32} {v5 : Int32} {v6 : Int32} {t0 : Int32} {t1 : Int32} (zh35 : ∀ (s' : db_S) (a1 : Nat) (v2 : Int32) (v3 : Int32) (v4 : Int32) (v5 : Int32) (v6 : Int32) , db_Rf X (d + 1) dbm_130 35 [(0, .ref 271), (1, .ref (a1 + 4)), (2, .int v2), (3, .int v3), (4, .int v4), (5, .int v5), (6, .int v6)] [] s' db_zI (h35 s' (a1 + 4) v2 v3 v4 v5 v6)) : db_Rf X (d + 1) dbm_130 78 [(0, .ref 271), (1, .ref (a1 + 4)), (2, .int v2), (3, .int v3), (4, .int v4), (5, .int v5), (6, .int v6)] [.int t1, .int t0] s db_zI (db_f130_b78 h35 s (a1 + 4) v2 v3 v4 v5 v6 t0 t1) := by
  unfold db_f130_b78
  refine db_Rgo (pc' := 91) (lv' := [(7, .int (t0 ||| t1)), (0, .ref 271), (1, .ref (a1 + 4)), (2, .int v2), (3, .int v3), (4, .int v4), (5, .int v5), (6, .int v6)]) (st' := [.int v6, .ref (a1 + 4), .ref 271, .int v6, .ref 273]) 8 rfl ?_
  refine db_RldI (pc' := 92) (lv1 := [(7, .int (t0 ||| t1)), (0, .ref 271), (1, .ref (a1 + 4)), (2, .int v2), (3, .int v3), (4, .int v4), (5, .int v5), (6, .int v6)]) rfl rfl rfl fun x1 => ?_
  refine db_Rgo (pc' := 97) (lv' := [(7, .int (t0 ||| t1)), (0, .ref 271), (1, .ref (a1 + 4)), (2, .int v2), (3, .int v3), (4, .int v4), (5, .int v5), (6, .int v6)]) (st' := [.int v4, .int (t0 ||| t1), .int v3, .int x1, .ref 271, .int v6, .ref 273]) 3 rfl ?_
  refine db_RcyI (mr' := dbm_131) (as := [.ref 271, .int x1, .int v3, .int (t0 ||| t1), .int v4]) (rest := [.int v6, .ref 273]) (pc' := 100) (lv1 := [(7, .int (t0 ||| t1)), (0, .ref 271), (1, .ref (a1 + 4)), (2, .int v2), (3, .int v3), (4, .int v4), (5, .int v5), (6, .int v6)]) rfl rfl rfl rfl rfl (db_f131_ok) fun q2 => ?_
  refine db_RstI (pc' := 101) (lv1 := [(7, .int (t0 ||| t1)), (0, .ref 271), (1, .ref (a1 + 4)), (2, .int v2), (3, .int v3), (4, .int v4), (5, .int v5), (6, .int v6)]) rfl rfl rfl fun s4 => ?_
  refine db_Rgo (pc' := 107) (lv' := [(7, .int (t0 ||| t1)), (0, .ref 271), (1, .ref (a1 + 4)), (2, .int v2), (3, .int v3), (4, .int v4), (5, .int v5), (6, .int v6)]) (st' := [.int v6, .ref 273]) 3 rfl ?_
  refine db_RldI (pc' := 108) (lv1 := [(7, .int (t0 ||| t1)), (0, .ref 271), (1, .ref (a1 + 4)), (2, .int v2), (3, .int v3), (4, .int v4), (5, .int v5), (6, .int v6)]) rfl rfl rfl fun x5 => ?_
  refine db_Rgo (pc' := 109) (lv' := [(7, .int (t0 ||| t1)), (0, .ref 271), (1, .ref (a1 + 4)), (2, .int v2), (3, .int v3), (4, .int v4), (5, .int v5), (6, .int v6)]) (st' := [.int (-1 : Int32), .int x5]) 1 rfl ?_
  refine db_Ric (pc' := 112) (tg := 128) (lv1 := [(7, .int (t0 ||| t1)), (0, .ref 271), (1, .ref (a1 + 4)), (2, .int v2), (3, .int v3), (4, .int v4), (5, .int v5), (6, .int v6)]) rfl rfl rfl rfl ?_ ?_
  · refine db_Rn (lv1 := [(0, .ref 271), (1, .ref (a1 + 4)), (2, .int v2), (3, .int v3), (4, .int v4), (5, .int v5), (6, .int v6)]) rfl rfl rfl ?_
    exact db_f130_b128_ok zh35
  refine db_Rgo (pc' := 121) (lv' := [(7, .int (t0 ||| t1)), (0, .ref 271), (1, .ref (a1 + 4)), (2, .int v2), (3, .int v3), (4, .int v4), (5, .int v5), (6, .int v6)]) (st' := [.int v6, .ref 273, .ref 271, .int v5]) 5 rfl ?_
  refine db_RldI (pc' := 122) (lv1 := [(7, .int (t0 ||| t1)), (0, .ref 271), (1, .ref (a1 + 4)), (2, .int v2), (3, .int v3), (4, .int v4), (5, .int v5), (6, .int v6)]) rfl rfl rfl fun x6 => ?_
  refine db_RcyI (mr' := dbm_104) (as := [.ref 271, .int x6]) (rest := [.int v5]) (pc' := 125) (lv1 := [(7, .int (t0 ||| t1)), (0, .ref 271), (1, .ref (a1 + 4)), (2, .int v2), (3, .int v3), (4, .int v4), (5, .int v5), (6, .int v6)]) rfl rfl rfl rfl rfl (db_f104_ok) fun q7 => ?_
  refine db_Rgo (pc' := 128) (lv' := [(5, .int (v5 + q7)), (7, .int (t0 ||| t1)), (0, .ref 271), (1, .ref (a1 + 4)), (2, .int v2), (3, .int v3), (4, .int v4), (6, .int v6)]) (st' := []) 2 rfl ?_
  refine db_Rn (lv1 := [(0, .ref 271), (1, .ref (a1 + 4)), (2, .int v2), (3, .int v3), (4, .int v4), (5, .int (v5 + q7)), (6, .int v6)]) rfl rfl rfl ?_
  exact db_f130_b128_ok zh35
noncomputable def db_f130_b58 (h35 : db_S → Nat → Int32 → Int32 → Int32 → Int32 → Int32 → Option (Int32 × db_S)) (s : db_S) (a1 : Nat) (v2 : Int32) (v3 : Int32) (v4 : Int32) (v5 : Int32) (v6 : Int32) (t0 : Int32) : Option (Int32 × db_S) :=
  (cond (db_cnd .ge (v6 + (1 : Int32)) v2) (db_f130_b78 h35 s a1 v2 v3 v4 v5 v6 t0 (0 : Int32)) ((db_rI s a1 (v6 + (1 : Int32))).bind fun x1 => (db_f130_b78 h35 s a1 v2 v3 v4 v5 v6 t0 ((1 : Int32) <<< (x1 &&& 31)))))
set_option maxRecDepth 100000 in
theorem db_f130_b58_ok {X : db_X} {d : Nat}  {h35 : db_S → Nat → Int32 → Int32 → Int32 → Int32 → Int32 → Option (Int32 × db_S)} {s : db_S} {a1 : Nat} {v2 : Int32} {v3 : Int32} {v4 : Int32} {v5 : Int32} {v6 : Int32} {t0 : Int32} (zh35 : ∀ (s' : db_S) (a1 : Nat) (v2 : Int32) (v3 : Int32) (v4 : Int32) (v5 : Int32) (v6 : Int32) , db_Rf X (d + 1) dbm_130 35 [(0, .ref 271), (1, .ref (a1 + 4)), (2, .int v2), (3, .int v3), (4, .int v4), (5, .int v5), (6, .int v6)] [] s' db_zI (h35 s' (a1 + 4) v2 v3 v4 v5 v6)) : db_Rf X (d + 1) dbm_130 58 [(0, .ref 271), (1, .ref (a1 + 4)), (2, .int v2), (3, .int v3), (4, .int v4), (5, .int v5), (6, .int v6)] [.int t0] s db_zI (db_f130_b58 h35 s (a1 + 4) v2 v3 v4 v5 v6 t0) := by
  unfold db_f130_b58
  refine db_Rgo (pc' := 63) (lv' := [(0, .ref 271), (1, .ref (a1 + 4)), (2, .int v2), (3, .int v3), (4, .int v4), (5, .int v5), (6, .int v6)]) (st' := [.int v2, .int (v6 + (1 : Int32)), .int t0]) 4 rfl ?_
  refine db_Ric (pc' := 66) (tg := 77) (lv1 := [(0, .ref 271), (1, .ref (a1 + 4)), (2, .int v2), (3, .int v3), (4, .int v4), (5, .int v5), (6, .int v6)]) rfl rfl rfl rfl ?_ ?_
  · refine db_Rgo (pc' := 78) (lv' := [(0, .ref 271), (1, .ref (a1 + 4)), (2, .int v2), (3, .int v3), (4, .int v4), (5, .int v5), (6, .int v6)]) (st' := [.int (0 : Int32), .int t0]) 1 rfl ?_
    exact db_f130_b78_ok zh35
  refine db_Rgo (pc' := 72) (lv' := [(0, .ref 271), (1, .ref (a1 + 4)), (2, .int v2), (3, .int v3), (4, .int v4), (5, .int v5), (6, .int v6)]) (st' := [.int (v6 + (1 : Int32)), .ref (a1 + 4), .int (1 : Int32), .int t0]) 5 rfl ?_
  refine db_RldI (pc' := 73) (lv1 := [(0, .ref 271), (1, .ref (a1 + 4)), (2, .int v2), (3, .int v3), (4, .int v4), (5, .int v5), (6, .int v6)]) rfl rfl rfl fun x1 => ?_
  refine db_Rgo (pc' := 78) (lv' := [(0, .ref 271), (1, .ref (a1 + 4)), (2, .int v2), (3, .int v3), (4, .int v4), (5, .int v5), (6, .int v6)]) (st' := [.int ((1 : Int32) <<< (x1 &&& 31)), .int t0]) 2 rfl ?_
  exact db_f130_b78_ok zh35
noncomputable def db_f130_b35 : Nat → db_S → Nat → Int32 → Int32 → Int32 → Int32 → Int32 → Option (Int32 × db_S)
  | 0, _, _, _, _, _, _, _ => none
  | n + 1, s, a1, v2, v3, v4, v5, v6 =>
    (cond (db_cnd .ge v6 v2) (some (v5, s)) (cond (db_cnd .le v6 0) (db_f130_b58 (db_f130_b35 n) s a1 v2 v3 v4 v5 v6 (0 : Int32)) ((db_rI s a1 (v6 - (1 : Int32))).bind fun x1 => (db_f130_b58 (db_f130_b35 n) s a1 v2 v3 v4 v5 v6 ((1 : Int32) <<< (x1 &&& 31))))))
set_option maxRecDepth 100000 in
theorem db_f130_b35_ok {X : db_X} {d : Nat}  (n : Nat) : ∀ (s : db_S) (a1 : Nat) (v2 : Int32) (v3 : Int32) (v4 : Int32) (v5 : Int32) (v6 : Int32), db_Rf X (d + 1) dbm_130 35 [(0, .ref 271), (1, .ref (a1 + 4)), (2, .int v2), (3, .int v3), (4, .int v4), (5, .int v5), (6, .int v6)] [] s db_zI (db_f130_b35 n s (a1 + 4) v2 v3 v4 v5 v6) := by
  induction n with
  | zero => intros; exact db_Rnone
  | succ n ih =>
    intro s a1 v2 v3 v4 v5 v6
    unfold db_f130_b35
    refine db_Rgo (pc' := 38) (lv' := [(0, .ref 271), (1, .ref (a1 + 4)), (2, .int v2), (3, .int v3), (4, .int v4), (5, .int v5), (6, .int v6)]) (st' := [.int v2, .int v6]) 2 rfl ?_
    refine db_Ric (pc' := 41) (tg := 134) (lv1 := [(0, .ref 271), (1, .ref (a1 + 4)), (2, .int v2), (3, .int v3), (4, .int v4), (5, .int v5), (6, .int v6)]) rfl rfl rfl rfl ?_ ?_
    · refine db_Rgo (pc' := 136) (lv' := [(5, .int v5)]) (st' := [.int v5]) 1 rfl ?_
      exact db_Rret (lv1 := [(5, .int v5)]) rfl rfl rfl rfl
    refine db_Rgo (pc' := 43) (lv' := [(0, .ref 271), (1, .ref (a1 + 4)), (2, .int v2), (3, .int v3), (4, .int v4), (5, .int v5), (6, .int v6)]) (st' := [.int v6]) 1 rfl ?_
    refine db_Rif (pc' := 46) (tg := 57) (lv1 := [(0, .ref 271), (1, .ref (a1 + 4)), (2, .int v2), (3, .int v3), (4, .int v4), (5, .int v5), (6, .int v6)]) rfl rfl rfl rfl ?_ ?_
    · refine db_Rgo (pc' := 58) (lv' := [(0, .ref 271), (1, .ref (a1 + 4)), (2, .int v2), (3, .int v3), (4, .int v4), (5, .int v5), (6, .int v6)]) (st' := [.int (0 : Int32)]) 1 rfl ?_
      exact db_f130_b58_ok ih
    refine db_Rgo (pc' := 52) (lv' := [(0, .ref 271), (1, .ref (a1 + 4)), (2, .int v2), (3, .int v3), (4, .int v4), (5, .int v5), (6, .int v6)]) (st' := [.int (v6 - (1 : Int32)), .ref (a1 + 4), .int (1 : Int32)]) 5 rfl ?_
    refine db_RldI (pc' := 53) (lv1 := [(0, .ref 271), (1, .ref (a1 + 4)), (2, .int v2), (3, .int v3), (4, .int v4), (5, .int v5), (6, .int v6)]) rfl rfl rfl fun x1 => ?_
    refine db_Rgo (pc' := 58) (lv' := [(0, .ref 271), (1, .ref (a1 + 4)), (2, .int v2), (3, .int v3), (4, .int v4), (5, .int v5), (6, .int v6)]) (st' := [.int ((1 : Int32) <<< (x1 &&& 31))]) 2 rfl ?_
    exact db_f130_b58_ok ih
noncomputable def db_f130_b6 : Nat → db_S → Nat → Int32 → Int32 → Int32 → Int32 → Option (Int32 × db_S)
  | 0, _, _, _, _, _, _ => none
  | n + 1, s, a1, v2, v3, v4, v5 =>
    (cond (db_cnd .ge v5 v2) (db_f130_b35 db_FU s a1 v2 v3 v4 (0 : Int32) (0 : Int32)) ((db_rI s a1 v5).bind fun x1 => (db_f130_b6 n s a1 v2 v3 (v4 ||| ((1 : Int32) <<< (x1 &&& 31))) (v5 + (1 : Int32)))))
set_option maxRecDepth 100000 in
theorem db_f130_b6_ok {X : db_X} {d : Nat}  (n : Nat) : ∀ (s : db_S) (a1 : Nat) (v2 : Int32) (v3 : Int32) (v4 : Int32) (v5 : Int32), db_Rf X (d + 1) dbm_130 6 [(0, .ref 271), (1, .ref (a1 + 4)), (2, .int v2), (3, .int v3), (4, .int v4), (5, .int v5)] [] s db_zI (db_f130_b6 n s (a1 + 4) v2 v3 v4 v5) := by
  induction n with
  | zero => intros; exact db_Rnone
  | succ n ih =>
    intro s a1 v2 v3 v4 v5
    unfold db_f130_b6
    refine db_Rgo (pc' := 9) (lv' := [(0, .ref 271), (1, .ref (a1 + 4)), (2, .int v2), (3, .int v3), (4, .int v4), (5, .int v5)]) (st' := [.int v2, .int v5]) 2 rfl ?_
    refine db_Ric (pc' := 12) (tg := 29) (lv1 := [(0, .ref 271), (1, .ref (a1 + 4)), (2, .int v2), (3, .int v3), (4, .int v4), (5, .int v5)]) rfl rfl rfl rfl ?_ ?_
    · refine db_Rgo (pc' := 35) (lv' := [(6, .int (0 : Int32)), (5, .int (0 : Int32)), (0, .ref 271), (1, .ref (a1 + 4)), (2, .int v2), (3, .int v3), (4, .int v4)]) (st' := []) 4 rfl ?_
      refine db_Rn (lv1 := [(0, .ref 271), (1, .ref (a1 + 4)), (2, .int v2), (3, .int v3), (4, .int v4), (5, .int (0 : Int32)), (6, .int (0 : Int32))]) rfl rfl rfl ?_
      exact db_f130_b35_ok db_FU _ _ _ _ _ _ _
    refine db_Rgo (pc' := 18) (lv' := [(0, .ref 271), (1, .ref (a1 + 4)), (2, .int v2), (3, .int v3), (4, .int v4), (5, .int v5)]) (st' := [.int v5, .ref (a1 + 4), .int (1 : Int32), .int v4]) 4 rfl ?_
    refine db_RldI (pc' := 19) (lv1 := [(0, .ref 271), (1, .ref (a1 + 4)), (2, .int v2), (3, .int v3), (4, .int v4), (5, .int v5)]) rfl rfl rfl fun x1 => ?_
    refine db_Rgo (pc' := 6) (lv' := [(5, .int (v5 + (1 : Int32))), (4, .int (v4 ||| ((1 : Int32) <<< (x1 &&& 31)))), (0, .ref 271), (1, .ref (a1 + 4)), (2, .int v2), (3, .int v3)]) (st' := []) 5 rfl ?_
    refine db_Rn (lv1 := [(0, .ref 271), (1, .ref (a1 + 4)), (2, .int v2), (3, .int v3), (4, .int (v4 ||| ((1 : Int32) <<< (x1 &&& 31)))), (5, .int (v5 + (1 : Int32)))]) rfl rfl rfl ?_
    exact ih _ _ _ _ _ _
/-- DreamBook$Reader.addWorths([III)I -/
noncomputable def db_f130 (s : db_S) (a1 : Nat) (v2 : Int32) (v3 : Int32) : Option (Int32 × db_S) :=
  (db_f130_b6 db_FU s a1 v2 v3 (0 : Int32) (0 : Int32))
set_option maxRecDepth 100000 in
theorem db_f130_ok {X : db_X} {d : Nat} {s : db_S} {a1 : Nat} {v2 : Int32} {v3 : Int32} : db_Rf X (d + 1) dbm_130 0 (lv_args 0 [.ref 271, .ref (a1 + 4), .int v2, .int v3]) [] s db_zI (db_f130 s (a1 + 4) v2 v3) := by
  show db_Rf _ _ _ 0 [(0, .ref 271), (1, .ref (a1 + 4)), (2, .int v2), (3, .int v3)] [] _ _ _
  unfold db_f130
  refine db_Rgo (pc' := 6) (lv' := [(5, .int (0 : Int32)), (4, .int (0 : Int32)), (0, .ref 271), (1, .ref (a1 + 4)), (2, .int v2), (3, .int v3)]) (st' := []) 4 rfl ?_
  refine db_Rn (lv1 := [(0, .ref 271), (1, .ref (a1 + 4)), (2, .int v2), (3, .int v3), (4, .int (0 : Int32)), (5, .int (0 : Int32))]) rfl rfl rfl ?_
  exact db_f130_b6_ok db_FU _ _ _ _ _ _
