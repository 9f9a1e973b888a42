/-- DreamBook$Reader.readDream(III)I -/
noncomputable def db_f127 (s : db_S) (v1 : Int32) (v2 : Int32) (v3 : Int32) : Option (Int32 × db_S) :=
  ((db_f128 s v2 v3).bind fun q1 => ((db_rR 50 v1).bind fun y3 => ((db_rI s 59 v1).bind fun x4 => ((db_f129 s v2 v3).bind fun q5 => (db_bd (db_f130 s y3 x4 q5) fun q7 s8 => (some ((q1 * q7), s8)))))))
set_option maxRecDepth 100000 in
theorem db_f127_ok {X : db_X} {d : Nat} {s : db_S} {v1 : Int32} {v2 : Int32} {v3 : Int32} : db_Rf X (d + 2) dbm_127 0 (lv_args 0 [.ref 271, .int v1, .int v2, .int v3]) [] s db_zI (db_f127 s v1 v2 v3) := by
  show db_Rf _ _ _ 0 [(0, .ref 271), (1, .int v1), (2, .int v2), (3, .int v3)] [] _ _ _
  unfold db_f127
  refine db_Rgo (pc' := 3) (lv' := [(0, .ref 271), (1, .int v1), (2, .int v2), (3, .int v3)]) (st' := [.int v3, .int v2, .ref 271]) 3 rfl ?_
  refine db_RcyI (mr' := dbm_128) (as := [.ref 271, .int v2, .int v3]) (rest := []) (pc' := 6) (lv1 := [(0, .ref 271), (1, .int v1), (2, .int v2), (3, .int v3)]) rfl rfl rfl rfl rfl (db_f128_ok) fun q1 => ?_
  refine db_Rgo (pc' := 15) (lv' := [(0, .ref 271), (1, .int v1), (2, .int v2), (3, .int v3)]) (st' := [.int v1, .ref 50, .ref 271, .int q1]) 5 rfl ?_
  refine db_RldR (pc' := 16) (lv1 := [(0, .ref 271), (1, .int v1), (2, .int v2), (3, .int v3)]) rfl rfl rfl fun y3 => ?_
  refine db_Rgo (pc' := 24) (lv' := [(0, .ref 271), (1, .int v1), (2, .int v2), (3, .int v3)]) (st' := [.int v1, .ref 59, .ref (y3 + 4), .ref 271, .int q1]) 4 rfl ?_
  refine db_RldI (pc' := 25) (lv1 := [(0, .ref 271), (1, .int v1), (2, .int v2), (3, .int v3)]) rfl rfl rfl fun x4 => ?_
  refine db_Rgo (pc' := 28) (lv' := [(0, .ref 271), (1, .int v1), (2, .int v2), (3, .int v3)]) (st' := [.int v3, .int v2, .ref 271, .int x4, .ref (y3 + 4), .ref 271, .int q1]) 3 rfl ?_
  refine db_RcyI (mr' := dbm_129) (as := [.ref 271, .int v2, .int v3]) (rest := [.int x4, .ref (y3 + 4), .ref 271, .int q1]) (pc' := 31) (lv1 := [(0, .ref 271), (1, .int v1), (2, .int v2), (3, .int v3)]) rfl rfl rfl rfl rfl (db_f129_ok) fun q5 => ?_
  refine db_RcdI (mr' := dbm_130) (as := [.ref 271, .ref (y3 + 4), .int x4, .int q5]) (rest := [.int q1]) (pc' := 34) (lv1 := [(0, .ref 271), (1, .int v1), (2, .int v2), (3, .int v3)]) rfl rfl rfl rfl rfl (db_f130_ok) fun q7 s8 => ?_
  refine db_Rgo (pc' := 35) (lv' := [(0, .ref 271), (1, .int v1), (2, .int v2), (3, .int v3)]) (st' := [.int (q1 * q7)]) 1 rfl ?_
  exact db_Rret (lv1 := [(0, .ref 271), (1, .int v1), (2, .int v2), (3, .int v3)]) rfl rfl rfl rfl
/-- DreamBook.reading(III)I -/
noncomputable def db_f124 (s : db_S) (v1 : Int32) (v2 : Int32) (v3 : Int32) : Option (Int32 × db_S) :=
  ((db_f125 s v1 v2 v3).bind fun q1 => (cond q1 (db_bd (db_f127 s v1 v2 v3) fun q3 s4 => (db_bd (db_f87 s4 q3) fun q5 s6 => (some (q5, s6)))) (db_bd (db_f37 s (2 : Int32)) fun q7 s8 => (some (q7, s8)))))
set_option maxRecDepth 100000 in
theorem db_f124_ok {X : db_X} {d : Nat} {s : db_S} {v1 : Int32} {v2 : Int32} {v3 : Int32} : db_Rf X (d + 3) dbm_124 0 (lv_args 0 [.ref 4, .int v1, .int v2, .int v3]) [] s db_zI (db_f124 s v1 v2 v3) := by
  show db_Rf _ _ _ 0 [(0, .ref 4), (1, .int v1), (2, .int v2), (3, .int v3)] [] _ _ _
  unfold db_f124
  refine db_Rgo (pc' := 4) (lv' := [(0, .ref 4), (1, .int v1), (2, .int v2), (3, .int v3)]) (st' := [.int v3, .int v2, .int v1, .ref 4]) 4 rfl ?_
  refine db_RcyB (mr' := dbm_125) (as := [.ref 4, .int v1, .int v2, .int v3]) (rest := []) (pc' := 7) (lv1 := [(0, .ref 4), (1, .int v1), (2, .int v2), (3, .int v3)]) rfl rfl rfl rfl rfl (db_f125_ok) fun q1 => ?_
  refine db_RifBn (pc' := 10) (tg := 16) (lv1 := [(0, .ref 4), (1, .int v1), (2, .int v2), (3, .int v3)]) rfl rfl rfl rfl ?_ ?_
  · refine db_Rgo (pc' := 24) (lv' := [(0, .ref 4), (1, .int v1), (2, .int v2), (3, .int v3)]) (st' := [.int v3, .int v2, .int v1, .ref 271, .ref 4]) 6 rfl ?_
    refine db_RcdI (mr' := dbm_127) (as := [.ref 271, .int v1, .int v2, .int v3]) (rest := [.ref 4]) (pc' := 27) (lv1 := [(0, .ref 4), (1, .int v1), (2, .int v2), (3, .int v3)]) rfl rfl rfl rfl rfl (db_f127_ok) fun q3 s4 => ?_
    refine db_RcdI (mr' := dbm_87) (as := [.ref 4, .int q3]) (rest := []) (pc' := 30) (lv1 := [(0, .ref 4), (1, .int v1), (2, .int v2), (3, .int v3)]) rfl rfl rfl rfl rfl (db_f87_ok) fun q5 s6 => ?_
    exact db_Rret (lv1 := [(0, .ref 4), (1, .int v1), (2, .int v2), (3, .int v3)]) rfl rfl rfl rfl
  refine db_Rgo (pc' := 12) (lv' := [(0, .ref 4), (1, .int v1), (2, .int v2), (3, .int v3)]) (st' := [.int (2 : Int32), .ref 4]) 2 rfl ?_
  refine db_RcdI (mr' := dbm_37) (as := [.ref 4, .int (2 : Int32)]) (rest := []) (pc' := 15) (lv1 := [(0, .ref 4), (1, .int v1), (2, .int v2), (3, .int v3)]) rfl rfl rfl rfl rfl (db_f37_ok) fun q7 s8 => ?_
  exact db_Rret (lv1 := [(0, .ref 4), (1, .int v1), (2, .int v2), (3, .int v3)]) rfl rfl rfl rfl
/-- DreamBookModel.isFor2(II)Z -/
noncomputable def db_f315 (s : db_S) (v1 : Int32) (v2 : Int32) : Option Bool :=
  ((db_rI s 674 (1 : Int32)).bind fun x1 => ((db_f269 s (Int32.toInt64 v1) (-1 : Int64) (Int32.toInt64 (x1 - (1 : Int32)))).bind fun q2 => (cond q2 ((db_rI s 674 (2 : Int32)).bind fun x4 => ((db_f269 s (Int32.toInt64 v2) (-1 : Int64) (Int32.toInt64 (x4 - (1 : Int32)))).bind fun q5 => (cond q5 (some true) (some false)))) (some false))))
set_option maxRecDepth 100000 in
theorem db_f315_ok {X : db_X} {d : Nat} {s : db_S} {v1 : Int32} {v2 : Int32} : db_Rf X (d + 1) dbm_315 0 (lv_args 0 [.ref 669, .int v1, .int v2]) [] s (db_yB s) (db_f315 s v1 v2) := by
  show db_Rf _ _ _ 0 [(0, .ref 669), (1, .int v1), (2, .int v2)] [] _ _ _
  unfold db_f315
  refine db_Rgo (pc' := 10) (lv' := [(0, .ref 669), (1, .int v1), (2, .int v2)]) (st' := [.int (1 : Int32), .ref 674, .long (-1 : Int64), .long (Int32.toInt64 v1)]) 6 rfl ?_
  refine db_RldI (pc' := 11) (lv1 := [(0, .ref 669), (1, .int v1), (2, .int v2)]) rfl rfl rfl fun x1 => ?_
  refine db_Rgo (pc' := 14) (lv' := [(0, .ref 669), (1, .int v1), (2, .int v2)]) (st' := [.long (Int32.toInt64 (x1 - (1 : Int32))), .long (-1 : Int64), .long (Int32.toInt64 v1)]) 3 rfl ?_
  refine db_RcyB (mr' := dbm_269) (as := [.long (Int32.toInt64 v1), .long (-1 : Int64), .long (Int32.toInt64 (x1 - (1 : Int32)))]) (rest := []) (pc' := 17) (lv1 := [(0, .ref 669), (1, .int v1), (2, .int v2)]) rfl rfl rfl rfl rfl (db_f269_ok) fun q2 => ?_
  refine db_RifBe (pc' := 20) (tg := 44) (lv1 := [(0, .ref 669), (1, .int v1), (2, .int v2)]) rfl rfl rfl rfl ?_ ?_
  · refine db_Rgo (pc' := 45) (lv' := []) (st' := [.int (0 : Int32)]) 1 rfl ?_
    exact db_Rret (lv1 := []) rfl rfl rfl rfl
  refine db_Rgo (pc' := 30) (lv' := [(0, .ref 669), (1, .int v1), (2, .int v2)]) (st' := [.int (2 : Int32), .ref 674, .long (-1 : Int64), .long (Int32.toInt64 v2)]) 6 rfl ?_
  refine db_RldI (pc' := 31) (lv1 := [(0, .ref 669), (1, .int v1), (2, .int v2)]) rfl rfl rfl fun x4 => ?_
  refine db_Rgo (pc' := 34) (lv' := [(0, .ref 669), (1, .int v1), (2, .int v2)]) (st' := [.long (Int32.toInt64 (x4 - (1 : Int32))), .long (-1 : Int64), .long (Int32.toInt64 v2)]) 3 rfl ?_
  refine db_RcyB (mr' := dbm_269) (as := [.long (Int32.toInt64 v2), .long (-1 : Int64), .long (Int32.toInt64 (x4 - (1 : Int32)))]) (rest := []) (pc' := 37) (lv1 := [(0, .ref 669), (1, .int v1), (2, .int v2)]) rfl rfl rfl rfl rfl (db_f269_ok) fun q5 => ?_
  refine db_RifBe (pc' := 40) (tg := 44) (lv1 := [(0, .ref 669), (1, .int v1), (2, .int v2)]) rfl rfl rfl rfl ?_ ?_
  · refine db_Rgo (pc' := 45) (lv' := []) (st' := [.int (0 : Int32)]) 1 rfl ?_
    exact db_Rret (lv1 := []) rfl rfl rfl rfl
  refine db_Rgo (pc' := 45) (lv' := [(0, .ref 669), (1, .int v1), (2, .int v2)]) (st' := [.int (1 : Int32)]) 2 rfl ?_
  exact db_Rret (lv1 := []) rfl rfl rfl rfl
noncomputable def db_f314_b17 (s : db_S) : Option (Bool × db_S) :=
  (db_bd (db_f211 s (2 : Int32)) fun q1 s2 => (cond q1 (some (true, s2)) (some (false, s2))))
set_option maxRecDepth 100000 in
theorem db_f314_b17_ok {X : db_X} {d : Nat}  {s : db_S} : db_Rf X (d + 2) dbm_314 17 [(0, .ref 669)] [] s db_zB (db_f314_b17 s ) := by
  unfold db_f314_b17
  refine db_Rgo (pc' := 19) (lv' := [(0, .ref 669)]) (st' := [.int (2 : Int32), .ref 669]) 2 rfl ?_
  refine db_RcdB (mr' := dbm_211) (as := [.ref 669, .int (2 : Int32)]) (rest := []) (pc' := 22) (lv1 := [(0, .ref 669)]) rfl rfl rfl rfl rfl (db_f211_ok) fun q1 s2 => ?_
  refine db_RifBe (pc' := 25) (tg := 29) (lv1 := [(0, .ref 669)]) rfl rfl rfl rfl ?_ ?_
  · refine db_Rgo (pc' := 30) (lv' := []) (st' := [.int (0 : Int32)]) 1 rfl ?_
    exact db_Rret (lv1 := []) rfl rfl rfl rfl
  refine db_Rgo (pc' := 30) (lv' := []) (st' := [.int (1 : Int32)]) 2 rfl ?_
  exact db_Rret (lv1 := []) rfl rfl rfl rfl
/-- DreamBookModel.isReading(III)Z -/
noncomputable def db_f314 (s : db_S) (v1 : Int32) (v2 : Int32) (v3 : Int32) : Option (Bool × db_S) :=
  ((db_f297 s v1).bind fun q1 => (cond q1 ((db_f315 s v2 v3).bind fun q3 => (cond q3 (some (true, s)) (db_f314_b17 s ))) (db_f314_b17 s )))
set_option maxRecDepth 100000 in
theorem db_f314_ok {X : db_X} {d : Nat} {s : db_S} {v1 : Int32} {v2 : Int32} {v3 : Int32} : db_Rf X (d + 2) dbm_314 0 (lv_args 0 [.ref 669, .int v1, .int v2, .int v3]) [] s db_zB (db_f314 s v1 v2 v3) := by
  show db_Rf _ _ _ 0 [(0, .ref 669), (1, .int v1), (2, .int v2), (3, .int v3)] [] _ _ _
  unfold db_f314
  refine db_Rgo (pc' := 2) (lv' := [(0, .ref 669), (1, .int v1), (2, .int v2), (3, .int v3)]) (st' := [.int v1, .ref 669]) 2 rfl ?_
  refine db_RcyB (mr' := dbm_297) (as := [.ref 669, .int v1]) (rest := []) (pc' := 5) (lv1 := [(0, .ref 669), (1, .int v1), (2, .int v2), (3, .int v3)]) rfl rfl rfl rfl rfl (db_f297_ok) fun q1 => ?_
  refine db_RifBe (pc' := 8) (tg := 17) (lv1 := [(0, .ref 669), (1, .int v1), (2, .int v2), (3, .int v3)]) rfl rfl rfl rfl ?_ ?_
  · refine db_Rn (lv1 := [(0, .ref 669)]) rfl rfl rfl ?_
    exact db_f314_b17_ok
  refine db_Rgo (pc' := 11) (lv' := [(0, .ref 669), (1, .int v1), (2, .int v2), (3, .int v3)]) (st' := [.int v3, .int v2, .ref 669]) 3 rfl ?_
  refine db_RcyB (mr' := dbm_315) (as := [.ref 669, .int v2, .int v3]) (rest := []) (pc' := 14) (lv1 := [(0, .ref 669), (1, .int v1), (2, .int v2), (3, .int v3)]) rfl rfl rfl rfl rfl (db_f315_ok) fun q3 => ?_
  refine db_RifBn (pc' := 17) (tg := 25) (lv1 := [(0, .ref 669), (1, .int v1), (2, .int v2), (3, .int v3)]) rfl rfl rfl rfl ?_ ?_
  · refine db_Rgo (pc' := 30) (lv' := []) (st' := [.int (1 : Int32)]) 2 rfl ?_
    exact db_Rret (lv1 := []) rfl rfl rfl rfl
  refine db_Rn (lv1 := [(0, .ref 669)]) rfl rfl rfl ?_
  exact db_f314_b17_ok
noncomputable def db_f317_b15 : Nat → db_S → Int32 → Int32 → Option db_S
  | 0, _, _, _ => none
  | n + 1, s, v1, v2 =>
    (cond (db_cnd .ge v2 (s.1 669 29)) (some s) ((db_f299 s v1 v2).bind fun q1 => ((db_wI s 678 v2 q1).bind fun s3 => (db_f317_b15 n s3 v1 (v2 + (1 : Int32))))))
set_option maxRecDepth 100000 in
theorem db_f317_b15_ok {X : db_X} {d : Nat}  (n : Nat) : ∀ (s : db_S) (v1 : Int32) (v2 : Int32), db_Rf X (d + 1) dbm_317 15 [(0, .ref 669), (1, .int v1), (2, .int v2)] [] s db_zV (db_f317_b15 n s v1 v2) := by
  induction n with
  | zero => intros; exact db_Rnone
  | succ n ih =>
    intro s v1 v2
    unfold db_f317_b15
    refine db_Rgo (pc' := 20) (lv' := [(0, .ref 669), (1, .int v1), (2, .int v2)]) (st' := [.int (s.1 669 29), .int v2]) 3 rfl ?_
    refine db_Ric (pc' := 23) (tg := 41) (lv1 := [(0, .ref 669), (1, .int v1), (2, .int v2)]) rfl rfl rfl rfl ?_ ?_
    · exact db_Rret (lv1 := []) rfl rfl rfl rfl
    refine db_Rgo (pc' := 31) (lv' := [(0, .ref 669), (1, .int v1), (2, .int v2)]) (st' := [.int v2, .int v1, .ref 669, .int v2, .ref 678]) 6 rfl ?_
    refine db_RcyI (mr' := dbm_299) (as := [.ref 669, .int v1, .int v2]) (rest := [.int v2, .ref 678]) (pc' := 34) (lv1 := [(0, .ref 669), (1, .int v1), (2, .int v2)]) rfl rfl rfl rfl rfl (db_f299_ok) fun q1 => ?_
    refine db_RstI (pc' := 35) (lv1 := [(0, .ref 669), (1, .int v1), (2, .int v2)]) rfl rfl rfl fun s3 => ?_
    refine db_Rgo (pc' := 15) (lv' := [(2, .int (v2 + (1 : Int32))), (0, .ref 669), (1, .int v1)]) (st' := []) 2 rfl ?_
    refine db_Rn (lv1 := [(0, .ref 669), (1, .int v1), (2, .int (v2 + (1 : Int32)))]) rfl rfl rfl ?_
    exact ih _ _ _
/-- DreamBookModel.layDream(I)V -/
noncomputable def db_f317 (s : db_S) (v1 : Int32) : Option db_S :=
  ((db_rI s 674 ((127 : Int32) + v1)).bind fun x1 => ((db_pI s 669 29 x1).bind fun s2 => (db_f317_b15 db_FU s2 v1 (0 : Int32))))
set_option maxRecDepth 100000 in
theorem db_f317_ok {X : db_X} {d : Nat} {s : db_S} {v1 : Int32} : db_Rf X (d + 1) dbm_317 0 (lv_args 0 [.ref 669, .int v1]) [] s db_zV (db_f317 s v1) := by
  show db_Rf _ _ _ 0 [(0, .ref 669), (1, .int v1)] [] _ _ _
  unfold db_f317
  refine db_Rgo (pc' := 9) (lv' := [(0, .ref 669), (1, .int v1)]) (st' := [.int ((127 : Int32) + v1), .ref 674, .ref 669]) 6 rfl ?_
  refine db_RldI (pc' := 10) (lv1 := [(0, .ref 669), (1, .int v1)]) rfl rfl rfl fun x1 => ?_
  refine db_RpuI (pc' := 13) (lv1 := [(0, .ref 669), (1, .int v1)]) rfl rfl rfl rfl rfl rfl (by decide) rfl rfl fun s2 => ?_
  refine db_Rgo (pc' := 15) (lv' := [(2, .int (0 : Int32)), (0, .ref 669), (1, .int v1)]) (st' := []) 2 rfl ?_
  refine db_Rn (lv1 := [(0, .ref 669), (1, .int v1), (2, .int (0 : Int32))]) rfl rfl rfl ?_
  exact db_f317_b15_ok db_FU _ _ _
noncomputable def db_f322_b44 (s : db_S) (t0 : Int32) (t1 : Int32) : Option Bool :=
  (cond (db_cnd .eq t0 t1) (some false) (some true))
set_option maxRecDepth 100000 in
theorem db_f322_b44_ok {X : db_X} {d : Nat}  {s : db_S} {t0 : Int32} {t1 : Int32} : db_Rf X (d + 0) dbm_322 44 [] [.int t1, .int t0] s (db_yB s) (db_f322_b44 s t0 t1) := by
  unfold db_f322_b44
  refine db_Ric (pc' := 47) (tg := 51) (lv1 := []) rfl rfl rfl rfl ?_ ?_
  · refine db_Rgo (pc' := 52) (lv' := []) (st' := [.int (0 : Int32)]) 1 rfl ?_
    exact db_Rret (lv1 := []) rfl rfl rfl rfl
  refine db_Rgo (pc' := 52) (lv' := []) (st' := [.int (1 : Int32)]) 2 rfl ?_
  exact db_Rret (lv1 := []) rfl rfl rfl rfl
noncomputable def db_f322_b43 (s : db_S) (t0 : Int32) : Option Bool :=
  (db_f322_b44 s t0 (0 : Int32))
set_option maxRecDepth 100000 in
theorem db_f322_b43_ok {X : db_X} {d : Nat}  {s : db_S} {t0 : Int32} : db_Rf X (d + 0) dbm_322 43 [] [.int t0] s (db_yB s) (db_f322_b43 s t0) := by
  unfold db_f322_b43
  refine db_Rgo (pc' := 44) (lv' := []) (st' := [.int (0 : Int32), .int t0]) 1 rfl ?_
  exact db_f322_b44_ok
noncomputable def db_f322_b22 (s : db_S) (v2 : Int32) (t0 : Int32) : Option Bool :=
  (cond (db_cnd .lt v2 0) (db_f322_b43 s t0) ((db_rI s 674 ((16 : Int32) + v2)).bind fun x1 => (cond (db_cnd .ne x1 (1 : Int32)) (db_f322_b43 s t0) (db_f322_b44 s t0 (1 : Int32)))))
set_option maxRecDepth 100000 in
theorem db_f322_b22_ok {X : db_X} {d : Nat}  {s : db_S} {v2 : Int32} {t0 : Int32} : db_Rf X (d + 0) dbm_322 22 [(0, .ref 669), (2, .int v2)] [.int t0] s (db_yB s) (db_f322_b22 s v2 t0) := by
  unfold db_f322_b22
  refine db_Rgo (pc' := 23) (lv' := [(0, .ref 669), (2, .int v2)]) (st' := [.int v2, .int t0]) 1 rfl ?_
  refine db_Rif (pc' := 26) (tg := 43) (lv1 := [(0, .ref 669), (2, .int v2)]) rfl rfl rfl rfl ?_ ?_
  · refine db_Rn (lv1 := []) rfl rfl rfl ?_
    exact db_f322_b43_ok
  refine db_Rgo (pc' := 34) (lv' := [(0, .ref 669), (2, .int v2)]) (st' := [.int ((16 : Int32) + v2), .ref 674, .int t0]) 5 rfl ?_
  refine db_RldI (pc' := 35) (lv1 := [(0, .ref 669), (2, .int v2)]) rfl rfl rfl fun x1 => ?_
  refine db_Rgo (pc' := 36) (lv' := [(0, .ref 669), (2, .int v2)]) (st' := [.int (1 : Int32), .int x1, .int t0]) 1 rfl ?_
  refine db_Ric (pc' := 39) (tg := 43) (lv1 := [(0, .ref 669), (2, .int v2)]) rfl rfl rfl rfl ?_ ?_
  · refine db_Rn (lv1 := []) rfl rfl rfl ?_
    exact db_f322_b43_ok
  refine db_Rgo (pc' := 44) (lv' := [(0, .ref 669), (2, .int v2)]) (st' := [.int (1 : Int32), .int t0]) 2 rfl ?_
  refine db_Rn (lv1 := []) rfl rfl rfl ?_
  exact db_f322_b44_ok
noncomputable def db_f322_b21 (s : db_S) (v2 : Int32) : Option Bool :=
  (db_f322_b22 s v2 (0 : Int32))
set_option maxRecDepth 100000 in
theorem db_f322_b21_ok {X : db_X} {d : Nat}  {s : db_S} {v2 : Int32} : db_Rf X (d + 0) dbm_322 21 [(0, .ref 669), (2, .int v2)] [] s (db_yB s) (db_f322_b21 s v2) := by
  unfold db_f322_b21
  refine db_Rgo (pc' := 22) (lv' := [(0, .ref 669), (2, .int v2)]) (st' := [.int (0 : Int32)]) 1 rfl ?_
  exact db_f322_b22_ok
/-- DreamBookModel.isOtherWay(II)Z -/
noncomputable def db_f322 (s : db_S) (v1 : Int32) (v2 : Int32) : Option Bool :=
  (cond (db_cnd .lt v1 0) (db_f322_b21 s v2) ((db_rI s 674 ((8 : Int32) + v1)).bind fun x1 => (cond (db_cnd .ne x1 (1 : Int32)) (db_f322_b21 s v2) (db_f322_b22 s v2 (1 : Int32)))))
set_option maxRecDepth 100000 in
theorem db_f322_ok {X : db_X} {d : Nat} {s : db_S} {v1 : Int32} {v2 : Int32} : db_Rf X (d + 0) dbm_322 0 (lv_args 0 [.ref 669, .int v1, .int v2]) [] s (db_yB s) (db_f322 s v1 v2) := by
  show db_Rf _ _ _ 0 [(0, .ref 669), (1, .int v1), (2, .int v2)] [] _ _ _
  unfold db_f322
  refine db_Rgo (pc' := 1) (lv' := [(0, .ref 669), (1, .int v1), (2, .int v2)]) (st' := [.int v1]) 1 rfl ?_
  refine db_Rif (pc' := 4) (tg := 21) (lv1 := [(0, .ref 669), (1, .int v1), (2, .int v2)]) rfl rfl rfl rfl ?_ ?_
  · refine db_Rn (lv1 := [(0, .ref 669), (2, .int v2)]) rfl rfl rfl ?_
    exact db_f322_b21_ok
  refine db_Rgo (pc' := 12) (lv' := [(0, .ref 669), (1, .int v1), (2, .int v2)]) (st' := [.int ((8 : Int32) + v1), .ref 674]) 5 rfl ?_
  refine db_RldI (pc' := 13) (lv1 := [(0, .ref 669), (1, .int v1), (2, .int v2)]) rfl rfl rfl fun x1 => ?_
  refine db_Rgo (pc' := 14) (lv' := [(0, .ref 669), (1, .int v1), (2, .int v2)]) (st' := [.int (1 : Int32), .int x1]) 1 rfl ?_
  refine db_Ric (pc' := 17) (tg := 21) (lv1 := [(0, .ref 669), (1, .int v1), (2, .int v2)]) rfl rfl rfl rfl ?_ ?_
  · refine db_Rn (lv1 := [(0, .ref 669), (2, .int v2)]) rfl rfl rfl ?_
    exact db_f322_b21_ok
  refine db_Rgo (pc' := 22) (lv' := [(0, .ref 669), (1, .int v1), (2, .int v2)]) (st' := [.int (1 : Int32)]) 2 rfl ?_
  refine db_Rn (lv1 := [(0, .ref 669), (2, .int v2)]) rfl rfl rfl ?_
  exact db_f322_b22_ok
noncomputable def db_f320_b16 (s : db_S) (v1 : Int32) (v2 : Int32) : Option Bool :=
  (cond (db_cnd .ge v1 ((s.1 669 29) - (1 : Int32))) (some false) ((db_rI s 678 (v1 + (1 : Int32))).bind fun x1 => (cond (db_cnd .ne x1 v2) (some false) (some true))))
set_option maxRecDepth 100000 in
theorem db_f320_b16_ok {X : db_X} {d : Nat}  {s : db_S} {v1 : Int32} {v2 : Int32} : db_Rf X (d + 0) dbm_320 16 [(0, .ref 669), (1, .int v1), (2, .int v2)] [] s (db_yB s) (db_f320_b16 s v1 v2) := by
  unfold db_f320_b16
  refine db_Rgo (pc' := 23) (lv' := [(0, .ref 669), (1, .int v1), (2, .int v2)]) (st' := [.int ((s.1 669 29) - (1 : Int32)), .int v1]) 5 rfl ?_
  refine db_Ric (pc' := 26) (tg := 42) (lv1 := [(0, .ref 669), (1, .int v1), (2, .int v2)]) rfl rfl rfl rfl ?_ ?_
  · refine db_Rgo (pc' := 43) (lv' := []) (st' := [.int (0 : Int32)]) 1 rfl ?_
    exact db_Rret (lv1 := []) rfl rfl rfl rfl
  refine db_Rgo (pc' := 33) (lv' := [(0, .ref 669), (1, .int v1), (2, .int v2)]) (st' := [.int (v1 + (1 : Int32)), .ref 678]) 5 rfl ?_
  refine db_RldI (pc' := 34) (lv1 := [(0, .ref 669), (1, .int v1), (2, .int v2)]) rfl rfl rfl fun x1 => ?_
  refine db_Rgo (pc' := 35) (lv' := [(0, .ref 669), (1, .int v1), (2, .int v2)]) (st' := [.int v2, .int x1]) 1 rfl ?_
  refine db_Ric (pc' := 38) (tg := 42) (lv1 := [(0, .ref 669), (1, .int v1), (2, .int v2)]) rfl rfl rfl rfl ?_ ?_
  · refine db_Rgo (pc' := 43) (lv' := []) (st' := [.int (0 : Int32)]) 1 rfl ?_
    exact db_Rret (lv1 := []) rfl rfl rfl rfl
  refine db_Rgo (pc' := 43) (lv' := []) (st' := [.int (1 : Int32)]) 2 rfl ?_
  exact db_Rret (lv1 := []) rfl rfl rfl rfl
/-- DreamBookModel.isBeside(II)Z -/
noncomputable def db_f320 (s : db_S) (v1 : Int32) (v2 : Int32) : Option Bool :=
  (cond (db_cnd .le v1 0) (db_f320_b16 s v1 v2) ((db_rI s 678 (v1 - (1 : Int32))).bind fun x1 => (cond (db_cnd .eq x1 v2) (some true) (db_f320_b16 s v1 v2))))
set_option maxRecDepth 100000 in
theorem db_f320_ok {X : db_X} {d : Nat} {s : db_S} {v1 : Int32} {v2 : Int32} : db_Rf X (d + 0) dbm_320 0 (lv_args 0 [.ref 669, .int v1, .int v2]) [] s (db_yB s) (db_f320 s v1 v2) := by
  show db_Rf _ _ _ 0 [(0, .ref 669), (1, .int v1), (2, .int v2)] [] _ _ _
  unfold db_f320
  refine db_Rgo (pc' := 1) (lv' := [(0, .ref 669), (1, .int v1), (2, .int v2)]) (st' := [.int v1]) 1 rfl ?_
  refine db_Rif (pc' := 4) (tg := 16) (lv1 := [(0, .ref 669), (1, .int v1), (2, .int v2)]) rfl rfl rfl rfl ?_ ?_
  · exact db_f320_b16_ok
  refine db_Rgo (pc' := 11) (lv' := [(0, .ref 669), (1, .int v1), (2, .int v2)]) (st' := [.int (v1 - (1 : Int32)), .ref 678]) 5 rfl ?_
  refine db_RldI (pc' := 12) (lv1 := [(0, .ref 669), (1, .int v1), (2, .int v2)]) rfl rfl rfl fun x1 => ?_
  refine db_Rgo (pc' := 13) (lv' := [(0, .ref 669), (1, .int v1), (2, .int v2)]) (st' := [.int v2, .int x1]) 1 rfl ?_
  refine db_Ric (pc' := 16) (tg := 38) (lv1 := [(0, .ref 669), (1, .int v1), (2, .int v2)]) rfl rfl rfl rfl ?_ ?_
  · refine db_Rgo (pc' := 43) (lv' := []) (st' := [.int (1 : Int32)]) 2 rfl ?_
    exact db_Rret (lv1 := []) rfl rfl rfl rfl
  exact db_f320_b16_ok
noncomputable def db_f321_b2 (s : db_S) : Nat → Int32 → Int32 → Option Bool
  | 0, _, _ => none
  | n + 1, v1, v2 =>
    (cond (db_cnd .ge v2 (s.1 669 29)) (some false) ((db_rI s 678 v2).bind fun x1 => (cond (db_cnd .ne x1 v1) (db_f321_b2 s n v1 (v2 + (1 : Int32))) (some true))))
set_option maxRecDepth 100000 in
theorem db_f321_b2_ok {X : db_X} {d : Nat} {s : db_S} (n : Nat) : ∀ (v1 : Int32) (v2 : Int32), db_Rf X (d + 0) dbm_321 2 [(0, .ref 669), (1, .int v1), (2, .int v2)] [] s (db_yB s) (db_f321_b2 s n v1 v2) := by
  induction n with
  | zero => intros; exact db_Rnone
  | succ n ih =>
    intro v1 v2
    unfold db_f321_b2
    refine db_Rgo (pc' := 7) (lv' := [(0, .ref 669), (1, .int v1), (2, .int v2)]) (st' := [.int (s.1 669 29), .int v2]) 3 rfl ?_
    refine db_Ric (pc' := 10) (tg := 28) (lv1 := [(0, .ref 669), (1, .int v1), (2, .int v2)]) rfl rfl rfl rfl ?_ ?_
    · refine db_Rgo (pc' := 29) (lv' := []) (st' := [.int (0 : Int32)]) 1 rfl ?_
      exact db_Rret (lv1 := []) rfl rfl rfl rfl
    refine db_Rgo (pc' := 15) (lv' := [(0, .ref 669), (1, .int v1), (2, .int v2)]) (st' := [.int v2, .ref 678]) 3 rfl ?_
    refine db_RldI (pc' := 16) (lv1 := [(0, .ref 669), (1, .int v1), (2, .int v2)]) rfl rfl rfl fun x1 => ?_
    refine db_Rgo (pc' := 17) (lv' := [(0, .ref 669), (1, .int v1), (2, .int v2)]) (st' := [.int v1, .int x1]) 1 rfl ?_
    refine db_Ric (pc' := 20) (tg := 22) (lv1 := [(0, .ref 669), (1, .int v1), (2, .int v2)]) rfl rfl rfl rfl ?_ ?_
    · refine db_Rgo (pc' := 2) (lv' := [(2, .int (v2 + (1 : Int32))), (0, .ref 669), (1, .int v1)]) (st' := []) 2 rfl ?_
      refine db_Rn (lv1 := [(0, .ref 669), (1, .int v1), (2, .int (v2 + (1 : Int32)))]) rfl rfl rfl ?_
      exact ih _ _
    refine db_Rgo (pc' := 21) (lv' := [(0, .ref 669), (1, .int v1), (2, .int v2)]) (st' := [.int (1 : Int32)]) 1 rfl ?_
    exact db_Rret (lv1 := [(0, .ref 669), (1, .int v1), (2, .int v2)]) rfl rfl rfl rfl
/-- DreamBookModel.isInRow(I)Z -/
noncomputable def db_f321 (s : db_S) (v1 : Int32) : Option Bool :=
  (db_f321_b2 s db_FU v1 (0 : Int32))
set_option maxRecDepth 100000 in
theorem db_f321_ok {X : db_X} {d : Nat} {s : db_S} {v1 : Int32} : db_Rf X (d + 0) dbm_321 0 (lv_args 0 [.ref 669, .int v1]) [] s (db_yB s) (db_f321 s v1) := by
  show db_Rf _ _ _ 0 [(0, .ref 669), (1, .int v1)] [] _ _ _
  unfold db_f321
  refine db_Rgo (pc' := 2) (lv' := [(2, .int (0 : Int32)), (0, .ref 669), (1, .int v1)]) (st' := []) 2 rfl ?_
  refine db_Rn (lv1 := [(0, .ref 669), (1, .int v1), (2, .int (0 : Int32))]) rfl rfl rfl ?_
  exact db_f321_b2_ok db_FU _ _
noncomputable def db_f319_b100 (s : db_S) (v1 : Int32) : Option Bool :=
  ((db_rI s 674 ((55 : Int32) + v1)).bind fun x1 => (cond (db_cnd .lt x1 0) (some true) ((db_rI s 674 ((55 : Int32) + v1)).bind fun x2 => ((db_f321 s x2).bind fun q3 => (cond q3 (some false) (some true))))))
set_option maxRecDepth 100000 in
theorem db_f319_b100_ok {X : db_X} {d : Nat}  {s : db_S} {v1 : Int32} : db_Rf X (d + 1) dbm_319 100 [(0, .ref 669), (1, .int v1)] [] s (db_yB s) (db_f319_b100 s v1) := by
  unfold db_f319_b100
  refine db_Rgo (pc' := 108) (lv' := [(0, .ref 669), (1, .int v1)]) (st' := [.int ((55 : Int32) + v1), .ref 674]) 5 rfl ?_
  refine db_RldI (pc' := 109) (lv1 := [(0, .ref 669), (1, .int v1)]) rfl rfl rfl fun x1 => ?_
  refine db_Rif (pc' := 112) (tg := 128) (lv1 := [(0, .ref 669), (1, .int v1)]) rfl rfl rfl rfl ?_ ?_
  · refine db_Rgo (pc' := 133) (lv' := []) (st' := [.int (1 : Int32)]) 2 rfl ?_
    exact db_Rret (lv1 := []) rfl rfl rfl rfl
  refine db_Rgo (pc' := 121) (lv' := [(0, .ref 669), (1, .int v1)]) (st' := [.int ((55 : Int32) + v1), .ref 674, .ref 669]) 6 rfl ?_
  refine db_RldI (pc' := 122) (lv1 := [(0, .ref 669), (1, .int v1)]) rfl rfl rfl fun x2 => ?_
  refine db_RcyB (mr' := dbm_321) (as := [.ref 669, .int x2]) (rest := []) (pc' := 125) (lv1 := [(0, .ref 669), (1, .int v1)]) rfl rfl rfl rfl rfl (db_f321_ok) fun q3 => ?_
  refine db_RifBn (pc' := 128) (tg := 132) (lv1 := [(0, .ref 669), (1, .int v1)]) rfl rfl rfl rfl ?_ ?_
  · refine db_Rgo (pc' := 133) (lv' := []) (st' := [.int (0 : Int32)]) 1 rfl ?_
    exact db_Rret (lv1 := []) rfl rfl rfl rfl
  refine db_Rgo (pc' := 133) (lv' := []) (st' := [.int (1 : Int32)]) 2 rfl ?_
  exact db_Rret (lv1 := []) rfl rfl rfl rfl
noncomputable def db_f319_b71 (s : db_S) (v1 : Int32) (v2 : Int32) : Option Bool :=
  ((db_rI s 674 ((43 : Int32) + v1)).bind fun x1 => (cond (db_cnd .lt x1 0) (db_f319_b100 s v1) ((db_rI s 674 ((43 : Int32) + v1)).bind fun x2 => ((db_f320 s v2 x2).bind fun q3 => (cond q3 (db_f319_b100 s v1) (some false))))))
set_option maxRecDepth 100000 in
theorem db_f319_b71_ok {X : db_X} {d : Nat}  {s : db_S} {v1 : Int32} {v2 : Int32} : db_Rf X (d + 1) dbm_319 71 [(0, .ref 669), (1, .int v1), (2, .int v2)] [] s (db_yB s) (db_f319_b71 s v1 v2) := by
  unfold db_f319_b71
  refine db_Rgo (pc' := 79) (lv' := [(0, .ref 669), (1, .int v1), (2, .int v2)]) (st' := [.int ((43 : Int32) + v1), .ref 674]) 5 rfl ?_
  refine db_RldI (pc' := 80) (lv1 := [(0, .ref 669), (1, .int v1), (2, .int v2)]) rfl rfl rfl fun x1 => ?_
  refine db_Rif (pc' := 83) (tg := 100) (lv1 := [(0, .ref 669), (1, .int v1), (2, .int v2)]) rfl rfl rfl rfl ?_ ?_
  · refine db_Rn (lv1 := [(0, .ref 669), (1, .int v1)]) rfl rfl rfl ?_
    exact db_f319_b100_ok
  refine db_Rgo (pc' := 93) (lv' := [(0, .ref 669), (1, .int v1), (2, .int v2)]) (st' := [.int ((43 : Int32) + v1), .ref 674, .int v2, .ref 669]) 7 rfl ?_
  refine db_RldI (pc' := 94) (lv1 := [(0, .ref 669), (1, .int v1), (2, .int v2)]) rfl rfl rfl fun x2 => ?_
  refine db_RcyB (mr' := dbm_320) (as := [.ref 669, .int v2, .int x2]) (rest := []) (pc' := 97) (lv1 := [(0, .ref 669), (1, .int v1), (2, .int v2)]) rfl rfl rfl rfl rfl (db_f320_ok) fun q3 => ?_
  refine db_RifBe (pc' := 100) (tg := 132) (lv1 := [(0, .ref 669), (1, .int v1), (2, .int v2)]) rfl rfl rfl rfl ?_ ?_
  · refine db_Rgo (pc' := 133) (lv' := []) (st' := [.int (0 : Int32)]) 1 rfl ?_
    exact db_Rret (lv1 := []) rfl rfl rfl rfl
  refine db_Rn (lv1 := [(0, .ref 669), (1, .int v1)]) rfl rfl rfl ?_
  exact db_f319_b100_ok
noncomputable def db_f319_b43 (s : db_S) (v1 : Int32) (v2 : Int32) (v4 : Int32) : Option Bool :=
  ((db_rI s 674 ((79 : Int32) + v1)).bind fun x1 => (cond (db_cnd .lt x1 0) (db_f319_b71 s v1 v2) ((db_rI s 674 ((79 : Int32) + v1)).bind fun x2 => (cond (db_cnd .eq x2 v4) (db_f319_b71 s v1 v2) (some false)))))
set_option maxRecDepth 100000 in
theorem db_f319_b43_ok {X : db_X} {d : Nat}  {s : db_S} {v1 : Int32} {v2 : Int32} {v4 : Int32} : db_Rf X (d + 1) dbm_319 43 [(0, .ref 669), (1, .int v1), (2, .int v2), (4, .int v4)] [] s (db_yB s) (db_f319_b43 s v1 v2 v4) := by
  unfold db_f319_b43
  refine db_Rgo (pc' := 51) (lv' := [(0, .ref 669), (1, .int v1), (2, .int v2), (4, .int v4)]) (st' := [.int ((79 : Int32) + v1), .ref 674]) 5 rfl ?_
  refine db_RldI (pc' := 52) (lv1 := [(0, .ref 669), (1, .int v1), (2, .int v2), (4, .int v4)]) rfl rfl rfl fun x1 => ?_
  refine db_Rif (pc' := 55) (tg := 71) (lv1 := [(0, .ref 669), (1, .int v1), (2, .int v2), (4, .int v4)]) rfl rfl rfl rfl ?_ ?_
  · refine db_Rn (lv1 := [(0, .ref 669), (1, .int v1), (2, .int v2)]) rfl rfl rfl ?_
    exact db_f319_b71_ok
  refine db_Rgo (pc' := 63) (lv' := [(0, .ref 669), (1, .int v1), (2, .int v2), (4, .int v4)]) (st' := [.int ((79 : Int32) + v1), .ref 674]) 5 rfl ?_
  refine db_RldI (pc' := 64) (lv1 := [(0, .ref 669), (1, .int v1), (2, .int v2), (4, .int v4)]) rfl rfl rfl fun x2 => ?_
  refine db_Rgo (pc' := 66) (lv' := [(0, .ref 669), (1, .int v1), (2, .int v2), (4, .int v4)]) (st' := [.int v4, .int x2]) 1 rfl ?_
  refine db_Ric (pc' := 69) (tg := 71) (lv1 := [(0, .ref 669), (1, .int v1), (2, .int v2), (4, .int v4)]) rfl rfl rfl rfl ?_ ?_
  · refine db_Rn (lv1 := [(0, .ref 669), (1, .int v1), (2, .int v2)]) rfl rfl rfl ?_
    exact db_f319_b71_ok
  refine db_Rgo (pc' := 70) (lv' := []) (st' := [.int (0 : Int32)]) 1 rfl ?_
  exact db_Rret (lv1 := []) rfl rfl rfl rfl
/-- DreamBookModel.fits(IIII)Z -/
noncomputable def db_f319 (s : db_S) (v1 : Int32) (v2 : Int32) (v3 : Int32) (v4 : Int32) : Option Bool :=
  ((db_rI s 674 ((19 : Int32) + v1)).bind fun x1 => ((db_rI s 678 v2).bind fun x2 => (cond (db_cnd .ne x1 x2) (some false) ((db_rI s 674 ((67 : Int32) + v1)).bind fun x3 => (cond (db_cnd .lt x3 0) (db_f319_b43 s v1 v2 v4) ((db_rI s 674 ((67 : Int32) + v1)).bind fun x4 => (cond (db_cnd .ne x4 v3) (some false) (db_f319_b43 s v1 v2 v4))))))))
set_option maxRecDepth 100000 in
theorem db_f319_ok {X : db_X} {d : Nat} {s : db_S} {v1 : Int32} {v2 : Int32} {v3 : Int32} {v4 : Int32} : db_Rf X (d + 1) dbm_319 0 (lv_args 0 [.ref 669, .int v1, .int v2, .int v3, .int v4]) [] s (db_yB s) (db_f319 s v1 v2 v3 v4) := by
  show db_Rf _ _ _ 0 [(0, .ref 669), (1, .int v1), (2, .int v2), (3, .int v3), (4, .int v4)] [] _ _ _
  unfold db_f319
  refine db_Rgo (pc' := 8) (lv' := [(0, .ref 669), (1, .int v1), (2, .int v2), (3, .int v3), (4, .int v4)]) (st' := [.int ((19 : Int32) + v1), .ref 674]) 5 rfl ?_
  refine db_RldI (pc' := 9) (lv1 := [(0, .ref 669), (1, .int v1), (2, .int v2), (3, .int v3), (4, .int v4)]) rfl rfl rfl fun x1 => ?_
  refine db_Rgo (pc' := 14) (lv' := [(0, .ref 669), (1, .int v1), (2, .int v2), (3, .int v3), (4, .int v4)]) (st' := [.int v2, .ref 678, .int x1]) 3 rfl ?_
  refine db_RldI (pc' := 15) (lv1 := [(0, .ref 669), (1, .int v1), (2, .int v2), (3, .int v3), (4, .int v4)]) rfl rfl rfl fun x2 => ?_
  refine db_Ric (pc' := 18) (tg := 69) (lv1 := [(0, .ref 669), (1, .int v1), (2, .int v2), (3, .int v3), (4, .int v4)]) rfl rfl rfl rfl ?_ ?_
  · refine db_Rgo (pc' := 70) (lv' := []) (st' := [.int (0 : Int32)]) 1 rfl ?_
    exact db_Rret (lv1 := []) rfl rfl rfl rfl
  refine db_Rgo (pc' := 26) (lv' := [(0, .ref 669), (1, .int v1), (2, .int v2), (3, .int v3), (4, .int v4)]) (st' := [.int ((67 : Int32) + v1), .ref 674]) 5 rfl ?_
  refine db_RldI (pc' := 27) (lv1 := [(0, .ref 669), (1, .int v1), (2, .int v2), (3, .int v3), (4, .int v4)]) rfl rfl rfl fun x3 => ?_
  refine db_Rif (pc' := 30) (tg := 43) (lv1 := [(0, .ref 669), (1, .int v1), (2, .int v2), (3, .int v3), (4, .int v4)]) rfl rfl rfl rfl ?_ ?_
  · refine db_Rn (lv1 := [(0, .ref 669), (1, .int v1), (2, .int v2), (4, .int v4)]) rfl rfl rfl ?_
    exact db_f319_b43_ok
  refine db_Rgo (pc' := 38) (lv' := [(0, .ref 669), (1, .int v1), (2, .int v2), (3, .int v3), (4, .int v4)]) (st' := [.int ((67 : Int32) + v1), .ref 674]) 5 rfl ?_
  refine db_RldI (pc' := 39) (lv1 := [(0, .ref 669), (1, .int v1), (2, .int v2), (3, .int v3), (4, .int v4)]) rfl rfl rfl fun x4 => ?_
  refine db_Rgo (pc' := 40) (lv' := [(0, .ref 669), (1, .int v1), (2, .int v2), (3, .int v3), (4, .int v4)]) (st' := [.int v3, .int x4]) 1 rfl ?_
  refine db_Ric (pc' := 43) (tg := 69) (lv1 := [(0, .ref 669), (1, .int v1), (2, .int v2), (3, .int v3), (4, .int v4)]) rfl rfl rfl rfl ?_ ?_
  · refine db_Rgo (pc' := 70) (lv' := []) (st' := [.int (0 : Int32)]) 1 rfl ?_
    exact db_Rret (lv1 := []) rfl rfl rfl rfl
  refine db_Rn (lv1 := [(0, .ref 669), (1, .int v1), (2, .int v2), (4, .int v4)]) rfl rfl rfl ?_
  exact db_f319_b43_ok
noncomputable def db_f318_b80 (h5 : db_S → Int32 → Int32 → Int32 → Int32 → Option (Int32 × db_S)) (h25 : db_S → Int32 → Int32 → Int32 → Int32 → Int32 → Option (Int32 × db_S)) (s : db_S) (v1 : Int32) (v2 : Int32) (v3 : Int32) (v4 : Int32) (v5 : Int32) : Option (Int32 × db_S) :=
  (h25 s v1 v2 v3 v4 (v5 + (1 : Int32)))
set_option maxRecDepth 100000 in
theorem db_f318_b80_ok {X : db_X} {d : Nat}  {h5 : db_S → Int32 → Int32 → Int32 → Int32 → Option (Int32 × db_S)} {h25 : db_S → Int32 → Int32 → Int32 → Int32 → Int32 → Option (Int32 × db_S)} {s : db_S} {v1 : Int32} {v2 : Int32} {v3 : Int32} {v4 : Int32} {v5 : Int32} (zh5 : ∀ (s' : db_S) (v1 : Int32) (v2 : Int32) (v3 : Int32) (v4 : Int32) , db_Rf X (d + 2) dbm_318 5 [(0, .ref 669), (1, .int v1), (2, .int v2), (3, .int v3), (4, .int v4)] [] s' db_zI (h5 s' v1 v2 v3 v4)) (zh25 : ∀ (s' : db_S) (v1 : Int32) (v2 : Int32) (v3 : Int32) (v4 : Int32) (v5 : Int32) , db_Rf X (d + 2) dbm_318 25 [(0, .ref 669), (1, .int v1), (2, .int v2), (3, .int v3), (4, .int v4), (5, .int v5)] [] s' db_zI (h25 s' v1 v2 v3 v4 v5)) : db_Rf X (d + 2) dbm_318 80 [(0, .ref 669), (1, .int v1), (2, .int v2), (3, .int v3), (4, .int v4), (5, .int v5)] [] s db_zI (db_f318_b80 h5 h25 s v1 v2 v3 v4 v5) := by
  unfold db_f318_b80
  refine db_Rgo (pc' := 25) (lv' := [(5, .int (v5 + (1 : Int32))), (0, .ref 669), (1, .int v1), (2, .int v2), (3, .int v3), (4, .int v4)]) (st' := []) 2 rfl ?_
  refine db_Rn (lv1 := [(0, .ref 669), (1, .int v1), (2, .int v2), (3, .int v3), (4, .int v4), (5, .int (v5 + (1 : Int32)))]) rfl rfl rfl ?_
  exact zh25 _ _ _ _ _ _
noncomputable def db_f318_b112 (h5 : db_S → Int32 → Int32 → Int32 → Int32 → Option (Int32 × db_S)) (s : db_S) (v1 : Int32) (v2 : Int32) (v4 : Int32) (t0 : Int32) (t1 : Int32) : Option (Int32 × db_S) :=
  (h5 s v1 v2 (t0 + t1) (v4 + (1 : Int32)))
set_option maxRecDepth 100000 in
theorem db_f318_b112_ok {X : db_X} {d : Nat}  {h5 : db_S → Int32 → Int32 → Int32 → Int32 → Option (Int32 × db_S)} {s : db_S} {v1 : Int32} {v2 : Int32} {v4 : Int32} {t0 : Int32} {t1 : Int32} (zh5 : ∀ (s' : db_S) (v1 : Int32) (v2 : Int32) (v3 : Int32) (v4 : Int32) , db_Rf X (d + 2) dbm_318 5 [(0, .ref 669), (1, .int v1), (2, .int v2), (3, .int v3), (4, .int v4)] [] s' db_zI (h5 s' v1 v2 v3 v4)) : db_Rf X (d + 2) dbm_318 112 [(0, .ref 669), (1, .int v1), (2, .int v2), (4, .int v4)] [.int t1, .int t0] s db_zI (db_f318_b112 h5 s v1 v2 v4 t0 t1) := by
  unfold db_f318_b112
  refine db_Rgo (pc' := 5) (lv' := [(4, .int (v4 + (1 : Int32))), (3, .int (t0 + t1)), (0, .ref 669), (1, .int v1), (2, .int v2)]) (st' := []) 4 rfl ?_
  refine db_Rn (lv1 := [(0, .ref 669), (1, .int v1), (2, .int v2), (3, .int (t0 + t1)), (4, .int (v4 + (1 : Int32)))]) rfl rfl rfl ?_
  exact zh5 _ _ _ _ _
noncomputable def db_f318_b86 (h5 : db_S → Int32 → Int32 → Int32 → Int32 → Option (Int32 × db_S)) (s : db_S) (v1 : Int32) (v2 : Int32) (v3 : Int32) (v4 : Int32) : Option (Int32 × db_S) :=
  ((db_rI s 679 v4).bind fun x1 => (cond (db_cnd .ge x1 0) ((db_rI s 679 v4).bind fun x2 => ((db_f290 s x2).bind fun q3 => (db_f318_b112 h5 s v1 v2 v4 v3 q3))) (db_f318_b112 h5 s v1 v2 v4 v3 (0 : Int32))))
set_option maxRecDepth 100000 in
theorem db_f318_b86_ok {X : db_X} {d : Nat}  {h5 : db_S → Int32 → Int32 → Int32 → Int32 → Option (Int32 × db_S)} {s : db_S} {v1 : Int32} {v2 : Int32} {v3 : Int32} {v4 : Int32} (zh5 : ∀ (s' : db_S) (v1 : Int32) (v2 : Int32) (v3 : Int32) (v4 : Int32) , db_Rf X (d + 2) dbm_318 5 [(0, .ref 669), (1, .int v1), (2, .int v2), (3, .int v3), (4, .int v4)] [] s' db_zI (h5 s' v1 v2 v3 v4)) : db_Rf X (d + 2) dbm_318 86 [(0, .ref 669), (1, .int v1), (2, .int v2), (3, .int v3), (4, .int v4)] [] s db_zI (db_f318_b86 h5 s v1 v2 v3 v4) := by
  unfold db_f318_b86
  refine db_Rgo (pc' := 93) (lv' := [(0, .ref 669), (1, .int v1), (2, .int v2), (3, .int v3), (4, .int v4)]) (st' := [.int v4, .ref 679, .int v3]) 4 rfl ?_
  refine db_RldI (pc' := 94) (lv1 := [(0, .ref 669), (1, .int v1), (2, .int v2), (3, .int v3), (4, .int v4)]) rfl rfl rfl fun x1 => ?_
  refine db_Rif (pc' := 97) (tg := 101) (lv1 := [(0, .ref 669), (1, .int v1), (2, .int v2), (3, .int v3), (4, .int v4)]) rfl rfl rfl rfl ?_ ?_
  · refine db_Rgo (pc' := 108) (lv' := [(0, .ref 669), (1, .int v1), (2, .int v2), (4, .int v4)]) (st' := [.int v4, .ref 679, .ref 669, .int v3]) 4 rfl ?_
    refine db_RldI (pc' := 109) (lv1 := [(0, .ref 669), (1, .int v1), (2, .int v2), (4, .int v4)]) rfl rfl rfl fun x2 => ?_
    refine db_RcyI (mr' := dbm_290) (as := [.ref 669, .int x2]) (rest := [.int v3]) (pc' := 112) (lv1 := [(0, .ref 669), (1, .int v1), (2, .int v2), (4, .int v4)]) rfl rfl rfl rfl rfl (db_f290_ok) fun q3 => ?_
    exact db_f318_b112_ok zh5
  refine db_Rgo (pc' := 112) (lv' := [(0, .ref 669), (1, .int v1), (2, .int v2), (3, .int v3), (4, .int v4)]) (st' := [.int (0 : Int32), .int v3]) 2 rfl ?_
  refine db_Rn (lv1 := [(0, .ref 669), (1, .int v1), (2, .int v2), (4, .int v4)]) rfl rfl rfl ?_
  exact db_f318_b112_ok zh5
noncomputable def db_f318_b25 (h5 : db_S → Int32 → Int32 → Int32 → Int32 → Option (Int32 × db_S)) : Nat → db_S → Int32 → Int32 → Int32 → Int32 → Int32 → Option (Int32 × db_S)
  | 0, _, _, _, _, _, _ => none
  | n + 1, s, v1, v2, v3, v4, v5 =>
    ((db_rI s 674 (3 : Int32)).bind fun x1 => (cond (db_cnd .ge v5 x1) (db_f318_b86 h5 s v1 v2 v3 v4) ((db_rI s 679 v4).bind fun x2 => (cond (db_cnd .ge x2 0) (db_f318_b86 h5 s v1 v2 v3 v4) ((db_f287 s (s.1 669 30) v5).bind fun q3 => (cond q3 ((db_f319 s v5 v4 v1 v2).bind fun q5 => (cond q5 ((db_wI s 679 v4 v5).bind fun s7 => (db_f318_b80 h5 (db_f318_b25 h5 n) s7 v1 v2 v3 v4 v5)) (db_f318_b80 h5 (db_f318_b25 h5 n) s v1 v2 v3 v4 v5))) (db_f318_b80 h5 (db_f318_b25 h5 n) s v1 v2 v3 v4 v5)))))))
set_option maxRecDepth 100000 in
theorem db_f318_b25_ok {X : db_X} {d : Nat}  {h5 : db_S → Int32 → Int32 → Int32 → Int32 → Option (Int32 × db_S)} (zh5 : ∀ (s' : db_S) (v1 : Int32) (v2 : Int32) (v3 : Int32) (v4 : Int32) , db_Rf X (d + 2) dbm_318 5 [(0, .ref 669), (1, .int v1), (2, .int v2), (3, .int v3), (4, .int v4)] [] s' db_zI (h5 s' v1 v2 v3 v4)) (n : Nat) : ∀ (s : db_S) (v1 : Int32) (v2 : Int32) (v3 : Int32) (v4 : Int32) (v5 : Int32), db_Rf X (d + 2) dbm_318 25 [(0, .ref 669), (1, .int v1), (2, .int v2), (3, .int v3), (4, .int v4), (5, .int v5)] [] s db_zI (db_f318_b25 h5 n s v1 v2 v3 v4 v5) := by
  induction n with
  | zero => intros; exact db_Rnone
  | succ n ih =>
    intro s v1 v2 v3 v4 v5
    unfold db_f318_b25
    refine db_Rgo (pc' := 32) (lv' := [(0, .ref 669), (1, .int v1), (2, .int v2), (3, .int v3), (4, .int v4), (5, .int v5)]) (st' := [.int (3 : Int32), .ref 674, .int v5]) 4 rfl ?_
    refine db_RldI (pc' := 33) (lv1 := [(0, .ref 669), (1, .int v1), (2, .int v2), (3, .int v3), (4, .int v4), (5, .int v5)]) rfl rfl rfl fun x1 => ?_
    refine db_Ric (pc' := 36) (tg := 86) (lv1 := [(0, .ref 669), (1, .int v1), (2, .int v2), (3, .int v3), (4, .int v4), (5, .int v5)]) rfl rfl rfl rfl ?_ ?_
    · refine db_Rn (lv1 := [(0, .ref 669), (1, .int v1), (2, .int v2), (3, .int v3), (4, .int v4)]) rfl rfl rfl ?_
      exact db_f318_b86_ok zh5
    refine db_Rgo (pc' := 42) (lv' := [(0, .ref 669), (1, .int v1), (2, .int v2), (3, .int v3), (4, .int v4), (5, .int v5)]) (st' := [.int v4, .ref 679]) 3 rfl ?_
    refine db_RldI (pc' := 43) (lv1 := [(0, .ref 669), (1, .int v1), (2, .int v2), (3, .int v3), (4, .int v4), (5, .int v5)]) rfl rfl rfl fun x2 => ?_
    refine db_Rif (pc' := 46) (tg := 86) (lv1 := [(0, .ref 669), (1, .int v1), (2, .int v2), (3, .int v3), (4, .int v4), (5, .int v5)]) rfl rfl rfl rfl ?_ ?_
    · refine db_Rn (lv1 := [(0, .ref 669), (1, .int v1), (2, .int v2), (3, .int v3), (4, .int v4)]) rfl rfl rfl ?_
      exact db_f318_b86_ok zh5
    refine db_Rgo (pc' := 52) (lv' := [(0, .ref 669), (1, .int v1), (2, .int v2), (3, .int v3), (4, .int v4), (5, .int v5)]) (st' := [.int v5, .int (s.1 669 30)]) 3 rfl ?_
    refine db_RcyB (mr' := dbm_287) (as := [.int (s.1 669 30), .int v5]) (rest := []) (pc' := 55) (lv1 := [(0, .ref 669), (1, .int v1), (2, .int v2), (3, .int v3), (4, .int v4), (5, .int v5)]) rfl rfl rfl rfl rfl (db_f287_ok) fun q3 => ?_
    refine db_RifBe (pc' := 58) (tg := 80) (lv1 := [(0, .ref 669), (1, .int v1), (2, .int v2), (3, .int v3), (4, .int v4), (5, .int v5)]) rfl rfl rfl rfl ?_ ?_
    · exact db_f318_b80_ok zh5 ih
    refine db_Rgo (pc' := 65) (lv' := [(0, .ref 669), (1, .int v1), (2, .int v2), (3, .int v3), (4, .int v4), (5, .int v5)]) (st' := [.int v2, .int v1, .int v4, .int v5, .ref 669]) 5 rfl ?_
    refine db_RcyB (mr' := dbm_319) (as := [.ref 669, .int v5, .int v4, .int v1, .int v2]) (rest := []) (pc' := 68) (lv1 := [(0, .ref 669), (1, .int v1), (2, .int v2), (3, .int v3), (4, .int v4), (5, .int v5)]) rfl rfl rfl rfl rfl (db_f319_ok) fun q5 => ?_
    refine db_RifBe (pc' := 71) (tg := 80) (lv1 := [(0, .ref 669), (1, .int v1), (2, .int v2), (3, .int v3), (4, .int v4), (5, .int v5)]) rfl rfl rfl rfl ?_ ?_
    · exact db_f318_b80_ok zh5 ih
    refine db_Rgo (pc' := 79) (lv' := [(0, .ref 669), (1, .int v1), (2, .int v2), (3, .int v3), (4, .int v4), (5, .int v5)]) (st' := [.int v5, .int v4, .ref 679]) 4 rfl ?_
    refine db_RstI (pc' := 80) (lv1 := [(0, .ref 669), (1, .int v1), (2, .int v2), (3, .int v3), (4, .int v4), (5, .int v5)]) rfl rfl rfl fun s7 => ?_
    exact db_f318_b80_ok zh5 ih
noncomputable def db_f318_b5 : Nat → db_S → Int32 → Int32 → Int32 → Int32 → Option (Int32 × db_S)
  | 0, _, _, _, _, _ => none
  | n + 1, s, v1, v2, v3, v4 =>
    (cond (db_cnd .ge v4 (s.1 669 29)) ((db_f322 s v1 v2).bind fun q1 => (cond q1 (some ((-v3), s)) (some (v3, s)))) ((db_wI s 679 v4 (-1 : Int32)).bind fun s3 => (db_f318_b25 (db_f318_b5 n) db_FU s3 v1 v2 v3 v4 (0 : Int32))))
set_option maxRecDepth 100000 in
theorem db_f318_b5_ok {X : db_X} {d : Nat}  (n : Nat) : ∀ (s : db_S) (v1 : Int32) (v2 : Int32) (v3 : Int32) (v4 : Int32), db_Rf X (d + 2) dbm_318 5 [(0, .ref 669), (1, .int v1), (2, .int v2), (3, .int v3), (4, .int v4)] [] s db_zI (db_f318_b5 n s v1 v2 v3 v4) := by
  induction n with
  | zero => intros; exact db_Rnone
  | succ n ih =>
    intro s v1 v2 v3 v4
    unfold db_f318_b5
    refine db_Rgo (pc' := 11) (lv' := [(0, .ref 669), (1, .int v1), (2, .int v2), (3, .int v3), (4, .int v4)]) (st' := [.int (s.1 669 29), .int v4]) 3 rfl ?_
    refine db_Ric (pc' := 14) (tg := 120) (lv1 := [(0, .ref 669), (1, .int v1), (2, .int v2), (3, .int v3), (4, .int v4)]) rfl rfl rfl rfl ?_ ?_
    · refine db_Rgo (pc' := 123) (lv' := [(0, .ref 669), (1, .int v1), (2, .int v2), (3, .int v3)]) (st' := [.int v2, .int v1, .ref 669]) 3 rfl ?_
      refine db_RcyB (mr' := dbm_322) (as := [.ref 669, .int v1, .int v2]) (rest := []) (pc' := 126) (lv1 := [(0, .ref 669), (1, .int v1), (2, .int v2), (3, .int v3)]) rfl rfl rfl rfl rfl (db_f322_ok) fun q1 => ?_
      refine db_RifBe (pc' := 129) (tg := 134) (lv1 := [(0, .ref 669), (1, .int v1), (2, .int v2), (3, .int v3)]) rfl rfl rfl rfl ?_ ?_
      · refine db_Rgo (pc' := 135) (lv' := [(3, .int v3)]) (st' := [.int v3]) 1 rfl ?_
        exact db_Rret (lv1 := []) rfl rfl rfl rfl
      refine db_Rgo (pc' := 135) (lv' := [(0, .ref 669), (1, .int v1), (2, .int v2), (3, .int v3)]) (st' := [.int (-v3)]) 3 rfl ?_
      exact db_Rret (lv1 := []) rfl rfl rfl rfl
    refine db_Rgo (pc' := 21) (lv' := [(0, .ref 669), (1, .int v1), (2, .int v2), (3, .int v3), (4, .int v4)]) (st' := [.int (-1 : Int32), .int v4, .ref 679]) 4 rfl ?_
    refine db_RstI (pc' := 22) (lv1 := [(0, .ref 669), (1, .int v1), (2, .int v2), (3, .int v3), (4, .int v4)]) rfl rfl rfl fun s3 => ?_
    refine db_Rgo (pc' := 25) (lv' := [(5, .int (0 : Int32)), (0, .ref 669), (1, .int v1), (2, .int v2), (3, .int v3), (4, .int v4)]) (st' := []) 2 rfl ?_
    refine db_Rn (lv1 := [(0, .ref 669), (1, .int v1), (2, .int v2), (3, .int v3), (4, .int v4), (5, .int (0 : Int32))]) rfl rfl rfl ?_
    exact db_f318_b25_ok ih db_FU _ _ _ _ _ _
/-- DreamBookModel.reads(II)I -/
noncomputable def db_f318 (s : db_S) (v1 : Int32) (v2 : Int32) : Option (Int32 × db_S) :=
  (db_f318_b5 db_FU s v1 v2 (0 : Int32) (0 : Int32))
set_option maxRecDepth 100000 in
theorem db_f318_ok {X : db_X} {d : Nat} {s : db_S} {v1 : Int32} {v2 : Int32} : db_Rf X (d + 2) dbm_318 0 (lv_args 0 [.ref 669, .int v1, .int v2]) [] s db_zI (db_f318 s v1 v2) := by
  show db_Rf _ _ _ 0 [(0, .ref 669), (1, .int v1), (2, .int v2)] [] _ _ _
  unfold db_f318
  refine db_Rgo (pc' := 5) (lv' := [(4, .int (0 : Int32)), (3, .int (0 : Int32)), (0, .ref 669), (1, .int v1), (2, .int v2)]) (st' := []) 4 rfl ?_
  refine db_Rn (lv1 := [(0, .ref 669), (1, .int v1), (2, .int v2), (3, .int (0 : Int32)), (4, .int (0 : Int32))]) rfl rfl rfl ?_
  exact db_f318_b5_ok db_FU _ _ _ _ _
/-- DreamBookModel.readsDream(III)I -/
noncomputable def db_f316 (s : db_S) (v1 : Int32) (v2 : Int32) (v3 : Int32) : Option (Int32 × db_S) :=
  (db_bd (db_f283 s) fun q1 s2 => ((db_pI s2 669 30 q1).bind fun s3 => ((db_f317 s3 v1).bind fun s5 => (db_bd (db_f318 s5 v2 v3) fun q6 s7 => (some (q6, s7))))))
set_option maxRecDepth 100000 in
theorem db_f316_ok {X : db_X} {d : Nat} {s : db_S} {v1 : Int32} {v2 : Int32} {v3 : Int32} : db_Rf X (d + 4) dbm_316 0 (lv_args 0 [.ref 669, .int v1, .int v2, .int v3]) [] s db_zI (db_f316 s v1 v2 v3) := by
  show db_Rf _ _ _ 0 [(0, .ref 669), (1, .int v1), (2, .int v2), (3, .int v3)] [] _ _ _
  unfold db_f316
  refine db_Rgo (pc' := 2) (lv' := [(0, .ref 669), (1, .int v1), (2, .int v2), (3, .int v3)]) (st' := [.ref 669, .ref 669]) 2 rfl ?_
  refine db_RcdI (mr' := dbm_283) (as := [.ref 669]) (rest := [.ref 669]) (pc' := 5) (lv1 := [(0, .ref 669), (1, .int v1), (2, .int v2), (3, .int v3)]) rfl rfl rfl rfl rfl (db_f283_ok) fun q1 s2 => ?_
  refine db_RpuI (pc' := 8) (lv1 := [(0, .ref 669), (1, .int v1), (2, .int v2), (3, .int v3)]) rfl rfl rfl rfl rfl rfl (by decide) rfl rfl fun s3 => ?_
  refine db_Rgo (pc' := 10) (lv' := [(0, .ref 669), (1, .int v1), (2, .int v2), (3, .int v3)]) (st' := [.int v1, .ref 669]) 2 rfl ?_
  refine db_RcV (mr' := dbm_317) (as := [.ref 669, .int v1]) (rest := []) (pc' := 13) (lv1 := [(0, .ref 669), (1, .int v1), (2, .int v2), (3, .int v3)]) rfl rfl rfl rfl rfl (db_f317_ok) fun s5 => ?_
  refine db_Rgo (pc' := 16) (lv' := [(0, .ref 669), (1, .int v1), (2, .int v2), (3, .int v3)]) (st' := [.int v3, .int v2, .ref 669]) 3 rfl ?_
  refine db_RcdI (mr' := dbm_318) (as := [.ref 669, .int v2, .int v3]) (rest := []) (pc' := 19) (lv1 := [(0, .ref 669), (1, .int v1), (2, .int v2), (3, .int v3)]) rfl rfl rfl rfl rfl (db_f318_ok) fun q6 s7 => ?_
  exact db_Rret (lv1 := [(0, .ref 669), (1, .int v1), (2, .int v2), (3, .int v3)]) rfl rfl rfl rfl
/-- DreamBookModel.reading(III)I -/
noncomputable def db_f313 (s : db_S) (v1 : Int32) (v2 : Int32) (v3 : Int32) : Option (Int32 × db_S) :=
  ((db_pI s 669 1 (0 : Int32)).bind fun s1 => ((db_pI s1 669 0 (0 : Int32)).bind fun s2 => (db_bd (db_f314 s2 v1 v2 v3) fun q3 s4 => (cond q3 (db_bd (db_f316 s4 v1 v2 v3) fun q5 s6 => (some (q5, s6))) (some ((-1 : Int32), s4))))))
set_option maxRecDepth 100000 in
theorem db_f313_ok {X : db_X} {d : Nat} {s : db_S} {v1 : Int32} {v2 : Int32} {v3 : Int32} : db_Rf X (d + 5) dbm_313 0 (lv_args 0 [.ref 669, .int v1, .int v2, .int v3]) [] s db_zI (db_f313 s v1 v2 v3) := by
  show db_Rf _ _ _ 0 [(0, .ref 669), (1, .int v1), (2, .int v2), (3, .int v3)] [] _ _ _
  unfold db_f313
  refine db_Rgo (pc' := 2) (lv' := [(0, .ref 669), (1, .int v1), (2, .int v2), (3, .int v3)]) (st' := [.int (0 : Int32), .ref 669]) 2 rfl ?_
  refine db_RpuI (pc' := 5) (lv1 := [(0, .ref 669), (1, .int v1), (2, .int v2), (3, .int v3)]) rfl rfl rfl rfl rfl rfl (by decide) rfl rfl fun s1 => ?_
  refine db_Rgo (pc' := 7) (lv' := [(0, .ref 669), (1, .int v1), (2, .int v2), (3, .int v3)]) (st' := [.int (0 : Int32), .ref 669]) 2 rfl ?_
  refine db_RpuI (pc' := 10) (lv1 := [(0, .ref 669), (1, .int v1), (2, .int v2), (3, .int v3)]) rfl rfl rfl rfl rfl rfl (by decide) rfl rfl fun s2 => ?_
  refine db_Rgo (pc' := 14) (lv' := [(0, .ref 669), (1, .int v1), (2, .int v2), (3, .int v3)]) (st' := [.int v3, .int v2, .int v1, .ref 669]) 4 rfl ?_
  refine db_RcdB (mr' := dbm_314) (as := [.ref 669, .int v1, .int v2, .int v3]) (rest := []) (pc' := 17) (lv1 := [(0, .ref 669), (1, .int v1), (2, .int v2), (3, .int v3)]) rfl rfl rfl rfl rfl (db_f314_ok) fun q3 s4 => ?_
  refine db_RifBe (pc' := 20) (tg := 30) (lv1 := [(0, .ref 669), (1, .int v1), (2, .int v2), (3, .int v3)]) rfl rfl rfl rfl ?_ ?_
  · refine db_Rgo (pc' := 31) (lv' := []) (st' := [.int (-1 : Int32)]) 1 rfl ?_
    exact db_Rret (lv1 := []) rfl rfl rfl rfl
  refine db_Rgo (pc' := 24) (lv' := [(0, .ref 669), (1, .int v1), (2, .int v2), (3, .int v3)]) (st' := [.int v3, .int v2, .int v1, .ref 669]) 4 rfl ?_
  refine db_RcdI (mr' := dbm_316) (as := [.ref 669, .int v1, .int v2, .int v3]) (rest := []) (pc' := 27) (lv1 := [(0, .ref 669), (1, .int v1), (2, .int v2), (3, .int v3)]) rfl rfl rfl rfl rfl (db_f316_ok) fun q5 s6 => ?_
  refine db_Rgo (pc' := 31) (lv' := [(0, .ref 669), (1, .int v1), (2, .int v2), (3, .int v3)]) (st' := [.int q5]) 1 rfl ?_
  exact db_Rret (lv1 := []) rfl rfl rfl rfl
noncomputable def db_f133_b2 : Nat → db_S → Nat → Int32 → Int32 → Option (Bool × db_S)
  | 0, _, _, _, _ => none
  | n + 1, s, a1, v2, v3 =>
    (cond (db_cnd .ge v3 v2) (some (true, s)) ((db_rL s a1 v3).bind fun x1 => (cond (db_cnd .lt (lg_cmp x1 (0 : Int64)) 0) (some (false, s)) ((db_rL s a1 v3).bind fun x2 => ((db_rI s 21 (0 : Int32)).bind fun x3 => (cond (db_cnd .lt (lg_cmp x2 (Int32.toInt64 x3)) 0) ((db_rL s a1 v3).bind fun x4 => ((db_wI s 272 v3 (Int64.toInt32 x4)).bind fun s5 => (db_f133_b2 n s5 a1 v2 (v3 + (1 : Int32))))) (some (false, s))))))))
set_option maxRecDepth 100000 in
theorem db_f133_b2_ok {X : db_X} {d : Nat}  (n : Nat) : ∀ (s : db_S) (a1 : Nat) (v2 : Int32) (v3 : Int32), db_Rf X (d + 0) dbm_133 2 [(0, .ref 4), (1, .ref (a1 + 4)), (2, .int v2), (3, .int v3)] [] s db_zB (db_f133_b2 n s (a1 + 4) v2 v3) := by
  induction n with
  | zero => intros; exact db_Rnone
  | succ n ih =>
    intro s a1 v2 v3
    unfold db_f133_b2
    refine db_Rgo (pc' := 4) (lv' := [(0, .ref 4), (1, .ref (a1 + 4)), (2, .int v2), (3, .int v3)]) (st' := [.int v2, .int v3]) 2 rfl ?_
    refine db_Ric (pc' := 7) (tg := 53) (lv1 := [(0, .ref 4), (1, .ref (a1 + 4)), (2, .int v2), (3, .int v3)]) rfl rfl rfl rfl ?_ ?_
    · refine db_Rgo (pc' := 54) (lv' := []) (st' := [.int (1 : Int32)]) 1 rfl ?_
      exact db_Rret (lv1 := []) rfl rfl rfl rfl
    refine db_Rgo (pc' := 9) (lv' := [(0, .ref 4), (1, .ref (a1 + 4)), (2, .int v2), (3, .int v3)]) (st' := [.int v3, .ref (a1 + 4)]) 2 rfl ?_
    refine db_RldL (pc' := 10) (lv1 := [(0, .ref 4), (1, .ref (a1 + 4)), (2, .int v2), (3, .int v3)]) rfl rfl rfl fun x1 => ?_
    refine db_Rgo (pc' := 12) (lv' := [(0, .ref 4), (1, .ref (a1 + 4)), (2, .int v2), (3, .int v3)]) (st' := [.int (lg_cmp x1 (0 : Int64))]) 2 rfl ?_
    refine db_Rif (pc' := 15) (tg := 32) (lv1 := [(0, .ref 4), (1, .ref (a1 + 4)), (2, .int v2), (3, .int v3)]) rfl rfl rfl rfl ?_ ?_
    · refine db_Rgo (pc' := 33) (lv' := []) (st' := [.int (0 : Int32)]) 1 rfl ?_
      exact db_Rret (lv1 := []) rfl rfl rfl rfl
    refine db_Rgo (pc' := 17) (lv' := [(0, .ref 4), (1, .ref (a1 + 4)), (2, .int v2), (3, .int v3)]) (st' := [.int v3, .ref (a1 + 4)]) 2 rfl ?_
    refine db_RldL (pc' := 18) (lv1 := [(0, .ref 4), (1, .ref (a1 + 4)), (2, .int v2), (3, .int v3)]) rfl rfl rfl fun x2 => ?_
    refine db_Rgo (pc' := 26) (lv' := [(0, .ref 4), (1, .ref (a1 + 4)), (2, .int v2), (3, .int v3)]) (st' := [.int (0 : Int32), .ref 21, .long x2]) 4 rfl ?_
    refine db_RldI (pc' := 27) (lv1 := [(0, .ref 4), (1, .ref (a1 + 4)), (2, .int v2), (3, .int v3)]) rfl rfl rfl fun x3 => ?_
    refine db_Rgo (pc' := 29) (lv' := [(0, .ref 4), (1, .ref (a1 + 4)), (2, .int v2), (3, .int v3)]) (st' := [.int (lg_cmp x2 (Int32.toInt64 x3))]) 2 rfl ?_
    refine db_Rif (pc' := 32) (tg := 34) (lv1 := [(0, .ref 4), (1, .ref (a1 + 4)), (2, .int v2), (3, .int v3)]) rfl rfl rfl rfl ?_ ?_
    · refine db_Rgo (pc' := 44) (lv' := [(0, .ref 4), (1, .ref (a1 + 4)), (2, .int v2), (3, .int v3)]) (st' := [.int v3, .ref (a1 + 4), .int v3, .ref 272]) 6 rfl ?_
      refine db_RldL (pc' := 45) (lv1 := [(0, .ref 4), (1, .ref (a1 + 4)), (2, .int v2), (3, .int v3)]) rfl rfl rfl fun x4 => ?_
      refine db_Rgo (pc' := 46) (lv' := [(0, .ref 4), (1, .ref (a1 + 4)), (2, .int v2), (3, .int v3)]) (st' := [.int (Int64.toInt32 x4), .int v3, .ref 272]) 1 rfl ?_
      refine db_RstI (pc' := 47) (lv1 := [(0, .ref 4), (1, .ref (a1 + 4)), (2, .int v2), (3, .int v3)]) rfl rfl rfl fun s5 => ?_
      refine db_Rgo (pc' := 2) (lv' := [(3, .int (v3 + (1 : Int32))), (0, .ref 4), (1, .ref (a1 + 4)), (2, .int v2)]) (st' := []) 2 rfl ?_
      refine db_Rn (lv1 := [(0, .ref 4), (1, .ref (a1 + 4)), (2, .int v2), (3, .int (v3 + (1 : Int32)))]) rfl rfl rfl ?_
      exact ih _ _ _ _
    refine db_Rgo (pc' := 33) (lv' := []) (st' := [.int (0 : Int32)]) 1 rfl ?_
    exact db_Rret (lv1 := []) rfl rfl rfl rfl
/-- DreamBook.takeRow([JI)Z -/
noncomputable def db_f133 (s : db_S) (a1 : Nat) (v2 : Int32) : Option (Bool × db_S) :=
  (db_f133_b2 db_FU s a1 v2 (0 : Int32))
set_option maxRecDepth 100000 in
theorem db_f133_ok {X : db_X} {d : Nat} {s : db_S} {a1 : Nat} {v2 : Int32} : db_Rf X (d + 0) dbm_133 0 (lv_args 0 [.ref 4, .ref (a1 + 4), .int v2]) [] s db_zB (db_f133 s (a1 + 4) v2) := by
  show db_Rf _ _ _ 0 [(0, .ref 4), (1, .ref (a1 + 4)), (2, .int v2)] [] _ _ _
  unfold db_f133
  refine db_Rgo (pc' := 2) (lv' := [(3, .int (0 : Int32)), (0, .ref 4), (1, .ref (a1 + 4)), (2, .int v2)]) (st' := []) 2 rfl ?_
  refine db_Rn (lv1 := [(0, .ref 4), (1, .ref (a1 + 4)), (2, .int v2), (3, .int (0 : Int32))]) rfl rfl rfl ?_
  exact db_f133_b2_ok db_FU _ _ _ _
noncomputable def db_f132_b84 (s : db_S) (v2 : Int32) (v3 : Int32) (v4 : Int32) (v5 : Int32) : Option (Int32 × db_S) :=
  (cond (db_cnd .eq v5 0) ((db_f128 s v3 v4).bind fun q1 => ((db_f129 s v3 v4).bind fun q3 => (db_bd (db_f130 s 272 v2 q3) fun q5 s6 => (db_bd (db_f87 s6 (q1 * q5)) fun q7 s8 => (some (q7, s8)))))) (db_bd (db_f37 s v5) fun q9 s10 => (some (q9, s10))))
set_option maxRecDepth 100000 in
theorem db_f132_b84_ok {X : db_X} {d : Nat}  {s : db_S} {v2 : Int32} {v3 : Int32} {v4 : Int32} {v5 : Int32} : db_Rf X (d + 3) dbm_132 84 [(0, .ref 4), (2, .int v2), (3, .int v3), (4, .int v4), (5, .int v5)] [] s db_zI (db_f132_b84 s v2 v3 v4 v5) := by
  unfold db_f132_b84
  refine db_Rgo (pc' := 86) (lv' := [(0, .ref 4), (2, .int v2), (3, .int v3), (4, .int v4), (5, .int v5)]) (st' := [.int v5]) 1 rfl ?_
  refine db_Rif (pc' := 89) (tg := 96) (lv1 := [(0, .ref 4), (2, .int v2), (3, .int v3), (4, .int v4), (5, .int v5)]) rfl rfl rfl rfl ?_ ?_
  · refine db_Rgo (pc' := 104) (lv' := [(0, .ref 4), (2, .int v2), (3, .int v3), (4, .int v4)]) (st' := [.int v4, .int v3, .ref 271, .ref 4]) 5 rfl ?_
    refine db_RcyI (mr' := dbm_128) (as := [.ref 271, .int v3, .int v4]) (rest := [.ref 4]) (pc' := 107) (lv1 := [(0, .ref 4), (2, .int v2), (3, .int v3), (4, .int v4)]) rfl rfl rfl rfl rfl (db_f128_ok) fun q1 => ?_
    refine db_Rgo (pc' := 126) (lv' := [(0, .ref 4), (2, .int v2), (3, .int v3), (4, .int v4)]) (st' := [.int v4, .int v3, .ref 271, .int v2, .ref 272, .ref 271, .int q1, .ref 4]) 10 rfl ?_
    refine db_RcyI (mr' := dbm_129) (as := [.ref 271, .int v3, .int v4]) (rest := [.int v2, .ref 272, .ref 271, .int q1, .ref 4]) (pc' := 129) (lv1 := [(0, .ref 4), (2, .int v2), (3, .int v3), (4, .int v4)]) rfl rfl rfl rfl rfl (db_f129_ok) fun q3 => ?_
    refine db_RcdI (mr' := dbm_130) (as := [.ref 271, .ref 272, .int v2, .int q3]) (rest := [.int q1, .ref 4]) (pc' := 132) (lv1 := [(0, .ref 4), (2, .int v2), (3, .int v3), (4, .int v4)]) rfl rfl rfl rfl rfl (db_f130_ok) fun q5 s6 => ?_
    refine db_Rgo (pc' := 133) (lv' := [(0, .ref 4), (2, .int v2), (3, .int v3), (4, .int v4)]) (st' := [.int (q1 * q5), .ref 4]) 1 rfl ?_
    refine db_RcdI (mr' := dbm_87) (as := [.ref 4, .int (q1 * q5)]) (rest := []) (pc' := 136) (lv1 := [(0, .ref 4), (2, .int v2), (3, .int v3), (4, .int v4)]) rfl rfl rfl rfl rfl (db_f87_ok) fun q7 s8 => ?_
    exact db_Rret (lv1 := [(0, .ref 4), (2, .int v2), (3, .int v3), (4, .int v4)]) rfl rfl rfl rfl
  refine db_Rgo (pc' := 92) (lv' := [(0, .ref 4), (2, .int v2), (3, .int v3), (4, .int v4), (5, .int v5)]) (st' := [.int v5, .ref 4]) 2 rfl ?_
  refine db_RcdI (mr' := dbm_37) (as := [.ref 4, .int v5]) (rest := []) (pc' := 95) (lv1 := [(0, .ref 4), (2, .int v2), (3, .int v3), (4, .int v4), (5, .int v5)]) rfl rfl rfl rfl rfl (db_f37_ok) fun q9 s10 => ?_
  exact db_Rret (lv1 := [(0, .ref 4), (2, .int v2), (3, .int v3), (4, .int v4), (5, .int v5)]) rfl rfl rfl rfl
noncomputable def db_f132_b81 (s : db_S) (v2 : Int32) (v3 : Int32) (v4 : Int32) : Option (Int32 × db_S) :=
  (db_f132_b84 s v2 v3 v4 (2 : Int32))
set_option maxRecDepth 100000 in
theorem db_f132_b81_ok {X : db_X} {d : Nat}  {s : db_S} {v2 : Int32} {v3 : Int32} {v4 : Int32} : db_Rf X (d + 3) dbm_132 81 [(0, .ref 4), (2, .int v2), (3, .int v3), (4, .int v4)] [] s db_zI (db_f132_b81 s v2 v3 v4) := by
  unfold db_f132_b81
  refine db_Rgo (pc' := 84) (lv' := [(5, .int (2 : Int32)), (0, .ref 4), (2, .int v2), (3, .int v3), (4, .int v4)]) (st' := []) 2 rfl ?_
  refine db_Rn (lv1 := [(0, .ref 4), (2, .int v2), (3, .int v3), (4, .int v4), (5, .int (2 : Int32))]) rfl rfl rfl ?_
  exact db_f132_b84_ok
noncomputable def db_f132_b49 (s : db_S) (v1 : Int32) (v2 : Int32) (v3 : Int32) (v4 : Int32) (v5 : Int32) : Option (Int32 × db_S) :=
  (cond (db_cnd .ne v5 0) (db_f132_b84 s v2 v3 v4 v5) ((db_f126 s v3 v4).bind fun q1 => (cond q1 ((db_rR 6 v1).bind fun y3 => (db_bd (db_f133 s y3 v2) fun q4 s5 => (cond q4 (db_f132_b84 s5 v2 v3 v4 v5) (db_f132_b81 s5 v2 v3 v4)))) (db_f132_b81 s v2 v3 v4))))
set_option maxRecDepth 100000 in
theorem db_f132_b49_ok {X : db_X} {d : Nat}  {s : db_S} {v1 : Int32} {v2 : Int32} {v3 : Int32} {v4 : Int32} {v5 : Int32} : db_Rf X (d + 3) dbm_132 49 [(0, .ref 4), (1, .int v1), (2, .int v2), (3, .int v3), (4, .int v4), (5, .int v5)] [] s db_zI (db_f132_b49 s v1 v2 v3 v4 v5) := by
  unfold db_f132_b49
  refine db_Rgo (pc' := 51) (lv' := [(0, .ref 4), (1, .int v1), (2, .int v2), (3, .int v3), (4, .int v4), (5, .int v5)]) (st' := [.int v5]) 1 rfl ?_
  refine db_Rif (pc' := 54) (tg := 84) (lv1 := [(0, .ref 4), (1, .int v1), (2, .int v2), (3, .int v3), (4, .int v4), (5, .int v5)]) rfl rfl rfl rfl ?_ ?_
  · refine db_Rn (lv1 := [(0, .ref 4), (2, .int v2), (3, .int v3), (4, .int v4), (5, .int v5)]) rfl rfl rfl ?_
    exact db_f132_b84_ok
  refine db_Rgo (pc' := 58) (lv' := [(0, .ref 4), (1, .int v1), (2, .int v2), (3, .int v3), (4, .int v4), (5, .int v5)]) (st' := [.int v4, .int v3, .ref 4]) 3 rfl ?_
  refine db_RcyB (mr' := dbm_126) (as := [.ref 4, .int v3, .int v4]) (rest := []) (pc' := 61) (lv1 := [(0, .ref 4), (1, .int v1), (2, .int v2), (3, .int v3), (4, .int v4), (5, .int v5)]) rfl rfl rfl rfl rfl (db_f126_ok) fun q1 => ?_
  refine db_RifBe (pc' := 64) (tg := 81) (lv1 := [(0, .ref 4), (1, .int v1), (2, .int v2), (3, .int v3), (4, .int v4), (5, .int v5)]) rfl rfl rfl rfl ?_ ?_
  · refine db_Rn (lv1 := [(0, .ref 4), (2, .int v2), (3, .int v3), (4, .int v4)]) rfl rfl rfl ?_
    exact db_f132_b81_ok
  refine db_Rgo (pc' := 73) (lv' := [(0, .ref 4), (1, .int v1), (2, .int v2), (3, .int v3), (4, .int v4), (5, .int v5)]) (st' := [.int v1, .ref 6, .ref 4]) 5 rfl ?_
  refine db_RldR (pc' := 74) (lv1 := [(0, .ref 4), (1, .int v1), (2, .int v2), (3, .int v3), (4, .int v4), (5, .int v5)]) rfl rfl rfl fun y3 => ?_
  refine db_Rgo (pc' := 75) (lv' := [(0, .ref 4), (1, .int v1), (2, .int v2), (3, .int v3), (4, .int v4), (5, .int v5)]) (st' := [.int v2, .ref (y3 + 4), .ref 4]) 1 rfl ?_
  refine db_RcdB (mr' := dbm_133) (as := [.ref 4, .ref (y3 + 4), .int v2]) (rest := []) (pc' := 78) (lv1 := [(0, .ref 4), (1, .int v1), (2, .int v2), (3, .int v3), (4, .int v4), (5, .int v5)]) rfl rfl rfl rfl rfl (db_f133_ok) fun q4 s5 => ?_
  refine db_RifBn (pc' := 81) (tg := 84) (lv1 := [(0, .ref 4), (1, .int v1), (2, .int v2), (3, .int v3), (4, .int v4), (5, .int v5)]) rfl rfl rfl rfl ?_ ?_
  · refine db_Rn (lv1 := [(0, .ref 4), (2, .int v2), (3, .int v3), (4, .int v4), (5, .int v5)]) rfl rfl rfl ?_
    exact db_f132_b84_ok
  refine db_Rn (lv1 := [(0, .ref 4), (2, .int v2), (3, .int v3), (4, .int v4)]) rfl rfl rfl ?_
  exact db_f132_b81_ok
noncomputable def db_f132_b31 (s : db_S) (v1 : Int32) (v2 : Int32) (v3 : Int32) (v4 : Int32) (v5 : Int32) : Option (Int32 × db_S) :=
  (cond (db_cnd .ne v5 0) (db_f132_b49 s v1 v2 v3 v4 v5) ((db_f27 s v2 (1 : Int32) (8 : Int32)).bind fun q1 => (cond q1 (db_f132_b49 s v1 v2 v3 v4 v5) (db_f132_b49 s v1 v2 v3 v4 (5 : Int32)))))
set_option maxRecDepth 100000 in
theorem db_f132_b31_ok {X : db_X} {d : Nat}  {s : db_S} {v1 : Int32} {v2 : Int32} {v3 : Int32} {v4 : Int32} {v5 : Int32} : db_Rf X (d + 3) dbm_132 31 [(0, .ref 4), (1, .int v1), (2, .int v2), (3, .int v3), (4, .int v4), (5, .int v5)] [] s db_zI (db_f132_b31 s v1 v2 v3 v4 v5) := by
  unfold db_f132_b31
  refine db_Rgo (pc' := 33) (lv' := [(0, .ref 4), (1, .int v1), (2, .int v2), (3, .int v3), (4, .int v4), (5, .int v5)]) (st' := [.int v5]) 1 rfl ?_
  refine db_Rif (pc' := 36) (tg := 49) (lv1 := [(0, .ref 4), (1, .int v1), (2, .int v2), (3, .int v3), (4, .int v4), (5, .int v5)]) rfl rfl rfl rfl ?_ ?_
  · exact db_f132_b49_ok
  refine db_Rgo (pc' := 40) (lv' := [(0, .ref 4), (1, .int v1), (2, .int v2), (3, .int v3), (4, .int v4), (5, .int v5)]) (st' := [.int (8 : Int32), .int (1 : Int32), .int v2]) 3 rfl ?_
  refine db_RcyB (mr' := dbm_27) (as := [.int v2, .int (1 : Int32), .int (8 : Int32)]) (rest := []) (pc' := 43) (lv1 := [(0, .ref 4), (1, .int v1), (2, .int v2), (3, .int v3), (4, .int v4), (5, .int v5)]) rfl rfl rfl rfl rfl (db_f27_ok) fun q1 => ?_
  refine db_RifBn (pc' := 46) (tg := 49) (lv1 := [(0, .ref 4), (1, .int v1), (2, .int v2), (3, .int v3), (4, .int v4), (5, .int v5)]) rfl rfl rfl rfl ?_ ?_
  · exact db_f132_b49_ok
  refine db_Rgo (pc' := 49) (lv' := [(5, .int (5 : Int32)), (0, .ref 4), (1, .int v1), (2, .int v2), (3, .int v3), (4, .int v4)]) (st' := []) 2 rfl ?_
  refine db_Rn (lv1 := [(0, .ref 4), (1, .int v1), (2, .int v2), (3, .int v3), (4, .int v4), (5, .int (5 : Int32))]) rfl rfl rfl ?_
  exact db_f132_b49_ok
/-- DreamBook.readRow(IIII)I -/
noncomputable def db_f132 (s : db_S) (v1 : Int32) (v2 : Int32) (v3 : Int32) (v4 : Int32) : Option (Int32 × db_S) :=
  ((db_f33 s v1).bind fun q1 => (cond (db_cnd .ne q1 0) (db_f132_b31 s v1 v2 v3 v4 q1) ((db_rI s 12 v1).bind fun x3 => (cond (db_cnd .le v2 x3) (db_f132_b31 s v1 v2 v3 v4 q1) (db_f132_b31 s v1 v2 v3 v4 (4 : Int32))))))
set_option maxRecDepth 100000 in
theorem db_f132_ok {X : db_X} {d : Nat} {s : db_S} {v1 : Int32} {v2 : Int32} {v3 : Int32} {v4 : Int32} : db_Rf X (d + 3) dbm_132 0 (lv_args 0 [.ref 4, .int v1, .int v2, .int v3, .int v4]) [] s db_zI (db_f132 s v1 v2 v3 v4) := by
  show db_Rf _ _ _ 0 [(0, .ref 4), (1, .int v1), (2, .int v2), (3, .int v3), (4, .int v4)] [] _ _ _
  unfold db_f132
  refine db_Rgo (pc' := 5) (lv' := [(0, .ref 4), (1, .int v1), (2, .int v2), (3, .int v3), (4, .int v4)]) (st' := [.int v1, .ref 5]) 3 rfl ?_
  refine db_RcyI (mr' := dbm_33) (as := [.ref 5, .int v1]) (rest := []) (pc' := 8) (lv1 := [(0, .ref 4), (1, .int v1), (2, .int v2), (3, .int v3), (4, .int v4)]) rfl rfl rfl rfl rfl (db_f33_ok) fun q1 => ?_
  refine db_Rgo (pc' := 12) (lv' := [(5, .int q1), (0, .ref 4), (1, .int v1), (2, .int v2), (3, .int v3), (4, .int v4)]) (st' := [.int q1]) 2 rfl ?_
  refine db_Rif (pc' := 15) (tg := 31) (lv1 := [(5, .int q1), (0, .ref 4), (1, .int v1), (2, .int v2), (3, .int v3), (4, .int v4)]) rfl rfl rfl rfl ?_ ?_
  · refine db_Rn (lv1 := [(0, .ref 4), (1, .int v1), (2, .int v2), (3, .int v3), (4, .int v4), (5, .int q1)]) rfl rfl rfl ?_
    exact db_f132_b31_ok
  refine db_Rgo (pc' := 24) (lv' := [(5, .int q1), (0, .ref 4), (1, .int v1), (2, .int v2), (3, .int v3), (4, .int v4)]) (st' := [.int v1, .ref 12, .int v2]) 5 rfl ?_
  refine db_RldI (pc' := 25) (lv1 := [(5, .int q1), (0, .ref 4), (1, .int v1), (2, .int v2), (3, .int v3), (4, .int v4)]) rfl rfl rfl fun x3 => ?_
  refine db_Ric (pc' := 28) (tg := 31) (lv1 := [(5, .int q1), (0, .ref 4), (1, .int v1), (2, .int v2), (3, .int v3), (4, .int v4)]) rfl rfl rfl rfl ?_ ?_
  · refine db_Rn (lv1 := [(0, .ref 4), (1, .int v1), (2, .int v2), (3, .int v3), (4, .int v4), (5, .int q1)]) rfl rfl rfl ?_
    exact db_f132_b31_ok
  refine db_Rgo (pc' := 31) (lv' := [(5, .int (4 : Int32)), (0, .ref 4), (1, .int v1), (2, .int v2), (3, .int v3), (4, .int v4)]) (st' := []) 2 rfl ?_
  refine db_Rn (lv1 := [(0, .ref 4), (1, .int v1), (2, .int v2), (3, .int v3), (4, .int v4), (5, .int (4 : Int32))]) rfl rfl rfl ?_
  exact db_f132_b31_ok
/-- DreamBookModel.numberOf(II)J -/
noncomputable def db_f324 (s : db_S) (v1 : Int32) (v2 : Int32) : Option Int64 :=
  ((db_rL s 672 (((60 : Int32) * v1) + v2)).bind fun x1 => (some x1))
set_option maxRecDepth 100000 in
theorem db_f324_ok {X : db_X} {d : Nat} {s : db_S} {v1 : Int32} {v2 : Int32} : db_Rf X (d + 0) dbm_324 0 (lv_args 0 [.ref 669, .int v1, .int v2]) [] s (db_yL s) (db_f324 s v1 v2) := by
  show db_Rf _ _ _ 0 [(0, .ref 669), (1, .int v1), (2, .int v2)] [] _ _ _
  unfold db_f324
  refine db_Rgo (pc' := 10) (lv' := [(0, .ref 669), (1, .int v1), (2, .int v2)]) (st' := [.int (((60 : Int32) * v1) + v2), .ref 672]) 7 rfl ?_
  refine db_RldL (pc' := 11) (lv1 := [(0, .ref 669), (1, .int v1), (2, .int v2)]) rfl rfl rfl fun x1 => ?_
  exact db_Rret (lv1 := [(0, .ref 669), (1, .int v1), (2, .int v2)]) rfl rfl rfl rfl
/-- DreamBookModel.isThingAt(J)Z -/
noncomputable def db_f325 (s : db_S) (v1 : Int64) : Option Bool :=
  ((db_rI s 674 (0 : Int32)).bind fun x1 => ((db_f269 s v1 (0 : Int64) (Int32.toInt64 (x1 - (1 : Int32)))).bind fun q2 => (some q2)))
set_option maxRecDepth 100000 in
theorem db_f325_ok {X : db_X} {d : Nat} {s : db_S} {v1 : Int64} : db_Rf X (d + 1) dbm_325 0 (lv_args 0 [.ref 669, .long v1]) [] s (db_yB s) (db_f325 s v1) := by
  show db_Rf _ _ _ 0 [(0, .ref 669), (1, .long v1)] [] _ _ _
  unfold db_f325
  refine db_Rgo (pc' := 7) (lv' := [(0, .ref 669), (1, .long v1)]) (st' := [.int (0 : Int32), .ref 674, .long (0 : Int64), .long v1]) 5 rfl ?_
  refine db_RldI (pc' := 8) (lv1 := [(0, .ref 669), (1, .long v1)]) rfl rfl rfl fun x1 => ?_
  refine db_Rgo (pc' := 11) (lv' := [(0, .ref 669), (1, .long v1)]) (st' := [.long (Int32.toInt64 (x1 - (1 : Int32))), .long (0 : Int64), .long v1]) 3 rfl ?_
  refine db_RcyB (mr' := dbm_269) (as := [.long v1, .long (0 : Int64), .long (Int32.toInt64 (x1 - (1 : Int32)))]) (rest := []) (pc' := 14) (lv1 := [(0, .ref 669), (1, .long v1)]) rfl rfl rfl rfl rfl (db_f269_ok) fun q2 => ?_
  exact db_RretB (lv1 := [(0, .ref 669), (1, .long v1)]) rfl rfl rfl rfl
noncomputable def db_f323_b132 : Nat → db_S → Int32 → Int32 → Int32 → Int32 → Int32 → Option (Int32 × db_S)
  | 0, _, _, _, _, _, _ => none
  | n + 1, s, v1, v2, v3, v4, v5 =>
    (cond (db_cnd .ge v5 v2) (db_bd (db_f283 s) fun q1 s2 => ((db_pI s2 669 30 q1).bind fun s3 => (db_bd (db_f318 s3 v3 v4) fun q4 s5 => (some (q4, s5))))) ((db_f324 s v1 v5).bind fun q6 => ((db_wI s 678 v5 (Int64.toInt32 q6)).bind fun s8 => (db_f323_b132 n s8 v1 v2 v3 v4 (v5 + (1 : Int32))))))
set_option maxRecDepth 100000 in
theorem db_f323_b132_ok {X : db_X} {d : Nat}  (n : Nat) : ∀ (s : db_S) (v1 : Int32) (v2 : Int32) (v3 : Int32) (v4 : Int32) (v5 : Int32), db_Rf X (d + 4) dbm_323 132 [(0, .ref 669), (1, .int v1), (2, .int v2), (3, .int v3), (4, .int v4), (5, .int v5)] [] s db_zI (db_f323_b132 n s v1 v2 v3 v4 v5) := by
  induction n with
  | zero => intros; exact db_Rnone
  | succ n ih =>
    intro s v1 v2 v3 v4 v5
    unfold db_f323_b132
    refine db_Rgo (pc' := 135) (lv' := [(0, .ref 669), (1, .int v1), (2, .int v2), (3, .int v3), (4, .int v4), (5, .int v5)]) (st' := [.int v2, .int v5]) 2 rfl ?_
    refine db_Ric (pc' := 138) (tg := 159) (lv1 := [(0, .ref 669), (1, .int v1), (2, .int v2), (3, .int v3), (4, .int v4), (5, .int v5)]) rfl rfl rfl rfl ?_ ?_
    · refine db_Rgo (pc' := 161) (lv' := [(0, .ref 669), (3, .int v3), (4, .int v4)]) (st' := [.ref 669, .ref 669]) 2 rfl ?_
      refine db_RcdI (mr' := dbm_283) (as := [.ref 669]) (rest := [.ref 669]) (pc' := 164) (lv1 := [(0, .ref 669), (3, .int v3), (4, .int v4)]) rfl rfl rfl rfl rfl (db_f283_ok) fun q1 s2 => ?_
      refine db_RpuI (pc' := 167) (lv1 := [(0, .ref 669), (3, .int v3), (4, .int v4)]) rfl rfl rfl rfl rfl rfl (by decide) rfl rfl fun s3 => ?_
      refine db_Rgo (pc' := 171) (lv' := [(0, .ref 669), (3, .int v3), (4, .int v4)]) (st' := [.int v4, .int v3, .ref 669]) 3 rfl ?_
      refine db_RcdI (mr' := dbm_318) (as := [.ref 669, .int v3, .int v4]) (rest := []) (pc' := 174) (lv1 := [(0, .ref 669), (3, .int v3), (4, .int v4)]) rfl rfl rfl rfl rfl (db_f318_ok) fun q4 s5 => ?_
      exact db_Rret (lv1 := [(0, .ref 669), (3, .int v3), (4, .int v4)]) rfl rfl rfl rfl
    refine db_Rgo (pc' := 148) (lv' := [(0, .ref 669), (1, .int v1), (2, .int v2), (3, .int v3), (4, .int v4), (5, .int v5)]) (st' := [.int v5, .int v1, .ref 669, .int v5, .ref 678]) 6 rfl ?_
    refine db_RcyL (mr' := dbm_324) (as := [.ref 669, .int v1, .int v5]) (rest := [.int v5, .ref 678]) (pc' := 151) (lv1 := [(0, .ref 669), (1, .int v1), (2, .int v2), (3, .int v3), (4, .int v4), (5, .int v5)]) rfl rfl rfl rfl rfl (db_f324_ok) fun q6 => ?_
    refine db_Rgo (pc' := 152) (lv' := [(0, .ref 669), (1, .int v1), (2, .int v2), (3, .int v3), (4, .int v4), (5, .int v5)]) (st' := [.int (Int64.toInt32 q6), .int v5, .ref 678]) 1 rfl ?_
    refine db_RstI (pc' := 153) (lv1 := [(0, .ref 669), (1, .int v1), (2, .int v2), (3, .int v3), (4, .int v4), (5, .int v5)]) rfl rfl rfl fun s8 => ?_
    refine db_Rgo (pc' := 132) (lv' := [(5, .int (v5 + (1 : Int32))), (0, .ref 669), (1, .int v1), (2, .int v2), (3, .int v3), (4, .int v4)]) (st' := []) 2 rfl ?_
    refine db_Rn (lv1 := [(0, .ref 669), (1, .int v1), (2, .int v2), (3, .int v3), (4, .int v4), (5, .int (v5 + (1 : Int32)))]) rfl rfl rfl ?_
    exact ih _ _ _ _ _ _
noncomputable def db_f323_b92 : Nat → db_S → Int32 → Int32 → Int32 → Int32 → Int32 → Option (Int32 × db_S)
  | 0, _, _, _, _, _, _ => none
  | n + 1, s, v1, v2, v3, v4, v5 =>
    (cond (db_cnd .ge v5 v2) ((db_pI s 669 29 v2).bind fun s1 => (db_f323_b132 db_FU s1 v1 v2 v3 v4 (0 : Int32))) ((db_f324 s v1 v5).bind fun q2 => ((db_f325 s q2).bind fun q4 => (cond q4 (db_f323_b92 n s v1 v2 v3 v4 (v5 + (1 : Int32))) (db_bd (db_f281 s (2 : Int32)) fun q6 s7 => (some (q6, s7)))))))
set_option maxRecDepth 100000 in
theorem db_f323_b92_ok {X : db_X} {d : Nat}  (n : Nat) : ∀ (s : db_S) (v1 : Int32) (v2 : Int32) (v3 : Int32) (v4 : Int32) (v5 : Int32), db_Rf X (d + 4) dbm_323 92 [(0, .ref 669), (1, .int v1), (2, .int v2), (3, .int v3), (4, .int v4), (5, .int v5)] [] s db_zI (db_f323_b92 n s v1 v2 v3 v4 v5) := by
  induction n with
  | zero => intros; exact db_Rnone
  | succ n ih =>
    intro s v1 v2 v3 v4 v5
    unfold db_f323_b92
    refine db_Rgo (pc' := 95) (lv' := [(0, .ref 669), (1, .int v1), (2, .int v2), (3, .int v3), (4, .int v4), (5, .int v5)]) (st' := [.int v2, .int v5]) 2 rfl ?_
    refine db_Ric (pc' := 98) (tg := 124) (lv1 := [(0, .ref 669), (1, .int v1), (2, .int v2), (3, .int v3), (4, .int v4), (5, .int v5)]) rfl rfl rfl rfl ?_ ?_
    · refine db_Rgo (pc' := 126) (lv' := [(0, .ref 669), (1, .int v1), (2, .int v2), (3, .int v3), (4, .int v4)]) (st' := [.int v2, .ref 669]) 2 rfl ?_
      refine db_RpuI (pc' := 129) (lv1 := [(0, .ref 669), (1, .int v1), (2, .int v2), (3, .int v3), (4, .int v4)]) rfl rfl rfl rfl rfl rfl (by decide) rfl rfl fun s1 => ?_
      refine db_Rgo (pc' := 132) (lv' := [(5, .int (0 : Int32)), (0, .ref 669), (1, .int v1), (2, .int v2), (3, .int v3), (4, .int v4)]) (st' := []) 2 rfl ?_
      refine db_Rn (lv1 := [(0, .ref 669), (1, .int v1), (2, .int v2), (3, .int v3), (4, .int v4), (5, .int (0 : Int32))]) rfl rfl rfl ?_
      exact db_f323_b132_ok db_FU _ _ _ _ _ _
    refine db_Rgo (pc' := 103) (lv' := [(0, .ref 669), (1, .int v1), (2, .int v2), (3, .int v3), (4, .int v4), (5, .int v5)]) (st' := [.int v5, .int v1, .ref 669, .ref 669]) 4 rfl ?_
    refine db_RcyL (mr' := dbm_324) (as := [.ref 669, .int v1, .int v5]) (rest := [.ref 669]) (pc' := 106) (lv1 := [(0, .ref 669), (1, .int v1), (2, .int v2), (3, .int v3), (4, .int v4), (5, .int v5)]) rfl rfl rfl rfl rfl (db_f324_ok) fun q2 => ?_
    refine db_RcyB (mr' := dbm_325) (as := [.ref 669, .long q2]) (rest := []) (pc' := 109) (lv1 := [(0, .ref 669), (1, .int v1), (2, .int v2), (3, .int v3), (4, .int v4), (5, .int v5)]) rfl rfl rfl rfl rfl (db_f325_ok) fun q4 => ?_
    refine db_RifBn (pc' := 112) (tg := 118) (lv1 := [(0, .ref 669), (1, .int v1), (2, .int v2), (3, .int v3), (4, .int v4), (5, .int v5)]) rfl rfl rfl rfl ?_ ?_
    · refine db_Rgo (pc' := 92) (lv' := [(5, .int (v5 + (1 : Int32))), (0, .ref 669), (1, .int v1), (2, .int v2), (3, .int v3), (4, .int v4)]) (st' := []) 2 rfl ?_
      refine db_Rn (lv1 := [(0, .ref 669), (1, .int v1), (2, .int v2), (3, .int v3), (4, .int v4), (5, .int (v5 + (1 : Int32)))]) rfl rfl rfl ?_
      exact ih _ _ _ _ _ _
    refine db_Rgo (pc' := 114) (lv' := [(0, .ref 669), (1, .int v1), (2, .int v2), (3, .int v3), (4, .int v4), (5, .int v5)]) (st' := [.int (2 : Int32), .ref 669]) 2 rfl ?_
    refine db_RcdI (mr' := dbm_281) (as := [.ref 669, .int (2 : Int32)]) (rest := []) (pc' := 117) (lv1 := [(0, .ref 669), (1, .int v1), (2, .int v2), (3, .int v3), (4, .int v4), (5, .int v5)]) rfl rfl rfl rfl rfl (db_f281_ok) fun q6 s7 => ?_
    exact db_Rret (lv1 := [(0, .ref 669), (1, .int v1), (2, .int v2), (3, .int v3), (4, .int v4), (5, .int v5)]) rfl rfl rfl rfl
/-- DreamBookModel.readRow(IIII)I -/
noncomputable def db_f323 (s : db_S) (v1 : Int32) (v2 : Int32) (v3 : Int32) (v4 : Int32) : Option (Int32 × db_S) :=
  ((db_pI s 669 1 (0 : Int32)).bind fun s1 => ((db_pI s1 669 0 (0 : Int32)).bind fun s2 => ((db_f301 s2 v1).bind fun q3 => (cond q3 ((db_rI s2 671 v1).bind fun x5 => (cond (db_cnd .ge x5 0) ((db_rI s2 671 v1).bind fun x6 => (cond (db_cnd .ge x6 v2) ((db_f269 s2 (Int32.toInt64 v2) (1 : Int64) (8 : Int64)).bind fun q7 => (cond q7 ((db_f315 s2 v3 v4).bind fun q9 => (cond q9 (db_f323_b92 db_FU s2 v1 v2 v3 v4 (0 : Int32)) (db_bd (db_f281 s2 (2 : Int32)) fun q11 s12 => (some (q11, s12))))) (db_bd (db_f281 s2 (5 : Int32)) fun q13 s14 => (some (q13, s14))))) (db_bd (db_f281 s2 (4 : Int32)) fun q15 s16 => (some (q15, s16))))) (db_bd (db_f281 s2 (3 : Int32)) fun q17 s18 => (some (q17, s18))))) (db_bd (db_f281 s2 (1 : Int32)) fun q19 s20 => (some (q19, s20)))))))
set_option maxRecDepth 100000 in
theorem db_f323_ok {X : db_X} {d : Nat} {s : db_S} {v1 : Int32} {v2 : Int32} {v3 : Int32} {v4 : Int32} : db_Rf X (d + 4) dbm_323 0 (lv_args 0 [.ref 669, .int v1, .int v2, .int v3, .int v4]) [] s db_zI (db_f323 s v1 v2 v3 v4) := by
  show db_Rf _ _ _ 0 [(0, .ref 669), (1, .int v1), (2, .int v2), (3, .int v3), (4, .int v4)] [] _ _ _
  unfold db_f323
  refine db_Rgo (pc' := 2) (lv' := [(0, .ref 669), (1, .int v1), (2, .int v2), (3, .int v3), (4, .int v4)]) (st' := [.int (0 : Int32), .ref 669]) 2 rfl ?_
  refine db_RpuI (pc' := 5) (lv1 := [(0, .ref 669), (1, .int v1), (2, .int v2), (3, .int v3), (4, .int v4)]) rfl rfl rfl rfl rfl rfl (by decide) rfl rfl fun s1 => ?_
  refine db_Rgo (pc' := 7) (lv' := [(0, .ref 669), (1, .int v1), (2, .int v2), (3, .int v3), (4, .int v4)]) (st' := [.int (0 : Int32), .ref 669]) 2 rfl ?_
  refine db_RpuI (pc' := 10) (lv1 := [(0, .ref 669), (1, .int v1), (2, .int v2), (3, .int v3), (4, .int v4)]) rfl rfl rfl rfl rfl rfl (by decide) rfl rfl fun s2 => ?_
  refine db_Rgo (pc' := 12) (lv' := [(0, .ref 669), (1, .int v1), (2, .int v2), (3, .int v3), (4, .int v4)]) (st' := [.int v1, .ref 669]) 2 rfl ?_
  refine db_RcyB (mr' := dbm_301) (as := [.ref 669, .int v1]) (rest := []) (pc' := 15) (lv1 := [(0, .ref 669), (1, .int v1), (2, .int v2), (3, .int v3), (4, .int v4)]) rfl rfl rfl rfl rfl (db_f301_ok) fun q3 => ?_
  refine db_RifBn (pc' := 18) (tg := 24) (lv1 := [(0, .ref 669), (1, .int v1), (2, .int v2), (3, .int v3), (4, .int v4)]) rfl rfl rfl rfl ?_ ?_
  · refine db_Rgo (pc' := 29) (lv' := [(0, .ref 669), (1, .int v1), (2, .int v2), (3, .int v3), (4, .int v4)]) (st' := [.int v1, .ref 671]) 3 rfl ?_
    refine db_RldI (pc' := 30) (lv1 := [(0, .ref 669), (1, .int v1), (2, .int v2), (3, .int v3), (4, .int v4)]) rfl rfl rfl fun x5 => ?_
    refine db_Rif (pc' := 33) (tg := 39) (lv1 := [(0, .ref 669), (1, .int v1), (2, .int v2), (3, .int v3), (4, .int v4)]) rfl rfl rfl rfl ?_ ?_
    · refine db_Rgo (pc' := 44) (lv' := [(0, .ref 669), (1, .int v1), (2, .int v2), (3, .int v3), (4, .int v4)]) (st' := [.int v1, .ref 671]) 3 rfl ?_
      refine db_RldI (pc' := 45) (lv1 := [(0, .ref 669), (1, .int v1), (2, .int v2), (3, .int v3), (4, .int v4)]) rfl rfl rfl fun x6 => ?_
      refine db_Rgo (pc' := 46) (lv' := [(0, .ref 669), (1, .int v1), (2, .int v2), (3, .int v3), (4, .int v4)]) (st' := [.int v2, .int x6]) 1 rfl ?_
      refine db_Ric (pc' := 49) (tg := 55) (lv1 := [(0, .ref 669), (1, .int v1), (2, .int v2), (3, .int v3), (4, .int v4)]) rfl rfl rfl rfl ?_ ?_
      · refine db_Rgo (pc' := 61) (lv' := [(0, .ref 669), (1, .int v1), (2, .int v2), (3, .int v3), (4, .int v4)]) (st' := [.long (8 : Int64), .long (1 : Int64), .long (Int32.toInt64 v2)]) 4 rfl ?_
        refine db_RcyB (mr' := dbm_269) (as := [.long (Int32.toInt64 v2), .long (1 : Int64), .long (8 : Int64)]) (rest := []) (pc' := 64) (lv1 := [(0, .ref 669), (1, .int v1), (2, .int v2), (3, .int v3), (4, .int v4)]) rfl rfl rfl rfl rfl (db_f269_ok) fun q7 => ?_
        refine db_RifBn (pc' := 67) (tg := 73) (lv1 := [(0, .ref 669), (1, .int v1), (2, .int v2), (3, .int v3), (4, .int v4)]) rfl rfl rfl rfl ?_ ?_
        · refine db_Rgo (pc' := 77) (lv' := [(0, .ref 669), (1, .int v1), (2, .int v2), (3, .int v3), (4, .int v4)]) (st' := [.int v4, .int v3, .ref 669]) 3 rfl ?_
          refine db_RcyB (mr' := dbm_315) (as := [.ref 669, .int v3, .int v4]) (rest := []) (pc' := 80) (lv1 := [(0, .ref 669), (1, .int v1), (2, .int v2), (3, .int v3), (4, .int v4)]) rfl rfl rfl rfl rfl (db_f315_ok) fun q9 => ?_
          refine db_RifBn (pc' := 83) (tg := 89) (lv1 := [(0, .ref 669), (1, .int v1), (2, .int v2), (3, .int v3), (4, .int v4)]) rfl rfl rfl rfl ?_ ?_
          · refine db_Rgo (pc' := 92) (lv' := [(5, .int (0 : Int32)), (0, .ref 669), (1, .int v1), (2, .int v2), (3, .int v3), (4, .int v4)]) (st' := []) 2 rfl ?_
            refine db_Rn (lv1 := [(0, .ref 669), (1, .int v1), (2, .int v2), (3, .int v3), (4, .int v4), (5, .int (0 : Int32))]) rfl rfl rfl ?_
            exact db_f323_b92_ok db_FU _ _ _ _ _ _
          refine db_Rgo (pc' := 85) (lv' := [(0, .ref 669), (1, .int v1), (2, .int v2), (3, .int v3), (4, .int v4)]) (st' := [.int (2 : Int32), .ref 669]) 2 rfl ?_
          refine db_RcdI (mr' := dbm_281) (as := [.ref 669, .int (2 : Int32)]) (rest := []) (pc' := 88) (lv1 := [(0, .ref 669), (1, .int v1), (2, .int v2), (3, .int v3), (4, .int v4)]) rfl rfl rfl rfl rfl (db_f281_ok) fun q11 s12 => ?_
          exact db_Rret (lv1 := [(0, .ref 669), (1, .int v1), (2, .int v2), (3, .int v3), (4, .int v4)]) rfl rfl rfl rfl
        refine db_Rgo (pc' := 69) (lv' := [(0, .ref 669), (1, .int v1), (2, .int v2), (3, .int v3), (4, .int v4)]) (st' := [.int (5 : Int32), .ref 669]) 2 rfl ?_
        refine db_RcdI (mr' := dbm_281) (as := [.ref 669, .int (5 : Int32)]) (rest := []) (pc' := 72) (lv1 := [(0, .ref 669), (1, .int v1), (2, .int v2), (3, .int v3), (4, .int v4)]) rfl rfl rfl rfl rfl (db_f281_ok) fun q13 s14 => ?_
        exact db_Rret (lv1 := [(0, .ref 669), (1, .int v1), (2, .int v2), (3, .int v3), (4, .int v4)]) rfl rfl rfl rfl
      refine db_Rgo (pc' := 51) (lv' := [(0, .ref 669), (1, .int v1), (2, .int v2), (3, .int v3), (4, .int v4)]) (st' := [.int (4 : Int32), .ref 669]) 2 rfl ?_
      refine db_RcdI (mr' := dbm_281) (as := [.ref 669, .int (4 : Int32)]) (rest := []) (pc' := 54) (lv1 := [(0, .ref 669), (1, .int v1), (2, .int v2), (3, .int v3), (4, .int v4)]) rfl rfl rfl rfl rfl (db_f281_ok) fun q15 s16 => ?_
      exact db_Rret (lv1 := [(0, .ref 669), (1, .int v1), (2, .int v2), (3, .int v3), (4, .int v4)]) rfl rfl rfl rfl
    refine db_Rgo (pc' := 35) (lv' := [(0, .ref 669), (1, .int v1), (2, .int v2), (3, .int v3), (4, .int v4)]) (st' := [.int (3 : Int32), .ref 669]) 2 rfl ?_
    refine db_RcdI (mr' := dbm_281) (as := [.ref 669, .int (3 : Int32)]) (rest := []) (pc' := 38) (lv1 := [(0, .ref 669), (1, .int v1), (2, .int v2), (3, .int v3), (4, .int v4)]) rfl rfl rfl rfl rfl (db_f281_ok) fun q17 s18 => ?_
    exact db_Rret (lv1 := [(0, .ref 669), (1, .int v1), (2, .int v2), (3, .int v3), (4, .int v4)]) rfl rfl rfl rfl
  refine db_Rgo (pc' := 20) (lv' := [(0, .ref 669), (1, .int v1), (2, .int v2), (3, .int v3), (4, .int v4)]) (st' := [.int (1 : Int32), .ref 669]) 2 rfl ?_
  refine db_RcdI (mr' := dbm_281) (as := [.ref 669, .int (1 : Int32)]) (rest := []) (pc' := 23) (lv1 := [(0, .ref 669), (1, .int v1), (2, .int v2), (3, .int v3), (4, .int v4)]) rfl rfl rfl rfl rfl (db_f281_ok) fun q19 s20 => ?_
  exact db_Rret (lv1 := [(0, .ref 669), (1, .int v1), (2, .int v2), (3, .int v3), (4, .int v4)]) rfl rfl rfl rfl
/-- DreamBook.ruleAt(IIII)I -/
noncomputable def db_f134 (s : db_S) (v1 : Int32) (v2 : Int32) (v3 : Int32) (v4 : Int32) : Option (Int32 × db_S) :=
  ((db_f125 s v1 v3 v4).bind fun q1 => (cond q1 ((db_rI s 59 v1).bind fun x3 => ((db_f27 s v2 (0 : Int32) (x3 - (1 : Int32))).bind fun q4 => (cond q4 (db_bd (db_f127 s v1 v3 v4) fun q6 s7 => ((db_rI s7 273 v2).bind fun x8 => (cond (db_cnd .ne x8 (-1 : Int32)) ((db_rI s7 273 v2).bind fun x9 => (db_bd (db_f87 s7 x9) fun q10 s11 => (some (q10, s11)))) (db_bd (db_f37 s7 (8 : Int32)) fun q12 s13 => (some (q12, s13)))))) (db_bd (db_f37 s (8 : Int32)) fun q14 s15 => (some (q14, s15)))))) (db_bd (db_f37 s (2 : Int32)) fun q16 s17 => (some (q16, s17)))))
set_option maxRecDepth 100000 in
theorem db_f134_ok {X : db_X} {d : Nat} {s : db_S} {v1 : Int32} {v2 : Int32} {v3 : Int32} {v4 : Int32} : db_Rf X (d + 3) dbm_134 0 (lv_args 0 [.ref 4, .int v1, .int v2, .int v3, .int v4]) [] s db_zI (db_f134 s v1 v2 v3 v4) := by
  show db_Rf _ _ _ 0 [(0, .ref 4), (1, .int v1), (2, .int v2), (3, .int v3), (4, .int v4)] [] _ _ _
  unfold db_f134
  refine db_Rgo (pc' := 5) (lv' := [(0, .ref 4), (1, .int v1), (2, .int v2), (3, .int v3), (4, .int v4)]) (st' := [.int v4, .int v3, .int v1, .ref 4]) 4 rfl ?_
  refine db_RcyB (mr' := dbm_125) (as := [.ref 4, .int v1, .int v3, .int v4]) (rest := []) (pc' := 8) (lv1 := [(0, .ref 4), (1, .int v1), (2, .int v2), (3, .int v3), (4, .int v4)]) rfl rfl rfl rfl rfl (db_f125_ok) fun q1 => ?_
  refine db_RifBn (pc' := 11) (tg := 17) (lv1 := [(0, .ref 4), (1, .int v1), (2, .int v2), (3, .int v3), (4, .int v4)]) rfl rfl rfl rfl ?_ ?_
  · refine db_Rgo (pc' := 27) (lv' := [(0, .ref 4), (1, .int v1), (2, .int v2), (3, .int v3), (4, .int v4)]) (st' := [.int v1, .ref 59, .int (0 : Int32), .int v2]) 6 rfl ?_
    refine db_RldI (pc' := 28) (lv1 := [(0, .ref 4), (1, .int v1), (2, .int v2), (3, .int v3), (4, .int v4)]) rfl rfl rfl fun x3 => ?_
    refine db_Rgo (pc' := 30) (lv' := [(0, .ref 4), (1, .int v1), (2, .int v2), (3, .int v3), (4, .int v4)]) (st' := [.int (x3 - (1 : Int32)), .int (0 : Int32), .int v2]) 2 rfl ?_
    refine db_RcyB (mr' := dbm_27) (as := [.int v2, .int (0 : Int32), .int (x3 - (1 : Int32))]) (rest := []) (pc' := 33) (lv1 := [(0, .ref 4), (1, .int v1), (2, .int v2), (3, .int v3), (4, .int v4)]) rfl rfl rfl rfl rfl (db_f27_ok) fun q4 => ?_
    refine db_RifBn (pc' := 36) (tg := 43) (lv1 := [(0, .ref 4), (1, .int v1), (2, .int v2), (3, .int v3), (4, .int v4)]) rfl rfl rfl rfl ?_ ?_
    · refine db_Rgo (pc' := 51) (lv' := [(0, .ref 4), (1, .int v1), (2, .int v2), (3, .int v3), (4, .int v4)]) (st' := [.int v4, .int v3, .int v1, .ref 271]) 5 rfl ?_
      refine db_RcdI (mr' := dbm_127) (as := [.ref 271, .int v1, .int v3, .int v4]) (rest := []) (pc' := 54) (lv1 := [(0, .ref 4), (1, .int v1), (2, .int v2), (3, .int v3), (4, .int v4)]) rfl rfl rfl rfl rfl (db_f127_ok) fun q6 s7 => ?_
      refine db_Rgo (pc' := 63) (lv' := [(0, .ref 4), (1, .int v1), (2, .int v2), (3, .int v3), (4, .int v4)]) (st' := [.int v2, .ref 273]) 5 rfl ?_
      refine db_RldI (pc' := 64) (lv1 := [(0, .ref 4), (1, .int v1), (2, .int v2), (3, .int v3), (4, .int v4)]) rfl rfl rfl fun x8 => ?_
      refine db_Rgo (pc' := 65) (lv' := [(0, .ref 4), (1, .int v1), (2, .int v2), (3, .int v3), (4, .int v4)]) (st' := [.int (-1 : Int32), .int x8]) 1 rfl ?_
      refine db_Ric (pc' := 68) (tg := 77) (lv1 := [(0, .ref 4), (1, .int v1), (2, .int v2), (3, .int v3), (4, .int v4)]) rfl rfl rfl rfl ?_ ?_
      · refine db_Rgo (pc' := 86) (lv' := [(0, .ref 4), (2, .int v2)]) (st' := [.int v2, .ref 273, .ref 4]) 5 rfl ?_
        refine db_RldI (pc' := 87) (lv1 := [(0, .ref 4), (2, .int v2)]) rfl rfl rfl fun x9 => ?_
        refine db_RcdI (mr' := dbm_87) (as := [.ref 4, .int x9]) (rest := []) (pc' := 90) (lv1 := [(0, .ref 4), (2, .int v2)]) rfl rfl rfl rfl rfl (db_f87_ok) fun q10 s11 => ?_
        exact db_Rret (lv1 := []) rfl rfl rfl rfl
      refine db_Rgo (pc' := 71) (lv' := [(0, .ref 4), (1, .int v1), (2, .int v2), (3, .int v3), (4, .int v4)]) (st' := [.int (8 : Int32), .ref 4]) 2 rfl ?_
      refine db_RcdI (mr' := dbm_37) (as := [.ref 4, .int (8 : Int32)]) (rest := []) (pc' := 74) (lv1 := [(0, .ref 4), (1, .int v1), (2, .int v2), (3, .int v3), (4, .int v4)]) rfl rfl rfl rfl rfl (db_f37_ok) fun q12 s13 => ?_
      refine db_Rgo (pc' := 90) (lv' := [(0, .ref 4), (1, .int v1), (2, .int v2), (3, .int v3), (4, .int v4)]) (st' := [.int q12]) 1 rfl ?_
      exact db_Rret (lv1 := []) rfl rfl rfl rfl
    refine db_Rgo (pc' := 39) (lv' := [(0, .ref 4), (1, .int v1), (2, .int v2), (3, .int v3), (4, .int v4)]) (st' := [.int (8 : Int32), .ref 4]) 2 rfl ?_
    refine db_RcdI (mr' := dbm_37) (as := [.ref 4, .int (8 : Int32)]) (rest := []) (pc' := 42) (lv1 := [(0, .ref 4), (1, .int v1), (2, .int v2), (3, .int v3), (4, .int v4)]) rfl rfl rfl rfl rfl (db_f37_ok) fun q14 s15 => ?_
    exact db_Rret (lv1 := [(0, .ref 4), (1, .int v1), (2, .int v2), (3, .int v3), (4, .int v4)]) rfl rfl rfl rfl
  refine db_Rgo (pc' := 13) (lv' := [(0, .ref 4), (1, .int v1), (2, .int v2), (3, .int v3), (4, .int v4)]) (st' := [.int (2 : Int32), .ref 4]) 2 rfl ?_
  refine db_RcdI (mr' := dbm_37) (as := [.ref 4, .int (2 : Int32)]) (rest := []) (pc' := 16) (lv1 := [(0, .ref 4), (1, .int v1), (2, .int v2), (3, .int v3), (4, .int v4)]) rfl rfl rfl rfl rfl (db_f37_ok) fun q16 s17 => ?_
  exact db_Rret (lv1 := [(0, .ref 4), (1, .int v1), (2, .int v2), (3, .int v3), (4, .int v4)]) rfl rfl rfl rfl
noncomputable def db_f326_b57 (s : db_S) : Option (Int32 × db_S) :=
  (db_bd (db_f281 s (8 : Int32)) fun q1 s2 => (some (q1, s2)))
set_option maxRecDepth 100000 in
theorem db_f326_b57_ok {X : db_X} {d : Nat}  {s : db_S} : db_Rf X (d + 5) dbm_326 57 [(0, .ref 669)] [] s db_zI (db_f326_b57 s ) := by
  unfold db_f326_b57
  refine db_Rgo (pc' := 60) (lv' := [(0, .ref 669)]) (st' := [.int (8 : Int32), .ref 669]) 2 rfl ?_
  refine db_RcdI (mr' := dbm_281) (as := [.ref 669, .int (8 : Int32)]) (rest := []) (pc' := 63) (lv1 := [(0, .ref 669)]) rfl rfl rfl rfl rfl (db_f281_ok) fun q1 s2 => ?_
  refine db_Rgo (pc' := 72) (lv' := [(0, .ref 669)]) (st' := [.int q1]) 1 rfl ?_
  exact db_Rret (lv1 := []) rfl rfl rfl rfl
/-- DreamBookModel.ruleAt(IIII)I -/
noncomputable def db_f326 (s : db_S) (v1 : Int32) (v2 : Int32) (v3 : Int32) (v4 : Int32) : Option (Int32 × db_S) :=
  ((db_pI s 669 1 (0 : Int32)).bind fun s1 => ((db_pI s1 669 0 (0 : Int32)).bind fun s2 => (db_bd (db_f314 s2 v1 v3 v4) fun q3 s4 => (cond q3 (db_bd (db_f316 s4 v1 v3 v4) fun q5 s6 => ((db_f269 s6 (Int32.toInt64 v2) (0 : Int64) (Int32.toInt64 ((s6.1 669 29) - (1 : Int32)))).bind fun q7 => (cond q7 ((db_rI s6 679 v2).bind fun x9 => (cond (db_cnd .ge x9 0) ((db_rI s6 679 v2).bind fun x10 => (some (x10, s6))) (db_f326_b57 s6 ))) (db_f326_b57 s6 )))) (some ((-1 : Int32), s4))))))
set_option maxRecDepth 100000 in
theorem db_f326_ok {X : db_X} {d : Nat} {s : db_S} {v1 : Int32} {v2 : Int32} {v3 : Int32} {v4 : Int32} : db_Rf X (d + 5) dbm_326 0 (lv_args 0 [.ref 669, .int v1, .int v2, .int v3, .int v4]) [] s db_zI (db_f326 s v1 v2 v3 v4) := by
  show db_Rf _ _ _ 0 [(0, .ref 669), (1, .int v1), (2, .int v2), (3, .int v3), (4, .int v4)] [] _ _ _
  unfold db_f326
  refine db_Rgo (pc' := 2) (lv' := [(0, .ref 669), (1, .int v1), (2, .int v2), (3, .int v3), (4, .int v4)]) (st' := [.int (0 : Int32), .ref 669]) 2 rfl ?_
  refine db_RpuI (pc' := 5) (lv1 := [(0, .ref 669), (1, .int v1), (2, .int v2), (3, .int v3), (4, .int v4)]) rfl rfl rfl rfl rfl rfl (by decide) rfl rfl fun s1 => ?_
  refine db_Rgo (pc' := 7) (lv' := [(0, .ref 669), (1, .int v1), (2, .int v2), (3, .int v3), (4, .int v4)]) (st' := [.int (0 : Int32), .ref 669]) 2 rfl ?_
  refine db_RpuI (pc' := 10) (lv1 := [(0, .ref 669), (1, .int v1), (2, .int v2), (3, .int v3), (4, .int v4)]) rfl rfl rfl rfl rfl rfl (by decide) rfl rfl fun s2 => ?_
  refine db_Rgo (pc' := 15) (lv' := [(0, .ref 669), (1, .int v1), (2, .int v2), (3, .int v3), (4, .int v4)]) (st' := [.int v4, .int v3, .int v1, .ref 669]) 4 rfl ?_
  refine db_RcdB (mr' := dbm_314) (as := [.ref 669, .int v1, .int v3, .int v4]) (rest := []) (pc' := 18) (lv1 := [(0, .ref 669), (1, .int v1), (2, .int v2), (3, .int v3), (4, .int v4)]) rfl rfl rfl rfl rfl (db_f314_ok) fun q3 s4 => ?_
  refine db_RifBn (pc' := 21) (tg := 23) (lv1 := [(0, .ref 669), (1, .int v1), (2, .int v2), (3, .int v3), (4, .int v4)]) rfl rfl rfl rfl ?_ ?_
  · refine db_Rgo (pc' := 28) (lv' := [(0, .ref 669), (1, .int v1), (2, .int v2), (3, .int v3), (4, .int v4)]) (st' := [.int v4, .int v3, .int v1, .ref 669]) 4 rfl ?_
    refine db_RcdI (mr' := dbm_316) (as := [.ref 669, .int v1, .int v3, .int v4]) (rest := []) (pc' := 31) (lv1 := [(0, .ref 669), (1, .int v1), (2, .int v2), (3, .int v3), (4, .int v4)]) rfl rfl rfl rfl rfl (db_f316_ok) fun q5 s6 => ?_
    refine db_Rgo (pc' := 42) (lv' := [(0, .ref 669), (1, .int v1), (2, .int v2), (3, .int v3), (4, .int v4)]) (st' := [.long (Int32.toInt64 ((s6.1 669 29) - (1 : Int32))), .long (0 : Int64), .long (Int32.toInt64 v2)]) 9 rfl ?_
    refine db_RcyB (mr' := dbm_269) (as := [.long (Int32.toInt64 v2), .long (0 : Int64), .long (Int32.toInt64 ((s6.1 669 29) - (1 : Int32)))]) (rest := []) (pc' := 45) (lv1 := [(0, .ref 669), (1, .int v1), (2, .int v2), (3, .int v3), (4, .int v4)]) rfl rfl rfl rfl rfl (db_f269_ok) fun q7 => ?_
    refine db_RifBe (pc' := 48) (tg := 57) (lv1 := [(0, .ref 669), (1, .int v1), (2, .int v2), (3, .int v3), (4, .int v4)]) rfl rfl rfl rfl ?_ ?_
    · refine db_Rn (lv1 := [(0, .ref 669)]) rfl rfl rfl ?_
      exact db_f326_b57_ok
    refine db_Rgo (pc' := 53) (lv' := [(0, .ref 669), (1, .int v1), (2, .int v2), (3, .int v3), (4, .int v4)]) (st' := [.int v2, .ref 679]) 3 rfl ?_
    refine db_RldI (pc' := 54) (lv1 := [(0, .ref 669), (1, .int v1), (2, .int v2), (3, .int v3), (4, .int v4)]) rfl rfl rfl fun x9 => ?_
    refine db_Rif (pc' := 57) (tg := 66) (lv1 := [(0, .ref 669), (1, .int v1), (2, .int v2), (3, .int v3), (4, .int v4)]) rfl rfl rfl rfl ?_ ?_
    · refine db_Rgo (pc' := 71) (lv' := [(0, .ref 669), (2, .int v2)]) (st' := [.int v2, .ref 679]) 3 rfl ?_
      refine db_RldI (pc' := 72) (lv1 := [(0, .ref 669), (2, .int v2)]) rfl rfl rfl fun x10 => ?_
      exact db_Rret (lv1 := []) rfl rfl rfl rfl
    refine db_Rn (lv1 := [(0, .ref 669)]) rfl rfl rfl ?_
    exact db_f326_b57_ok
  refine db_Rgo (pc' := 22) (lv' := [(0, .ref 669), (1, .int v1), (2, .int v2), (3, .int v3), (4, .int v4)]) (st' := [.int (-1 : Int32)]) 1 rfl ?_
  exact db_Rret (lv1 := [(0, .ref 669), (1, .int v1), (2, .int v2), (3, .int v3), (4, .int v4)]) rfl rfl rfl rfl
noncomputable def db_f135_b97 (s : db_S) (t1 : Int32) : Option (Int32 × db_S) :=
  (db_bd (db_f87 s t1) fun q1 s2 => (some (q1, s2)))
set_option maxRecDepth 100000 in
theorem db_f135_b97_ok {X : db_X} {d : Nat}  {s : db_S} {t1 : Int32} : db_Rf X (d + 3) dbm_135 97 [] [.int t1, .ref 4] s db_zI (db_f135_b97 s t1) := by
  unfold db_f135_b97
  refine db_RcdI (mr' := dbm_87) (as := [.ref 4, .int t1]) (rest := []) (pc' := 100) (lv1 := []) rfl rfl rfl rfl rfl (db_f87_ok) fun q1 s2 => ?_
  exact db_Rret (lv1 := []) rfl rfl rfl rfl
/-- DreamBook.valueAt(IIII)I -/
noncomputable def db_f135 (s : db_S) (v1 : Int32) (v2 : Int32) (v3 : Int32) (v4 : Int32) : Option (Int32 × db_S) :=
  ((db_f125 s v1 v3 v4).bind fun q1 => (cond q1 ((db_rI s 59 v1).bind fun x3 => ((db_f27 s v2 (0 : Int32) (x3 - (1 : Int32))).bind fun q4 => (cond q4 (db_bd (db_f127 s v1 v3 v4) fun q6 s7 => ((db_rI s7 273 v2).bind fun x8 => (cond (db_cnd .ne x8 (-1 : Int32)) ((db_f128 s7 v3 v4).bind fun q9 => ((db_f104 s7 x8).bind fun q11 => (db_f135_b97 s7 (q9 * q11)))) (db_f135_b97 s7 (0 : Int32))))) (db_bd (db_f37 s (8 : Int32)) fun q13 s14 => (some (q13, s14)))))) (db_bd (db_f37 s (2 : Int32)) fun q15 s16 => (some (q15, s16)))))
set_option maxRecDepth 100000 in
theorem db_f135_ok {X : db_X} {d : Nat} {s : db_S} {v1 : Int32} {v2 : Int32} {v3 : Int32} {v4 : Int32} : db_Rf X (d + 3) dbm_135 0 (lv_args 0 [.ref 4, .int v1, .int v2, .int v3, .int v4]) [] s db_zI (db_f135 s v1 v2 v3 v4) := by
  show db_Rf _ _ _ 0 [(0, .ref 4), (1, .int v1), (2, .int v2), (3, .int v3), (4, .int v4)] [] _ _ _
  unfold db_f135
  refine db_Rgo (pc' := 5) (lv' := [(0, .ref 4), (1, .int v1), (2, .int v2), (3, .int v3), (4, .int v4)]) (st' := [.int v4, .int v3, .int v1, .ref 4]) 4 rfl ?_
  refine db_RcyB (mr' := dbm_125) (as := [.ref 4, .int v1, .int v3, .int v4]) (rest := []) (pc' := 8) (lv1 := [(0, .ref 4), (1, .int v1), (2, .int v2), (3, .int v3), (4, .int v4)]) rfl rfl rfl rfl rfl (db_f125_ok) fun q1 => ?_
  refine db_RifBn (pc' := 11) (tg := 17) (lv1 := [(0, .ref 4), (1, .int v1), (2, .int v2), (3, .int v3), (4, .int v4)]) rfl rfl rfl rfl ?_ ?_
  · refine db_Rgo (pc' := 27) (lv' := [(0, .ref 4), (1, .int v1), (2, .int v2), (3, .int v3), (4, .int v4)]) (st' := [.int v1, .ref 59, .int (0 : Int32), .int v2]) 6 rfl ?_
    refine db_RldI (pc' := 28) (lv1 := [(0, .ref 4), (1, .int v1), (2, .int v2), (3, .int v3), (4, .int v4)]) rfl rfl rfl fun x3 => ?_
    refine db_Rgo (pc' := 30) (lv' := [(0, .ref 4), (1, .int v1), (2, .int v2), (3, .int v3), (4, .int v4)]) (st' := [.int (x3 - (1 : Int32)), .int (0 : Int32), .int v2]) 2 rfl ?_
    refine db_RcyB (mr' := dbm_27) (as := [.int v2, .int (0 : Int32), .int (x3 - (1 : Int32))]) (rest := []) (pc' := 33) (lv1 := [(0, .ref 4), (1, .int v1), (2, .int v2), (3, .int v3), (4, .int v4)]) rfl rfl rfl rfl rfl (db_f27_ok) fun q4 => ?_
    refine db_RifBn (pc' := 36) (tg := 43) (lv1 := [(0, .ref 4), (1, .int v1), (2, .int v2), (3, .int v3), (4, .int v4)]) rfl rfl rfl rfl ?_ ?_
    · refine db_Rgo (pc' := 51) (lv' := [(0, .ref 4), (1, .int v1), (2, .int v2), (3, .int v3), (4, .int v4)]) (st' := [.int v4, .int v3, .int v1, .ref 271]) 5 rfl ?_
      refine db_RcdI (mr' := dbm_127) (as := [.ref 271, .int v1, .int v3, .int v4]) (rest := []) (pc' := 54) (lv1 := [(0, .ref 4), (1, .int v1), (2, .int v2), (3, .int v3), (4, .int v4)]) rfl rfl rfl rfl rfl (db_f127_ok) fun q6 s7 => ?_
      refine db_Rgo (pc' := 63) (lv' := [(0, .ref 4), (1, .int v1), (2, .int v2), (3, .int v3), (4, .int v4)]) (st' := [.int v2, .ref 273]) 5 rfl ?_
      refine db_RldI (pc' := 64) (lv1 := [(0, .ref 4), (1, .int v1), (2, .int v2), (3, .int v3), (4, .int v4)]) rfl rfl rfl fun x8 => ?_
      refine db_Rgo (pc' := 70) (lv' := [(5, .int x8), (0, .ref 4), (1, .int v1), (2, .int v2), (3, .int v3), (4, .int v4)]) (st' := [.int (-1 : Int32), .int x8, .ref 4]) 4 rfl ?_
      refine db_Ric (pc' := 73) (tg := 77) (lv1 := [(5, .int x8), (0, .ref 4), (1, .int v1), (2, .int v2), (3, .int v3), (4, .int v4)]) rfl rfl rfl rfl ?_ ?_
      · refine db_Rgo (pc' := 84) (lv' := [(0, .ref 4), (3, .int v3), (4, .int v4), (5, .int x8)]) (st' := [.int v4, .int v3, .ref 271, .ref 4]) 4 rfl ?_
        refine db_RcyI (mr' := dbm_128) (as := [.ref 271, .int v3, .int v4]) (rest := [.ref 4]) (pc' := 87) (lv1 := [(0, .ref 4), (3, .int v3), (4, .int v4), (5, .int x8)]) rfl rfl rfl rfl rfl (db_f128_ok) fun q9 => ?_
        refine db_Rgo (pc' := 93) (lv' := [(0, .ref 4), (3, .int v3), (4, .int v4), (5, .int x8)]) (st' := [.int x8, .ref 271, .int q9, .ref 4]) 3 rfl ?_
        refine db_RcyI (mr' := dbm_104) (as := [.ref 271, .int x8]) (rest := [.int q9, .ref 4]) (pc' := 96) (lv1 := [(0, .ref 4), (3, .int v3), (4, .int v4), (5, .int x8)]) rfl rfl rfl rfl rfl (db_f104_ok) fun q11 => ?_
        refine db_Rgo (pc' := 97) (lv' := [(0, .ref 4), (3, .int v3), (4, .int v4), (5, .int x8)]) (st' := [.int (q9 * q11), .ref 4]) 1 rfl ?_
        refine db_Rn (lv1 := []) rfl rfl rfl ?_
        exact db_f135_b97_ok
      refine db_Rgo (pc' := 97) (lv' := [(5, .int x8), (0, .ref 4), (1, .int v1), (2, .int v2), (3, .int v3), (4, .int v4)]) (st' := [.int (0 : Int32), .ref 4]) 2 rfl ?_
      refine db_Rn (lv1 := []) rfl rfl rfl ?_
      exact db_f135_b97_ok
    refine db_Rgo (pc' := 39) (lv' := [(0, .ref 4), (1, .int v1), (2, .int v2), (3, .int v3), (4, .int v4)]) (st' := [.int (8 : Int32), .ref 4]) 2 rfl ?_
    refine db_RcdI (mr' := dbm_37) (as := [.ref 4, .int (8 : Int32)]) (rest := []) (pc' := 42) (lv1 := [(0, .ref 4), (1, .int v1), (2, .int v2), (3, .int v3), (4, .int v4)]) rfl rfl rfl rfl rfl (db_f37_ok) fun q13 s14 => ?_
    exact db_Rret (lv1 := [(0, .ref 4), (1, .int v1), (2, .int v2), (3, .int v3), (4, .int v4)]) rfl rfl rfl rfl
  refine db_Rgo (pc' := 13) (lv' := [(0, .ref 4), (1, .int v1), (2, .int v2), (3, .int v3), (4, .int v4)]) (st' := [.int (2 : Int32), .ref 4]) 2 rfl ?_
  refine db_RcdI (mr' := dbm_37) (as := [.ref 4, .int (2 : Int32)]) (rest := []) (pc' := 16) (lv1 := [(0, .ref 4), (1, .int v1), (2, .int v2), (3, .int v3), (4, .int v4)]) rfl rfl rfl rfl rfl (db_f37_ok) fun q15 s16 => ?_
  exact db_Rret (lv1 := [(0, .ref 4), (1, .int v1), (2, .int v2), (3, .int v3), (4, .int v4)]) rfl rfl rfl rfl
/-- DreamBookModel.valueAt(IIII)I -/
noncomputable def db_f327 (s : db_S) (v1 : Int32) (v2 : Int32) (v3 : Int32) (v4 : Int32) : Option (Int32 × db_S) :=
  ((db_pI s 669 1 (0 : Int32)).bind fun s1 => ((db_pI s1 669 0 (0 : Int32)).bind fun s2 => (db_bd (db_f314 s2 v1 v3 v4) fun q3 s4 => (cond q3 (db_bd (db_f316 s4 v1 v3 v4) fun q5 s6 => ((db_f269 s6 (Int32.toInt64 v2) (0 : Int64) (Int32.toInt64 ((s6.1 669 29) - (1 : Int32)))).bind fun q7 => (cond q7 ((db_rI s6 679 v2).bind fun x9 => (cond (db_cnd .ge x9 0) ((db_f322 s6 v3 v4).bind fun q10 => (cond q10 ((db_rI s6 679 v2).bind fun x15 => ((db_f290 s6 x15).bind fun q16 => (some ((-q16), s6)))) ((db_rI s6 679 v2).bind fun x12 => ((db_f290 s6 x12).bind fun q13 => (some (q13, s6)))))) (some ((0 : Int32), s6)))) (db_bd (db_f281 s6 (8 : Int32)) fun q18 s19 => (some (q18, s19)))))) (some ((-1 : Int32), s4))))))
set_option maxRecDepth 100000 in
theorem db_f327_ok {X : db_X} {d : Nat} {s : db_S} {v1 : Int32} {v2 : Int32} {v3 : Int32} {v4 : Int32} : db_Rf X (d + 5) dbm_327 0 (lv_args 0 [.ref 669, .int v1, .int v2, .int v3, .int v4]) [] s db_zI (db_f327 s v1 v2 v3 v4) := by
  show db_Rf _ _ _ 0 [(0, .ref 669), (1, .int v1), (2, .int v2), (3, .int v3), (4, .int v4)] [] _ _ _
  unfold db_f327
  refine db_Rgo (pc' := 2) (lv' := [(0, .ref 669), (1, .int v1), (2, .int v2), (3, .int v3), (4, .int v4)]) (st' := [.int (0 : Int32), .ref 669]) 2 rfl ?_
  refine db_RpuI (pc' := 5) (lv1 := [(0, .ref 669), (1, .int v1), (2, .int v2), (3, .int v3), (4, .int v4)]) rfl rfl rfl rfl rfl rfl (by decide) rfl rfl fun s1 => ?_
  refine db_Rgo (pc' := 7) (lv' := [(0, .ref 669), (1, .int v1), (2, .int v2), (3, .int v3), (4, .int v4)]) (st' := [.int (0 : Int32), .ref 669]) 2 rfl ?_
  refine db_RpuI (pc' := 10) (lv1 := [(0, .ref 669), (1, .int v1), (2, .int v2), (3, .int v3), (4, .int v4)]) rfl rfl rfl rfl rfl rfl (by decide) rfl rfl fun s2 => ?_
  refine db_Rgo (pc' := 15) (lv' := [(0, .ref 669), (1, .int v1), (2, .int v2), (3, .int v3), (4, .int v4)]) (st' := [.int v4, .int v3, .int v1, .ref 669]) 4 rfl ?_
  refine db_RcdB (mr' := dbm_314) (as := [.ref 669, .int v1, .int v3, .int v4]) (rest := []) (pc' := 18) (lv1 := [(0, .ref 669), (1, .int v1), (2, .int v2), (3, .int v3), (4, .int v4)]) rfl rfl rfl rfl rfl (db_f314_ok) fun q3 s4 => ?_
  refine db_RifBn (pc' := 21) (tg := 23) (lv1 := [(0, .ref 669), (1, .int v1), (2, .int v2), (3, .int v3), (4, .int v4)]) rfl rfl rfl rfl ?_ ?_
  · refine db_Rgo (pc' := 28) (lv' := [(0, .ref 669), (1, .int v1), (2, .int v2), (3, .int v3), (4, .int v4)]) (st' := [.int v4, .int v3, .int v1, .ref 669]) 4 rfl ?_
    refine db_RcdI (mr' := dbm_316) (as := [.ref 669, .int v1, .int v3, .int v4]) (rest := []) (pc' := 31) (lv1 := [(0, .ref 669), (1, .int v1), (2, .int v2), (3, .int v3), (4, .int v4)]) rfl rfl rfl rfl rfl (db_f316_ok) fun q5 s6 => ?_
    refine db_Rgo (pc' := 42) (lv' := [(0, .ref 669), (1, .int v1), (2, .int v2), (3, .int v3), (4, .int v4)]) (st' := [.long (Int32.toInt64 ((s6.1 669 29) - (1 : Int32))), .long (0 : Int64), .long (Int32.toInt64 v2)]) 9 rfl ?_
    refine db_RcyB (mr' := dbm_269) (as := [.long (Int32.toInt64 v2), .long (0 : Int64), .long (Int32.toInt64 ((s6.1 669 29) - (1 : Int32)))]) (rest := []) (pc' := 45) (lv1 := [(0, .ref 669), (1, .int v1), (2, .int v2), (3, .int v3), (4, .int v4)]) rfl rfl rfl rfl rfl (db_f269_ok) fun q7 => ?_
    refine db_RifBn (pc' := 48) (tg := 55) (lv1 := [(0, .ref 669), (1, .int v1), (2, .int v2), (3, .int v3), (4, .int v4)]) rfl rfl rfl rfl ?_ ?_
    · refine db_Rgo (pc' := 60) (lv' := [(0, .ref 669), (2, .int v2), (3, .int v3), (4, .int v4)]) (st' := [.int v2, .ref 679]) 3 rfl ?_
      refine db_RldI (pc' := 61) (lv1 := [(0, .ref 669), (2, .int v2), (3, .int v3), (4, .int v4)]) rfl rfl rfl fun x9 => ?_
      refine db_Rif (pc' := 64) (tg := 66) (lv1 := [(0, .ref 669), (2, .int v2), (3, .int v3), (4, .int v4)]) rfl rfl rfl rfl ?_ ?_
      · refine db_Rgo (pc' := 70) (lv' := [(0, .ref 669), (2, .int v2), (3, .int v3), (4, .int v4)]) (st' := [.int v4, .int v3, .ref 669]) 3 rfl ?_
        refine db_RcyB (mr' := dbm_322) (as := [.ref 669, .int v3, .int v4]) (rest := []) (pc' := 73) (lv1 := [(0, .ref 669), (2, .int v2), (3, .int v3), (4, .int v4)]) rfl rfl rfl rfl rfl (db_f322_ok) fun q10 => ?_
        refine db_RifBe (pc' := 76) (tg := 90) (lv1 := [(0, .ref 669), (2, .int v2), (3, .int v3), (4, .int v4)]) rfl rfl rfl rfl ?_ ?_
        · refine db_Rgo (pc' := 96) (lv' := [(0, .ref 669), (2, .int v2)]) (st' := [.int v2, .ref 679, .ref 669]) 4 rfl ?_
          refine db_RldI (pc' := 97) (lv1 := [(0, .ref 669), (2, .int v2)]) rfl rfl rfl fun x12 => ?_
          refine db_RcyI (mr' := dbm_290) (as := [.ref 669, .int x12]) (rest := []) (pc' := 100) (lv1 := [(0, .ref 669), (2, .int v2)]) rfl rfl rfl rfl rfl (db_f290_ok) fun q13 => ?_
          exact db_Rret (lv1 := []) rfl rfl rfl rfl
        refine db_Rgo (pc' := 82) (lv' := [(0, .ref 669), (2, .int v2), (3, .int v3), (4, .int v4)]) (st' := [.int v2, .ref 679, .ref 669]) 4 rfl ?_
        refine db_RldI (pc' := 83) (lv1 := [(0, .ref 669), (2, .int v2), (3, .int v3), (4, .int v4)]) rfl rfl rfl fun x15 => ?_
        refine db_RcyI (mr' := dbm_290) (as := [.ref 669, .int x15]) (rest := []) (pc' := 86) (lv1 := [(0, .ref 669), (2, .int v2), (3, .int v3), (4, .int v4)]) rfl rfl rfl rfl rfl (db_f290_ok) fun q16 => ?_
        refine db_Rgo (pc' := 100) (lv' := [(0, .ref 669), (2, .int v2), (3, .int v3), (4, .int v4)]) (st' := [.int (-q16)]) 2 rfl ?_
        exact db_Rret (lv1 := []) rfl rfl rfl rfl
      refine db_Rgo (pc' := 65) (lv' := [(0, .ref 669), (2, .int v2), (3, .int v3), (4, .int v4)]) (st' := [.int (0 : Int32)]) 1 rfl ?_
      exact db_Rret (lv1 := [(0, .ref 669), (2, .int v2), (3, .int v3), (4, .int v4)]) rfl rfl rfl rfl
    refine db_Rgo (pc' := 51) (lv' := [(0, .ref 669), (1, .int v1), (2, .int v2), (3, .int v3), (4, .int v4)]) (st' := [.int (8 : Int32), .ref 669]) 2 rfl ?_
    refine db_RcdI (mr' := dbm_281) (as := [.ref 669, .int (8 : Int32)]) (rest := []) (pc' := 54) (lv1 := [(0, .ref 669), (1, .int v1), (2, .int v2), (3, .int v3), (4, .int v4)]) rfl rfl rfl rfl rfl (db_f281_ok) fun q18 s19 => ?_
    exact db_Rret (lv1 := [(0, .ref 669), (1, .int v1), (2, .int v2), (3, .int v3), (4, .int v4)]) rfl rfl rfl rfl
  refine db_Rgo (pc' := 22) (lv' := [(0, .ref 669), (1, .int v1), (2, .int v2), (3, .int v3), (4, .int v4)]) (st' := [.int (-1 : Int32)]) 1 rfl ?_
  exact db_Rret (lv1 := [(0, .ref 669), (1, .int v1), (2, .int v2), (3, .int v3), (4, .int v4)]) rfl rfl rfl rfl
noncomputable def db_f138_b40 (h4 : db_S → Int32 → Int32 → Int32 → Option (Int32 × db_S)) (s : db_S) (v1 : Int32) (v2 : Int32) (v3 : Int32) : Option (Int32 × db_S) :=
  (h4 s v1 v2 (v3 + (1 : Int32)))
set_option maxRecDepth 100000 in
theorem db_f138_b40_ok {X : db_X} {d : Nat}  {h4 : db_S → Int32 → Int32 → Int32 → Option (Int32 × db_S)} {s : db_S} {v1 : Int32} {v2 : Int32} {v3 : Int32} (zh4 : ∀ (s' : db_S) (v1 : Int32) (v2 : Int32) (v3 : Int32) , db_Rf X (d + 0) dbm_138 4 [(0, .ref 271), (1, .int v1), (2, .int v2), (3, .int v3)] [] s' db_zI (h4 s' v1 v2 v3)) : db_Rf X (d + 0) dbm_138 40 [(0, .ref 271), (1, .int v1), (2, .int v2), (3, .int v3)] [] s db_zI (db_f138_b40 h4 s v1 v2 v3) := by
  unfold db_f138_b40
  refine db_Rgo (pc' := 4) (lv' := [(3, .int (v3 + (1 : Int32))), (0, .ref 271), (1, .int v1), (2, .int v2)]) (st' := []) 2 rfl ?_
  refine db_Rn (lv1 := [(0, .ref 271), (1, .int v1), (2, .int v2), (3, .int (v3 + (1 : Int32)))]) rfl rfl rfl ?_
  exact zh4 _ _ _ _
noncomputable def db_f138_b4 : Nat → db_S → Int32 → Int32 → Int32 → Option (Int32 × db_S)
  | 0, _, _, _, _ => none
  | n + 1, s, v1, v2, v3 =>
    (cond (db_cnd .ge v3 v1) (some (v2, s)) ((db_rI s 273 v3).bind fun x1 => (cond (db_cnd .eq x1 (-1 : Int32)) (db_f138_b40 (db_f138_b4 n) s v1 v2 v3) ((db_rI s 273 v3).bind fun x2 => ((db_rI s 81 x2).bind fun x3 => ((db_wI s 81 x2 (x3 + (1 : Int32))).bind fun s4 => (db_f138_b40 (db_f138_b4 n) s4 v1 (v2 + (1 : Int32)) v3)))))))
set_option maxRecDepth 100000 in
theorem db_f138_b4_ok {X : db_X} {d : Nat}  (n : Nat) : ∀ (s : db_S) (v1 : Int32) (v2 : Int32) (v3 : Int32), db_Rf X (d + 0) dbm_138 4 [(0, .ref 271), (1, .int v1), (2, .int v2), (3, .int v3)] [] s db_zI (db_f138_b4 n s v1 v2 v3) := by
  induction n with
  | zero => intros; exact db_Rnone
  | succ n ih =>
    intro s v1 v2 v3
    unfold db_f138_b4
    refine db_Rgo (pc' := 6) (lv' := [(0, .ref 271), (1, .int v1), (2, .int v2), (3, .int v3)]) (st' := [.int v1, .int v3]) 2 rfl ?_
    refine db_Ric (pc' := 9) (tg := 46) (lv1 := [(0, .ref 271), (1, .int v1), (2, .int v2), (3, .int v3)]) rfl rfl rfl rfl ?_ ?_
    · refine db_Rgo (pc' := 47) (lv' := [(2, .int v2)]) (st' := [.int v2]) 1 rfl ?_
      exact db_Rret (lv1 := [(2, .int v2)]) rfl rfl rfl rfl
    refine db_Rgo (pc' := 14) (lv' := [(0, .ref 271), (1, .int v1), (2, .int v2), (3, .int v3)]) (st' := [.int v3, .ref 273]) 3 rfl ?_
    refine db_RldI (pc' := 15) (lv1 := [(0, .ref 271), (1, .int v1), (2, .int v2), (3, .int v3)]) rfl rfl rfl fun x1 => ?_
    refine db_Rgo (pc' := 16) (lv' := [(0, .ref 271), (1, .int v1), (2, .int v2), (3, .int v3)]) (st' := [.int (-1 : Int32), .int x1]) 1 rfl ?_
    refine db_Ric (pc' := 19) (tg := 40) (lv1 := [(0, .ref 271), (1, .int v1), (2, .int v2), (3, .int v3)]) rfl rfl rfl rfl ?_ ?_
    · exact db_f138_b40_ok ih
    refine db_Rgo (pc' := 31) (lv' := [(0, .ref 271), (1, .int v1), (2, .int v2), (3, .int v3)]) (st' := [.int v3, .ref 273, .ref 81]) 6 rfl ?_
    refine db_RldI (pc' := 32) (lv1 := [(0, .ref 271), (1, .int v1), (2, .int v2), (3, .int v3)]) rfl rfl rfl fun x2 => ?_
    refine db_Rgo (pc' := 33) (lv' := [(0, .ref 271), (1, .int v1), (2, .int v2), (3, .int v3)]) (st' := [.int x2, .ref 81, .int x2, .ref 81]) 1 rfl ?_
    refine db_RldI (pc' := 34) (lv1 := [(0, .ref 271), (1, .int v1), (2, .int v2), (3, .int v3)]) rfl rfl rfl fun x3 => ?_
    refine db_Rgo (pc' := 36) (lv' := [(0, .ref 271), (1, .int v1), (2, .int v2), (3, .int v3)]) (st' := [.int (x3 + (1 : Int32)), .int x2, .ref 81]) 2 rfl ?_
    refine db_RstI (pc' := 37) (lv1 := [(0, .ref 271), (1, .int v1), (2, .int v2), (3, .int v3)]) rfl rfl rfl fun s4 => ?_
    refine db_Rgo (pc' := 40) (lv' := [(2, .int (v2 + (1 : Int32))), (0, .ref 271), (1, .int v1), (3, .int v3)]) (st' := []) 1 rfl ?_
    refine db_Rn (lv1 := [(0, .ref 271), (1, .int v1), (2, .int (v2 + (1 : Int32))), (3, .int v3)]) rfl rfl rfl ?_
    exact db_f138_b40_ok ih
/-- DreamBook$Reader.wear(I)I -/
noncomputable def db_f138 (s : db_S) (v1 : Int32) : Option (Int32 × db_S) :=
  (db_f138_b4 db_FU s v1 (0 : Int32) (0 : Int32))
set_option maxRecDepth 100000 in
theorem db_f138_ok {X : db_X} {d : Nat} {s : db_S} {v1 : Int32} : db_Rf X (d + 0) dbm_138 0 (lv_args 0 [.ref 271, .int v1]) [] s db_zI (db_f138 s v1) := by
  show db_Rf _ _ _ 0 [(0, .ref 271), (1, .int v1)] [] _ _ _
  unfold db_f138
  refine db_Rgo (pc' := 4) (lv' := [(3, .int (0 : Int32)), (2, .int (0 : Int32)), (0, .ref 271), (1, .int v1)]) (st' := []) 4 rfl ?_
  refine db_Rn (lv1 := [(0, .ref 271), (1, .int v1), (2, .int (0 : Int32)), (3, .int (0 : Int32))]) rfl rfl rfl ?_
  exact db_f138_b4_ok db_FU _ _ _ _
noncomputable def db_f137_b93 (s : db_S) (v1 : Int32) (t1 : Int32) (t2 : Int32) (t3 : Int32) : Option (Bool × db_S) :=
  ((db_wI s 286 t1 (t2 + t3)).bind fun s1 => ((db_rI s1 286 (3 : Int32)).bind fun x2 => ((db_rI s1 59 v1).bind fun x3 => (db_bd (db_f138 s1 x3) fun q4 s5 => ((db_wI s5 286 (3 : Int32) (x2 + q4)).bind fun s6 => (some (true, s6)))))))
set_option maxRecDepth 100000 in
theorem db_f137_b93_ok {X : db_X} {d : Nat}  {s : db_S} {v1 : Int32} {t1 : Int32} {t2 : Int32} {t3 : Int32} : db_Rf X (d + 3) dbm_137 93 [(0, .ref 284), (1, .int v1)] [.int t3, .int t2, .int t1, .ref 286] s db_zB (db_f137_b93 s v1 t1 t2 t3) := by
  unfold db_f137_b93
  refine db_Rgo (pc' := 94) (lv' := [(0, .ref 284), (1, .int v1)]) (st' := [.int (t2 + t3), .int t1, .ref 286]) 1 rfl ?_
  refine db_RstI (pc' := 95) (lv1 := [(0, .ref 284), (1, .int v1)]) rfl rfl rfl fun s1 => ?_
  refine db_Rgo (pc' := 101) (lv' := [(0, .ref 284), (1, .int v1)]) (st' := [.int (3 : Int32), .ref 286, .int (3 : Int32), .ref 286]) 4 rfl ?_
  refine db_RldI (pc' := 102) (lv1 := [(0, .ref 284), (1, .int v1)]) rfl rfl rfl fun x2 => ?_
  refine db_Rgo (pc' := 114) (lv' := [(0, .ref 284), (1, .int v1)]) (st' := [.int v1, .ref 59, .ref 271, .int x2, .int (3 : Int32), .ref 286]) 6 rfl ?_
  refine db_RldI (pc' := 115) (lv1 := [(0, .ref 284), (1, .int v1)]) rfl rfl rfl fun x3 => ?_
  refine db_RcdI (mr' := dbm_138) (as := [.ref 271, .int x3]) (rest := [.int x2, .int (3 : Int32), .ref 286]) (pc' := 118) (lv1 := [(0, .ref 284), (1, .int v1)]) rfl rfl rfl rfl rfl (db_f138_ok) fun q4 s5 => ?_
  refine db_Rgo (pc' := 119) (lv' := [(0, .ref 284), (1, .int v1)]) (st' := [.int (x2 + q4), .int (3 : Int32), .ref 286]) 1 rfl ?_
  refine db_RstI (pc' := 120) (lv1 := [(0, .ref 284), (1, .int v1)]) rfl rfl rfl fun s6 => ?_
  refine db_Rgo (pc' := 121) (lv' := [(0, .ref 284), (1, .int v1)]) (st' := [.int (1 : Int32)]) 1 rfl ?_
  exact db_Rret (lv1 := [(0, .ref 284), (1, .int v1)]) rfl rfl rfl rfl
/-- DreamBook$Runner.dreamNight(III)Z -/
noncomputable def db_f137 (s : db_S) (v1 : Int32) (v2 : Int32) (v3 : Int32) : Option (Bool × db_S) :=
  (db_bd (db_f127 s v1 v2 v3) fun q1 s2 => ((db_rI s2 82 v2).bind fun x3 => ((db_f27 s2 (x3 + q1) (-9999 : Int32) (9999 : Int32)).bind fun q4 => (cond q4 ((db_wI s2 82 v2 (x3 + q1)).bind fun s6 => ((db_pI s6 80 3 ((s6.1 80 3) + (1 : Int32))).bind fun s7 => ((db_rI s7 286 (1 : Int32)).bind fun x8 => ((db_wI s7 286 (1 : Int32) (x8 + (1 : Int32))).bind fun s9 => ((db_rI s9 286 (2 : Int32)).bind fun x10 => (cond (db_cnd .le q1 0) (db_f137_b93 s9 v1 (2 : Int32) x10 (0 : Int32)) (db_f137_b93 s9 v1 (2 : Int32) x10 (1 : Int32)))))))) (some (false, s2))))))
set_option maxRecDepth 100000 in
theorem db_f137_ok {X : db_X} {d : Nat} {s : db_S} {v1 : Int32} {v2 : Int32} {v3 : Int32} : db_Rf X (d + 3) dbm_137 0 (lv_args 0 [.ref 284, .int v1, .int v2, .int v3]) [] s db_zB (db_f137 s v1 v2 v3) := by
  show db_Rf _ _ _ 0 [(0, .ref 284), (1, .int v1), (2, .int v2), (3, .int v3)] [] _ _ _
  unfold db_f137
  refine db_Rgo (pc' := 7) (lv' := [(0, .ref 284), (1, .int v1), (2, .int v2), (3, .int v3)]) (st' := [.int v3, .int v2, .int v1, .ref 271]) 5 rfl ?_
  refine db_RcdI (mr' := dbm_127) (as := [.ref 271, .int v1, .int v2, .int v3]) (rest := []) (pc' := 10) (lv1 := [(0, .ref 284), (1, .int v1), (2, .int v2), (3, .int v3)]) rfl rfl rfl rfl rfl (db_f127_ok) fun q1 s2 => ?_
  refine db_Rgo (pc' := 20) (lv' := [(4, .int q1), (0, .ref 284), (1, .int v1), (2, .int v2), (3, .int v3)]) (st' := [.int v2, .ref 82]) 5 rfl ?_
  refine db_RldI (pc' := 21) (lv1 := [(4, .int q1), (0, .ref 284), (1, .int v1), (2, .int v2), (3, .int v3)]) rfl rfl rfl fun x3 => ?_
  refine db_Rgo (pc' := 34) (lv' := [(5, .int (x3 + q1)), (4, .int q1), (0, .ref 284), (1, .int v1), (2, .int v2), (3, .int v3)]) (st' := [.int (9999 : Int32), .int (-9999 : Int32), .int (x3 + q1)]) 6 rfl ?_
  refine db_RcyB (mr' := dbm_27) (as := [.int (x3 + q1), .int (-9999 : Int32), .int (9999 : Int32)]) (rest := []) (pc' := 37) (lv1 := [(5, .int (x3 + q1)), (4, .int q1), (0, .ref 284), (1, .int v1), (2, .int v2), (3, .int v3)]) rfl rfl rfl rfl rfl (db_f27_ok) fun q4 => ?_
  refine db_RifBn (pc' := 40) (tg := 42) (lv1 := [(5, .int (x3 + q1)), (4, .int q1), (0, .ref 284), (1, .int v1), (2, .int v2), (3, .int v3)]) rfl rfl rfl rfl ?_ ?_
  · refine db_Rgo (pc' := 52) (lv' := [(0, .ref 284), (1, .int v1), (2, .int v2), (4, .int q1), (5, .int (x3 + q1))]) (st' := [.int (x3 + q1), .int v2, .ref 82]) 5 rfl ?_
    refine db_RstI (pc' := 53) (lv1 := [(0, .ref 284), (1, .int v1), (2, .int v2), (4, .int q1), (5, .int (x3 + q1))]) rfl rfl rfl fun s6 => ?_
    refine db_Rgo (pc' := 63) (lv' := [(0, .ref 284), (1, .int v1), (2, .int v2), (4, .int q1), (5, .int (x3 + q1))]) (st' := [.int ((s6.1 80 3) + (1 : Int32)), .ref 80]) 6 rfl ?_
    refine db_RpuI (pc' := 66) (lv1 := [(0, .ref 284), (1, .int v1), (2, .int v2), (4, .int q1), (5, .int (x3 + q1))]) rfl rfl rfl rfl rfl rfl (by decide) rfl rfl fun s7 => ?_
    refine db_Rgo (pc' := 72) (lv' := [(0, .ref 284), (1, .int v1), (2, .int v2), (4, .int q1), (5, .int (x3 + q1))]) (st' := [.int (1 : Int32), .ref 286, .int (1 : Int32), .ref 286]) 4 rfl ?_
    refine db_RldI (pc' := 73) (lv1 := [(0, .ref 284), (1, .int v1), (2, .int v2), (4, .int q1), (5, .int (x3 + q1))]) rfl rfl rfl fun x8 => ?_
    refine db_Rgo (pc' := 75) (lv' := [(0, .ref 284), (1, .int v1), (2, .int v2), (4, .int q1), (5, .int (x3 + q1))]) (st' := [.int (x8 + (1 : Int32)), .int (1 : Int32), .ref 286]) 2 rfl ?_
    refine db_RstI (pc' := 76) (lv1 := [(0, .ref 284), (1, .int v1), (2, .int v2), (4, .int q1), (5, .int (x3 + q1))]) rfl rfl rfl fun s9 => ?_
    refine db_Rgo (pc' := 82) (lv' := [(0, .ref 284), (1, .int v1), (2, .int v2), (4, .int q1), (5, .int (x3 + q1))]) (st' := [.int (2 : Int32), .ref 286, .int (2 : Int32), .ref 286]) 4 rfl ?_
    refine db_RldI (pc' := 83) (lv1 := [(0, .ref 284), (1, .int v1), (2, .int v2), (4, .int q1), (5, .int (x3 + q1))]) rfl rfl rfl fun x10 => ?_
    refine db_Rgo (pc' := 85) (lv' := [(0, .ref 284), (1, .int v1), (2, .int v2), (4, .int q1), (5, .int (x3 + q1))]) (st' := [.int q1, .int x10, .int (2 : Int32), .ref 286]) 1 rfl ?_
    refine db_Rif (pc' := 88) (tg := 92) (lv1 := [(0, .ref 284), (1, .int v1), (2, .int v2), (4, .int q1), (5, .int (x3 + q1))]) rfl rfl rfl rfl ?_ ?_
    · refine db_Rgo (pc' := 93) (lv' := [(0, .ref 284), (1, .int v1)]) (st' := [.int (0 : Int32), .int x10, .int (2 : Int32), .ref 286]) 1 rfl ?_
      exact db_f137_b93_ok
    refine db_Rgo (pc' := 93) (lv' := [(0, .ref 284), (1, .int v1), (2, .int v2), (4, .int q1), (5, .int (x3 + q1))]) (st' := [.int (1 : Int32), .int x10, .int (2 : Int32), .ref 286]) 2 rfl ?_
    refine db_Rn (lv1 := [(0, .ref 284), (1, .int v1)]) rfl rfl rfl ?_
    exact db_f137_b93_ok
  refine db_Rgo (pc' := 41) (lv' := [(5, .int (x3 + q1)), (4, .int q1), (0, .ref 284), (1, .int v1), (2, .int v2), (3, .int v3)]) (st' := [.int (0 : Int32)]) 1 rfl ?_
  exact db_Rret (lv1 := [(5, .int (x3 + q1)), (4, .int q1), (0, .ref 284), (1, .int v1), (2, .int v2), (3, .int v3)]) rfl rfl rfl rfl
noncomputable def db_f136_b15 (s : db_S) : Option (Int32 × db_S) :=
  (db_bd (db_f37 s (2 : Int32)) fun q1 s2 => (some (q1, s2)))
set_option maxRecDepth 100000 in
theorem db_f136_b15_ok {X : db_X} {d : Nat}  {s : db_S} : db_Rf X (d + 4) dbm_136 15 [(0, .ref 4)] [] s db_zI (db_f136_b15 s ) := by
  unfold db_f136_b15
  refine db_Rgo (pc' := 17) (lv' := [(0, .ref 4)]) (st' := [.int (2 : Int32), .ref 4]) 2 rfl ?_
  refine db_RcdI (mr' := dbm_37) (as := [.ref 4, .int (2 : Int32)]) (rest := []) (pc' := 20) (lv1 := [(0, .ref 4)]) rfl rfl rfl rfl rfl (db_f37_ok) fun q1 s2 => ?_
  exact db_Rret (lv1 := [(0, .ref 4)]) rfl rfl rfl rfl
/-- DreamBook.night(III)I -/
noncomputable def db_f136 (s : db_S) (v1 : Int32) (v2 : Int32) (v3 : Int32) : Option (Int32 × db_S) :=
  (cond (db_cnd .eq v2 (-1 : Int32)) (db_f136_b15 s ) ((db_f125 s v1 v2 v3).bind fun q1 => (cond q1 (db_bd (db_f137 s v1 v2 v3) fun q3 s4 => (cond q3 ((db_rI s4 82 v2).bind fun x7 => (db_bd (db_f87 s4 x7) fun q8 s9 => (some (q8, s9)))) (db_bd (db_f37 s4 (7 : Int32)) fun q5 s6 => (some (q5, s6))))) (db_f136_b15 s ))))
set_option maxRecDepth 100000 in
theorem db_f136_ok {X : db_X} {d : Nat} {s : db_S} {v1 : Int32} {v2 : Int32} {v3 : Int32} : db_Rf X (d + 4) dbm_136 0 (lv_args 0 [.ref 4, .int v1, .int v2, .int v3]) [] s db_zI (db_f136 s v1 v2 v3) := by
  show db_Rf _ _ _ 0 [(0, .ref 4), (1, .int v1), (2, .int v2), (3, .int v3)] [] _ _ _
  unfold db_f136
  refine db_Rgo (pc' := 2) (lv' := [(0, .ref 4), (1, .int v1), (2, .int v2), (3, .int v3)]) (st' := [.int (-1 : Int32), .int v2]) 2 rfl ?_
  refine db_Ric (pc' := 5) (tg := 15) (lv1 := [(0, .ref 4), (1, .int v1), (2, .int v2), (3, .int v3)]) rfl rfl rfl rfl ?_ ?_
  · refine db_Rn (lv1 := [(0, .ref 4)]) rfl rfl rfl ?_
    exact db_f136_b15_ok
  refine db_Rgo (pc' := 9) (lv' := [(0, .ref 4), (1, .int v1), (2, .int v2), (3, .int v3)]) (st' := [.int v3, .int v2, .int v1, .ref 4]) 4 rfl ?_
  refine db_RcyB (mr' := dbm_125) (as := [.ref 4, .int v1, .int v2, .int v3]) (rest := []) (pc' := 12) (lv1 := [(0, .ref 4), (1, .int v1), (2, .int v2), (3, .int v3)]) rfl rfl rfl rfl rfl (db_f125_ok) fun q1 => ?_
  refine db_RifBn (pc' := 15) (tg := 21) (lv1 := [(0, .ref 4), (1, .int v1), (2, .int v2), (3, .int v3)]) rfl rfl rfl rfl ?_ ?_
  · refine db_Rgo (pc' := 28) (lv' := [(0, .ref 4), (1, .int v1), (2, .int v2), (3, .int v3)]) (st' := [.int v3, .int v2, .int v1, .ref 284]) 5 rfl ?_
    refine db_RcdB (mr' := dbm_137) (as := [.ref 284, .int v1, .int v2, .int v3]) (rest := []) (pc' := 31) (lv1 := [(0, .ref 4), (1, .int v1), (2, .int v2), (3, .int v3)]) rfl rfl rfl rfl rfl (db_f137_ok) fun q3 s4 => ?_
    refine db_RifBe (pc' := 34) (tg := 50) (lv1 := [(0, .ref 4), (1, .int v1), (2, .int v2), (3, .int v3)]) rfl rfl rfl rfl ?_ ?_
    · refine db_Rgo (pc' := 53) (lv' := [(0, .ref 4)]) (st' := [.int (7 : Int32), .ref 4]) 2 rfl ?_
      refine db_RcdI (mr' := dbm_37) (as := [.ref 4, .int (7 : Int32)]) (rest := []) (pc' := 56) (lv1 := [(0, .ref 4)]) rfl rfl rfl rfl rfl (db_f37_ok) fun q5 s6 => ?_
      exact db_Rret (lv1 := []) rfl rfl rfl rfl
    refine db_Rgo (pc' := 43) (lv' := [(0, .ref 4), (1, .int v1), (2, .int v2), (3, .int v3)]) (st' := [.int v2, .ref 82, .ref 4]) 5 rfl ?_
    refine db_RldI (pc' := 44) (lv1 := [(0, .ref 4), (1, .int v1), (2, .int v2), (3, .int v3)]) rfl rfl rfl fun x7 => ?_
    refine db_RcdI (mr' := dbm_87) (as := [.ref 4, .int x7]) (rest := []) (pc' := 47) (lv1 := [(0, .ref 4), (1, .int v1), (2, .int v2), (3, .int v3)]) rfl rfl rfl rfl rfl (db_f87_ok) fun q8 s9 => ?_
    refine db_Rgo (pc' := 56) (lv' := [(0, .ref 4), (1, .int v1), (2, .int v2), (3, .int v3)]) (st' := [.int q8]) 1 rfl ?_
    exact db_Rret (lv1 := []) rfl rfl rfl rfl
  refine db_Rn (lv1 := [(0, .ref 4)]) rfl rfl rfl ?_
  exact db_f136_b15_ok
noncomputable def db_f334_b50 (h2 : db_S → Int32 → Option db_S) (s : db_S) (v1 : Int32) : Option db_S :=
  (h2 s (v1 + (1 : Int32)))
set_option maxRecDepth 100000 in
theorem db_f334_b50_ok {X : db_X} {d : Nat}  {h2 : db_S → Int32 → Option db_S} {s : db_S} {v1 : Int32} (zh2 : ∀ (s' : db_S) (v1 : Int32) , db_Rf X (d + 0) dbm_334 2 [(0, .ref 669), (1, .int v1)] [] s' db_zV (h2 s' v1)) : db_Rf X (d + 0) dbm_334 50 [(0, .ref 669), (1, .int v1)] [] s db_zV (db_f334_b50 h2 s v1) := by
  unfold db_f334_b50
  refine db_Rgo (pc' := 2) (lv' := [(1, .int (v1 + (1 : Int32))), (0, .ref 669)]) (st' := []) 2 rfl ?_
  refine db_Rn (lv1 := [(0, .ref 669), (1, .int (v1 + (1 : Int32)))]) rfl rfl rfl ?_
  exact zh2 _ _
noncomputable def db_f334_b2 : Nat → db_S → Int32 → Option db_S
  | 0, _, _ => none
  | n + 1, s, v1 =>
    (cond (db_cnd .ge v1 (s.1 669 29)) (some s) ((db_rI s 679 v1).bind fun x1 => (cond (db_cnd .ge x1 0) ((db_rI s 679 v1).bind fun x2 => ((db_rI s 674 ((91 : Int32) + x2)).bind fun x3 => ((db_wI s 674 ((91 : Int32) + x2) (x3 + (1 : Int32))).bind fun s4 => ((db_pI s4 669 32 ((s4.1 669 32) + (1 : Int32))).bind fun s5 => (db_f334_b50 (db_f334_b2 n) s5 v1))))) (db_f334_b50 (db_f334_b2 n) s v1))))
set_option maxRecDepth 100000 in
theorem db_f334_b2_ok {X : db_X} {d : Nat}  (n : Nat) : ∀ (s : db_S) (v1 : Int32), db_Rf X (d + 0) dbm_334 2 [(0, .ref 669), (1, .int v1)] [] s db_zV (db_f334_b2 n s v1) := by
  induction n with
  | zero => intros; exact db_Rnone
  | succ n ih =>
    intro s v1
    unfold db_f334_b2
    refine db_Rgo (pc' := 7) (lv' := [(0, .ref 669), (1, .int v1)]) (st' := [.int (s.1 669 29), .int v1]) 3 rfl ?_
    refine db_Ric (pc' := 10) (tg := 56) (lv1 := [(0, .ref 669), (1, .int v1)]) rfl rfl rfl rfl ?_ ?_
    · exact db_Rret (lv1 := []) rfl rfl rfl rfl
    refine db_Rgo (pc' := 15) (lv' := [(0, .ref 669), (1, .int v1)]) (st' := [.int v1, .ref 679]) 3 rfl ?_
    refine db_RldI (pc' := 16) (lv1 := [(0, .ref 669), (1, .int v1)]) rfl rfl rfl fun x1 => ?_
    refine db_Rif (pc' := 19) (tg := 22) (lv1 := [(0, .ref 669), (1, .int v1)]) rfl rfl rfl rfl ?_ ?_
    · refine db_Rgo (pc' := 33) (lv' := [(0, .ref 669), (1, .int v1)]) (st' := [.int v1, .ref 679, .int (91 : Int32), .ref 674]) 6 rfl ?_
      refine db_RldI (pc' := 34) (lv1 := [(0, .ref 669), (1, .int v1)]) rfl rfl rfl fun x2 => ?_
      refine db_Rgo (pc' := 36) (lv' := [(0, .ref 669), (1, .int v1)]) (st' := [.int ((91 : Int32) + x2), .ref 674, .int ((91 : Int32) + x2), .ref 674]) 2 rfl ?_
      refine db_RldI (pc' := 37) (lv1 := [(0, .ref 669), (1, .int v1)]) rfl rfl rfl fun x3 => ?_
      refine db_Rgo (pc' := 39) (lv' := [(0, .ref 669), (1, .int v1)]) (st' := [.int (x3 + (1 : Int32)), .int ((91 : Int32) + x2), .ref 674]) 2 rfl ?_
      refine db_RstI (pc' := 40) (lv1 := [(0, .ref 669), (1, .int v1)]) rfl rfl rfl fun s4 => ?_
      refine db_Rgo (pc' := 47) (lv' := [(0, .ref 669), (1, .int v1)]) (st' := [.int ((s4.1 669 32) + (1 : Int32)), .ref 669]) 5 rfl ?_
      refine db_RpuI (pc' := 50) (lv1 := [(0, .ref 669), (1, .int v1)]) rfl rfl rfl rfl rfl rfl (by decide) rfl rfl fun s5 => ?_
      exact db_f334_b50_ok ih
    refine db_Rgo (pc' := 50) (lv' := [(0, .ref 669), (1, .int v1)]) (st' := []) 1 rfl ?_
    exact db_f334_b50_ok ih
/-- DreamBookModel.wears()V -/
noncomputable def db_f334 (s : db_S) : Option db_S :=
  (db_f334_b2 db_FU s (0 : Int32))
set_option maxRecDepth 100000 in
theorem db_f334_ok {X : db_X} {d : Nat} {s : db_S} : db_Rf X (d + 0) dbm_334 0 (lv_args 0 [.ref 669]) [] s db_zV (db_f334 s ) := by
  show db_Rf _ _ _ 0 [(0, .ref 669)] [] _ _ _
  unfold db_f334
  refine db_Rgo (pc' := 2) (lv' := [(1, .int (0 : Int32)), (0, .ref 669)]) (st' := []) 2 rfl ?_
  refine db_Rn (lv1 := [(0, .ref 669), (1, .int (0 : Int32))]) rfl rfl rfl ?_
  exact db_f334_b2_ok db_FU _ _
noncomputable def db_f333_b76 (s : db_S) (t1 : Int32) (t2 : Int32) : Option (Bool × db_S) :=
  ((db_pI s 669 31 (t1 + t2)).bind fun s1 => ((db_f334 s1).bind fun s3 => (some (true, s3))))
set_option maxRecDepth 100000 in
theorem db_f333_b76_ok {X : db_X} {d : Nat}  {s : db_S} {t1 : Int32} {t2 : Int32} : db_Rf X (d + 5) dbm_333 76 [(0, .ref 669)] [.int t2, .int t1, .ref 669] s db_zB (db_f333_b76 s t1 t2) := by
  unfold db_f333_b76
  refine db_Rgo (pc' := 77) (lv' := [(0, .ref 669)]) (st' := [.int (t1 + t2), .ref 669]) 1 rfl ?_
  refine db_RpuI (pc' := 80) (lv1 := [(0, .ref 669)]) rfl rfl rfl rfl rfl rfl (by decide) rfl rfl fun s1 => ?_
  refine db_Rgo (pc' := 81) (lv' := [(0, .ref 669)]) (st' := [.ref 669]) 1 rfl ?_
  refine db_RcV (mr' := dbm_334) (as := [.ref 669]) (rest := []) (pc' := 84) (lv1 := [(0, .ref 669)]) rfl rfl rfl rfl rfl (db_f334_ok) fun s3 => ?_
  refine db_Rgo (pc' := 85) (lv' := [(0, .ref 669)]) (st' := [.int (1 : Int32)]) 1 rfl ?_
  exact db_Rret (lv1 := [(0, .ref 669)]) rfl rfl rfl rfl
/-- DreamBookModel.dreams(III)Z -/
noncomputable def db_f333 (s : db_S) (v1 : Int32) (v2 : Int32) (v3 : Int32) : Option (Bool × db_S) :=
  (db_bd (db_f316 s v1 v2 v3) fun q1 s2 => ((db_rI s2 674 ((12 : Int32) + v2)).bind fun x3 => ((db_f269 s2 (Int32.toInt64 (x3 + q1)) (-9999 : Int64) (9999 : Int64)).bind fun q4 => (cond q4 ((db_rI s2 674 ((12 : Int32) + v2)).bind fun x6 => ((db_wI s2 674 ((12 : Int32) + v2) (x6 + q1)).bind fun s7 => ((db_rI s7 674 (6 : Int32)).bind fun x8 => ((db_wI s7 674 (6 : Int32) (x8 + (1 : Int32))).bind fun s9 => (cond (db_cnd .le q1 0) (db_f333_b76 s9 (s9.1 669 31) (0 : Int32)) (db_f333_b76 s9 (s9.1 669 31) (1 : Int32))))))) (some (false, s2))))))
set_option maxRecDepth 100000 in
theorem db_f333_ok {X : db_X} {d : Nat} {s : db_S} {v1 : Int32} {v2 : Int32} {v3 : Int32} : db_Rf X (d + 5) dbm_333 0 (lv_args 0 [.ref 669, .int v1, .int v2, .int v3]) [] s db_zB (db_f333 s v1 v2 v3) := by
  show db_Rf _ _ _ 0 [(0, .ref 669), (1, .int v1), (2, .int v2), (3, .int v3)] [] _ _ _
  unfold db_f333
  refine db_Rgo (pc' := 4) (lv' := [(0, .ref 669), (1, .int v1), (2, .int v2), (3, .int v3)]) (st' := [.int v3, .int v2, .int v1, .ref 669]) 4 rfl ?_
  refine db_RcdI (mr' := dbm_316) (as := [.ref 669, .int v1, .int v2, .int v3]) (rest := []) (pc' := 7) (lv1 := [(0, .ref 669), (1, .int v1), (2, .int v2), (3, .int v3)]) rfl rfl rfl rfl rfl (db_f316_ok) fun q1 s2 => ?_
  refine db_Rgo (pc' := 17) (lv' := [(4, .int q1), (0, .ref 669), (1, .int v1), (2, .int v2), (3, .int v3)]) (st' := [.int ((12 : Int32) + v2), .ref 674]) 6 rfl ?_
  refine db_RldI (pc' := 18) (lv1 := [(4, .int q1), (0, .ref 669), (1, .int v1), (2, .int v2), (3, .int v3)]) rfl rfl rfl fun x3 => ?_
  refine db_Rgo (pc' := 28) (lv' := [(4, .int q1), (0, .ref 669), (1, .int v1), (2, .int v2), (3, .int v3)]) (st' := [.long (9999 : Int64), .long (-9999 : Int64), .long (Int32.toInt64 (x3 + q1))]) 5 rfl ?_
  refine db_RcyB (mr' := dbm_269) (as := [.long (Int32.toInt64 (x3 + q1)), .long (-9999 : Int64), .long (9999 : Int64)]) (rest := []) (pc' := 31) (lv1 := [(4, .int q1), (0, .ref 669), (1, .int v1), (2, .int v2), (3, .int v3)]) rfl rfl rfl rfl rfl (db_f269_ok) fun q4 => ?_
  refine db_RifBn (pc' := 34) (tg := 36) (lv1 := [(4, .int q1), (0, .ref 669), (1, .int v1), (2, .int v2), (3, .int v3)]) rfl rfl rfl rfl ?_ ?_
  · refine db_Rgo (pc' := 45) (lv' := [(0, .ref 669), (2, .int v2), (4, .int q1)]) (st' := [.int ((12 : Int32) + v2), .ref 674, .int ((12 : Int32) + v2), .ref 674]) 6 rfl ?_
    refine db_RldI (pc' := 46) (lv1 := [(0, .ref 669), (2, .int v2), (4, .int q1)]) rfl rfl rfl fun x6 => ?_
    refine db_Rgo (pc' := 49) (lv' := [(0, .ref 669), (2, .int v2), (4, .int q1)]) (st' := [.int (x6 + q1), .int ((12 : Int32) + v2), .ref 674]) 2 rfl ?_
    refine db_RstI (pc' := 50) (lv1 := [(0, .ref 669), (2, .int v2), (4, .int q1)]) rfl rfl rfl fun s7 => ?_
    refine db_Rgo (pc' := 57) (lv' := [(0, .ref 669), (2, .int v2), (4, .int q1)]) (st' := [.int (6 : Int32), .ref 674, .int (6 : Int32), .ref 674]) 4 rfl ?_
    refine db_RldI (pc' := 58) (lv1 := [(0, .ref 669), (2, .int v2), (4, .int q1)]) rfl rfl rfl fun x8 => ?_
    refine db_Rgo (pc' := 60) (lv' := [(0, .ref 669), (2, .int v2), (4, .int q1)]) (st' := [.int (x8 + (1 : Int32)), .int (6 : Int32), .ref 674]) 2 rfl ?_
    refine db_RstI (pc' := 61) (lv1 := [(0, .ref 669), (2, .int v2), (4, .int q1)]) rfl rfl rfl fun s9 => ?_
    refine db_Rgo (pc' := 68) (lv' := [(0, .ref 669), (2, .int v2), (4, .int q1)]) (st' := [.int q1, .int (s9.1 669 31), .ref 669]) 4 rfl ?_
    refine db_Rif (pc' := 71) (tg := 75) (lv1 := [(0, .ref 669), (2, .int v2), (4, .int q1)]) rfl rfl rfl rfl ?_ ?_
    · refine db_Rgo (pc' := 76) (lv' := [(0, .ref 669)]) (st' := [.int (0 : Int32), .int (s9.1 669 31), .ref 669]) 1 rfl ?_
      exact db_f333_b76_ok
    refine db_Rgo (pc' := 76) (lv' := [(0, .ref 669), (2, .int v2), (4, .int q1)]) (st' := [.int (1 : Int32), .int (s9.1 669 31), .ref 669]) 2 rfl ?_
    refine db_Rn (lv1 := [(0, .ref 669)]) rfl rfl rfl ?_
    exact db_f333_b76_ok
  refine db_Rgo (pc' := 35) (lv' := [(4, .int q1), (0, .ref 669), (1, .int v1), (2, .int v2), (3, .int v3)]) (st' := [.int (0 : Int32)]) 1 rfl ?_
  exact db_Rret (lv1 := [(4, .int q1), (0, .ref 669), (1, .int v1), (2, .int v2), (3, .int v3)]) rfl rfl rfl rfl
noncomputable def db_f332_b35 (s : db_S) : Option (Int32 × db_S) :=
  (db_bd (db_f281 s (2 : Int32)) fun q1 s2 => (some (q1, s2)))
set_option maxRecDepth 100000 in
theorem db_f332_b35_ok {X : db_X} {d : Nat}  {s : db_S} : db_Rf X (d + 6) dbm_332 35 [(0, .ref 669)] [] s db_zI (db_f332_b35 s ) := by
  unfold db_f332_b35
  refine db_Rgo (pc' := 37) (lv' := [(0, .ref 669)]) (st' := [.int (2 : Int32), .ref 669]) 2 rfl ?_
  refine db_RcdI (mr' := dbm_281) (as := [.ref 669, .int (2 : Int32)]) (rest := []) (pc' := 40) (lv1 := [(0, .ref 669)]) rfl rfl rfl rfl rfl (db_f281_ok) fun q1 s2 => ?_
  exact db_Rret (lv1 := [(0, .ref 669)]) rfl rfl rfl rfl
/-- DreamBookModel.night(III)I -/
noncomputable def db_f332 (s : db_S) (v1 : Int32) (v2 : Int32) (v3 : Int32) : Option (Int32 × db_S) :=
  ((db_pI s 669 1 (0 : Int32)).bind fun s1 => ((db_pI s1 669 0 (0 : Int32)).bind fun s2 => ((db_f297 s2 v1).bind fun q3 => (cond q3 ((db_f292 s2 v2).bind fun q5 => (cond q5 ((db_f315 s2 v2 v3).bind fun q7 => (cond q7 (db_bd (db_f333 s2 v1 v2 v3) fun q9 s10 => (cond q9 ((db_rI s10 674 ((12 : Int32) + v2)).bind fun x13 => (some (x13, s10))) (db_bd (db_f281 s10 (7 : Int32)) fun q11 s12 => (some (q11, s12))))) (db_f332_b35 s2 ))) (db_f332_b35 s2 ))) (db_f332_b35 s2 )))))
set_option maxRecDepth 100000 in
theorem db_f332_ok {X : db_X} {d : Nat} {s : db_S} {v1 : Int32} {v2 : Int32} {v3 : Int32} : db_Rf X (d + 6) dbm_332 0 (lv_args 0 [.ref 669, .int v1, .int v2, .int v3]) [] s db_zI (db_f332 s v1 v2 v3) := by
  show db_Rf _ _ _ 0 [(0, .ref 669), (1, .int v1), (2, .int v2), (3, .int v3)] [] _ _ _
  unfold db_f332
  refine db_Rgo (pc' := 2) (lv' := [(0, .ref 669), (1, .int v1), (2, .int v2), (3, .int v3)]) (st' := [.int (0 : Int32), .ref 669]) 2 rfl ?_
  refine db_RpuI (pc' := 5) (lv1 := [(0, .ref 669), (1, .int v1), (2, .int v2), (3, .int v3)]) rfl rfl rfl rfl rfl rfl (by decide) rfl rfl fun s1 => ?_
  refine db_Rgo (pc' := 7) (lv' := [(0, .ref 669), (1, .int v1), (2, .int v2), (3, .int v3)]) (st' := [.int (0 : Int32), .ref 669]) 2 rfl ?_
  refine db_RpuI (pc' := 10) (lv1 := [(0, .ref 669), (1, .int v1), (2, .int v2), (3, .int v3)]) rfl rfl rfl rfl rfl rfl (by decide) rfl rfl fun s2 => ?_
  refine db_Rgo (pc' := 12) (lv' := [(0, .ref 669), (1, .int v1), (2, .int v2), (3, .int v3)]) (st' := [.int v1, .ref 669]) 2 rfl ?_
  refine db_RcyB (mr' := dbm_297) (as := [.ref 669, .int v1]) (rest := []) (pc' := 15) (lv1 := [(0, .ref 669), (1, .int v1), (2, .int v2), (3, .int v3)]) rfl rfl rfl rfl rfl (db_f297_ok) fun q3 => ?_
  refine db_RifBe (pc' := 18) (tg := 35) (lv1 := [(0, .ref 669), (1, .int v1), (2, .int v2), (3, .int v3)]) rfl rfl rfl rfl ?_ ?_
  · refine db_Rn (lv1 := [(0, .ref 669)]) rfl rfl rfl ?_
    exact db_f332_b35_ok
  refine db_Rgo (pc' := 20) (lv' := [(0, .ref 669), (1, .int v1), (2, .int v2), (3, .int v3)]) (st' := [.int v2, .ref 669]) 2 rfl ?_
  refine db_RcyB (mr' := dbm_292) (as := [.ref 669, .int v2]) (rest := []) (pc' := 23) (lv1 := [(0, .ref 669), (1, .int v1), (2, .int v2), (3, .int v3)]) rfl rfl rfl rfl rfl (db_f292_ok) fun q5 => ?_
  refine db_RifBe (pc' := 26) (tg := 35) (lv1 := [(0, .ref 669), (1, .int v1), (2, .int v2), (3, .int v3)]) rfl rfl rfl rfl ?_ ?_
  · refine db_Rn (lv1 := [(0, .ref 669)]) rfl rfl rfl ?_
    exact db_f332_b35_ok
  refine db_Rgo (pc' := 29) (lv' := [(0, .ref 669), (1, .int v1), (2, .int v2), (3, .int v3)]) (st' := [.int v3, .int v2, .ref 669]) 3 rfl ?_
  refine db_RcyB (mr' := dbm_315) (as := [.ref 669, .int v2, .int v3]) (rest := []) (pc' := 32) (lv1 := [(0, .ref 669), (1, .int v1), (2, .int v2), (3, .int v3)]) rfl rfl rfl rfl rfl (db_f315_ok) fun q7 => ?_
  refine db_RifBn (pc' := 35) (tg := 41) (lv1 := [(0, .ref 669), (1, .int v1), (2, .int v2), (3, .int v3)]) rfl rfl rfl rfl ?_ ?_
  · refine db_Rgo (pc' := 45) (lv' := [(0, .ref 669), (1, .int v1), (2, .int v2), (3, .int v3)]) (st' := [.int v3, .int v2, .int v1, .ref 669]) 4 rfl ?_
    refine db_RcdB (mr' := dbm_333) (as := [.ref 669, .int v1, .int v2, .int v3]) (rest := []) (pc' := 48) (lv1 := [(0, .ref 669), (1, .int v1), (2, .int v2), (3, .int v3)]) rfl rfl rfl rfl rfl (db_f333_ok) fun q9 s10 => ?_
    refine db_RifBe (pc' := 51) (tg := 63) (lv1 := [(0, .ref 669), (1, .int v1), (2, .int v2), (3, .int v3)]) rfl rfl rfl rfl ?_ ?_
    · refine db_Rgo (pc' := 66) (lv' := [(0, .ref 669)]) (st' := [.int (7 : Int32), .ref 669]) 2 rfl ?_
      refine db_RcdI (mr' := dbm_281) (as := [.ref 669, .int (7 : Int32)]) (rest := []) (pc' := 69) (lv1 := [(0, .ref 669)]) rfl rfl rfl rfl rfl (db_f281_ok) fun q11 s12 => ?_
      exact db_Rret (lv1 := []) rfl rfl rfl rfl
    refine db_Rgo (pc' := 59) (lv' := [(0, .ref 669), (1, .int v1), (2, .int v2), (3, .int v3)]) (st' := [.int ((12 : Int32) + v2), .ref 674]) 5 rfl ?_
    refine db_RldI (pc' := 60) (lv1 := [(0, .ref 669), (1, .int v1), (2, .int v2), (3, .int v3)]) rfl rfl rfl fun x13 => ?_
    refine db_Rgo (pc' := 69) (lv' := [(0, .ref 669), (1, .int v1), (2, .int v2), (3, .int v3)]) (st' := [.int x13]) 1 rfl ?_
    exact db_Rret (lv1 := []) rfl rfl rfl rfl
  refine db_Rn (lv1 := [(0, .ref 669)]) rfl rfl rfl ?_
  exact db_f332_b35_ok
