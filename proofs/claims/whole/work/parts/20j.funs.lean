/-- DreamBook.stockSet()I -/
noncomputable def db_f178 (s : db_S) : Option (Int32 × db_S) :=
  (cond (db_cnd .ne (s.1 274 2) (-1 : Int32)) (db_bd (db_f87 s (s.1 274 2)) fun q1 s2 => (some (q1, s2))) (db_bd (db_f37 s (8 : Int32)) fun q3 s4 => (some (q3, s4))))
theorem db_f178_ok {X : db_X} {d : Nat} {s : db_S} : db_Rf X (d + 1) dbm_178 0 (lv_args 0 [.ref 4]) [] s db_zI (db_f178 s ) := by
  show db_Rf _ _ _ 0 [(0, .ref 4)] [] _ _ _
  unfold db_f178
  refine db_Rgo (pc' := 8) (lv' := [(0, .ref 4)]) (st' := [.int (-1 : Int32), .int (s.1 274 2)]) 4 rfl ?_
  refine db_Ric (pc' := 11) (tg := 20) (lv1 := [(0, .ref 4)]) rfl rfl rfl rfl ?_ ?_
  · refine db_Rgo (pc' := 28) (lv' := [(0, .ref 4)]) (st' := [.int (s.1 274 2), .ref 4]) 4 rfl ?_
    refine db_RcdI (mr' := dbm_87) (as := [.ref 4, .int (s.1 274 2)]) (rest := []) (pc' := 31) (lv1 := [(0, .ref 4)]) rfl rfl rfl rfl rfl (db_f87_ok) fun q1 s2 => ?_
    exact db_Rret (lv1 := []) rfl rfl rfl rfl
  refine db_Rgo (pc' := 14) (lv' := [(0, .ref 4)]) (st' := [.int (8 : Int32), .ref 4]) 2 rfl ?_
  refine db_RcdI (mr' := dbm_37) (as := [.ref 4, .int (8 : Int32)]) (rest := []) (pc' := 17) (lv1 := [(0, .ref 4)]) rfl rfl rfl rfl rfl (db_f37_ok) fun q3 s4 => ?_
  refine db_Rgo (pc' := 31) (lv' := [(0, .ref 4)]) (st' := [.int q3]) 1 rfl ?_
  exact db_Rret (lv1 := []) rfl rfl rfl rfl
/-- DreamBookModel.stockSet()I -/
noncomputable def db_f357 (s : db_S) : Option (Int32 × db_S) :=
  ((db_pI s 669 1 (0 : Int32)).bind fun s1 => ((db_pI s1 669 0 (0 : Int32)).bind fun s2 => (cond (db_cnd .ge (s2.1 669 35) 0) (some ((s2.1 669 35), s2)) (db_bd (db_f281 s2 (8 : Int32)) fun q3 s4 => (some (q3, s4))))))
theorem db_f357_ok {X : db_X} {d : Nat} {s : db_S} : db_Rf X (d + 1) dbm_357 0 (lv_args 0 [.ref 669]) [] s db_zI (db_f357 s ) := by
  show db_Rf _ _ _ 0 [(0, .ref 669)] [] _ _ _
  unfold db_f357
  refine db_Rgo (pc' := 2) (lv' := [(0, .ref 669)]) (st' := [.int (0 : Int32), .ref 669]) 2 rfl ?_
  refine db_RpuI (pc' := 5) (lv1 := [(0, .ref 669)]) rfl rfl rfl rfl rfl rfl (by decide) rfl rfl fun s1 => ?_
  refine db_Rgo (pc' := 7) (lv' := [(0, .ref 669)]) (st' := [.int (0 : Int32), .ref 669]) 2 rfl ?_
  refine db_RpuI (pc' := 10) (lv1 := [(0, .ref 669)]) rfl rfl rfl rfl rfl rfl (by decide) rfl rfl fun s2 => ?_
  refine db_Rgo (pc' := 14) (lv' := [(0, .ref 669)]) (st' := [.int (s2.1 669 35)]) 2 rfl ?_
  refine db_Rif (pc' := 17) (tg := 26) (lv1 := [(0, .ref 669)]) rfl rfl rfl rfl ?_ ?_
  · refine db_Rgo (pc' := 30) (lv' := [(0, .ref 669)]) (st' := [.int (s2.1 669 35)]) 2 rfl ?_
    exact db_Rret (lv1 := []) rfl rfl rfl rfl
  refine db_Rgo (pc' := 20) (lv' := [(0, .ref 669)]) (st' := [.int (8 : Int32), .ref 669]) 2 rfl ?_
  refine db_RcdI (mr' := dbm_281) (as := [.ref 669, .int (8 : Int32)]) (rest := []) (pc' := 23) (lv1 := [(0, .ref 669)]) rfl rfl rfl rfl rfl (db_f281_ok) fun q3 s4 => ?_
  refine db_Rgo (pc' := 30) (lv' := [(0, .ref 669)]) (st' := [.int q3]) 1 rfl ?_
  exact db_Rret (lv1 := []) rfl rfl rfl rfl
noncomputable def db_f179_b60 (h22 : db_S → Int32 → Int32 → Int32 → Int32 → Int32 → Option (Int32 × db_S)) (s : db_S) (v1 : Int32) (v2 : Int32) (v3 : Int32) (v4 : Int32) (v5 : Int32) : Option (Int32 × db_S) :=
  (h22 s v1 v2 v3 v4 (v5 + (1 : Int32)))
theorem db_f179_b60_ok {X : db_X} {d : Nat}  {h22 : db_S → Int32 → Int32 → Int32 → Int32 → Int32 → Option (Int32 × db_S)} {s : db_S} {v1 : Int32} {v2 : Int32} {v3 : Int32} {v4 : Int32} {v5 : Int32} (zh22 : ∀ (s' : db_S) (v1 : Int32) (v2 : Int32) (v3 : Int32) (v4 : Int32) (v5 : Int32) , db_Rf X (d + 3) dbm_179 22 [(0, .ref 4), (1, .int v1), (2, .int v2), (3, .int v3), (4, .int v4), (5, .int v5)] [] s' db_zI (h22 s' v1 v2 v3 v4 v5)) : db_Rf X (d + 3) dbm_179 60 [(0, .ref 4), (1, .int v1), (2, .int v2), (3, .int v3), (4, .int v4), (5, .int v5)] [] s db_zI (db_f179_b60 h22 s v1 v2 v3 v4 v5) := by
  unfold db_f179_b60
  refine db_Rgo (pc' := 22) (lv' := [(5, .int (v5 + (1 : Int32))), (0, .ref 4), (1, .int v1), (2, .int v2), (3, .int v3), (4, .int v4)]) (st' := []) 2 rfl ?_
  refine db_Rn (lv1 := [(0, .ref 4), (1, .int v1), (2, .int v2), (3, .int v3), (4, .int v4), (5, .int (v5 + (1 : Int32)))]) rfl rfl rfl ?_
  exact zh22 _ _ _ _ _ _
noncomputable def db_f179_b22 : Nat → db_S → Int32 → Int32 → Int32 → Int32 → Int32 → Option (Int32 × db_S)
  | 0, _, _, _, _, _, _ => none
  | n + 1, s, v1, v2, v3, v4, v5 =>
    ((db_rI s 21 (1 : Int32)).bind fun x1 => (cond (db_cnd .ge v5 x1) (db_bd (db_f87 s v4) fun q2 s3 => (some (q2, s3))) (db_bd (db_f127 s v1 v5 v2) fun q4 s5 => (cond (db_cnd .ne q4 v3) (db_f179_b60 (db_f179_b22 n) s5 v1 v2 v3 v4 v5) (db_f179_b60 (db_f179_b22 n) s5 v1 v2 v3 (v4 ||| ((1 : Int32) <<< (v5 &&& 31))) v5)))))
theorem db_f179_b22_ok {X : db_X} {d : Nat}  (n : Nat) : ∀ (s : db_S) (v1 : Int32) (v2 : Int32) (v3 : Int32) (v4 : Int32) (v5 : Int32), db_Rf X (d + 3) dbm_179 22 [(0, .ref 4), (1, .int v1), (2, .int v2), (3, .int v3), (4, .int v4), (5, .int v5)] [] s db_zI (db_f179_b22 n s v1 v2 v3 v4 v5) := by
  induction n with
  | zero => intros; exact db_Rnone
  | succ n ih =>
    intro s v1 v2 v3 v4 v5
    unfold db_f179_b22
    refine db_Rgo (pc' := 32) (lv' := [(0, .ref 4), (1, .int v1), (2, .int v2), (3, .int v3), (4, .int v4), (5, .int v5)]) (st' := [.int (1 : Int32), .ref 21, .int v5]) 5 rfl ?_
    refine db_RldI (pc' := 33) (lv1 := [(0, .ref 4), (1, .int v1), (2, .int v2), (3, .int v3), (4, .int v4), (5, .int v5)]) rfl rfl rfl fun x1 => ?_
    refine db_Ric (pc' := 36) (tg := 66) (lv1 := [(0, .ref 4), (1, .int v1), (2, .int v2), (3, .int v3), (4, .int v4), (5, .int v5)]) rfl rfl rfl rfl ?_ ?_
    · refine db_Rgo (pc' := 69) (lv' := [(0, .ref 4), (4, .int v4)]) (st' := [.int v4, .ref 4]) 2 rfl ?_
      refine db_RcdI (mr' := dbm_87) (as := [.ref 4, .int v4]) (rest := []) (pc' := 72) (lv1 := [(0, .ref 4), (4, .int v4)]) rfl rfl rfl rfl rfl (db_f87_ok) fun q2 s3 => ?_
      exact db_Rret (lv1 := [(0, .ref 4), (4, .int v4)]) rfl rfl rfl rfl
    refine db_Rgo (pc' := 44) (lv' := [(0, .ref 4), (1, .int v1), (2, .int v2), (3, .int v3), (4, .int v4), (5, .int v5)]) (st' := [.int v2, .int v5, .int v1, .ref 271]) 5 rfl ?_
    refine db_RcdI (mr' := dbm_127) (as := [.ref 271, .int v1, .int v5, .int v2]) (rest := []) (pc' := 47) (lv1 := [(0, .ref 4), (1, .int v1), (2, .int v2), (3, .int v3), (4, .int v4), (5, .int v5)]) rfl rfl rfl rfl rfl (db_f127_ok) fun q4 s5 => ?_
    refine db_Rgo (pc' := 48) (lv' := [(0, .ref 4), (1, .int v1), (2, .int v2), (3, .int v3), (4, .int v4), (5, .int v5)]) (st' := [.int v3, .int q4]) 1 rfl ?_
    refine db_Ric (pc' := 51) (tg := 60) (lv1 := [(0, .ref 4), (1, .int v1), (2, .int v2), (3, .int v3), (4, .int v4), (5, .int v5)]) rfl rfl rfl rfl ?_ ?_
    · exact db_f179_b60_ok ih
    refine db_Rgo (pc' := 60) (lv' := [(4, .int (v4 ||| ((1 : Int32) <<< (v5 &&& 31)))), (0, .ref 4), (1, .int v1), (2, .int v2), (3, .int v3), (5, .int v5)]) (st' := []) 6 rfl ?_
    refine db_Rn (lv1 := [(0, .ref 4), (1, .int v1), (2, .int v2), (3, .int v3), (4, .int (v4 ||| ((1 : Int32) <<< (v5 &&& 31)))), (5, .int v5)]) rfl rfl rfl ?_
    exact db_f179_b60_ok ih
/-- DreamBook.whose(III)I -/
noncomputable def db_f179 (s : db_S) (v1 : Int32) (v2 : Int32) (v3 : Int32) : Option (Int32 × db_S) :=
  ((db_f125 s v1 (-1 : Int32) v2).bind fun q1 => (cond q1 (db_f179_b22 db_FU s v1 v2 v3 (0 : Int32) (0 : Int32)) (db_bd (db_f37 s (2 : Int32)) fun q3 s4 => (some (q3, s4)))))
theorem db_f179_ok {X : db_X} {d : Nat} {s : db_S} {v1 : Int32} {v2 : Int32} {v3 : Int32} : db_Rf X (d + 3) dbm_179 0 (lv_args 0 [.ref 4, .int v1, .int v2, .int v3]) [] s db_zI (db_f179 s v1 v2 v3) := by
  show db_Rf _ _ _ 0 [(0, .ref 4), (1, .int v1), (2, .int v2), (3, .int v3)] [] _ _ _
  unfold db_f179
  refine db_Rgo (pc' := 4) (lv' := [(0, .ref 4), (1, .int v1), (2, .int v2), (3, .int v3)]) (st' := [.int v2, .int (-1 : Int32), .int v1, .ref 4]) 4 rfl ?_
  refine db_RcyB (mr' := dbm_125) (as := [.ref 4, .int v1, .int (-1 : Int32), .int v2]) (rest := []) (pc' := 7) (lv1 := [(0, .ref 4), (1, .int v1), (2, .int v2), (3, .int v3)]) rfl rfl rfl rfl rfl (db_f125_ok) fun q1 => ?_
  refine db_RifBn (pc' := 10) (tg := 16) (lv1 := [(0, .ref 4), (1, .int v1), (2, .int v2), (3, .int v3)]) rfl rfl rfl rfl ?_ ?_
  · refine db_Rgo (pc' := 22) (lv' := [(5, .int (0 : Int32)), (4, .int (0 : Int32)), (0, .ref 4), (1, .int v1), (2, .int v2), (3, .int v3)]) (st' := []) 4 rfl ?_
    refine db_Rn (lv1 := [(0, .ref 4), (1, .int v1), (2, .int v2), (3, .int v3), (4, .int (0 : Int32)), (5, .int (0 : Int32))]) rfl rfl rfl ?_
    exact db_f179_b22_ok db_FU _ _ _ _ _ _
  refine db_Rgo (pc' := 12) (lv' := [(0, .ref 4), (1, .int v1), (2, .int v2), (3, .int v3)]) (st' := [.int (2 : Int32), .ref 4]) 2 rfl ?_
  refine db_RcdI (mr' := dbm_37) (as := [.ref 4, .int (2 : Int32)]) (rest := []) (pc' := 15) (lv1 := [(0, .ref 4), (1, .int v1), (2, .int v2), (3, .int v3)]) rfl rfl rfl rfl rfl (db_f37_ok) fun q3 s4 => ?_
  exact db_Rret (lv1 := [(0, .ref 4), (1, .int v1), (2, .int v2), (3, .int v3)]) rfl rfl rfl rfl
noncomputable def db_f358_b61 (h28 : db_S → Int32 → Int32 → Int32 → Int32 → Int32 → Option (Int32 × db_S)) (s : db_S) (v1 : Int32) (v2 : Int32) (v3 : Int32) (v5 : Int32) (t0 : Int32) (t1 : Int32) : Option (Int32 × db_S) :=
  (h28 s v1 v2 v3 (t0 ||| t1) (v5 + (1 : Int32)))
theorem db_f358_b61_ok {X : db_X} {d : Nat}  {h28 : db_S → Int32 → Int32 → Int32 → Int32 → Int32 → Option (Int32 × db_S)} {s : db_S} {v1 : Int32} {v2 : Int32} {v3 : Int32} {v5 : Int32} {t0 : Int32} {t1 : Int32} (zh28 : ∀ (s' : db_S) (v1 : Int32) (v2 : Int32) (v3 : Int32) (v4 : Int32) (v5 : Int32) , db_Rf X (d + 5) dbm_358 28 [(0, .ref 669), (1, .int v1), (2, .int v2), (3, .int v3), (4, .int v4), (5, .int v5)] [] s' db_zI (h28 s' v1 v2 v3 v4 v5)) : db_Rf X (d + 5) dbm_358 61 [(0, .ref 669), (1, .int v1), (2, .int v2), (3, .int v3), (5, .int v5)] [.int t1, .int t0] s db_zI (db_f358_b61 h28 s v1 v2 v3 v5 t0 t1) := by
  unfold db_f358_b61
  refine db_Rgo (pc' := 28) (lv' := [(5, .int (v5 + (1 : Int32))), (4, .int (t0 ||| t1)), (0, .ref 669), (1, .int v1), (2, .int v2), (3, .int v3)]) (st' := []) 4 rfl ?_
  refine db_Rn (lv1 := [(0, .ref 669), (1, .int v1), (2, .int v2), (3, .int v3), (4, .int (t0 ||| t1)), (5, .int (v5 + (1 : Int32)))]) rfl rfl rfl ?_
  exact zh28 _ _ _ _ _ _
noncomputable def db_f358_b28 : Nat → db_S → Int32 → Int32 → Int32 → Int32 → Int32 → Option (Int32 × db_S)
  | 0, _, _, _, _, _, _ => none
  | n + 1, s, v1, v2, v3, v4, v5 =>
    ((db_rI s 674 (1 : Int32)).bind fun x1 => (cond (db_cnd .ge v5 x1) (some (v4, s)) (db_bd (db_f316 s v1 v5 v2) fun q2 s3 => (cond (db_cnd .ne q2 v3) (db_f358_b61 (db_f358_b28 n) s3 v1 v2 v3 v5 v4 (0 : Int32)) (db_f358_b61 (db_f358_b28 n) s3 v1 v2 v3 v5 v4 ((1 : Int32) <<< (v5 &&& 31)))))))
theorem db_f358_b28_ok {X : db_X} {d : Nat}  (n : Nat) : ∀ (s : db_S) (v1 : Int32) (v2 : Int32) (v3 : Int32) (v4 : Int32) (v5 : Int32), db_Rf X (d + 5) dbm_358 28 [(0, .ref 669), (1, .int v1), (2, .int v2), (3, .int v3), (4, .int v4), (5, .int v5)] [] s db_zI (db_f358_b28 n s v1 v2 v3 v4 v5) := by
  induction n with
  | zero => intros; exact db_Rnone
  | succ n ih =>
    intro s v1 v2 v3 v4 v5
    unfold db_f358_b28
    refine db_Rgo (pc' := 35) (lv' := [(0, .ref 669), (1, .int v1), (2, .int v2), (3, .int v3), (4, .int v4), (5, .int v5)]) (st' := [.int (1 : Int32), .ref 674, .int v5]) 4 rfl ?_
    refine db_RldI (pc' := 36) (lv1 := [(0, .ref 669), (1, .int v1), (2, .int v2), (3, .int v3), (4, .int v4), (5, .int v5)]) rfl rfl rfl fun x1 => ?_
    refine db_Ric (pc' := 39) (tg := 70) (lv1 := [(0, .ref 669), (1, .int v1), (2, .int v2), (3, .int v3), (4, .int v4), (5, .int v5)]) rfl rfl rfl rfl ?_ ?_
    · refine db_Rgo (pc' := 72) (lv' := [(4, .int v4)]) (st' := [.int v4]) 1 rfl ?_
      exact db_Rret (lv1 := [(4, .int v4)]) rfl rfl rfl rfl
    refine db_Rgo (pc' := 46) (lv' := [(0, .ref 669), (1, .int v1), (2, .int v2), (3, .int v3), (4, .int v4), (5, .int v5)]) (st' := [.int v2, .int v5, .int v1, .ref 669, .int v4]) 5 rfl ?_
    refine db_RcdI (mr' := dbm_316) (as := [.ref 669, .int v1, .int v5, .int v2]) (rest := [.int v4]) (pc' := 49) (lv1 := [(0, .ref 669), (1, .int v1), (2, .int v2), (3, .int v3), (4, .int v4), (5, .int v5)]) rfl rfl rfl rfl rfl (db_f316_ok) fun q2 s3 => ?_
    refine db_Rgo (pc' := 50) (lv' := [(0, .ref 669), (1, .int v1), (2, .int v2), (3, .int v3), (4, .int v4), (5, .int v5)]) (st' := [.int v3, .int q2, .int v4]) 1 rfl ?_
    refine db_Ric (pc' := 53) (tg := 60) (lv1 := [(0, .ref 669), (1, .int v1), (2, .int v2), (3, .int v3), (4, .int v4), (5, .int v5)]) rfl rfl rfl rfl ?_ ?_
    · refine db_Rgo (pc' := 61) (lv' := [(0, .ref 669), (1, .int v1), (2, .int v2), (3, .int v3), (5, .int v5)]) (st' := [.int (0 : Int32), .int v4]) 1 rfl ?_
      exact db_f358_b61_ok ih
    refine db_Rgo (pc' := 61) (lv' := [(0, .ref 669), (1, .int v1), (2, .int v2), (3, .int v3), (4, .int v4), (5, .int v5)]) (st' := [.int ((1 : Int32) <<< (v5 &&& 31)), .int v4]) 4 rfl ?_
    refine db_Rn (lv1 := [(0, .ref 669), (1, .int v1), (2, .int v2), (3, .int v3), (5, .int v5)]) rfl rfl rfl ?_
    exact db_f358_b61_ok ih
/-- DreamBookModel.whose(III)I -/
noncomputable def db_f358 (s : db_S) (v1 : Int32) (v2 : Int32) (v3 : Int32) : Option (Int32 × db_S) :=
  ((db_pI s 669 1 (0 : Int32)).bind fun s1 => ((db_pI s1 669 0 (0 : Int32)).bind fun s2 => (db_bd (db_f314 s2 v1 (-1 : Int32) v2) fun q3 s4 => (cond q3 (db_f358_b28 db_FU s4 v1 v2 v3 (0 : Int32) (0 : Int32)) (some ((-1 : Int32), s4))))))
theorem db_f358_ok {X : db_X} {d : Nat} {s : db_S} {v1 : Int32} {v2 : Int32} {v3 : Int32} : db_Rf X (d + 5) dbm_358 0 (lv_args 0 [.ref 669, .int v1, .int v2, .int v3]) [] s db_zI (db_f358 s v1 v2 v3) := by
  show db_Rf _ _ _ 0 [(0, .ref 669), (1, .int v1), (2, .int v2), (3, .int v3)] [] _ _ _
  unfold db_f358
  refine db_Rgo (pc' := 2) (lv' := [(0, .ref 669), (1, .int v1), (2, .int v2), (3, .int v3)]) (st' := [.int (0 : Int32), .ref 669]) 2 rfl ?_
  refine db_RpuI (pc' := 5) (lv1 := [(0, .ref 669), (1, .int v1), (2, .int v2), (3, .int v3)]) rfl rfl rfl rfl rfl rfl (by decide) rfl rfl fun s1 => ?_
  refine db_Rgo (pc' := 7) (lv' := [(0, .ref 669), (1, .int v1), (2, .int v2), (3, .int v3)]) (st' := [.int (0 : Int32), .ref 669]) 2 rfl ?_
  refine db_RpuI (pc' := 10) (lv1 := [(0, .ref 669), (1, .int v1), (2, .int v2), (3, .int v3)]) rfl rfl rfl rfl rfl rfl (by decide) rfl rfl fun s2 => ?_
  refine db_Rgo (pc' := 14) (lv' := [(0, .ref 669), (1, .int v1), (2, .int v2), (3, .int v3)]) (st' := [.int v2, .int (-1 : Int32), .int v1, .ref 669]) 4 rfl ?_
  refine db_RcdB (mr' := dbm_314) (as := [.ref 669, .int v1, .int (-1 : Int32), .int v2]) (rest := []) (pc' := 17) (lv1 := [(0, .ref 669), (1, .int v1), (2, .int v2), (3, .int v3)]) rfl rfl rfl rfl rfl (db_f314_ok) fun q3 s4 => ?_
  refine db_RifBn (pc' := 20) (tg := 22) (lv1 := [(0, .ref 669), (1, .int v1), (2, .int v2), (3, .int v3)]) rfl rfl rfl rfl ?_ ?_
  · refine db_Rgo (pc' := 28) (lv' := [(5, .int (0 : Int32)), (4, .int (0 : Int32)), (0, .ref 669), (1, .int v1), (2, .int v2), (3, .int v3)]) (st' := []) 4 rfl ?_
    refine db_Rn (lv1 := [(0, .ref 669), (1, .int v1), (2, .int v2), (3, .int v3), (4, .int (0 : Int32)), (5, .int (0 : Int32))]) rfl rfl rfl ?_
    exact db_f358_b28_ok db_FU _ _ _ _ _ _
  refine db_Rgo (pc' := 21) (lv' := [(0, .ref 669), (1, .int v1), (2, .int v2), (3, .int v3)]) (st' := [.int (-1 : Int32)]) 1 rfl ?_
  exact db_Rret (lv1 := [(0, .ref 669), (1, .int v1), (2, .int v2), (3, .int v3)]) rfl rfl rfl rfl
noncomputable def db_f180_b60 (h22 : db_S → Int32 → Int32 → Int32 → Int32 → Int32 → Option (Int32 × db_S)) (s : db_S) (v1 : Int32) (v2 : Int32) (v3 : Int32) (v4 : Int32) (v5 : Int32) : Option (Int32 × db_S) :=
  (h22 s v1 v2 v3 v4 (v5 + (1 : Int32)))
theorem db_f180_b60_ok {X : db_X} {d : Nat}  {h22 : db_S → Int32 → Int32 → Int32 → Int32 → Int32 → Option (Int32 × db_S)} {s : db_S} {v1 : Int32} {v2 : Int32} {v3 : Int32} {v4 : Int32} {v5 : Int32} (zh22 : ∀ (s' : db_S) (v1 : Int32) (v2 : Int32) (v3 : Int32) (v4 : Int32) (v5 : Int32) , db_Rf X (d + 3) dbm_180 22 [(0, .ref 4), (1, .int v1), (2, .int v2), (3, .int v3), (4, .int v4), (5, .int v5)] [] s' db_zI (h22 s' v1 v2 v3 v4 v5)) : db_Rf X (d + 3) dbm_180 60 [(0, .ref 4), (1, .int v1), (2, .int v2), (3, .int v3), (4, .int v4), (5, .int v5)] [] s db_zI (db_f180_b60 h22 s v1 v2 v3 v4 v5) := by
  unfold db_f180_b60
  refine db_Rgo (pc' := 22) (lv' := [(5, .int (v5 + (1 : Int32))), (0, .ref 4), (1, .int v1), (2, .int v2), (3, .int v3), (4, .int v4)]) (st' := []) 2 rfl ?_
  refine db_Rn (lv1 := [(0, .ref 4), (1, .int v1), (2, .int v2), (3, .int v3), (4, .int v4), (5, .int (v5 + (1 : Int32)))]) rfl rfl rfl ?_
  exact zh22 _ _ _ _ _ _
noncomputable def db_f180_b22 : Nat → db_S → Int32 → Int32 → Int32 → Int32 → Int32 → Option (Int32 × db_S)
  | 0, _, _, _, _, _, _ => none
  | n + 1, s, v1, v2, v3, v4, v5 =>
    ((db_rI s 21 (2 : Int32)).bind fun x1 => (cond (db_cnd .ge v5 x1) (db_bd (db_f87 s v4) fun q2 s3 => (some (q2, s3))) (db_bd (db_f127 s v1 v2 v5) fun q4 s5 => (cond (db_cnd .ne q4 v3) (db_f180_b60 (db_f180_b22 n) s5 v1 v2 v3 v4 v5) (db_f180_b60 (db_f180_b22 n) s5 v1 v2 v3 (v4 ||| ((1 : Int32) <<< (v5 &&& 31))) v5)))))
theorem db_f180_b22_ok {X : db_X} {d : Nat}  (n : Nat) : ∀ (s : db_S) (v1 : Int32) (v2 : Int32) (v3 : Int32) (v4 : Int32) (v5 : Int32), db_Rf X (d + 3) dbm_180 22 [(0, .ref 4), (1, .int v1), (2, .int v2), (3, .int v3), (4, .int v4), (5, .int v5)] [] s db_zI (db_f180_b22 n s v1 v2 v3 v4 v5) := by
  induction n with
  | zero => intros; exact db_Rnone
  | succ n ih =>
    intro s v1 v2 v3 v4 v5
    unfold db_f180_b22
    refine db_Rgo (pc' := 32) (lv' := [(0, .ref 4), (1, .int v1), (2, .int v2), (3, .int v3), (4, .int v4), (5, .int v5)]) (st' := [.int (2 : Int32), .ref 21, .int v5]) 5 rfl ?_
    refine db_RldI (pc' := 33) (lv1 := [(0, .ref 4), (1, .int v1), (2, .int v2), (3, .int v3), (4, .int v4), (5, .int v5)]) rfl rfl rfl fun x1 => ?_
    refine db_Ric (pc' := 36) (tg := 66) (lv1 := [(0, .ref 4), (1, .int v1), (2, .int v2), (3, .int v3), (4, .int v4), (5, .int v5)]) rfl rfl rfl rfl ?_ ?_
    · refine db_Rgo (pc' := 69) (lv' := [(0, .ref 4), (4, .int v4)]) (st' := [.int v4, .ref 4]) 2 rfl ?_
      refine db_RcdI (mr' := dbm_87) (as := [.ref 4, .int v4]) (rest := []) (pc' := 72) (lv1 := [(0, .ref 4), (4, .int v4)]) rfl rfl rfl rfl rfl (db_f87_ok) fun q2 s3 => ?_
      exact db_Rret (lv1 := [(0, .ref 4), (4, .int v4)]) rfl rfl rfl rfl
    refine db_Rgo (pc' := 44) (lv' := [(0, .ref 4), (1, .int v1), (2, .int v2), (3, .int v3), (4, .int v4), (5, .int v5)]) (st' := [.int v5, .int v2, .int v1, .ref 271]) 5 rfl ?_
    refine db_RcdI (mr' := dbm_127) (as := [.ref 271, .int v1, .int v2, .int v5]) (rest := []) (pc' := 47) (lv1 := [(0, .ref 4), (1, .int v1), (2, .int v2), (3, .int v3), (4, .int v4), (5, .int v5)]) rfl rfl rfl rfl rfl (db_f127_ok) fun q4 s5 => ?_
    refine db_Rgo (pc' := 48) (lv' := [(0, .ref 4), (1, .int v1), (2, .int v2), (3, .int v3), (4, .int v4), (5, .int v5)]) (st' := [.int v3, .int q4]) 1 rfl ?_
    refine db_Ric (pc' := 51) (tg := 60) (lv1 := [(0, .ref 4), (1, .int v1), (2, .int v2), (3, .int v3), (4, .int v4), (5, .int v5)]) rfl rfl rfl rfl ?_ ?_
    · exact db_f180_b60_ok ih
    refine db_Rgo (pc' := 60) (lv' := [(4, .int (v4 ||| ((1 : Int32) <<< (v5 &&& 31)))), (0, .ref 4), (1, .int v1), (2, .int v2), (3, .int v3), (5, .int v5)]) (st' := []) 6 rfl ?_
    refine db_Rn (lv1 := [(0, .ref 4), (1, .int v1), (2, .int v2), (3, .int v3), (4, .int (v4 ||| ((1 : Int32) <<< (v5 &&& 31)))), (5, .int v5)]) rfl rfl rfl ?_
    exact db_f180_b60_ok ih
/-- DreamBook.when(III)I -/
noncomputable def db_f180 (s : db_S) (v1 : Int32) (v2 : Int32) (v3 : Int32) : Option (Int32 × db_S) :=
  ((db_f125 s v1 v2 (-1 : Int32)).bind fun q1 => (cond q1 (db_f180_b22 db_FU s v1 v2 v3 (0 : Int32) (0 : Int32)) (db_bd (db_f37 s (2 : Int32)) fun q3 s4 => (some (q3, s4)))))
theorem db_f180_ok {X : db_X} {d : Nat} {s : db_S} {v1 : Int32} {v2 : Int32} {v3 : Int32} : db_Rf X (d + 3) dbm_180 0 (lv_args 0 [.ref 4, .int v1, .int v2, .int v3]) [] s db_zI (db_f180 s v1 v2 v3) := by
  show db_Rf _ _ _ 0 [(0, .ref 4), (1, .int v1), (2, .int v2), (3, .int v3)] [] _ _ _
  unfold db_f180
  refine db_Rgo (pc' := 4) (lv' := [(0, .ref 4), (1, .int v1), (2, .int v2), (3, .int v3)]) (st' := [.int (-1 : Int32), .int v2, .int v1, .ref 4]) 4 rfl ?_
  refine db_RcyB (mr' := dbm_125) (as := [.ref 4, .int v1, .int v2, .int (-1 : Int32)]) (rest := []) (pc' := 7) (lv1 := [(0, .ref 4), (1, .int v1), (2, .int v2), (3, .int v3)]) rfl rfl rfl rfl rfl (db_f125_ok) fun q1 => ?_
  refine db_RifBn (pc' := 10) (tg := 16) (lv1 := [(0, .ref 4), (1, .int v1), (2, .int v2), (3, .int v3)]) rfl rfl rfl rfl ?_ ?_
  · refine db_Rgo (pc' := 22) (lv' := [(5, .int (0 : Int32)), (4, .int (0 : Int32)), (0, .ref 4), (1, .int v1), (2, .int v2), (3, .int v3)]) (st' := []) 4 rfl ?_
    refine db_Rn (lv1 := [(0, .ref 4), (1, .int v1), (2, .int v2), (3, .int v3), (4, .int (0 : Int32)), (5, .int (0 : Int32))]) rfl rfl rfl ?_
    exact db_f180_b22_ok db_FU _ _ _ _ _ _
  refine db_Rgo (pc' := 12) (lv' := [(0, .ref 4), (1, .int v1), (2, .int v2), (3, .int v3)]) (st' := [.int (2 : Int32), .ref 4]) 2 rfl ?_
  refine db_RcdI (mr' := dbm_37) (as := [.ref 4, .int (2 : Int32)]) (rest := []) (pc' := 15) (lv1 := [(0, .ref 4), (1, .int v1), (2, .int v2), (3, .int v3)]) rfl rfl rfl rfl rfl (db_f37_ok) fun q3 s4 => ?_
  exact db_Rret (lv1 := [(0, .ref 4), (1, .int v1), (2, .int v2), (3, .int v3)]) rfl rfl rfl rfl
noncomputable def db_f359_b61 (h28 : db_S → Int32 → Int32 → Int32 → Int32 → Int32 → Option (Int32 × db_S)) (s : db_S) (v1 : Int32) (v2 : Int32) (v3 : Int32) (v5 : Int32) (t0 : Int32) (t1 : Int32) : Option (Int32 × db_S) :=
  (h28 s v1 v2 v3 (t0 ||| t1) (v5 + (1 : Int32)))
theorem db_f359_b61_ok {X : db_X} {d : Nat}  {h28 : db_S → Int32 → Int32 → Int32 → Int32 → Int32 → Option (Int32 × db_S)} {s : db_S} {v1 : Int32} {v2 : Int32} {v3 : Int32} {v5 : Int32} {t0 : Int32} {t1 : Int32} (zh28 : ∀ (s' : db_S) (v1 : Int32) (v2 : Int32) (v3 : Int32) (v4 : Int32) (v5 : Int32) , db_Rf X (d + 5) dbm_359 28 [(0, .ref 669), (1, .int v1), (2, .int v2), (3, .int v3), (4, .int v4), (5, .int v5)] [] s' db_zI (h28 s' v1 v2 v3 v4 v5)) : db_Rf X (d + 5) dbm_359 61 [(0, .ref 669), (1, .int v1), (2, .int v2), (3, .int v3), (5, .int v5)] [.int t1, .int t0] s db_zI (db_f359_b61 h28 s v1 v2 v3 v5 t0 t1) := by
  unfold db_f359_b61
  refine db_Rgo (pc' := 28) (lv' := [(5, .int (v5 + (1 : Int32))), (4, .int (t0 ||| t1)), (0, .ref 669), (1, .int v1), (2, .int v2), (3, .int v3)]) (st' := []) 4 rfl ?_
  refine db_Rn (lv1 := [(0, .ref 669), (1, .int v1), (2, .int v2), (3, .int v3), (4, .int (t0 ||| t1)), (5, .int (v5 + (1 : Int32)))]) rfl rfl rfl ?_
  exact zh28 _ _ _ _ _ _
noncomputable def db_f359_b28 : Nat → db_S → Int32 → Int32 → Int32 → Int32 → Int32 → Option (Int32 × db_S)
  | 0, _, _, _, _, _, _ => none
  | n + 1, s, v1, v2, v3, v4, v5 =>
    ((db_rI s 674 (2 : Int32)).bind fun x1 => (cond (db_cnd .ge v5 x1) (some (v4, s)) (db_bd (db_f316 s v1 v2 v5) fun q2 s3 => (cond (db_cnd .ne q2 v3) (db_f359_b61 (db_f359_b28 n) s3 v1 v2 v3 v5 v4 (0 : Int32)) (db_f359_b61 (db_f359_b28 n) s3 v1 v2 v3 v5 v4 ((1 : Int32) <<< (v5 &&& 31)))))))
theorem db_f359_b28_ok {X : db_X} {d : Nat}  (n : Nat) : ∀ (s : db_S) (v1 : Int32) (v2 : Int32) (v3 : Int32) (v4 : Int32) (v5 : Int32), db_Rf X (d + 5) dbm_359 28 [(0, .ref 669), (1, .int v1), (2, .int v2), (3, .int v3), (4, .int v4), (5, .int v5)] [] s db_zI (db_f359_b28 n s v1 v2 v3 v4 v5) := by
  induction n with
  | zero => intros; exact db_Rnone
  | succ n ih =>
    intro s v1 v2 v3 v4 v5
    unfold db_f359_b28
    refine db_Rgo (pc' := 35) (lv' := [(0, .ref 669), (1, .int v1), (2, .int v2), (3, .int v3), (4, .int v4), (5, .int v5)]) (st' := [.int (2 : Int32), .ref 674, .int v5]) 4 rfl ?_
    refine db_RldI (pc' := 36) (lv1 := [(0, .ref 669), (1, .int v1), (2, .int v2), (3, .int v3), (4, .int v4), (5, .int v5)]) rfl rfl rfl fun x1 => ?_
    refine db_Ric (pc' := 39) (tg := 70) (lv1 := [(0, .ref 669), (1, .int v1), (2, .int v2), (3, .int v3), (4, .int v4), (5, .int v5)]) rfl rfl rfl rfl ?_ ?_
    · refine db_Rgo (pc' := 72) (lv' := [(4, .int v4)]) (st' := [.int v4]) 1 rfl ?_
      exact db_Rret (lv1 := [(4, .int v4)]) rfl rfl rfl rfl
    refine db_Rgo (pc' := 46) (lv' := [(0, .ref 669), (1, .int v1), (2, .int v2), (3, .int v3), (4, .int v4), (5, .int v5)]) (st' := [.int v5, .int v2, .int v1, .ref 669, .int v4]) 5 rfl ?_
    refine db_RcdI (mr' := dbm_316) (as := [.ref 669, .int v1, .int v2, .int v5]) (rest := [.int v4]) (pc' := 49) (lv1 := [(0, .ref 669), (1, .int v1), (2, .int v2), (3, .int v3), (4, .int v4), (5, .int v5)]) rfl rfl rfl rfl rfl (db_f316_ok) fun q2 s3 => ?_
    refine db_Rgo (pc' := 50) (lv' := [(0, .ref 669), (1, .int v1), (2, .int v2), (3, .int v3), (4, .int v4), (5, .int v5)]) (st' := [.int v3, .int q2, .int v4]) 1 rfl ?_
    refine db_Ric (pc' := 53) (tg := 60) (lv1 := [(0, .ref 669), (1, .int v1), (2, .int v2), (3, .int v3), (4, .int v4), (5, .int v5)]) rfl rfl rfl rfl ?_ ?_
    · refine db_Rgo (pc' := 61) (lv' := [(0, .ref 669), (1, .int v1), (2, .int v2), (3, .int v3), (5, .int v5)]) (st' := [.int (0 : Int32), .int v4]) 1 rfl ?_
      exact db_f359_b61_ok ih
    refine db_Rgo (pc' := 61) (lv' := [(0, .ref 669), (1, .int v1), (2, .int v2), (3, .int v3), (4, .int v4), (5, .int v5)]) (st' := [.int ((1 : Int32) <<< (v5 &&& 31)), .int v4]) 4 rfl ?_
    refine db_Rn (lv1 := [(0, .ref 669), (1, .int v1), (2, .int v2), (3, .int v3), (5, .int v5)]) rfl rfl rfl ?_
    exact db_f359_b61_ok ih
/-- DreamBookModel.when(III)I -/
noncomputable def db_f359 (s : db_S) (v1 : Int32) (v2 : Int32) (v3 : Int32) : Option (Int32 × db_S) :=
  ((db_pI s 669 1 (0 : Int32)).bind fun s1 => ((db_pI s1 669 0 (0 : Int32)).bind fun s2 => (db_bd (db_f314 s2 v1 v2 (-1 : Int32)) fun q3 s4 => (cond q3 (db_f359_b28 db_FU s4 v1 v2 v3 (0 : Int32) (0 : Int32)) (some ((-1 : Int32), s4))))))
theorem db_f359_ok {X : db_X} {d : Nat} {s : db_S} {v1 : Int32} {v2 : Int32} {v3 : Int32} : db_Rf X (d + 5) dbm_359 0 (lv_args 0 [.ref 669, .int v1, .int v2, .int v3]) [] s db_zI (db_f359 s v1 v2 v3) := by
  show db_Rf _ _ _ 0 [(0, .ref 669), (1, .int v1), (2, .int v2), (3, .int v3)] [] _ _ _
  unfold db_f359
  refine db_Rgo (pc' := 2) (lv' := [(0, .ref 669), (1, .int v1), (2, .int v2), (3, .int v3)]) (st' := [.int (0 : Int32), .ref 669]) 2 rfl ?_
  refine db_RpuI (pc' := 5) (lv1 := [(0, .ref 669), (1, .int v1), (2, .int v2), (3, .int v3)]) rfl rfl rfl rfl rfl rfl (by decide) rfl rfl fun s1 => ?_
  refine db_Rgo (pc' := 7) (lv' := [(0, .ref 669), (1, .int v1), (2, .int v2), (3, .int v3)]) (st' := [.int (0 : Int32), .ref 669]) 2 rfl ?_
  refine db_RpuI (pc' := 10) (lv1 := [(0, .ref 669), (1, .int v1), (2, .int v2), (3, .int v3)]) rfl rfl rfl rfl rfl rfl (by decide) rfl rfl fun s2 => ?_
  refine db_Rgo (pc' := 14) (lv' := [(0, .ref 669), (1, .int v1), (2, .int v2), (3, .int v3)]) (st' := [.int (-1 : Int32), .int v2, .int v1, .ref 669]) 4 rfl ?_
  refine db_RcdB (mr' := dbm_314) (as := [.ref 669, .int v1, .int v2, .int (-1 : Int32)]) (rest := []) (pc' := 17) (lv1 := [(0, .ref 669), (1, .int v1), (2, .int v2), (3, .int v3)]) rfl rfl rfl rfl rfl (db_f314_ok) fun q3 s4 => ?_
  refine db_RifBn (pc' := 20) (tg := 22) (lv1 := [(0, .ref 669), (1, .int v1), (2, .int v2), (3, .int v3)]) rfl rfl rfl rfl ?_ ?_
  · refine db_Rgo (pc' := 28) (lv' := [(5, .int (0 : Int32)), (4, .int (0 : Int32)), (0, .ref 669), (1, .int v1), (2, .int v2), (3, .int v3)]) (st' := []) 4 rfl ?_
    refine db_Rn (lv1 := [(0, .ref 669), (1, .int v1), (2, .int v2), (3, .int v3), (4, .int (0 : Int32)), (5, .int (0 : Int32))]) rfl rfl rfl ?_
    exact db_f359_b28_ok db_FU _ _ _ _ _ _
  refine db_Rgo (pc' := 21) (lv' := [(0, .ref 669), (1, .int v1), (2, .int v2), (3, .int v3)]) (st' := [.int (-1 : Int32)]) 1 rfl ?_
  exact db_Rret (lv1 := [(0, .ref 669), (1, .int v1), (2, .int v2), (3, .int v3)]) rfl rfl rfl rfl
noncomputable def db_f183_b2 : Nat → db_S → Int32 → Int32 → Int32 → Option (Bool × db_S)
  | 0, _, _, _, _ => none
  | n + 1, s, v1, v2, v3 =>
    (cond (db_cnd .ge v3 (s.1 274 10)) (some (true, s)) ((db_rR 50 v1).bind fun a1 => ((db_rI s 59 v1).bind fun x2 => ((db_rI s 280 v3).bind fun x3 => (db_bd (db_f130 s a1 x2 x3) fun q4 s5 => ((db_rR 50 v2).bind fun a6 => ((db_rI s5 59 v2).bind fun x7 => ((db_rI s5 280 v3).bind fun x8 => (db_bd (db_f130 s5 a6 x7 x8) fun q9 s10 => (cond (db_cnd .eq q4 q9) (db_f183_b2 n s10 v1 v2 (v3 + (1 : Int32))) (some (false, s10))))))))))))
theorem db_f183_b2_ok {X : db_X} {d : Nat}  (n : Nat) : ∀ (s : db_S) (v1 : Int32) (v2 : Int32) (v3 : Int32), db_Rf X (d + 2) dbm_183 2 [(0, .ref 274), (1, .int v1), (2, .int v2), (3, .int v3)] [] s db_zB (db_f183_b2 n s v1 v2 v3) := by
  induction n with
  | zero => intros; exact db_Rnone
  | succ n ih =>
    intro s v1 v2 v3
    unfold db_f183_b2
    refine db_Rgo (pc' := 7) (lv' := [(0, .ref 274), (1, .int v1), (2, .int v2), (3, .int v3)]) (st' := [.int (s.1 274 10), .int v3]) 3 rfl ?_
    refine db_Ric (pc' := 10) (tg := 83) (lv1 := [(0, .ref 274), (1, .int v1), (2, .int v2), (3, .int v3)]) rfl rfl rfl rfl ?_ ?_
    · refine db_Rgo (pc' := 84) (lv' := []) (st' := [.int (1 : Int32)]) 1 rfl ?_
      exact db_Rret (lv1 := []) rfl rfl rfl rfl
    refine db_Rgo (pc' := 22) (lv' := [(0, .ref 274), (1, .int v1), (2, .int v2), (3, .int v3)]) (st' := [.int v1, .ref 50, .ref 271]) 6 rfl ?_
    refine db_RldR (pc' := 23) (lv1 := [(0, .ref 274), (1, .int v1), (2, .int v2), (3, .int v3)]) rfl rfl rfl fun a1 => ?_
    refine db_Rgo (pc' := 31) (lv' := [(0, .ref 274), (1, .int v1), (2, .int v2), (3, .int v3)]) (st' := [.int v1, .ref 59, .ref (a1 + 4), .ref 271]) 4 rfl ?_
    refine db_RldI (pc' := 32) (lv1 := [(0, .ref 274), (1, .int v1), (2, .int v2), (3, .int v3)]) rfl rfl rfl fun x2 => ?_
    refine db_Rgo (pc' := 37) (lv' := [(0, .ref 274), (1, .int v1), (2, .int v2), (3, .int v3)]) (st' := [.int v3, .ref 280, .int x2, .ref (a1 + 4), .ref 271]) 3 rfl ?_
    refine db_RldI (pc' := 38) (lv1 := [(0, .ref 274), (1, .int v1), (2, .int v2), (3, .int v3)]) rfl rfl rfl fun x3 => ?_
    refine db_RcdI (mr' := dbm_130) (as := [.ref 271, .ref (a1 + 4), .int x2, .int x3]) (rest := []) (pc' := 41) (lv1 := [(0, .ref 274), (1, .int v1), (2, .int v2), (3, .int v3)]) rfl rfl rfl rfl rfl (db_f130_ok) fun q4 s5 => ?_
    refine db_Rgo (pc' := 53) (lv' := [(0, .ref 274), (1, .int v1), (2, .int v2), (3, .int v3)]) (st' := [.int v2, .ref 50, .ref 271, .int q4]) 6 rfl ?_
    refine db_RldR (pc' := 54) (lv1 := [(0, .ref 274), (1, .int v1), (2, .int v2), (3, .int v3)]) rfl rfl rfl fun a6 => ?_
    refine db_Rgo (pc' := 62) (lv' := [(0, .ref 274), (1, .int v1), (2, .int v2), (3, .int v3)]) (st' := [.int v2, .ref 59, .ref (a6 + 4), .ref 271, .int q4]) 4 rfl ?_
    refine db_RldI (pc' := 63) (lv1 := [(0, .ref 274), (1, .int v1), (2, .int v2), (3, .int v3)]) rfl rfl rfl fun x7 => ?_
    refine db_Rgo (pc' := 68) (lv' := [(0, .ref 274), (1, .int v1), (2, .int v2), (3, .int v3)]) (st' := [.int v3, .ref 280, .int x7, .ref (a6 + 4), .ref 271, .int q4]) 3 rfl ?_
    refine db_RldI (pc' := 69) (lv1 := [(0, .ref 274), (1, .int v1), (2, .int v2), (3, .int v3)]) rfl rfl rfl fun x8 => ?_
    refine db_RcdI (mr' := dbm_130) (as := [.ref 271, .ref (a6 + 4), .int x7, .int x8]) (rest := [.int q4]) (pc' := 72) (lv1 := [(0, .ref 274), (1, .int v1), (2, .int v2), (3, .int v3)]) rfl rfl rfl rfl rfl (db_f130_ok) fun q9 s10 => ?_
    refine db_Ric (pc' := 75) (tg := 77) (lv1 := [(0, .ref 274), (1, .int v1), (2, .int v2), (3, .int v3)]) rfl rfl rfl rfl ?_ ?_
    · refine db_Rgo (pc' := 2) (lv' := [(3, .int (v3 + (1 : Int32))), (0, .ref 274), (1, .int v1), (2, .int v2)]) (st' := []) 2 rfl ?_
      refine db_Rn (lv1 := [(0, .ref 274), (1, .int v1), (2, .int v2), (3, .int (v3 + (1 : Int32)))]) rfl rfl rfl ?_
      exact ih _ _ _ _
    refine db_Rgo (pc' := 76) (lv' := [(0, .ref 274), (1, .int v1), (2, .int v2), (3, .int v3)]) (st' := [.int (0 : Int32)]) 1 rfl ?_
    exact db_Rret (lv1 := [(0, .ref 274), (1, .int v1), (2, .int v2), (3, .int v3)]) rfl rfl rfl rfl
/-- DreamBook$Finder.isTwin(II)Z -/
noncomputable def db_f183 (s : db_S) (v1 : Int32) (v2 : Int32) : Option (Bool × db_S) :=
  (db_f183_b2 db_FU s v1 v2 (0 : Int32))
theorem db_f183_ok {X : db_X} {d : Nat} {s : db_S} {v1 : Int32} {v2 : Int32} : db_Rf X (d + 2) dbm_183 0 (lv_args 0 [.ref 274, .int v1, .int v2]) [] s db_zB (db_f183 s v1 v2) := by
  show db_Rf _ _ _ 0 [(0, .ref 274), (1, .int v1), (2, .int v2)] [] _ _ _
  unfold db_f183
  refine db_Rgo (pc' := 2) (lv' := [(3, .int (0 : Int32)), (0, .ref 274), (1, .int v1), (2, .int v2)]) (st' := []) 2 rfl ?_
  refine db_Rn (lv1 := [(0, .ref 274), (1, .int v1), (2, .int v2), (3, .int (0 : Int32))]) rfl rfl rfl ?_
  exact db_f183_b2_ok db_FU _ _ _ _
noncomputable def db_f182_b35 (h6 : db_S → Int32 → Int32 → Option (Int32 × db_S)) (s : db_S) (v1 : Int32) (v2 : Int32) : Option (Int32 × db_S) :=
  (h6 s v1 (v2 + (1 : Int32)))
theorem db_f182_b35_ok {X : db_X} {d : Nat}  {h6 : db_S → Int32 → Int32 → Option (Int32 × db_S)} {s : db_S} {v1 : Int32} {v2 : Int32} (zh6 : ∀ (s' : db_S) (v1 : Int32) (v2 : Int32) , db_Rf X (d + 3) dbm_182 6 [(0, .ref 274), (1, .int v1), (2, .int v2)] [] s' db_zI (h6 s' v1 v2)) : db_Rf X (d + 3) dbm_182 35 [(0, .ref 274), (1, .int v1), (2, .int v2)] [] s db_zI (db_f182_b35 h6 s v1 v2) := by
  unfold db_f182_b35
  refine db_Rgo (pc' := 6) (lv' := [(2, .int (v2 + (1 : Int32))), (0, .ref 274), (1, .int v1)]) (st' := []) 2 rfl ?_
  refine db_Rn (lv1 := [(0, .ref 274), (1, .int v1), (2, .int (v2 + (1 : Int32)))]) rfl rfl rfl ?_
  exact zh6 _ _ _
noncomputable def db_f182_b6 : Nat → db_S → Int32 → Int32 → Option (Int32 × db_S)
  | 0, _, _, _ => none
  | n + 1, s, v1, v2 =>
    ((db_rI s 21 (5 : Int32)).bind fun x1 => (cond (db_cnd .ge v2 x1) (some ((-1 : Int32), s)) (cond (db_cnd .eq v2 v1) (db_f182_b35 (db_f182_b6 n) s v1 v2) (db_bd (db_f183 s v2 v1) fun q2 s3 => (cond q2 (some (v2, s3)) (db_f182_b35 (db_f182_b6 n) s3 v1 v2))))))
theorem db_f182_b6_ok {X : db_X} {d : Nat}  (n : Nat) : ∀ (s : db_S) (v1 : Int32) (v2 : Int32), db_Rf X (d + 3) dbm_182 6 [(0, .ref 274), (1, .int v1), (2, .int v2)] [] s db_zI (db_f182_b6 n s v1 v2) := by
  induction n with
  | zero => intros; exact db_Rnone
  | succ n ih =>
    intro s v1 v2
    unfold db_f182_b6
    refine db_Rgo (pc' := 15) (lv' := [(0, .ref 274), (1, .int v1), (2, .int v2)]) (st' := [.int (5 : Int32), .ref 21, .int v2]) 5 rfl ?_
    refine db_RldI (pc' := 16) (lv1 := [(0, .ref 274), (1, .int v1), (2, .int v2)]) rfl rfl rfl fun x1 => ?_
    refine db_Ric (pc' := 19) (tg := 41) (lv1 := [(0, .ref 274), (1, .int v1), (2, .int v2)]) rfl rfl rfl rfl ?_ ?_
    · refine db_Rgo (pc' := 42) (lv' := []) (st' := [.int (-1 : Int32)]) 1 rfl ?_
      exact db_Rret (lv1 := []) rfl rfl rfl rfl
    refine db_Rgo (pc' := 21) (lv' := [(0, .ref 274), (1, .int v1), (2, .int v2)]) (st' := [.int v1, .int v2]) 2 rfl ?_
    refine db_Ric (pc' := 24) (tg := 35) (lv1 := [(0, .ref 274), (1, .int v1), (2, .int v2)]) rfl rfl rfl rfl ?_ ?_
    · exact db_f182_b35_ok ih
    refine db_Rgo (pc' := 27) (lv' := [(0, .ref 274), (1, .int v1), (2, .int v2)]) (st' := [.int v1, .int v2, .ref 274]) 3 rfl ?_
    refine db_RcdB (mr' := dbm_183) (as := [.ref 274, .int v2, .int v1]) (rest := []) (pc' := 30) (lv1 := [(0, .ref 274), (1, .int v1), (2, .int v2)]) rfl rfl rfl rfl rfl (db_f183_ok) fun q2 s3 => ?_
    refine db_RifBe (pc' := 33) (tg := 35) (lv1 := [(0, .ref 274), (1, .int v1), (2, .int v2)]) rfl rfl rfl rfl ?_ ?_
    · exact db_f182_b35_ok ih
    refine db_Rgo (pc' := 34) (lv' := [(0, .ref 274), (1, .int v1), (2, .int v2)]) (st' := [.int v2]) 1 rfl ?_
    exact db_Rret (lv1 := [(0, .ref 274), (1, .int v1), (2, .int v2)]) rfl rfl rfl rfl
/-- DreamBook$Finder.findTwin(I)I -/
noncomputable def db_f182 (s : db_S) (v1 : Int32) : Option (Int32 × db_S) :=
  ((db_f171 s).bind fun s2 => (db_f182_b6 db_FU s2 v1 (0 : Int32)))
theorem db_f182_ok {X : db_X} {d : Nat} {s : db_S} {v1 : Int32} : db_Rf X (d + 3) dbm_182 0 (lv_args 0 [.ref 274, .int v1]) [] s db_zI (db_f182 s v1) := by
  show db_Rf _ _ _ 0 [(0, .ref 274), (1, .int v1)] [] _ _ _
  unfold db_f182
  refine db_Rgo (pc' := 1) (lv' := [(0, .ref 274), (1, .int v1)]) (st' := [.ref 274]) 1 rfl ?_
  refine db_RcV (mr' := dbm_171) (as := [.ref 274]) (rest := []) (pc' := 4) (lv1 := [(0, .ref 274), (1, .int v1)]) rfl rfl rfl rfl rfl (db_f171_ok) fun s2 => ?_
  refine db_Rgo (pc' := 6) (lv' := [(2, .int (0 : Int32)), (0, .ref 274), (1, .int v1)]) (st' := []) 2 rfl ?_
  refine db_Rn (lv1 := [(0, .ref 274), (1, .int v1), (2, .int (0 : Int32))]) rfl rfl rfl ?_
  exact db_f182_b6_ok db_FU _ _ _
/-- DreamBook.twin(I)I -/
noncomputable def db_f181 (s : db_S) (v1 : Int32) : Option (Int32 × db_S) :=
  ((db_f103 s (5 : Int32) v1).bind fun q1 => (cond q1 (db_bd (db_f182 s v1) fun q3 s4 => (cond (db_cnd .ne q3 (-1 : Int32)) (db_bd (db_f87 s4 q3) fun q5 s6 => (some (q5, s6))) (db_bd (db_f37 s4 (8 : Int32)) fun q7 s8 => (some (q7, s8))))) (db_bd (db_f37 s (2 : Int32)) fun q9 s10 => (some (q9, s10)))))
theorem db_f181_ok {X : db_X} {d : Nat} {s : db_S} {v1 : Int32} : db_Rf X (d + 4) dbm_181 0 (lv_args 0 [.ref 4, .int v1]) [] s db_zI (db_f181 s v1) := by
  show db_Rf _ _ _ 0 [(0, .ref 4), (1, .int v1)] [] _ _ _
  unfold db_f181
  refine db_Rgo (pc' := 3) (lv' := [(0, .ref 4), (1, .int v1)]) (st' := [.int v1, .int (5 : Int32), .ref 4]) 3 rfl ?_
  refine db_RcyB (mr' := dbm_103) (as := [.ref 4, .int (5 : Int32), .int v1]) (rest := []) (pc' := 6) (lv1 := [(0, .ref 4), (1, .int v1)]) rfl rfl rfl rfl rfl (db_f103_ok) fun q1 => ?_
  refine db_RifBn (pc' := 9) (tg := 15) (lv1 := [(0, .ref 4), (1, .int v1)]) rfl rfl rfl rfl ?_ ?_
  · refine db_Rgo (pc' := 20) (lv' := [(0, .ref 4), (1, .int v1)]) (st' := [.int v1, .ref 274]) 3 rfl ?_
    refine db_RcdI (mr' := dbm_182) (as := [.ref 274, .int v1]) (rest := []) (pc' := 23) (lv1 := [(0, .ref 4), (1, .int v1)]) rfl rfl rfl rfl rfl (db_f182_ok) fun q3 s4 => ?_
    refine db_Rgo (pc' := 26) (lv' := [(2, .int q3), (0, .ref 4), (1, .int v1)]) (st' := [.int (-1 : Int32), .int q3]) 3 rfl ?_
    refine db_Ric (pc' := 29) (tg := 38) (lv1 := [(2, .int q3), (0, .ref 4), (1, .int v1)]) rfl rfl rfl rfl ?_ ?_
    · refine db_Rgo (pc' := 40) (lv' := [(0, .ref 4), (2, .int q3)]) (st' := [.int q3, .ref 4]) 2 rfl ?_
      refine db_RcdI (mr' := dbm_87) (as := [.ref 4, .int q3]) (rest := []) (pc' := 43) (lv1 := [(0, .ref 4), (2, .int q3)]) rfl rfl rfl rfl rfl (db_f87_ok) fun q5 s6 => ?_
      exact db_Rret (lv1 := []) rfl rfl rfl rfl
    refine db_Rgo (pc' := 32) (lv' := [(2, .int q3), (0, .ref 4), (1, .int v1)]) (st' := [.int (8 : Int32), .ref 4]) 2 rfl ?_
    refine db_RcdI (mr' := dbm_37) (as := [.ref 4, .int (8 : Int32)]) (rest := []) (pc' := 35) (lv1 := [(2, .int q3), (0, .ref 4), (1, .int v1)]) rfl rfl rfl rfl rfl (db_f37_ok) fun q7 s8 => ?_
    refine db_Rgo (pc' := 43) (lv' := [(2, .int q3), (0, .ref 4), (1, .int v1)]) (st' := [.int q7]) 1 rfl ?_
    exact db_Rret (lv1 := []) rfl rfl rfl rfl
  refine db_Rgo (pc' := 11) (lv' := [(0, .ref 4), (1, .int v1)]) (st' := [.int (2 : Int32), .ref 4]) 2 rfl ?_
  refine db_RcdI (mr' := dbm_37) (as := [.ref 4, .int (2 : Int32)]) (rest := []) (pc' := 14) (lv1 := [(0, .ref 4), (1, .int v1)]) rfl rfl rfl rfl rfl (db_f37_ok) fun q9 s10 => ?_
  exact db_Rret (lv1 := [(0, .ref 4), (1, .int v1)]) rfl rfl rfl rfl
noncomputable def db_f361_b15 (h2 : db_S → Int32 → Int32 → Int32 → Option (Bool × db_S)) : Nat → db_S → Int32 → Int32 → Int32 → Int32 → Option (Bool × db_S)
  | 0, _, _, _, _, _ => none
  | n + 1, s, v1, v2, v3, v4 =>
    ((db_rI s 674 (2 : Int32)).bind fun x1 => (cond (db_cnd .ge v4 x1) (h2 s v1 v2 (v3 + (1 : Int32))) (db_bd (db_f316 s v1 v3 v4) fun q2 s3 => (db_bd (db_f316 s3 v2 v3 v4) fun q4 s5 => (cond (db_cnd .eq q2 q4) (db_f361_b15 h2 n s5 v1 v2 v3 (v4 + (1 : Int32))) (some (false, s5)))))))
theorem db_f361_b15_ok {X : db_X} {d : Nat}  {h2 : db_S → Int32 → Int32 → Int32 → Option (Bool × db_S)} (zh2 : ∀ (s' : db_S) (v1 : Int32) (v2 : Int32) (v3 : Int32) , db_Rf X (d + 5) dbm_361 2 [(0, .ref 669), (1, .int v1), (2, .int v2), (3, .int v3)] [] s' db_zB (h2 s' v1 v2 v3)) (n : Nat) : ∀ (s : db_S) (v1 : Int32) (v2 : Int32) (v3 : Int32) (v4 : Int32), db_Rf X (d + 5) dbm_361 15 [(0, .ref 669), (1, .int v1), (2, .int v2), (3, .int v3), (4, .int v4)] [] s db_zB (db_f361_b15 h2 n s v1 v2 v3 v4) := by
  induction n with
  | zero => intros; exact db_Rnone
  | succ n ih =>
    intro s v1 v2 v3 v4
    unfold db_f361_b15
    refine db_Rgo (pc' := 22) (lv' := [(0, .ref 669), (1, .int v1), (2, .int v2), (3, .int v3), (4, .int v4)]) (st' := [.int (2 : Int32), .ref 674, .int v4]) 4 rfl ?_
    refine db_RldI (pc' := 23) (lv1 := [(0, .ref 669), (1, .int v1), (2, .int v2), (3, .int v3), (4, .int v4)]) rfl rfl rfl fun x1 => ?_
    refine db_Ric (pc' := 26) (tg := 53) (lv1 := [(0, .ref 669), (1, .int v1), (2, .int v2), (3, .int v3), (4, .int v4)]) rfl rfl rfl rfl ?_ ?_
    · refine db_Rgo (pc' := 2) (lv' := [(3, .int (v3 + (1 : Int32))), (0, .ref 669), (1, .int v1), (2, .int v2)]) (st' := []) 2 rfl ?_
      refine db_Rn (lv1 := [(0, .ref 669), (1, .int v1), (2, .int v2), (3, .int (v3 + (1 : Int32)))]) rfl rfl rfl ?_
      exact zh2 _ _ _ _
    refine db_Rgo (pc' := 31) (lv' := [(0, .ref 669), (1, .int v1), (2, .int v2), (3, .int v3), (4, .int v4)]) (st' := [.int v4, .int v3, .int v1, .ref 669]) 4 rfl ?_
    refine db_RcdI (mr' := dbm_316) (as := [.ref 669, .int v1, .int v3, .int v4]) (rest := []) (pc' := 34) (lv1 := [(0, .ref 669), (1, .int v1), (2, .int v2), (3, .int v3), (4, .int v4)]) rfl rfl rfl rfl rfl (db_f316_ok) fun q2 s3 => ?_
    refine db_Rgo (pc' := 39) (lv' := [(0, .ref 669), (1, .int v1), (2, .int v2), (3, .int v3), (4, .int v4)]) (st' := [.int v4, .int v3, .int v2, .ref 669, .int q2]) 4 rfl ?_
    refine db_RcdI (mr' := dbm_316) (as := [.ref 669, .int v2, .int v3, .int v4]) (rest := [.int q2]) (pc' := 42) (lv1 := [(0, .ref 669), (1, .int v1), (2, .int v2), (3, .int v3), (4, .int v4)]) rfl rfl rfl rfl rfl (db_f316_ok) fun q4 s5 => ?_
    refine db_Ric (pc' := 45) (tg := 47) (lv1 := [(0, .ref 669), (1, .int v1), (2, .int v2), (3, .int v3), (4, .int v4)]) rfl rfl rfl rfl ?_ ?_
    · refine db_Rgo (pc' := 15) (lv' := [(4, .int (v4 + (1 : Int32))), (0, .ref 669), (1, .int v1), (2, .int v2), (3, .int v3)]) (st' := []) 2 rfl ?_
      refine db_Rn (lv1 := [(0, .ref 669), (1, .int v1), (2, .int v2), (3, .int v3), (4, .int (v4 + (1 : Int32)))]) rfl rfl rfl ?_
      exact ih _ _ _ _ _
    refine db_Rgo (pc' := 46) (lv' := [(0, .ref 669), (1, .int v1), (2, .int v2), (3, .int v3), (4, .int v4)]) (st' := [.int (0 : Int32)]) 1 rfl ?_
    exact db_Rret (lv1 := [(0, .ref 669), (1, .int v1), (2, .int v2), (3, .int v3), (4, .int v4)]) rfl rfl rfl rfl
noncomputable def db_f361_b2 : Nat → db_S → Int32 → Int32 → Int32 → Option (Bool × db_S)
  | 0, _, _, _, _ => none
  | n + 1, s, v1, v2, v3 =>
    ((db_rI s 674 (1 : Int32)).bind fun x1 => (cond (db_cnd .ge v3 x1) (some (true, s)) (db_f361_b15 (db_f361_b2 n) db_FU s v1 v2 v3 (-1 : Int32))))
theorem db_f361_b2_ok {X : db_X} {d : Nat}  (n : Nat) : ∀ (s : db_S) (v1 : Int32) (v2 : Int32) (v3 : Int32), db_Rf X (d + 5) dbm_361 2 [(0, .ref 669), (1, .int v1), (2, .int v2), (3, .int v3)] [] s db_zB (db_f361_b2 n s v1 v2 v3) := by
  induction n with
  | zero => intros; exact db_Rnone
  | succ n ih =>
    intro s v1 v2 v3
    unfold db_f361_b2
    refine db_Rgo (pc' := 8) (lv' := [(0, .ref 669), (1, .int v1), (2, .int v2), (3, .int v3)]) (st' := [.int (1 : Int32), .ref 674, .int v3]) 4 rfl ?_
    refine db_RldI (pc' := 9) (lv1 := [(0, .ref 669), (1, .int v1), (2, .int v2), (3, .int v3)]) rfl rfl rfl fun x1 => ?_
    refine db_Ric (pc' := 12) (tg := 59) (lv1 := [(0, .ref 669), (1, .int v1), (2, .int v2), (3, .int v3)]) rfl rfl rfl rfl ?_ ?_
    · refine db_Rgo (pc' := 60) (lv' := []) (st' := [.int (1 : Int32)]) 1 rfl ?_
      exact db_Rret (lv1 := []) rfl rfl rfl rfl
    refine db_Rgo (pc' := 15) (lv' := [(4, .int (-1 : Int32)), (0, .ref 669), (1, .int v1), (2, .int v2), (3, .int v3)]) (st' := []) 2 rfl ?_
    refine db_Rn (lv1 := [(0, .ref 669), (1, .int v1), (2, .int v2), (3, .int v3), (4, .int (-1 : Int32))]) rfl rfl rfl ?_
    exact db_f361_b15_ok ih db_FU _ _ _ _ _
/-- DreamBookModel.areTwins(II)Z -/
noncomputable def db_f361 (s : db_S) (v1 : Int32) (v2 : Int32) : Option (Bool × db_S) :=
  (db_f361_b2 db_FU s v1 v2 (-1 : Int32))
theorem db_f361_ok {X : db_X} {d : Nat} {s : db_S} {v1 : Int32} {v2 : Int32} : db_Rf X (d + 5) dbm_361 0 (lv_args 0 [.ref 669, .int v1, .int v2]) [] s db_zB (db_f361 s v1 v2) := by
  show db_Rf _ _ _ 0 [(0, .ref 669), (1, .int v1), (2, .int v2)] [] _ _ _
  unfold db_f361
  refine db_Rgo (pc' := 2) (lv' := [(3, .int (-1 : Int32)), (0, .ref 669), (1, .int v1), (2, .int v2)]) (st' := []) 2 rfl ?_
  refine db_Rn (lv1 := [(0, .ref 669), (1, .int v1), (2, .int v2), (3, .int (-1 : Int32))]) rfl rfl rfl ?_
  exact db_f361_b2_ok db_FU _ _ _ _
noncomputable def db_f360_b52 (h26 : db_S → Int32 → Int32 → Option (Int32 × db_S)) (s : db_S) (v1 : Int32) (v2 : Int32) : Option (Int32 × db_S) :=
  (h26 s v1 (v2 + (1 : Int32)))
theorem db_f360_b52_ok {X : db_X} {d : Nat}  {h26 : db_S → Int32 → Int32 → Option (Int32 × db_S)} {s : db_S} {v1 : Int32} {v2 : Int32} (zh26 : ∀ (s' : db_S) (v1 : Int32) (v2 : Int32) , db_Rf X (d + 6) dbm_360 26 [(0, .ref 669), (1, .int v1), (2, .int v2)] [] s' db_zI (h26 s' v1 v2)) : db_Rf X (d + 6) dbm_360 52 [(0, .ref 669), (1, .int v1), (2, .int v2)] [] s db_zI (db_f360_b52 h26 s v1 v2) := by
  unfold db_f360_b52
  refine db_Rgo (pc' := 26) (lv' := [(2, .int (v2 + (1 : Int32))), (0, .ref 669), (1, .int v1)]) (st' := []) 2 rfl ?_
  refine db_Rn (lv1 := [(0, .ref 669), (1, .int v1), (2, .int (v2 + (1 : Int32)))]) rfl rfl rfl ?_
  exact zh26 _ _ _
noncomputable def db_f360_b26 : Nat → db_S → Int32 → Int32 → Option (Int32 × db_S)
  | 0, _, _, _ => none
  | n + 1, s, v1, v2 =>
    ((db_rI s 674 (5 : Int32)).bind fun x1 => (cond (db_cnd .ge v2 x1) (db_bd (db_f281 s (8 : Int32)) fun q2 s3 => (some (q2, s3))) (cond (db_cnd .eq v2 v1) (db_f360_b52 (db_f360_b26 n) s v1 v2) (db_bd (db_f361 s v1 v2) fun q4 s5 => (cond q4 (some (v2, s5)) (db_f360_b52 (db_f360_b26 n) s5 v1 v2))))))
theorem db_f360_b26_ok {X : db_X} {d : Nat}  (n : Nat) : ∀ (s : db_S) (v1 : Int32) (v2 : Int32), db_Rf X (d + 6) dbm_360 26 [(0, .ref 669), (1, .int v1), (2, .int v2)] [] s db_zI (db_f360_b26 n s v1 v2) := by
  induction n with
  | zero => intros; exact db_Rnone
  | succ n ih =>
    intro s v1 v2
    unfold db_f360_b26
    refine db_Rgo (pc' := 32) (lv' := [(0, .ref 669), (1, .int v1), (2, .int v2)]) (st' := [.int (5 : Int32), .ref 674, .int v2]) 4 rfl ?_
    refine db_RldI (pc' := 33) (lv1 := [(0, .ref 669), (1, .int v1), (2, .int v2)]) rfl rfl rfl fun x1 => ?_
    refine db_Ric (pc' := 36) (tg := 58) (lv1 := [(0, .ref 669), (1, .int v1), (2, .int v2)]) rfl rfl rfl rfl ?_ ?_
    · refine db_Rgo (pc' := 61) (lv' := [(0, .ref 669)]) (st' := [.int (8 : Int32), .ref 669]) 2 rfl ?_
      refine db_RcdI (mr' := dbm_281) (as := [.ref 669, .int (8 : Int32)]) (rest := []) (pc' := 64) (lv1 := [(0, .ref 669)]) rfl rfl rfl rfl rfl (db_f281_ok) fun q2 s3 => ?_
      exact db_Rret (lv1 := [(0, .ref 669)]) rfl rfl rfl rfl
    refine db_Rgo (pc' := 38) (lv' := [(0, .ref 669), (1, .int v1), (2, .int v2)]) (st' := [.int v1, .int v2]) 2 rfl ?_
    refine db_Ric (pc' := 41) (tg := 52) (lv1 := [(0, .ref 669), (1, .int v1), (2, .int v2)]) rfl rfl rfl rfl ?_ ?_
    · exact db_f360_b52_ok ih
    refine db_Rgo (pc' := 44) (lv' := [(0, .ref 669), (1, .int v1), (2, .int v2)]) (st' := [.int v2, .int v1, .ref 669]) 3 rfl ?_
    refine db_RcdB (mr' := dbm_361) (as := [.ref 669, .int v1, .int v2]) (rest := []) (pc' := 47) (lv1 := [(0, .ref 669), (1, .int v1), (2, .int v2)]) rfl rfl rfl rfl rfl (db_f361_ok) fun q4 s5 => ?_
    refine db_RifBe (pc' := 50) (tg := 52) (lv1 := [(0, .ref 669), (1, .int v1), (2, .int v2)]) rfl rfl rfl rfl ?_ ?_
    · exact db_f360_b52_ok ih
    refine db_Rgo (pc' := 51) (lv' := [(0, .ref 669), (1, .int v1), (2, .int v2)]) (st' := [.int v2]) 1 rfl ?_
    exact db_Rret (lv1 := [(0, .ref 669), (1, .int v1), (2, .int v2)]) rfl rfl rfl rfl
/-- DreamBookModel.twin(I)I -/
noncomputable def db_f360 (s : db_S) (v1 : Int32) : Option (Int32 × db_S) :=
  ((db_pI s 669 1 (0 : Int32)).bind fun s1 => ((db_pI s1 669 0 (0 : Int32)).bind fun s2 => ((db_f297 s2 v1).bind fun q3 => (cond q3 (db_f360_b26 db_FU s2 v1 (0 : Int32)) (db_bd (db_f281 s2 (2 : Int32)) fun q5 s6 => (some (q5, s6)))))))
theorem db_f360_ok {X : db_X} {d : Nat} {s : db_S} {v1 : Int32} : db_Rf X (d + 6) dbm_360 0 (lv_args 0 [.ref 669, .int v1]) [] s db_zI (db_f360 s v1) := by
  show db_Rf _ _ _ 0 [(0, .ref 669), (1, .int v1)] [] _ _ _
  unfold db_f360
  refine db_Rgo (pc' := 2) (lv' := [(0, .ref 669), (1, .int v1)]) (st' := [.int (0 : Int32), .ref 669]) 2 rfl ?_
  refine db_RpuI (pc' := 5) (lv1 := [(0, .ref 669), (1, .int v1)]) rfl rfl rfl rfl rfl rfl (by decide) rfl rfl fun s1 => ?_
  refine db_Rgo (pc' := 7) (lv' := [(0, .ref 669), (1, .int v1)]) (st' := [.int (0 : Int32), .ref 669]) 2 rfl ?_
  refine db_RpuI (pc' := 10) (lv1 := [(0, .ref 669), (1, .int v1)]) rfl rfl rfl rfl rfl rfl (by decide) rfl rfl fun s2 => ?_
  refine db_Rgo (pc' := 12) (lv' := [(0, .ref 669), (1, .int v1)]) (st' := [.int v1, .ref 669]) 2 rfl ?_
  refine db_RcyB (mr' := dbm_297) (as := [.ref 669, .int v1]) (rest := []) (pc' := 15) (lv1 := [(0, .ref 669), (1, .int v1)]) rfl rfl rfl rfl rfl (db_f297_ok) fun q3 => ?_
  refine db_RifBn (pc' := 18) (tg := 24) (lv1 := [(0, .ref 669), (1, .int v1)]) rfl rfl rfl rfl ?_ ?_
  · refine db_Rgo (pc' := 26) (lv' := [(2, .int (0 : Int32)), (0, .ref 669), (1, .int v1)]) (st' := []) 2 rfl ?_
    refine db_Rn (lv1 := [(0, .ref 669), (1, .int v1), (2, .int (0 : Int32))]) rfl rfl rfl ?_
    exact db_f360_b26_ok db_FU _ _ _
  refine db_Rgo (pc' := 20) (lv' := [(0, .ref 669), (1, .int v1)]) (st' := [.int (2 : Int32), .ref 669]) 2 rfl ?_
  refine db_RcdI (mr' := dbm_281) (as := [.ref 669, .int (2 : Int32)]) (rest := []) (pc' := 23) (lv1 := [(0, .ref 669), (1, .int v1)]) rfl rfl rfl rfl rfl (db_f281_ok) fun q5 s6 => ?_
  exact db_Rret (lv1 := [(0, .ref 669), (1, .int v1)]) rfl rfl rfl rfl
noncomputable def db_f185_b79 (h8 : db_S → Int32 → Int32 → Int32 → Int32 → Int32 → Option (Int32 × db_S)) (s : db_S) (v1 : Int32) (v2 : Int32) (v3 : Int32) (v4 : Int32) (v5 : Int32) : Option (Int32 × db_S) :=
  (h8 s v1 v2 v3 v4 (v5 + (1 : Int32)))
theorem db_f185_b79_ok {X : db_X} {d : Nat}  {h8 : db_S → Int32 → Int32 → Int32 → Int32 → Int32 → Option (Int32 × db_S)} {s : db_S} {v1 : Int32} {v2 : Int32} {v3 : Int32} {v4 : Int32} {v5 : Int32} (zh8 : ∀ (s' : db_S) (v1 : Int32) (v2 : Int32) (v3 : Int32) (v4 : Int32) (v5 : Int32) , db_Rf X (d + 3) dbm_185 8 [(0, .ref 274), (1, .int v1), (2, .int v2), (3, .int v3), (4, .int v4), (5, .int v5)] [] s' db_zI (h8 s' v1 v2 v3 v4 v5)) : db_Rf X (d + 3) dbm_185 79 [(0, .ref 274), (1, .int v1), (2, .int v2), (3, .int v3), (4, .int v4), (5, .int v5)] [] s db_zI (db_f185_b79 h8 s v1 v2 v3 v4 v5) := by
  unfold db_f185_b79
  refine db_Rgo (pc' := 8) (lv' := [(5, .int (v5 + (1 : Int32))), (0, .ref 274), (1, .int v1), (2, .int v2), (3, .int v3), (4, .int v4)]) (st' := []) 2 rfl ?_
  refine db_Rn (lv1 := [(0, .ref 274), (1, .int v1), (2, .int v2), (3, .int v3), (4, .int v4), (5, .int (v5 + (1 : Int32)))]) rfl rfl rfl ?_
  exact zh8 _ _ _ _ _ _
noncomputable def db_f185_b72 (h8 : db_S → Int32 → Int32 → Int32 → Int32 → Int32 → Option (Int32 × db_S)) (s : db_S) (v1 : Int32) (v2 : Int32) (v5 : Int32) (v6 : Int32) : Option (Int32 × db_S) :=
  (db_f185_b79 h8 s v1 v2 v5 v6 v5)
theorem db_f185_b72_ok {X : db_X} {d : Nat}  {h8 : db_S → Int32 → Int32 → Int32 → Int32 → Int32 → Option (Int32 × db_S)} {s : db_S} {v1 : Int32} {v2 : Int32} {v5 : Int32} {v6 : Int32} (zh8 : ∀ (s' : db_S) (v1 : Int32) (v2 : Int32) (v3 : Int32) (v4 : Int32) (v5 : Int32) , db_Rf X (d + 3) dbm_185 8 [(0, .ref 274), (1, .int v1), (2, .int v2), (3, .int v3), (4, .int v4), (5, .int v5)] [] s' db_zI (h8 s' v1 v2 v3 v4 v5)) : db_Rf X (d + 3) dbm_185 72 [(0, .ref 274), (1, .int v1), (2, .int v2), (5, .int v5), (6, .int v6)] [] s db_zI (db_f185_b72 h8 s v1 v2 v5 v6) := by
  unfold db_f185_b72
  refine db_Rgo (pc' := 79) (lv' := [(4, .int v6), (3, .int v5), (0, .ref 274), (1, .int v1), (2, .int v2), (5, .int v5), (6, .int v6)]) (st' := []) 4 rfl ?_
  refine db_Rn (lv1 := [(0, .ref 274), (1, .int v1), (2, .int v2), (3, .int v5), (4, .int v6), (5, .int v5)]) rfl rfl rfl ?_
  exact db_f185_b79_ok zh8
noncomputable def db_f185_b8 : Nat → db_S → Int32 → Int32 → Int32 → Int32 → Int32 → Option (Int32 × db_S)
  | 0, _, _, _, _, _, _ => none
  | n + 1, s, v1, v2, v3, v4, v5 =>
    ((db_rI s 21 (5 : Int32)).bind fun x1 => (cond (db_cnd .ge v5 x1) (some (v3, s)) (db_bd (db_f127 s v5 v1 v2) fun q2 s3 => (cond (db_cnd .eq v3 (-1 : Int32)) (db_f185_b72 (db_f185_b8 n) s3 v1 v2 v5 q2) ((db_rI s3 60 v3).bind fun x4 => ((db_rI s3 60 v5).bind fun x5 => (cond (db_cnd .le (q2 * (x4 + (1 : Int32))) (v4 * (x5 + (1 : Int32)))) (db_f185_b79 (db_f185_b8 n) s3 v1 v2 v3 v4 v5) (db_f185_b72 (db_f185_b8 n) s3 v1 v2 v5 q2))))))))
theorem db_f185_b8_ok {X : db_X} {d : Nat}  (n : Nat) : ∀ (s : db_S) (v1 : Int32) (v2 : Int32) (v3 : Int32) (v4 : Int32) (v5 : Int32), db_Rf X (d + 3) dbm_185 8 [(0, .ref 274), (1, .int v1), (2, .int v2), (3, .int v3), (4, .int v4), (5, .int v5)] [] s db_zI (db_f185_b8 n s v1 v2 v3 v4 v5) := by
  induction n with
  | zero => intros; exact db_Rnone
  | succ n ih =>
    intro s v1 v2 v3 v4 v5
    unfold db_f185_b8
    refine db_Rgo (pc' := 18) (lv' := [(0, .ref 274), (1, .int v1), (2, .int v2), (3, .int v3), (4, .int v4), (5, .int v5)]) (st' := [.int (5 : Int32), .ref 21, .int v5]) 5 rfl ?_
    refine db_RldI (pc' := 19) (lv1 := [(0, .ref 274), (1, .int v1), (2, .int v2), (3, .int v3), (4, .int v4), (5, .int v5)]) rfl rfl rfl fun x1 => ?_
    refine db_Ric (pc' := 22) (tg := 85) (lv1 := [(0, .ref 274), (1, .int v1), (2, .int v2), (3, .int v3), (4, .int v4), (5, .int v5)]) rfl rfl rfl rfl ?_ ?_
    · refine db_Rgo (pc' := 86) (lv' := [(3, .int v3)]) (st' := [.int v3]) 1 rfl ?_
      exact db_Rret (lv1 := [(3, .int v3)]) rfl rfl rfl rfl
    refine db_Rgo (pc' := 30) (lv' := [(0, .ref 274), (1, .int v1), (2, .int v2), (3, .int v3), (4, .int v4), (5, .int v5)]) (st' := [.int v2, .int v1, .int v5, .ref 271]) 5 rfl ?_
    refine db_RcdI (mr' := dbm_127) (as := [.ref 271, .int v5, .int v1, .int v2]) (rest := []) (pc' := 33) (lv1 := [(0, .ref 274), (1, .int v1), (2, .int v2), (3, .int v3), (4, .int v4), (5, .int v5)]) rfl rfl rfl rfl rfl (db_f127_ok) fun q2 s3 => ?_
    refine db_Rgo (pc' := 37) (lv' := [(6, .int q2), (0, .ref 274), (1, .int v1), (2, .int v2), (3, .int v3), (4, .int v4), (5, .int v5)]) (st' := [.int (-1 : Int32), .int v3]) 3 rfl ?_
    refine db_Ric (pc' := 40) (tg := 72) (lv1 := [(6, .int q2), (0, .ref 274), (1, .int v1), (2, .int v2), (3, .int v3), (4, .int v4), (5, .int v5)]) rfl rfl rfl rfl ?_ ?_
    · refine db_Rn (lv1 := [(0, .ref 274), (1, .int v1), (2, .int v2), (5, .int v5), (6, .int q2)]) rfl rfl rfl ?_
      exact db_f185_b72_ok ih
    refine db_Rgo (pc' := 50) (lv' := [(6, .int q2), (0, .ref 274), (1, .int v1), (2, .int v2), (3, .int v3), (4, .int v4), (5, .int v5)]) (st' := [.int v3, .ref 60, .int q2]) 5 rfl ?_
    refine db_RldI (pc' := 51) (lv1 := [(6, .int q2), (0, .ref 274), (1, .int v1), (2, .int v2), (3, .int v3), (4, .int v4), (5, .int v5)]) rfl rfl rfl fun x4 => ?_
    refine db_Rgo (pc' := 65) (lv' := [(6, .int q2), (0, .ref 274), (1, .int v1), (2, .int v2), (3, .int v3), (4, .int v4), (5, .int v5)]) (st' := [.int v5, .ref 60, .int v4, .int (q2 * (x4 + (1 : Int32)))]) 8 rfl ?_
    refine db_RldI (pc' := 66) (lv1 := [(6, .int q2), (0, .ref 274), (1, .int v1), (2, .int v2), (3, .int v3), (4, .int v4), (5, .int v5)]) rfl rfl rfl fun x5 => ?_
    refine db_Rgo (pc' := 69) (lv' := [(6, .int q2), (0, .ref 274), (1, .int v1), (2, .int v2), (3, .int v3), (4, .int v4), (5, .int v5)]) (st' := [.int (v4 * (x5 + (1 : Int32))), .int (q2 * (x4 + (1 : Int32)))]) 3 rfl ?_
    refine db_Ric (pc' := 72) (tg := 79) (lv1 := [(6, .int q2), (0, .ref 274), (1, .int v1), (2, .int v2), (3, .int v3), (4, .int v4), (5, .int v5)]) rfl rfl rfl rfl ?_ ?_
    · refine db_Rn (lv1 := [(0, .ref 274), (1, .int v1), (2, .int v2), (3, .int v3), (4, .int v4), (5, .int v5)]) rfl rfl rfl ?_
      exact db_f185_b79_ok ih
    refine db_Rn (lv1 := [(0, .ref 274), (1, .int v1), (2, .int v2), (5, .int v5), (6, .int q2)]) rfl rfl rfl ?_
    exact db_f185_b72_ok ih
/-- DreamBook$Finder.findBargain(II)I -/
noncomputable def db_f185 (s : db_S) (v1 : Int32) (v2 : Int32) : Option (Int32 × db_S) :=
  (db_f185_b8 db_FU s v1 v2 (-1 : Int32) (0 : Int32) (0 : Int32))
theorem db_f185_ok {X : db_X} {d : Nat} {s : db_S} {v1 : Int32} {v2 : Int32} : db_Rf X (d + 3) dbm_185 0 (lv_args 0 [.ref 274, .int v1, .int v2]) [] s db_zI (db_f185 s v1 v2) := by
  show db_Rf _ _ _ 0 [(0, .ref 274), (1, .int v1), (2, .int v2)] [] _ _ _
  unfold db_f185
  refine db_Rgo (pc' := 8) (lv' := [(5, .int (0 : Int32)), (4, .int (0 : Int32)), (3, .int (-1 : Int32)), (0, .ref 274), (1, .int v1), (2, .int v2)]) (st' := []) 6 rfl ?_
  refine db_Rn (lv1 := [(0, .ref 274), (1, .int v1), (2, .int v2), (3, .int (-1 : Int32)), (4, .int (0 : Int32)), (5, .int (0 : Int32))]) rfl rfl rfl ?_
  exact db_f185_b8_ok db_FU _ _ _ _ _ _
/-- DreamBook.bargain(II)I -/
noncomputable def db_f184 (s : db_S) (v1 : Int32) (v2 : Int32) : Option (Int32 × db_S) :=
  ((db_f126 s v1 v2).bind fun q1 => (cond q1 (db_bd (db_f185 s v1 v2) fun q3 s4 => (cond (db_cnd .ne q3 (-1 : Int32)) (db_bd (db_f87 s4 q3) fun q5 s6 => (some (q5, s6))) (db_bd (db_f37 s4 (8 : Int32)) fun q7 s8 => (some (q7, s8))))) (db_bd (db_f37 s (2 : Int32)) fun q9 s10 => (some (q9, s10)))))
theorem db_f184_ok {X : db_X} {d : Nat} {s : db_S} {v1 : Int32} {v2 : Int32} : db_Rf X (d + 4) dbm_184 0 (lv_args 0 [.ref 4, .int v1, .int v2]) [] s db_zI (db_f184 s v1 v2) := by
  show db_Rf _ _ _ 0 [(0, .ref 4), (1, .int v1), (2, .int v2)] [] _ _ _
  unfold db_f184
  refine db_Rgo (pc' := 3) (lv' := [(0, .ref 4), (1, .int v1), (2, .int v2)]) (st' := [.int v2, .int v1, .ref 4]) 3 rfl ?_
  refine db_RcyB (mr' := dbm_126) (as := [.ref 4, .int v1, .int v2]) (rest := []) (pc' := 6) (lv1 := [(0, .ref 4), (1, .int v1), (2, .int v2)]) rfl rfl rfl rfl rfl (db_f126_ok) fun q1 => ?_
  refine db_RifBn (pc' := 9) (tg := 15) (lv1 := [(0, .ref 4), (1, .int v1), (2, .int v2)]) rfl rfl rfl rfl ?_ ?_
  · refine db_Rgo (pc' := 21) (lv' := [(0, .ref 4), (1, .int v1), (2, .int v2)]) (st' := [.int v2, .int v1, .ref 274]) 4 rfl ?_
    refine db_RcdI (mr' := dbm_185) (as := [.ref 274, .int v1, .int v2]) (rest := []) (pc' := 24) (lv1 := [(0, .ref 4), (1, .int v1), (2, .int v2)]) rfl rfl rfl rfl rfl (db_f185_ok) fun q3 s4 => ?_
    refine db_Rgo (pc' := 27) (lv' := [(3, .int q3), (0, .ref 4), (1, .int v1), (2, .int v2)]) (st' := [.int (-1 : Int32), .int q3]) 3 rfl ?_
    refine db_Ric (pc' := 30) (tg := 39) (lv1 := [(3, .int q3), (0, .ref 4), (1, .int v1), (2, .int v2)]) rfl rfl rfl rfl ?_ ?_
    · refine db_Rgo (pc' := 41) (lv' := [(0, .ref 4), (3, .int q3)]) (st' := [.int q3, .ref 4]) 2 rfl ?_
      refine db_RcdI (mr' := dbm_87) (as := [.ref 4, .int q3]) (rest := []) (pc' := 44) (lv1 := [(0, .ref 4), (3, .int q3)]) rfl rfl rfl rfl rfl (db_f87_ok) fun q5 s6 => ?_
      exact db_Rret (lv1 := []) rfl rfl rfl rfl
    refine db_Rgo (pc' := 33) (lv' := [(3, .int q3), (0, .ref 4), (1, .int v1), (2, .int v2)]) (st' := [.int (8 : Int32), .ref 4]) 2 rfl ?_
    refine db_RcdI (mr' := dbm_37) (as := [.ref 4, .int (8 : Int32)]) (rest := []) (pc' := 36) (lv1 := [(3, .int q3), (0, .ref 4), (1, .int v1), (2, .int v2)]) rfl rfl rfl rfl rfl (db_f37_ok) fun q7 s8 => ?_
    refine db_Rgo (pc' := 44) (lv' := [(3, .int q3), (0, .ref 4), (1, .int v1), (2, .int v2)]) (st' := [.int q7]) 1 rfl ?_
    exact db_Rret (lv1 := []) rfl rfl rfl rfl
  refine db_Rgo (pc' := 11) (lv' := [(0, .ref 4), (1, .int v1), (2, .int v2)]) (st' := [.int (2 : Int32), .ref 4]) 2 rfl ?_
  refine db_RcdI (mr' := dbm_37) (as := [.ref 4, .int (2 : Int32)]) (rest := []) (pc' := 14) (lv1 := [(0, .ref 4), (1, .int v1), (2, .int v2)]) rfl rfl rfl rfl rfl (db_f37_ok) fun q9 s10 => ?_
  exact db_Rret (lv1 := [(0, .ref 4), (1, .int v1), (2, .int v2)]) rfl rfl rfl rfl
noncomputable def db_f362_b93 (h30 : db_S → Int32 → Int32 → Int32 → Int32 → Option (Int32 × db_S)) (s : db_S) (v1 : Int32) (v2 : Int32) (v3 : Int32) (v4 : Int32) : Option (Int32 × db_S) :=
  (h30 s v1 v2 v3 (v4 + (1 : Int32)))
theorem db_f362_b93_ok {X : db_X} {d : Nat}  {h30 : db_S → Int32 → Int32 → Int32 → Int32 → Option (Int32 × db_S)} {s : db_S} {v1 : Int32} {v2 : Int32} {v3 : Int32} {v4 : Int32} (zh30 : ∀ (s' : db_S) (v1 : Int32) (v2 : Int32) (v3 : Int32) (v4 : Int32) , db_Rf X (d + 5) dbm_362 30 [(0, .ref 669), (1, .int v1), (2, .int v2), (3, .int v3), (4, .int v4)] [] s' db_zI (h30 s' v1 v2 v3 v4)) : db_Rf X (d + 5) dbm_362 93 [(0, .ref 669), (1, .int v1), (2, .int v2), (3, .int v3), (4, .int v4)] [] s db_zI (db_f362_b93 h30 s v1 v2 v3 v4) := by
  unfold db_f362_b93
  refine db_Rgo (pc' := 30) (lv' := [(4, .int (v4 + (1 : Int32))), (0, .ref 669), (1, .int v1), (2, .int v2), (3, .int v3)]) (st' := []) 2 rfl ?_
  refine db_Rn (lv1 := [(0, .ref 669), (1, .int v1), (2, .int v2), (3, .int v3), (4, .int (v4 + (1 : Int32)))]) rfl rfl rfl ?_
  exact zh30 _ _ _ _ _
noncomputable def db_f362_b90 (h30 : db_S → Int32 → Int32 → Int32 → Int32 → Option (Int32 × db_S)) (s : db_S) (v1 : Int32) (v2 : Int32) (v4 : Int32) : Option (Int32 × db_S) :=
  (db_f362_b93 h30 s v1 v2 v4 v4)
theorem db_f362_b90_ok {X : db_X} {d : Nat}  {h30 : db_S → Int32 → Int32 → Int32 → Int32 → Option (Int32 × db_S)} {s : db_S} {v1 : Int32} {v2 : Int32} {v4 : Int32} (zh30 : ∀ (s' : db_S) (v1 : Int32) (v2 : Int32) (v3 : Int32) (v4 : Int32) , db_Rf X (d + 5) dbm_362 30 [(0, .ref 669), (1, .int v1), (2, .int v2), (3, .int v3), (4, .int v4)] [] s' db_zI (h30 s' v1 v2 v3 v4)) : db_Rf X (d + 5) dbm_362 90 [(0, .ref 669), (1, .int v1), (2, .int v2), (4, .int v4)] [] s db_zI (db_f362_b90 h30 s v1 v2 v4) := by
  unfold db_f362_b90
  refine db_Rgo (pc' := 93) (lv' := [(3, .int v4), (0, .ref 669), (1, .int v1), (2, .int v2), (4, .int v4)]) (st' := []) 2 rfl ?_
  refine db_Rn (lv1 := [(0, .ref 669), (1, .int v1), (2, .int v2), (3, .int v4), (4, .int v4)]) rfl rfl rfl ?_
  exact db_f362_b93_ok zh30
noncomputable def db_f362_b30 : Nat → db_S → Int32 → Int32 → Int32 → Int32 → Option (Int32 × db_S)
  | 0, _, _, _, _, _ => none
  | n + 1, s, v1, v2, v3, v4 =>
    ((db_rI s 674 (5 : Int32)).bind fun x1 => (cond (db_cnd .ge v4 x1) (cond (db_cnd .ge v3 0) (some (v3, s)) (db_bd (db_f281 s (8 : Int32)) fun q2 s3 => (some (q2, s3)))) (cond (db_cnd .lt v3 0) (db_f362_b90 (db_f362_b30 n) s v1 v2 v4) (db_bd (db_f316 s v4 v1 v2) fun q4 s5 => ((db_rI s5 674 ((135 : Int32) + v3)).bind fun x6 => (db_bd (db_f316 s5 v3 v1 v2) fun q7 s8 => ((db_rI s8 674 ((135 : Int32) + v4)).bind fun x9 => (cond (db_cnd .le (q4 * (x6 + (1 : Int32))) (q7 * (x9 + (1 : Int32)))) (db_f362_b93 (db_f362_b30 n) s8 v1 v2 v3 v4) (db_f362_b90 (db_f362_b30 n) s8 v1 v2 v4)))))))))
theorem db_f362_b30_ok {X : db_X} {d : Nat}  (n : Nat) : ∀ (s : db_S) (v1 : Int32) (v2 : Int32) (v3 : Int32) (v4 : Int32), db_Rf X (d + 5) dbm_362 30 [(0, .ref 669), (1, .int v1), (2, .int v2), (3, .int v3), (4, .int v4)] [] s db_zI (db_f362_b30 n s v1 v2 v3 v4) := by
  induction n with
  | zero => intros; exact db_Rnone
  | succ n ih =>
    intro s v1 v2 v3 v4
    unfold db_f362_b30
    refine db_Rgo (pc' := 37) (lv' := [(0, .ref 669), (1, .int v1), (2, .int v2), (3, .int v3), (4, .int v4)]) (st' := [.int (5 : Int32), .ref 674, .int v4]) 4 rfl ?_
    refine db_RldI (pc' := 38) (lv1 := [(0, .ref 669), (1, .int v1), (2, .int v2), (3, .int v3), (4, .int v4)]) rfl rfl rfl fun x1 => ?_
    refine db_Ric (pc' := 41) (tg := 99) (lv1 := [(0, .ref 669), (1, .int v1), (2, .int v2), (3, .int v3), (4, .int v4)]) rfl rfl rfl rfl ?_ ?_
    · refine db_Rgo (pc' := 100) (lv' := [(0, .ref 669), (3, .int v3)]) (st' := [.int v3]) 1 rfl ?_
      refine db_Rif (pc' := 103) (tg := 112) (lv1 := [(0, .ref 669), (3, .int v3)]) rfl rfl rfl rfl ?_ ?_
      · refine db_Rgo (pc' := 113) (lv' := [(3, .int v3)]) (st' := [.int v3]) 1 rfl ?_
        exact db_Rret (lv1 := []) rfl rfl rfl rfl
      refine db_Rgo (pc' := 106) (lv' := [(0, .ref 669), (3, .int v3)]) (st' := [.int (8 : Int32), .ref 669]) 2 rfl ?_
      refine db_RcdI (mr' := dbm_281) (as := [.ref 669, .int (8 : Int32)]) (rest := []) (pc' := 109) (lv1 := [(0, .ref 669), (3, .int v3)]) rfl rfl rfl rfl rfl (db_f281_ok) fun q2 s3 => ?_
      refine db_Rgo (pc' := 113) (lv' := [(0, .ref 669), (3, .int v3)]) (st' := [.int q2]) 1 rfl ?_
      exact db_Rret (lv1 := []) rfl rfl rfl rfl
    refine db_Rgo (pc' := 42) (lv' := [(0, .ref 669), (1, .int v1), (2, .int v2), (3, .int v3), (4, .int v4)]) (st' := [.int v3]) 1 rfl ?_
    refine db_Rif (pc' := 45) (tg := 90) (lv1 := [(0, .ref 669), (1, .int v1), (2, .int v2), (3, .int v3), (4, .int v4)]) rfl rfl rfl rfl ?_ ?_
    · refine db_Rn (lv1 := [(0, .ref 669), (1, .int v1), (2, .int v2), (4, .int v4)]) rfl rfl rfl ?_
      exact db_f362_b90_ok ih
    refine db_Rgo (pc' := 50) (lv' := [(0, .ref 669), (1, .int v1), (2, .int v2), (3, .int v3), (4, .int v4)]) (st' := [.int v2, .int v1, .int v4, .ref 669]) 4 rfl ?_
    refine db_RcdI (mr' := dbm_316) (as := [.ref 669, .int v4, .int v1, .int v2]) (rest := []) (pc' := 53) (lv1 := [(0, .ref 669), (1, .int v1), (2, .int v2), (3, .int v3), (4, .int v4)]) rfl rfl rfl rfl rfl (db_f316_ok) fun q4 s5 => ?_
    refine db_Rgo (pc' := 62) (lv' := [(0, .ref 669), (1, .int v1), (2, .int v2), (3, .int v3), (4, .int v4)]) (st' := [.int ((135 : Int32) + v3), .ref 674, .int q4]) 5 rfl ?_
    refine db_RldI (pc' := 63) (lv1 := [(0, .ref 669), (1, .int v1), (2, .int v2), (3, .int v3), (4, .int v4)]) rfl rfl rfl fun x6 => ?_
    refine db_Rgo (pc' := 70) (lv' := [(0, .ref 669), (1, .int v1), (2, .int v2), (3, .int v3), (4, .int v4)]) (st' := [.int v2, .int v1, .int v3, .ref 669, .int (q4 * (x6 + (1 : Int32)))]) 7 rfl ?_
    refine db_RcdI (mr' := dbm_316) (as := [.ref 669, .int v3, .int v1, .int v2]) (rest := [.int (q4 * (x6 + (1 : Int32)))]) (pc' := 73) (lv1 := [(0, .ref 669), (1, .int v1), (2, .int v2), (3, .int v3), (4, .int v4)]) rfl rfl rfl rfl rfl (db_f316_ok) fun q7 s8 => ?_
    refine db_Rgo (pc' := 83) (lv' := [(0, .ref 669), (1, .int v1), (2, .int v2), (3, .int v3), (4, .int v4)]) (st' := [.int ((135 : Int32) + v4), .ref 674, .int q7, .int (q4 * (x6 + (1 : Int32)))]) 5 rfl ?_
    refine db_RldI (pc' := 84) (lv1 := [(0, .ref 669), (1, .int v1), (2, .int v2), (3, .int v3), (4, .int v4)]) rfl rfl rfl fun x9 => ?_
    refine db_Rgo (pc' := 87) (lv' := [(0, .ref 669), (1, .int v1), (2, .int v2), (3, .int v3), (4, .int v4)]) (st' := [.int (q7 * (x9 + (1 : Int32))), .int (q4 * (x6 + (1 : Int32)))]) 3 rfl ?_
    refine db_Ric (pc' := 90) (tg := 93) (lv1 := [(0, .ref 669), (1, .int v1), (2, .int v2), (3, .int v3), (4, .int v4)]) rfl rfl rfl rfl ?_ ?_
    · exact db_f362_b93_ok ih
    refine db_Rn (lv1 := [(0, .ref 669), (1, .int v1), (2, .int v2), (4, .int v4)]) rfl rfl rfl ?_
    exact db_f362_b90_ok ih
/-- DreamBookModel.bargain(II)I -/
noncomputable def db_f362 (s : db_S) (v1 : Int32) (v2 : Int32) : Option (Int32 × db_S) :=
  ((db_pI s 669 1 (0 : Int32)).bind fun s1 => ((db_pI s1 669 0 (0 : Int32)).bind fun s2 => ((db_f315 s2 v1 v2).bind fun q3 => (cond q3 (db_f362_b30 db_FU s2 v1 v2 (-1 : Int32) (0 : Int32)) (db_bd (db_f281 s2 (2 : Int32)) fun q5 s6 => (some (q5, s6)))))))
theorem db_f362_ok {X : db_X} {d : Nat} {s : db_S} {v1 : Int32} {v2 : Int32} : db_Rf X (d + 5) dbm_362 0 (lv_args 0 [.ref 669, .int v1, .int v2]) [] s db_zI (db_f362 s v1 v2) := by
  show db_Rf _ _ _ 0 [(0, .ref 669), (1, .int v1), (2, .int v2)] [] _ _ _
  unfold db_f362
  refine db_Rgo (pc' := 2) (lv' := [(0, .ref 669), (1, .int v1), (2, .int v2)]) (st' := [.int (0 : Int32), .ref 669]) 2 rfl ?_
  refine db_RpuI (pc' := 5) (lv1 := [(0, .ref 669), (1, .int v1), (2, .int v2)]) rfl rfl rfl rfl rfl rfl (by decide) rfl rfl fun s1 => ?_
  refine db_Rgo (pc' := 7) (lv' := [(0, .ref 669), (1, .int v1), (2, .int v2)]) (st' := [.int (0 : Int32), .ref 669]) 2 rfl ?_
  refine db_RpuI (pc' := 10) (lv1 := [(0, .ref 669), (1, .int v1), (2, .int v2)]) rfl rfl rfl rfl rfl rfl (by decide) rfl rfl fun s2 => ?_
  refine db_Rgo (pc' := 13) (lv' := [(0, .ref 669), (1, .int v1), (2, .int v2)]) (st' := [.int v2, .int v1, .ref 669]) 3 rfl ?_
  refine db_RcyB (mr' := dbm_315) (as := [.ref 669, .int v1, .int v2]) (rest := []) (pc' := 16) (lv1 := [(0, .ref 669), (1, .int v1), (2, .int v2)]) rfl rfl rfl rfl rfl (db_f315_ok) fun q3 => ?_
  refine db_RifBn (pc' := 19) (tg := 25) (lv1 := [(0, .ref 669), (1, .int v1), (2, .int v2)]) rfl rfl rfl rfl ?_ ?_
  · refine db_Rgo (pc' := 30) (lv' := [(4, .int (0 : Int32)), (3, .int (-1 : Int32)), (0, .ref 669), (1, .int v1), (2, .int v2)]) (st' := []) 4 rfl ?_
    refine db_Rn (lv1 := [(0, .ref 669), (1, .int v1), (2, .int v2), (3, .int (-1 : Int32)), (4, .int (0 : Int32))]) rfl rfl rfl ?_
    exact db_f362_b30_ok db_FU _ _ _ _ _
  refine db_Rgo (pc' := 21) (lv' := [(0, .ref 669), (1, .int v1), (2, .int v2)]) (st' := [.int (2 : Int32), .ref 669]) 2 rfl ?_
  refine db_RcdI (mr' := dbm_281) (as := [.ref 669, .int (2 : Int32)]) (rest := []) (pc' := 24) (lv1 := [(0, .ref 669), (1, .int v1), (2, .int v2)]) rfl rfl rfl rfl rfl (db_f281_ok) fun q5 s6 => ?_
  exact db_Rret (lv1 := [(0, .ref 669), (1, .int v1), (2, .int v2)]) rfl rfl rfl rfl
/-- DreamBook.checkWeek(IIII)I -/
noncomputable def db_f187 (s : db_S) (v1 : Int32) (v2 : Int32) (v3 : Int32) (v4 : Int32) : Option Int32 :=
  ((db_f126 s v3 v4).bind fun q1 => (cond q1 ((db_f27 s v1 (1 : Int32) (6 : Int32)).bind fun q3 => (cond q3 ((db_f162 s v2).bind fun q5 => (cond q5 ((db_rI s 21 (5 : Int32)).bind fun x7 => (cond (db_cnd .ne x7 0) (some (0 : Int32)) (some (8 : Int32)))) (some (5 : Int32)))) (some (5 : Int32)))) (some (2 : Int32))))
theorem db_f187_ok {X : db_X} {d : Nat} {s : db_S} {v1 : Int32} {v2 : Int32} {v3 : Int32} {v4 : Int32} : db_Rf X (d + 2) dbm_187 0 (lv_args 0 [.ref 4, .int v1, .int v2, .int v3, .int v4]) [] s (db_yI s) (db_f187 s v1 v2 v3 v4) := by
  show db_Rf _ _ _ 0 [(0, .ref 4), (1, .int v1), (2, .int v2), (3, .int v3), (4, .int v4)] [] _ _ _
  unfold db_f187
  refine db_Rgo (pc' := 4) (lv' := [(0, .ref 4), (1, .int v1), (2, .int v2), (3, .int v3), (4, .int v4)]) (st' := [.int v4, .int v3, .ref 4]) 3 rfl ?_
  refine db_RcyB (mr' := dbm_126) (as := [.ref 4, .int v3, .int v4]) (rest := []) (pc' := 7) (lv1 := [(0, .ref 4), (1, .int v1), (2, .int v2), (3, .int v3), (4, .int v4)]) rfl rfl rfl rfl rfl (db_f126_ok) fun q1 => ?_
  refine db_RifBn (pc' := 10) (tg := 12) (lv1 := [(0, .ref 4), (1, .int v1), (2, .int v2), (3, .int v3), (4, .int v4)]) rfl rfl rfl rfl ?_ ?_
  · refine db_Rgo (pc' := 16) (lv' := [(0, .ref 4), (1, .int v1), (2, .int v2)]) (st' := [.int (6 : Int32), .int (1 : Int32), .int v1]) 3 rfl ?_
    refine db_RcyB (mr' := dbm_27) (as := [.int v1, .int (1 : Int32), .int (6 : Int32)]) (rest := []) (pc' := 19) (lv1 := [(0, .ref 4), (1, .int v1), (2, .int v2)]) rfl rfl rfl rfl rfl (db_f27_ok) fun q3 => ?_
    refine db_RifBe (pc' := 22) (tg := 29) (lv1 := [(0, .ref 4), (1, .int v1), (2, .int v2)]) rfl rfl rfl rfl ?_ ?_
    · refine db_Rgo (pc' := 30) (lv' := []) (st' := [.int (5 : Int32)]) 1 rfl ?_
      exact db_Rret (lv1 := []) rfl rfl rfl rfl
    refine db_Rgo (pc' := 23) (lv' := [(0, .ref 4), (1, .int v1), (2, .int v2)]) (st' := [.int v2]) 1 rfl ?_
    refine db_RcyB (mr' := dbm_162) (as := [.int v2]) (rest := []) (pc' := 26) (lv1 := [(0, .ref 4), (1, .int v1), (2, .int v2)]) rfl rfl rfl rfl rfl (db_f162_ok) fun q5 => ?_
    refine db_RifBn (pc' := 29) (tg := 31) (lv1 := [(0, .ref 4), (1, .int v1), (2, .int v2)]) rfl rfl rfl rfl ?_ ?_
    · refine db_Rgo (pc' := 39) (lv' := [(0, .ref 4)]) (st' := [.int (5 : Int32), .ref 21]) 4 rfl ?_
      refine db_RldI (pc' := 40) (lv1 := [(0, .ref 4)]) rfl rfl rfl fun x7 => ?_
      refine db_Rif (pc' := 43) (tg := 48) (lv1 := [(0, .ref 4)]) rfl rfl rfl rfl ?_ ?_
      · refine db_Rgo (pc' := 49) (lv' := []) (st' := [.int (0 : Int32)]) 1 rfl ?_
        exact db_Rret (lv1 := []) rfl rfl rfl rfl
      refine db_Rgo (pc' := 49) (lv' := [(0, .ref 4)]) (st' := [.int (8 : Int32)]) 2 rfl ?_
      exact db_Rret (lv1 := []) rfl rfl rfl rfl
    refine db_Rgo (pc' := 30) (lv' := []) (st' := [.int (5 : Int32)]) 1 rfl ?_
    exact db_Rret (lv1 := []) rfl rfl rfl rfl
  refine db_Rgo (pc' := 11) (lv' := [(0, .ref 4), (1, .int v1), (2, .int v2), (3, .int v3), (4, .int v4)]) (st' := [.int (2 : Int32)]) 1 rfl ?_
  exact db_Rret (lv1 := [(0, .ref 4), (1, .int v1), (2, .int v2), (3, .int v3), (4, .int v4)]) rfl rfl rfl rfl
noncomputable def db_f189_b48 (s : db_S) (v1 : Int64) (v3 : Int64) (v5 : Int64) : Option db_S :=
  (cond (db_cnd .eq (lg_cmp v5 (0 : Int64)) 0) (some s) (if v5 = 0 then none else ((db_pL s 282 0 (v1 / v5)).bind fun s1 => (if v5 = 0 then none else ((db_pL s1 282 1 (v3 / v5)).bind fun s2 => (some s2))))))
theorem db_f189_b48_ok {X : db_X} {d : Nat}  {s : db_S} {v1 : Int64} {v3 : Int64} {v5 : Int64} : db_Rf X (d + 0) dbm_189 48 [(0, .ref 282), (1, .long v1), (3, .long v3), (5, .long v5)] [] s db_zV (db_f189_b48 s v1 v3 v5) := by
  unfold db_f189_b48
  refine db_Rgo (pc' := 52) (lv' := [(0, .ref 282), (1, .long v1), (3, .long v3), (5, .long v5)]) (st' := [.int (lg_cmp v5 (0 : Int64))]) 3 rfl ?_
  refine db_Rif (pc' := 55) (tg := 71) (lv1 := [(0, .ref 282), (1, .long v1), (3, .long v3), (5, .long v5)]) rfl rfl rfl rfl ?_ ?_
  · exact db_Rret (lv1 := []) rfl rfl rfl rfl
  refine db_Rgo (pc' := 59) (lv' := [(0, .ref 282), (1, .long v1), (3, .long v3), (5, .long v5)]) (st' := [.long v5, .long v1, .ref 282]) 3 rfl ?_
  refine db_RdivL (pc' := 60) (lv1 := [(0, .ref 282), (1, .long v1), (3, .long v3), (5, .long v5)]) rfl rfl rfl ?_
  refine db_RpuL (pc' := 63) (lv1 := [(0, .ref 282), (1, .long v1), (3, .long v3), (5, .long v5)]) rfl rfl rfl rfl rfl rfl (by decide) rfl rfl fun s1 => ?_
  refine db_Rgo (pc' := 67) (lv' := [(0, .ref 282), (1, .long v1), (3, .long v3), (5, .long v5)]) (st' := [.long v5, .long v3, .ref 282]) 3 rfl ?_
  refine db_RdivL (pc' := 68) (lv1 := [(0, .ref 282), (1, .long v1), (3, .long v3), (5, .long v5)]) rfl rfl rfl ?_
  refine db_RpuL (pc' := 71) (lv1 := [(0, .ref 282), (1, .long v1), (3, .long v3), (5, .long v5)]) rfl rfl rfl rfl rfl rfl (by decide) rfl rfl fun s2 => ?_
  exact db_Rret (lv1 := []) rfl rfl rfl rfl
noncomputable def db_f189_b12 : Nat → db_S → Int64 → Int64 → Int64 → Int64 → Int32 → Option db_S
  | 0, _, _, _, _, _, _ => none
  | n + 1, s, v1, v3, v5, v7, v9 =>
    (cond (db_cnd .ge v9 (200 : Int32)) (db_f189_b48 s v1 v3 v5) (cond (db_cnd .eq (lg_cmp v7 (0 : Int64)) 0) (db_f189_b48 s v1 v3 v5) (if v7 = 0 then none else (db_f189_b12 n s v1 v3 v7 (v5 - v5 / v7 * v7) (v9 + (1 : Int32))))))
theorem db_f189_b12_ok {X : db_X} {d : Nat}  (n : Nat) : ∀ (s : db_S) (v1 : Int64) (v3 : Int64) (v5 : Int64) (v7 : Int64) (v9 : Int32), db_Rf X (d + 0) dbm_189 12 [(0, .ref 282), (1, .long v1), (3, .long v3), (5, .long v5), (7, .long v7), (9, .int v9)] [] s db_zV (db_f189_b12 n s v1 v3 v5 v7 v9) := by
  induction n with
  | zero => intros; exact db_Rnone
  | succ n ih =>
    intro s v1 v3 v5 v7 v9
    unfold db_f189_b12
    refine db_Rgo (pc' := 17) (lv' := [(0, .ref 282), (1, .long v1), (3, .long v3), (5, .long v5), (7, .long v7), (9, .int v9)]) (st' := [.int (200 : Int32), .int v9]) 2 rfl ?_
    refine db_Ric (pc' := 20) (tg := 48) (lv1 := [(0, .ref 282), (1, .long v1), (3, .long v3), (5, .long v5), (7, .long v7), (9, .int v9)]) rfl rfl rfl rfl ?_ ?_
    · refine db_Rn (lv1 := [(0, .ref 282), (1, .long v1), (3, .long v3), (5, .long v5)]) rfl rfl rfl ?_
      exact db_f189_b48_ok
    refine db_Rgo (pc' := 24) (lv' := [(0, .ref 282), (1, .long v1), (3, .long v3), (5, .long v5), (7, .long v7), (9, .int v9)]) (st' := [.int (lg_cmp v7 (0 : Int64))]) 3 rfl ?_
    refine db_Rif (pc' := 27) (tg := 48) (lv1 := [(0, .ref 282), (1, .long v1), (3, .long v3), (5, .long v5), (7, .long v7), (9, .int v9)]) rfl rfl rfl rfl ?_ ?_
    · refine db_Rn (lv1 := [(0, .ref 282), (1, .long v1), (3, .long v3), (5, .long v5)]) rfl rfl rfl ?_
      exact db_f189_b48_ok
    refine db_Rgo (pc' := 31) (lv' := [(0, .ref 282), (1, .long v1), (3, .long v3), (5, .long v5), (7, .long v7), (9, .int v9)]) (st' := [.long v7, .long v5]) 2 rfl ?_
    refine db_RremL (pc' := 32) (lv1 := [(0, .ref 282), (1, .long v1), (3, .long v3), (5, .long v5), (7, .long v7), (9, .int v9)]) rfl rfl rfl ?_
    refine db_Rgo (pc' := 12) (lv' := [(9, .int (v9 + (1 : Int32))), (7, .long (v5 - v5 / v7 * v7)), (5, .long v7), (10, .long (v5 - v5 / v7 * v7)), (0, .ref 282), (1, .long v1), (3, .long v3)]) (st' := []) 7 rfl ?_
    refine db_Rn (lv1 := [(0, .ref 282), (1, .long v1), (3, .long v3), (5, .long v7), (7, .long (v5 - v5 / v7 * v7)), (9, .int (v9 + (1 : Int32)))]) rfl rfl rfl ?_
    exact ih _ _ _ _ _ _
/-- DreamBook$Odds.tell(JJ)V -/
noncomputable def db_f189 (s : db_S) (v1 : Int64) (v3 : Int64) : Option db_S :=
  (db_f189_b12 db_FU s v1 v3 (if 0 < v1 then v1 else -v1) v3 (0 : Int32))
theorem db_f189_ok {X : db_X} {d : Nat} {s : db_S} {v1 : Int64} {v3 : Int64} : db_Rf X (d + 0) dbm_189 0 (lv_args 0 [.ref 282, .long v1, .long v3]) [] s db_zV (db_f189 s v1 v3) := by
  show db_Rf _ _ _ 0 [(0, .ref 282), (1, .long v1), (3, .long v3)] [] _ _ _
  unfold db_f189
  refine db_Rgo (pc' := 12) (lv' := [(9, .int (0 : Int32)), (7, .long v3), (5, .long (if 0 < v1 then v1 else -v1)), (0, .ref 282), (1, .long v1), (3, .long v3)]) (st' := []) 7 rfl ?_
  refine db_Rn (lv1 := [(0, .ref 282), (1, .long v1), (3, .long v3), (5, .long (if 0 < v1 then v1 else -v1)), (7, .long v3), (9, .int (0 : Int32))]) rfl rfl rfl ?_
  exact db_f189_b12_ok db_FU _ _ _ _ _ _
noncomputable def db_f188_b6 : Nat → db_S → Int32 → Int32 → Int32 → Int64 → Int32 → Option db_S
  | 0, _, _, _, _, _, _ => none
  | n + 1, s, v1, v2, v3, v4, v6 =>
    ((db_rI s 21 (5 : Int32)).bind fun x1 => (cond (db_cnd .ge v6 x1) ((db_f100_20 s).bind fun q2 => ((db_f189 s ((Int32.toInt64 v1) * v4) (Int32.toInt64 q2)).bind fun s5 => (some s5))) ((db_rI s 61 v6).bind fun x6 => (db_bd (db_f127 s v6 v2 v3) fun q7 s8 => (db_f188_b6 n s8 v1 v2 v3 (v4 + ((Int32.toInt64 x6) * (Int32.toInt64 q7))) (v6 + (1 : Int32)))))))
theorem db_f188_b6_ok {X : db_X} {d : Nat}  (n : Nat) : ∀ (s : db_S) (v1 : Int32) (v2 : Int32) (v3 : Int32) (v4 : Int64) (v6 : Int32), db_Rf X (d + 3) dbm_188 6 [(0, .ref 282), (1, .int v1), (2, .int v2), (3, .int v3), (4, .long v4), (6, .int v6)] [] s db_zV (db_f188_b6 n s v1 v2 v3 v4 v6) := by
  induction n with
  | zero => intros; exact db_Rnone
  | succ n ih =>
    intro s v1 v2 v3 v4 v6
    unfold db_f188_b6
    refine db_Rgo (pc' := 16) (lv' := [(0, .ref 282), (1, .int v1), (2, .int v2), (3, .int v3), (4, .long v4), (6, .int v6)]) (st' := [.int (5 : Int32), .ref 21, .int v6]) 5 rfl ?_
    refine db_RldI (pc' := 17) (lv1 := [(0, .ref 282), (1, .int v1), (2, .int v2), (3, .int v3), (4, .long v4), (6, .int v6)]) rfl rfl rfl fun x1 => ?_
    refine db_Ric (pc' := 20) (tg := 55) (lv1 := [(0, .ref 282), (1, .int v1), (2, .int v2), (3, .int v3), (4, .long v4), (6, .int v6)]) rfl rfl rfl rfl ?_ ?_
    · refine db_Rgo (pc' := 65) (lv' := [(0, .ref 282), (1, .int v1), (4, .long v4)]) (st' := [.ref 20, .long ((Int32.toInt64 v1) * v4), .ref 282]) 7 rfl ?_
      refine db_RcyI (mr' := dbm_100) (as := [.ref 20]) (rest := [.long ((Int32.toInt64 v1) * v4), .ref 282]) (pc' := 68) (lv1 := [(0, .ref 282), (1, .int v1), (4, .long v4)]) rfl rfl rfl rfl rfl (db_f100_20_ok) fun q2 => ?_
      refine db_Rgo (pc' := 69) (lv' := [(0, .ref 282), (1, .int v1), (4, .long v4)]) (st' := [.long (Int32.toInt64 q2), .long ((Int32.toInt64 v1) * v4), .ref 282]) 1 rfl ?_
      refine db_RcV (mr' := dbm_189) (as := [.ref 282, .long ((Int32.toInt64 v1) * v4), .long (Int32.toInt64 q2)]) (rest := []) (pc' := 72) (lv1 := [(0, .ref 282), (1, .int v1), (4, .long v4)]) rfl rfl rfl rfl rfl (db_f189_ok) fun s5 => ?_
      exact db_Rret (lv1 := [(0, .ref 282), (1, .int v1), (4, .long v4)]) rfl rfl rfl rfl
    refine db_Rgo (pc' := 31) (lv' := [(0, .ref 282), (1, .int v1), (2, .int v2), (3, .int v3), (4, .long v4), (6, .int v6)]) (st' := [.int v6, .ref 61, .long v4]) 5 rfl ?_
    refine db_RldI (pc' := 32) (lv1 := [(0, .ref 282), (1, .int v1), (2, .int v2), (3, .int v3), (4, .long v4), (6, .int v6)]) rfl rfl rfl fun x6 => ?_
    refine db_Rgo (pc' := 41) (lv' := [(0, .ref 282), (1, .int v1), (2, .int v2), (3, .int v3), (4, .long v4), (6, .int v6)]) (st' := [.int v3, .int v2, .int v6, .ref 271, .long (Int32.toInt64 x6), .long v4]) 6 rfl ?_
    refine db_RcdI (mr' := dbm_127) (as := [.ref 271, .int v6, .int v2, .int v3]) (rest := [.long (Int32.toInt64 x6), .long v4]) (pc' := 44) (lv1 := [(0, .ref 282), (1, .int v1), (2, .int v2), (3, .int v3), (4, .long v4), (6, .int v6)]) rfl rfl rfl rfl rfl (db_f127_ok) fun q7 s8 => ?_
    refine db_Rgo (pc' := 6) (lv' := [(6, .int (v6 + (1 : Int32))), (4, .long (v4 + ((Int32.toInt64 x6) * (Int32.toInt64 q7)))), (0, .ref 282), (1, .int v1), (2, .int v2), (3, .int v3)]) (st' := []) 6 rfl ?_
    refine db_Rn (lv1 := [(0, .ref 282), (1, .int v1), (2, .int v2), (3, .int v3), (4, .long (v4 + ((Int32.toInt64 x6) * (Int32.toInt64 q7)))), (6, .int (v6 + (1 : Int32)))]) rfl rfl rfl ?_
    exact ih _ _ _ _ _ _
/-- DreamBook$Odds.tellMean(III)V -/
noncomputable def db_f188 (s : db_S) (v1 : Int32) (v2 : Int32) (v3 : Int32) : Option db_S :=
  (db_f188_b6 db_FU s v1 v2 v3 (0 : Int64) (0 : Int32))
theorem db_f188_ok {X : db_X} {d : Nat} {s : db_S} {v1 : Int32} {v2 : Int32} {v3 : Int32} : db_Rf X (d + 3) dbm_188 0 (lv_args 0 [.ref 282, .int v1, .int v2, .int v3]) [] s db_zV (db_f188 s v1 v2 v3) := by
  show db_Rf _ _ _ 0 [(0, .ref 282), (1, .int v1), (2, .int v2), (3, .int v3)] [] _ _ _
  unfold db_f188
  refine db_Rgo (pc' := 6) (lv' := [(6, .int (0 : Int32)), (4, .long (0 : Int64)), (0, .ref 282), (1, .int v1), (2, .int v2), (3, .int v3)]) (st' := []) 4 rfl ?_
  refine db_Rn (lv1 := [(0, .ref 282), (1, .int v1), (2, .int v2), (3, .int v3), (4, .long (0 : Int64)), (6, .int (0 : Int32))]) rfl rfl rfl ?_
  exact db_f188_b6_ok db_FU _ _ _ _ _ _
/-- DreamBook.week(III)Z -/
noncomputable def db_f186 (s : db_S) (v1 : Int32) (v2 : Int32) (v3 : Int32) : Option (Bool × db_S) :=
  ((db_f187 s v1 (0 : Int32) v2 v3).bind fun q1 => (cond (db_cnd .eq q1 0) ((db_f188 s v1 v2 v3).bind fun s4 => (db_bd (db_f31 s4) fun q5 s6 => (some (q5, s6)))) (db_bd (db_f28 s q1) fun q7 s8 => (some (q7, s8)))))
theorem db_f186_ok {X : db_X} {d : Nat} {s : db_S} {v1 : Int32} {v2 : Int32} {v3 : Int32} : db_Rf X (d + 4) dbm_186 0 (lv_args 0 [.ref 4, .int v1, .int v2, .int v3]) [] s db_zB (db_f186 s v1 v2 v3) := by
  show db_Rf _ _ _ 0 [(0, .ref 4), (1, .int v1), (2, .int v2), (3, .int v3)] [] _ _ _
  unfold db_f186
  refine db_Rgo (pc' := 5) (lv' := [(0, .ref 4), (1, .int v1), (2, .int v2), (3, .int v3)]) (st' := [.int v3, .int v2, .int (0 : Int32), .int v1, .ref 4]) 5 rfl ?_
  refine db_RcyI (mr' := dbm_187) (as := [.ref 4, .int v1, .int (0 : Int32), .int v2, .int v3]) (rest := []) (pc' := 8) (lv1 := [(0, .ref 4), (1, .int v1), (2, .int v2), (3, .int v3)]) rfl rfl rfl rfl rfl (db_f187_ok) fun q1 => ?_
  refine db_Rgo (pc' := 12) (lv' := [(4, .int q1), (0, .ref 4), (1, .int v1), (2, .int v2), (3, .int v3)]) (st' := [.int q1]) 2 rfl ?_
  refine db_Rif (pc' := 15) (tg := 22) (lv1 := [(4, .int q1), (0, .ref 4), (1, .int v1), (2, .int v2), (3, .int v3)]) rfl rfl rfl rfl ?_ ?_
  · refine db_Rgo (pc' := 29) (lv' := [(0, .ref 4), (1, .int v1), (2, .int v2), (3, .int v3)]) (st' := [.int v3, .int v2, .int v1, .ref 282]) 5 rfl ?_
    refine db_RcV (mr' := dbm_188) (as := [.ref 282, .int v1, .int v2, .int v3]) (rest := []) (pc' := 32) (lv1 := [(0, .ref 4), (1, .int v1), (2, .int v2), (3, .int v3)]) rfl rfl rfl rfl rfl (db_f188_ok) fun s4 => ?_
    refine db_Rgo (pc' := 33) (lv' := [(0, .ref 4), (1, .int v1), (2, .int v2), (3, .int v3)]) (st' := [.ref 4]) 1 rfl ?_
    refine db_RcdB (mr' := dbm_31) (as := [.ref 4]) (rest := []) (pc' := 36) (lv1 := [(0, .ref 4), (1, .int v1), (2, .int v2), (3, .int v3)]) rfl rfl rfl rfl rfl (db_f31_ok) fun q5 s6 => ?_
    exact db_RretB (lv1 := [(0, .ref 4), (1, .int v1), (2, .int v2), (3, .int v3)]) rfl rfl rfl rfl
  refine db_Rgo (pc' := 18) (lv' := [(4, .int q1), (0, .ref 4), (1, .int v1), (2, .int v2), (3, .int v3)]) (st' := [.int q1, .ref 4]) 2 rfl ?_
  refine db_RcdB (mr' := dbm_28) (as := [.ref 4, .int q1]) (rest := []) (pc' := 21) (lv1 := [(4, .int q1), (0, .ref 4), (1, .int v1), (2, .int v2), (3, .int v3)]) rfl rfl rfl rfl rfl (db_f28_ok) fun q7 s8 => ?_
  exact db_RretB (lv1 := [(4, .int q1), (0, .ref 4), (1, .int v1), (2, .int v2), (3, .int v3)]) rfl rfl rfl rfl
noncomputable def db_f364_b9 : Nat → db_S → Int64 → Int64 → Int64 → Int64 → Option (Bool × db_S)
  | 0, _, _, _, _, _ => none
  | n + 1, s, v1, v3, v5, v7 =>
    (cond (db_cnd .eq (lg_cmp v7 (0 : Int64)) 0) (if v5 = 0 then none else ((db_pL s 669 2 (v1 / v5)).bind fun s1 => (if v5 = 0 then none else ((db_pL s1 669 3 (v3 / v5)).bind fun s2 => (some (true, s2)))))) (if v7 = 0 then none else (db_f364_b9 n s v1 v3 v7 (v5 - v5 / v7 * v7))))
theorem db_f364_b9_ok {X : db_X} {d : Nat}  (n : Nat) : ∀ (s : db_S) (v1 : Int64) (v3 : Int64) (v5 : Int64) (v7 : Int64), db_Rf X (d + 0) dbm_364 9 [(0, .ref 669), (1, .long v1), (3, .long v3), (5, .long v5), (7, .long v7)] [] s db_zB (db_f364_b9 n s v1 v3 v5 v7) := by
  induction n with
  | zero => intros; exact db_Rnone
  | succ n ih =>
    intro s v1 v3 v5 v7
    unfold db_f364_b9
    refine db_Rgo (pc' := 13) (lv' := [(0, .ref 669), (1, .long v1), (3, .long v3), (5, .long v5), (7, .long v7)]) (st' := [.int (lg_cmp v7 (0 : Int64))]) 3 rfl ?_
    refine db_Rif (pc' := 16) (tg := 34) (lv1 := [(0, .ref 669), (1, .long v1), (3, .long v3), (5, .long v5), (7, .long v7)]) rfl rfl rfl rfl ?_ ?_
    · refine db_Rgo (pc' := 38) (lv' := [(0, .ref 669), (1, .long v1), (3, .long v3), (5, .long v5)]) (st' := [.long v5, .long v1, .ref 669]) 3 rfl ?_
      refine db_RdivL (pc' := 39) (lv1 := [(0, .ref 669), (1, .long v1), (3, .long v3), (5, .long v5)]) rfl rfl rfl ?_
      refine db_RpuL (pc' := 42) (lv1 := [(0, .ref 669), (1, .long v1), (3, .long v3), (5, .long v5)]) rfl rfl rfl rfl rfl rfl (by decide) rfl rfl fun s1 => ?_
      refine db_Rgo (pc' := 46) (lv' := [(0, .ref 669), (1, .long v1), (3, .long v3), (5, .long v5)]) (st' := [.long v5, .long v3, .ref 669]) 3 rfl ?_
      refine db_RdivL (pc' := 47) (lv1 := [(0, .ref 669), (1, .long v1), (3, .long v3), (5, .long v5)]) rfl rfl rfl ?_
      refine db_RpuL (pc' := 50) (lv1 := [(0, .ref 669), (1, .long v1), (3, .long v3), (5, .long v5)]) rfl rfl rfl rfl rfl rfl (by decide) rfl rfl fun s2 => ?_
      refine db_Rgo (pc' := 51) (lv' := [(0, .ref 669), (1, .long v1), (3, .long v3), (5, .long v5)]) (st' := [.int (1 : Int32)]) 1 rfl ?_
      exact db_Rret (lv1 := [(0, .ref 669), (1, .long v1), (3, .long v3), (5, .long v5)]) rfl rfl rfl rfl
    refine db_Rgo (pc' := 20) (lv' := [(0, .ref 669), (1, .long v1), (3, .long v3), (5, .long v5), (7, .long v7)]) (st' := [.long v7, .long v5]) 2 rfl ?_
    refine db_RremL (pc' := 21) (lv1 := [(0, .ref 669), (1, .long v1), (3, .long v3), (5, .long v5), (7, .long v7)]) rfl rfl rfl ?_
    refine db_Rgo (pc' := 9) (lv' := [(7, .long (v5 - v5 / v7 * v7)), (5, .long v7), (9, .long (v5 - v5 / v7 * v7)), (0, .ref 669), (1, .long v1), (3, .long v3)]) (st' := []) 6 rfl ?_
    refine db_Rn (lv1 := [(0, .ref 669), (1, .long v1), (3, .long v3), (5, .long v7), (7, .long (v5 - v5 / v7 * v7))]) rfl rfl rfl ?_
    exact ih _ _ _ _ _
/-- DreamBookModel.fraction(JJ)Z -/
noncomputable def db_f364 (s : db_S) (v1 : Int64) (v3 : Int64) : Option (Bool × db_S) :=
  (db_f364_b9 db_FU s v1 v3 (if 0 < v1 then v1 else -v1) v3)
theorem db_f364_ok {X : db_X} {d : Nat} {s : db_S} {v1 : Int64} {v3 : Int64} : db_Rf X (d + 0) dbm_364 0 (lv_args 0 [.ref 669, .long v1, .long v3]) [] s db_zB (db_f364 s v1 v3) := by
  show db_Rf _ _ _ 0 [(0, .ref 669), (1, .long v1), (3, .long v3)] [] _ _ _
  unfold db_f364
  refine db_Rgo (pc' := 9) (lv' := [(7, .long v3), (5, .long (if 0 < v1 then v1 else -v1)), (0, .ref 669), (1, .long v1), (3, .long v3)]) (st' := []) 5 rfl ?_
  refine db_Rn (lv1 := [(0, .ref 669), (1, .long v1), (3, .long v3), (5, .long (if 0 < v1 then v1 else -v1)), (7, .long v3)]) rfl rfl rfl ?_
  exact db_f364_b9_ok db_FU _ _ _ _ _
noncomputable def db_f363_b65 : Nat → db_S → Int32 → Int32 → Int32 → Int64 → Int32 → Option (Bool × db_S)
  | 0, _, _, _, _, _, _ => none
  | n + 1, s, v1, v2, v3, v4, v6 =>
    ((db_rI s 674 (5 : Int32)).bind fun x1 => (cond (db_cnd .ge v6 x1) ((db_f282 s).bind fun q2 => (db_bd (db_f364 s ((Int32.toInt64 v1) * v4) (Int32.toInt64 q2)) fun q4 s5 => (some (q4, s5)))) ((db_rI s 674 ((143 : Int32) + v6)).bind fun x6 => (db_bd (db_f316 s v6 v2 v3) fun q7 s8 => (db_f363_b65 n s8 v1 v2 v3 (v4 + ((Int32.toInt64 x6) * (Int32.toInt64 q7))) (v6 + (1 : Int32)))))))
theorem db_f363_b65_ok {X : db_X} {d : Nat}  (n : Nat) : ∀ (s : db_S) (v1 : Int32) (v2 : Int32) (v3 : Int32) (v4 : Int64) (v6 : Int32), db_Rf X (d + 5) dbm_363 65 [(0, .ref 669), (1, .int v1), (2, .int v2), (3, .int v3), (4, .long v4), (6, .int v6)] [] s db_zB (db_f363_b65 n s v1 v2 v3 v4 v6) := by
  induction n with
  | zero => intros; exact db_Rnone
  | succ n ih =>
    intro s v1 v2 v3 v4 v6
    unfold db_f363_b65
    refine db_Rgo (pc' := 72) (lv' := [(0, .ref 669), (1, .int v1), (2, .int v2), (3, .int v3), (4, .long v4), (6, .int v6)]) (st' := [.int (5 : Int32), .ref 674, .int v6]) 4 rfl ?_
    refine db_RldI (pc' := 73) (lv1 := [(0, .ref 669), (1, .int v1), (2, .int v2), (3, .int v3), (4, .long v4), (6, .int v6)]) rfl rfl rfl fun x1 => ?_
    refine db_Ric (pc' := 76) (tg := 109) (lv1 := [(0, .ref 669), (1, .int v1), (2, .int v2), (3, .int v3), (4, .long v4), (6, .int v6)]) rfl rfl rfl rfl ?_ ?_
    · refine db_Rgo (pc' := 116) (lv' := [(0, .ref 669), (1, .int v1), (4, .long v4)]) (st' := [.ref 669, .long ((Int32.toInt64 v1) * v4), .ref 669]) 6 rfl ?_
      refine db_RcyI (mr' := dbm_282) (as := [.ref 669]) (rest := [.long ((Int32.toInt64 v1) * v4), .ref 669]) (pc' := 119) (lv1 := [(0, .ref 669), (1, .int v1), (4, .long v4)]) rfl rfl rfl rfl rfl (db_f282_ok) fun q2 => ?_
      refine db_Rgo (pc' := 120) (lv' := [(0, .ref 669), (1, .int v1), (4, .long v4)]) (st' := [.long (Int32.toInt64 q2), .long ((Int32.toInt64 v1) * v4), .ref 669]) 1 rfl ?_
      refine db_RcdB (mr' := dbm_364) (as := [.ref 669, .long ((Int32.toInt64 v1) * v4), .long (Int32.toInt64 q2)]) (rest := []) (pc' := 123) (lv1 := [(0, .ref 669), (1, .int v1), (4, .long v4)]) rfl rfl rfl rfl rfl (db_f364_ok) fun q4 s5 => ?_
      exact db_RretB (lv1 := [(0, .ref 669), (1, .int v1), (4, .long v4)]) rfl rfl rfl rfl
    refine db_Rgo (pc' := 88) (lv' := [(0, .ref 669), (1, .int v1), (2, .int v2), (3, .int v3), (4, .long v4), (6, .int v6)]) (st' := [.int ((143 : Int32) + v6), .ref 674, .long v4]) 6 rfl ?_
    refine db_RldI (pc' := 89) (lv1 := [(0, .ref 669), (1, .int v1), (2, .int v2), (3, .int v3), (4, .long v4), (6, .int v6)]) rfl rfl rfl fun x6 => ?_
    refine db_Rgo (pc' := 95) (lv' := [(0, .ref 669), (1, .int v1), (2, .int v2), (3, .int v3), (4, .long v4), (6, .int v6)]) (st' := [.int v3, .int v2, .int v6, .ref 669, .long (Int32.toInt64 x6), .long v4]) 5 rfl ?_
    refine db_RcdI (mr' := dbm_316) (as := [.ref 669, .int v6, .int v2, .int v3]) (rest := [.long (Int32.toInt64 x6), .long v4]) (pc' := 98) (lv1 := [(0, .ref 669), (1, .int v1), (2, .int v2), (3, .int v3), (4, .long v4), (6, .int v6)]) rfl rfl rfl rfl rfl (db_f316_ok) fun q7 s8 => ?_
    refine db_Rgo (pc' := 65) (lv' := [(6, .int (v6 + (1 : Int32))), (4, .long (v4 + ((Int32.toInt64 x6) * (Int32.toInt64 q7)))), (0, .ref 669), (1, .int v1), (2, .int v2), (3, .int v3)]) (st' := []) 6 rfl ?_
    refine db_Rn (lv1 := [(0, .ref 669), (1, .int v1), (2, .int v2), (3, .int v3), (4, .long (v4 + ((Int32.toInt64 x6) * (Int32.toInt64 q7)))), (6, .int (v6 + (1 : Int32)))]) rfl rfl rfl ?_
    exact ih _ _ _ _ _ _
/-- DreamBookModel.week(III)Z -/
noncomputable def db_f363 (s : db_S) (v1 : Int32) (v2 : Int32) (v3 : Int32) : Option (Bool × db_S) :=
  ((db_pI s 669 1 (0 : Int32)).bind fun s1 => ((db_pI s1 669 0 (0 : Int32)).bind fun s2 => ((db_f315 s2 v2 v3).bind fun q3 => (cond q3 ((db_f269 s2 (Int32.toInt64 v1) (1 : Int64) (6 : Int64)).bind fun q5 => (cond q5 ((db_rI s2 674 (5 : Int32)).bind fun x7 => (cond (db_cnd .ne x7 0) (db_f363_b65 db_FU s2 v1 v2 v3 (0 : Int64) (0 : Int32)) (db_bd (db_f211 s2 (8 : Int32)) fun q8 s9 => (some (q8, s9))))) (db_bd (db_f211 s2 (5 : Int32)) fun q10 s11 => (some (q10, s11))))) (db_bd (db_f211 s2 (2 : Int32)) fun q12 s13 => (some (q12, s13)))))))
theorem db_f363_ok {X : db_X} {d : Nat} {s : db_S} {v1 : Int32} {v2 : Int32} {v3 : Int32} : db_Rf X (d + 5) dbm_363 0 (lv_args 0 [.ref 669, .int v1, .int v2, .int v3]) [] s db_zB (db_f363 s v1 v2 v3) := by
  show db_Rf _ _ _ 0 [(0, .ref 669), (1, .int v1), (2, .int v2), (3, .int v3)] [] _ _ _
  unfold db_f363
  refine db_Rgo (pc' := 2) (lv' := [(0, .ref 669), (1, .int v1), (2, .int v2), (3, .int v3)]) (st' := [.int (0 : Int32), .ref 669]) 2 rfl ?_
  refine db_RpuI (pc' := 5) (lv1 := [(0, .ref 669), (1, .int v1), (2, .int v2), (3, .int v3)]) rfl rfl rfl rfl rfl rfl (by decide) rfl rfl fun s1 => ?_
  refine db_Rgo (pc' := 7) (lv' := [(0, .ref 669), (1, .int v1), (2, .int v2), (3, .int v3)]) (st' := [.int (0 : Int32), .ref 669]) 2 rfl ?_
  refine db_RpuI (pc' := 10) (lv1 := [(0, .ref 669), (1, .int v1), (2, .int v2), (3, .int v3)]) rfl rfl rfl rfl rfl rfl (by decide) rfl rfl fun s2 => ?_
  refine db_Rgo (pc' := 13) (lv' := [(0, .ref 669), (1, .int v1), (2, .int v2), (3, .int v3)]) (st' := [.int v3, .int v2, .ref 669]) 3 rfl ?_
  refine db_RcyB (mr' := dbm_315) (as := [.ref 669, .int v2, .int v3]) (rest := []) (pc' := 16) (lv1 := [(0, .ref 669), (1, .int v1), (2, .int v2), (3, .int v3)]) rfl rfl rfl rfl rfl (db_f315_ok) fun q3 => ?_
  refine db_RifBn (pc' := 19) (tg := 25) (lv1 := [(0, .ref 669), (1, .int v1), (2, .int v2), (3, .int v3)]) rfl rfl rfl rfl ?_ ?_
  · refine db_Rgo (pc' := 31) (lv' := [(0, .ref 669), (1, .int v1), (2, .int v2), (3, .int v3)]) (st' := [.long (6 : Int64), .long (1 : Int64), .long (Int32.toInt64 v1)]) 4 rfl ?_
    refine db_RcyB (mr' := dbm_269) (as := [.long (Int32.toInt64 v1), .long (1 : Int64), .long (6 : Int64)]) (rest := []) (pc' := 34) (lv1 := [(0, .ref 669), (1, .int v1), (2, .int v2), (3, .int v3)]) rfl rfl rfl rfl rfl (db_f269_ok) fun q5 => ?_
    refine db_RifBn (pc' := 37) (tg := 43) (lv1 := [(0, .ref 669), (1, .int v1), (2, .int v2), (3, .int v3)]) rfl rfl rfl rfl ?_ ?_
    · refine db_Rgo (pc' := 48) (lv' := [(0, .ref 669), (1, .int v1), (2, .int v2), (3, .int v3)]) (st' := [.int (5 : Int32), .ref 674]) 3 rfl ?_
      refine db_RldI (pc' := 49) (lv1 := [(0, .ref 669), (1, .int v1), (2, .int v2), (3, .int v3)]) rfl rfl rfl fun x7 => ?_
      refine db_Rif (pc' := 52) (tg := 59) (lv1 := [(0, .ref 669), (1, .int v1), (2, .int v2), (3, .int v3)]) rfl rfl rfl rfl ?_ ?_
      · refine db_Rgo (pc' := 65) (lv' := [(6, .int (0 : Int32)), (4, .long (0 : Int64)), (0, .ref 669), (1, .int v1), (2, .int v2), (3, .int v3)]) (st' := []) 4 rfl ?_
        refine db_Rn (lv1 := [(0, .ref 669), (1, .int v1), (2, .int v2), (3, .int v3), (4, .long (0 : Int64)), (6, .int (0 : Int32))]) rfl rfl rfl ?_
        exact db_f363_b65_ok db_FU _ _ _ _ _ _
      refine db_Rgo (pc' := 55) (lv' := [(0, .ref 669), (1, .int v1), (2, .int v2), (3, .int v3)]) (st' := [.int (8 : Int32), .ref 669]) 2 rfl ?_
      refine db_RcdB (mr' := dbm_211) (as := [.ref 669, .int (8 : Int32)]) (rest := []) (pc' := 58) (lv1 := [(0, .ref 669), (1, .int v1), (2, .int v2), (3, .int v3)]) rfl rfl rfl rfl rfl (db_f211_ok) fun q8 s9 => ?_
      exact db_RretB (lv1 := [(0, .ref 669), (1, .int v1), (2, .int v2), (3, .int v3)]) rfl rfl rfl rfl
    refine db_Rgo (pc' := 39) (lv' := [(0, .ref 669), (1, .int v1), (2, .int v2), (3, .int v3)]) (st' := [.int (5 : Int32), .ref 669]) 2 rfl ?_
    refine db_RcdB (mr' := dbm_211) (as := [.ref 669, .int (5 : Int32)]) (rest := []) (pc' := 42) (lv1 := [(0, .ref 669), (1, .int v1), (2, .int v2), (3, .int v3)]) rfl rfl rfl rfl rfl (db_f211_ok) fun q10 s11 => ?_
    exact db_RretB (lv1 := [(0, .ref 669), (1, .int v1), (2, .int v2), (3, .int v3)]) rfl rfl rfl rfl
  refine db_Rgo (pc' := 21) (lv' := [(0, .ref 669), (1, .int v1), (2, .int v2), (3, .int v3)]) (st' := [.int (2 : Int32), .ref 669]) 2 rfl ?_
  refine db_RcdB (mr' := dbm_211) (as := [.ref 669, .int (2 : Int32)]) (rest := []) (pc' := 24) (lv1 := [(0, .ref 669), (1, .int v1), (2, .int v2), (3, .int v3)]) rfl rfl rfl rfl rfl (db_f211_ok) fun q12 s13 => ?_
  exact db_RretB (lv1 := [(0, .ref 669), (1, .int v1), (2, .int v2), (3, .int v3)]) rfl rfl rfl rfl
noncomputable def db_f192_b38 (r192 : Int32 → Int32 → Int32 → Option Int64) (s : db_S) : Nat → Int32 → Int32 → Int32 → Int64 → Int64 → Int32 → Option Int64
  | 0, _, _, _, _, _, _ => none
  | n + 1, v1, v2, v3, v4, v6, v8 =>
    (cond (db_cnd .gt v8 v2) (some v4) ((db_rI s 283 v1).bind fun x1 => ((r192 (v1 + (1 : Int32)) (v2 - v8) (v3 - (v8 * x1))).bind fun q2 => ((db_rI s 61 v1).bind fun x4 => (if (Int32.toInt64 (v8 + (1 : Int32))) = 0 then none else (db_f192_b38 r192 s n v1 v2 v3 (v4 + (v6 * q2)) (((v6 * (Int32.toInt64 (v2 - v8))) * (Int32.toInt64 x4)) / (Int32.toInt64 (v8 + (1 : Int32)))) (v8 + (1 : Int32))))))))
theorem db_f192_b38_ok {X : db_X} {d : Nat} {s : db_S} {r192 : Int32 → Int32 → Int32 → Option Int64} (z192 : ∀ (v1 : Int32) (v2 : Int32) (v3 : Int32) , db_Rf X (d + 0) dbm_192 0 (lv_args 0 [.ref 282, .int v1, .int v2, .int v3]) [] s (db_yL s) (r192 v1 v2 v3)) (n : Nat) : ∀ (v1 : Int32) (v2 : Int32) (v3 : Int32) (v4 : Int64) (v6 : Int64) (v8 : Int32), db_Rf X (d + 1) dbm_192 38 [(0, .ref 282), (1, .int v1), (2, .int v2), (3, .int v3), (4, .long v4), (6, .long v6), (8, .int v8)] [] s (db_yL s) (db_f192_b38 r192 s n v1 v2 v3 v4 v6 v8) := by
  induction n with
  | zero => intros; exact db_Rnone
  | succ n ih =>
    intro v1 v2 v3 v4 v6 v8
    unfold db_f192_b38
    refine db_Rgo (pc' := 41) (lv' := [(0, .ref 282), (1, .int v1), (2, .int v2), (3, .int v3), (4, .long v4), (6, .long v6), (8, .int v8)]) (st' := [.int v2, .int v8]) 2 rfl ?_
    refine db_Ric (pc' := 44) (tg := 107) (lv1 := [(0, .ref 282), (1, .int v1), (2, .int v2), (3, .int v3), (4, .long v4), (6, .long v6), (8, .int v8)]) rfl rfl rfl rfl ?_ ?_
    · refine db_Rgo (pc' := 109) (lv' := [(4, .long v4)]) (st' := [.long v4]) 1 rfl ?_
      exact db_Rret (lv1 := [(4, .long v4)]) rfl rfl rfl rfl
    refine db_Rgo (pc' := 64) (lv' := [(0, .ref 282), (1, .int v1), (2, .int v2), (3, .int v3), (4, .long v4), (6, .long v6), (8, .int v8)]) (st' := [.int v1, .ref 283, .int v8, .int v3, .int (v2 - v8), .int (v1 + (1 : Int32)), .ref 282, .long v6, .long v4]) 14 rfl ?_
    refine db_RldI (pc' := 65) (lv1 := [(0, .ref 282), (1, .int v1), (2, .int v2), (3, .int v3), (4, .long v4), (6, .long v6), (8, .int v8)]) rfl rfl rfl fun x1 => ?_
    refine db_Rgo (pc' := 67) (lv' := [(0, .ref 282), (1, .int v1), (2, .int v2), (3, .int v3), (4, .long v4), (6, .long v6), (8, .int v8)]) (st' := [.int (v3 - (v8 * x1)), .int (v2 - v8), .int (v1 + (1 : Int32)), .ref 282, .long v6, .long v4]) 2 rfl ?_
    refine db_RcyL (mr' := dbm_192) (as := [.ref 282, .int (v1 + (1 : Int32)), .int (v2 - v8), .int (v3 - (v8 * x1))]) (rest := [.long v6, .long v4]) (pc' := 70) (lv1 := [(0, .ref 282), (1, .int v1), (2, .int v2), (3, .int v3), (4, .long v4), (6, .long v6), (8, .int v8)]) rfl rfl rfl rfl rfl (z192 _ _ _) fun q2 => ?_
    refine db_Rgo (pc' := 90) (lv' := [(4, .long (v4 + (v6 * q2))), (0, .ref 282), (1, .int v1), (2, .int v2), (3, .int v3), (6, .long v6), (8, .int v8)]) (st' := [.int v1, .ref 61, .long (v6 * (Int32.toInt64 (v2 - v8)))]) 13 rfl ?_
    refine db_RldI (pc' := 91) (lv1 := [(4, .long (v4 + (v6 * q2))), (0, .ref 282), (1, .int v1), (2, .int v2), (3, .int v3), (6, .long v6), (8, .int v8)]) rfl rfl rfl fun x4 => ?_
    refine db_Rgo (pc' := 98) (lv' := [(4, .long (v4 + (v6 * q2))), (0, .ref 282), (1, .int v1), (2, .int v2), (3, .int v3), (6, .long v6), (8, .int v8)]) (st' := [.long (Int32.toInt64 (v8 + (1 : Int32))), .long ((v6 * (Int32.toInt64 (v2 - v8))) * (Int32.toInt64 x4))]) 6 rfl ?_
    refine db_RdivL (pc' := 99) (lv1 := [(4, .long (v4 + (v6 * q2))), (0, .ref 282), (1, .int v1), (2, .int v2), (3, .int v3), (6, .long v6), (8, .int v8)]) rfl rfl rfl ?_
    refine db_Rgo (pc' := 38) (lv' := [(8, .int (v8 + (1 : Int32))), (6, .long (((v6 * (Int32.toInt64 (v2 - v8))) * (Int32.toInt64 x4)) / (Int32.toInt64 (v8 + (1 : Int32))))), (4, .long (v4 + (v6 * q2))), (0, .ref 282), (1, .int v1), (2, .int v2), (3, .int v3)]) (st' := []) 3 rfl ?_
    refine db_Rn (lv1 := [(0, .ref 282), (1, .int v1), (2, .int v2), (3, .int v3), (4, .long (v4 + (v6 * q2))), (6, .long (((v6 * (Int32.toInt64 (v2 - v8))) * (Int32.toInt64 x4)) / (Int32.toInt64 (v8 + (1 : Int32))))), (8, .int (v8 + (1 : Int32)))]) rfl rfl rfl ?_
    exact ih _ _ _ _ _ _
/-- DreamBook$Odds.countWays(III)J -/
noncomputable def db_f192_e (r192 : Int32 → Int32 → Int32 → Option Int64) (s : db_S) (v1 : Int32) (v2 : Int32) (v3 : Int32) : Option Int64 :=
  (cond (db_cnd .ne v2 0) ((db_rI s 21 (5 : Int32)).bind fun x1 => (cond (db_cnd .lt v1 x1) (db_f192_b38 r192 s db_FU v1 v2 v3 (0 : Int64) (1 : Int64) (0 : Int32)) (some (0 : Int64)))) (cond (db_cnd .gt v3 0) (some (0 : Int64)) (some (1 : Int64))))
theorem db_f192_e_ok {X : db_X} {d : Nat} {s : db_S} {v1 : Int32} {v2 : Int32} {v3 : Int32} {r192 : Int32 → Int32 → Int32 → Option Int64} (z192 : ∀ (v1 : Int32) (v2 : Int32) (v3 : Int32) , db_Rf X (d + 0) dbm_192 0 (lv_args 0 [.ref 282, .int v1, .int v2, .int v3]) [] s (db_yL s) (r192 v1 v2 v3)) : db_Rf X (d + 1) dbm_192 0 (lv_args 0 [.ref 282, .int v1, .int v2, .int v3]) [] s (db_yL s) (db_f192_e r192 s v1 v2 v3) := by
  show db_Rf _ _ _ 0 [(0, .ref 282), (1, .int v1), (2, .int v2), (3, .int v3)] [] _ _ _
  unfold db_f192_e
  refine db_Rgo (pc' := 1) (lv' := [(0, .ref 282), (1, .int v1), (2, .int v2), (3, .int v3)]) (st' := [.int v2]) 1 rfl ?_
  refine db_Rif (pc' := 4) (tg := 14) (lv1 := [(0, .ref 282), (1, .int v1), (2, .int v2), (3, .int v3)]) rfl rfl rfl rfl ?_ ?_
  · refine db_Rgo (pc' := 23) (lv' := [(0, .ref 282), (1, .int v1), (2, .int v2), (3, .int v3)]) (st' := [.int (5 : Int32), .ref 21, .int v1]) 5 rfl ?_
    refine db_RldI (pc' := 24) (lv1 := [(0, .ref 282), (1, .int v1), (2, .int v2), (3, .int v3)]) rfl rfl rfl fun x1 => ?_
    refine db_Ric (pc' := 27) (tg := 29) (lv1 := [(0, .ref 282), (1, .int v1), (2, .int v2), (3, .int v3)]) rfl rfl rfl rfl ?_ ?_
    · refine db_Rgo (pc' := 38) (lv' := [(8, .int (0 : Int32)), (6, .long (1 : Int64)), (4, .long (0 : Int64)), (0, .ref 282), (1, .int v1), (2, .int v2), (3, .int v3)]) (st' := []) 6 rfl ?_
      refine db_Rn (lv1 := [(0, .ref 282), (1, .int v1), (2, .int v2), (3, .int v3), (4, .long (0 : Int64)), (6, .long (1 : Int64)), (8, .int (0 : Int32))]) rfl rfl rfl ?_
      exact db_f192_b38_ok z192 db_FU _ _ _ _ _ _
    refine db_Rgo (pc' := 28) (lv' := [(0, .ref 282), (1, .int v1), (2, .int v2), (3, .int v3)]) (st' := [.long (0 : Int64)]) 1 rfl ?_
    exact db_Rret (lv1 := [(0, .ref 282), (1, .int v1), (2, .int v2), (3, .int v3)]) rfl rfl rfl rfl
  refine db_Rgo (pc' := 5) (lv' := [(0, .ref 282), (1, .int v1), (2, .int v2), (3, .int v3)]) (st' := [.int v3]) 1 rfl ?_
  refine db_Rif (pc' := 8) (tg := 12) (lv1 := [(0, .ref 282), (1, .int v1), (2, .int v2), (3, .int v3)]) rfl rfl rfl rfl ?_ ?_
  · refine db_Rgo (pc' := 13) (lv' := []) (st' := [.long (0 : Int64)]) 1 rfl ?_
    exact db_Rret (lv1 := []) rfl rfl rfl rfl
  refine db_Rgo (pc' := 13) (lv' := [(0, .ref 282), (1, .int v1), (2, .int v2), (3, .int v3)]) (st' := [.long (1 : Int64)]) 2 rfl ?_
  exact db_Rret (lv1 := []) rfl rfl rfl rfl
noncomputable def db_f192 (s : db_S) : Nat → Int32 → Int32 → Int32 → Option Int64
  | 0, _, _, _ => none
  | n + 1, v1, v2, v3 => db_f192_e (db_f192 s n) s v1 v2 v3
theorem db_f192_ok {X : db_X} {s : db_S} : ∀ (n e : Nat), 1 + 1 * n ≤ e → ∀ (v1 : Int32) (v2 : Int32) (v3 : Int32) , db_Rf X e dbm_192 0 (lv_args 0 [.ref 282, .int v1, .int v2, .int v3]) [] s (db_yL s) (db_f192 s n v1 v2 v3)
  | 0, _, _ => by
    intros
    exact db_Rnone
  | n + 1, e, he => by
    intro v1 v2 v3
    obtain ⟨d, rfl⟩ : ∃ d, e = d + 1 := ⟨e - 1, by omega⟩
    exact db_f192_e_ok (d := d) (fun _ _ _  => db_f192_ok n (d + 0) (by omega) _ _ _)
noncomputable def db_f191_b34 : Nat → db_S → Int32 → Int32 → Int32 → Int32 → Int64 → Int32 → Option db_S
  | 0, _, _, _, _, _, _, _ => none
  | n + 1, s, v1, v2, v3, v4, v5, v7 =>
    ((db_rI s 21 (5 : Int32)).bind fun x1 => (cond (db_cnd .ge v7 x1) ((db_f192 s db_FR (0 : Int32) v1 v2).bind fun q2 => ((db_f189 s q2 v5).bind fun s5 => (some s5))) (db_bd (db_f127 s v7 v3 v4) fun q6 s7 => ((db_wI s7 283 v7 q6).bind fun s8 => (db_f191_b34 n s8 v1 v2 v3 v4 v5 (v7 + (1 : Int32)))))))
theorem db_f191_b34_ok {X : db_X} {d : Nat}  (n : Nat) : ∀ (s : db_S) (v1 : Int32) (v2 : Int32) (v3 : Int32) (v4 : Int32) (v5 : Int64) (v7 : Int32), db_Rf X (d + 14) dbm_191 34 [(0, .ref 282), (1, .int v1), (2, .int v2), (3, .int v3), (4, .int v4), (5, .long v5), (7, .int v7)] [] s db_zV (db_f191_b34 n s v1 v2 v3 v4 v5 v7) := by
  induction n with
  | zero => intros; exact db_Rnone
  | succ n ih =>
    intro s v1 v2 v3 v4 v5 v7
    unfold db_f191_b34
    refine db_Rgo (pc' := 44) (lv' := [(0, .ref 282), (1, .int v1), (2, .int v2), (3, .int v3), (4, .int v4), (5, .long v5), (7, .int v7)]) (st' := [.int (5 : Int32), .ref 21, .int v7]) 5 rfl ?_
    refine db_RldI (pc' := 45) (lv1 := [(0, .ref 282), (1, .int v1), (2, .int v2), (3, .int v3), (4, .int v4), (5, .long v5), (7, .int v7)]) rfl rfl rfl fun x1 => ?_
    refine db_Ric (pc' := 48) (tg := 73) (lv1 := [(0, .ref 282), (1, .int v1), (2, .int v2), (3, .int v3), (4, .int v4), (5, .long v5), (7, .int v7)]) rfl rfl rfl rfl ?_ ?_
    · refine db_Rgo (pc' := 78) (lv' := [(0, .ref 282), (1, .int v1), (2, .int v2), (5, .long v5)]) (st' := [.int v2, .int v1, .int (0 : Int32), .ref 282, .ref 282]) 5 rfl ?_
      refine db_RcyL (mr' := dbm_192) (as := [.ref 282, .int (0 : Int32), .int v1, .int v2]) (rest := [.ref 282]) (pc' := 81) (lv1 := [(0, .ref 282), (1, .int v1), (2, .int v2), (5, .long v5)]) rfl rfl rfl rfl rfl (db_f192_ok db_FR _ (by unfold db_FR; omega) _ _ _) fun q2 => ?_
      refine db_Rgo (pc' := 83) (lv' := [(0, .ref 282), (1, .int v1), (2, .int v2), (5, .long v5)]) (st' := [.long v5, .long q2, .ref 282]) 1 rfl ?_
      refine db_RcV (mr' := dbm_189) (as := [.ref 282, .long q2, .long v5]) (rest := []) (pc' := 86) (lv1 := [(0, .ref 282), (1, .int v1), (2, .int v2), (5, .long v5)]) rfl rfl rfl rfl rfl (db_f189_ok) fun s5 => ?_
      exact db_Rret (lv1 := [(0, .ref 282), (1, .int v1), (2, .int v2), (5, .long v5)]) rfl rfl rfl rfl
    refine db_Rgo (pc' := 63) (lv' := [(0, .ref 282), (1, .int v1), (2, .int v2), (3, .int v3), (4, .int v4), (5, .long v5), (7, .int v7)]) (st' := [.int v4, .int v3, .int v7, .ref 271, .int v7, .ref 283]) 8 rfl ?_
    refine db_RcdI (mr' := dbm_127) (as := [.ref 271, .int v7, .int v3, .int v4]) (rest := [.int v7, .ref 283]) (pc' := 66) (lv1 := [(0, .ref 282), (1, .int v1), (2, .int v2), (3, .int v3), (4, .int v4), (5, .long v5), (7, .int v7)]) rfl rfl rfl rfl rfl (db_f127_ok) fun q6 s7 => ?_
    refine db_RstI (pc' := 67) (lv1 := [(0, .ref 282), (1, .int v1), (2, .int v2), (3, .int v3), (4, .int v4), (5, .long v5), (7, .int v7)]) rfl rfl rfl fun s8 => ?_
    refine db_Rgo (pc' := 34) (lv' := [(7, .int (v7 + (1 : Int32))), (0, .ref 282), (1, .int v1), (2, .int v2), (3, .int v3), (4, .int v4), (5, .long v5)]) (st' := []) 2 rfl ?_
    refine db_Rn (lv1 := [(0, .ref 282), (1, .int v1), (2, .int v2), (3, .int v3), (4, .int v4), (5, .long v5), (7, .int (v7 + (1 : Int32)))]) rfl rfl rfl ?_
    exact ih _ _ _ _ _ _ _
noncomputable def db_f191_b6 : Nat → db_S → Int32 → Int32 → Int32 → Int32 → Int64 → Int32 → Option db_S
  | 0, _, _, _, _, _, _, _ => none
  | n + 1, s, v1, v2, v3, v4, v5, v7 =>
    (cond (db_cnd .ge v7 v1) (db_f191_b34 db_FU s v1 v2 v3 v4 v5 (0 : Int32)) ((db_f100_20 s).bind fun q1 => (db_f191_b6 n s v1 v2 v3 v4 (v5 * (Int32.toInt64 q1)) (v7 + (1 : Int32)))))
theorem db_f191_b6_ok {X : db_X} {d : Nat}  (n : Nat) : ∀ (s : db_S) (v1 : Int32) (v2 : Int32) (v3 : Int32) (v4 : Int32) (v5 : Int64) (v7 : Int32), db_Rf X (d + 14) dbm_191 6 [(0, .ref 282), (1, .int v1), (2, .int v2), (3, .int v3), (4, .int v4), (5, .long v5), (7, .int v7)] [] s db_zV (db_f191_b6 n s v1 v2 v3 v4 v5 v7) := by
  induction n with
  | zero => intros; exact db_Rnone
  | succ n ih =>
    intro s v1 v2 v3 v4 v5 v7
    unfold db_f191_b6
    refine db_Rgo (pc' := 9) (lv' := [(0, .ref 282), (1, .int v1), (2, .int v2), (3, .int v3), (4, .int v4), (5, .long v5), (7, .int v7)]) (st' := [.int v1, .int v7]) 2 rfl ?_
    refine db_Ric (pc' := 12) (tg := 31) (lv1 := [(0, .ref 282), (1, .int v1), (2, .int v2), (3, .int v3), (4, .int v4), (5, .long v5), (7, .int v7)]) rfl rfl rfl rfl ?_ ?_
    · refine db_Rgo (pc' := 34) (lv' := [(7, .int (0 : Int32)), (0, .ref 282), (1, .int v1), (2, .int v2), (3, .int v3), (4, .int v4), (5, .long v5)]) (st' := []) 2 rfl ?_
      refine db_Rn (lv1 := [(0, .ref 282), (1, .int v1), (2, .int v2), (3, .int v3), (4, .int v4), (5, .long v5), (7, .int (0 : Int32))]) rfl rfl rfl ?_
      exact db_f191_b34_ok db_FU _ _ _ _ _ _ _
    refine db_Rgo (pc' := 18) (lv' := [(0, .ref 282), (1, .int v1), (2, .int v2), (3, .int v3), (4, .int v4), (5, .long v5), (7, .int v7)]) (st' := [.ref 20, .long v5]) 3 rfl ?_
    refine db_RcyI (mr' := dbm_100) (as := [.ref 20]) (rest := [.long v5]) (pc' := 21) (lv1 := [(0, .ref 282), (1, .int v1), (2, .int v2), (3, .int v3), (4, .int v4), (5, .long v5), (7, .int v7)]) rfl rfl rfl rfl rfl (db_f100_20_ok) fun q1 => ?_
    refine db_Rgo (pc' := 6) (lv' := [(7, .int (v7 + (1 : Int32))), (5, .long (v5 * (Int32.toInt64 q1))), (0, .ref 282), (1, .int v1), (2, .int v2), (3, .int v3), (4, .int v4)]) (st' := []) 5 rfl ?_
    refine db_Rn (lv1 := [(0, .ref 282), (1, .int v1), (2, .int v2), (3, .int v3), (4, .int v4), (5, .long (v5 * (Int32.toInt64 q1))), (7, .int (v7 + (1 : Int32)))]) rfl rfl rfl ?_
    exact ih _ _ _ _ _ _ _
/-- DreamBook$Odds.tellOdds(IIII)V -/
noncomputable def db_f191 (s : db_S) (v1 : Int32) (v2 : Int32) (v3 : Int32) (v4 : Int32) : Option db_S :=
  (db_f191_b6 db_FU s v1 v2 v3 v4 (1 : Int64) (0 : Int32))
theorem db_f191_ok {X : db_X} {d : Nat} {s : db_S} {v1 : Int32} {v2 : Int32} {v3 : Int32} {v4 : Int32} : db_Rf X (d + 14) dbm_191 0 (lv_args 0 [.ref 282, .int v1, .int v2, .int v3, .int v4]) [] s db_zV (db_f191 s v1 v2 v3 v4) := by
  show db_Rf _ _ _ 0 [(0, .ref 282), (1, .int v1), (2, .int v2), (3, .int v3), (4, .int v4)] [] _ _ _
  unfold db_f191
  refine db_Rgo (pc' := 6) (lv' := [(7, .int (0 : Int32)), (5, .long (1 : Int64)), (0, .ref 282), (1, .int v1), (2, .int v2), (3, .int v3), (4, .int v4)]) (st' := []) 4 rfl ?_
  refine db_Rn (lv1 := [(0, .ref 282), (1, .int v1), (2, .int v2), (3, .int v3), (4, .int v4), (5, .long (1 : Int64)), (7, .int (0 : Int32))]) rfl rfl rfl ?_
  exact db_f191_b6_ok db_FU _ _ _ _ _ _ _
/-- DreamBook.atLeast(IIII)Z -/
noncomputable def db_f190 (s : db_S) (v1 : Int32) (v2 : Int32) (v3 : Int32) (v4 : Int32) : Option (Bool × db_S) :=
  ((db_f187 s v1 v2 v3 v4).bind fun q1 => (cond (db_cnd .eq q1 0) ((db_f191 s v1 v2 v3 v4).bind fun s4 => (db_bd (db_f31 s4) fun q5 s6 => (some (q5, s6)))) (db_bd (db_f28 s q1) fun q7 s8 => (some (q7, s8)))))
theorem db_f190_ok {X : db_X} {d : Nat} {s : db_S} {v1 : Int32} {v2 : Int32} {v3 : Int32} {v4 : Int32} : db_Rf X (d + 15) dbm_190 0 (lv_args 0 [.ref 4, .int v1, .int v2, .int v3, .int v4]) [] s db_zB (db_f190 s v1 v2 v3 v4) := by
  show db_Rf _ _ _ 0 [(0, .ref 4), (1, .int v1), (2, .int v2), (3, .int v3), (4, .int v4)] [] _ _ _
  unfold db_f190
  refine db_Rgo (pc' := 6) (lv' := [(0, .ref 4), (1, .int v1), (2, .int v2), (3, .int v3), (4, .int v4)]) (st' := [.int v4, .int v3, .int v2, .int v1, .ref 4]) 5 rfl ?_
  refine db_RcyI (mr' := dbm_187) (as := [.ref 4, .int v1, .int v2, .int v3, .int v4]) (rest := []) (pc' := 9) (lv1 := [(0, .ref 4), (1, .int v1), (2, .int v2), (3, .int v3), (4, .int v4)]) rfl rfl rfl rfl rfl (db_f187_ok) fun q1 => ?_
  refine db_Rgo (pc' := 13) (lv' := [(5, .int q1), (0, .ref 4), (1, .int v1), (2, .int v2), (3, .int v3), (4, .int v4)]) (st' := [.int q1]) 2 rfl ?_
  refine db_Rif (pc' := 16) (tg := 23) (lv1 := [(5, .int q1), (0, .ref 4), (1, .int v1), (2, .int v2), (3, .int v3), (4, .int v4)]) rfl rfl rfl rfl ?_ ?_
  · refine db_Rgo (pc' := 32) (lv' := [(0, .ref 4), (1, .int v1), (2, .int v2), (3, .int v3), (4, .int v4)]) (st' := [.int v4, .int v3, .int v2, .int v1, .ref 282]) 6 rfl ?_
    refine db_RcV (mr' := dbm_191) (as := [.ref 282, .int v1, .int v2, .int v3, .int v4]) (rest := []) (pc' := 35) (lv1 := [(0, .ref 4), (1, .int v1), (2, .int v2), (3, .int v3), (4, .int v4)]) rfl rfl rfl rfl rfl (db_f191_ok) fun s4 => ?_
    refine db_Rgo (pc' := 36) (lv' := [(0, .ref 4), (1, .int v1), (2, .int v2), (3, .int v3), (4, .int v4)]) (st' := [.ref 4]) 1 rfl ?_
    refine db_RcdB (mr' := dbm_31) (as := [.ref 4]) (rest := []) (pc' := 39) (lv1 := [(0, .ref 4), (1, .int v1), (2, .int v2), (3, .int v3), (4, .int v4)]) rfl rfl rfl rfl rfl (db_f31_ok) fun q5 s6 => ?_
    exact db_RretB (lv1 := [(0, .ref 4), (1, .int v1), (2, .int v2), (3, .int v3), (4, .int v4)]) rfl rfl rfl rfl
  refine db_Rgo (pc' := 19) (lv' := [(5, .int q1), (0, .ref 4), (1, .int v1), (2, .int v2), (3, .int v3), (4, .int v4)]) (st' := [.int q1, .ref 4]) 2 rfl ?_
  refine db_RcdB (mr' := dbm_28) (as := [.ref 4, .int q1]) (rest := []) (pc' := 22) (lv1 := [(5, .int q1), (0, .ref 4), (1, .int v1), (2, .int v2), (3, .int v3), (4, .int v4)]) rfl rfl rfl rfl rfl (db_f28_ok) fun q7 s8 => ?_
  exact db_RretB (lv1 := [(5, .int q1), (0, .ref 4), (1, .int v1), (2, .int v2), (3, .int v3), (4, .int v4)]) rfl rfl rfl rfl
noncomputable def db_f365_b52 (s : db_S) : Option (Bool × db_S) :=
  (db_bd (db_f211 s (5 : Int32)) fun q1 s2 => (some (q1, s2)))
theorem db_f365_b52_ok {X : db_X} {d : Nat}  {s : db_S} : db_Rf X (d + 5) dbm_365 52 [(0, .ref 669)] [] s db_zB (db_f365_b52 s ) := by
  unfold db_f365_b52
  refine db_Rgo (pc' := 54) (lv' := [(0, .ref 669)]) (st' := [.int (5 : Int32), .ref 669]) 2 rfl ?_
  refine db_RcdB (mr' := dbm_211) (as := [.ref 669, .int (5 : Int32)]) (rest := []) (pc' := 57) (lv1 := [(0, .ref 669)]) rfl rfl rfl rfl rfl (db_f211_ok) fun q1 s2 => ?_
  exact db_RretB (lv1 := [(0, .ref 669)]) rfl rfl rfl rfl
noncomputable def db_f365_b106 (h77 : db_S → Int32 → Int32 → Int32 → Int32 → Int32 → Option (Bool × db_S)) (s : db_S) (v1 : Int32) (v2 : Int32) (v3 : Int32) (v4 : Int32) (v5 : Int32) (t1 : Int32) (t2 : Int64) : Option (Bool × db_S) :=
  ((db_wL s 681 t1 t2).bind fun s1 => (h77 s1 v1 v2 v3 v4 (v5 + (1 : Int32))))
theorem db_f365_b106_ok {X : db_X} {d : Nat}  {h77 : db_S → Int32 → Int32 → Int32 → Int32 → Int32 → Option (Bool × db_S)} {s : db_S} {v1 : Int32} {v2 : Int32} {v3 : Int32} {v4 : Int32} {v5 : Int32} {t1 : Int32} {t2 : Int64} (zh77 : ∀ (s' : db_S) (v1 : Int32) (v2 : Int32) (v3 : Int32) (v4 : Int32) (v5 : Int32) , db_Rf X (d + 5) dbm_365 77 [(0, .ref 669), (1, .int v1), (2, .int v2), (3, .int v3), (4, .int v4), (5, .int v5)] [] s' db_zB (h77 s' v1 v2 v3 v4 v5)) : db_Rf X (d + 5) dbm_365 106 [(0, .ref 669), (1, .int v1), (2, .int v2), (3, .int v3), (4, .int v4), (5, .int v5)] [.long t2, .int t1, .ref 681] s db_zB (db_f365_b106 h77 s v1 v2 v3 v4 v5 t1 t2) := by
  unfold db_f365_b106
  refine db_RstL (pc' := 107) (lv1 := [(0, .ref 669), (1, .int v1), (2, .int v2), (3, .int v3), (4, .int v4), (5, .int v5)]) rfl rfl rfl fun s1 => ?_
  refine db_Rgo (pc' := 77) (lv' := [(5, .int (v5 + (1 : Int32))), (0, .ref 669), (1, .int v1), (2, .int v2), (3, .int v3), (4, .int v4)]) (st' := []) 2 rfl ?_
  refine db_Rn (lv1 := [(0, .ref 669), (1, .int v1), (2, .int v2), (3, .int v3), (4, .int v4), (5, .int (v5 + (1 : Int32)))]) rfl rfl rfl ?_
  exact zh77 _ _ _ _ _ _
noncomputable def db_f365_b245 (h116 : db_S → Int32 → Int32 → Int32 → Int32 → Int32 → Option (Bool × db_S)) (h152 : db_S → Int32 → Int32 → Int32 → Int32 → Int32 → Int32 → Option (Bool × db_S)) (s : db_S) (v1 : Int32) (v2 : Int32) (v3 : Int32) (v4 : Int32) (v5 : Int32) (v6 : Int32) : Option (Bool × db_S) :=
  (h152 s v1 v2 v3 v4 v5 (v6 + (1 : Int32)))
theorem db_f365_b245_ok {X : db_X} {d : Nat}  {h116 : db_S → Int32 → Int32 → Int32 → Int32 → Int32 → Option (Bool × db_S)} {h152 : db_S → Int32 → Int32 → Int32 → Int32 → Int32 → Int32 → Option (Bool × db_S)} {s : db_S} {v1 : Int32} {v2 : Int32} {v3 : Int32} {v4 : Int32} {v5 : Int32} {v6 : Int32} (zh116 : ∀ (s' : db_S) (v1 : Int32) (v2 : Int32) (v3 : Int32) (v4 : Int32) (v5 : Int32) , db_Rf X (d + 5) dbm_365 116 [(0, .ref 669), (1, .int v1), (2, .int v2), (3, .int v3), (4, .int v4), (5, .int v5)] [] s' db_zB (h116 s' v1 v2 v3 v4 v5)) (zh152 : ∀ (s' : db_S) (v1 : Int32) (v2 : Int32) (v3 : Int32) (v4 : Int32) (v5 : Int32) (v6 : Int32) , db_Rf X (d + 5) dbm_365 152 [(0, .ref 669), (1, .int v1), (2, .int v2), (3, .int v3), (4, .int v4), (5, .int v5), (6, .int v6)] [] s' db_zB (h152 s' v1 v2 v3 v4 v5 v6)) : db_Rf X (d + 5) dbm_365 245 [(0, .ref 669), (1, .int v1), (2, .int v2), (3, .int v3), (4, .int v4), (5, .int v5), (6, .int v6)] [] s db_zB (db_f365_b245 h116 h152 s v1 v2 v3 v4 v5 v6) := by
  unfold db_f365_b245
  refine db_Rgo (pc' := 152) (lv' := [(6, .int (v6 + (1 : Int32))), (0, .ref 669), (1, .int v1), (2, .int v2), (3, .int v3), (4, .int v4), (5, .int v5)]) (st' := []) 2 rfl ?_
  refine db_Rn (lv1 := [(0, .ref 669), (1, .int v1), (2, .int v2), (3, .int v3), (4, .int v4), (5, .int v5), (6, .int (v6 + (1 : Int32)))]) rfl rfl rfl ?_
  exact zh152 _ _ _ _ _ _ _
noncomputable def db_f365_b183 (h116 : db_S → Int32 → Int32 → Int32 → Int32 → Int32 → Option (Bool × db_S)) (h152 : db_S → Int32 → Int32 → Int32 → Int32 → Int32 → Int32 → Option (Bool × db_S)) : Nat → db_S → Int32 → Int32 → Int32 → Int32 → Int32 → Int32 → Int32 → Int32 → Option (Bool × db_S)
  | 0, _, _, _, _, _, _, _, _, _ => none
  | n + 1, s, v1, v2, v3, v4, v5, v6, v7, v8 =>
    (cond (db_cnd .ge v8 (7201 : Int32)) (db_f365_b245 h116 h152 s v1 v2 v3 v4 v5 v6) (cond (db_cnd .ge (v8 + v7) (7201 : Int32)) (db_f365_b245 h116 h152 s v1 v2 v3 v4 v5 v6) ((db_rL s 682 (v8 + v7)).bind fun x1 => ((db_rL s 681 v8).bind fun x2 => ((db_rI s 674 ((143 : Int32) + v6)).bind fun x3 => ((db_wL s 682 (v8 + v7) (x1 + (x2 * (Int32.toInt64 x3)))).bind fun s4 => (db_f365_b183 h116 h152 n s4 v1 v2 v3 v4 v5 v6 v7 (v8 + (1 : Int32)))))))))
theorem db_f365_b183_ok {X : db_X} {d : Nat}  {h116 : db_S → Int32 → Int32 → Int32 → Int32 → Int32 → Option (Bool × db_S)} {h152 : db_S → Int32 → Int32 → Int32 → Int32 → Int32 → Int32 → Option (Bool × db_S)} (zh116 : ∀ (s' : db_S) (v1 : Int32) (v2 : Int32) (v3 : Int32) (v4 : Int32) (v5 : Int32) , db_Rf X (d + 5) dbm_365 116 [(0, .ref 669), (1, .int v1), (2, .int v2), (3, .int v3), (4, .int v4), (5, .int v5)] [] s' db_zB (h116 s' v1 v2 v3 v4 v5)) (zh152 : ∀ (s' : db_S) (v1 : Int32) (v2 : Int32) (v3 : Int32) (v4 : Int32) (v5 : Int32) (v6 : Int32) , db_Rf X (d + 5) dbm_365 152 [(0, .ref 669), (1, .int v1), (2, .int v2), (3, .int v3), (4, .int v4), (5, .int v5), (6, .int v6)] [] s' db_zB (h152 s' v1 v2 v3 v4 v5 v6)) (n : Nat) : ∀ (s : db_S) (v1 : Int32) (v2 : Int32) (v3 : Int32) (v4 : Int32) (v5 : Int32) (v6 : Int32) (v7 : Int32) (v8 : Int32), db_Rf X (d + 5) dbm_365 183 [(0, .ref 669), (1, .int v1), (2, .int v2), (3, .int v3), (4, .int v4), (5, .int v5), (6, .int v6), (7, .int v7), (8, .int v8)] [] s db_zB (db_f365_b183 h116 h152 n s v1 v2 v3 v4 v5 v6 v7 v8) := by
  induction n with
  | zero => intros; exact db_Rnone
  | succ n ih =>
    intro s v1 v2 v3 v4 v5 v6 v7 v8
    unfold db_f365_b183
    refine db_Rgo (pc' := 189) (lv' := [(0, .ref 669), (1, .int v1), (2, .int v2), (3, .int v3), (4, .int v4), (5, .int v5), (6, .int v6), (7, .int v7), (8, .int v8)]) (st' := [.ref 681, .int v8]) 3 rfl ?_
    refine db_RlenK (n := (7201 : Int32)) (pc' := 190) (lv1 := [(0, .ref 669), (1, .int v1), (2, .int v2), (3, .int v3), (4, .int v4), (5, .int v5), (6, .int v6), (7, .int v7), (8, .int v8)]) rfl rfl rfl rfl ?_
    refine db_Ric (pc' := 193) (tg := 245) (lv1 := [(0, .ref 669), (1, .int v1), (2, .int v2), (3, .int v3), (4, .int v4), (5, .int v5), (6, .int v6), (7, .int v7), (8, .int v8)]) rfl rfl rfl rfl ?_ ?_
    · refine db_Rn (lv1 := [(0, .ref 669), (1, .int v1), (2, .int v2), (3, .int v3), (4, .int v4), (5, .int v5), (6, .int v6)]) rfl rfl rfl ?_
      exact db_f365_b245_ok zh116 zh152
    refine db_Rgo (pc' := 202) (lv' := [(0, .ref 669), (1, .int v1), (2, .int v2), (3, .int v3), (4, .int v4), (5, .int v5), (6, .int v6), (7, .int v7), (8, .int v8)]) (st' := [.ref 681, .int (v8 + v7)]) 5 rfl ?_
    refine db_RlenK (n := (7201 : Int32)) (pc' := 203) (lv1 := [(0, .ref 669), (1, .int v1), (2, .int v2), (3, .int v3), (4, .int v4), (5, .int v5), (6, .int v6), (7, .int v7), (8, .int v8)]) rfl rfl rfl rfl ?_
    refine db_Ric (pc' := 206) (tg := 245) (lv1 := [(0, .ref 669), (1, .int v1), (2, .int v2), (3, .int v3), (4, .int v4), (5, .int v5), (6, .int v6), (7, .int v7), (8, .int v8)]) rfl rfl rfl rfl ?_ ?_
    · refine db_Rn (lv1 := [(0, .ref 669), (1, .int v1), (2, .int v2), (3, .int v3), (4, .int v4), (5, .int v5), (6, .int v6)]) rfl rfl rfl ?_
      exact db_f365_b245_ok zh116 zh152
    refine db_Rgo (pc' := 216) (lv' := [(0, .ref 669), (1, .int v1), (2, .int v2), (3, .int v3), (4, .int v4), (5, .int v5), (6, .int v6), (7, .int v7), (8, .int v8)]) (st' := [.int (v8 + v7), .ref 682, .int (v8 + v7), .ref 682]) 6 rfl ?_
    refine db_RldL (pc' := 217) (lv1 := [(0, .ref 669), (1, .int v1), (2, .int v2), (3, .int v3), (4, .int v4), (5, .int v5), (6, .int v6), (7, .int v7), (8, .int v8)]) rfl rfl rfl fun x1 => ?_
    refine db_Rgo (pc' := 223) (lv' := [(0, .ref 669), (1, .int v1), (2, .int v2), (3, .int v3), (4, .int v4), (5, .int v5), (6, .int v6), (7, .int v7), (8, .int v8)]) (st' := [.int v8, .ref 681, .long x1, .int (v8 + v7), .ref 682]) 3 rfl ?_
    refine db_RldL (pc' := 224) (lv1 := [(0, .ref 669), (1, .int v1), (2, .int v2), (3, .int v3), (4, .int v4), (5, .int v5), (6, .int v6), (7, .int v7), (8, .int v8)]) rfl rfl rfl fun x2 => ?_
    refine db_Rgo (pc' := 234) (lv' := [(0, .ref 669), (1, .int v1), (2, .int v2), (3, .int v3), (4, .int v4), (5, .int v5), (6, .int v6), (7, .int v7), (8, .int v8)]) (st' := [.int ((143 : Int32) + v6), .ref 674, .long x2, .long x1, .int (v8 + v7), .ref 682]) 5 rfl ?_
    refine db_RldI (pc' := 235) (lv1 := [(0, .ref 669), (1, .int v1), (2, .int v2), (3, .int v3), (4, .int v4), (5, .int v5), (6, .int v6), (7, .int v7), (8, .int v8)]) rfl rfl rfl fun x3 => ?_
    refine db_Rgo (pc' := 238) (lv' := [(0, .ref 669), (1, .int v1), (2, .int v2), (3, .int v3), (4, .int v4), (5, .int v5), (6, .int v6), (7, .int v7), (8, .int v8)]) (st' := [.long (x1 + (x2 * (Int32.toInt64 x3))), .int (v8 + v7), .ref 682]) 3 rfl ?_
    refine db_RstL (pc' := 239) (lv1 := [(0, .ref 669), (1, .int v1), (2, .int v2), (3, .int v3), (4, .int v4), (5, .int v5), (6, .int v6), (7, .int v7), (8, .int v8)]) rfl rfl rfl fun s4 => ?_
    refine db_Rgo (pc' := 183) (lv' := [(8, .int (v8 + (1 : Int32))), (0, .ref 669), (1, .int v1), (2, .int v2), (3, .int v3), (4, .int v4), (5, .int v5), (6, .int v6), (7, .int v7)]) (st' := []) 2 rfl ?_
    refine db_Rn (lv1 := [(0, .ref 669), (1, .int v1), (2, .int v2), (3, .int v3), (4, .int v4), (5, .int v5), (6, .int v6), (7, .int v7), (8, .int (v8 + (1 : Int32)))]) rfl rfl rfl ?_
    exact ih _ _ _ _ _ _ _ _ _
noncomputable def db_f365_b254 (h116 : db_S → Int32 → Int32 → Int32 → Int32 → Int32 → Option (Bool × db_S)) : Nat → db_S → Int32 → Int32 → Int32 → Int32 → Int32 → Int32 → Option (Bool × db_S)
  | 0, _, _, _, _, _, _, _ => none
  | n + 1, s, v1, v2, v3, v4, v5, v6 =>
    (cond (db_cnd .ge v6 (7201 : Int32)) (h116 s v1 v2 v3 v4 (v5 + (1 : Int32))) ((db_rL s 682 v6).bind fun x1 => ((db_wL s 681 v6 x1).bind fun s2 => (db_f365_b254 h116 n s2 v1 v2 v3 v4 v5 (v6 + (1 : Int32))))))
theorem db_f365_b254_ok {X : db_X} {d : Nat}  {h116 : db_S → Int32 → Int32 → Int32 → Int32 → Int32 → Option (Bool × db_S)} (zh116 : ∀ (s' : db_S) (v1 : Int32) (v2 : Int32) (v3 : Int32) (v4 : Int32) (v5 : Int32) , db_Rf X (d + 5) dbm_365 116 [(0, .ref 669), (1, .int v1), (2, .int v2), (3, .int v3), (4, .int v4), (5, .int v5)] [] s' db_zB (h116 s' v1 v2 v3 v4 v5)) (n : Nat) : ∀ (s : db_S) (v1 : Int32) (v2 : Int32) (v3 : Int32) (v4 : Int32) (v5 : Int32) (v6 : Int32), db_Rf X (d + 5) dbm_365 254 [(0, .ref 669), (1, .int v1), (2, .int v2), (3, .int v3), (4, .int v4), (5, .int v5), (6, .int v6)] [] s db_zB (db_f365_b254 h116 n s v1 v2 v3 v4 v5 v6) := by
  induction n with
  | zero => intros; exact db_Rnone
  | succ n ih =>
    intro s v1 v2 v3 v4 v5 v6
    unfold db_f365_b254
    refine db_Rgo (pc' := 260) (lv' := [(0, .ref 669), (1, .int v1), (2, .int v2), (3, .int v3), (4, .int v4), (5, .int v5), (6, .int v6)]) (st' := [.ref 681, .int v6]) 3 rfl ?_
    refine db_RlenK (n := (7201 : Int32)) (pc' := 261) (lv1 := [(0, .ref 669), (1, .int v1), (2, .int v2), (3, .int v3), (4, .int v4), (5, .int v5), (6, .int v6)]) rfl rfl rfl rfl ?_
    refine db_Ric (pc' := 264) (tg := 284) (lv1 := [(0, .ref 669), (1, .int v1), (2, .int v2), (3, .int v3), (4, .int v4), (5, .int v5), (6, .int v6)]) rfl rfl rfl rfl ?_ ?_
    · refine db_Rgo (pc' := 116) (lv' := [(5, .int (v5 + (1 : Int32))), (0, .ref 669), (1, .int v1), (2, .int v2), (3, .int v3), (4, .int v4)]) (st' := []) 2 rfl ?_
      refine db_Rn (lv1 := [(0, .ref 669), (1, .int v1), (2, .int v2), (3, .int v3), (4, .int v4), (5, .int (v5 + (1 : Int32)))]) rfl rfl rfl ?_
      exact zh116 _ _ _ _ _ _
    refine db_Rgo (pc' := 276) (lv' := [(0, .ref 669), (1, .int v1), (2, .int v2), (3, .int v3), (4, .int v4), (5, .int v5), (6, .int v6)]) (st' := [.int v6, .ref 682, .int v6, .ref 681]) 6 rfl ?_
    refine db_RldL (pc' := 277) (lv1 := [(0, .ref 669), (1, .int v1), (2, .int v2), (3, .int v3), (4, .int v4), (5, .int v5), (6, .int v6)]) rfl rfl rfl fun x1 => ?_
    refine db_RstL (pc' := 278) (lv1 := [(0, .ref 669), (1, .int v1), (2, .int v2), (3, .int v3), (4, .int v4), (5, .int v5), (6, .int v6)]) rfl rfl rfl fun s2 => ?_
    refine db_Rgo (pc' := 254) (lv' := [(6, .int (v6 + (1 : Int32))), (0, .ref 669), (1, .int v1), (2, .int v2), (3, .int v3), (4, .int v4), (5, .int v5)]) (st' := []) 2 rfl ?_
    refine db_Rn (lv1 := [(0, .ref 669), (1, .int v1), (2, .int v2), (3, .int v3), (4, .int v4), (5, .int v5), (6, .int (v6 + (1 : Int32)))]) rfl rfl rfl ?_
    exact ih _ _ _ _ _ _ _
noncomputable def db_f365_b152 (h116 : db_S → Int32 → Int32 → Int32 → Int32 → Int32 → Option (Bool × db_S)) : Nat → db_S → Int32 → Int32 → Int32 → Int32 → Int32 → Int32 → Option (Bool × db_S)
  | 0, _, _, _, _, _, _, _ => none
  | n + 1, s, v1, v2, v3, v4, v5, v6 =>
    ((db_rI s 674 (5 : Int32)).bind fun x1 => (cond (db_cnd .ge v6 x1) (db_f365_b254 h116 db_FU s v1 v2 v3 v4 v5 (0 : Int32)) (db_bd (db_f316 s v6 v3 v4) fun q2 s3 => (db_f365_b183 h116 (db_f365_b152 h116 n) db_FU s3 v1 v2 v3 v4 v5 v6 q2 (if (0 : Int32) < (-q2) then (-q2) else (0 : Int32))))))
theorem db_f365_b152_ok {X : db_X} {d : Nat}  {h116 : db_S → Int32 → Int32 → Int32 → Int32 → Int32 → Option (Bool × db_S)} (zh116 : ∀ (s' : db_S) (v1 : Int32) (v2 : Int32) (v3 : Int32) (v4 : Int32) (v5 : Int32) , db_Rf X (d + 5) dbm_365 116 [(0, .ref 669), (1, .int v1), (2, .int v2), (3, .int v3), (4, .int v4), (5, .int v5)] [] s' db_zB (h116 s' v1 v2 v3 v4 v5)) (n : Nat) : ∀ (s : db_S) (v1 : Int32) (v2 : Int32) (v3 : Int32) (v4 : Int32) (v5 : Int32) (v6 : Int32), db_Rf X (d + 5) dbm_365 152 [(0, .ref 669), (1, .int v1), (2, .int v2), (3, .int v3), (4, .int v4), (5, .int v5), (6, .int v6)] [] s db_zB (db_f365_b152 h116 n s v1 v2 v3 v4 v5 v6) := by
  induction n with
  | zero => intros; exact db_Rnone
  | succ n ih =>
    intro s v1 v2 v3 v4 v5 v6
    unfold db_f365_b152
    refine db_Rgo (pc' := 159) (lv' := [(0, .ref 669), (1, .int v1), (2, .int v2), (3, .int v3), (4, .int v4), (5, .int v5), (6, .int v6)]) (st' := [.int (5 : Int32), .ref 674, .int v6]) 4 rfl ?_
    refine db_RldI (pc' := 160) (lv1 := [(0, .ref 669), (1, .int v1), (2, .int v2), (3, .int v3), (4, .int v4), (5, .int v5), (6, .int v6)]) rfl rfl rfl fun x1 => ?_
    refine db_Ric (pc' := 163) (tg := 251) (lv1 := [(0, .ref 669), (1, .int v1), (2, .int v2), (3, .int v3), (4, .int v4), (5, .int v5), (6, .int v6)]) rfl rfl rfl rfl ?_ ?_
    · refine db_Rgo (pc' := 254) (lv' := [(6, .int (0 : Int32)), (0, .ref 669), (1, .int v1), (2, .int v2), (3, .int v3), (4, .int v4), (5, .int v5)]) (st' := []) 2 rfl ?_
      refine db_Rn (lv1 := [(0, .ref 669), (1, .int v1), (2, .int v2), (3, .int v3), (4, .int v4), (5, .int v5), (6, .int (0 : Int32))]) rfl rfl rfl ?_
      exact db_f365_b254_ok zh116 db_FU _ _ _ _ _ _ _
    refine db_Rgo (pc' := 169) (lv' := [(0, .ref 669), (1, .int v1), (2, .int v2), (3, .int v3), (4, .int v4), (5, .int v5), (6, .int v6)]) (st' := [.int v4, .int v3, .int v6, .ref 669]) 4 rfl ?_
    refine db_RcdI (mr' := dbm_316) (as := [.ref 669, .int v6, .int v3, .int v4]) (rest := []) (pc' := 172) (lv1 := [(0, .ref 669), (1, .int v1), (2, .int v2), (3, .int v3), (4, .int v4), (5, .int v5), (6, .int v6)]) rfl rfl rfl rfl rfl (db_f316_ok) fun q2 s3 => ?_
    refine db_Rgo (pc' := 183) (lv' := [(8, .int (if (0 : Int32) < (-q2) then (-q2) else (0 : Int32))), (7, .int q2), (0, .ref 669), (1, .int v1), (2, .int v2), (3, .int v3), (4, .int v4), (5, .int v5), (6, .int v6)]) (st' := []) 6 rfl ?_
    refine db_Rn (lv1 := [(0, .ref 669), (1, .int v1), (2, .int v2), (3, .int v3), (4, .int v4), (5, .int v5), (6, .int v6), (7, .int q2), (8, .int (if (0 : Int32) < (-q2) then (-q2) else (0 : Int32)))]) rfl rfl rfl ?_
    exact db_f365_b183_ok zh116 ih db_FU _ _ _ _ _ _ _ _ _
noncomputable def db_f365_b125 (h116 : db_S → Int32 → Int32 → Int32 → Int32 → Int32 → Option (Bool × db_S)) : Nat → db_S → Int32 → Int32 → Int32 → Int32 → Int32 → Int32 → Option (Bool × db_S)
  | 0, _, _, _, _, _, _, _ => none
  | n + 1, s, v1, v2, v3, v4, v5, v6 =>
    (cond (db_cnd .ge v6 (7201 : Int32)) (db_f365_b152 h116 db_FU s v1 v2 v3 v4 v5 (0 : Int32)) ((db_wL s 682 v6 (0 : Int64)).bind fun s1 => (db_f365_b125 h116 n s1 v1 v2 v3 v4 v5 (v6 + (1 : Int32)))))
theorem db_f365_b125_ok {X : db_X} {d : Nat}  {h116 : db_S → Int32 → Int32 → Int32 → Int32 → Int32 → Option (Bool × db_S)} (zh116 : ∀ (s' : db_S) (v1 : Int32) (v2 : Int32) (v3 : Int32) (v4 : Int32) (v5 : Int32) , db_Rf X (d + 5) dbm_365 116 [(0, .ref 669), (1, .int v1), (2, .int v2), (3, .int v3), (4, .int v4), (5, .int v5)] [] s' db_zB (h116 s' v1 v2 v3 v4 v5)) (n : Nat) : ∀ (s : db_S) (v1 : Int32) (v2 : Int32) (v3 : Int32) (v4 : Int32) (v5 : Int32) (v6 : Int32), db_Rf X (d + 5) dbm_365 125 [(0, .ref 669), (1, .int v1), (2, .int v2), (3, .int v3), (4, .int v4), (5, .int v5), (6, .int v6)] [] s db_zB (db_f365_b125 h116 n s v1 v2 v3 v4 v5 v6) := by
  induction n with
  | zero => intros; exact db_Rnone
  | succ n ih =>
    intro s v1 v2 v3 v4 v5 v6
    unfold db_f365_b125
    refine db_Rgo (pc' := 131) (lv' := [(0, .ref 669), (1, .int v1), (2, .int v2), (3, .int v3), (4, .int v4), (5, .int v5), (6, .int v6)]) (st' := [.ref 682, .int v6]) 3 rfl ?_
    refine db_RlenK (n := (7201 : Int32)) (pc' := 132) (lv1 := [(0, .ref 669), (1, .int v1), (2, .int v2), (3, .int v3), (4, .int v4), (5, .int v5), (6, .int v6)]) rfl rfl rfl rfl ?_
    refine db_Ric (pc' := 135) (tg := 149) (lv1 := [(0, .ref 669), (1, .int v1), (2, .int v2), (3, .int v3), (4, .int v4), (5, .int v5), (6, .int v6)]) rfl rfl rfl rfl ?_ ?_
    · refine db_Rgo (pc' := 152) (lv' := [(6, .int (0 : Int32)), (0, .ref 669), (1, .int v1), (2, .int v2), (3, .int v3), (4, .int v4), (5, .int v5)]) (st' := []) 2 rfl ?_
      refine db_Rn (lv1 := [(0, .ref 669), (1, .int v1), (2, .int v2), (3, .int v3), (4, .int v4), (5, .int v5), (6, .int (0 : Int32))]) rfl rfl rfl ?_
      exact db_f365_b152_ok zh116 db_FU _ _ _ _ _ _ _
    refine db_Rgo (pc' := 142) (lv' := [(0, .ref 669), (1, .int v1), (2, .int v2), (3, .int v3), (4, .int v4), (5, .int v5), (6, .int v6)]) (st' := [.long (0 : Int64), .int v6, .ref 682]) 4 rfl ?_
    refine db_RstL (pc' := 143) (lv1 := [(0, .ref 669), (1, .int v1), (2, .int v2), (3, .int v3), (4, .int v4), (5, .int v5), (6, .int v6)]) rfl rfl rfl fun s1 => ?_
    refine db_Rgo (pc' := 125) (lv' := [(6, .int (v6 + (1 : Int32))), (0, .ref 669), (1, .int v1), (2, .int v2), (3, .int v3), (4, .int v4), (5, .int v5)]) (st' := []) 2 rfl ?_
    refine db_Rn (lv1 := [(0, .ref 669), (1, .int v1), (2, .int v2), (3, .int v3), (4, .int v4), (5, .int v5), (6, .int (v6 + (1 : Int32)))]) rfl rfl rfl ?_
    exact ih _ _ _ _ _ _ _
noncomputable def db_f365_b344 (h299 : db_S → Int32 → Int64 → Int64 → Int32 → Option (Bool × db_S)) (s : db_S) (v2 : Int32) (v7 : Int64) (v9 : Int32) (t0 : Int64) (t1 : Int64) : Option (Bool × db_S) :=
  (h299 s v2 (t0 + t1) v7 (v9 + (1 : Int32)))
theorem db_f365_b344_ok {X : db_X} {d : Nat}  {h299 : db_S → Int32 → Int64 → Int64 → Int32 → Option (Bool × db_S)} {s : db_S} {v2 : Int32} {v7 : Int64} {v9 : Int32} {t0 : Int64} {t1 : Int64} (zh299 : ∀ (s' : db_S) (v2 : Int32) (v5 : Int64) (v7 : Int64) (v9 : Int32) , db_Rf X (d + 5) dbm_365 299 [(0, .ref 669), (2, .int v2), (5, .long v5), (7, .long v7), (9, .int v9)] [] s' db_zB (h299 s' v2 v5 v7 v9)) : db_Rf X (d + 5) dbm_365 344 [(0, .ref 669), (2, .int v2), (7, .long v7), (9, .int v9)] [.long t1, .long t0] s db_zB (db_f365_b344 h299 s v2 v7 v9 t0 t1) := by
  unfold db_f365_b344
  refine db_Rgo (pc' := 299) (lv' := [(9, .int (v9 + (1 : Int32))), (5, .long (t0 + t1)), (0, .ref 669), (2, .int v2), (7, .long v7)]) (st' := []) 4 rfl ?_
  refine db_Rn (lv1 := [(0, .ref 669), (2, .int v2), (5, .long (t0 + t1)), (7, .long v7), (9, .int (v9 + (1 : Int32)))]) rfl rfl rfl ?_
  exact zh299 _ _ _ _ _
noncomputable def db_f365_b299 : Nat → db_S → Int32 → Int64 → Int64 → Int32 → Option (Bool × db_S)
  | 0, _, _, _, _, _ => none
  | n + 1, s, v2, v5, v7, v9 =>
    (cond (db_cnd .ge v9 (7201 : Int32)) (db_bd (db_f364 s v5 v7) fun q1 s2 => (some (q1, s2))) ((db_rL s 681 v9).bind fun x3 => (cond (db_cnd .lt (v9 - (3600 : Int32)) v2) (db_f365_b344 (db_f365_b299 n) s v2 (v7 + x3) v9 v5 (0 : Int64)) ((db_rL s 681 v9).bind fun x4 => (db_f365_b344 (db_f365_b299 n) s v2 (v7 + x3) v9 v5 x4)))))
theorem db_f365_b299_ok {X : db_X} {d : Nat}  (n : Nat) : ∀ (s : db_S) (v2 : Int32) (v5 : Int64) (v7 : Int64) (v9 : Int32), db_Rf X (d + 5) dbm_365 299 [(0, .ref 669), (2, .int v2), (5, .long v5), (7, .long v7), (9, .int v9)] [] s db_zB (db_f365_b299 n s v2 v5 v7 v9) := by
  induction n with
  | zero => intros; exact db_Rnone
  | succ n ih =>
    intro s v2 v5 v7 v9
    unfold db_f365_b299
    refine db_Rgo (pc' := 305) (lv' := [(0, .ref 669), (2, .int v2), (5, .long v5), (7, .long v7), (9, .int v9)]) (st' := [.ref 681, .int v9]) 3 rfl ?_
    refine db_RlenK (n := (7201 : Int32)) (pc' := 306) (lv1 := [(0, .ref 669), (2, .int v2), (5, .long v5), (7, .long v7), (9, .int v9)]) rfl rfl rfl rfl ?_
    refine db_Ric (pc' := 309) (tg := 353) (lv1 := [(0, .ref 669), (2, .int v2), (5, .long v5), (7, .long v7), (9, .int v9)]) rfl rfl rfl rfl ?_ ?_
    · refine db_Rgo (pc' := 358) (lv' := [(0, .ref 669), (5, .long v5), (7, .long v7)]) (st' := [.long v7, .long v5, .ref 669]) 3 rfl ?_
      refine db_RcdB (mr' := dbm_364) (as := [.ref 669, .long v5, .long v7]) (rest := []) (pc' := 361) (lv1 := [(0, .ref 669), (5, .long v5), (7, .long v7)]) rfl rfl rfl rfl rfl (db_f364_ok) fun q1 s2 => ?_
      exact db_RretB (lv1 := [(0, .ref 669), (5, .long v5), (7, .long v7)]) rfl rfl rfl rfl
    refine db_Rgo (pc' := 317) (lv' := [(0, .ref 669), (2, .int v2), (5, .long v5), (7, .long v7), (9, .int v9)]) (st' := [.int v9, .ref 681, .long v7]) 4 rfl ?_
    refine db_RldL (pc' := 318) (lv1 := [(0, .ref 669), (2, .int v2), (5, .long v5), (7, .long v7), (9, .int v9)]) rfl rfl rfl fun x3 => ?_
    refine db_Rgo (pc' := 330) (lv' := [(7, .long (v7 + x3)), (0, .ref 669), (2, .int v2), (5, .long v5), (9, .int v9)]) (st' := [.int v2, .int (v9 - (3600 : Int32)), .long v5]) 7 rfl ?_
    refine db_Ric (pc' := 333) (tg := 343) (lv1 := [(7, .long (v7 + x3)), (0, .ref 669), (2, .int v2), (5, .long v5), (9, .int v9)]) rfl rfl rfl rfl ?_ ?_
    · refine db_Rgo (pc' := 344) (lv' := [(0, .ref 669), (2, .int v2), (7, .long (v7 + x3)), (9, .int v9)]) (st' := [.long (0 : Int64), .long v5]) 1 rfl ?_
      exact db_f365_b344_ok ih
    refine db_Rgo (pc' := 339) (lv' := [(7, .long (v7 + x3)), (0, .ref 669), (2, .int v2), (5, .long v5), (9, .int v9)]) (st' := [.int v9, .ref 681, .long v5]) 3 rfl ?_
    refine db_RldL (pc' := 340) (lv1 := [(7, .long (v7 + x3)), (0, .ref 669), (2, .int v2), (5, .long v5), (9, .int v9)]) rfl rfl rfl fun x4 => ?_
    refine db_Rgo (pc' := 344) (lv' := [(7, .long (v7 + x3)), (0, .ref 669), (2, .int v2), (5, .long v5), (9, .int v9)]) (st' := [.long x4, .long v5]) 1 rfl ?_
    refine db_Rn (lv1 := [(0, .ref 669), (2, .int v2), (7, .long (v7 + x3)), (9, .int v9)]) rfl rfl rfl ?_
    exact db_f365_b344_ok ih
noncomputable def db_f365_b116 : Nat → db_S → Int32 → Int32 → Int32 → Int32 → Int32 → Option (Bool × db_S)
  | 0, _, _, _, _, _, _ => none
  | n + 1, s, v1, v2, v3, v4, v5 =>
    (cond (db_cnd .ge v5 v1) (db_f365_b299 db_FU s v2 (0 : Int64) (0 : Int64) (0 : Int32)) (db_f365_b125 (db_f365_b116 n) db_FU s v1 v2 v3 v4 v5 (0 : Int32)))
theorem db_f365_b116_ok {X : db_X} {d : Nat}  (n : Nat) : ∀ (s : db_S) (v1 : Int32) (v2 : Int32) (v3 : Int32) (v4 : Int32) (v5 : Int32), db_Rf X (d + 5) dbm_365 116 [(0, .ref 669), (1, .int v1), (2, .int v2), (3, .int v3), (4, .int v4), (5, .int v5)] [] s db_zB (db_f365_b116 n s v1 v2 v3 v4 v5) := by
  induction n with
  | zero => intros; exact db_Rnone
  | succ n ih =>
    intro s v1 v2 v3 v4 v5
    unfold db_f365_b116
    refine db_Rgo (pc' := 119) (lv' := [(0, .ref 669), (1, .int v1), (2, .int v2), (3, .int v3), (4, .int v4), (5, .int v5)]) (st' := [.int v1, .int v5]) 2 rfl ?_
    refine db_Ric (pc' := 122) (tg := 290) (lv1 := [(0, .ref 669), (1, .int v1), (2, .int v2), (3, .int v3), (4, .int v4), (5, .int v5)]) rfl rfl rfl rfl ?_ ?_
    · refine db_Rgo (pc' := 299) (lv' := [(9, .int (0 : Int32)), (7, .long (0 : Int64)), (5, .long (0 : Int64)), (0, .ref 669), (2, .int v2)]) (st' := []) 6 rfl ?_
      refine db_Rn (lv1 := [(0, .ref 669), (2, .int v2), (5, .long (0 : Int64)), (7, .long (0 : Int64)), (9, .int (0 : Int32))]) rfl rfl rfl ?_
      exact db_f365_b299_ok db_FU _ _ _ _ _
    refine db_Rgo (pc' := 125) (lv' := [(6, .int (0 : Int32)), (0, .ref 669), (1, .int v1), (2, .int v2), (3, .int v3), (4, .int v4), (5, .int v5)]) (st' := []) 2 rfl ?_
    refine db_Rn (lv1 := [(0, .ref 669), (1, .int v1), (2, .int v2), (3, .int v3), (4, .int v4), (5, .int v5), (6, .int (0 : Int32))]) rfl rfl rfl ?_
    exact db_f365_b125_ok ih db_FU _ _ _ _ _ _ _
noncomputable def db_f365_b77 : Nat → db_S → Int32 → Int32 → Int32 → Int32 → Int32 → Option (Bool × db_S)
  | 0, _, _, _, _, _, _ => none
  | n + 1, s, v1, v2, v3, v4, v5 =>
    (cond (db_cnd .ge v5 (7201 : Int32)) (db_f365_b116 db_FU s v1 v2 v3 v4 (0 : Int32)) (cond (db_cnd .ne v5 (3600 : Int32)) (db_f365_b106 (db_f365_b77 n) s v1 v2 v3 v4 v5 v5 (0 : Int64)) (db_f365_b106 (db_f365_b77 n) s v1 v2 v3 v4 v5 v5 (1 : Int64))))
theorem db_f365_b77_ok {X : db_X} {d : Nat}  (n : Nat) : ∀ (s : db_S) (v1 : Int32) (v2 : Int32) (v3 : Int32) (v4 : Int32) (v5 : Int32), db_Rf X (d + 5) dbm_365 77 [(0, .ref 669), (1, .int v1), (2, .int v2), (3, .int v3), (4, .int v4), (5, .int v5)] [] s db_zB (db_f365_b77 n s v1 v2 v3 v4 v5) := by
  induction n with
  | zero => intros; exact db_Rnone
  | succ n ih =>
    intro s v1 v2 v3 v4 v5
    unfold db_f365_b77
    refine db_Rgo (pc' := 83) (lv' := [(0, .ref 669), (1, .int v1), (2, .int v2), (3, .int v3), (4, .int v4), (5, .int v5)]) (st' := [.ref 681, .int v5]) 3 rfl ?_
    refine db_RlenK (n := (7201 : Int32)) (pc' := 84) (lv1 := [(0, .ref 669), (1, .int v1), (2, .int v2), (3, .int v3), (4, .int v4), (5, .int v5)]) rfl rfl rfl rfl ?_
    refine db_Ric (pc' := 87) (tg := 113) (lv1 := [(0, .ref 669), (1, .int v1), (2, .int v2), (3, .int v3), (4, .int v4), (5, .int v5)]) rfl rfl rfl rfl ?_ ?_
    · refine db_Rgo (pc' := 116) (lv' := [(5, .int (0 : Int32)), (0, .ref 669), (1, .int v1), (2, .int v2), (3, .int v3), (4, .int v4)]) (st' := []) 2 rfl ?_
      refine db_Rn (lv1 := [(0, .ref 669), (1, .int v1), (2, .int v2), (3, .int v3), (4, .int v4), (5, .int (0 : Int32))]) rfl rfl rfl ?_
      exact db_f365_b116_ok db_FU _ _ _ _ _ _
    refine db_Rgo (pc' := 98) (lv' := [(0, .ref 669), (1, .int v1), (2, .int v2), (3, .int v3), (4, .int v4), (5, .int v5)]) (st' := [.int (3600 : Int32), .int v5, .int v5, .ref 681]) 5 rfl ?_
    refine db_Ric (pc' := 101) (tg := 105) (lv1 := [(0, .ref 669), (1, .int v1), (2, .int v2), (3, .int v3), (4, .int v4), (5, .int v5)]) rfl rfl rfl rfl ?_ ?_
    · refine db_Rgo (pc' := 106) (lv' := [(0, .ref 669), (1, .int v1), (2, .int v2), (3, .int v3), (4, .int v4), (5, .int v5)]) (st' := [.long (0 : Int64), .int v5, .ref 681]) 1 rfl ?_
      exact db_f365_b106_ok ih
    refine db_Rgo (pc' := 106) (lv' := [(0, .ref 669), (1, .int v1), (2, .int v2), (3, .int v3), (4, .int v4), (5, .int v5)]) (st' := [.long (1 : Int64), .int v5, .ref 681]) 2 rfl ?_
    exact db_f365_b106_ok ih
/-- DreamBookModel.atLeast(IIII)Z -/
noncomputable def db_f365 (s : db_S) (v1 : Int32) (v2 : Int32) (v3 : Int32) (v4 : Int32) : Option (Bool × db_S) :=
  ((db_pI s 669 1 (0 : Int32)).bind fun s1 => ((db_pI s1 669 0 (0 : Int32)).bind fun s2 => ((db_f315 s2 v3 v4).bind fun q3 => (cond q3 ((db_f269 s2 (Int32.toInt64 v1) (1 : Int64) (6 : Int64)).bind fun q5 => (cond q5 ((db_f269 s2 (Int32.toInt64 v2) (-999 : Int64) (999 : Int64)).bind fun q7 => (cond q7 ((db_rI s2 674 (5 : Int32)).bind fun x9 => (cond (db_cnd .ne x9 0) (db_f365_b77 db_FU s2 v1 v2 v3 v4 (0 : Int32)) (db_bd (db_f211 s2 (8 : Int32)) fun q10 s11 => (some (q10, s11))))) (db_f365_b52 s2 ))) (db_f365_b52 s2 ))) (db_bd (db_f211 s2 (2 : Int32)) fun q12 s13 => (some (q12, s13)))))))
theorem db_f365_ok {X : db_X} {d : Nat} {s : db_S} {v1 : Int32} {v2 : Int32} {v3 : Int32} {v4 : Int32} : db_Rf X (d + 5) dbm_365 0 (lv_args 0 [.ref 669, .int v1, .int v2, .int v3, .int v4]) [] s db_zB (db_f365 s v1 v2 v3 v4) := by
  show db_Rf _ _ _ 0 [(0, .ref 669), (1, .int v1), (2, .int v2), (3, .int v3), (4, .int v4)] [] _ _ _
  unfold db_f365
  refine db_Rgo (pc' := 2) (lv' := [(0, .ref 669), (1, .int v1), (2, .int v2), (3, .int v3), (4, .int v4)]) (st' := [.int (0 : Int32), .ref 669]) 2 rfl ?_
  refine db_RpuI (pc' := 5) (lv1 := [(0, .ref 669), (1, .int v1), (2, .int v2), (3, .int v3), (4, .int v4)]) rfl rfl rfl rfl rfl rfl (by decide) rfl rfl fun s1 => ?_
  refine db_Rgo (pc' := 7) (lv' := [(0, .ref 669), (1, .int v1), (2, .int v2), (3, .int v3), (4, .int v4)]) (st' := [.int (0 : Int32), .ref 669]) 2 rfl ?_
  refine db_RpuI (pc' := 10) (lv1 := [(0, .ref 669), (1, .int v1), (2, .int v2), (3, .int v3), (4, .int v4)]) rfl rfl rfl rfl rfl rfl (by decide) rfl rfl fun s2 => ?_
  refine db_Rgo (pc' := 14) (lv' := [(0, .ref 669), (1, .int v1), (2, .int v2), (3, .int v3), (4, .int v4)]) (st' := [.int v4, .int v3, .ref 669]) 3 rfl ?_
  refine db_RcyB (mr' := dbm_315) (as := [.ref 669, .int v3, .int v4]) (rest := []) (pc' := 17) (lv1 := [(0, .ref 669), (1, .int v1), (2, .int v2), (3, .int v3), (4, .int v4)]) rfl rfl rfl rfl rfl (db_f315_ok) fun q3 => ?_
  refine db_RifBn (pc' := 20) (tg := 26) (lv1 := [(0, .ref 669), (1, .int v1), (2, .int v2), (3, .int v3), (4, .int v4)]) rfl rfl rfl rfl ?_ ?_
  · refine db_Rgo (pc' := 32) (lv' := [(0, .ref 669), (1, .int v1), (2, .int v2), (3, .int v3), (4, .int v4)]) (st' := [.long (6 : Int64), .long (1 : Int64), .long (Int32.toInt64 v1)]) 4 rfl ?_
    refine db_RcyB (mr' := dbm_269) (as := [.long (Int32.toInt64 v1), .long (1 : Int64), .long (6 : Int64)]) (rest := []) (pc' := 35) (lv1 := [(0, .ref 669), (1, .int v1), (2, .int v2), (3, .int v3), (4, .int v4)]) rfl rfl rfl rfl rfl (db_f269_ok) fun q5 => ?_
    refine db_RifBe (pc' := 38) (tg := 52) (lv1 := [(0, .ref 669), (1, .int v1), (2, .int v2), (3, .int v3), (4, .int v4)]) rfl rfl rfl rfl ?_ ?_
    · refine db_Rn (lv1 := [(0, .ref 669)]) rfl rfl rfl ?_
      exact db_f365_b52_ok
    refine db_Rgo (pc' := 46) (lv' := [(0, .ref 669), (1, .int v1), (2, .int v2), (3, .int v3), (4, .int v4)]) (st' := [.long (999 : Int64), .long (-999 : Int64), .long (Int32.toInt64 v2)]) 4 rfl ?_
    refine db_RcyB (mr' := dbm_269) (as := [.long (Int32.toInt64 v2), .long (-999 : Int64), .long (999 : Int64)]) (rest := []) (pc' := 49) (lv1 := [(0, .ref 669), (1, .int v1), (2, .int v2), (3, .int v3), (4, .int v4)]) rfl rfl rfl rfl rfl (db_f269_ok) fun q7 => ?_
    refine db_RifBn (pc' := 52) (tg := 58) (lv1 := [(0, .ref 669), (1, .int v1), (2, .int v2), (3, .int v3), (4, .int v4)]) rfl rfl rfl rfl ?_ ?_
    · refine db_Rgo (pc' := 63) (lv' := [(0, .ref 669), (1, .int v1), (2, .int v2), (3, .int v3), (4, .int v4)]) (st' := [.int (5 : Int32), .ref 674]) 3 rfl ?_
      refine db_RldI (pc' := 64) (lv1 := [(0, .ref 669), (1, .int v1), (2, .int v2), (3, .int v3), (4, .int v4)]) rfl rfl rfl fun x9 => ?_
      refine db_Rif (pc' := 67) (tg := 74) (lv1 := [(0, .ref 669), (1, .int v1), (2, .int v2), (3, .int v3), (4, .int v4)]) rfl rfl rfl rfl ?_ ?_
      · refine db_Rgo (pc' := 77) (lv' := [(5, .int (0 : Int32)), (0, .ref 669), (1, .int v1), (2, .int v2), (3, .int v3), (4, .int v4)]) (st' := []) 2 rfl ?_
        refine db_Rn (lv1 := [(0, .ref 669), (1, .int v1), (2, .int v2), (3, .int v3), (4, .int v4), (5, .int (0 : Int32))]) rfl rfl rfl ?_
        exact db_f365_b77_ok db_FU _ _ _ _ _ _
      refine db_Rgo (pc' := 70) (lv' := [(0, .ref 669), (1, .int v1), (2, .int v2), (3, .int v3), (4, .int v4)]) (st' := [.int (8 : Int32), .ref 669]) 2 rfl ?_
      refine db_RcdB (mr' := dbm_211) (as := [.ref 669, .int (8 : Int32)]) (rest := []) (pc' := 73) (lv1 := [(0, .ref 669), (1, .int v1), (2, .int v2), (3, .int v3), (4, .int v4)]) rfl rfl rfl rfl rfl (db_f211_ok) fun q10 s11 => ?_
      exact db_RretB (lv1 := [(0, .ref 669), (1, .int v1), (2, .int v2), (3, .int v3), (4, .int v4)]) rfl rfl rfl rfl
    refine db_Rn (lv1 := [(0, .ref 669)]) rfl rfl rfl ?_
    exact db_f365_b52_ok
  refine db_Rgo (pc' := 22) (lv' := [(0, .ref 669), (1, .int v1), (2, .int v2), (3, .int v3), (4, .int v4)]) (st' := [.int (2 : Int32), .ref 669]) 2 rfl ?_
  refine db_RcdB (mr' := dbm_211) (as := [.ref 669, .int (2 : Int32)]) (rest := []) (pc' := 25) (lv1 := [(0, .ref 669), (1, .int v1), (2, .int v2), (3, .int v3), (4, .int v4)]) rfl rfl rfl rfl rfl (db_f211_ok) fun q12 s13 => ?_
  exact db_RretB (lv1 := [(0, .ref 669), (1, .int v1), (2, .int v2), (3, .int v3), (4, .int v4)]) rfl rfl rfl rfl
