noncomputable def db_f49_b67 (s : db_S) (v1 : Int32) (v2 : Int32) (t1 : Int32) (t2 : Int32) : Option (Int32 × db_S) :=
  ((db_wI s 16 t1 t2).bind fun s1 => ((db_rB s1 14 v2).bind fun x2 => ((db_wI s1 18 v1 x2).bind fun s3 => (some ((v2 + (1 : Int32)), s3)))))
set_option maxRecDepth 100000 in
theorem db_f49_b67_ok {X : db_X} {d : Nat}  {s : db_S} {v1 : Int32} {v2 : Int32} {t1 : Int32} {t2 : Int32} : db_Rf X (d + 2) dbm_49 67 [(0, .ref 13), (1, .int v1), (2, .int v2)] [.int t2, .int t1, .ref 16] s db_zI (db_f49_b67 s v1 v2 t1 t2) := by
  unfold db_f49_b67
  refine db_RstI (pc' := 68) (lv1 := [(0, .ref 13), (1, .int v1), (2, .int v2)]) rfl rfl rfl fun s1 => ?_
  refine db_Rgo (pc' := 78) (lv' := [(0, .ref 13), (1, .int v1), (2, .int v2)]) (st' := [.int v2, .ref 14, .int v1, .ref 18]) 6 rfl ?_
  refine db_RldB (pc' := 79) (lv1 := [(0, .ref 13), (1, .int v1), (2, .int v2)]) rfl rfl rfl fun x2 => ?_
  refine db_RstI (pc' := 80) (lv1 := [(0, .ref 13), (1, .int v1), (2, .int v2)]) rfl rfl rfl fun s3 => ?_
  refine db_Rgo (pc' := 83) (lv' := [(0, .ref 13), (1, .int v1), (2, .int v2)]) (st' := [.int (v2 + (1 : Int32))]) 3 rfl ?_
  exact db_Rret (lv1 := [(0, .ref 13), (1, .int v1), (2, .int v2)]) rfl rfl rfl rfl
/-- DreamBook$Scanner.scanToken(II)I -/
noncomputable def db_f49 (s : db_S) (v1 : Int32) (v2 : Int32) : Option (Int32 × db_S) :=
  ((db_wI s 17 v1 v2).bind fun s1 => ((db_rB s1 14 v2).bind fun x2 => ((db_f11 s1 x2).bind fun q3 => (cond q3 (db_bd (db_f50 s1 v1 v2) fun q13 s14 => (some (q13, s14))) ((db_rB s1 14 v2).bind fun x5 => ((db_f52 s1 x5).bind fun q6 => (cond q6 (db_bd (db_f53 s1 v1 v2) fun q11 s12 => (some (q11, s12))) ((db_rB s1 14 v2).bind fun x8 => ((db_f54 s1 x8).bind fun q9 => (cond q9 (db_f49_b67 s1 v1 v2 v1 (3 : Int32)) (db_f49_b67 s1 v1 v2 v1 (4 : Int32))))))))))))
set_option maxRecDepth 100000 in
theorem db_f49_ok {X : db_X} {d : Nat} {s : db_S} {v1 : Int32} {v2 : Int32} : db_Rf X (d + 2) dbm_49 0 (lv_args 0 [.ref 13, .int v1, .int v2]) [] s db_zI (db_f49 s v1 v2) := by
  show db_Rf _ _ _ 0 [(0, .ref 13), (1, .int v1), (2, .int v2)] [] _ _ _
  unfold db_f49
  refine db_Rgo (pc' := 6) (lv' := [(0, .ref 13), (1, .int v1), (2, .int v2)]) (st' := [.int v2, .int v1, .ref 17]) 4 rfl ?_
  refine db_RstI (pc' := 7) (lv1 := [(0, .ref 13), (1, .int v1), (2, .int v2)]) rfl rfl rfl fun s1 => ?_
  refine db_Rgo (pc' := 12) (lv' := [(0, .ref 13), (1, .int v1), (2, .int v2)]) (st' := [.int v2, .ref 14]) 3 rfl ?_
  refine db_RldB (pc' := 13) (lv1 := [(0, .ref 13), (1, .int v1), (2, .int v2)]) rfl rfl rfl fun x2 => ?_
  refine db_RcyB (mr' := dbm_11) (as := [.int x2]) (rest := []) (pc' := 16) (lv1 := [(0, .ref 13), (1, .int v1), (2, .int v2)]) rfl rfl rfl rfl rfl (db_f11_ok) fun q3 => ?_
  refine db_RifBe (pc' := 19) (tg := 26) (lv1 := [(0, .ref 13), (1, .int v1), (2, .int v2)]) rfl rfl rfl rfl ?_ ?_
  · refine db_Rgo (pc' := 31) (lv' := [(0, .ref 13), (1, .int v1), (2, .int v2)]) (st' := [.int v2, .ref 14]) 3 rfl ?_
    refine db_RldB (pc' := 32) (lv1 := [(0, .ref 13), (1, .int v1), (2, .int v2)]) rfl rfl rfl fun x5 => ?_
    refine db_RcyB (mr' := dbm_52) (as := [.int x5]) (rest := []) (pc' := 35) (lv1 := [(0, .ref 13), (1, .int v1), (2, .int v2)]) rfl rfl rfl rfl rfl (db_f52_ok) fun q6 => ?_
    refine db_RifBe (pc' := 38) (tg := 45) (lv1 := [(0, .ref 13), (1, .int v1), (2, .int v2)]) rfl rfl rfl rfl ?_ ?_
    · refine db_Rgo (pc' := 55) (lv' := [(0, .ref 13), (1, .int v1), (2, .int v2)]) (st' := [.int v2, .ref 14, .int v1, .ref 16]) 6 rfl ?_
      refine db_RldB (pc' := 56) (lv1 := [(0, .ref 13), (1, .int v1), (2, .int v2)]) rfl rfl rfl fun x8 => ?_
      refine db_RcyB (mr' := dbm_54) (as := [.int x8]) (rest := [.int v1, .ref 16]) (pc' := 59) (lv1 := [(0, .ref 13), (1, .int v1), (2, .int v2)]) rfl rfl rfl rfl rfl (db_f54_ok) fun q9 => ?_
      refine db_RifBe (pc' := 62) (tg := 66) (lv1 := [(0, .ref 13), (1, .int v1), (2, .int v2)]) rfl rfl rfl rfl ?_ ?_
      · refine db_Rgo (pc' := 67) (lv' := [(0, .ref 13), (1, .int v1), (2, .int v2)]) (st' := [.int (4 : Int32), .int v1, .ref 16]) 1 rfl ?_
        exact db_f49_b67_ok
      refine db_Rgo (pc' := 67) (lv' := [(0, .ref 13), (1, .int v1), (2, .int v2)]) (st' := [.int (3 : Int32), .int v1, .ref 16]) 2 rfl ?_
      exact db_f49_b67_ok
    refine db_Rgo (pc' := 41) (lv' := [(0, .ref 13), (1, .int v1), (2, .int v2)]) (st' := [.int v2, .int v1, .ref 13]) 3 rfl ?_
    refine db_RcdI (mr' := dbm_53) (as := [.ref 13, .int v1, .int v2]) (rest := []) (pc' := 44) (lv1 := [(0, .ref 13), (1, .int v1), (2, .int v2)]) rfl rfl rfl rfl rfl (db_f53_ok) fun q11 s12 => ?_
    exact db_Rret (lv1 := [(0, .ref 13), (1, .int v1), (2, .int v2)]) rfl rfl rfl rfl
  refine db_Rgo (pc' := 22) (lv' := [(0, .ref 13), (1, .int v1), (2, .int v2)]) (st' := [.int v2, .int v1, .ref 13]) 3 rfl ?_
  refine db_RcdI (mr' := dbm_50) (as := [.ref 13, .int v1, .int v2]) (rest := []) (pc' := 25) (lv1 := [(0, .ref 13), (1, .int v1), (2, .int v2)]) rfl rfl rfl rfl rfl (db_f50_ok) fun q13 s14 => ?_
  exact db_Rret (lv1 := [(0, .ref 13), (1, .int v1), (2, .int v2)]) rfl rfl rfl rfl
noncomputable def db_f47_b72 (h33 : db_S → Int32 → Int32 → Int32 → Option db_S) (s : db_S) (v2 : Int32) (v3 : Int32) (v4 : Int32) : Option db_S :=
  (h33 s v2 v3 (v4 + (1 : Int32)))
set_option maxRecDepth 100000 in
theorem db_f47_b72_ok {X : db_X} {d : Nat}  {h33 : db_S → Int32 → Int32 → Int32 → Option db_S} {s : db_S} {v2 : Int32} {v3 : Int32} {v4 : Int32} (zh33 : ∀ (s' : db_S) (v2 : Int32) (v3 : Int32) (v4 : Int32) , db_Rf X (d + 3) dbm_47 33 [(0, .ref 13), (2, .int v2), (3, .int v3), (4, .int v4)] [] s' db_zV (h33 s' v2 v3 v4)) : db_Rf X (d + 3) dbm_47 72 [(0, .ref 13), (2, .int v2), (3, .int v3), (4, .int v4)] [] s db_zV (db_f47_b72 h33 s v2 v3 v4) := by
  unfold db_f47_b72
  refine db_Rgo (pc' := 33) (lv' := [(4, .int (v4 + (1 : Int32))), (0, .ref 13), (2, .int v2), (3, .int v3)]) (st' := []) 2 rfl ?_
  refine db_Rn (lv1 := [(0, .ref 13), (2, .int v2), (3, .int v3), (4, .int (v4 + (1 : Int32)))]) rfl rfl rfl ?_
  exact zh33 _ _ _ _
noncomputable def db_f47_b33 : Nat → db_S → Int32 → Int32 → Int32 → Option db_S
  | 0, _, _, _, _ => none
  | n + 1, s, v2, v3, v4 =>
    (cond (db_cnd .ge v4 (s.1 13 10)) ((db_wI s 16 v2 (0 : Int32)).bind fun s1 => ((db_wI s1 17 v2 (s1.1 13 10)).bind fun s2 => (some s2))) (cond (db_cnd .lt v4 v3) (db_f47_b72 (db_f47_b33 n) s v2 v3 v4) ((db_rB s 14 v4).bind fun x3 => ((db_f48 s x3).bind fun q4 => (cond q4 (db_f47_b72 (db_f47_b33 n) s v2 v3 v4) (db_bd (db_f49 s v2 v4) fun q6 s7 => (db_f47_b72 (db_f47_b33 n) s7 (v2 + (1 : Int32)) q6 v4)))))))
set_option maxRecDepth 100000 in
theorem db_f47_b33_ok {X : db_X} {d : Nat}  (n : Nat) : ∀ (s : db_S) (v2 : Int32) (v3 : Int32) (v4 : Int32), db_Rf X (d + 3) dbm_47 33 [(0, .ref 13), (2, .int v2), (3, .int v3), (4, .int v4)] [] s db_zV (db_f47_b33 n s v2 v3 v4) := by
  induction n with
  | zero => intros; exact db_Rnone
  | succ n ih =>
    intro s v2 v3 v4
    unfold db_f47_b33
    refine db_Rgo (pc' := 39) (lv' := [(0, .ref 13), (2, .int v2), (3, .int v3), (4, .int v4)]) (st' := [.int (s.1 13 10), .int v4]) 3 rfl ?_
    refine db_Ric (pc' := 42) (tg := 78) (lv1 := [(0, .ref 13), (2, .int v2), (3, .int v3), (4, .int v4)]) rfl rfl rfl rfl ?_ ?_
    · refine db_Rgo (pc' := 84) (lv' := [(0, .ref 13), (2, .int v2)]) (st' := [.int (0 : Int32), .int v2, .ref 16]) 4 rfl ?_
      refine db_RstI (pc' := 85) (lv1 := [(0, .ref 13), (2, .int v2)]) rfl rfl rfl fun s1 => ?_
      refine db_Rgo (pc' := 94) (lv' := [(0, .ref 13), (2, .int v2)]) (st' := [.int (s1.1 13 10), .int v2, .ref 17]) 5 rfl ?_
      refine db_RstI (pc' := 95) (lv1 := [(0, .ref 13), (2, .int v2)]) rfl rfl rfl fun s2 => ?_
      exact db_Rret (lv1 := [(0, .ref 13), (2, .int v2)]) rfl rfl rfl rfl
    refine db_Rgo (pc' := 45) (lv' := [(0, .ref 13), (2, .int v2), (3, .int v3), (4, .int v4)]) (st' := [.int v3, .int v4]) 2 rfl ?_
    refine db_Ric (pc' := 48) (tg := 72) (lv1 := [(0, .ref 13), (2, .int v2), (3, .int v3), (4, .int v4)]) rfl rfl rfl rfl ?_ ?_
    · exact db_f47_b72_ok ih
    refine db_Rgo (pc' := 54) (lv' := [(0, .ref 13), (2, .int v2), (3, .int v3), (4, .int v4)]) (st' := [.int v4, .ref 14]) 3 rfl ?_
    refine db_RldB (pc' := 55) (lv1 := [(0, .ref 13), (2, .int v2), (3, .int v3), (4, .int v4)]) rfl rfl rfl fun x3 => ?_
    refine db_RcyB (mr' := dbm_48) (as := [.int x3]) (rest := []) (pc' := 58) (lv1 := [(0, .ref 13), (2, .int v2), (3, .int v3), (4, .int v4)]) rfl rfl rfl rfl rfl (db_f48_ok) fun q4 => ?_
    refine db_RifBn (pc' := 61) (tg := 72) (lv1 := [(0, .ref 13), (2, .int v2), (3, .int v3), (4, .int v4)]) rfl rfl rfl rfl ?_ ?_
    · exact db_f47_b72_ok ih
    refine db_Rgo (pc' := 65) (lv' := [(0, .ref 13), (2, .int v2), (3, .int v3), (4, .int v4)]) (st' := [.int v4, .int v2, .ref 13]) 3 rfl ?_
    refine db_RcdI (mr' := dbm_49) (as := [.ref 13, .int v2, .int v4]) (rest := []) (pc' := 68) (lv1 := [(0, .ref 13), (2, .int v2), (3, .int v3), (4, .int v4)]) rfl rfl rfl rfl rfl (db_f49_ok) fun q6 s7 => ?_
    refine db_Rgo (pc' := 72) (lv' := [(2, .int (v2 + (1 : Int32))), (3, .int q6), (0, .ref 13), (4, .int v4)]) (st' := []) 2 rfl ?_
    refine db_Rn (lv1 := [(0, .ref 13), (2, .int (v2 + (1 : Int32))), (3, .int q6), (4, .int v4)]) rfl rfl rfl ?_
    exact db_f47_b72_ok ih
/-- DreamBook$Scanner.start(I)V -/
noncomputable def db_f47 (s : db_S) (v1 : Int32) : Option db_S :=
  ((db_pI s 13 10 (if (900 : Int32) < v1 then (900 : Int32) else v1)).bind fun s1 => ((db_pI s1 13 9 (0 : Int32)).bind fun s2 => ((db_pI s2 13 2 (0 : Int32)).bind fun s3 => ((db_pI s3 13 3 (-1 : Int32)).bind fun s4 => (db_f47_b33 db_FU s4 (0 : Int32) (0 : Int32) (0 : Int32))))))
set_option maxRecDepth 100000 in
theorem db_f47_ok {X : db_X} {d : Nat} {s : db_S} {v1 : Int32} : db_Rf X (d + 3) dbm_47 0 (lv_args 0 [.ref 13, .int v1]) [] s db_zV (db_f47 s v1) := by
  show db_Rf _ _ _ 0 [(0, .ref 13), (1, .int v1)] [] _ _ _
  unfold db_f47
  refine db_Rgo (pc' := 8) (lv' := [(0, .ref 13), (1, .int v1)]) (st' := [.int (if (900 : Int32) < v1 then (900 : Int32) else v1), .ref 13]) 4 rfl ?_
  refine db_RpuI (pc' := 11) (lv1 := [(0, .ref 13), (1, .int v1)]) rfl rfl rfl rfl rfl rfl (by decide) rfl rfl fun s1 => ?_
  refine db_Rgo (pc' := 13) (lv' := [(0, .ref 13), (1, .int v1)]) (st' := [.int (0 : Int32), .ref 13]) 2 rfl ?_
  refine db_RpuI (pc' := 16) (lv1 := [(0, .ref 13), (1, .int v1)]) rfl rfl rfl rfl rfl rfl (by decide) rfl rfl fun s2 => ?_
  refine db_Rgo (pc' := 18) (lv' := [(0, .ref 13), (1, .int v1)]) (st' := [.int (0 : Int32), .ref 13]) 2 rfl ?_
  refine db_RpuI (pc' := 21) (lv1 := [(0, .ref 13), (1, .int v1)]) rfl rfl rfl rfl rfl rfl (by decide) rfl rfl fun s3 => ?_
  refine db_Rgo (pc' := 23) (lv' := [(0, .ref 13), (1, .int v1)]) (st' := [.int (-1 : Int32), .ref 13]) 2 rfl ?_
  refine db_RpuI (pc' := 26) (lv1 := [(0, .ref 13), (1, .int v1)]) rfl rfl rfl rfl rfl rfl (by decide) rfl rfl fun s4 => ?_
  refine db_Rgo (pc' := 33) (lv' := [(4, .int (0 : Int32)), (3, .int (0 : Int32)), (2, .int (0 : Int32)), (0, .ref 13), (1, .int v1)]) (st' := []) 6 rfl ?_
  refine db_Rn (lv1 := [(0, .ref 13), (2, .int (0 : Int32)), (3, .int (0 : Int32)), (4, .int (0 : Int32))]) rfl rfl rfl ?_
  exact db_f47_b33_ok db_FU _ _ _ _
/-- DreamBook$Scanner.isAtEnd()Z -/
noncomputable def db_f55 (s : db_S) : Option Bool :=
  ((db_rI s 16 (s.1 13 9)).bind fun x1 => (cond (db_cnd .ne x1 0) (some false) (some true)))
set_option maxRecDepth 100000 in
theorem db_f55_ok {X : db_X} {d : Nat} {s : db_S} : db_Rf X (d + 0) dbm_55 0 (lv_args 0 [.ref 13]) [] s (db_yB s) (db_f55 s ) := by
  show db_Rf _ _ _ 0 [(0, .ref 13)] [] _ _ _
  unfold db_f55
  refine db_Rgo (pc' := 8) (lv' := [(0, .ref 13)]) (st' := [.int (s.1 13 9), .ref 16]) 4 rfl ?_
  refine db_RldI (pc' := 9) (lv1 := [(0, .ref 13)]) rfl rfl rfl fun x1 => ?_
  refine db_Rif (pc' := 12) (tg := 16) (lv1 := [(0, .ref 13)]) rfl rfl rfl rfl ?_ ?_
  · refine db_Rgo (pc' := 17) (lv' := []) (st' := [.int (0 : Int32)]) 1 rfl ?_
    exact db_Rret (lv1 := []) rfl rfl rfl rfl
  refine db_Rgo (pc' := 17) (lv' := [(0, .ref 13)]) (st' := [.int (1 : Int32)]) 2 rfl ?_
  exact db_Rret (lv1 := []) rfl rfl rfl rfl
/-- DreamBook$Scanner.keyword()I -/
noncomputable def db_f57 (s : db_S) : Option Int32 :=
  ((db_rI s 16 (s.1 13 9)).bind fun x1 => (cond (db_cnd .ne x1 (1 : Int32)) (some (-1 : Int32)) ((db_rI s 18 (s.1 13 9)).bind fun x2 => (some x2))))
set_option maxRecDepth 100000 in
theorem db_f57_ok {X : db_X} {d : Nat} {s : db_S} : db_Rf X (d + 0) dbm_57 0 (lv_args 0 [.ref 13]) [] s (db_yI s) (db_f57 s ) := by
  show db_Rf _ _ _ 0 [(0, .ref 13)] [] _ _ _
  unfold db_f57
  refine db_Rgo (pc' := 8) (lv' := [(0, .ref 13)]) (st' := [.int (s.1 13 9), .ref 16]) 4 rfl ?_
  refine db_RldI (pc' := 9) (lv1 := [(0, .ref 13)]) rfl rfl rfl fun x1 => ?_
  refine db_Rgo (pc' := 10) (lv' := [(0, .ref 13)]) (st' := [.int (1 : Int32), .int x1]) 1 rfl ?_
  refine db_Ric (pc' := 13) (tg := 25) (lv1 := [(0, .ref 13)]) rfl rfl rfl rfl ?_ ?_
  · refine db_Rgo (pc' := 26) (lv' := []) (st' := [.int (-1 : Int32)]) 1 rfl ?_
    exact db_Rret (lv1 := []) rfl rfl rfl rfl
  refine db_Rgo (pc' := 21) (lv' := [(0, .ref 13)]) (st' := [.int (s.1 13 9), .ref 18]) 4 rfl ?_
  refine db_RldI (pc' := 22) (lv1 := [(0, .ref 13)]) rfl rfl rfl fun x2 => ?_
  refine db_Rgo (pc' := 26) (lv' := [(0, .ref 13)]) (st' := [.int x2]) 1 rfl ?_
  exact db_Rret (lv1 := []) rfl rfl rfl rfl
/-- DreamBook$BookParser.most(I)I -/
noncomputable def db_f59 (s : db_S) (v0 : Int32) : Option Int32 :=
  (if v0 = (0 : Int32) then (some (10 : Int32)) else (if v0 = (1 : Int32) then (some (4 : Int32)) else (if v0 = (2 : Int32) then (some (3 : Int32)) else (if v0 = (3 : Int32) then (some (12 : Int32)) else (if v0 = (4 : Int32) then (some (12 : Int32)) else (some (8 : Int32)))))))
set_option maxRecDepth 100000 in
theorem db_f59_ok {X : db_X} {d : Nat} {s : db_S} {v0 : Int32} : db_Rf X (d + 0) dbm_59 0 (lv_args 0 [.int v0]) [] s (db_yI s) (db_f59 s v0) := by
  show db_Rf _ _ _ 0 [(0, .int v0)] [] _ _ _
  unfold db_f59
  refine db_Rgo (pc' := 1) (lv' := [(0, .int v0)]) (st' := [.int v0]) 1 rfl ?_
  refine db_Rsw (v := (0 : Int32)) (tg := 36) (lv1 := [(0, .int v0)]) rfl rfl rfl rfl rfl ?_ (fun zc1 => ?_)
  · refine db_Rgo (pc' := 38) (lv' := []) (st' := [.int (10 : Int32)]) 1 rfl ?_
    exact db_Rret (lv1 := []) rfl rfl rfl rfl
  refine db_Rsw (v := (1 : Int32)) (tg := 39) (lv1 := [(0, .int v0)]) rfl rfl rfl rfl rfl ?_ (fun zc2 => ?_)
  · refine db_Rgo (pc' := 40) (lv' := []) (st' := [.int (4 : Int32)]) 1 rfl ?_
    exact db_Rret (lv1 := []) rfl rfl rfl rfl
  refine db_Rsw (v := (2 : Int32)) (tg := 41) (lv1 := [(0, .int v0)]) rfl rfl rfl rfl rfl ?_ (fun zc3 => ?_)
  · refine db_Rgo (pc' := 42) (lv' := []) (st' := [.int (3 : Int32)]) 1 rfl ?_
    exact db_Rret (lv1 := []) rfl rfl rfl rfl
  refine db_Rsw (v := (3 : Int32)) (tg := 43) (lv1 := [(0, .int v0)]) rfl rfl rfl rfl rfl ?_ (fun zc4 => ?_)
  · refine db_Rgo (pc' := 45) (lv' := []) (st' := [.int (12 : Int32)]) 1 rfl ?_
    exact db_Rret (lv1 := []) rfl rfl rfl rfl
  refine db_Rsw (v := (4 : Int32)) (tg := 46) (lv1 := [(0, .int v0)]) rfl rfl rfl rfl rfl ?_ (fun zc5 => ?_)
  · refine db_Rgo (pc' := 48) (lv' := []) (st' := [.int (12 : Int32)]) 1 rfl ?_
    exact db_Rret (lv1 := []) rfl rfl rfl rfl
  refine db_Rsd (tg := 49) (lv1 := [(0, .int v0)]) rfl rfl (db_swd 5 (by decide) (fun k hk => by match k, hk with | 0, _ => exact zc1 | 1, _ => exact zc2 | 2, _ => exact zc3 | 3, _ => exact zc4 | 4, _ => exact zc5 | k + 5, hk => exact absurd hk (by omega))) rfl ?_
  refine db_Rgo (pc' := 51) (lv' := []) (st' := [.int (8 : Int32)]) 1 rfl ?_
  exact db_Rret (lv1 := []) rfl rfl rfl rfl
/-- DreamBook$Scanner.advance()V -/
noncomputable def db_f60 (s : db_S) : Option db_S :=
  ((db_rI s 16 (s.1 13 9)).bind fun x1 => (cond (db_cnd .eq x1 0) (some s) ((db_pI s 13 9 ((s.1 13 9) + (1 : Int32))).bind fun s2 => (some s2))))
set_option maxRecDepth 100000 in
theorem db_f60_ok {X : db_X} {d : Nat} {s : db_S} : db_Rf X (d + 0) dbm_60 0 (lv_args 0 [.ref 13]) [] s db_zV (db_f60 s ) := by
  show db_Rf _ _ _ 0 [(0, .ref 13)] [] _ _ _
  unfold db_f60
  refine db_Rgo (pc' := 8) (lv' := [(0, .ref 13)]) (st' := [.int (s.1 13 9), .ref 16]) 4 rfl ?_
  refine db_RldI (pc' := 9) (lv1 := [(0, .ref 13)]) rfl rfl rfl fun x1 => ?_
  refine db_Rif (pc' := 12) (tg := 22) (lv1 := [(0, .ref 13)]) rfl rfl rfl rfl ?_ ?_
  · exact db_Rret (lv1 := []) rfl rfl rfl rfl
  refine db_Rgo (pc' := 19) (lv' := [(0, .ref 13)]) (st' := [.int ((s.1 13 9) + (1 : Int32)), .ref 13]) 5 rfl ?_
  refine db_RpuI (pc' := 22) (lv1 := [(0, .ref 13)]) rfl rfl rfl rfl rfl rfl (by decide) rfl rfl fun s2 => ?_
  exact db_Rret (lv1 := []) rfl rfl rfl rfl
/-- DreamBook$Scanner.isName()Z -/
noncomputable def db_f62 (s : db_S) : Option Bool :=
  ((db_rI s 16 (s.1 13 9)).bind fun x1 => (cond (db_cnd .ne x1 (1 : Int32)) (some false) ((db_rL s 19 (s.1 13 9)).bind fun x2 => (cond (db_cnd .eq (lg_cmp x2 (-1 : Int64)) 0) (some false) ((db_rI s 18 (s.1 13 9)).bind fun x3 => (cond (db_cnd .ne x3 (-1 : Int32)) (some false) (some true)))))))
set_option maxRecDepth 100000 in
theorem db_f62_ok {X : db_X} {d : Nat} {s : db_S} : db_Rf X (d + 0) dbm_62 0 (lv_args 0 [.ref 13]) [] s (db_yB s) (db_f62 s ) := by
  show db_Rf _ _ _ 0 [(0, .ref 13)] [] _ _ _
  unfold db_f62
  refine db_Rgo (pc' := 8) (lv' := [(0, .ref 13)]) (st' := [.int (s.1 13 9), .ref 16]) 4 rfl ?_
  refine db_RldI (pc' := 9) (lv1 := [(0, .ref 13)]) rfl rfl rfl fun x1 => ?_
  refine db_Rgo (pc' := 10) (lv' := [(0, .ref 13)]) (st' := [.int (1 : Int32), .int x1]) 1 rfl ?_
  refine db_Ric (pc' := 13) (tg := 46) (lv1 := [(0, .ref 13)]) rfl rfl rfl rfl ?_ ?_
  · refine db_Rgo (pc' := 47) (lv' := []) (st' := [.int (0 : Int32)]) 1 rfl ?_
    exact db_Rret (lv1 := []) rfl rfl rfl rfl
  refine db_Rgo (pc' := 21) (lv' := [(0, .ref 13)]) (st' := [.int (s.1 13 9), .ref 19]) 4 rfl ?_
  refine db_RldL (pc' := 22) (lv1 := [(0, .ref 13)]) rfl rfl rfl fun x2 => ?_
  refine db_Rgo (pc' := 26) (lv' := [(0, .ref 13)]) (st' := [.int (lg_cmp x2 (-1 : Int64))]) 2 rfl ?_
  refine db_Rif (pc' := 29) (tg := 46) (lv1 := [(0, .ref 13)]) rfl rfl rfl rfl ?_ ?_
  · refine db_Rgo (pc' := 47) (lv' := []) (st' := [.int (0 : Int32)]) 1 rfl ?_
    exact db_Rret (lv1 := []) rfl rfl rfl rfl
  refine db_Rgo (pc' := 37) (lv' := [(0, .ref 13)]) (st' := [.int (s.1 13 9), .ref 18]) 4 rfl ?_
  refine db_RldI (pc' := 38) (lv1 := [(0, .ref 13)]) rfl rfl rfl fun x3 => ?_
  refine db_Rgo (pc' := 39) (lv' := [(0, .ref 13)]) (st' := [.int (-1 : Int32), .int x3]) 1 rfl ?_
  refine db_Ric (pc' := 42) (tg := 46) (lv1 := [(0, .ref 13)]) rfl rfl rfl rfl ?_ ?_
  · refine db_Rgo (pc' := 47) (lv' := []) (st' := [.int (0 : Int32)]) 1 rfl ?_
    exact db_Rret (lv1 := []) rfl rfl rfl rfl
  refine db_Rgo (pc' := 47) (lv' := [(0, .ref 13)]) (st' := [.int (1 : Int32)]) 2 rfl ?_
  exact db_Rret (lv1 := []) rfl rfl rfl rfl
noncomputable def db_f63_146_b2 (s : db_S) : Nat → Int64 → Int32 → Option Bool
  | 0, _, _ => none
  | n + 1, v1, v3 =>
    (cond (db_cnd .ge v3 (s.1 146 18)) (some false) ((db_rL s 202 v3).bind fun x1 => (cond (db_cnd .ne (lg_cmp x1 v1) 0) (db_f63_146_b2 s n v1 (v3 + (1 : Int32))) (some true))))
set_option maxRecDepth 100000 in
theorem db_f63_146_b2_ok {X : db_X} {d : Nat} {s : db_S} (n : Nat) : ∀ (v1 : Int64) (v3 : Int32), db_Rf X (d + 0) dbm_63 2 [(0, .ref 146), (1, .long v1), (3, .int v3)] [] s (db_yB s) (db_f63_146_b2 s n v1 v3) := by
  induction n with
  | zero => intros; exact db_Rnone
  | succ n ih =>
    intro v1 v3
    unfold db_f63_146_b2
    refine db_Rgo (pc' := 7) (lv' := [(0, .ref 146), (1, .long v1), (3, .int v3)]) (st' := [.int (s.1 146 18), .int v3]) 3 rfl ?_
    refine db_Ric (pc' := 10) (tg := 29) (lv1 := [(0, .ref 146), (1, .long v1), (3, .int v3)]) rfl rfl rfl rfl ?_ ?_
    · refine db_Rgo (pc' := 30) (lv' := []) (st' := [.int (0 : Int32)]) 1 rfl ?_
      exact db_Rret (lv1 := []) rfl rfl rfl rfl
    refine db_Rgo (pc' := 15) (lv' := [(0, .ref 146), (1, .long v1), (3, .int v3)]) (st' := [.int v3, .ref 202]) 3 rfl ?_
    refine db_RldL (pc' := 16) (lv1 := [(0, .ref 146), (1, .long v1), (3, .int v3)]) rfl rfl rfl fun x1 => ?_
    refine db_Rgo (pc' := 18) (lv' := [(0, .ref 146), (1, .long v1), (3, .int v3)]) (st' := [.int (lg_cmp x1 v1)]) 2 rfl ?_
    refine db_Rif (pc' := 21) (tg := 23) (lv1 := [(0, .ref 146), (1, .long v1), (3, .int v3)]) rfl rfl rfl rfl ?_ ?_
    · refine db_Rgo (pc' := 2) (lv' := [(3, .int (v3 + (1 : Int32))), (0, .ref 146), (1, .long v1)]) (st' := []) 2 rfl ?_
      refine db_Rn (lv1 := [(0, .ref 146), (1, .long v1), (3, .int (v3 + (1 : Int32)))]) rfl rfl rfl ?_
      exact ih _ _
    refine db_Rgo (pc' := 22) (lv' := [(0, .ref 146), (1, .long v1), (3, .int v3)]) (st' := [.int (1 : Int32)]) 1 rfl ?_
    exact db_Rret (lv1 := [(0, .ref 146), (1, .long v1), (3, .int v3)]) rfl rfl rfl rfl
/-- DreamBook$Told.isTaken(J)Z -/
noncomputable def db_f63_146 (s : db_S) (v1 : Int64) : Option Bool :=
  (db_f63_146_b2 s db_FU v1 (0 : Int32))
set_option maxRecDepth 100000 in
theorem db_f63_146_ok {X : db_X} {d : Nat} {s : db_S} {v1 : Int64} : db_Rf X (d + 0) dbm_63 0 (lv_args 0 [.ref 146, .long v1]) [] s (db_yB s) (db_f63_146 s v1) := by
  show db_Rf _ _ _ 0 [(0, .ref 146), (1, .long v1)] [] _ _ _
  unfold db_f63_146
  refine db_Rgo (pc' := 2) (lv' := [(3, .int (0 : Int32)), (0, .ref 146), (1, .long v1)]) (st' := []) 2 rfl ?_
  refine db_Rn (lv1 := [(0, .ref 146), (1, .long v1), (3, .int (0 : Int32))]) rfl rfl rfl ?_
  exact db_f63_146_b2_ok db_FU _ _
noncomputable def db_f64_146_b54 (s : db_S) (v3 : Int32) : Option db_S :=
  ((db_rI s 147 v3).bind fun x1 => ((db_wI s 147 v3 (x1 + (1 : Int32))).bind fun s2 => (some s2)))
set_option maxRecDepth 100000 in
theorem db_f64_146_b54_ok {X : db_X} {d : Nat}  {s : db_S} {v3 : Int32} : db_Rf X (d + 0) dbm_64 54 [(0, .ref 146), (3, .int v3)] [] s db_zV (db_f64_146_b54 s v3) := by
  unfold db_f64_146_b54
  refine db_Rgo (pc' := 60) (lv' := [(0, .ref 146), (3, .int v3)]) (st' := [.int v3, .ref 147, .int v3, .ref 147]) 4 rfl ?_
  refine db_RldI (pc' := 61) (lv1 := [(0, .ref 146), (3, .int v3)]) rfl rfl rfl fun x1 => ?_
  refine db_Rgo (pc' := 63) (lv' := [(0, .ref 146), (3, .int v3)]) (st' := [.int (x1 + (1 : Int32)), .int v3, .ref 147]) 2 rfl ?_
  refine db_RstI (pc' := 64) (lv1 := [(0, .ref 146), (3, .int v3)]) rfl rfl rfl fun s2 => ?_
  exact db_Rret (lv1 := [(0, .ref 146), (3, .int v3)]) rfl rfl rfl rfl
/-- DreamBook$Told.addName(JI)V -/
noncomputable def db_f64_146 (s : db_S) (v1 : Int64) (v3 : Int32) : Option db_S :=
  (cond (db_cnd .ge (s.1 146 18) (37 : Int32)) (db_f64_146_b54 s v3) ((db_wL s 202 (s.1 146 18) v1).bind fun s1 => ((db_wI s1 203 (s1.1 146 18) v3).bind fun s2 => ((db_rI s2 147 v3).bind fun x3 => ((db_wI s2 204 (s2.1 146 18) x3).bind fun s4 => ((db_pI s4 146 18 ((s4.1 146 18) + (1 : Int32))).bind fun s5 => (db_f64_146_b54 s5 v3)))))))
set_option maxRecDepth 100000 in
theorem db_f64_146_ok {X : db_X} {d : Nat} {s : db_S} {v1 : Int64} {v3 : Int32} : db_Rf X (d + 0) dbm_64 0 (lv_args 0 [.ref 146, .long v1, .int v3]) [] s db_zV (db_f64_146 s v1 v3) := by
  show db_Rf _ _ _ 0 [(0, .ref 146), (1, .long v1), (3, .int v3)] [] _ _ _
  unfold db_f64_146
  refine db_Rgo (pc' := 6) (lv' := [(0, .ref 146), (1, .long v1), (3, .int v3)]) (st' := [.int (37 : Int32), .int (s.1 146 18)]) 3 rfl ?_
  refine db_Ric (pc' := 9) (tg := 54) (lv1 := [(0, .ref 146), (1, .long v1), (3, .int v3)]) rfl rfl rfl rfl ?_ ?_
  · refine db_Rn (lv1 := [(0, .ref 146), (3, .int v3)]) rfl rfl rfl ?_
    exact db_f64_146_b54_ok
  refine db_Rgo (pc' := 18) (lv' := [(0, .ref 146), (1, .long v1), (3, .int v3)]) (st' := [.long v1, .int (s.1 146 18), .ref 202]) 5 rfl ?_
  refine db_RstL (pc' := 19) (lv1 := [(0, .ref 146), (1, .long v1), (3, .int v3)]) rfl rfl rfl fun s1 => ?_
  refine db_Rgo (pc' := 28) (lv' := [(0, .ref 146), (1, .long v1), (3, .int v3)]) (st' := [.int v3, .int (s1.1 146 18), .ref 203]) 5 rfl ?_
  refine db_RstI (pc' := 29) (lv1 := [(0, .ref 146), (1, .long v1), (3, .int v3)]) rfl rfl rfl fun s2 => ?_
  refine db_Rgo (pc' := 42) (lv' := [(0, .ref 146), (1, .long v1), (3, .int v3)]) (st' := [.int v3, .ref 147, .int (s2.1 146 18), .ref 204]) 7 rfl ?_
  refine db_RldI (pc' := 43) (lv1 := [(0, .ref 146), (1, .long v1), (3, .int v3)]) rfl rfl rfl fun x3 => ?_
  refine db_RstI (pc' := 44) (lv1 := [(0, .ref 146), (1, .long v1), (3, .int v3)]) rfl rfl rfl fun s4 => ?_
  refine db_Rgo (pc' := 51) (lv' := [(0, .ref 146), (1, .long v1), (3, .int v3)]) (st' := [.int ((s4.1 146 18) + (1 : Int32)), .ref 146]) 5 rfl ?_
  refine db_RpuI (pc' := 54) (lv1 := [(0, .ref 146), (1, .long v1), (3, .int v3)]) rfl rfl rfl rfl rfl rfl (by decide) rfl rfl fun s5 => ?_
  refine db_Rn (lv1 := [(0, .ref 146), (3, .int v3)]) rfl rfl rfl ?_
  exact db_f64_146_b54_ok
noncomputable def db_f58_b19 (s : db_S) (t1 : Int32) : Option (Bool × db_S) :=
  ((db_pI s 13 2 t1).bind fun s1 => ((db_rI s1 17 (s1.1 13 9)).bind fun x2 => ((db_pI s1 13 3 x2).bind fun s3 => (some (false, s3)))))
set_option maxRecDepth 100000 in
theorem db_f58_b19_ok {X : db_X} {d : Nat}  {s : db_S} {t1 : Int32} : db_Rf X (d + 0) dbm_58 19 [(0, .ref 13)] [.int t1, .ref 13] s db_zB (db_f58_b19 s t1) := by
  unfold db_f58_b19
  refine db_RpuI (pc' := 22) (lv1 := [(0, .ref 13)]) rfl rfl rfl rfl rfl rfl (by decide) rfl rfl fun s1 => ?_
  refine db_Rgo (pc' := 31) (lv' := [(0, .ref 13)]) (st' := [.int (s1.1 13 9), .ref 17, .ref 13]) 5 rfl ?_
  refine db_RldI (pc' := 32) (lv1 := [(0, .ref 13)]) rfl rfl rfl fun x2 => ?_
  refine db_RpuI (pc' := 35) (lv1 := [(0, .ref 13)]) rfl rfl rfl rfl rfl rfl (by decide) rfl rfl fun s3 => ?_
  refine db_Rgo (pc' := 36) (lv' := [(0, .ref 13)]) (st' := [.int (0 : Int32)]) 1 rfl ?_
  exact db_Rret (lv1 := [(0, .ref 13)]) rfl rfl rfl rfl
/-- DreamBook$Scanner.fail(I)Z -/
noncomputable def db_f58 (s : db_S) (v1 : Int32) : Option (Bool × db_S) :=
  ((db_rI s 16 (s.1 13 9)).bind fun x1 => (cond (db_cnd .ne x1 (4 : Int32)) (db_f58_b19 s v1) (db_f58_b19 s (1 : Int32))))
set_option maxRecDepth 100000 in
theorem db_f58_ok {X : db_X} {d : Nat} {s : db_S} {v1 : Int32} : db_Rf X (d + 0) dbm_58 0 (lv_args 0 [.ref 13, .int v1]) [] s db_zB (db_f58 s v1) := by
  show db_Rf _ _ _ 0 [(0, .ref 13), (1, .int v1)] [] _ _ _
  unfold db_f58
  refine db_Rgo (pc' := 9) (lv' := [(0, .ref 13), (1, .int v1)]) (st' := [.int (s.1 13 9), .ref 16, .ref 13]) 5 rfl ?_
  refine db_RldI (pc' := 10) (lv1 := [(0, .ref 13), (1, .int v1)]) rfl rfl rfl fun x1 => ?_
  refine db_Rgo (pc' := 11) (lv' := [(0, .ref 13), (1, .int v1)]) (st' := [.int (4 : Int32), .int x1, .ref 13]) 1 rfl ?_
  refine db_Ric (pc' := 14) (tg := 18) (lv1 := [(0, .ref 13), (1, .int v1)]) rfl rfl rfl rfl ?_ ?_
  · refine db_Rgo (pc' := 19) (lv' := [(0, .ref 13), (1, .int v1)]) (st' := [.int v1, .ref 13]) 1 rfl ?_
    refine db_Rn (lv1 := [(0, .ref 13)]) rfl rfl rfl ?_
    exact db_f58_b19_ok
  refine db_Rgo (pc' := 19) (lv' := [(0, .ref 13), (1, .int v1)]) (st' := [.int (1 : Int32), .ref 13]) 2 rfl ?_
  refine db_Rn (lv1 := [(0, .ref 13)]) rfl rfl rfl ?_
  exact db_f58_b19_ok
/-- DreamBook$Scanner.takeNewName(LDreamBook$Told;I)Z -/
noncomputable def db_f61_146 (s : db_S) (v2 : Int32) : Option (Bool × db_S) :=
  ((db_f62 s).bind fun q1 => (cond q1 ((db_rL s 19 (s.1 13 9)).bind fun x3 => ((db_f63_146 s x3).bind fun q4 => (cond q4 (db_bd (db_f58 s (3 : Int32)) fun q11 s12 => (some (q11, s12))) ((db_rL s 19 (s.1 13 9)).bind fun x6 => ((db_f64_146 s x6 v2).bind fun s8 => ((db_f60 s8).bind fun s10 => (some (true, s10)))))))) (db_bd (db_f58 s (2 : Int32)) fun q13 s14 => (some (q13, s14)))))
set_option maxRecDepth 100000 in
theorem db_f61_146_ok {X : db_X} {d : Nat} {s : db_S} {v2 : Int32} : db_Rf X (d + 1) dbm_61 0 (lv_args 0 [.ref 13, .ref 146, .int v2]) [] s db_zB (db_f61_146 s v2) := by
  show db_Rf _ _ _ 0 [(0, .ref 13), (1, .ref 146), (2, .int v2)] [] _ _ _
  unfold db_f61_146
  refine db_Rgo (pc' := 1) (lv' := [(0, .ref 13), (1, .ref 146), (2, .int v2)]) (st' := [.ref 13]) 1 rfl ?_
  refine db_RcyB (mr' := dbm_62) (as := [.ref 13]) (rest := []) (pc' := 4) (lv1 := [(0, .ref 13), (1, .ref 146), (2, .int v2)]) rfl rfl rfl rfl rfl (db_f62_ok) fun q1 => ?_
  refine db_RifBn (pc' := 7) (tg := 13) (lv1 := [(0, .ref 13), (1, .ref 146), (2, .int v2)]) rfl rfl rfl rfl ?_ ?_
  · refine db_Rgo (pc' := 22) (lv' := [(0, .ref 13), (1, .ref 146), (2, .int v2)]) (st' := [.int (s.1 13 9), .ref 19, .ref 146]) 5 rfl ?_
    refine db_RldL (pc' := 23) (lv1 := [(0, .ref 13), (1, .ref 146), (2, .int v2)]) rfl rfl rfl fun x3 => ?_
    refine db_RcyB (mr' := dbm_63) (as := [.ref 146, .long x3]) (rest := []) (pc' := 26) (lv1 := [(0, .ref 13), (1, .ref 146), (2, .int v2)]) rfl rfl rfl rfl rfl (db_f63_146_ok) fun q4 => ?_
    refine db_RifBe (pc' := 29) (tg := 35) (lv1 := [(0, .ref 13), (1, .ref 146), (2, .int v2)]) rfl rfl rfl rfl ?_ ?_
    · refine db_Rgo (pc' := 44) (lv' := [(0, .ref 13), (1, .ref 146), (2, .int v2)]) (st' := [.int (s.1 13 9), .ref 19, .ref 146]) 5 rfl ?_
      refine db_RldL (pc' := 45) (lv1 := [(0, .ref 13), (1, .ref 146), (2, .int v2)]) rfl rfl rfl fun x6 => ?_
      refine db_Rgo (pc' := 46) (lv' := [(0, .ref 13), (1, .ref 146), (2, .int v2)]) (st' := [.int v2, .long x6, .ref 146]) 1 rfl ?_
      refine db_RcV (mr' := dbm_64) (as := [.ref 146, .long x6, .int v2]) (rest := []) (pc' := 49) (lv1 := [(0, .ref 13), (1, .ref 146), (2, .int v2)]) rfl rfl rfl rfl rfl (db_f64_146_ok) fun s8 => ?_
      refine db_Rgo (pc' := 50) (lv' := [(0, .ref 13), (1, .ref 146), (2, .int v2)]) (st' := [.ref 13]) 1 rfl ?_
      refine db_RcV (mr' := dbm_60) (as := [.ref 13]) (rest := []) (pc' := 53) (lv1 := [(0, .ref 13), (1, .ref 146), (2, .int v2)]) rfl rfl rfl rfl rfl (db_f60_ok) fun s10 => ?_
      refine db_Rgo (pc' := 54) (lv' := [(0, .ref 13), (1, .ref 146), (2, .int v2)]) (st' := [.int (1 : Int32)]) 1 rfl ?_
      exact db_Rret (lv1 := [(0, .ref 13), (1, .ref 146), (2, .int v2)]) rfl rfl rfl rfl
    refine db_Rgo (pc' := 31) (lv' := [(0, .ref 13), (1, .ref 146), (2, .int v2)]) (st' := [.int (3 : Int32), .ref 13]) 2 rfl ?_
    refine db_RcdB (mr' := dbm_58) (as := [.ref 13, .int (3 : Int32)]) (rest := []) (pc' := 34) (lv1 := [(0, .ref 13), (1, .ref 146), (2, .int v2)]) rfl rfl rfl rfl rfl (db_f58_ok) fun q11 s12 => ?_
    exact db_RretB (lv1 := [(0, .ref 13), (1, .ref 146), (2, .int v2)]) rfl rfl rfl rfl
  refine db_Rgo (pc' := 9) (lv' := [(0, .ref 13), (1, .ref 146), (2, .int v2)]) (st' := [.int (2 : Int32), .ref 13]) 2 rfl ?_
  refine db_RcdB (mr' := dbm_58) (as := [.ref 13, .int (2 : Int32)]) (rest := []) (pc' := 12) (lv1 := [(0, .ref 13), (1, .ref 146), (2, .int v2)]) rfl rfl rfl rfl rfl (db_f58_ok) fun q13 s14 => ?_
  exact db_RretB (lv1 := [(0, .ref 13), (1, .ref 146), (2, .int v2)]) rfl rfl rfl rfl
/-- DreamBook$Scanner.takeIf(I)Z -/
noncomputable def db_f66 (s : db_S) (v1 : Int32) : Option (Bool × db_S) :=
  ((db_f57 s).bind fun q1 => (cond (db_cnd .eq q1 v1) ((db_f60 s).bind fun s4 => (some (true, s4))) (some (false, s))))
set_option maxRecDepth 100000 in
theorem db_f66_ok {X : db_X} {d : Nat} {s : db_S} {v1 : Int32} : db_Rf X (d + 1) dbm_66 0 (lv_args 0 [.ref 13, .int v1]) [] s db_zB (db_f66 s v1) := by
  show db_Rf _ _ _ 0 [(0, .ref 13), (1, .int v1)] [] _ _ _
  unfold db_f66
  refine db_Rgo (pc' := 1) (lv' := [(0, .ref 13), (1, .int v1)]) (st' := [.ref 13]) 1 rfl ?_
  refine db_RcyI (mr' := dbm_57) (as := [.ref 13]) (rest := []) (pc' := 4) (lv1 := [(0, .ref 13), (1, .int v1)]) rfl rfl rfl rfl rfl (db_f57_ok) fun q1 => ?_
  refine db_Rgo (pc' := 5) (lv' := [(0, .ref 13), (1, .int v1)]) (st' := [.int v1, .int q1]) 1 rfl ?_
  refine db_Ric (pc' := 8) (tg := 10) (lv1 := [(0, .ref 13), (1, .int v1)]) rfl rfl rfl rfl ?_ ?_
  · refine db_Rgo (pc' := 11) (lv' := [(0, .ref 13)]) (st' := [.ref 13]) 1 rfl ?_
    refine db_RcV (mr' := dbm_60) (as := [.ref 13]) (rest := []) (pc' := 14) (lv1 := [(0, .ref 13)]) rfl rfl rfl rfl rfl (db_f60_ok) fun s4 => ?_
    refine db_Rgo (pc' := 15) (lv' := [(0, .ref 13)]) (st' := [.int (1 : Int32)]) 1 rfl ?_
    exact db_Rret (lv1 := [(0, .ref 13)]) rfl rfl rfl rfl
  refine db_Rgo (pc' := 9) (lv' := [(0, .ref 13), (1, .int v1)]) (st' := [.int (0 : Int32)]) 1 rfl ?_
  exact db_Rret (lv1 := [(0, .ref 13), (1, .int v1)]) rfl rfl rfl rfl
noncomputable def db_f65_b47 (s : db_S) (t0 : Nat) (t1 : Int32) (t2 : Int32) : Option (Bool × db_S) :=
  ((db_wI s t0 t1 t2).bind fun s1 => (some (true, s1)))
set_option maxRecDepth 100000 in
theorem db_f65_b47_ok {X : db_X} {d : Nat}  {s : db_S} {t0 : Nat} {t1 : Int32} {t2 : Int32} : db_Rf X (d + 2) dbm_65 47 [] [.int t2, .int t1, .ref (t0 + 4)] s db_zB (db_f65_b47 s (t0 + 4) t1 t2) := by
  unfold db_f65_b47
  refine db_RstI (pc' := 48) (lv1 := []) rfl rfl rfl fun s1 => ?_
  refine db_Rgo (pc' := 49) (lv' := []) (st' := [.int (1 : Int32)]) 1 rfl ?_
  exact db_Rret (lv1 := []) rfl rfl rfl rfl
/-- DreamBook$BookParser.parseOne(I[II)Z -/
noncomputable def db_f65 (s : db_S) (v1 : Int32) (a2 : Nat) (v3 : Int32) : Option (Bool × db_S) :=
  ((db_rI s 147 v1).bind fun x1 => (db_bd (db_f61_146 s v1) fun q2 s3 => (cond q2 (db_bd (db_f66 s3 v3) fun q4 s5 => (cond q4 (db_f65_b47 s5 a2 x1 (1 : Int32)) (db_f65_b47 s5 a2 x1 (0 : Int32)))) (some (false, s3)))))
set_option maxRecDepth 100000 in
theorem db_f65_ok {X : db_X} {d : Nat} {s : db_S} {v1 : Int32} {a2 : Nat} {v3 : Int32} : db_Rf X (d + 2) dbm_65 0 (lv_args 0 [.ref 145, .int v1, .ref (a2 + 4), .int v3]) [] s db_zB (db_f65 s v1 (a2 + 4) v3) := by
  show db_Rf _ _ _ 0 [(0, .ref 145), (1, .int v1), (2, .ref (a2 + 4)), (3, .int v3)] [] _ _ _
  unfold db_f65
  refine db_Rgo (pc' := 8) (lv' := [(0, .ref 145), (1, .int v1), (2, .ref (a2 + 4)), (3, .int v3)]) (st' := [.int v1, .ref 147]) 4 rfl ?_
  refine db_RldI (pc' := 9) (lv1 := [(0, .ref 145), (1, .int v1), (2, .ref (a2 + 4)), (3, .int v3)]) rfl rfl rfl fun x1 => ?_
  refine db_Rgo (pc' := 20) (lv' := [(4, .int x1), (0, .ref 145), (1, .int v1), (2, .ref (a2 + 4)), (3, .int v3)]) (st' := [.int v1, .ref 146, .ref 13]) 6 rfl ?_
  refine db_RcdB (mr' := dbm_61) (as := [.ref 13, .ref 146, .int v1]) (rest := []) (pc' := 23) (lv1 := [(4, .int x1), (0, .ref 145), (1, .int v1), (2, .ref (a2 + 4)), (3, .int v3)]) rfl rfl rfl rfl rfl (db_f61_146_ok) fun q2 s3 => ?_
  refine db_RifBn (pc' := 26) (tg := 28) (lv1 := [(4, .int x1), (0, .ref 145), (1, .int v1), (2, .ref (a2 + 4)), (3, .int v3)]) rfl rfl rfl rfl ?_ ?_
  · refine db_Rgo (pc' := 36) (lv' := [(0, .ref 145), (2, .ref (a2 + 4)), (3, .int v3), (4, .int x1)]) (st' := [.int v3, .ref 13, .int x1, .ref (a2 + 4)]) 5 rfl ?_
    refine db_RcdB (mr' := dbm_66) (as := [.ref 13, .int v3]) (rest := [.int x1, .ref (a2 + 4)]) (pc' := 39) (lv1 := [(0, .ref 145), (2, .ref (a2 + 4)), (3, .int v3), (4, .int x1)]) rfl rfl rfl rfl rfl (db_f66_ok) fun q4 s5 => ?_
    refine db_RifBe (pc' := 42) (tg := 46) (lv1 := [(0, .ref 145), (2, .ref (a2 + 4)), (3, .int v3), (4, .int x1)]) rfl rfl rfl rfl ?_ ?_
    · refine db_Rgo (pc' := 47) (lv' := []) (st' := [.int (0 : Int32), .int x1, .ref (a2 + 4)]) 1 rfl ?_
      exact db_f65_b47_ok
    refine db_Rgo (pc' := 47) (lv' := [(0, .ref 145), (2, .ref (a2 + 4)), (3, .int v3), (4, .int x1)]) (st' := [.int (1 : Int32), .int x1, .ref (a2 + 4)]) 2 rfl ?_
    refine db_Rn (lv1 := []) rfl rfl rfl ?_
    exact db_f65_b47_ok
  refine db_Rgo (pc' := 27) (lv' := [(4, .int x1), (0, .ref 145), (1, .int v1), (2, .ref (a2 + 4)), (3, .int v3)]) (st' := [.int (0 : Int32)]) 1 rfl ?_
  exact db_Rret (lv1 := [(4, .int x1), (0, .ref 145), (1, .int v1), (2, .ref (a2 + 4)), (3, .int v3)]) rfl rfl rfl rfl
/-- DreamBook$Scanner.take(I)Z -/
noncomputable def db_f68 (s : db_S) (v1 : Int32) : Option (Bool × db_S) :=
  (db_bd (db_f66 s v1) fun q1 s2 => (cond q1 (some (true, s2)) (db_bd (db_f58 s2 (2 : Int32)) fun q3 s4 => (cond q3 (some (true, s4)) (some (false, s4))))))
set_option maxRecDepth 100000 in
theorem db_f68_ok {X : db_X} {d : Nat} {s : db_S} {v1 : Int32} : db_Rf X (d + 2) dbm_68 0 (lv_args 0 [.ref 13, .int v1]) [] s db_zB (db_f68 s v1) := by
  show db_Rf _ _ _ 0 [(0, .ref 13), (1, .int v1)] [] _ _ _
  unfold db_f68
  refine db_Rgo (pc' := 2) (lv' := [(0, .ref 13), (1, .int v1)]) (st' := [.int v1, .ref 13]) 2 rfl ?_
  refine db_RcdB (mr' := dbm_66) (as := [.ref 13, .int v1]) (rest := []) (pc' := 5) (lv1 := [(0, .ref 13), (1, .int v1)]) rfl rfl rfl rfl rfl (db_f66_ok) fun q1 s2 => ?_
  refine db_RifBn (pc' := 8) (tg := 16) (lv1 := [(0, .ref 13), (1, .int v1)]) rfl rfl rfl rfl ?_ ?_
  · refine db_Rgo (pc' := 21) (lv' := []) (st' := [.int (1 : Int32)]) 2 rfl ?_
    exact db_Rret (lv1 := []) rfl rfl rfl rfl
  refine db_Rgo (pc' := 10) (lv' := [(0, .ref 13), (1, .int v1)]) (st' := [.int (2 : Int32), .ref 13]) 2 rfl ?_
  refine db_RcdB (mr' := dbm_58) (as := [.ref 13, .int (2 : Int32)]) (rest := []) (pc' := 13) (lv1 := [(0, .ref 13), (1, .int v1)]) rfl rfl rfl rfl rfl (db_f58_ok) fun q3 s4 => ?_
  refine db_RifBe (pc' := 16) (tg := 20) (lv1 := [(0, .ref 13), (1, .int v1)]) rfl rfl rfl rfl ?_ ?_
  · refine db_Rgo (pc' := 21) (lv' := []) (st' := [.int (0 : Int32)]) 1 rfl ?_
    exact db_Rret (lv1 := []) rfl rfl rfl rfl
  refine db_Rgo (pc' := 21) (lv' := []) (st' := [.int (1 : Int32)]) 2 rfl ?_
  exact db_Rret (lv1 := []) rfl rfl rfl rfl
noncomputable def db_f71_146_b43 (h3 : Int64 → Int32 → Int32 → Option Int32) (s : db_S) (v1 : Int64) (v3 : Int32) (v4 : Int32) : Option Int32 :=
  (h3 v1 v3 (v4 + (1 : Int32)))
set_option maxRecDepth 100000 in
theorem db_f71_146_b43_ok {X : db_X} {d : Nat}  {h3 : Int64 → Int32 → Int32 → Option Int32} {s : db_S} {v1 : Int64} {v3 : Int32} {v4 : Int32} (zh3 : ∀ (v1 : Int64) (v3 : Int32) (v4 : Int32) , db_Rf X (d + 0) dbm_71 3 [(0, .ref 146), (1, .long v1), (3, .int v3), (4, .int v4)] [] s (db_yI s) (h3 v1 v3 v4)) : db_Rf X (d + 0) dbm_71 43 [(0, .ref 146), (1, .long v1), (3, .int v3), (4, .int v4)] [] s (db_yI s) (db_f71_146_b43 h3 s v1 v3 v4) := by
  unfold db_f71_146_b43
  refine db_Rgo (pc' := 3) (lv' := [(4, .int (v4 + (1 : Int32))), (0, .ref 146), (1, .long v1), (3, .int v3)]) (st' := []) 2 rfl ?_
  refine db_Rn (lv1 := [(0, .ref 146), (1, .long v1), (3, .int v3), (4, .int (v4 + (1 : Int32)))]) rfl rfl rfl ?_
  exact zh3 _ _ _
noncomputable def db_f71_146_b3 (s : db_S) : Nat → Int64 → Int32 → Int32 → Option Int32
  | 0, _, _, _ => none
  | n + 1, v1, v3, v4 =>
    (cond (db_cnd .ge v4 (s.1 146 18)) (some (-1 : Int32)) ((db_rL s 202 v4).bind fun x1 => (cond (db_cnd .ne (lg_cmp x1 v1) 0) (db_f71_146_b43 (db_f71_146_b3 s n) s v1 v3 v4) ((db_rI s 203 v4).bind fun x2 => (cond (db_cnd .ne x2 v3) (db_f71_146_b43 (db_f71_146_b3 s n) s v1 v3 v4) ((db_rI s 204 v4).bind fun x3 => (some x3)))))))
set_option maxRecDepth 100000 in
theorem db_f71_146_b3_ok {X : db_X} {d : Nat} {s : db_S} (n : Nat) : ∀ (v1 : Int64) (v3 : Int32) (v4 : Int32), db_Rf X (d + 0) dbm_71 3 [(0, .ref 146), (1, .long v1), (3, .int v3), (4, .int v4)] [] s (db_yI s) (db_f71_146_b3 s n v1 v3 v4) := by
  induction n with
  | zero => intros; exact db_Rnone
  | succ n ih =>
    intro v1 v3 v4
    unfold db_f71_146_b3
    refine db_Rgo (pc' := 9) (lv' := [(0, .ref 146), (1, .long v1), (3, .int v3), (4, .int v4)]) (st' := [.int (s.1 146 18), .int v4]) 3 rfl ?_
    refine db_Ric (pc' := 12) (tg := 49) (lv1 := [(0, .ref 146), (1, .long v1), (3, .int v3), (4, .int v4)]) rfl rfl rfl rfl ?_ ?_
    · refine db_Rgo (pc' := 50) (lv' := []) (st' := [.int (-1 : Int32)]) 1 rfl ?_
      exact db_Rret (lv1 := []) rfl rfl rfl rfl
    refine db_Rgo (pc' := 18) (lv' := [(0, .ref 146), (1, .long v1), (3, .int v3), (4, .int v4)]) (st' := [.int v4, .ref 202]) 3 rfl ?_
    refine db_RldL (pc' := 19) (lv1 := [(0, .ref 146), (1, .long v1), (3, .int v3), (4, .int v4)]) rfl rfl rfl fun x1 => ?_
    refine db_Rgo (pc' := 21) (lv' := [(0, .ref 146), (1, .long v1), (3, .int v3), (4, .int v4)]) (st' := [.int (lg_cmp x1 v1)]) 2 rfl ?_
    refine db_Rif (pc' := 24) (tg := 43) (lv1 := [(0, .ref 146), (1, .long v1), (3, .int v3), (4, .int v4)]) rfl rfl rfl rfl ?_ ?_
    · exact db_f71_146_b43_ok ih
    refine db_Rgo (pc' := 30) (lv' := [(0, .ref 146), (1, .long v1), (3, .int v3), (4, .int v4)]) (st' := [.int v4, .ref 203]) 3 rfl ?_
    refine db_RldI (pc' := 31) (lv1 := [(0, .ref 146), (1, .long v1), (3, .int v3), (4, .int v4)]) rfl rfl rfl fun x2 => ?_
    refine db_Rgo (pc' := 32) (lv' := [(0, .ref 146), (1, .long v1), (3, .int v3), (4, .int v4)]) (st' := [.int v3, .int x2]) 1 rfl ?_
    refine db_Ric (pc' := 35) (tg := 43) (lv1 := [(0, .ref 146), (1, .long v1), (3, .int v3), (4, .int v4)]) rfl rfl rfl rfl ?_ ?_
    · exact db_f71_146_b43_ok ih
    refine db_Rgo (pc' := 41) (lv' := [(0, .ref 146), (1, .long v1), (3, .int v3), (4, .int v4)]) (st' := [.int v4, .ref 204]) 3 rfl ?_
    refine db_RldI (pc' := 42) (lv1 := [(0, .ref 146), (1, .long v1), (3, .int v3), (4, .int v4)]) rfl rfl rfl fun x3 => ?_
    exact db_Rret (lv1 := [(0, .ref 146), (1, .long v1), (3, .int v3), (4, .int v4)]) rfl rfl rfl rfl
/-- DreamBook$Told.numberOf(JI)I -/
noncomputable def db_f71_146 (s : db_S) (v1 : Int64) (v3 : Int32) : Option Int32 :=
  (db_f71_146_b3 s db_FU v1 v3 (0 : Int32))
set_option maxRecDepth 100000 in
theorem db_f71_146_ok {X : db_X} {d : Nat} {s : db_S} {v1 : Int64} {v3 : Int32} : db_Rf X (d + 0) dbm_71 0 (lv_args 0 [.ref 146, .long v1, .int v3]) [] s (db_yI s) (db_f71_146 s v1 v3) := by
  show db_Rf _ _ _ 0 [(0, .ref 146), (1, .long v1), (3, .int v3)] [] _ _ _
  unfold db_f71_146
  refine db_Rgo (pc' := 3) (lv' := [(4, .int (0 : Int32)), (0, .ref 146), (1, .long v1), (3, .int v3)]) (st' := []) 2 rfl ?_
  refine db_Rn (lv1 := [(0, .ref 146), (1, .long v1), (3, .int v3), (4, .int (0 : Int32))]) rfl rfl rfl ?_
  exact db_f71_146_b3_ok db_FU _ _ _
/-- DreamBook$Scanner.seesName(LDreamBook$Told;I[II)Z -/
noncomputable def db_f70_146 (s : db_S) (v2 : Int32) (a3 : Nat) (v4 : Int32) : Option (Bool × db_S) :=
  ((db_f62 s).bind fun q1 => (cond q1 ((db_rL s 19 (s.1 13 9)).bind fun x3 => ((db_f71_146 s x3 v2).bind fun q4 => ((db_wI s a3 v4 q4).bind fun s6 => ((db_rI s6 a3 v4).bind fun x7 => (cond (db_cnd .ne x7 (-1 : Int32)) (some (true, s6)) (db_bd (db_f58 s6 (3 : Int32)) fun q8 s9 => (cond q8 (some (true, s9)) (some (false, s9))))))))) (db_bd (db_f58 s (2 : Int32)) fun q10 s11 => (some (q10, s11)))))
set_option maxRecDepth 100000 in
theorem db_f70_146_ok {X : db_X} {d : Nat} {s : db_S} {v2 : Int32} {a3 : Nat} {v4 : Int32} : db_Rf X (d + 1) dbm_70 0 (lv_args 0 [.ref 13, .ref 146, .int v2, .ref (a3 + 4), .int v4]) [] s db_zB (db_f70_146 s v2 (a3 + 4) v4) := by
  show db_Rf _ _ _ 0 [(0, .ref 13), (1, .ref 146), (2, .int v2), (3, .ref (a3 + 4)), (4, .int v4)] [] _ _ _
  unfold db_f70_146
  refine db_Rgo (pc' := 1) (lv' := [(0, .ref 13), (1, .ref 146), (2, .int v2), (3, .ref (a3 + 4)), (4, .int v4)]) (st' := [.ref 13]) 1 rfl ?_
  refine db_RcyB (mr' := dbm_62) (as := [.ref 13]) (rest := []) (pc' := 4) (lv1 := [(0, .ref 13), (1, .ref 146), (2, .int v2), (3, .ref (a3 + 4)), (4, .int v4)]) rfl rfl rfl rfl rfl (db_f62_ok) fun q1 => ?_
  refine db_RifBn (pc' := 7) (tg := 13) (lv1 := [(0, .ref 13), (1, .ref 146), (2, .int v2), (3, .ref (a3 + 4)), (4, .int v4)]) rfl rfl rfl rfl ?_ ?_
  · refine db_Rgo (pc' := 25) (lv' := [(0, .ref 13), (1, .ref 146), (2, .int v2), (3, .ref (a3 + 4)), (4, .int v4)]) (st' := [.int (s.1 13 9), .ref 19, .ref 146, .int v4, .ref (a3 + 4)]) 7 rfl ?_
    refine db_RldL (pc' := 26) (lv1 := [(0, .ref 13), (1, .ref 146), (2, .int v2), (3, .ref (a3 + 4)), (4, .int v4)]) rfl rfl rfl fun x3 => ?_
    refine db_Rgo (pc' := 27) (lv' := [(0, .ref 13), (1, .ref 146), (2, .int v2), (3, .ref (a3 + 4)), (4, .int v4)]) (st' := [.int v2, .long x3, .ref 146, .int v4, .ref (a3 + 4)]) 1 rfl ?_
    refine db_RcyI (mr' := dbm_71) (as := [.ref 146, .long x3, .int v2]) (rest := [.int v4, .ref (a3 + 4)]) (pc' := 30) (lv1 := [(0, .ref 13), (1, .ref 146), (2, .int v2), (3, .ref (a3 + 4)), (4, .int v4)]) rfl rfl rfl rfl rfl (db_f71_146_ok) fun q4 => ?_
    refine db_RstI (pc' := 31) (lv1 := [(0, .ref 13), (1, .ref 146), (2, .int v2), (3, .ref (a3 + 4)), (4, .int v4)]) rfl rfl rfl fun s6 => ?_
    refine db_Rgo (pc' := 34) (lv' := [(0, .ref 13), (1, .ref 146), (2, .int v2), (3, .ref (a3 + 4)), (4, .int v4)]) (st' := [.int v4, .ref (a3 + 4)]) 2 rfl ?_
    refine db_RldI (pc' := 35) (lv1 := [(0, .ref 13), (1, .ref 146), (2, .int v2), (3, .ref (a3 + 4)), (4, .int v4)]) rfl rfl rfl fun x7 => ?_
    refine db_Rgo (pc' := 36) (lv' := [(0, .ref 13), (1, .ref 146), (2, .int v2), (3, .ref (a3 + 4)), (4, .int v4)]) (st' := [.int (-1 : Int32), .int x7]) 1 rfl ?_
    refine db_Ric (pc' := 39) (tg := 47) (lv1 := [(0, .ref 13), (1, .ref 146), (2, .int v2), (3, .ref (a3 + 4)), (4, .int v4)]) rfl rfl rfl rfl ?_ ?_
    · refine db_Rgo (pc' := 52) (lv' := []) (st' := [.int (1 : Int32)]) 2 rfl ?_
      exact db_Rret (lv1 := []) rfl rfl rfl rfl
    refine db_Rgo (pc' := 41) (lv' := [(0, .ref 13), (1, .ref 146), (2, .int v2), (3, .ref (a3 + 4)), (4, .int v4)]) (st' := [.int (3 : Int32), .ref 13]) 2 rfl ?_
    refine db_RcdB (mr' := dbm_58) (as := [.ref 13, .int (3 : Int32)]) (rest := []) (pc' := 44) (lv1 := [(0, .ref 13), (1, .ref 146), (2, .int v2), (3, .ref (a3 + 4)), (4, .int v4)]) rfl rfl rfl rfl rfl (db_f58_ok) fun q8 s9 => ?_
    refine db_RifBe (pc' := 47) (tg := 51) (lv1 := [(0, .ref 13), (1, .ref 146), (2, .int v2), (3, .ref (a3 + 4)), (4, .int v4)]) rfl rfl rfl rfl ?_ ?_
    · refine db_Rgo (pc' := 52) (lv' := []) (st' := [.int (0 : Int32)]) 1 rfl ?_
      exact db_Rret (lv1 := []) rfl rfl rfl rfl
    refine db_Rgo (pc' := 52) (lv' := []) (st' := [.int (1 : Int32)]) 2 rfl ?_
    exact db_Rret (lv1 := []) rfl rfl rfl rfl
  refine db_Rgo (pc' := 9) (lv' := [(0, .ref 13), (1, .ref 146), (2, .int v2), (3, .ref (a3 + 4)), (4, .int v4)]) (st' := [.int (2 : Int32), .ref 13]) 2 rfl ?_
  refine db_RcdB (mr' := dbm_58) (as := [.ref 13, .int (2 : Int32)]) (rest := []) (pc' := 12) (lv1 := [(0, .ref 13), (1, .ref 146), (2, .int v2), (3, .ref (a3 + 4)), (4, .int v4)]) rfl rfl rfl rfl rfl (db_f58_ok) fun q10 s11 => ?_
  exact db_RretB (lv1 := [(0, .ref 13), (1, .ref 146), (2, .int v2), (3, .ref (a3 + 4)), (4, .int v4)]) rfl rfl rfl rfl
/-- DreamBook$Scanner.takeName(LDreamBook$Told;I[II)Z -/
noncomputable def db_f69_146 (s : db_S) (v2 : Int32) (a3 : Nat) (v4 : Int32) : Option (Bool × db_S) :=
  (db_bd (db_f70_146 s v2 a3 v4) fun q1 s2 => (cond q1 ((db_f60 s2).bind fun s4 => (some (true, s4))) (some (false, s2))))
set_option maxRecDepth 100000 in
theorem db_f69_146_ok {X : db_X} {d : Nat} {s : db_S} {v2 : Int32} {a3 : Nat} {v4 : Int32} : db_Rf X (d + 2) dbm_69 0 (lv_args 0 [.ref 13, .ref 146, .int v2, .ref (a3 + 4), .int v4]) [] s db_zB (db_f69_146 s v2 (a3 + 4) v4) := by
  show db_Rf _ _ _ 0 [(0, .ref 13), (1, .ref 146), (2, .int v2), (3, .ref (a3 + 4)), (4, .int v4)] [] _ _ _
  unfold db_f69_146
  refine db_Rgo (pc' := 6) (lv' := [(0, .ref 13), (1, .ref 146), (2, .int v2), (3, .ref (a3 + 4)), (4, .int v4)]) (st' := [.int v4, .ref (a3 + 4), .int v2, .ref 146, .ref 13]) 5 rfl ?_
  refine db_RcdB (mr' := dbm_70) (as := [.ref 13, .ref 146, .int v2, .ref (a3 + 4), .int v4]) (rest := []) (pc' := 9) (lv1 := [(0, .ref 13), (1, .ref 146), (2, .int v2), (3, .ref (a3 + 4)), (4, .int v4)]) rfl rfl rfl rfl rfl (db_f70_146_ok) fun q1 s2 => ?_
  refine db_RifBn (pc' := 12) (tg := 14) (lv1 := [(0, .ref 13), (1, .ref 146), (2, .int v2), (3, .ref (a3 + 4)), (4, .int v4)]) rfl rfl rfl rfl ?_ ?_
  · refine db_Rgo (pc' := 15) (lv' := [(0, .ref 13)]) (st' := [.ref 13]) 1 rfl ?_
    refine db_RcV (mr' := dbm_60) (as := [.ref 13]) (rest := []) (pc' := 18) (lv1 := [(0, .ref 13)]) rfl rfl rfl rfl rfl (db_f60_ok) fun s4 => ?_
    refine db_Rgo (pc' := 19) (lv' := [(0, .ref 13)]) (st' := [.int (1 : Int32)]) 1 rfl ?_
    exact db_Rret (lv1 := [(0, .ref 13)]) rfl rfl rfl rfl
  refine db_Rgo (pc' := 13) (lv' := [(0, .ref 13), (1, .ref 146), (2, .int v2), (3, .ref (a3 + 4)), (4, .int v4)]) (st' := [.int (0 : Int32)]) 1 rfl ?_
  exact db_Rret (lv1 := [(0, .ref 13), (1, .ref 146), (2, .int v2), (3, .ref (a3 + 4)), (4, .int v4)]) rfl rfl rfl rfl
/-- DreamBook$Scanner.takeNumber(II[II)Z -/
noncomputable def db_f73 (s : db_S) (v1 : Int32) (v2 : Int32) (a3 : Nat) (v4 : Int32) : Option (Bool × db_S) :=
  ((db_rI s 16 (s.1 13 9)).bind fun x1 => (cond (db_cnd .eq x1 (2 : Int32)) ((db_rI s 18 (s.1 13 9)).bind fun x2 => ((db_f27 s x2 v1 v2).bind fun q3 => (cond q3 ((db_rI s 18 (s.1 13 9)).bind fun x5 => ((db_wI s a3 v4 x5).bind fun s6 => ((db_f60 s6).bind fun s8 => (some (true, s8))))) (db_bd (db_f58 s (4 : Int32)) fun q9 s10 => (some (q9, s10)))))) (db_bd (db_f58 s (2 : Int32)) fun q11 s12 => (some (q11, s12)))))
set_option maxRecDepth 100000 in
theorem db_f73_ok {X : db_X} {d : Nat} {s : db_S} {v1 : Int32} {v2 : Int32} {a3 : Nat} {v4 : Int32} : db_Rf X (d + 1) dbm_73 0 (lv_args 0 [.ref 13, .int v1, .int v2, .ref (a3 + 4), .int v4]) [] s db_zB (db_f73 s v1 v2 (a3 + 4) v4) := by
  show db_Rf _ _ _ 0 [(0, .ref 13), (1, .int v1), (2, .int v2), (3, .ref (a3 + 4)), (4, .int v4)] [] _ _ _
  unfold db_f73
  refine db_Rgo (pc' := 8) (lv' := [(0, .ref 13), (1, .int v1), (2, .int v2), (3, .ref (a3 + 4)), (4, .int v4)]) (st' := [.int (s.1 13 9), .ref 16]) 4 rfl ?_
  refine db_RldI (pc' := 9) (lv1 := [(0, .ref 13), (1, .int v1), (2, .int v2), (3, .ref (a3 + 4)), (4, .int v4)]) rfl rfl rfl fun x1 => ?_
  refine db_Rgo (pc' := 10) (lv' := [(0, .ref 13), (1, .int v1), (2, .int v2), (3, .ref (a3 + 4)), (4, .int v4)]) (st' := [.int (2 : Int32), .int x1]) 1 rfl ?_
  refine db_Ric (pc' := 13) (tg := 19) (lv1 := [(0, .ref 13), (1, .int v1), (2, .int v2), (3, .ref (a3 + 4)), (4, .int v4)]) rfl rfl rfl rfl ?_ ?_
  · refine db_Rgo (pc' := 27) (lv' := [(0, .ref 13), (1, .int v1), (2, .int v2), (3, .ref (a3 + 4)), (4, .int v4)]) (st' := [.int (s.1 13 9), .ref 18]) 4 rfl ?_
    refine db_RldI (pc' := 28) (lv1 := [(0, .ref 13), (1, .int v1), (2, .int v2), (3, .ref (a3 + 4)), (4, .int v4)]) rfl rfl rfl fun x2 => ?_
    refine db_Rgo (pc' := 30) (lv' := [(0, .ref 13), (1, .int v1), (2, .int v2), (3, .ref (a3 + 4)), (4, .int v4)]) (st' := [.int v2, .int v1, .int x2]) 2 rfl ?_
    refine db_RcyB (mr' := dbm_27) (as := [.int x2, .int v1, .int v2]) (rest := []) (pc' := 33) (lv1 := [(0, .ref 13), (1, .int v1), (2, .int v2), (3, .ref (a3 + 4)), (4, .int v4)]) rfl rfl rfl rfl rfl (db_f27_ok) fun q3 => ?_
    refine db_RifBn (pc' := 36) (tg := 42) (lv1 := [(0, .ref 13), (1, .int v1), (2, .int v2), (3, .ref (a3 + 4)), (4, .int v4)]) rfl rfl rfl rfl ?_ ?_
    · refine db_Rgo (pc' := 53) (lv' := [(0, .ref 13), (3, .ref (a3 + 4)), (4, .int v4)]) (st' := [.int (s.1 13 9), .ref 18, .int v4, .ref (a3 + 4)]) 6 rfl ?_
      refine db_RldI (pc' := 54) (lv1 := [(0, .ref 13), (3, .ref (a3 + 4)), (4, .int v4)]) rfl rfl rfl fun x5 => ?_
      refine db_RstI (pc' := 55) (lv1 := [(0, .ref 13), (3, .ref (a3 + 4)), (4, .int v4)]) rfl rfl rfl fun s6 => ?_
      refine db_Rgo (pc' := 56) (lv' := [(0, .ref 13), (3, .ref (a3 + 4)), (4, .int v4)]) (st' := [.ref 13]) 1 rfl ?_
      refine db_RcV (mr' := dbm_60) (as := [.ref 13]) (rest := []) (pc' := 59) (lv1 := [(0, .ref 13), (3, .ref (a3 + 4)), (4, .int v4)]) rfl rfl rfl rfl rfl (db_f60_ok) fun s8 => ?_
      refine db_Rgo (pc' := 60) (lv' := [(0, .ref 13), (3, .ref (a3 + 4)), (4, .int v4)]) (st' := [.int (1 : Int32)]) 1 rfl ?_
      exact db_Rret (lv1 := [(0, .ref 13), (3, .ref (a3 + 4)), (4, .int v4)]) rfl rfl rfl rfl
    refine db_Rgo (pc' := 38) (lv' := [(0, .ref 13), (1, .int v1), (2, .int v2), (3, .ref (a3 + 4)), (4, .int v4)]) (st' := [.int (4 : Int32), .ref 13]) 2 rfl ?_
    refine db_RcdB (mr' := dbm_58) (as := [.ref 13, .int (4 : Int32)]) (rest := []) (pc' := 41) (lv1 := [(0, .ref 13), (1, .int v1), (2, .int v2), (3, .ref (a3 + 4)), (4, .int v4)]) rfl rfl rfl rfl rfl (db_f58_ok) fun q9 s10 => ?_
    exact db_RretB (lv1 := [(0, .ref 13), (1, .int v1), (2, .int v2), (3, .ref (a3 + 4)), (4, .int v4)]) rfl rfl rfl rfl
  refine db_Rgo (pc' := 15) (lv' := [(0, .ref 13), (1, .int v1), (2, .int v2), (3, .ref (a3 + 4)), (4, .int v4)]) (st' := [.int (2 : Int32), .ref 13]) 2 rfl ?_
  refine db_RcdB (mr' := dbm_58) (as := [.ref 13, .int (2 : Int32)]) (rest := []) (pc' := 18) (lv1 := [(0, .ref 13), (1, .int v1), (2, .int v2), (3, .ref (a3 + 4)), (4, .int v4)]) rfl rfl rfl rfl rfl (db_f58_ok) fun q11 s12 => ?_
  exact db_RretB (lv1 := [(0, .ref 13), (1, .int v1), (2, .int v2), (3, .ref (a3 + 4)), (4, .int v4)]) rfl rfl rfl rfl
noncomputable def db_f72_b38 (s : db_S) (t0 : Nat) (t1 : Int32) (t2 : Int32) : Option (Bool × db_S) :=
  ((db_wI s t0 t1 t2).bind fun s1 => (some (true, s1)))
set_option maxRecDepth 100000 in
theorem db_f72_b38_ok {X : db_X} {d : Nat}  {s : db_S} {t0 : Nat} {t1 : Int32} {t2 : Int32} : db_Rf X (d + 2) dbm_72 38 [] [.int t2, .int t1, .ref (t0 + 4)] s db_zB (db_f72_b38 s (t0 + 4) t1 t2) := by
  unfold db_f72_b38
  refine db_RstI (pc' := 39) (lv1 := []) rfl rfl rfl fun s1 => ?_
  refine db_Rgo (pc' := 40) (lv' := []) (st' := [.int (1 : Int32)]) 1 rfl ?_
  exact db_Rret (lv1 := []) rfl rfl rfl rfl
/-- DreamBook$Scanner.takeSigned(I[II)Z -/
noncomputable def db_f72 (s : db_S) (v1 : Int32) (a2 : Nat) (v3 : Int32) : Option (Bool × db_S) :=
  (db_bd (db_f66 s (10 : Int32)) fun q1 s2 => (db_bd (db_f73 s2 (0 : Int32) v1 a2 v3) fun q3 s4 => (cond q3 (cond q1 ((db_rI s4 a2 v3).bind fun x6 => (db_f72_b38 s4 a2 v3 (-x6))) ((db_rI s4 a2 v3).bind fun x5 => (db_f72_b38 s4 a2 v3 x5))) (some (false, s4)))))
set_option maxRecDepth 100000 in
theorem db_f72_ok {X : db_X} {d : Nat} {s : db_S} {v1 : Int32} {a2 : Nat} {v3 : Int32} : db_Rf X (d + 2) dbm_72 0 (lv_args 0 [.ref 13, .int v1, .ref (a2 + 4), .int v3]) [] s db_zB (db_f72 s v1 (a2 + 4) v3) := by
  show db_Rf _ _ _ 0 [(0, .ref 13), (1, .int v1), (2, .ref (a2 + 4)), (3, .int v3)] [] _ _ _
  unfold db_f72
  refine db_Rgo (pc' := 3) (lv' := [(0, .ref 13), (1, .int v1), (2, .ref (a2 + 4)), (3, .int v3)]) (st' := [.int (10 : Int32), .ref 13]) 2 rfl ?_
  refine db_RcdB (mr' := dbm_66) (as := [.ref 13, .int (10 : Int32)]) (rest := []) (pc' := 6) (lv1 := [(0, .ref 13), (1, .int v1), (2, .ref (a2 + 4)), (3, .int v3)]) rfl rfl rfl rfl rfl (db_f66_ok) fun q1 s2 => ?_
  refine db_Rgo (pc' := 13) (lv' := [(4, .int (db_i q1)), (0, .ref 13), (1, .int v1), (2, .ref (a2 + 4)), (3, .int v3)]) (st' := [.int v3, .ref (a2 + 4), .int v1, .int (0 : Int32), .ref 13]) 6 rfl ?_
  refine db_RcdB (mr' := dbm_73) (as := [.ref 13, .int (0 : Int32), .int v1, .ref (a2 + 4), .int v3]) (rest := []) (pc' := 16) (lv1 := [(4, .int (db_i q1)), (0, .ref 13), (1, .int v1), (2, .ref (a2 + 4)), (3, .int v3)]) rfl rfl rfl rfl rfl (db_f73_ok) fun q3 s4 => ?_
  refine db_RifBn (pc' := 19) (tg := 21) (lv1 := [(4, .int (db_i q1)), (0, .ref 13), (1, .int v1), (2, .ref (a2 + 4)), (3, .int v3)]) rfl rfl rfl rfl ?_ ?_
  · refine db_Rgo (pc' := 25) (lv' := [(2, .ref (a2 + 4)), (3, .int v3), (4, .int (db_i q1))]) (st' := [.int (db_i q1), .int v3, .ref (a2 + 4)]) 3 rfl ?_
    refine db_RifBe (pc' := 28) (tg := 35) (lv1 := [(2, .ref (a2 + 4)), (3, .int v3), (4, .int (db_i q1))]) rfl rfl rfl rfl ?_ ?_
    · refine db_Rgo (pc' := 37) (lv' := [(2, .ref (a2 + 4)), (3, .int v3)]) (st' := [.int v3, .ref (a2 + 4), .int v3, .ref (a2 + 4)]) 2 rfl ?_
      refine db_RldI (pc' := 38) (lv1 := [(2, .ref (a2 + 4)), (3, .int v3)]) rfl rfl rfl fun x5 => ?_
      refine db_Rn (lv1 := []) rfl rfl rfl ?_
      exact db_f72_b38_ok
    refine db_Rgo (pc' := 30) (lv' := [(2, .ref (a2 + 4)), (3, .int v3), (4, .int (db_i q1))]) (st' := [.int v3, .ref (a2 + 4), .int v3, .ref (a2 + 4)]) 2 rfl ?_
    refine db_RldI (pc' := 31) (lv1 := [(2, .ref (a2 + 4)), (3, .int v3), (4, .int (db_i q1))]) rfl rfl rfl fun x6 => ?_
    refine db_Rgo (pc' := 38) (lv' := [(2, .ref (a2 + 4)), (3, .int v3), (4, .int (db_i q1))]) (st' := [.int (-x6), .int v3, .ref (a2 + 4)]) 2 rfl ?_
    refine db_Rn (lv1 := []) rfl rfl rfl ?_
    exact db_f72_b38_ok
  refine db_Rgo (pc' := 20) (lv' := [(4, .int (db_i q1)), (0, .ref 13), (1, .int v1), (2, .ref (a2 + 4)), (3, .int v3)]) (st' := [.int (0 : Int32)]) 1 rfl ?_
  exact db_Rret (lv1 := [(4, .int (db_i q1)), (0, .ref 13), (1, .int v1), (2, .ref (a2 + 4)), (3, .int v3)]) rfl rfl rfl rfl
/-- DreamBook$BookParser.parseOption([IIII)Z -/
noncomputable def db_f74 (s : db_S) (a1 : Nat) (v2 : Int32) (v3 : Int32) (v4 : Int32) : Option (Bool × db_S) :=
  ((db_wI s a1 v2 (-1 : Int32)).bind fun s1 => (db_bd (db_f66 s1 v3) fun q2 s3 => (cond q2 (db_bd (db_f69_146 s3 v4 a1 v2) fun q4 s5 => (cond q4 (some (true, s5)) (some (false, s5)))) (some (true, s3)))))
set_option maxRecDepth 100000 in
theorem db_f74_ok {X : db_X} {d : Nat} {s : db_S} {a1 : Nat} {v2 : Int32} {v3 : Int32} {v4 : Int32} : db_Rf X (d + 3) dbm_74 0 (lv_args 0 [.ref 145, .ref (a1 + 4), .int v2, .int v3, .int v4]) [] s db_zB (db_f74 s (a1 + 4) v2 v3 v4) := by
  show db_Rf _ _ _ 0 [(0, .ref 145), (1, .ref (a1 + 4)), (2, .int v2), (3, .int v3), (4, .int v4)] [] _ _ _
  unfold db_f74
  refine db_Rgo (pc' := 3) (lv' := [(0, .ref 145), (1, .ref (a1 + 4)), (2, .int v2), (3, .int v3), (4, .int v4)]) (st' := [.int (-1 : Int32), .int v2, .ref (a1 + 4)]) 3 rfl ?_
  refine db_RstI (pc' := 4) (lv1 := [(0, .ref 145), (1, .ref (a1 + 4)), (2, .int v2), (3, .int v3), (4, .int v4)]) rfl rfl rfl fun s1 => ?_
  refine db_Rgo (pc' := 9) (lv' := [(0, .ref 145), (1, .ref (a1 + 4)), (2, .int v2), (3, .int v3), (4, .int v4)]) (st' := [.int v3, .ref 13]) 3 rfl ?_
  refine db_RcdB (mr' := dbm_66) (as := [.ref 13, .int v3]) (rest := []) (pc' := 12) (lv1 := [(0, .ref 145), (1, .ref (a1 + 4)), (2, .int v2), (3, .int v3), (4, .int v4)]) rfl rfl rfl rfl rfl (db_f66_ok) fun q2 s3 => ?_
  refine db_RifBe (pc' := 15) (tg := 33) (lv1 := [(0, .ref 145), (1, .ref (a1 + 4)), (2, .int v2), (3, .int v3), (4, .int v4)]) rfl rfl rfl rfl ?_ ?_
  · refine db_Rgo (pc' := 38) (lv' := []) (st' := [.int (1 : Int32)]) 2 rfl ?_
    exact db_Rret (lv1 := []) rfl rfl rfl rfl
  refine db_Rgo (pc' := 27) (lv' := [(0, .ref 145), (1, .ref (a1 + 4)), (2, .int v2), (3, .int v3), (4, .int v4)]) (st' := [.int v2, .ref (a1 + 4), .int v4, .ref 146, .ref 13]) 7 rfl ?_
  refine db_RcdB (mr' := dbm_69) (as := [.ref 13, .ref 146, .int v4, .ref (a1 + 4), .int v2]) (rest := []) (pc' := 30) (lv1 := [(0, .ref 145), (1, .ref (a1 + 4)), (2, .int v2), (3, .int v3), (4, .int v4)]) rfl rfl rfl rfl rfl (db_f69_146_ok) fun q4 s5 => ?_
  refine db_RifBe (pc' := 33) (tg := 37) (lv1 := [(0, .ref 145), (1, .ref (a1 + 4)), (2, .int v2), (3, .int v3), (4, .int v4)]) rfl rfl rfl rfl ?_ ?_
  · refine db_Rgo (pc' := 38) (lv' := []) (st' := [.int (0 : Int32)]) 1 rfl ?_
    exact db_Rret (lv1 := []) rfl rfl rfl rfl
  refine db_Rgo (pc' := 38) (lv' := []) (st' := [.int (1 : Int32)]) 2 rfl ?_
  exact db_Rret (lv1 := []) rfl rfl rfl rfl
/-- DreamBook$BookParser.parseRule()Z -/
noncomputable def db_f67 (s : db_S) : Option (Bool × db_S) :=
  ((db_rI s 147 (3 : Int32)).bind fun x1 => ((db_rR 150 x1).bind fun y2 => (db_bd (db_f61_146 s (3 : Int32)) fun q3 s4 => (cond q3 (db_bd (db_f68 s4 (8 : Int32)) fun q5 s6 => (cond q5 (db_bd (db_f69_146 s6 (0 : Int32) y2 (0 : Int32)) fun q7 s8 => (cond q7 (db_bd (db_f68 s8 (9 : Int32)) fun q9 s10 => (cond q9 (db_bd (db_f72 s10 (99 : Int32) y2 (1 : Int32)) fun q11 s12 => (cond q11 (db_bd (db_f74 s12 y2 (2 : Int32) (11 : Int32) (0 : Int32)) fun q13 s14 => (cond q13 (db_bd (db_f74 s14 y2 (3 : Int32) (12 : Int32) (0 : Int32)) fun q15 s16 => (cond q15 (db_bd (db_f74 s16 y2 (4 : Int32) (13 : Int32) (1 : Int32)) fun q17 s18 => (cond q17 (db_bd (db_f74 s18 y2 (5 : Int32) (14 : Int32) (2 : Int32)) fun q19 s20 => (cond q19 (some (true, s20)) (some (false, s20)))) (some (false, s18)))) (some (false, s16)))) (some (false, s14)))) (some (false, s12)))) (some (false, s10)))) (some (false, s8)))) (some (false, s6)))) (some (false, s4))))))
set_option maxRecDepth 100000 in
theorem db_f67_ok {X : db_X} {d : Nat} {s : db_S} : db_Rf X (d + 4) dbm_67 0 (lv_args 0 [.ref 145]) [] s db_zB (db_f67 s ) := by
  show db_Rf _ _ _ 0 [(0, .ref 145)] [] _ _ _
  unfold db_f67
  refine db_Rgo (pc' := 15) (lv' := [(0, .ref 145)]) (st' := [.int (3 : Int32), .ref 147, .ref 150]) 7 rfl ?_
  refine db_RldI (pc' := 16) (lv1 := [(0, .ref 145)]) rfl rfl rfl fun x1 => ?_
  refine db_RldR (pc' := 17) (lv1 := [(0, .ref 145)]) rfl rfl rfl fun y2 => ?_
  refine db_Rgo (pc' := 27) (lv' := [(1, .ref (y2 + 4)), (0, .ref 145)]) (st' := [.int (3 : Int32), .ref 146, .ref 13]) 6 rfl ?_
  refine db_RcdB (mr' := dbm_61) (as := [.ref 13, .ref 146, .int (3 : Int32)]) (rest := []) (pc' := 30) (lv1 := [(1, .ref (y2 + 4)), (0, .ref 145)]) rfl rfl rfl rfl rfl (db_f61_146_ok) fun q3 s4 => ?_
  refine db_RifBe (pc' := 33) (tg := 140) (lv1 := [(1, .ref (y2 + 4)), (0, .ref 145)]) rfl rfl rfl rfl ?_ ?_
  · refine db_Rgo (pc' := 141) (lv' := []) (st' := [.int (0 : Int32)]) 1 rfl ?_
    exact db_Rret (lv1 := []) rfl rfl rfl rfl
  refine db_Rgo (pc' := 39) (lv' := [(1, .ref (y2 + 4)), (0, .ref 145)]) (st' := [.int (8 : Int32), .ref 13]) 3 rfl ?_
  refine db_RcdB (mr' := dbm_68) (as := [.ref 13, .int (8 : Int32)]) (rest := []) (pc' := 42) (lv1 := [(1, .ref (y2 + 4)), (0, .ref 145)]) rfl rfl rfl rfl rfl (db_f68_ok) fun q5 s6 => ?_
  refine db_RifBe (pc' := 45) (tg := 140) (lv1 := [(1, .ref (y2 + 4)), (0, .ref 145)]) rfl rfl rfl rfl ?_ ?_
  · refine db_Rgo (pc' := 141) (lv' := []) (st' := [.int (0 : Int32)]) 1 rfl ?_
    exact db_Rret (lv1 := []) rfl rfl rfl rfl
  refine db_Rgo (pc' := 56) (lv' := [(1, .ref (y2 + 4)), (0, .ref 145)]) (st' := [.int (0 : Int32), .ref (y2 + 4), .int (0 : Int32), .ref 146, .ref 13]) 7 rfl ?_
  refine db_RcdB (mr' := dbm_69) (as := [.ref 13, .ref 146, .int (0 : Int32), .ref (y2 + 4), .int (0 : Int32)]) (rest := []) (pc' := 59) (lv1 := [(1, .ref (y2 + 4)), (0, .ref 145)]) rfl rfl rfl rfl rfl (db_f69_146_ok) fun q7 s8 => ?_
  refine db_RifBe (pc' := 62) (tg := 140) (lv1 := [(1, .ref (y2 + 4)), (0, .ref 145)]) rfl rfl rfl rfl ?_ ?_
  · refine db_Rgo (pc' := 141) (lv' := []) (st' := [.int (0 : Int32)]) 1 rfl ?_
    exact db_Rret (lv1 := []) rfl rfl rfl rfl
  refine db_Rgo (pc' := 68) (lv' := [(1, .ref (y2 + 4)), (0, .ref 145)]) (st' := [.int (9 : Int32), .ref 13]) 3 rfl ?_
  refine db_RcdB (mr' := dbm_68) (as := [.ref 13, .int (9 : Int32)]) (rest := []) (pc' := 71) (lv1 := [(1, .ref (y2 + 4)), (0, .ref 145)]) rfl rfl rfl rfl rfl (db_f68_ok) fun q9 s10 => ?_
  refine db_RifBe (pc' := 74) (tg := 140) (lv1 := [(1, .ref (y2 + 4)), (0, .ref 145)]) rfl rfl rfl rfl ?_ ?_
  · refine db_Rgo (pc' := 141) (lv' := []) (st' := [.int (0 : Int32)]) 1 rfl ?_
    exact db_Rret (lv1 := []) rfl rfl rfl rfl
  refine db_Rgo (pc' := 82) (lv' := [(1, .ref (y2 + 4)), (0, .ref 145)]) (st' := [.int (1 : Int32), .ref (y2 + 4), .int (99 : Int32), .ref 13]) 5 rfl ?_
  refine db_RcdB (mr' := dbm_72) (as := [.ref 13, .int (99 : Int32), .ref (y2 + 4), .int (1 : Int32)]) (rest := []) (pc' := 85) (lv1 := [(1, .ref (y2 + 4)), (0, .ref 145)]) rfl rfl rfl rfl rfl (db_f72_ok) fun q11 s12 => ?_
  refine db_RifBe (pc' := 88) (tg := 140) (lv1 := [(1, .ref (y2 + 4)), (0, .ref 145)]) rfl rfl rfl rfl ?_ ?_
  · refine db_Rgo (pc' := 141) (lv' := []) (st' := [.int (0 : Int32)]) 1 rfl ?_
    exact db_Rret (lv1 := []) rfl rfl rfl rfl
  refine db_Rgo (pc' := 94) (lv' := [(1, .ref (y2 + 4)), (0, .ref 145)]) (st' := [.int (0 : Int32), .int (11 : Int32), .int (2 : Int32), .ref (y2 + 4), .ref 145]) 5 rfl ?_
  refine db_RcdB (mr' := dbm_74) (as := [.ref 145, .ref (y2 + 4), .int (2 : Int32), .int (11 : Int32), .int (0 : Int32)]) (rest := []) (pc' := 97) (lv1 := [(1, .ref (y2 + 4)), (0, .ref 145)]) rfl rfl rfl rfl rfl (db_f74_ok) fun q13 s14 => ?_
  refine db_RifBe (pc' := 100) (tg := 140) (lv1 := [(1, .ref (y2 + 4)), (0, .ref 145)]) rfl rfl rfl rfl ?_ ?_
  · refine db_Rgo (pc' := 141) (lv' := []) (st' := [.int (0 : Int32)]) 1 rfl ?_
    exact db_Rret (lv1 := []) rfl rfl rfl rfl
  refine db_Rgo (pc' := 106) (lv' := [(1, .ref (y2 + 4)), (0, .ref 145)]) (st' := [.int (0 : Int32), .int (12 : Int32), .int (3 : Int32), .ref (y2 + 4), .ref 145]) 5 rfl ?_
  refine db_RcdB (mr' := dbm_74) (as := [.ref 145, .ref (y2 + 4), .int (3 : Int32), .int (12 : Int32), .int (0 : Int32)]) (rest := []) (pc' := 109) (lv1 := [(1, .ref (y2 + 4)), (0, .ref 145)]) rfl rfl rfl rfl rfl (db_f74_ok) fun q15 s16 => ?_
  refine db_RifBe (pc' := 112) (tg := 140) (lv1 := [(1, .ref (y2 + 4)), (0, .ref 145)]) rfl rfl rfl rfl ?_ ?_
  · refine db_Rgo (pc' := 141) (lv' := []) (st' := [.int (0 : Int32)]) 1 rfl ?_
    exact db_Rret (lv1 := []) rfl rfl rfl rfl
  refine db_Rgo (pc' := 118) (lv' := [(1, .ref (y2 + 4)), (0, .ref 145)]) (st' := [.int (1 : Int32), .int (13 : Int32), .int (4 : Int32), .ref (y2 + 4), .ref 145]) 5 rfl ?_
  refine db_RcdB (mr' := dbm_74) (as := [.ref 145, .ref (y2 + 4), .int (4 : Int32), .int (13 : Int32), .int (1 : Int32)]) (rest := []) (pc' := 121) (lv1 := [(1, .ref (y2 + 4)), (0, .ref 145)]) rfl rfl rfl rfl rfl (db_f74_ok) fun q17 s18 => ?_
  refine db_RifBe (pc' := 124) (tg := 140) (lv1 := [(1, .ref (y2 + 4)), (0, .ref 145)]) rfl rfl rfl rfl ?_ ?_
  · refine db_Rgo (pc' := 141) (lv' := []) (st' := [.int (0 : Int32)]) 1 rfl ?_
    exact db_Rret (lv1 := []) rfl rfl rfl rfl
  refine db_Rgo (pc' := 130) (lv' := [(1, .ref (y2 + 4)), (0, .ref 145)]) (st' := [.int (2 : Int32), .int (14 : Int32), .int (5 : Int32), .ref (y2 + 4), .ref 145]) 5 rfl ?_
  refine db_RcdB (mr' := dbm_74) (as := [.ref 145, .ref (y2 + 4), .int (5 : Int32), .int (14 : Int32), .int (2 : Int32)]) (rest := []) (pc' := 133) (lv1 := [(1, .ref (y2 + 4)), (0, .ref 145)]) rfl rfl rfl rfl rfl (db_f74_ok) fun q19 s20 => ?_
  refine db_RifBe (pc' := 136) (tg := 140) (lv1 := [(1, .ref (y2 + 4)), (0, .ref 145)]) rfl rfl rfl rfl ?_ ?_
  · refine db_Rgo (pc' := 141) (lv' := []) (st' := [.int (0 : Int32)]) 1 rfl ?_
    exact db_Rret (lv1 := []) rfl rfl rfl rfl
  refine db_Rgo (pc' := 141) (lv' := [(1, .ref (y2 + 4)), (0, .ref 145)]) (st' := [.int (1 : Int32)]) 2 rfl ?_
  exact db_Rret (lv1 := []) rfl rfl rfl rfl
noncomputable def db_f76_146_b38 (h2 : Int32 → Int32 → Int32 → Option Bool) (s : db_S) (v1 : Int32) (v2 : Int32) (v3 : Int32) : Option Bool :=
  (h2 v1 v2 (v3 + (1 : Int32)))
set_option maxRecDepth 100000 in
theorem db_f76_146_b38_ok {X : db_X} {d : Nat}  {h2 : Int32 → Int32 → Int32 → Option Bool} {s : db_S} {v1 : Int32} {v2 : Int32} {v3 : Int32} (zh2 : ∀ (v1 : Int32) (v2 : Int32) (v3 : Int32) , db_Rf X (d + 0) dbm_76 2 [(0, .ref 146), (1, .int v1), (2, .int v2), (3, .int v3)] [] s (db_yB s) (h2 v1 v2 v3)) : db_Rf X (d + 0) dbm_76 38 [(0, .ref 146), (1, .int v1), (2, .int v2), (3, .int v3)] [] s (db_yB s) (db_f76_146_b38 h2 s v1 v2 v3) := by
  unfold db_f76_146_b38
  refine db_Rgo (pc' := 2) (lv' := [(3, .int (v3 + (1 : Int32))), (0, .ref 146), (1, .int v1), (2, .int v2)]) (st' := []) 2 rfl ?_
  refine db_Rn (lv1 := [(0, .ref 146), (1, .int v1), (2, .int v2), (3, .int (v3 + (1 : Int32)))]) rfl rfl rfl ?_
  exact zh2 _ _ _
noncomputable def db_f76_146_b2 (s : db_S) : Nat → Int32 → Int32 → Int32 → Option Bool
  | 0, _, _, _ => none
  | n + 1, v1, v2, v3 =>
    ((db_rI s 147 (4 : Int32)).bind fun x1 => (cond (db_cnd .ge v3 x1) (some false) ((db_rR 163 v3).bind fun y2 => ((db_rI s y2 (0 : Int32)).bind fun x3 => (cond (db_cnd .ne x3 v1) (db_f76_146_b38 (db_f76_146_b2 s n) s v1 v2 v3) ((db_rR 163 v3).bind fun y4 => ((db_rI s y4 (1 : Int32)).bind fun x5 => (cond (db_cnd .ne x5 v2) (db_f76_146_b38 (db_f76_146_b2 s n) s v1 v2 v3) (some true)))))))))
set_option maxRecDepth 100000 in
theorem db_f76_146_b2_ok {X : db_X} {d : Nat} {s : db_S} (n : Nat) : ∀ (v1 : Int32) (v2 : Int32) (v3 : Int32), db_Rf X (d + 0) dbm_76 2 [(0, .ref 146), (1, .int v1), (2, .int v2), (3, .int v3)] [] s (db_yB s) (db_f76_146_b2 s n v1 v2 v3) := by
  induction n with
  | zero => intros; exact db_Rnone
  | succ n ih =>
    intro v1 v2 v3
    unfold db_f76_146_b2
    refine db_Rgo (pc' := 8) (lv' := [(0, .ref 146), (1, .int v1), (2, .int v2), (3, .int v3)]) (st' := [.int (4 : Int32), .ref 147, .int v3]) 4 rfl ?_
    refine db_RldI (pc' := 9) (lv1 := [(0, .ref 146), (1, .int v1), (2, .int v2), (3, .int v3)]) rfl rfl rfl fun x1 => ?_
    refine db_Ric (pc' := 12) (tg := 44) (lv1 := [(0, .ref 146), (1, .int v1), (2, .int v2), (3, .int v3)]) rfl rfl rfl rfl ?_ ?_
    · refine db_Rgo (pc' := 45) (lv' := []) (st' := [.int (0 : Int32)]) 1 rfl ?_
      exact db_Rret (lv1 := []) rfl rfl rfl rfl
    refine db_Rgo (pc' := 17) (lv' := [(0, .ref 146), (1, .int v1), (2, .int v2), (3, .int v3)]) (st' := [.int v3, .ref 163]) 3 rfl ?_
    refine db_RldR (pc' := 18) (lv1 := [(0, .ref 146), (1, .int v1), (2, .int v2), (3, .int v3)]) rfl rfl rfl fun y2 => ?_
    refine db_Rgo (pc' := 19) (lv' := [(0, .ref 146), (1, .int v1), (2, .int v2), (3, .int v3)]) (st' := [.int (0 : Int32), .ref (y2 + 4)]) 1 rfl ?_
    refine db_RldI (pc' := 20) (lv1 := [(0, .ref 146), (1, .int v1), (2, .int v2), (3, .int v3)]) rfl rfl rfl fun x3 => ?_
    refine db_Rgo (pc' := 21) (lv' := [(0, .ref 146), (1, .int v1), (2, .int v2), (3, .int v3)]) (st' := [.int v1, .int x3]) 1 rfl ?_
    refine db_Ric (pc' := 24) (tg := 38) (lv1 := [(0, .ref 146), (1, .int v1), (2, .int v2), (3, .int v3)]) rfl rfl rfl rfl ?_ ?_
    · exact db_f76_146_b38_ok ih
    refine db_Rgo (pc' := 29) (lv' := [(0, .ref 146), (1, .int v1), (2, .int v2), (3, .int v3)]) (st' := [.int v3, .ref 163]) 3 rfl ?_
    refine db_RldR (pc' := 30) (lv1 := [(0, .ref 146), (1, .int v1), (2, .int v2), (3, .int v3)]) rfl rfl rfl fun y4 => ?_
    refine db_Rgo (pc' := 31) (lv' := [(0, .ref 146), (1, .int v1), (2, .int v2), (3, .int v3)]) (st' := [.int (1 : Int32), .ref (y4 + 4)]) 1 rfl ?_
    refine db_RldI (pc' := 32) (lv1 := [(0, .ref 146), (1, .int v1), (2, .int v2), (3, .int v3)]) rfl rfl rfl fun x5 => ?_
    refine db_Rgo (pc' := 33) (lv' := [(0, .ref 146), (1, .int v1), (2, .int v2), (3, .int v3)]) (st' := [.int v2, .int x5]) 1 rfl ?_
    refine db_Ric (pc' := 36) (tg := 38) (lv1 := [(0, .ref 146), (1, .int v1), (2, .int v2), (3, .int v3)]) rfl rfl rfl rfl ?_ ?_
    · exact db_f76_146_b38_ok ih
    refine db_Rgo (pc' := 37) (lv' := [(0, .ref 146), (1, .int v1), (2, .int v2), (3, .int v3)]) (st' := [.int (1 : Int32)]) 1 rfl ?_
    exact db_Rret (lv1 := [(0, .ref 146), (1, .int v1), (2, .int v2), (3, .int v3)]) rfl rfl rfl rfl
/-- DreamBook$Told.hasNote(II)Z -/
noncomputable def db_f76_146 (s : db_S) (v1 : Int32) (v2 : Int32) : Option Bool :=
  (db_f76_146_b2 s db_FU v1 v2 (0 : Int32))
set_option maxRecDepth 100000 in
theorem db_f76_146_ok {X : db_X} {d : Nat} {s : db_S} {v1 : Int32} {v2 : Int32} : db_Rf X (d + 0) dbm_76 0 (lv_args 0 [.ref 146, .int v1, .int v2]) [] s (db_yB s) (db_f76_146 s v1 v2) := by
  show db_Rf _ _ _ 0 [(0, .ref 146), (1, .int v1), (2, .int v2)] [] _ _ _
  unfold db_f76_146
  refine db_Rgo (pc' := 2) (lv' := [(3, .int (0 : Int32)), (0, .ref 146), (1, .int v1), (2, .int v2)]) (st' := []) 2 rfl ?_
  refine db_Rn (lv1 := [(0, .ref 146), (1, .int v1), (2, .int v2), (3, .int (0 : Int32))]) rfl rfl rfl ?_
  exact db_f76_146_b2_ok db_FU _ _ _
/-- DreamBook$BookParser.parseNote()Z -/
noncomputable def db_f75 (s : db_S) : Option (Bool × db_S) :=
  ((db_rI s 147 (4 : Int32)).bind fun x1 => ((db_rR 163 x1).bind fun y2 => (db_bd (db_f69_146 s (3 : Int32) y2 (0 : Int32)) fun q3 s4 => (cond q3 (db_bd (db_f68 s4 (15 : Int32)) fun q5 s6 => (cond q5 (db_bd (db_f70_146 s6 (3 : Int32) y2 (1 : Int32)) fun q7 s8 => (cond q7 ((db_rI s8 y2 (0 : Int32)).bind fun x9 => ((db_rI s8 y2 (1 : Int32)).bind fun x10 => ((db_f76_146 s8 x9 x10).bind fun q11 => (cond q11 (db_bd (db_f58 s8 (5 : Int32)) fun q17 s18 => (some (q17, s18))) ((db_rI s8 147 (4 : Int32)).bind fun x13 => ((db_wI s8 147 (4 : Int32) (x13 + (1 : Int32))).bind fun s14 => ((db_f60 s14).bind fun s16 => (some (true, s16))))))))) (some (false, s8)))) (some (false, s6)))) (some (false, s4))))))
set_option maxRecDepth 100000 in
theorem db_f75_ok {X : db_X} {d : Nat} {s : db_S} : db_Rf X (d + 3) dbm_75 0 (lv_args 0 [.ref 145]) [] s db_zB (db_f75 s ) := by
  show db_Rf _ _ _ 0 [(0, .ref 145)] [] _ _ _
  unfold db_f75
  refine db_Rgo (pc' := 15) (lv' := [(0, .ref 145)]) (st' := [.int (4 : Int32), .ref 147, .ref 163]) 7 rfl ?_
  refine db_RldI (pc' := 16) (lv1 := [(0, .ref 145)]) rfl rfl rfl fun x1 => ?_
  refine db_RldR (pc' := 17) (lv1 := [(0, .ref 145)]) rfl rfl rfl fun y2 => ?_
  refine db_Rgo (pc' := 29) (lv' := [(1, .ref (y2 + 4)), (0, .ref 145)]) (st' := [.int (0 : Int32), .ref (y2 + 4), .int (3 : Int32), .ref 146, .ref 13]) 8 rfl ?_
  refine db_RcdB (mr' := dbm_69) (as := [.ref 13, .ref 146, .int (3 : Int32), .ref (y2 + 4), .int (0 : Int32)]) (rest := []) (pc' := 32) (lv1 := [(1, .ref (y2 + 4)), (0, .ref 145)]) rfl rfl rfl rfl rfl (db_f69_146_ok) fun q3 s4 => ?_
  refine db_RifBe (pc' := 35) (tg := 64) (lv1 := [(1, .ref (y2 + 4)), (0, .ref 145)]) rfl rfl rfl rfl ?_ ?_
  · refine db_Rgo (pc' := 65) (lv' := []) (st' := [.int (0 : Int32)]) 1 rfl ?_
    exact db_Rret (lv1 := []) rfl rfl rfl rfl
  refine db_Rgo (pc' := 41) (lv' := [(1, .ref (y2 + 4)), (0, .ref 145)]) (st' := [.int (15 : Int32), .ref 13]) 3 rfl ?_
  refine db_RcdB (mr' := dbm_68) (as := [.ref 13, .int (15 : Int32)]) (rest := []) (pc' := 44) (lv1 := [(1, .ref (y2 + 4)), (0, .ref 145)]) rfl rfl rfl rfl rfl (db_f68_ok) fun q5 s6 => ?_
  refine db_RifBe (pc' := 47) (tg := 64) (lv1 := [(1, .ref (y2 + 4)), (0, .ref 145)]) rfl rfl rfl rfl ?_ ?_
  · refine db_Rgo (pc' := 65) (lv' := []) (st' := [.int (0 : Int32)]) 1 rfl ?_
    exact db_Rret (lv1 := []) rfl rfl rfl rfl
  refine db_Rgo (pc' := 58) (lv' := [(1, .ref (y2 + 4)), (0, .ref 145)]) (st' := [.int (1 : Int32), .ref (y2 + 4), .int (3 : Int32), .ref 146, .ref 13]) 7 rfl ?_
  refine db_RcdB (mr' := dbm_70) (as := [.ref 13, .ref 146, .int (3 : Int32), .ref (y2 + 4), .int (1 : Int32)]) (rest := []) (pc' := 61) (lv1 := [(1, .ref (y2 + 4)), (0, .ref 145)]) rfl rfl rfl rfl rfl (db_f70_146_ok) fun q7 s8 => ?_
  refine db_RifBn (pc' := 64) (tg := 66) (lv1 := [(1, .ref (y2 + 4)), (0, .ref 145)]) rfl rfl rfl rfl ?_ ?_
  · refine db_Rgo (pc' := 72) (lv' := [(0, .ref 145), (1, .ref (y2 + 4))]) (st' := [.int (0 : Int32), .ref (y2 + 4), .ref 146]) 4 rfl ?_
    refine db_RldI (pc' := 73) (lv1 := [(0, .ref 145), (1, .ref (y2 + 4))]) rfl rfl rfl fun x9 => ?_
    refine db_Rgo (pc' := 75) (lv' := [(0, .ref 145), (1, .ref (y2 + 4))]) (st' := [.int (1 : Int32), .ref (y2 + 4), .int x9, .ref 146]) 2 rfl ?_
    refine db_RldI (pc' := 76) (lv1 := [(0, .ref 145), (1, .ref (y2 + 4))]) rfl rfl rfl fun x10 => ?_
    refine db_RcyB (mr' := dbm_76) (as := [.ref 146, .int x9, .int x10]) (rest := []) (pc' := 79) (lv1 := [(0, .ref 145), (1, .ref (y2 + 4))]) rfl rfl rfl rfl rfl (db_f76_146_ok) fun q11 => ?_
    refine db_RifBe (pc' := 82) (tg := 91) (lv1 := [(0, .ref 145), (1, .ref (y2 + 4))]) rfl rfl rfl rfl ?_ ?_
    · refine db_Rgo (pc' := 100) (lv' := [(0, .ref 145)]) (st' := [.int (4 : Int32), .ref 147, .int (4 : Int32), .ref 147]) 5 rfl ?_
      refine db_RldI (pc' := 101) (lv1 := [(0, .ref 145)]) rfl rfl rfl fun x13 => ?_
      refine db_Rgo (pc' := 103) (lv' := [(0, .ref 145)]) (st' := [.int (x13 + (1 : Int32)), .int (4 : Int32), .ref 147]) 2 rfl ?_
      refine db_RstI (pc' := 104) (lv1 := [(0, .ref 145)]) rfl rfl rfl fun s14 => ?_
      refine db_Rgo (pc' := 108) (lv' := [(0, .ref 145)]) (st' := [.ref 13]) 2 rfl ?_
      refine db_RcV (mr' := dbm_60) (as := [.ref 13]) (rest := []) (pc' := 111) (lv1 := [(0, .ref 145)]) rfl rfl rfl rfl rfl (db_f60_ok) fun s16 => ?_
      refine db_Rgo (pc' := 112) (lv' := [(0, .ref 145)]) (st' := [.int (1 : Int32)]) 1 rfl ?_
      exact db_Rret (lv1 := [(0, .ref 145)]) rfl rfl rfl rfl
    refine db_Rgo (pc' := 87) (lv' := [(0, .ref 145), (1, .ref (y2 + 4))]) (st' := [.int (5 : Int32), .ref 13]) 3 rfl ?_
    refine db_RcdB (mr' := dbm_58) (as := [.ref 13, .int (5 : Int32)]) (rest := []) (pc' := 90) (lv1 := [(0, .ref 145), (1, .ref (y2 + 4))]) rfl rfl rfl rfl rfl (db_f58_ok) fun q17 s18 => ?_
    exact db_RretB (lv1 := [(0, .ref 145), (1, .ref (y2 + 4))]) rfl rfl rfl rfl
  refine db_Rgo (pc' := 65) (lv' := []) (st' := [.int (0 : Int32)]) 1 rfl ?_
  exact db_Rret (lv1 := []) rfl rfl rfl rfl
noncomputable def db_f78_b22 (h2 : db_S → Int32 → Int32 → Option (Bool × db_S)) (s : db_S) (v1 : Int32) (v2 : Int32) : Option (Bool × db_S) :=
  ((db_rR 176 v1).bind fun y1 => (db_bd (db_f69_146 s (0 : Int32) y1 v2) fun q2 s3 => (cond q2 (h2 s3 v1 (v2 + (1 : Int32))) (some (false, s3)))))
set_option maxRecDepth 100000 in
theorem db_f78_b22_ok {X : db_X} {d : Nat}  {h2 : db_S → Int32 → Int32 → Option (Bool × db_S)} {s : db_S} {v1 : Int32} {v2 : Int32} (zh2 : ∀ (s' : db_S) (v1 : Int32) (v2 : Int32) , db_Rf X (d + 3) dbm_78 2 [(0, .ref 145), (1, .int v1), (2, .int v2)] [] s' db_zB (h2 s' v1 v2)) : db_Rf X (d + 3) dbm_78 22 [(0, .ref 145), (1, .int v1), (2, .int v2)] [] s db_zB (db_f78_b22 h2 s v1 v2) := by
  unfold db_f78_b22
  refine db_Rgo (pc' := 39) (lv' := [(0, .ref 145), (1, .int v1), (2, .int v2)]) (st' := [.int v1, .ref 176, .int (0 : Int32), .ref 146, .ref 13]) 9 rfl ?_
  refine db_RldR (pc' := 40) (lv1 := [(0, .ref 145), (1, .int v1), (2, .int v2)]) rfl rfl rfl fun y1 => ?_
  refine db_Rgo (pc' := 41) (lv' := [(0, .ref 145), (1, .int v1), (2, .int v2)]) (st' := [.int v2, .ref (y1 + 4), .int (0 : Int32), .ref 146, .ref 13]) 1 rfl ?_
  refine db_RcdB (mr' := dbm_69) (as := [.ref 13, .ref 146, .int (0 : Int32), .ref (y1 + 4), .int v2]) (rest := []) (pc' := 44) (lv1 := [(0, .ref 145), (1, .int v1), (2, .int v2)]) rfl rfl rfl rfl rfl (db_f69_146_ok) fun q2 s3 => ?_
  refine db_RifBn (pc' := 47) (tg := 49) (lv1 := [(0, .ref 145), (1, .int v1), (2, .int v2)]) rfl rfl rfl rfl ?_ ?_
  · refine db_Rgo (pc' := 2) (lv' := [(2, .int (v2 + (1 : Int32))), (0, .ref 145), (1, .int v1)]) (st' := []) 2 rfl ?_
    refine db_Rn (lv1 := [(0, .ref 145), (1, .int v1), (2, .int (v2 + (1 : Int32)))]) rfl rfl rfl ?_
    exact zh2 _ _ _
  refine db_Rgo (pc' := 48) (lv' := [(0, .ref 145), (1, .int v1), (2, .int v2)]) (st' := [.int (0 : Int32)]) 1 rfl ?_
  exact db_Rret (lv1 := [(0, .ref 145), (1, .int v1), (2, .int v2)]) rfl rfl rfl rfl
noncomputable def db_f78_b55 (s : db_S) (v1 : Int32) (v2 : Int32) : Option (Bool × db_S) :=
  ((db_wI s 185 v1 v2).bind fun s1 => ((db_f62 s1).bind fun q2 => (cond q2 (db_bd (db_f70_146 s1 (0 : Int32) 206 (0 : Int32)) fun q4 s5 => (cond q4 (db_bd (db_f58 s5 (6 : Int32)) fun q6 s7 => (cond q6 (some (true, s7)) (some (false, s7)))) (some (false, s5)))) (some (true, s1)))))
set_option maxRecDepth 100000 in
theorem db_f78_b55_ok {X : db_X} {d : Nat}  {s : db_S} {v1 : Int32} {v2 : Int32} : db_Rf X (d + 3) dbm_78 55 [(0, .ref 145), (1, .int v1), (2, .int v2)] [] s db_zB (db_f78_b55 s v1 v2) := by
  unfold db_f78_b55
  refine db_Rgo (pc' := 64) (lv' := [(0, .ref 145), (1, .int v1), (2, .int v2)]) (st' := [.int v2, .int v1, .ref 185]) 5 rfl ?_
  refine db_RstI (pc' := 65) (lv1 := [(0, .ref 145), (1, .int v1), (2, .int v2)]) rfl rfl rfl fun s1 => ?_
  refine db_Rgo (pc' := 69) (lv' := [(0, .ref 145), (1, .int v1), (2, .int v2)]) (st' := [.ref 13]) 2 rfl ?_
  refine db_RcyB (mr' := dbm_62) (as := [.ref 13]) (rest := []) (pc' := 72) (lv1 := [(0, .ref 145), (1, .int v1), (2, .int v2)]) rfl rfl rfl rfl rfl (db_f62_ok) fun q2 => ?_
  refine db_RifBe (pc' := 75) (tg := 107) (lv1 := [(0, .ref 145), (1, .int v1), (2, .int v2)]) rfl rfl rfl rfl ?_ ?_
  · refine db_Rgo (pc' := 112) (lv' := []) (st' := [.int (1 : Int32)]) 2 rfl ?_
    exact db_Rret (lv1 := []) rfl rfl rfl rfl
  refine db_Rgo (pc' := 89) (lv' := [(0, .ref 145), (1, .int v1), (2, .int v2)]) (st' := [.int (0 : Int32), .ref 206, .int (0 : Int32), .ref 146, .ref 13]) 8 rfl ?_
  refine db_RcdB (mr' := dbm_70) (as := [.ref 13, .ref 146, .int (0 : Int32), .ref 206, .int (0 : Int32)]) (rest := []) (pc' := 92) (lv1 := [(0, .ref 145), (1, .int v1), (2, .int v2)]) rfl rfl rfl rfl rfl (db_f70_146_ok) fun q4 s5 => ?_
  refine db_RifBe (pc' := 95) (tg := 111) (lv1 := [(0, .ref 145), (1, .int v1), (2, .int v2)]) rfl rfl rfl rfl ?_ ?_
  · refine db_Rgo (pc' := 112) (lv' := []) (st' := [.int (0 : Int32)]) 1 rfl ?_
    exact db_Rret (lv1 := []) rfl rfl rfl rfl
  refine db_Rgo (pc' := 101) (lv' := [(0, .ref 145), (1, .int v1), (2, .int v2)]) (st' := [.int (6 : Int32), .ref 13]) 3 rfl ?_
  refine db_RcdB (mr' := dbm_58) (as := [.ref 13, .int (6 : Int32)]) (rest := []) (pc' := 104) (lv1 := [(0, .ref 145), (1, .int v1), (2, .int v2)]) rfl rfl rfl rfl rfl (db_f58_ok) fun q6 s7 => ?_
  refine db_RifBe (pc' := 107) (tg := 111) (lv1 := [(0, .ref 145), (1, .int v1), (2, .int v2)]) rfl rfl rfl rfl ?_ ?_
  · refine db_Rgo (pc' := 112) (lv' := []) (st' := [.int (0 : Int32)]) 1 rfl ?_
    exact db_Rret (lv1 := []) rfl rfl rfl rfl
  refine db_Rgo (pc' := 112) (lv' := []) (st' := [.int (1 : Int32)]) 2 rfl ?_
  exact db_Rret (lv1 := []) rfl rfl rfl rfl
noncomputable def db_f78_b2 : Nat → db_S → Int32 → Int32 → Option (Bool × db_S)
  | 0, _, _, _ => none
  | n + 1, s, v1, v2 =>
    (cond (db_cnd .eq v2 0) (db_f78_b22 (db_f78_b2 n) s v1 v2) (cond (db_cnd .ge v2 (6 : Int32)) (db_f78_b55 s v1 v2) ((db_f62 s).bind fun q1 => (cond q1 (db_f78_b22 (db_f78_b2 n) s v1 v2) (db_f78_b55 s v1 v2)))))
set_option maxRecDepth 100000 in
theorem db_f78_b2_ok {X : db_X} {d : Nat}  (n : Nat) : ∀ (s : db_S) (v1 : Int32) (v2 : Int32), db_Rf X (d + 3) dbm_78 2 [(0, .ref 145), (1, .int v1), (2, .int v2)] [] s db_zB (db_f78_b2 n s v1 v2) := by
  induction n with
  | zero => intros; exact db_Rnone
  | succ n ih =>
    intro s v1 v2
    unfold db_f78_b2
    refine db_Rgo (pc' := 3) (lv' := [(0, .ref 145), (1, .int v1), (2, .int v2)]) (st' := [.int v2]) 1 rfl ?_
    refine db_Rif (pc' := 6) (tg := 22) (lv1 := [(0, .ref 145), (1, .int v1), (2, .int v2)]) rfl rfl rfl rfl ?_ ?_
    · exact db_f78_b22_ok ih
    refine db_Rgo (pc' := 9) (lv' := [(0, .ref 145), (1, .int v1), (2, .int v2)]) (st' := [.int (6 : Int32), .int v2]) 2 rfl ?_
    refine db_Ric (pc' := 12) (tg := 55) (lv1 := [(0, .ref 145), (1, .int v1), (2, .int v2)]) rfl rfl rfl rfl ?_ ?_
    · exact db_f78_b55_ok
    refine db_Rgo (pc' := 16) (lv' := [(0, .ref 145), (1, .int v1), (2, .int v2)]) (st' := [.ref 13]) 2 rfl ?_
    refine db_RcyB (mr' := dbm_62) (as := [.ref 13]) (rest := []) (pc' := 19) (lv1 := [(0, .ref 145), (1, .int v1), (2, .int v2)]) rfl rfl rfl rfl rfl (db_f62_ok) fun q1 => ?_
    refine db_RifBe (pc' := 22) (tg := 55) (lv1 := [(0, .ref 145), (1, .int v1), (2, .int v2)]) rfl rfl rfl rfl ?_ ?_
    · exact db_f78_b55_ok
    exact db_f78_b22_ok ih
/-- DreamBook$BookParser.parseThings(I)Z -/
noncomputable def db_f78 (s : db_S) (v1 : Int32) : Option (Bool × db_S) :=
  (db_f78_b2 db_FU s v1 (0 : Int32))
set_option maxRecDepth 100000 in
theorem db_f78_ok {X : db_X} {d : Nat} {s : db_S} {v1 : Int32} : db_Rf X (d + 3) dbm_78 0 (lv_args 0 [.ref 145, .int v1]) [] s db_zB (db_f78 s v1) := by
  show db_Rf _ _ _ 0 [(0, .ref 145), (1, .int v1)] [] _ _ _
  unfold db_f78
  refine db_Rgo (pc' := 2) (lv' := [(2, .int (0 : Int32)), (0, .ref 145), (1, .int v1)]) (st' := []) 2 rfl ?_
  refine db_Rn (lv1 := [(0, .ref 145), (1, .int v1), (2, .int (0 : Int32))]) rfl rfl rfl ?_
  exact db_f78_b2_ok db_FU _ _ _
noncomputable def db_f77_b90 (s : db_S) (v1 : Int32) : Option (Bool × db_S) :=
  (db_bd (db_f66 s (17 : Int32)) fun q1 s2 => (cond q1 (db_bd (db_f73 s2 (1 : Int32) (99 : Int32) 187 v1) fun q3 s4 => (cond q3 (some (true, s4)) (some (false, s4)))) (some (true, s2))))
set_option maxRecDepth 100000 in
theorem db_f77_b90_ok {X : db_X} {d : Nat}  {s : db_S} {v1 : Int32} : db_Rf X (d + 4) dbm_77 90 [(0, .ref 145), (1, .int v1)] [] s db_zB (db_f77_b90 s v1) := by
  unfold db_f77_b90
  refine db_Rgo (pc' := 96) (lv' := [(0, .ref 145), (1, .int v1)]) (st' := [.int (17 : Int32), .ref 13]) 3 rfl ?_
  refine db_RcdB (mr' := dbm_66) (as := [.ref 13, .int (17 : Int32)]) (rest := []) (pc' := 99) (lv1 := [(0, .ref 145), (1, .int v1)]) rfl rfl rfl rfl rfl (db_f66_ok) fun q1 s2 => ?_
  refine db_RifBe (pc' := 102) (tg := 123) (lv1 := [(0, .ref 145), (1, .int v1)]) rfl rfl rfl rfl ?_ ?_
  · refine db_Rgo (pc' := 128) (lv' := []) (st' := [.int (1 : Int32)]) 2 rfl ?_
    exact db_Rret (lv1 := []) rfl rfl rfl rfl
  refine db_Rgo (pc' := 117) (lv' := [(0, .ref 145), (1, .int v1)]) (st' := [.int v1, .ref 187, .int (99 : Int32), .int (1 : Int32), .ref 13]) 8 rfl ?_
  refine db_RcdB (mr' := dbm_73) (as := [.ref 13, .int (1 : Int32), .int (99 : Int32), .ref 187, .int v1]) (rest := []) (pc' := 120) (lv1 := [(0, .ref 145), (1, .int v1)]) rfl rfl rfl rfl rfl (db_f73_ok) fun q3 s4 => ?_
  refine db_RifBe (pc' := 123) (tg := 127) (lv1 := [(0, .ref 145), (1, .int v1)]) rfl rfl rfl rfl ?_ ?_
  · refine db_Rgo (pc' := 128) (lv' := []) (st' := [.int (0 : Int32)]) 1 rfl ?_
    exact db_Rret (lv1 := []) rfl rfl rfl rfl
  refine db_Rgo (pc' := 128) (lv' := []) (st' := [.int (1 : Int32)]) 2 rfl ?_
  exact db_Rret (lv1 := []) rfl rfl rfl rfl
/-- DreamBook$BookParser.parseDream()Z -/
noncomputable def db_f77 (s : db_S) : Option (Bool × db_S) :=
  ((db_rI s 147 (5 : Int32)).bind fun x1 => (db_bd (db_f61_146 s (5 : Int32)) fun q2 s3 => (cond q2 (db_bd (db_f78 s3 x1) fun q4 s5 => (cond q4 ((db_wI s5 186 x1 (0 : Int32)).bind fun s6 => ((db_wI s6 187 x1 (1 : Int32)).bind fun s7 => (db_bd (db_f66 s7 (16 : Int32)) fun q8 s9 => (cond q8 (db_bd (db_f73 s9 (0 : Int32) (99 : Int32) 186 x1) fun q10 s11 => (cond q10 (db_f77_b90 s11 x1) (some (false, s11)))) (db_f77_b90 s9 x1))))) (some (false, s5)))) (some (false, s3)))))
set_option maxRecDepth 100000 in
theorem db_f77_ok {X : db_X} {d : Nat} {s : db_S} : db_Rf X (d + 4) dbm_77 0 (lv_args 0 [.ref 145]) [] s db_zB (db_f77 s ) := by
  show db_Rf _ _ _ 0 [(0, .ref 145)] [] _ _ _
  unfold db_f77
  refine db_Rgo (pc' := 8) (lv' := [(0, .ref 145)]) (st' := [.int (5 : Int32), .ref 147]) 4 rfl ?_
  refine db_RldI (pc' := 9) (lv1 := [(0, .ref 145)]) rfl rfl rfl fun x1 => ?_
  refine db_Rgo (pc' := 19) (lv' := [(1, .int x1), (0, .ref 145)]) (st' := [.int (5 : Int32), .ref 146, .ref 13]) 6 rfl ?_
  refine db_RcdB (mr' := dbm_61) (as := [.ref 13, .ref 146, .int (5 : Int32)]) (rest := []) (pc' := 22) (lv1 := [(1, .int x1), (0, .ref 145)]) rfl rfl rfl rfl rfl (db_f61_146_ok) fun q2 s3 => ?_
  refine db_RifBe (pc' := 25) (tg := 33) (lv1 := [(1, .int x1), (0, .ref 145)]) rfl rfl rfl rfl ?_ ?_
  · refine db_Rgo (pc' := 34) (lv' := []) (st' := [.int (0 : Int32)]) 1 rfl ?_
    exact db_Rret (lv1 := []) rfl rfl rfl rfl
  refine db_Rgo (pc' := 27) (lv' := [(1, .int x1), (0, .ref 145)]) (st' := [.int x1, .ref 145]) 2 rfl ?_
  refine db_RcdB (mr' := dbm_78) (as := [.ref 145, .int x1]) (rest := []) (pc' := 30) (lv1 := [(1, .int x1), (0, .ref 145)]) rfl rfl rfl rfl rfl (db_f78_ok) fun q4 s5 => ?_
  refine db_RifBn (pc' := 33) (tg := 35) (lv1 := [(1, .int x1), (0, .ref 145)]) rfl rfl rfl rfl ?_ ?_
  · refine db_Rgo (pc' := 44) (lv' := [(0, .ref 145), (1, .int x1)]) (st' := [.int (0 : Int32), .int x1, .ref 186]) 5 rfl ?_
    refine db_RstI (pc' := 45) (lv1 := [(0, .ref 145), (1, .int x1)]) rfl rfl rfl fun s6 => ?_
    refine db_Rgo (pc' := 54) (lv' := [(0, .ref 145), (1, .int x1)]) (st' := [.int (1 : Int32), .int x1, .ref 187]) 5 rfl ?_
    refine db_RstI (pc' := 55) (lv1 := [(0, .ref 145), (1, .int x1)]) rfl rfl rfl fun s7 => ?_
    refine db_Rgo (pc' := 61) (lv' := [(0, .ref 145), (1, .int x1)]) (st' := [.int (16 : Int32), .ref 13]) 3 rfl ?_
    refine db_RcdB (mr' := dbm_66) (as := [.ref 13, .int (16 : Int32)]) (rest := []) (pc' := 64) (lv1 := [(0, .ref 145), (1, .int x1)]) rfl rfl rfl rfl rfl (db_f66_ok) fun q8 s9 => ?_
    refine db_RifBe (pc' := 67) (tg := 90) (lv1 := [(0, .ref 145), (1, .int x1)]) rfl rfl rfl rfl ?_ ?_
    · exact db_f77_b90_ok
    refine db_Rgo (pc' := 82) (lv' := [(0, .ref 145), (1, .int x1)]) (st' := [.int x1, .ref 186, .int (99 : Int32), .int (0 : Int32), .ref 13]) 8 rfl ?_
    refine db_RcdB (mr' := dbm_73) (as := [.ref 13, .int (0 : Int32), .int (99 : Int32), .ref 186, .int x1]) (rest := []) (pc' := 85) (lv1 := [(0, .ref 145), (1, .int x1)]) rfl rfl rfl rfl rfl (db_f73_ok) fun q10 s11 => ?_
    refine db_RifBn (pc' := 88) (tg := 90) (lv1 := [(0, .ref 145), (1, .int x1)]) rfl rfl rfl rfl ?_ ?_
    · exact db_f77_b90_ok
    refine db_Rgo (pc' := 89) (lv' := [(0, .ref 145), (1, .int x1)]) (st' := [.int (0 : Int32)]) 1 rfl ?_
    exact db_Rret (lv1 := [(0, .ref 145), (1, .int x1)]) rfl rfl rfl rfl
  refine db_Rgo (pc' := 34) (lv' := []) (st' := [.int (0 : Int32)]) 1 rfl ?_
  exact db_Rret (lv1 := []) rfl rfl rfl rfl
/-- DreamBook$BookParser.parsePart()Z -/
noncomputable def db_f56 (s : db_S) : Option (Bool × db_S) :=
  ((db_f57 s).bind fun q1 => ((db_f27 s q1 (0 : Int32) (5 : Int32)).bind fun q3 => (cond q3 ((db_rI s 147 q1).bind fun x5 => ((db_f59 s q1).bind fun q6 => (cond (db_cnd .lt x5 q6) ((db_f60 s).bind fun s9 => (if q1 = (0 : Int32) then (db_bd (db_f61_146 s9 (0 : Int32)) fun q10 s11 => (some (q10, s11))) else (if q1 = (1 : Int32) then (db_bd (db_f65 s9 (1 : Int32) 148 (6 : Int32)) fun q12 s13 => (some (q12, s13))) else (if q1 = (2 : Int32) then (db_bd (db_f65 s9 (2 : Int32) 149 (7 : Int32)) fun q14 s15 => (some (q14, s15))) else (if q1 = (3 : Int32) then (db_bd (db_f67 s9) fun q16 s17 => (some (q16, s17))) else (if q1 = (4 : Int32) then (db_bd (db_f75 s9) fun q18 s19 => (some (q18, s19))) else (db_bd (db_f77 s9) fun q20 s21 => (some (q20, s21))))))))) (db_bd (db_f58 s (6 : Int32)) fun q27 s28 => (some (q27, s28)))))) (db_bd (db_f58 s (2 : Int32)) fun q29 s30 => (some (q29, s30))))))
set_option maxRecDepth 100000 in
theorem db_f56_ok {X : db_X} {d : Nat} {s : db_S} : db_Rf X (d + 5) dbm_56 0 (lv_args 0 [.ref 145]) [] s db_zB (db_f56 s ) := by
  show db_Rf _ _ _ 0 [(0, .ref 145)] [] _ _ _
  unfold db_f56
  refine db_Rgo (pc' := 4) (lv' := [(0, .ref 145)]) (st' := [.ref 13]) 2 rfl ?_
  refine db_RcyI (mr' := dbm_57) (as := [.ref 13]) (rest := []) (pc' := 7) (lv1 := [(0, .ref 145)]) rfl rfl rfl rfl rfl (db_f57_ok) fun q1 => ?_
  refine db_Rgo (pc' := 11) (lv' := [(1, .int q1), (0, .ref 145)]) (st' := [.int (5 : Int32), .int (0 : Int32), .int q1]) 4 rfl ?_
  refine db_RcyB (mr' := dbm_27) (as := [.int q1, .int (0 : Int32), .int (5 : Int32)]) (rest := []) (pc' := 14) (lv1 := [(1, .int q1), (0, .ref 145)]) rfl rfl rfl rfl rfl (db_f27_ok) fun q3 => ?_
  refine db_RifBn (pc' := 17) (tg := 26) (lv1 := [(1, .int q1), (0, .ref 145)]) rfl rfl rfl rfl ?_ ?_
  · refine db_Rgo (pc' := 34) (lv' := [(0, .ref 145), (1, .int q1)]) (st' := [.int q1, .ref 147]) 4 rfl ?_
    refine db_RldI (pc' := 35) (lv1 := [(0, .ref 145), (1, .int q1)]) rfl rfl rfl fun x5 => ?_
    refine db_Rgo (pc' := 36) (lv' := [(0, .ref 145), (1, .int q1)]) (st' := [.int q1, .int x5]) 1 rfl ?_
    refine db_RcyI (mr' := dbm_59) (as := [.int q1]) (rest := [.int x5]) (pc' := 39) (lv1 := [(0, .ref 145), (1, .int q1)]) rfl rfl rfl rfl rfl (db_f59_ok) fun q6 => ?_
    refine db_Ric (pc' := 42) (tg := 52) (lv1 := [(0, .ref 145), (1, .int q1)]) rfl rfl rfl rfl ?_ ?_
    · refine db_Rgo (pc' := 56) (lv' := [(0, .ref 145), (1, .int q1)]) (st' := [.ref 13]) 2 rfl ?_
      refine db_RcV (mr' := dbm_60) (as := [.ref 13]) (rest := []) (pc' := 59) (lv1 := [(0, .ref 145), (1, .int q1)]) rfl rfl rfl rfl rfl (db_f60_ok) fun s9 => ?_
      refine db_Rgo (pc' := 60) (lv' := [(0, .ref 145), (1, .int q1)]) (st' := [.int q1]) 1 rfl ?_
      refine db_Rsw (v := (0 : Int32)) (tg := 96) (lv1 := [(0, .ref 145), (1, .int q1)]) rfl rfl rfl rfl rfl ?_ (fun zc22 => ?_)
      · refine db_Rgo (pc' := 105) (lv' := [(0, .ref 145)]) (st' := [.int (0 : Int32), .ref 146, .ref 13]) 5 rfl ?_
        refine db_RcdB (mr' := dbm_61) (as := [.ref 13, .ref 146, .int (0 : Int32)]) (rest := []) (pc' := 108) (lv1 := [(0, .ref 145)]) rfl rfl rfl rfl rfl (db_f61_146_ok) fun q10 s11 => ?_
        exact db_RretB (lv1 := [(0, .ref 145)]) rfl rfl rfl rfl
      refine db_Rsw (v := (1 : Int32)) (tg := 109) (lv1 := [(0, .ref 145), (1, .int q1)]) rfl rfl rfl rfl rfl ?_ (fun zc23 => ?_)
      · refine db_Rgo (pc' := 120) (lv' := [(0, .ref 145)]) (st' := [.int (6 : Int32), .ref 148, .int (1 : Int32), .ref 145]) 6 rfl ?_
        refine db_RcdB (mr' := dbm_65) (as := [.ref 145, .int (1 : Int32), .ref 148, .int (6 : Int32)]) (rest := []) (pc' := 123) (lv1 := [(0, .ref 145)]) rfl rfl rfl rfl rfl (db_f65_ok) fun q12 s13 => ?_
        exact db_RretB (lv1 := [(0, .ref 145)]) rfl rfl rfl rfl
      refine db_Rsw (v := (2 : Int32)) (tg := 124) (lv1 := [(0, .ref 145), (1, .int q1)]) rfl rfl rfl rfl rfl ?_ (fun zc24 => ?_)
      · refine db_Rgo (pc' := 135) (lv' := [(0, .ref 145)]) (st' := [.int (7 : Int32), .ref 149, .int (2 : Int32), .ref 145]) 6 rfl ?_
        refine db_RcdB (mr' := dbm_65) (as := [.ref 145, .int (2 : Int32), .ref 149, .int (7 : Int32)]) (rest := []) (pc' := 138) (lv1 := [(0, .ref 145)]) rfl rfl rfl rfl rfl (db_f65_ok) fun q14 s15 => ?_
        exact db_RretB (lv1 := [(0, .ref 145)]) rfl rfl rfl rfl
      refine db_Rsw (v := (3 : Int32)) (tg := 139) (lv1 := [(0, .ref 145), (1, .int q1)]) rfl rfl rfl rfl rfl ?_ (fun zc25 => ?_)
      · refine db_Rgo (pc' := 140) (lv' := [(0, .ref 145)]) (st' := [.ref 145]) 1 rfl ?_
        refine db_RcdB (mr' := dbm_67) (as := [.ref 145]) (rest := []) (pc' := 143) (lv1 := [(0, .ref 145)]) rfl rfl rfl rfl rfl (db_f67_ok) fun q16 s17 => ?_
        exact db_RretB (lv1 := [(0, .ref 145)]) rfl rfl rfl rfl
      refine db_Rsw (v := (4 : Int32)) (tg := 144) (lv1 := [(0, .ref 145), (1, .int q1)]) rfl rfl rfl rfl rfl ?_ (fun zc26 => ?_)
      · refine db_Rgo (pc' := 145) (lv' := [(0, .ref 145)]) (st' := [.ref 145]) 1 rfl ?_
        refine db_RcdB (mr' := dbm_75) (as := [.ref 145]) (rest := []) (pc' := 148) (lv1 := [(0, .ref 145)]) rfl rfl rfl rfl rfl (db_f75_ok) fun q18 s19 => ?_
        exact db_RretB (lv1 := [(0, .ref 145)]) rfl rfl rfl rfl
      refine db_Rsd (tg := 149) (lv1 := [(0, .ref 145), (1, .int q1)]) rfl rfl (db_swd 5 (by decide) (fun k hk => by match k, hk with | 0, _ => exact zc22 | 1, _ => exact zc23 | 2, _ => exact zc24 | 3, _ => exact zc25 | 4, _ => exact zc26 | k + 5, hk => exact absurd hk (by omega))) rfl ?_
      refine db_Rgo (pc' := 150) (lv' := [(0, .ref 145)]) (st' := [.ref 145]) 1 rfl ?_
      refine db_RcdB (mr' := dbm_77) (as := [.ref 145]) (rest := []) (pc' := 153) (lv1 := [(0, .ref 145)]) rfl rfl rfl rfl rfl (db_f77_ok) fun q20 s21 => ?_
      exact db_RretB (lv1 := [(0, .ref 145)]) rfl rfl rfl rfl
    refine db_Rgo (pc' := 48) (lv' := [(0, .ref 145), (1, .int q1)]) (st' := [.int (6 : Int32), .ref 13]) 3 rfl ?_
    refine db_RcdB (mr' := dbm_58) (as := [.ref 13, .int (6 : Int32)]) (rest := []) (pc' := 51) (lv1 := [(0, .ref 145), (1, .int q1)]) rfl rfl rfl rfl rfl (db_f58_ok) fun q27 s28 => ?_
    exact db_RretB (lv1 := [(0, .ref 145), (1, .int q1)]) rfl rfl rfl rfl
  refine db_Rgo (pc' := 22) (lv' := [(1, .int q1), (0, .ref 145)]) (st' := [.int (2 : Int32), .ref 13]) 3 rfl ?_
  refine db_RcdB (mr' := dbm_58) (as := [.ref 13, .int (2 : Int32)]) (rest := []) (pc' := 25) (lv1 := [(1, .int q1), (0, .ref 145)]) rfl rfl rfl rfl rfl (db_f58_ok) fun q29 s30 => ?_
  exact db_RretB (lv1 := [(1, .int q1), (0, .ref 145)]) rfl rfl rfl rfl
noncomputable def db_f79_b27 (s : db_S) : Option (Bool × db_S) :=
  (db_bd (db_f58 s (2 : Int32)) fun q1 s2 => (some (q1, s2)))
set_option maxRecDepth 100000 in
theorem db_f79_b27_ok {X : db_X} {d : Nat}  {s : db_S} : db_Rf X (d + 1) dbm_79 27 [(0, .ref 13)] [] s db_zB (db_f79_b27 s ) := by
  unfold db_f79_b27
  refine db_Rgo (pc' := 29) (lv' := [(0, .ref 13)]) (st' := [.int (2 : Int32), .ref 13]) 2 rfl ?_
  refine db_RcdB (mr' := dbm_58) (as := [.ref 13, .int (2 : Int32)]) (rest := []) (pc' := 32) (lv1 := [(0, .ref 13)]) rfl rfl rfl rfl rfl (db_f58_ok) fun q1 s2 => ?_
  exact db_RretB (lv1 := [(0, .ref 13)]) rfl rfl rfl rfl
/-- DreamBook$Scanner.takeStop()Z -/
noncomputable def db_f79 (s : db_S) : Option (Bool × db_S) :=
  ((db_rI s 16 (s.1 13 9)).bind fun x1 => (cond (db_cnd .ne x1 (3 : Int32)) (db_f79_b27 s ) ((db_rI s 18 (s.1 13 9)).bind fun x2 => (cond (db_cnd .eq x2 (59 : Int32)) ((db_f60 s).bind fun s4 => (some (true, s4))) (db_f79_b27 s )))))
set_option maxRecDepth 100000 in
theorem db_f79_ok {X : db_X} {d : Nat} {s : db_S} : db_Rf X (d + 1) dbm_79 0 (lv_args 0 [.ref 13]) [] s db_zB (db_f79 s ) := by
  show db_Rf _ _ _ 0 [(0, .ref 13)] [] _ _ _
  unfold db_f79
  refine db_Rgo (pc' := 8) (lv' := [(0, .ref 13)]) (st' := [.int (s.1 13 9), .ref 16]) 4 rfl ?_
  refine db_RldI (pc' := 9) (lv1 := [(0, .ref 13)]) rfl rfl rfl fun x1 => ?_
  refine db_Rgo (pc' := 10) (lv' := [(0, .ref 13)]) (st' := [.int (3 : Int32), .int x1]) 1 rfl ?_
  refine db_Ric (pc' := 13) (tg := 27) (lv1 := [(0, .ref 13)]) rfl rfl rfl rfl ?_ ?_
  · exact db_f79_b27_ok
  refine db_Rgo (pc' := 21) (lv' := [(0, .ref 13)]) (st' := [.int (s.1 13 9), .ref 18]) 4 rfl ?_
  refine db_RldI (pc' := 22) (lv1 := [(0, .ref 13)]) rfl rfl rfl fun x2 => ?_
  refine db_Rgo (pc' := 24) (lv' := [(0, .ref 13)]) (st' := [.int (59 : Int32), .int x2]) 1 rfl ?_
  refine db_Ric (pc' := 27) (tg := 33) (lv1 := [(0, .ref 13)]) rfl rfl rfl rfl ?_ ?_
  · refine db_Rgo (pc' := 34) (lv' := [(0, .ref 13)]) (st' := [.ref 13]) 1 rfl ?_
    refine db_RcV (mr' := dbm_60) (as := [.ref 13]) (rest := []) (pc' := 37) (lv1 := [(0, .ref 13)]) rfl rfl rfl rfl rfl (db_f60_ok) fun s4 => ?_
    refine db_Rgo (pc' := 38) (lv' := [(0, .ref 13)]) (st' := [.int (1 : Int32)]) 1 rfl ?_
    exact db_Rret (lv1 := [(0, .ref 13)]) rfl rfl rfl rfl
  exact db_f79_b27_ok
noncomputable def db_f81_146_b87 (h12 : db_S → Int32 → Option db_S) (h20 : db_S → Int32 → Int32 → Option db_S) (s : db_S) (v1 : Int32) (v2 : Int32) : Option db_S :=
  (h20 s v1 (v2 + (1 : Int32)))
set_option maxRecDepth 100000 in
theorem db_f81_146_b87_ok {X : db_X} {d : Nat}  {h12 : db_S → Int32 → Option db_S} {h20 : db_S → Int32 → Int32 → Option db_S} {s : db_S} {v1 : Int32} {v2 : Int32} (zh12 : ∀ (s' : db_S) (v1 : Int32) , db_Rf X (d + 0) dbm_81 12 [(0, .ref 146), (1, .int v1)] [] s' db_zV (h12 s' v1)) (zh20 : ∀ (s' : db_S) (v1 : Int32) (v2 : Int32) , db_Rf X (d + 0) dbm_81 20 [(0, .ref 146), (1, .int v1), (2, .int v2)] [] s' db_zV (h20 s' v1 v2)) : db_Rf X (d + 0) dbm_81 87 [(0, .ref 146), (1, .int v1), (2, .int v2)] [] s db_zV (db_f81_146_b87 h12 h20 s v1 v2) := by
  unfold db_f81_146_b87
  refine db_Rgo (pc' := 20) (lv' := [(2, .int (v2 + (1 : Int32))), (0, .ref 146), (1, .int v1)]) (st' := []) 2 rfl ?_
  refine db_Rn (lv1 := [(0, .ref 146), (1, .int v1), (2, .int (v2 + (1 : Int32)))]) rfl rfl rfl ?_
  exact zh20 _ _ _
noncomputable def db_f81_146_b20 (h12 : db_S → Int32 → Option db_S) : Nat → db_S → Int32 → Int32 → Option db_S
  | 0, _, _, _ => none
  | n + 1, s, v1, v2 =>
    ((db_rI s 147 (3 : Int32)).bind fun x1 => (cond (db_cnd .ge v2 x1) (h12 s (v1 + (1 : Int32))) ((db_rI s 189 v2).bind fun x2 => (cond (db_cnd .eq (x2 &&& (s.1 146 13)) 0) ((db_rI s 189 v2).bind fun x3 => (cond (db_cnd .ne (x3 &&& ((s.1 146 14) ^^^ (-1 : Int32))) 0) (db_f81_146_b87 h12 (db_f81_146_b20 h12 n) s v1 v2) ((db_pI s 146 13 ((s.1 146 13) ||| ((1 : Int32) <<< (v2 &&& 31)))).bind fun s4 => (db_f81_146_b87 h12 (db_f81_146_b20 h12 n) s4 v1 v2)))) ((db_pI s 146 14 ((s.1 146 14) ||| ((1 : Int32) <<< (v2 &&& 31)))).bind fun s5 => (db_f81_146_b87 h12 (db_f81_146_b20 h12 n) s5 v1 v2))))))
set_option maxRecDepth 100000 in
theorem db_f81_146_b20_ok {X : db_X} {d : Nat}  {h12 : db_S → Int32 → Option db_S} (zh12 : ∀ (s' : db_S) (v1 : Int32) , db_Rf X (d + 0) dbm_81 12 [(0, .ref 146), (1, .int v1)] [] s' db_zV (h12 s' v1)) (n : Nat) : ∀ (s : db_S) (v1 : Int32) (v2 : Int32), db_Rf X (d + 0) dbm_81 20 [(0, .ref 146), (1, .int v1), (2, .int v2)] [] s db_zV (db_f81_146_b20 h12 n s v1 v2) := by
  induction n with
  | zero => intros; exact db_Rnone
  | succ n ih =>
    intro s v1 v2
    unfold db_f81_146_b20
    refine db_Rgo (pc' := 26) (lv' := [(0, .ref 146), (1, .int v1), (2, .int v2)]) (st' := [.int (3 : Int32), .ref 147, .int v2]) 4 rfl ?_
    refine db_RldI (pc' := 27) (lv1 := [(0, .ref 146), (1, .int v1), (2, .int v2)]) rfl rfl rfl fun x1 => ?_
    refine db_Ric (pc' := 30) (tg := 93) (lv1 := [(0, .ref 146), (1, .int v1), (2, .int v2)]) rfl rfl rfl rfl ?_ ?_
    · refine db_Rgo (pc' := 12) (lv' := [(1, .int (v1 + (1 : Int32))), (0, .ref 146)]) (st' := []) 2 rfl ?_
      refine db_Rn (lv1 := [(0, .ref 146), (1, .int (v1 + (1 : Int32)))]) rfl rfl rfl ?_
      exact zh12 _ _
    refine db_Rgo (pc' := 35) (lv' := [(0, .ref 146), (1, .int v1), (2, .int v2)]) (st' := [.int v2, .ref 189]) 3 rfl ?_
    refine db_RldI (pc' := 36) (lv1 := [(0, .ref 146), (1, .int v1), (2, .int v2)]) rfl rfl rfl fun x2 => ?_
    refine db_Rgo (pc' := 41) (lv' := [(0, .ref 146), (1, .int v1), (2, .int v2)]) (st' := [.int (x2 &&& (s.1 146 13))]) 3 rfl ?_
    refine db_Rif (pc' := 44) (tg := 59) (lv1 := [(0, .ref 146), (1, .int v1), (2, .int v2)]) rfl rfl rfl rfl ?_ ?_
    · refine db_Rgo (pc' := 64) (lv' := [(0, .ref 146), (1, .int v1), (2, .int v2)]) (st' := [.int v2, .ref 189]) 3 rfl ?_
      refine db_RldI (pc' := 65) (lv1 := [(0, .ref 146), (1, .int v1), (2, .int v2)]) rfl rfl rfl fun x3 => ?_
      refine db_Rgo (pc' := 72) (lv' := [(0, .ref 146), (1, .int v1), (2, .int v2)]) (st' := [.int (x3 &&& ((s.1 146 14) ^^^ (-1 : Int32)))]) 5 rfl ?_
      refine db_Rif (pc' := 75) (tg := 87) (lv1 := [(0, .ref 146), (1, .int v1), (2, .int v2)]) rfl rfl rfl rfl ?_ ?_
      · exact db_f81_146_b87_ok zh12 ih
      refine db_Rgo (pc' := 84) (lv' := [(0, .ref 146), (1, .int v1), (2, .int v2)]) (st' := [.int ((s.1 146 13) ||| ((1 : Int32) <<< (v2 &&& 31))), .ref 146]) 7 rfl ?_
      refine db_RpuI (pc' := 87) (lv1 := [(0, .ref 146), (1, .int v1), (2, .int v2)]) rfl rfl rfl rfl rfl rfl (by decide) rfl rfl fun s4 => ?_
      exact db_f81_146_b87_ok zh12 ih
    refine db_Rgo (pc' := 53) (lv' := [(0, .ref 146), (1, .int v1), (2, .int v2)]) (st' := [.int ((s.1 146 14) ||| ((1 : Int32) <<< (v2 &&& 31))), .ref 146]) 7 rfl ?_
    refine db_RpuI (pc' := 56) (lv1 := [(0, .ref 146), (1, .int v1), (2, .int v2)]) rfl rfl rfl rfl rfl rfl (by decide) rfl rfl fun s5 => ?_
    refine db_Rgo (pc' := 87) (lv' := [(0, .ref 146), (1, .int v1), (2, .int v2)]) (st' := []) 1 rfl ?_
    exact db_f81_146_b87_ok zh12 ih
noncomputable def db_f81_146_b12 : Nat → db_S → Int32 → Option db_S
  | 0, _, _ => none
  | n + 1, s, v1 =>
    (cond (db_cnd .ge v1 (12 : Int32)) (some s) (db_f81_146_b20 (db_f81_146_b12 n) db_FU s v1 (0 : Int32)))
set_option maxRecDepth 100000 in
theorem db_f81_146_b12_ok {X : db_X} {d : Nat}  (n : Nat) : ∀ (s : db_S) (v1 : Int32), db_Rf X (d + 0) dbm_81 12 [(0, .ref 146), (1, .int v1)] [] s db_zV (db_f81_146_b12 n s v1) := by
  induction n with
  | zero => intros; exact db_Rnone
  | succ n ih =>
    intro s v1
    unfold db_f81_146_b12
    refine db_Rgo (pc' := 15) (lv' := [(0, .ref 146), (1, .int v1)]) (st' := [.int (12 : Int32), .int v1]) 2 rfl ?_
    refine db_Ric (pc' := 18) (tg := 99) (lv1 := [(0, .ref 146), (1, .int v1)]) rfl rfl rfl rfl ?_ ?_
    · exact db_Rret (lv1 := []) rfl rfl rfl rfl
    refine db_Rgo (pc' := 20) (lv' := [(2, .int (0 : Int32)), (0, .ref 146), (1, .int v1)]) (st' := []) 2 rfl ?_
    refine db_Rn (lv1 := [(0, .ref 146), (1, .int v1), (2, .int (0 : Int32))]) rfl rfl rfl ?_
    exact db_f81_146_b20_ok ih db_FU _ _ _
/-- DreamBook$Told.settleStanding()V -/
noncomputable def db_f81_146 (s : db_S) : Option db_S :=
  ((db_pI s 146 13 (0 : Int32)).bind fun s1 => ((db_pI s1 146 14 (0 : Int32)).bind fun s2 => (db_f81_146_b12 db_FU s2 (0 : Int32))))
set_option maxRecDepth 100000 in
theorem db_f81_146_ok {X : db_X} {d : Nat} {s : db_S} : db_Rf X (d + 0) dbm_81 0 (lv_args 0 [.ref 146]) [] s db_zV (db_f81_146 s ) := by
  show db_Rf _ _ _ 0 [(0, .ref 146)] [] _ _ _
  unfold db_f81_146
  refine db_Rgo (pc' := 2) (lv' := [(0, .ref 146)]) (st' := [.int (0 : Int32), .ref 146]) 2 rfl ?_
  refine db_RpuI (pc' := 5) (lv1 := [(0, .ref 146)]) rfl rfl rfl rfl rfl rfl (by decide) rfl rfl fun s1 => ?_
  refine db_Rgo (pc' := 7) (lv' := [(0, .ref 146)]) (st' := [.int (0 : Int32), .ref 146]) 2 rfl ?_
  refine db_RpuI (pc' := 10) (lv1 := [(0, .ref 146)]) rfl rfl rfl rfl rfl rfl (by decide) rfl rfl fun s2 => ?_
  refine db_Rgo (pc' := 12) (lv' := [(1, .int (0 : Int32)), (0, .ref 146)]) (st' := []) 2 rfl ?_
  refine db_Rn (lv1 := [(0, .ref 146), (1, .int (0 : Int32))]) rfl rfl rfl ?_
  exact db_f81_146_b12_ok db_FU _ _
noncomputable def db_f80_146_b77 : Nat → db_S → Int32 → Option db_S
  | 0, _, _ => none
  | n + 1, s, v1 =>
    ((db_rI s 147 (4 : Int32)).bind fun x1 => (cond (db_cnd .ge v1 x1) ((db_f81_146 s).bind fun s3 => (some s3)) ((db_rR 163 v1).bind fun y4 => ((db_rI s y4 (0 : Int32)).bind fun x5 => ((db_rI s 188 x5).bind fun x6 => ((db_rR 163 v1).bind fun y7 => ((db_rI s y7 (1 : Int32)).bind fun x8 => ((db_wI s 188 x5 (x6 ||| ((1 : Int32) <<< (x8 &&& 31)))).bind fun s9 => ((db_rR 163 v1).bind fun y10 => ((db_rI s9 y10 (1 : Int32)).bind fun x11 => ((db_rI s9 189 x11).bind fun x12 => ((db_rR 163 v1).bind fun y13 => ((db_rI s9 y13 (0 : Int32)).bind fun x14 => ((db_wI s9 189 x11 (x12 ||| ((1 : Int32) <<< (x14 &&& 31)))).bind fun s15 => (db_f80_146_b77 n s15 (v1 + (1 : Int32)))))))))))))))))
set_option maxRecDepth 100000 in
theorem db_f80_146_b77_ok {X : db_X} {d : Nat}  (n : Nat) : ∀ (s : db_S) (v1 : Int32), db_Rf X (d + 1) dbm_80 77 [(0, .ref 146), (1, .int v1)] [] s db_zV (db_f80_146_b77 n s v1) := by
  induction n with
  | zero => intros; exact db_Rnone
  | succ n ih =>
    intro s v1
    unfold db_f80_146_b77
    refine db_Rgo (pc' := 83) (lv' := [(0, .ref 146), (1, .int v1)]) (st' := [.int (4 : Int32), .ref 147, .int v1]) 4 rfl ?_
    refine db_RldI (pc' := 84) (lv1 := [(0, .ref 146), (1, .int v1)]) rfl rfl rfl fun x1 => ?_
    refine db_Ric (pc' := 87) (tg := 145) (lv1 := [(0, .ref 146), (1, .int v1)]) rfl rfl rfl rfl ?_ ?_
    · refine db_Rgo (pc' := 146) (lv' := [(0, .ref 146)]) (st' := [.ref 146]) 1 rfl ?_
      refine db_RcV (mr' := dbm_81) (as := [.ref 146]) (rest := []) (pc' := 149) (lv1 := [(0, .ref 146)]) rfl rfl rfl rfl rfl (db_f81_146_ok) fun s3 => ?_
      exact db_Rret (lv1 := [(0, .ref 146)]) rfl rfl rfl rfl
    refine db_Rgo (pc' := 96) (lv' := [(0, .ref 146), (1, .int v1)]) (st' := [.int v1, .ref 163, .ref 188]) 5 rfl ?_
    refine db_RldR (pc' := 97) (lv1 := [(0, .ref 146), (1, .int v1)]) rfl rfl rfl fun y4 => ?_
    refine db_Rgo (pc' := 98) (lv' := [(0, .ref 146), (1, .int v1)]) (st' := [.int (0 : Int32), .ref (y4 + 4), .ref 188]) 1 rfl ?_
    refine db_RldI (pc' := 99) (lv1 := [(0, .ref 146), (1, .int v1)]) rfl rfl rfl fun x5 => ?_
    refine db_Rgo (pc' := 100) (lv' := [(0, .ref 146), (1, .int v1)]) (st' := [.int x5, .ref 188, .int x5, .ref 188]) 1 rfl ?_
    refine db_RldI (pc' := 101) (lv1 := [(0, .ref 146), (1, .int v1)]) rfl rfl rfl fun x6 => ?_
    refine db_Rgo (pc' := 107) (lv' := [(0, .ref 146), (1, .int v1)]) (st' := [.int v1, .ref 163, .int (1 : Int32), .int x6, .int x5, .ref 188]) 4 rfl ?_
    refine db_RldR (pc' := 108) (lv1 := [(0, .ref 146), (1, .int v1)]) rfl rfl rfl fun y7 => ?_
    refine db_Rgo (pc' := 109) (lv' := [(0, .ref 146), (1, .int v1)]) (st' := [.int (1 : Int32), .ref (y7 + 4), .int (1 : Int32), .int x6, .int x5, .ref 188]) 1 rfl ?_
    refine db_RldI (pc' := 110) (lv1 := [(0, .ref 146), (1, .int v1)]) rfl rfl rfl fun x8 => ?_
    refine db_Rgo (pc' := 112) (lv' := [(0, .ref 146), (1, .int v1)]) (st' := [.int (x6 ||| ((1 : Int32) <<< (x8 &&& 31))), .int x5, .ref 188]) 2 rfl ?_
    refine db_RstI (pc' := 113) (lv1 := [(0, .ref 146), (1, .int v1)]) rfl rfl rfl fun s9 => ?_
    refine db_Rgo (pc' := 122) (lv' := [(0, .ref 146), (1, .int v1)]) (st' := [.int v1, .ref 163, .ref 189]) 5 rfl ?_
    refine db_RldR (pc' := 123) (lv1 := [(0, .ref 146), (1, .int v1)]) rfl rfl rfl fun y10 => ?_
    refine db_Rgo (pc' := 124) (lv' := [(0, .ref 146), (1, .int v1)]) (st' := [.int (1 : Int32), .ref (y10 + 4), .ref 189]) 1 rfl ?_
    refine db_RldI (pc' := 125) (lv1 := [(0, .ref 146), (1, .int v1)]) rfl rfl rfl fun x11 => ?_
    refine db_Rgo (pc' := 126) (lv' := [(0, .ref 146), (1, .int v1)]) (st' := [.int x11, .ref 189, .int x11, .ref 189]) 1 rfl ?_
    refine db_RldI (pc' := 127) (lv1 := [(0, .ref 146), (1, .int v1)]) rfl rfl rfl fun x12 => ?_
    refine db_Rgo (pc' := 133) (lv' := [(0, .ref 146), (1, .int v1)]) (st' := [.int v1, .ref 163, .int (1 : Int32), .int x12, .int x11, .ref 189]) 4 rfl ?_
    refine db_RldR (pc' := 134) (lv1 := [(0, .ref 146), (1, .int v1)]) rfl rfl rfl fun y13 => ?_
    refine db_Rgo (pc' := 135) (lv' := [(0, .ref 146), (1, .int v1)]) (st' := [.int (0 : Int32), .ref (y13 + 4), .int (1 : Int32), .int x12, .int x11, .ref 189]) 1 rfl ?_
    refine db_RldI (pc' := 136) (lv1 := [(0, .ref 146), (1, .int v1)]) rfl rfl rfl fun x14 => ?_
    refine db_Rgo (pc' := 138) (lv' := [(0, .ref 146), (1, .int v1)]) (st' := [.int (x12 ||| ((1 : Int32) <<< (x14 &&& 31))), .int x11, .ref 189]) 2 rfl ?_
    refine db_RstI (pc' := 139) (lv1 := [(0, .ref 146), (1, .int v1)]) rfl rfl rfl fun s15 => ?_
    refine db_Rgo (pc' := 77) (lv' := [(1, .int (v1 + (1 : Int32))), (0, .ref 146)]) (st' := []) 2 rfl ?_
    refine db_Rn (lv1 := [(0, .ref 146), (1, .int (v1 + (1 : Int32)))]) rfl rfl rfl ?_
    exact ih _ _
noncomputable def db_f80_146_b26 : Nat → db_S → Int32 → Option db_S
  | 0, _, _ => none
  | n + 1, s, v1 =>
    ((db_rI s 147 (3 : Int32)).bind fun x1 => (cond (db_cnd .ge v1 x1) (db_f80_146_b77 db_FU s (0 : Int32)) ((db_rR 150 v1).bind fun y2 => ((db_rI s y2 (0 : Int32)).bind fun x3 => ((db_rR 190 x3).bind fun y4 => ((db_rI s 201 x3).bind fun x5 => ((db_wI s y4 x5 v1).bind fun s6 => ((db_rI s6 201 x3).bind fun x7 => ((db_wI s6 201 x3 (x7 + (1 : Int32))).bind fun s8 => (db_f80_146_b26 n s8 (v1 + (1 : Int32))))))))))))
set_option maxRecDepth 100000 in
theorem db_f80_146_b26_ok {X : db_X} {d : Nat}  (n : Nat) : ∀ (s : db_S) (v1 : Int32), db_Rf X (d + 1) dbm_80 26 [(0, .ref 146), (1, .int v1)] [] s db_zV (db_f80_146_b26 n s v1) := by
  induction n with
  | zero => intros; exact db_Rnone
  | succ n ih =>
    intro s v1
    unfold db_f80_146_b26
    refine db_Rgo (pc' := 32) (lv' := [(0, .ref 146), (1, .int v1)]) (st' := [.int (3 : Int32), .ref 147, .int v1]) 4 rfl ?_
    refine db_RldI (pc' := 33) (lv1 := [(0, .ref 146), (1, .int v1)]) rfl rfl rfl fun x1 => ?_
    refine db_Ric (pc' := 36) (tg := 75) (lv1 := [(0, .ref 146), (1, .int v1)]) rfl rfl rfl rfl ?_ ?_
    · refine db_Rgo (pc' := 77) (lv' := [(1, .int (0 : Int32)), (0, .ref 146)]) (st' := []) 2 rfl ?_
      refine db_Rn (lv1 := [(0, .ref 146), (1, .int (0 : Int32))]) rfl rfl rfl ?_
      exact db_f80_146_b77_ok db_FU _ _
    refine db_Rgo (pc' := 41) (lv' := [(0, .ref 146), (1, .int v1)]) (st' := [.int v1, .ref 150]) 3 rfl ?_
    refine db_RldR (pc' := 42) (lv1 := [(0, .ref 146), (1, .int v1)]) rfl rfl rfl fun y2 => ?_
    refine db_Rgo (pc' := 43) (lv' := [(0, .ref 146), (1, .int v1)]) (st' := [.int (0 : Int32), .ref (y2 + 4)]) 1 rfl ?_
    refine db_RldI (pc' := 44) (lv1 := [(0, .ref 146), (1, .int v1)]) rfl rfl rfl fun x3 => ?_
    refine db_Rgo (pc' := 50) (lv' := [(2, .int x3), (0, .ref 146), (1, .int v1)]) (st' := [.int x3, .ref 190]) 4 rfl ?_
    refine db_RldR (pc' := 51) (lv1 := [(2, .int x3), (0, .ref 146), (1, .int v1)]) rfl rfl rfl fun y4 => ?_
    refine db_Rgo (pc' := 56) (lv' := [(2, .int x3), (0, .ref 146), (1, .int v1)]) (st' := [.int x3, .ref 201, .ref (y4 + 4)]) 3 rfl ?_
    refine db_RldI (pc' := 57) (lv1 := [(2, .int x3), (0, .ref 146), (1, .int v1)]) rfl rfl rfl fun x5 => ?_
    refine db_Rgo (pc' := 58) (lv' := [(2, .int x3), (0, .ref 146), (1, .int v1)]) (st' := [.int v1, .int x5, .ref (y4 + 4)]) 1 rfl ?_
    refine db_RstI (pc' := 59) (lv1 := [(2, .int x3), (0, .ref 146), (1, .int v1)]) rfl rfl rfl fun s6 => ?_
    refine db_Rgo (pc' := 65) (lv' := [(2, .int x3), (0, .ref 146), (1, .int v1)]) (st' := [.int x3, .ref 201, .int x3, .ref 201]) 4 rfl ?_
    refine db_RldI (pc' := 66) (lv1 := [(2, .int x3), (0, .ref 146), (1, .int v1)]) rfl rfl rfl fun x7 => ?_
    refine db_Rgo (pc' := 68) (lv' := [(2, .int x3), (0, .ref 146), (1, .int v1)]) (st' := [.int (x7 + (1 : Int32)), .int x3, .ref 201]) 2 rfl ?_
    refine db_RstI (pc' := 69) (lv1 := [(2, .int x3), (0, .ref 146), (1, .int v1)]) rfl rfl rfl fun s8 => ?_
    refine db_Rgo (pc' := 26) (lv' := [(1, .int (v1 + (1 : Int32))), (2, .int x3), (0, .ref 146)]) (st' := []) 2 rfl ?_
    refine db_Rn (lv1 := [(0, .ref 146), (1, .int (v1 + (1 : Int32)))]) rfl rfl rfl ?_
    exact ih _ _
/-- DreamBook$Told.settle()V -/
noncomputable def db_f80_146 (s : db_S) : Option db_S :=
  ((db_f2 s 201 (0 : Int32)).bind fun s2 => ((db_f2 s2 188 (0 : Int32)).bind fun s4 => ((db_f2 s4 189 (0 : Int32)).bind fun s6 => (db_f80_146_b26 db_FU s6 (0 : Int32)))))
set_option maxRecDepth 100000 in
theorem db_f80_146_ok {X : db_X} {d : Nat} {s : db_S} : db_Rf X (d + 1) dbm_80 0 (lv_args 0 [.ref 146]) [] s db_zV (db_f80_146 s ) := by
  show db_Rf _ _ _ 0 [(0, .ref 146)] [] _ _ _
  unfold db_f80_146
  refine db_Rgo (pc' := 5) (lv' := [(0, .ref 146)]) (st' := [.int (0 : Int32), .ref 201]) 3 rfl ?_
  refine db_RcV (mr' := dbm_2) (as := [.ref 201, .int (0 : Int32)]) (rest := []) (pc' := 8) (lv1 := [(0, .ref 146)]) rfl rfl rfl rfl rfl (db_f2_ok) fun s2 => ?_
  refine db_Rgo (pc' := 13) (lv' := [(0, .ref 146)]) (st' := [.int (0 : Int32), .ref 188]) 3 rfl ?_
  refine db_RcV (mr' := dbm_2) (as := [.ref 188, .int (0 : Int32)]) (rest := []) (pc' := 16) (lv1 := [(0, .ref 146)]) rfl rfl rfl rfl rfl (db_f2_ok) fun s4 => ?_
  refine db_Rgo (pc' := 21) (lv' := [(0, .ref 146)]) (st' := [.int (0 : Int32), .ref 189]) 3 rfl ?_
  refine db_RcV (mr' := dbm_2) (as := [.ref 189, .int (0 : Int32)]) (rest := []) (pc' := 24) (lv1 := [(0, .ref 146)]) rfl rfl rfl rfl rfl (db_f2_ok) fun s6 => ?_
  refine db_Rgo (pc' := 26) (lv' := [(1, .int (0 : Int32)), (0, .ref 146)]) (st' := []) 2 rfl ?_
  refine db_Rn (lv1 := [(0, .ref 146), (1, .int (0 : Int32))]) rfl rfl rfl ?_
  exact db_f80_146_b26_ok db_FU _ _
noncomputable def db_f45_b59 (s : db_S) : Option (Bool × db_S) :=
  ((db_f80_146 s).bind fun s2 => (some (true, s2)))
set_option maxRecDepth 100000 in
theorem db_f45_b59_ok {X : db_X} {d : Nat}  {s : db_S} : db_Rf X (d + 6) dbm_45 59 [(0, .ref 145)] [] s db_zB (db_f45_b59 s ) := by
  unfold db_f45_b59
  refine db_Rgo (pc' := 63) (lv' := [(0, .ref 145)]) (st' := [.ref 146]) 2 rfl ?_
  refine db_RcV (mr' := dbm_80) (as := [.ref 146]) (rest := []) (pc' := 66) (lv1 := [(0, .ref 145)]) rfl rfl rfl rfl rfl (db_f80_146_ok) fun s2 => ?_
  refine db_Rgo (pc' := 67) (lv' := [(0, .ref 145)]) (st' := [.int (1 : Int32)]) 1 rfl ?_
  exact db_Rret (lv1 := [(0, .ref 145)]) rfl rfl rfl rfl
noncomputable def db_f45_b17 : Nat → db_S → Int32 → Option (Bool × db_S)
  | 0, _, _ => none
  | n + 1, s, v2 =>
    (cond (db_cnd .ge v2 (900 : Int32)) (db_f45_b59 s ) ((db_f55 s).bind fun q1 => (cond q1 (db_f45_b59 s ) (db_bd (db_f56 s) fun q3 s4 => (cond q3 (db_bd (db_f79 s4) fun q5 s6 => (cond q5 (db_f45_b17 n s6 (v2 + (1 : Int32))) (some (false, s6)))) (some (false, s4)))))))
set_option maxRecDepth 100000 in
theorem db_f45_b17_ok {X : db_X} {d : Nat}  (n : Nat) : ∀ (s : db_S) (v2 : Int32), db_Rf X (d + 6) dbm_45 17 [(0, .ref 145), (2, .int v2)] [] s db_zB (db_f45_b17 n s v2) := by
  induction n with
  | zero => intros; exact db_Rnone
  | succ n ih =>
    intro s v2
    unfold db_f45_b17
    refine db_Rgo (pc' := 21) (lv' := [(0, .ref 145), (2, .int v2)]) (st' := [.int (900 : Int32), .int v2]) 2 rfl ?_
    refine db_Ric (pc' := 24) (tg := 59) (lv1 := [(0, .ref 145), (2, .int v2)]) rfl rfl rfl rfl ?_ ?_
    · refine db_Rn (lv1 := [(0, .ref 145)]) rfl rfl rfl ?_
      exact db_f45_b59_ok
    refine db_Rgo (pc' := 28) (lv' := [(0, .ref 145), (2, .int v2)]) (st' := [.ref 13]) 2 rfl ?_
    refine db_RcyB (mr' := dbm_55) (as := [.ref 13]) (rest := []) (pc' := 31) (lv1 := [(0, .ref 145), (2, .int v2)]) rfl rfl rfl rfl rfl (db_f55_ok) fun q1 => ?_
    refine db_RifBn (pc' := 34) (tg := 59) (lv1 := [(0, .ref 145), (2, .int v2)]) rfl rfl rfl rfl ?_ ?_
    · refine db_Rn (lv1 := [(0, .ref 145)]) rfl rfl rfl ?_
      exact db_f45_b59_ok
    refine db_Rgo (pc' := 35) (lv' := [(0, .ref 145), (2, .int v2)]) (st' := [.ref 145]) 1 rfl ?_
    refine db_RcdB (mr' := dbm_56) (as := [.ref 145]) (rest := []) (pc' := 38) (lv1 := [(0, .ref 145), (2, .int v2)]) rfl rfl rfl rfl rfl (db_f56_ok) fun q3 s4 => ?_
    refine db_RifBe (pc' := 41) (tg := 51) (lv1 := [(0, .ref 145), (2, .int v2)]) rfl rfl rfl rfl ?_ ?_
    · refine db_Rgo (pc' := 52) (lv' := []) (st' := [.int (0 : Int32)]) 1 rfl ?_
      exact db_Rret (lv1 := []) rfl rfl rfl rfl
    refine db_Rgo (pc' := 45) (lv' := [(0, .ref 145), (2, .int v2)]) (st' := [.ref 13]) 2 rfl ?_
    refine db_RcdB (mr' := dbm_79) (as := [.ref 13]) (rest := []) (pc' := 48) (lv1 := [(0, .ref 145), (2, .int v2)]) rfl rfl rfl rfl rfl (db_f79_ok) fun q5 s6 => ?_
    refine db_RifBn (pc' := 51) (tg := 53) (lv1 := [(0, .ref 145), (2, .int v2)]) rfl rfl rfl rfl ?_ ?_
    · refine db_Rgo (pc' := 17) (lv' := [(2, .int (v2 + (1 : Int32))), (0, .ref 145)]) (st' := []) 2 rfl ?_
      refine db_Rn (lv1 := [(0, .ref 145), (2, .int (v2 + (1 : Int32)))]) rfl rfl rfl ?_
      exact ih _ _
    refine db_Rgo (pc' := 52) (lv' := []) (st' := [.int (0 : Int32)]) 1 rfl ?_
    exact db_Rret (lv1 := []) rfl rfl rfl rfl
/-- DreamBook$BookParser.parse(I)Z -/
noncomputable def db_f45 (s : db_S) (v1 : Int32) : Option (Bool × db_S) :=
  ((db_f46_146 s).bind fun s2 => ((db_f47 s2 v1).bind fun s4 => (db_f45_b17 db_FU s4 (0 : Int32))))
set_option maxRecDepth 100000 in
theorem db_f45_ok {X : db_X} {d : Nat} {s : db_S} {v1 : Int32} : db_Rf X (d + 6) dbm_45 0 (lv_args 0 [.ref 145, .int v1]) [] s db_zB (db_f45 s v1) := by
  show db_Rf _ _ _ 0 [(0, .ref 145), (1, .int v1)] [] _ _ _
  unfold db_f45
  refine db_Rgo (pc' := 4) (lv' := [(0, .ref 145), (1, .int v1)]) (st' := [.ref 146]) 2 rfl ?_
  refine db_RcV (mr' := dbm_46) (as := [.ref 146]) (rest := []) (pc' := 7) (lv1 := [(0, .ref 145), (1, .int v1)]) rfl rfl rfl rfl rfl (db_f46_146_ok) fun s2 => ?_
  refine db_Rgo (pc' := 12) (lv' := [(0, .ref 145), (1, .int v1)]) (st' := [.int v1, .ref 13]) 3 rfl ?_
  refine db_RcV (mr' := dbm_47) (as := [.ref 13, .int v1]) (rest := []) (pc' := 15) (lv1 := [(0, .ref 145), (1, .int v1)]) rfl rfl rfl rfl rfl (db_f47_ok) fun s4 => ?_
  refine db_Rgo (pc' := 17) (lv' := [(2, .int (0 : Int32)), (0, .ref 145), (1, .int v1)]) (st' := []) 2 rfl ?_
  refine db_Rn (lv1 := [(0, .ref 145), (2, .int (0 : Int32))]) rfl rfl rfl ?_
  exact db_f45_b17_ok db_FU _ _
/-- DreamBook.copyRow([I[I)V -/
noncomputable def db_f83 (s : db_S) (a0 : Nat) (a1 : Nat) : Option db_S :=
  ((db_ln a0).bind fun x1 => ((db_ln a1).bind fun x2 => ((db_cI s a0 (0 : Int32) a1 (0 : Int32) (if x2 < x1 then x2 else x1)).bind fun s3 => (some s3))))
set_option maxRecDepth 100000 in
theorem db_f83_ok {X : db_X} {d : Nat} {s : db_S} {a0 : Nat} {a1 : Nat} : db_Rf X (d + 0) dbm_83 0 (lv_args 0 [.ref (a0 + 4), .ref (a1 + 4)]) [] s db_zV (db_f83 s (a0 + 4) (a1 + 4)) := by
  show db_Rf _ _ _ 0 [(0, .ref (a0 + 4)), (1, .ref (a1 + 4))] [] _ _ _
  unfold db_f83
  refine db_Rgo (pc' := 5) (lv' := [(0, .ref (a0 + 4)), (1, .ref (a1 + 4))]) (st' := [.ref (a0 + 4), .int (0 : Int32), .ref (a1 + 4), .int (0 : Int32), .ref (a0 + 4)]) 5 rfl ?_
  refine db_Rlen (pc' := 6) (lv1 := [(0, .ref (a0 + 4)), (1, .ref (a1 + 4))]) rfl rfl rfl fun x1 => ?_
  refine db_Rgo (pc' := 7) (lv' := [(0, .ref (a0 + 4)), (1, .ref (a1 + 4))]) (st' := [.ref (a1 + 4), .int x1, .int (0 : Int32), .ref (a1 + 4), .int (0 : Int32), .ref (a0 + 4)]) 1 rfl ?_
  refine db_Rlen (pc' := 8) (lv1 := [(0, .ref (a0 + 4)), (1, .ref (a1 + 4))]) rfl rfl rfl fun x2 => ?_
  refine db_Rgo (pc' := 11) (lv' := [(0, .ref (a0 + 4)), (1, .ref (a1 + 4))]) (st' := [.int (if x2 < x1 then x2 else x1), .int (0 : Int32), .ref (a1 + 4), .int (0 : Int32), .ref (a0 + 4)]) 1 rfl ?_
  refine db_RcpI (pc' := 14) (lv1 := [(0, .ref (a0 + 4)), (1, .ref (a1 + 4))]) rfl rfl rfl rfl rfl fun s3 => ?_
  exact db_Rret (lv1 := [(0, .ref (a0 + 4)), (1, .ref (a1 + 4))]) rfl rfl rfl rfl
noncomputable def db_f84_b2 : Nat → db_S → Nat → Nat → Int32 → Option db_S
  | 0, _, _, _, _ => none
  | n + 1, s, a0, a1, v2 =>
    ((db_ln a0).bind fun x1 => (cond (db_cnd .ge v2 x1) (some s) ((db_ln a1).bind fun x2 => (cond (db_cnd .ge v2 x2) (some s) ((db_rR a0 v2).bind fun y3 => ((db_rR a1 v2).bind fun y4 => ((db_f83 s y3 y4).bind fun s6 => (db_f84_b2 n s6 a0 a1 (v2 + (1 : Int32))))))))))
set_option maxRecDepth 100000 in
theorem db_f84_b2_ok {X : db_X} {d : Nat}  (n : Nat) : ∀ (s : db_S) (a0 : Nat) (a1 : Nat) (v2 : Int32), db_Rf X (d + 1) dbm_84 2 [(0, .ref (a0 + 4)), (1, .ref (a1 + 4)), (2, .int v2)] [] s db_zV (db_f84_b2 n s (a0 + 4) (a1 + 4) v2) := by
  induction n with
  | zero => intros; exact db_Rnone
  | succ n ih =>
    intro s a0 a1 v2
    unfold db_f84_b2
    refine db_Rgo (pc' := 4) (lv' := [(0, .ref (a0 + 4)), (1, .ref (a1 + 4)), (2, .int v2)]) (st' := [.ref (a0 + 4), .int v2]) 2 rfl ?_
    refine db_Rlen (pc' := 5) (lv1 := [(0, .ref (a0 + 4)), (1, .ref (a1 + 4)), (2, .int v2)]) rfl rfl rfl fun x1 => ?_
    refine db_Ric (pc' := 8) (tg := 29) (lv1 := [(0, .ref (a0 + 4)), (1, .ref (a1 + 4)), (2, .int v2)]) rfl rfl rfl rfl ?_ ?_
    · exact db_Rret (lv1 := []) rfl rfl rfl rfl
    refine db_Rgo (pc' := 10) (lv' := [(0, .ref (a0 + 4)), (1, .ref (a1 + 4)), (2, .int v2)]) (st' := [.ref (a1 + 4), .int v2]) 2 rfl ?_
    refine db_Rlen (pc' := 11) (lv1 := [(0, .ref (a0 + 4)), (1, .ref (a1 + 4)), (2, .int v2)]) rfl rfl rfl fun x2 => ?_
    refine db_Ric (pc' := 14) (tg := 29) (lv1 := [(0, .ref (a0 + 4)), (1, .ref (a1 + 4)), (2, .int v2)]) rfl rfl rfl rfl ?_ ?_
    · exact db_Rret (lv1 := []) rfl rfl rfl rfl
    refine db_Rgo (pc' := 16) (lv' := [(0, .ref (a0 + 4)), (1, .ref (a1 + 4)), (2, .int v2)]) (st' := [.int v2, .ref (a0 + 4)]) 2 rfl ?_
    refine db_RldR (pc' := 17) (lv1 := [(0, .ref (a0 + 4)), (1, .ref (a1 + 4)), (2, .int v2)]) rfl rfl rfl fun y3 => ?_
    refine db_Rgo (pc' := 19) (lv' := [(0, .ref (a0 + 4)), (1, .ref (a1 + 4)), (2, .int v2)]) (st' := [.int v2, .ref (a1 + 4), .ref (y3 + 4)]) 2 rfl ?_
    refine db_RldR (pc' := 20) (lv1 := [(0, .ref (a0 + 4)), (1, .ref (a1 + 4)), (2, .int v2)]) rfl rfl rfl fun y4 => ?_
    refine db_RcV (mr' := dbm_83) (as := [.ref (y3 + 4), .ref (y4 + 4)]) (rest := []) (pc' := 23) (lv1 := [(0, .ref (a0 + 4)), (1, .ref (a1 + 4)), (2, .int v2)]) rfl rfl rfl rfl rfl (db_f83_ok) fun s6 => ?_
    refine db_Rgo (pc' := 2) (lv' := [(2, .int (v2 + (1 : Int32))), (0, .ref (a0 + 4)), (1, .ref (a1 + 4))]) (st' := []) 2 rfl ?_
    refine db_Rn (lv1 := [(0, .ref (a0 + 4)), (1, .ref (a1 + 4)), (2, .int (v2 + (1 : Int32)))]) rfl rfl rfl ?_
    exact ih _ _ _ _
/-- DreamBook.copyRows([[I[[I)V -/
noncomputable def db_f84 (s : db_S) (a0 : Nat) (a1 : Nat) : Option db_S :=
  (db_f84_b2 db_FU s a0 a1 (0 : Int32))
set_option maxRecDepth 100000 in
theorem db_f84_ok {X : db_X} {d : Nat} {s : db_S} {a0 : Nat} {a1 : Nat} : db_Rf X (d + 1) dbm_84 0 (lv_args 0 [.ref (a0 + 4), .ref (a1 + 4)]) [] s db_zV (db_f84 s (a0 + 4) (a1 + 4)) := by
  show db_Rf _ _ _ 0 [(0, .ref (a0 + 4)), (1, .ref (a1 + 4))] [] _ _ _
  unfold db_f84
  refine db_Rgo (pc' := 2) (lv' := [(2, .int (0 : Int32)), (0, .ref (a0 + 4)), (1, .ref (a1 + 4))]) (st' := []) 2 rfl ?_
  refine db_Rn (lv1 := [(0, .ref (a0 + 4)), (1, .ref (a1 + 4)), (2, .int (0 : Int32))]) rfl rfl rfl ?_
  exact db_f84_b2_ok db_FU _ _ _ _
/-- DreamBook$Told.copyFrom(LDreamBook$Told;)V -/
noncomputable def db_f82_20_146 (s : db_S) : Option db_S :=
  ((db_f83 s 147 21).bind fun s2 => ((db_f83 s2 148 22).bind fun s4 => ((db_f83 s4 149 23).bind fun s6 => ((db_f84 s6 150 24).bind fun s8 => ((db_f84 s8 163 37).bind fun s10 => ((db_f84 s10 176 50).bind fun s12 => ((db_f83 s12 185 59).bind fun s14 => ((db_f83 s14 186 60).bind fun s16 => ((db_f83 s16 187 61).bind fun s18 => ((db_f83 s18 188 62).bind fun s20 => ((db_f83 s20 189 63).bind fun s22 => ((db_f84 s22 190 64).bind fun s24 => ((db_f83 s24 201 75).bind fun s26 => ((db_pI s26 20 13 (s26.1 146 13)).bind fun s27 => ((db_pI s27 20 14 (s27.1 146 14)).bind fun s28 => ((db_cL s28 202 (0 : Int32) 76 (0 : Int32) (37 : Int32)).bind fun s29 => ((db_f83 s29 203 77).bind fun s31 => ((db_f83 s31 204 78).bind fun s33 => ((db_pI s33 20 18 (s33.1 146 18)).bind fun s34 => (some s34))))))))))))))))))))
set_option maxRecDepth 100000 in
theorem db_f82_20_146_ok {X : db_X} {d : Nat} {s : db_S} : db_Rf X (d + 2) dbm_82 0 (lv_args 0 [.ref 20, .ref 146]) [] s db_zV (db_f82_20_146 s ) := by
  show db_Rf _ _ _ 0 [(0, .ref 20), (1, .ref 146)] [] _ _ _
  unfold db_f82_20_146
  refine db_Rgo (pc' := 8) (lv' := [(0, .ref 20), (1, .ref 146)]) (st' := [.ref 21, .ref 147]) 4 rfl ?_
  refine db_RcV (mr' := dbm_83) (as := [.ref 147, .ref 21]) (rest := []) (pc' := 11) (lv1 := [(0, .ref 20), (1, .ref 146)]) rfl rfl rfl rfl rfl (db_f83_ok) fun s2 => ?_
  refine db_Rgo (pc' := 19) (lv' := [(0, .ref 20), (1, .ref 146)]) (st' := [.ref 22, .ref 148]) 4 rfl ?_
  refine db_RcV (mr' := dbm_83) (as := [.ref 148, .ref 22]) (rest := []) (pc' := 22) (lv1 := [(0, .ref 20), (1, .ref 146)]) rfl rfl rfl rfl rfl (db_f83_ok) fun s4 => ?_
  refine db_Rgo (pc' := 30) (lv' := [(0, .ref 20), (1, .ref 146)]) (st' := [.ref 23, .ref 149]) 4 rfl ?_
  refine db_RcV (mr' := dbm_83) (as := [.ref 149, .ref 23]) (rest := []) (pc' := 33) (lv1 := [(0, .ref 20), (1, .ref 146)]) rfl rfl rfl rfl rfl (db_f83_ok) fun s6 => ?_
  refine db_Rgo (pc' := 41) (lv' := [(0, .ref 20), (1, .ref 146)]) (st' := [.ref 24, .ref 150]) 4 rfl ?_
  refine db_RcV (mr' := dbm_84) (as := [.ref 150, .ref 24]) (rest := []) (pc' := 44) (lv1 := [(0, .ref 20), (1, .ref 146)]) rfl rfl rfl rfl rfl (db_f84_ok) fun s8 => ?_
  refine db_Rgo (pc' := 52) (lv' := [(0, .ref 20), (1, .ref 146)]) (st' := [.ref 37, .ref 163]) 4 rfl ?_
  refine db_RcV (mr' := dbm_84) (as := [.ref 163, .ref 37]) (rest := []) (pc' := 55) (lv1 := [(0, .ref 20), (1, .ref 146)]) rfl rfl rfl rfl rfl (db_f84_ok) fun s10 => ?_
  refine db_Rgo (pc' := 63) (lv' := [(0, .ref 20), (1, .ref 146)]) (st' := [.ref 50, .ref 176]) 4 rfl ?_
  refine db_RcV (mr' := dbm_84) (as := [.ref 176, .ref 50]) (rest := []) (pc' := 66) (lv1 := [(0, .ref 20), (1, .ref 146)]) rfl rfl rfl rfl rfl (db_f84_ok) fun s12 => ?_
  refine db_Rgo (pc' := 74) (lv' := [(0, .ref 20), (1, .ref 146)]) (st' := [.ref 59, .ref 185]) 4 rfl ?_
  refine db_RcV (mr' := dbm_83) (as := [.ref 185, .ref 59]) (rest := []) (pc' := 77) (lv1 := [(0, .ref 20), (1, .ref 146)]) rfl rfl rfl rfl rfl (db_f83_ok) fun s14 => ?_
  refine db_Rgo (pc' := 85) (lv' := [(0, .ref 20), (1, .ref 146)]) (st' := [.ref 60, .ref 186]) 4 rfl ?_
  refine db_RcV (mr' := dbm_83) (as := [.ref 186, .ref 60]) (rest := []) (pc' := 88) (lv1 := [(0, .ref 20), (1, .ref 146)]) rfl rfl rfl rfl rfl (db_f83_ok) fun s16 => ?_
  refine db_Rgo (pc' := 96) (lv' := [(0, .ref 20), (1, .ref 146)]) (st' := [.ref 61, .ref 187]) 4 rfl ?_
  refine db_RcV (mr' := dbm_83) (as := [.ref 187, .ref 61]) (rest := []) (pc' := 99) (lv1 := [(0, .ref 20), (1, .ref 146)]) rfl rfl rfl rfl rfl (db_f83_ok) fun s18 => ?_
  refine db_Rgo (pc' := 107) (lv' := [(0, .ref 20), (1, .ref 146)]) (st' := [.ref 62, .ref 188]) 4 rfl ?_
  refine db_RcV (mr' := dbm_83) (as := [.ref 188, .ref 62]) (rest := []) (pc' := 110) (lv1 := [(0, .ref 20), (1, .ref 146)]) rfl rfl rfl rfl rfl (db_f83_ok) fun s20 => ?_
  refine db_Rgo (pc' := 118) (lv' := [(0, .ref 20), (1, .ref 146)]) (st' := [.ref 63, .ref 189]) 4 rfl ?_
  refine db_RcV (mr' := dbm_83) (as := [.ref 189, .ref 63]) (rest := []) (pc' := 121) (lv1 := [(0, .ref 20), (1, .ref 146)]) rfl rfl rfl rfl rfl (db_f83_ok) fun s22 => ?_
  refine db_Rgo (pc' := 129) (lv' := [(0, .ref 20), (1, .ref 146)]) (st' := [.ref 64, .ref 190]) 4 rfl ?_
  refine db_RcV (mr' := dbm_84) (as := [.ref 190, .ref 64]) (rest := []) (pc' := 132) (lv1 := [(0, .ref 20), (1, .ref 146)]) rfl rfl rfl rfl rfl (db_f84_ok) fun s24 => ?_
  refine db_Rgo (pc' := 140) (lv' := [(0, .ref 20), (1, .ref 146)]) (st' := [.ref 75, .ref 201]) 4 rfl ?_
  refine db_RcV (mr' := dbm_83) (as := [.ref 201, .ref 75]) (rest := []) (pc' := 143) (lv1 := [(0, .ref 20), (1, .ref 146)]) rfl rfl rfl rfl rfl (db_f83_ok) fun s26 => ?_
  refine db_Rgo (pc' := 148) (lv' := [(0, .ref 20), (1, .ref 146)]) (st' := [.int (s26.1 146 13), .ref 20]) 3 rfl ?_
  refine db_RpuI (pc' := 151) (lv1 := [(0, .ref 20), (1, .ref 146)]) rfl rfl rfl rfl rfl rfl (by decide) rfl rfl fun s27 => ?_
  refine db_Rgo (pc' := 156) (lv' := [(0, .ref 20), (1, .ref 146)]) (st' := [.int (s27.1 146 14), .ref 20]) 3 rfl ?_
  refine db_RpuI (pc' := 159) (lv1 := [(0, .ref 20), (1, .ref 146)]) rfl rfl rfl rfl rfl rfl (by decide) rfl rfl fun s28 => ?_
  refine db_Rgo (pc' := 171) (lv' := [(0, .ref 20), (1, .ref 146)]) (st' := [.int (37 : Int32), .int (0 : Int32), .ref 76, .int (0 : Int32), .ref 202]) 7 rfl ?_
  refine db_RcpL (pc' := 174) (lv1 := [(0, .ref 20), (1, .ref 146)]) rfl rfl rfl rfl rfl fun s29 => ?_
  refine db_Rgo (pc' := 182) (lv' := [(0, .ref 20), (1, .ref 146)]) (st' := [.ref 77, .ref 203]) 4 rfl ?_
  refine db_RcV (mr' := dbm_83) (as := [.ref 203, .ref 77]) (rest := []) (pc' := 185) (lv1 := [(0, .ref 20), (1, .ref 146)]) rfl rfl rfl rfl rfl (db_f83_ok) fun s31 => ?_
  refine db_Rgo (pc' := 193) (lv' := [(0, .ref 20), (1, .ref 146)]) (st' := [.ref 78, .ref 204]) 4 rfl ?_
  refine db_RcV (mr' := dbm_83) (as := [.ref 204, .ref 78]) (rest := []) (pc' := 196) (lv1 := [(0, .ref 20), (1, .ref 146)]) rfl rfl rfl rfl rfl (db_f83_ok) fun s33 => ?_
  refine db_Rgo (pc' := 201) (lv' := [(0, .ref 20), (1, .ref 146)]) (st' := [.int (s33.1 146 18), .ref 20]) 3 rfl ?_
  refine db_RpuI (pc' := 204) (lv1 := [(0, .ref 20), (1, .ref 146)]) rfl rfl rfl rfl rfl rfl (by decide) rfl rfl fun s34 => ?_
  exact db_Rret (lv1 := [(0, .ref 20), (1, .ref 146)]) rfl rfl rfl rfl
/-- DreamBook$Life.clear()V -/
noncomputable def db_f85_80 (s : db_S) : Option db_S :=
  ((db_f2 s 81 (0 : Int32)).bind fun s2 => ((db_f2 s2 82 (0 : Int32)).bind fun s4 => ((db_pI s4 80 2 (0 : Int32)).bind fun s5 => ((db_pI s5 80 3 (0 : Int32)).bind fun s6 => (some s6)))))
set_option maxRecDepth 100000 in
theorem db_f85_80_ok {X : db_X} {d : Nat} {s : db_S} : db_Rf X (d + 1) dbm_85 0 (lv_args 0 [.ref 80]) [] s db_zV (db_f85_80 s ) := by
  show db_Rf _ _ _ 0 [(0, .ref 80)] [] _ _ _
  unfold db_f85_80
  refine db_Rgo (pc' := 5) (lv' := [(0, .ref 80)]) (st' := [.int (0 : Int32), .ref 81]) 3 rfl ?_
  refine db_RcV (mr' := dbm_2) (as := [.ref 81, .int (0 : Int32)]) (rest := []) (pc' := 8) (lv1 := [(0, .ref 80)]) rfl rfl rfl rfl rfl (db_f2_ok) fun s2 => ?_
  refine db_Rgo (pc' := 13) (lv' := [(0, .ref 80)]) (st' := [.int (0 : Int32), .ref 82]) 3 rfl ?_
  refine db_RcV (mr' := dbm_2) (as := [.ref 82, .int (0 : Int32)]) (rest := []) (pc' := 16) (lv1 := [(0, .ref 80)]) rfl rfl rfl rfl rfl (db_f2_ok) fun s4 => ?_
  refine db_Rgo (pc' := 18) (lv' := [(0, .ref 80)]) (st' := [.int (0 : Int32), .ref 80]) 2 rfl ?_
  refine db_RpuI (pc' := 21) (lv1 := [(0, .ref 80)]) rfl rfl rfl rfl rfl rfl (by decide) rfl rfl fun s5 => ?_
  refine db_Rgo (pc' := 23) (lv' := [(0, .ref 80)]) (st' := [.int (0 : Int32), .ref 80]) 2 rfl ?_
  refine db_RpuI (pc' := 26) (lv1 := [(0, .ref 80)]) rfl rfl rfl rfl rfl rfl (by decide) rfl rfl fun s6 => ?_
  exact db_Rret (lv1 := [(0, .ref 80)]) rfl rfl rfl rfl
