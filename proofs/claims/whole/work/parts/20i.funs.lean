noncomputable def db_f159_20_b35 (h2 : Int32 → Int32 → Option Bool) (s : db_S) (v1 : Int32) (v2 : Int32) : Option Bool :=
  (h2 v1 (v2 + (1 : Int32)))
set_option maxRecDepth 100000 in
theorem db_f159_20_b35_ok {X : db_X} {d : Nat}  {h2 : Int32 → Int32 → Option Bool} {s : db_S} {v1 : Int32} {v2 : Int32} (zh2 : ∀ (v1 : Int32) (v2 : Int32) , db_Rf X (d + 1) dbm_159 2 [(0, .ref 20), (1, .int v1), (2, .int v2)] [] s (db_yB s) (h2 v1 v2)) : db_Rf X (d + 1) dbm_159 35 [(0, .ref 20), (1, .int v1), (2, .int v2)] [] s (db_yB s) (db_f159_20_b35 h2 s v1 v2) := by
  unfold db_f159_20_b35
  refine db_Rgo (pc' := 2) (lv' := [(2, .int (v2 + (1 : Int32))), (0, .ref 20), (1, .int v1)]) (st' := []) 2 rfl ?_
  refine db_Rn (lv1 := [(0, .ref 20), (1, .int v1), (2, .int (v2 + (1 : Int32)))]) rfl rfl rfl ?_
  exact zh2 _ _
noncomputable def db_f159_20_b2 (s : db_S) : Nat → Int32 → Int32 → Option Bool
  | 0, _, _ => none
  | n + 1, v1, v2 =>
    ((db_rI s 21 (3 : Int32)).bind fun x1 => (cond (db_cnd .ge v2 x1) (some true) ((db_f112 s v1 v2).bind fun q2 => (cond q2 (db_f159_20_b35 (db_f159_20_b2 s n) s v1 v2) ((db_rI s 79 v2).bind fun x4 => (cond (db_cnd .eq (x4 &&& (v1 ^^^ (-1 : Int32))) 0) (db_f159_20_b35 (db_f159_20_b2 s n) s v1 v2) (some false)))))))
set_option maxRecDepth 100000 in
theorem db_f159_20_b2_ok {X : db_X} {d : Nat} {s : db_S} (n : Nat) : ∀ (v1 : Int32) (v2 : Int32), db_Rf X (d + 1) dbm_159 2 [(0, .ref 20), (1, .int v1), (2, .int v2)] [] s (db_yB s) (db_f159_20_b2 s n v1 v2) := by
  induction n with
  | zero => intros; exact db_Rnone
  | succ n ih =>
    intro v1 v2
    unfold db_f159_20_b2
    refine db_Rgo (pc' := 8) (lv' := [(0, .ref 20), (1, .int v1), (2, .int v2)]) (st' := [.int (3 : Int32), .ref 21, .int v2]) 4 rfl ?_
    refine db_RldI (pc' := 9) (lv1 := [(0, .ref 20), (1, .int v1), (2, .int v2)]) rfl rfl rfl fun x1 => ?_
    refine db_Ric (pc' := 12) (tg := 41) (lv1 := [(0, .ref 20), (1, .int v1), (2, .int v2)]) rfl rfl rfl rfl ?_ ?_
    · refine db_Rgo (pc' := 42) (lv' := []) (st' := [.int (1 : Int32)]) 1 rfl ?_
      exact db_Rret (lv1 := []) rfl rfl rfl rfl
    refine db_Rgo (pc' := 14) (lv' := [(0, .ref 20), (1, .int v1), (2, .int v2)]) (st' := [.int v2, .int v1]) 2 rfl ?_
    refine db_RcyB (mr' := dbm_112) (as := [.int v1, .int v2]) (rest := []) (pc' := 17) (lv1 := [(0, .ref 20), (1, .int v1), (2, .int v2)]) rfl rfl rfl rfl rfl (db_f112_ok) fun q2 => ?_
    refine db_RifBn (pc' := 20) (tg := 35) (lv1 := [(0, .ref 20), (1, .int v1), (2, .int v2)]) rfl rfl rfl rfl ?_ ?_
    · exact db_f159_20_b35_ok ih
    refine db_Rgo (pc' := 25) (lv' := [(0, .ref 20), (1, .int v1), (2, .int v2)]) (st' := [.int v2, .ref 79]) 3 rfl ?_
    refine db_RldI (pc' := 26) (lv1 := [(0, .ref 20), (1, .int v1), (2, .int v2)]) rfl rfl rfl fun x4 => ?_
    refine db_Rgo (pc' := 30) (lv' := [(0, .ref 20), (1, .int v1), (2, .int v2)]) (st' := [.int (x4 &&& (v1 ^^^ (-1 : Int32)))]) 4 rfl ?_
    refine db_Rif (pc' := 33) (tg := 35) (lv1 := [(0, .ref 20), (1, .int v1), (2, .int v2)]) rfl rfl rfl rfl ?_ ?_
    · exact db_f159_20_b35_ok ih
    refine db_Rgo (pc' := 34) (lv' := [(0, .ref 20), (1, .int v1), (2, .int v2)]) (st' := [.int (0 : Int32)]) 1 rfl ?_
    exact db_Rret (lv1 := [(0, .ref 20), (1, .int v1), (2, .int v2)]) rfl rfl rfl rfl
/-- DreamBook$Told.covers(I)Z -/
noncomputable def db_f159_20 (s : db_S) (v1 : Int32) : Option Bool :=
  (db_f159_20_b2 s db_FU v1 (0 : Int32))
set_option maxRecDepth 100000 in
theorem db_f159_20_ok {X : db_X} {d : Nat} {s : db_S} {v1 : Int32} : db_Rf X (d + 1) dbm_159 0 (lv_args 0 [.ref 20, .int v1]) [] s (db_yB s) (db_f159_20 s v1) := by
  show db_Rf _ _ _ 0 [(0, .ref 20), (1, .int v1)] [] _ _ _
  unfold db_f159_20
  refine db_Rgo (pc' := 2) (lv' := [(2, .int (0 : Int32)), (0, .ref 20), (1, .int v1)]) (st' := []) 2 rfl ?_
  refine db_Rn (lv1 := [(0, .ref 20), (1, .int v1), (2, .int (0 : Int32))]) rfl rfl rfl ?_
  exact db_f159_20_b2_ok db_FU _ _
noncomputable def db_f158_20_b67 (h38 : db_S → Int32 → Int32 → Option (Int32 × db_S)) (s : db_S) (v1 : Int32) (v2 : Int32) : Option (Int32 × db_S) :=
  (h38 s v1 (v2 + (1 : Int32)))
set_option maxRecDepth 100000 in
theorem db_f158_20_b67_ok {X : db_X} {d : Nat}  {h38 : db_S → Int32 → Int32 → Option (Int32 × db_S)} {s : db_S} {v1 : Int32} {v2 : Int32} (zh38 : ∀ (s' : db_S) (v1 : Int32) (v2 : Int32) , db_Rf X (d + 3) dbm_158 38 [(0, .ref 20), (1, .int v1), (2, .int v2)] [] s' db_zI (h38 s' v1 v2)) : db_Rf X (d + 3) dbm_158 67 [(0, .ref 20), (1, .int v1), (2, .int v2)] [] s db_zI (db_f158_20_b67 h38 s v1 v2) := by
  unfold db_f158_20_b67
  refine db_Rgo (pc' := 38) (lv' := [(2, .int (v2 + (1 : Int32))), (0, .ref 20), (1, .int v1)]) (st' := []) 2 rfl ?_
  refine db_Rn (lv1 := [(0, .ref 20), (1, .int v1), (2, .int (v2 + (1 : Int32)))]) rfl rfl rfl ?_
  exact zh38 _ _ _
noncomputable def db_f158_20_b38 : Nat → db_S → Int32 → Int32 → Option (Int32 × db_S)
  | 0, _, _, _ => none
  | n + 1, s, v1, v2 =>
    ((db_f115_20 s).bind fun q1 => (cond (db_cnd .ge v2 q1) (some (v1, s)) ((db_f152 s v2).bind fun q3 => ((db_f152 s v1).bind fun q5 => (cond (db_cnd .ge q3 q5) (db_f158_20_b67 (db_f158_20_b38 n) s v1 v2) ((db_f159_20 s v2).bind fun q7 => (cond q7 (db_f158_20_b67 (db_f158_20_b38 n) s v2 v2) (db_f158_20_b67 (db_f158_20_b38 n) s v1 v2))))))))
set_option maxRecDepth 100000 in
theorem db_f158_20_b38_ok {X : db_X} {d : Nat}  (n : Nat) : ∀ (s : db_S) (v1 : Int32) (v2 : Int32), db_Rf X (d + 3) dbm_158 38 [(0, .ref 20), (1, .int v1), (2, .int v2)] [] s db_zI (db_f158_20_b38 n s v1 v2) := by
  induction n with
  | zero => intros; exact db_Rnone
  | succ n ih =>
    intro s v1 v2
    unfold db_f158_20_b38
    refine db_Rgo (pc' := 40) (lv' := [(0, .ref 20), (1, .int v1), (2, .int v2)]) (st' := [.ref 20, .int v2]) 2 rfl ?_
    refine db_RcyI (mr' := dbm_115) (as := [.ref 20]) (rest := [.int v2]) (pc' := 43) (lv1 := [(0, .ref 20), (1, .int v1), (2, .int v2)]) rfl rfl rfl rfl rfl (db_f115_20_ok) fun q1 => ?_
    refine db_Ric (pc' := 46) (tg := 73) (lv1 := [(0, .ref 20), (1, .int v1), (2, .int v2)]) rfl rfl rfl rfl ?_ ?_
    · refine db_Rgo (pc' := 74) (lv' := [(1, .int v1)]) (st' := [.int v1]) 1 rfl ?_
      exact db_Rret (lv1 := [(1, .int v1)]) rfl rfl rfl rfl
    refine db_Rgo (pc' := 47) (lv' := [(0, .ref 20), (1, .int v1), (2, .int v2)]) (st' := [.int v2]) 1 rfl ?_
    refine db_RcyI (mr' := dbm_152) (as := [.int v2]) (rest := []) (pc' := 50) (lv1 := [(0, .ref 20), (1, .int v1), (2, .int v2)]) rfl rfl rfl rfl rfl (db_f152_ok) fun q3 => ?_
    refine db_Rgo (pc' := 51) (lv' := [(0, .ref 20), (1, .int v1), (2, .int v2)]) (st' := [.int v1, .int q3]) 1 rfl ?_
    refine db_RcyI (mr' := dbm_152) (as := [.int v1]) (rest := [.int q3]) (pc' := 54) (lv1 := [(0, .ref 20), (1, .int v1), (2, .int v2)]) rfl rfl rfl rfl rfl (db_f152_ok) fun q5 => ?_
    refine db_Ric (pc' := 57) (tg := 67) (lv1 := [(0, .ref 20), (1, .int v1), (2, .int v2)]) rfl rfl rfl rfl ?_ ?_
    · exact db_f158_20_b67_ok ih
    refine db_Rgo (pc' := 59) (lv' := [(0, .ref 20), (1, .int v1), (2, .int v2)]) (st' := [.int v2, .ref 20]) 2 rfl ?_
    refine db_RcyB (mr' := dbm_159) (as := [.ref 20, .int v2]) (rest := []) (pc' := 62) (lv1 := [(0, .ref 20), (1, .int v1), (2, .int v2)]) rfl rfl rfl rfl rfl (db_f159_20_ok) fun q7 => ?_
    refine db_RifBe (pc' := 65) (tg := 67) (lv1 := [(0, .ref 20), (1, .int v1), (2, .int v2)]) rfl rfl rfl rfl ?_ ?_
    · exact db_f158_20_b67_ok ih
    refine db_Rgo (pc' := 67) (lv' := [(1, .int v2), (0, .ref 20), (2, .int v2)]) (st' := []) 2 rfl ?_
    refine db_Rn (lv1 := [(0, .ref 20), (1, .int v2), (2, .int v2)]) rfl rfl rfl ?_
    exact db_f158_20_b67_ok ih
noncomputable def db_f158_20_b9 : Nat → db_S → Int32 → Int32 → Option (Int32 × db_S)
  | 0, _, _, _ => none
  | n + 1, s, v1, v2 =>
    ((db_rI s 21 (3 : Int32)).bind fun x1 => (cond (db_cnd .ge v2 x1) (db_f158_20_b38 db_FU s v1 (0 : Int32)) ((db_f151_20 s v2).bind fun q2 => ((db_wI s 79 v2 q2).bind fun s4 => (db_f158_20_b9 n s4 v1 (v2 + (1 : Int32)))))))
set_option maxRecDepth 100000 in
theorem db_f158_20_b9_ok {X : db_X} {d : Nat}  (n : Nat) : ∀ (s : db_S) (v1 : Int32) (v2 : Int32), db_Rf X (d + 3) dbm_158 9 [(0, .ref 20), (1, .int v1), (2, .int v2)] [] s db_zI (db_f158_20_b9 n s v1 v2) := by
  induction n with
  | zero => intros; exact db_Rnone
  | succ n ih =>
    intro s v1 v2
    unfold db_f158_20_b9
    refine db_Rgo (pc' := 15) (lv' := [(0, .ref 20), (1, .int v1), (2, .int v2)]) (st' := [.int (3 : Int32), .ref 21, .int v2]) 4 rfl ?_
    refine db_RldI (pc' := 16) (lv1 := [(0, .ref 20), (1, .int v1), (2, .int v2)]) rfl rfl rfl fun x1 => ?_
    refine db_Ric (pc' := 19) (tg := 36) (lv1 := [(0, .ref 20), (1, .int v1), (2, .int v2)]) rfl rfl rfl rfl ?_ ?_
    · refine db_Rgo (pc' := 38) (lv' := [(2, .int (0 : Int32)), (0, .ref 20), (1, .int v1)]) (st' := []) 2 rfl ?_
      refine db_Rn (lv1 := [(0, .ref 20), (1, .int v1), (2, .int (0 : Int32))]) rfl rfl rfl ?_
      exact db_f158_20_b38_ok db_FU _ _ _
    refine db_Rgo (pc' := 26) (lv' := [(0, .ref 20), (1, .int v1), (2, .int v2)]) (st' := [.int v2, .ref 20, .int v2, .ref 79]) 5 rfl ?_
    refine db_RcyI (mr' := dbm_151) (as := [.ref 20, .int v2]) (rest := [.int v2, .ref 79]) (pc' := 29) (lv1 := [(0, .ref 20), (1, .int v1), (2, .int v2)]) rfl rfl rfl rfl rfl (db_f151_20_ok) fun q2 => ?_
    refine db_RstI (pc' := 30) (lv1 := [(0, .ref 20), (1, .int v1), (2, .int v2)]) rfl rfl rfl fun s4 => ?_
    refine db_Rgo (pc' := 9) (lv' := [(2, .int (v2 + (1 : Int32))), (0, .ref 20), (1, .int v1)]) (st' := []) 2 rfl ?_
    refine db_Rn (lv1 := [(0, .ref 20), (1, .int v1), (2, .int (v2 + (1 : Int32)))]) rfl rfl rfl ?_
    exact ih _ _ _
/-- DreamBook$Told.leastCover()I -/
noncomputable def db_f158_20 (s : db_S) : Option (Int32 × db_S) :=
  ((db_f115_20 s).bind fun q1 => (db_f158_20_b9 db_FU s (q1 - (1 : Int32)) (0 : Int32)))
set_option maxRecDepth 100000 in
theorem db_f158_20_ok {X : db_X} {d : Nat} {s : db_S} : db_Rf X (d + 3) dbm_158 0 (lv_args 0 [.ref 20]) [] s db_zI (db_f158_20 s ) := by
  show db_Rf _ _ _ 0 [(0, .ref 20)] [] _ _ _
  unfold db_f158_20
  refine db_Rgo (pc' := 1) (lv' := [(0, .ref 20)]) (st' := [.ref 20]) 1 rfl ?_
  refine db_RcyI (mr' := dbm_115) (as := [.ref 20]) (rest := []) (pc' := 4) (lv1 := [(0, .ref 20)]) rfl rfl rfl rfl rfl (db_f115_20_ok) fun q1 => ?_
  refine db_Rgo (pc' := 9) (lv' := [(2, .int (0 : Int32)), (1, .int (q1 - (1 : Int32))), (0, .ref 20)]) (st' := []) 5 rfl ?_
  refine db_Rn (lv1 := [(0, .ref 20), (1, .int (q1 - (1 : Int32))), (2, .int (0 : Int32))]) rfl rfl rfl ?_
  exact db_f158_20_b9_ok db_FU _ _ _
/-- DreamBook.fewest()I -/
noncomputable def db_f157 (s : db_S) : Option (Int32 × db_S) :=
  (db_bd (db_f158_20 s) fun q1 s2 => ((db_f152 s2 q1).bind fun q3 => (db_bd (db_f87 s2 q3) fun q5 s6 => (some (q5, s6)))))
set_option maxRecDepth 100000 in
theorem db_f157_ok {X : db_X} {d : Nat} {s : db_S} : db_Rf X (d + 4) dbm_157 0 (lv_args 0 [.ref 4]) [] s db_zI (db_f157 s ) := by
  show db_Rf _ _ _ 0 [(0, .ref 4)] [] _ _ _
  unfold db_f157
  refine db_Rgo (pc' := 5) (lv' := [(0, .ref 4)]) (st' := [.ref 20, .ref 4]) 3 rfl ?_
  refine db_RcdI (mr' := dbm_158) (as := [.ref 20]) (rest := [.ref 4]) (pc' := 8) (lv1 := [(0, .ref 4)]) rfl rfl rfl rfl rfl (db_f158_20_ok) fun q1 s2 => ?_
  refine db_RcyI (mr' := dbm_152) (as := [.int q1]) (rest := [.ref 4]) (pc' := 11) (lv1 := [(0, .ref 4)]) rfl rfl rfl rfl rfl (db_f152_ok) fun q3 => ?_
  refine db_RcdI (mr' := dbm_87) (as := [.ref 4, .int q3]) (rest := []) (pc' := 14) (lv1 := [(0, .ref 4)]) rfl rfl rfl rfl rfl (db_f87_ok) fun q5 s6 => ?_
  exact db_Rret (lv1 := [(0, .ref 4)]) rfl rfl rfl rfl
noncomputable def db_f345_b24 (h4 : Int32 → Int32 → Int32 → Option Int32) (s : db_S) (v0 : Int32) (v2 : Int32) (t0 : Int32) (t1 : Int32) : Option Int32 :=
  (h4 v0 (t0 + t1) (v2 + (1 : Int32)))
set_option maxRecDepth 100000 in
theorem db_f345_b24_ok {X : db_X} {d : Nat}  {h4 : Int32 → Int32 → Int32 → Option Int32} {s : db_S} {v0 : Int32} {v2 : Int32} {t0 : Int32} {t1 : Int32} (zh4 : ∀ (v0 : Int32) (v1 : Int32) (v2 : Int32) , db_Rf X (d + 1) dbm_345 4 [(0, .int v0), (1, .int v1), (2, .int v2)] [] s (db_yI s) (h4 v0 v1 v2)) : db_Rf X (d + 1) dbm_345 24 [(0, .int v0), (2, .int v2)] [.int t1, .int t0] s (db_yI s) (db_f345_b24 h4 s v0 v2 t0 t1) := by
  unfold db_f345_b24
  refine db_Rgo (pc' := 4) (lv' := [(2, .int (v2 + (1 : Int32))), (1, .int (t0 + t1)), (0, .int v0)]) (st' := []) 4 rfl ?_
  refine db_Rn (lv1 := [(0, .int v0), (1, .int (t0 + t1)), (2, .int (v2 + (1 : Int32)))]) rfl rfl rfl ?_
  exact zh4 _ _ _
noncomputable def db_f345_b4 (s : db_S) : Nat → Int32 → Int32 → Int32 → Option Int32
  | 0, _, _, _ => none
  | n + 1, v0, v1, v2 =>
    (cond (db_cnd .ge v2 (12 : Int32)) (some v1) ((db_f287 s v0 v2).bind fun q1 => (cond q1 (db_f345_b24 (db_f345_b4 s n) s v0 v2 v1 (1 : Int32)) (db_f345_b24 (db_f345_b4 s n) s v0 v2 v1 (0 : Int32)))))
set_option maxRecDepth 100000 in
theorem db_f345_b4_ok {X : db_X} {d : Nat} {s : db_S} (n : Nat) : ∀ (v0 : Int32) (v1 : Int32) (v2 : Int32), db_Rf X (d + 1) dbm_345 4 [(0, .int v0), (1, .int v1), (2, .int v2)] [] s (db_yI s) (db_f345_b4 s n v0 v1 v2) := by
  induction n with
  | zero => intros; exact db_Rnone
  | succ n ih =>
    intro v0 v1 v2
    unfold db_f345_b4
    refine db_Rgo (pc' := 7) (lv' := [(0, .int v0), (1, .int v1), (2, .int v2)]) (st' := [.int (12 : Int32), .int v2]) 2 rfl ?_
    refine db_Ric (pc' := 10) (tg := 32) (lv1 := [(0, .int v0), (1, .int v1), (2, .int v2)]) rfl rfl rfl rfl ?_ ?_
    · refine db_Rgo (pc' := 33) (lv' := [(1, .int v1)]) (st' := [.int v1]) 1 rfl ?_
      exact db_Rret (lv1 := [(1, .int v1)]) rfl rfl rfl rfl
    refine db_Rgo (pc' := 13) (lv' := [(0, .int v0), (1, .int v1), (2, .int v2)]) (st' := [.int v2, .int v0, .int v1]) 3 rfl ?_
    refine db_RcyB (mr' := dbm_287) (as := [.int v0, .int v2]) (rest := [.int v1]) (pc' := 16) (lv1 := [(0, .int v0), (1, .int v1), (2, .int v2)]) rfl rfl rfl rfl rfl (db_f287_ok) fun q1 => ?_
    refine db_RifBe (pc' := 19) (tg := 23) (lv1 := [(0, .int v0), (1, .int v1), (2, .int v2)]) rfl rfl rfl rfl ?_ ?_
    · refine db_Rgo (pc' := 24) (lv' := [(0, .int v0), (2, .int v2)]) (st' := [.int (0 : Int32), .int v1]) 1 rfl ?_
      exact db_f345_b24_ok ih
    refine db_Rgo (pc' := 24) (lv' := [(0, .int v0), (1, .int v1), (2, .int v2)]) (st' := [.int (1 : Int32), .int v1]) 2 rfl ?_
    refine db_Rn (lv1 := [(0, .int v0), (2, .int v2)]) rfl rfl rfl ?_
    exact db_f345_b24_ok ih
/-- DreamBookModel.sizeOf(I)I -/
noncomputable def db_f345 (s : db_S) (v0 : Int32) : Option Int32 :=
  (db_f345_b4 s db_FU v0 (0 : Int32) (0 : Int32))
set_option maxRecDepth 100000 in
theorem db_f345_ok {X : db_X} {d : Nat} {s : db_S} {v0 : Int32} : db_Rf X (d + 1) dbm_345 0 (lv_args 0 [.int v0]) [] s (db_yI s) (db_f345 s v0) := by
  show db_Rf _ _ _ 0 [(0, .int v0)] [] _ _ _
  unfold db_f345
  refine db_Rgo (pc' := 4) (lv' := [(2, .int (0 : Int32)), (1, .int (0 : Int32)), (0, .int v0)]) (st' := []) 4 rfl ?_
  refine db_Rn (lv1 := [(0, .int v0), (1, .int (0 : Int32)), (2, .int (0 : Int32))]) rfl rfl rfl ?_
  exact db_f345_b4_ok db_FU _ _ _
noncomputable def db_f344_b103 (h13 : Int32 → Int32 → Option Int32) (h44 : Int32 → Int32 → Int32 → Int32 → Option Int32) (h58 : Int32 → Int32 → Int32 → Int32 → Int32 → Option Int32) (s : db_S) (v1 : Int32) (v2 : Int32) (v4 : Int32) (v5 : Int32) (t0 : Int32) : Option Int32 :=
  (h58 v1 v2 t0 v4 (v5 + (1 : Int32)))
set_option maxRecDepth 100000 in
theorem db_f344_b103_ok {X : db_X} {d : Nat}  {h13 : Int32 → Int32 → Option Int32} {h44 : Int32 → Int32 → Int32 → Int32 → Option Int32} {h58 : Int32 → Int32 → Int32 → Int32 → Int32 → Option Int32} {s : db_S} {v1 : Int32} {v2 : Int32} {v4 : Int32} {v5 : Int32} {t0 : Int32} (zh13 : ∀ (v1 : Int32) (v2 : Int32) , db_Rf X (d + 2) dbm_344 13 [(0, .ref 669), (1, .int v1), (2, .int v2)] [] s (db_yI s) (h13 v1 v2)) (zh44 : ∀ (v1 : Int32) (v2 : Int32) (v3 : Int32) (v4 : Int32) , db_Rf X (d + 2) dbm_344 44 [(0, .ref 669), (1, .int v1), (2, .int v2), (3, .int v3), (4, .int v4)] [] s (db_yI s) (h44 v1 v2 v3 v4)) (zh58 : ∀ (v1 : Int32) (v2 : Int32) (v3 : Int32) (v4 : Int32) (v5 : Int32) , db_Rf X (d + 2) dbm_344 58 [(0, .ref 669), (1, .int v1), (2, .int v2), (3, .int v3), (4, .int v4), (5, .int v5)] [] s (db_yI s) (h58 v1 v2 v3 v4 v5)) : db_Rf X (d + 2) dbm_344 103 [(0, .ref 669), (1, .int v1), (2, .int v2), (4, .int v4), (5, .int v5)] [.int t0] s (db_yI s) (db_f344_b103 h13 h44 h58 s v1 v2 v4 v5 t0) := by
  unfold db_f344_b103
  refine db_Rgo (pc' := 58) (lv' := [(5, .int (v5 + (1 : Int32))), (3, .int t0), (0, .ref 669), (1, .int v1), (2, .int v2), (4, .int v4)]) (st' := []) 3 rfl ?_
  refine db_Rn (lv1 := [(0, .ref 669), (1, .int v1), (2, .int v2), (3, .int t0), (4, .int v4), (5, .int (v5 + (1 : Int32)))]) rfl rfl rfl ?_
  exact zh58 _ _ _ _ _
noncomputable def db_f344_b98 (h13 : Int32 → Int32 → Option Int32) (h44 : Int32 → Int32 → Int32 → Int32 → Option Int32) (h58 : Int32 → Int32 → Int32 → Int32 → Int32 → Option Int32) (s : db_S) (v1 : Int32) (v2 : Int32) (v4 : Int32) (v5 : Int32) : Option Int32 :=
  (db_f344_b103 h13 h44 h58 s v1 v2 v4 v5 (1 : Int32))
set_option maxRecDepth 100000 in
theorem db_f344_b98_ok {X : db_X} {d : Nat}  {h13 : Int32 → Int32 → Option Int32} {h44 : Int32 → Int32 → Int32 → Int32 → Option Int32} {h58 : Int32 → Int32 → Int32 → Int32 → Int32 → Option Int32} {s : db_S} {v1 : Int32} {v2 : Int32} {v4 : Int32} {v5 : Int32} (zh13 : ∀ (v1 : Int32) (v2 : Int32) , db_Rf X (d + 2) dbm_344 13 [(0, .ref 669), (1, .int v1), (2, .int v2)] [] s (db_yI s) (h13 v1 v2)) (zh44 : ∀ (v1 : Int32) (v2 : Int32) (v3 : Int32) (v4 : Int32) , db_Rf X (d + 2) dbm_344 44 [(0, .ref 669), (1, .int v1), (2, .int v2), (3, .int v3), (4, .int v4)] [] s (db_yI s) (h44 v1 v2 v3 v4)) (zh58 : ∀ (v1 : Int32) (v2 : Int32) (v3 : Int32) (v4 : Int32) (v5 : Int32) , db_Rf X (d + 2) dbm_344 58 [(0, .ref 669), (1, .int v1), (2, .int v2), (3, .int v3), (4, .int v4), (5, .int v5)] [] s (db_yI s) (h58 v1 v2 v3 v4 v5)) : db_Rf X (d + 2) dbm_344 98 [(0, .ref 669), (1, .int v1), (2, .int v2), (4, .int v4), (5, .int v5)] [] s (db_yI s) (db_f344_b98 h13 h44 h58 s v1 v2 v4 v5) := by
  unfold db_f344_b98
  refine db_Rgo (pc' := 103) (lv' := [(0, .ref 669), (1, .int v1), (2, .int v2), (4, .int v4), (5, .int v5)]) (st' := [.int (1 : Int32)]) 2 rfl ?_
  exact db_f344_b103_ok zh13 zh44 zh58
noncomputable def db_f344_b110 (h13 : Int32 → Int32 → Option Int32) (h44 : Int32 → Int32 → Int32 → Int32 → Option Int32) (s : db_S) (v1 : Int32) (v2 : Int32) (v3 : Int32) (v4 : Int32) : Option Int32 :=
  (h44 v1 v2 v3 (v4 + (1 : Int32)))
set_option maxRecDepth 100000 in
theorem db_f344_b110_ok {X : db_X} {d : Nat}  {h13 : Int32 → Int32 → Option Int32} {h44 : Int32 → Int32 → Int32 → Int32 → Option Int32} {s : db_S} {v1 : Int32} {v2 : Int32} {v3 : Int32} {v4 : Int32} (zh13 : ∀ (v1 : Int32) (v2 : Int32) , db_Rf X (d + 2) dbm_344 13 [(0, .ref 669), (1, .int v1), (2, .int v2)] [] s (db_yI s) (h13 v1 v2)) (zh44 : ∀ (v1 : Int32) (v2 : Int32) (v3 : Int32) (v4 : Int32) , db_Rf X (d + 2) dbm_344 44 [(0, .ref 669), (1, .int v1), (2, .int v2), (3, .int v3), (4, .int v4)] [] s (db_yI s) (h44 v1 v2 v3 v4)) : db_Rf X (d + 2) dbm_344 110 [(0, .ref 669), (1, .int v1), (2, .int v2), (3, .int v3), (4, .int v4)] [] s (db_yI s) (db_f344_b110 h13 h44 s v1 v2 v3 v4) := by
  unfold db_f344_b110
  refine db_Rgo (pc' := 44) (lv' := [(4, .int (v4 + (1 : Int32))), (0, .ref 669), (1, .int v1), (2, .int v2), (3, .int v3)]) (st' := []) 2 rfl ?_
  refine db_Rn (lv1 := [(0, .ref 669), (1, .int v1), (2, .int v2), (3, .int v3), (4, .int (v4 + (1 : Int32)))]) rfl rfl rfl ?_
  exact zh44 _ _ _ _
noncomputable def db_f344_b58 (h13 : Int32 → Int32 → Option Int32) (h44 : Int32 → Int32 → Int32 → Int32 → Option Int32) (s : db_S) : Nat → Int32 → Int32 → Int32 → Int32 → Int32 → Option Int32
  | 0, _, _, _, _, _ => none
  | n + 1, v1, v2, v3, v4, v5 =>
    (cond (db_cnd .ge v5 v4) (db_f344_b110 h13 h44 s v1 v2 v3 v4) (cond (db_cnd .eq v3 0) (db_f344_b110 h13 h44 s v1 v2 v3 v4) ((db_f287 s v2 v4).bind fun q1 => (cond q1 (db_f344_b98 h13 h44 (db_f344_b58 h13 h44 s n) s v1 v2 v4 v5) ((db_f287 s v2 v5).bind fun q3 => (cond q3 (db_f344_b98 h13 h44 (db_f344_b58 h13 h44 s n) s v1 v2 v4 v5) ((db_f336 s v4 v5).bind fun q5 => (cond q5 (db_f344_b103 h13 h44 (db_f344_b58 h13 h44 s n) s v1 v2 v4 v5 (0 : Int32)) (db_f344_b98 h13 h44 (db_f344_b58 h13 h44 s n) s v1 v2 v4 v5)))))))))
set_option maxRecDepth 100000 in
theorem db_f344_b58_ok {X : db_X} {d : Nat} {s : db_S} {h13 : Int32 → Int32 → Option Int32} {h44 : Int32 → Int32 → Int32 → Int32 → Option Int32} (zh13 : ∀ (v1 : Int32) (v2 : Int32) , db_Rf X (d + 2) dbm_344 13 [(0, .ref 669), (1, .int v1), (2, .int v2)] [] s (db_yI s) (h13 v1 v2)) (zh44 : ∀ (v1 : Int32) (v2 : Int32) (v3 : Int32) (v4 : Int32) , db_Rf X (d + 2) dbm_344 44 [(0, .ref 669), (1, .int v1), (2, .int v2), (3, .int v3), (4, .int v4)] [] s (db_yI s) (h44 v1 v2 v3 v4)) (n : Nat) : ∀ (v1 : Int32) (v2 : Int32) (v3 : Int32) (v4 : Int32) (v5 : Int32), db_Rf X (d + 2) dbm_344 58 [(0, .ref 669), (1, .int v1), (2, .int v2), (3, .int v3), (4, .int v4), (5, .int v5)] [] s (db_yI s) (db_f344_b58 h13 h44 s n v1 v2 v3 v4 v5) := by
  induction n with
  | zero => intros; exact db_Rnone
  | succ n ih =>
    intro v1 v2 v3 v4 v5
    unfold db_f344_b58
    refine db_Rgo (pc' := 62) (lv' := [(0, .ref 669), (1, .int v1), (2, .int v2), (3, .int v3), (4, .int v4), (5, .int v5)]) (st' := [.int v4, .int v5]) 2 rfl ?_
    refine db_Ric (pc' := 65) (tg := 110) (lv1 := [(0, .ref 669), (1, .int v1), (2, .int v2), (3, .int v3), (4, .int v4), (5, .int v5)]) rfl rfl rfl rfl ?_ ?_
    · refine db_Rn (lv1 := [(0, .ref 669), (1, .int v1), (2, .int v2), (3, .int v3), (4, .int v4)]) rfl rfl rfl ?_
      exact db_f344_b110_ok zh13 zh44
    refine db_Rgo (pc' := 66) (lv' := [(0, .ref 669), (1, .int v1), (2, .int v2), (3, .int v3), (4, .int v4), (5, .int v5)]) (st' := [.int v3]) 1 rfl ?_
    refine db_Rif (pc' := 69) (tg := 110) (lv1 := [(0, .ref 669), (1, .int v1), (2, .int v2), (3, .int v3), (4, .int v4), (5, .int v5)]) rfl rfl rfl rfl ?_ ?_
    · refine db_Rn (lv1 := [(0, .ref 669), (1, .int v1), (2, .int v2), (3, .int v3), (4, .int v4)]) rfl rfl rfl ?_
      exact db_f344_b110_ok zh13 zh44
    refine db_Rgo (pc' := 72) (lv' := [(0, .ref 669), (1, .int v1), (2, .int v2), (3, .int v3), (4, .int v4), (5, .int v5)]) (st' := [.int v4, .int v2]) 2 rfl ?_
    refine db_RcyB (mr' := dbm_287) (as := [.int v2, .int v4]) (rest := []) (pc' := 75) (lv1 := [(0, .ref 669), (1, .int v1), (2, .int v2), (3, .int v3), (4, .int v4), (5, .int v5)]) rfl rfl rfl rfl rfl (db_f287_ok) fun q1 => ?_
    refine db_RifBn (pc' := 78) (tg := 98) (lv1 := [(0, .ref 669), (1, .int v1), (2, .int v2), (3, .int v3), (4, .int v4), (5, .int v5)]) rfl rfl rfl rfl ?_ ?_
    · refine db_Rn (lv1 := [(0, .ref 669), (1, .int v1), (2, .int v2), (4, .int v4), (5, .int v5)]) rfl rfl rfl ?_
      exact db_f344_b98_ok zh13 zh44 ih
    refine db_Rgo (pc' := 81) (lv' := [(0, .ref 669), (1, .int v1), (2, .int v2), (3, .int v3), (4, .int v4), (5, .int v5)]) (st' := [.int v5, .int v2]) 2 rfl ?_
    refine db_RcyB (mr' := dbm_287) (as := [.int v2, .int v5]) (rest := []) (pc' := 84) (lv1 := [(0, .ref 669), (1, .int v1), (2, .int v2), (3, .int v3), (4, .int v4), (5, .int v5)]) rfl rfl rfl rfl rfl (db_f287_ok) fun q3 => ?_
    refine db_RifBn (pc' := 87) (tg := 98) (lv1 := [(0, .ref 669), (1, .int v1), (2, .int v2), (3, .int v3), (4, .int v4), (5, .int v5)]) rfl rfl rfl rfl ?_ ?_
    · refine db_Rn (lv1 := [(0, .ref 669), (1, .int v1), (2, .int v2), (4, .int v4), (5, .int v5)]) rfl rfl rfl ?_
      exact db_f344_b98_ok zh13 zh44 ih
    refine db_Rgo (pc' := 92) (lv' := [(0, .ref 669), (1, .int v1), (2, .int v2), (3, .int v3), (4, .int v4), (5, .int v5)]) (st' := [.int v5, .int v4, .ref 669]) 3 rfl ?_
    refine db_RcyB (mr' := dbm_336) (as := [.ref 669, .int v4, .int v5]) (rest := []) (pc' := 95) (lv1 := [(0, .ref 669), (1, .int v1), (2, .int v2), (3, .int v3), (4, .int v4), (5, .int v5)]) rfl rfl rfl rfl rfl (db_f336_ok) fun q5 => ?_
    refine db_RifBn (pc' := 98) (tg := 102) (lv1 := [(0, .ref 669), (1, .int v1), (2, .int v2), (3, .int v3), (4, .int v4), (5, .int v5)]) rfl rfl rfl rfl ?_ ?_
    · refine db_Rgo (pc' := 103) (lv' := [(0, .ref 669), (1, .int v1), (2, .int v2), (4, .int v4), (5, .int v5)]) (st' := [.int (0 : Int32)]) 1 rfl ?_
      exact db_f344_b103_ok zh13 zh44 ih
    refine db_Rn (lv1 := [(0, .ref 669), (1, .int v1), (2, .int v2), (4, .int v4), (5, .int v5)]) rfl rfl rfl ?_
    exact db_f344_b98_ok zh13 zh44 ih
noncomputable def db_f344_b122 (h13 : Int32 → Int32 → Option Int32) (s : db_S) (v1 : Int32) (v2 : Int32) : Option Int32 :=
  (h13 v1 (v2 + (1 : Int32)))
set_option maxRecDepth 100000 in
theorem db_f344_b122_ok {X : db_X} {d : Nat}  {h13 : Int32 → Int32 → Option Int32} {s : db_S} {v1 : Int32} {v2 : Int32} (zh13 : ∀ (v1 : Int32) (v2 : Int32) , db_Rf X (d + 2) dbm_344 13 [(0, .ref 669), (1, .int v1), (2, .int v2)] [] s (db_yI s) (h13 v1 v2)) : db_Rf X (d + 2) dbm_344 122 [(0, .ref 669), (1, .int v1), (2, .int v2)] [] s (db_yI s) (db_f344_b122 h13 s v1 v2) := by
  unfold db_f344_b122
  refine db_Rgo (pc' := 13) (lv' := [(2, .int (v2 + (1 : Int32))), (0, .ref 669), (1, .int v1)]) (st' := []) 2 rfl ?_
  refine db_Rn (lv1 := [(0, .ref 669), (1, .int v1), (2, .int (v2 + (1 : Int32)))]) rfl rfl rfl ?_
  exact zh13 _ _
noncomputable def db_f344_b44 (h13 : Int32 → Int32 → Option Int32) (s : db_S) : Nat → Int32 → Int32 → Int32 → Int32 → Option Int32
  | 0, _, _, _, _ => none
  | n + 1, v1, v2, v3, v4 =>
    ((db_rI s 674 (3 : Int32)).bind fun x1 => (cond (db_cnd .ge v4 x1) (cond (db_cnd .eq v3 0) (db_f344_b122 h13 s v1 v2) (db_f344_b122 h13 s v2 v2)) (db_f344_b58 h13 (db_f344_b44 h13 s n) s db_FU v1 v2 v3 v4 (0 : Int32))))
set_option maxRecDepth 100000 in
theorem db_f344_b44_ok {X : db_X} {d : Nat} {s : db_S} {h13 : Int32 → Int32 → Option Int32} (zh13 : ∀ (v1 : Int32) (v2 : Int32) , db_Rf X (d + 2) dbm_344 13 [(0, .ref 669), (1, .int v1), (2, .int v2)] [] s (db_yI s) (h13 v1 v2)) (n : Nat) : ∀ (v1 : Int32) (v2 : Int32) (v3 : Int32) (v4 : Int32), db_Rf X (d + 2) dbm_344 44 [(0, .ref 669), (1, .int v1), (2, .int v2), (3, .int v3), (4, .int v4)] [] s (db_yI s) (db_f344_b44 h13 s n v1 v2 v3 v4) := by
  induction n with
  | zero => intros; exact db_Rnone
  | succ n ih =>
    intro v1 v2 v3 v4
    unfold db_f344_b44
    refine db_Rgo (pc' := 51) (lv' := [(0, .ref 669), (1, .int v1), (2, .int v2), (3, .int v3), (4, .int v4)]) (st' := [.int (3 : Int32), .ref 674, .int v4]) 4 rfl ?_
    refine db_RldI (pc' := 52) (lv1 := [(0, .ref 669), (1, .int v1), (2, .int v2), (3, .int v3), (4, .int v4)]) rfl rfl rfl fun x1 => ?_
    refine db_Ric (pc' := 55) (tg := 116) (lv1 := [(0, .ref 669), (1, .int v1), (2, .int v2), (3, .int v3), (4, .int v4)]) rfl rfl rfl rfl ?_ ?_
    · refine db_Rgo (pc' := 117) (lv' := [(0, .ref 669), (1, .int v1), (2, .int v2), (3, .int v3)]) (st' := [.int v3]) 1 rfl ?_
      refine db_Rif (pc' := 120) (tg := 122) (lv1 := [(0, .ref 669), (1, .int v1), (2, .int v2), (3, .int v3)]) rfl rfl rfl rfl ?_ ?_
      · refine db_Rn (lv1 := [(0, .ref 669), (1, .int v1), (2, .int v2)]) rfl rfl rfl ?_
        exact db_f344_b122_ok zh13
      refine db_Rgo (pc' := 122) (lv' := [(1, .int v2), (0, .ref 669), (2, .int v2), (3, .int v3)]) (st' := []) 2 rfl ?_
      refine db_Rn (lv1 := [(0, .ref 669), (1, .int v2), (2, .int v2)]) rfl rfl rfl ?_
      exact db_f344_b122_ok zh13
    refine db_Rgo (pc' := 58) (lv' := [(5, .int (0 : Int32)), (0, .ref 669), (1, .int v1), (2, .int v2), (3, .int v3), (4, .int v4)]) (st' := []) 2 rfl ?_
    refine db_Rn (lv1 := [(0, .ref 669), (1, .int v1), (2, .int v2), (3, .int v3), (4, .int v4), (5, .int (0 : Int32))]) rfl rfl rfl ?_
    exact db_f344_b58_ok zh13 ih db_FU _ _ _ _ _
noncomputable def db_f344_b13 (s : db_S) : Nat → Int32 → Int32 → Option Int32
  | 0, _, _ => none
  | n + 1, v1, v2 =>
    ((db_rI s 674 (3 : Int32)).bind fun x1 => (cond (db_cnd .ge v2 ((1 : Int32) <<< (x1 &&& 31))) (some v1) ((db_f345 s v2).bind fun q2 => ((db_f345 s v1).bind fun q4 => (cond (db_cnd .lt q2 q4) (db_f344_b44 (db_f344_b13 s n) s db_FU v1 v2 (1 : Int32) (0 : Int32)) (db_f344_b122 (db_f344_b13 s n) s v1 v2))))))
set_option maxRecDepth 100000 in
theorem db_f344_b13_ok {X : db_X} {d : Nat} {s : db_S} (n : Nat) : ∀ (v1 : Int32) (v2 : Int32), db_Rf X (d + 2) dbm_344 13 [(0, .ref 669), (1, .int v1), (2, .int v2)] [] s (db_yI s) (db_f344_b13 s n v1 v2) := by
  induction n with
  | zero => intros; exact db_Rnone
  | succ n ih =>
    intro v1 v2
    unfold db_f344_b13
    refine db_Rgo (pc' := 20) (lv' := [(0, .ref 669), (1, .int v1), (2, .int v2)]) (st' := [.int (3 : Int32), .ref 674, .int (1 : Int32), .int v2]) 5 rfl ?_
    refine db_RldI (pc' := 21) (lv1 := [(0, .ref 669), (1, .int v1), (2, .int v2)]) rfl rfl rfl fun x1 => ?_
    refine db_Rgo (pc' := 22) (lv' := [(0, .ref 669), (1, .int v1), (2, .int v2)]) (st' := [.int ((1 : Int32) <<< (x1 &&& 31)), .int v2]) 1 rfl ?_
    refine db_Ric (pc' := 25) (tg := 128) (lv1 := [(0, .ref 669), (1, .int v1), (2, .int v2)]) rfl rfl rfl rfl ?_ ?_
    · refine db_Rgo (pc' := 129) (lv' := [(1, .int v1)]) (st' := [.int v1]) 1 rfl ?_
      exact db_Rret (lv1 := [(1, .int v1)]) rfl rfl rfl rfl
    refine db_Rgo (pc' := 26) (lv' := [(0, .ref 669), (1, .int v1), (2, .int v2)]) (st' := [.int v2]) 1 rfl ?_
    refine db_RcyI (mr' := dbm_345) (as := [.int v2]) (rest := []) (pc' := 29) (lv1 := [(0, .ref 669), (1, .int v1), (2, .int v2)]) rfl rfl rfl rfl rfl (db_f345_ok) fun q2 => ?_
    refine db_Rgo (pc' := 30) (lv' := [(0, .ref 669), (1, .int v1), (2, .int v2)]) (st' := [.int v1, .int q2]) 1 rfl ?_
    refine db_RcyI (mr' := dbm_345) (as := [.int v1]) (rest := [.int q2]) (pc' := 33) (lv1 := [(0, .ref 669), (1, .int v1), (2, .int v2)]) rfl rfl rfl rfl rfl (db_f345_ok) fun q4 => ?_
    refine db_Ric (pc' := 36) (tg := 39) (lv1 := [(0, .ref 669), (1, .int v1), (2, .int v2)]) rfl rfl rfl rfl ?_ ?_
    · refine db_Rgo (pc' := 44) (lv' := [(4, .int (0 : Int32)), (3, .int (1 : Int32)), (0, .ref 669), (1, .int v1), (2, .int v2)]) (st' := []) 4 rfl ?_
      refine db_Rn (lv1 := [(0, .ref 669), (1, .int v1), (2, .int v2), (3, .int (1 : Int32)), (4, .int (0 : Int32))]) rfl rfl rfl ?_
      exact db_f344_b44_ok ih db_FU _ _ _ _
    refine db_Rgo (pc' := 122) (lv' := [(0, .ref 669), (1, .int v1), (2, .int v2)]) (st' := []) 1 rfl ?_
    exact db_f344_b122_ok ih
/-- DreamBookModel.fewestOut()I -/
noncomputable def db_f344 (s : db_S) : Option Int32 :=
  ((db_rI s 674 (3 : Int32)).bind fun x1 => (db_f344_b13 s db_FU (((1 : Int32) <<< (x1 &&& 31)) - (1 : Int32)) (0 : Int32)))
set_option maxRecDepth 100000 in
theorem db_f344_ok {X : db_X} {d : Nat} {s : db_S} : db_Rf X (d + 2) dbm_344 0 (lv_args 0 [.ref 669]) [] s (db_yI s) (db_f344 s ) := by
  show db_Rf _ _ _ 0 [(0, .ref 669)] [] _ _ _
  unfold db_f344
  refine db_Rgo (pc' := 6) (lv' := [(0, .ref 669)]) (st' := [.int (3 : Int32), .ref 674, .int (1 : Int32)]) 4 rfl ?_
  refine db_RldI (pc' := 7) (lv1 := [(0, .ref 669)]) rfl rfl rfl fun x1 => ?_
  refine db_Rgo (pc' := 13) (lv' := [(2, .int (0 : Int32)), (1, .int (((1 : Int32) <<< (x1 &&& 31)) - (1 : Int32))), (0, .ref 669)]) (st' := []) 6 rfl ?_
  refine db_Rn (lv1 := [(0, .ref 669), (1, .int (((1 : Int32) <<< (x1 &&& 31)) - (1 : Int32))), (2, .int (0 : Int32))]) rfl rfl rfl ?_
  exact db_f344_b13_ok db_FU _ _
/-- DreamBookModel.fewest()I -/
noncomputable def db_f343 (s : db_S) : Option (Int32 × db_S) :=
  ((db_pI s 669 1 (0 : Int32)).bind fun s1 => ((db_pI s1 669 0 (0 : Int32)).bind fun s2 => ((db_f344 s2).bind fun q3 => ((db_f345 s2 q3).bind fun q5 => (some (q5, s2))))))
set_option maxRecDepth 100000 in
theorem db_f343_ok {X : db_X} {d : Nat} {s : db_S} : db_Rf X (d + 3) dbm_343 0 (lv_args 0 [.ref 669]) [] s db_zI (db_f343 s ) := by
  show db_Rf _ _ _ 0 [(0, .ref 669)] [] _ _ _
  unfold db_f343
  refine db_Rgo (pc' := 2) (lv' := [(0, .ref 669)]) (st' := [.int (0 : Int32), .ref 669]) 2 rfl ?_
  refine db_RpuI (pc' := 5) (lv1 := [(0, .ref 669)]) rfl rfl rfl rfl rfl rfl (by decide) rfl rfl fun s1 => ?_
  refine db_Rgo (pc' := 7) (lv' := [(0, .ref 669)]) (st' := [.int (0 : Int32), .ref 669]) 2 rfl ?_
  refine db_RpuI (pc' := 10) (lv1 := [(0, .ref 669)]) rfl rfl rfl rfl rfl rfl (by decide) rfl rfl fun s2 => ?_
  refine db_Rgo (pc' := 11) (lv' := [(0, .ref 669)]) (st' := [.ref 669]) 1 rfl ?_
  refine db_RcyI (mr' := dbm_344) (as := [.ref 669]) (rest := []) (pc' := 14) (lv1 := [(0, .ref 669)]) rfl rfl rfl rfl rfl (db_f344_ok) fun q3 => ?_
  refine db_RcyI (mr' := dbm_345) (as := [.int q3]) (rest := []) (pc' := 17) (lv1 := [(0, .ref 669)]) rfl rfl rfl rfl rfl (db_f345_ok) fun q5 => ?_
  exact db_Rret (lv1 := [(0, .ref 669)]) rfl rfl rfl rfl
/-- DreamBook.fewestSet()I -/
noncomputable def db_f160 (s : db_S) : Option (Int32 × db_S) :=
  (db_bd (db_f158_20 s) fun q1 s2 => (db_bd (db_f87 s2 q1) fun q3 s4 => (some (q3, s4))))
set_option maxRecDepth 100000 in
theorem db_f160_ok {X : db_X} {d : Nat} {s : db_S} : db_Rf X (d + 4) dbm_160 0 (lv_args 0 [.ref 4]) [] s db_zI (db_f160 s ) := by
  show db_Rf _ _ _ 0 [(0, .ref 4)] [] _ _ _
  unfold db_f160
  refine db_Rgo (pc' := 5) (lv' := [(0, .ref 4)]) (st' := [.ref 20, .ref 4]) 3 rfl ?_
  refine db_RcdI (mr' := dbm_158) (as := [.ref 20]) (rest := [.ref 4]) (pc' := 8) (lv1 := [(0, .ref 4)]) rfl rfl rfl rfl rfl (db_f158_20_ok) fun q1 s2 => ?_
  refine db_RcdI (mr' := dbm_87) (as := [.ref 4, .int q1]) (rest := []) (pc' := 11) (lv1 := [(0, .ref 4)]) rfl rfl rfl rfl rfl (db_f87_ok) fun q3 s4 => ?_
  exact db_Rret (lv1 := [(0, .ref 4)]) rfl rfl rfl rfl
/-- DreamBookModel.fewestSet()I -/
noncomputable def db_f346 (s : db_S) : Option (Int32 × db_S) :=
  ((db_pI s 669 1 (0 : Int32)).bind fun s1 => ((db_pI s1 669 0 (0 : Int32)).bind fun s2 => ((db_f344 s2).bind fun q3 => (some (q3, s2)))))
set_option maxRecDepth 100000 in
theorem db_f346_ok {X : db_X} {d : Nat} {s : db_S} : db_Rf X (d + 3) dbm_346 0 (lv_args 0 [.ref 669]) [] s db_zI (db_f346 s ) := by
  show db_Rf _ _ _ 0 [(0, .ref 669)] [] _ _ _
  unfold db_f346
  refine db_Rgo (pc' := 2) (lv' := [(0, .ref 669)]) (st' := [.int (0 : Int32), .ref 669]) 2 rfl ?_
  refine db_RpuI (pc' := 5) (lv1 := [(0, .ref 669)]) rfl rfl rfl rfl rfl rfl (by decide) rfl rfl fun s1 => ?_
  refine db_Rgo (pc' := 7) (lv' := [(0, .ref 669)]) (st' := [.int (0 : Int32), .ref 669]) 2 rfl ?_
  refine db_RpuI (pc' := 10) (lv1 := [(0, .ref 669)]) rfl rfl rfl rfl rfl rfl (by decide) rfl rfl fun s2 => ?_
  refine db_Rgo (pc' := 11) (lv' := [(0, .ref 669)]) (st' := [.ref 669]) 1 rfl ?_
  refine db_RcyI (mr' := dbm_344) (as := [.ref 669]) (rest := []) (pc' := 14) (lv1 := [(0, .ref 669)]) rfl rfl rfl rfl rfl (db_f344_ok) fun q3 => ?_
  exact db_Rret (lv1 := [(0, .ref 669)]) rfl rfl rfl rfl
/-- DreamBook.isValue(I)Z -/
noncomputable def db_f162 (s : db_S) (v0 : Int32) : Option Bool :=
  ((db_f27 s v0 (-999 : Int32) (999 : Int32)).bind fun q1 => (some q1))
set_option maxRecDepth 100000 in
theorem db_f162_ok {X : db_X} {d : Nat} {s : db_S} {v0 : Int32} : db_Rf X (d + 1) dbm_162 0 (lv_args 0 [.int v0]) [] s (db_yB s) (db_f162 s v0) := by
  show db_Rf _ _ _ 0 [(0, .int v0)] [] _ _ _
  unfold db_f162
  refine db_Rgo (pc' := 7) (lv' := [(0, .int v0)]) (st' := [.int (999 : Int32), .int (-999 : Int32), .int v0]) 3 rfl ?_
  refine db_RcyB (mr' := dbm_27) (as := [.int v0, .int (-999 : Int32), .int (999 : Int32)]) (rest := []) (pc' := 10) (lv1 := [(0, .int v0)]) rfl rfl rfl rfl rfl (db_f27_ok) fun q1 => ?_
  exact db_RretB (lv1 := [(0, .int v0)]) rfl rfl rfl rfl
noncomputable def db_f164_b12 : Nat → db_S → Int32 → Int32 → Int32 → Option (Int32 × db_S)
  | 0, _, _, _, _ => none
  | n + 1, s, v1, v2, v3 =>
    (cond (db_cnd .ge v3 v1) (some (v2, s)) ((db_rI s 21 (0 : Int32)).bind fun x1 => (db_f164_b12 n s v1 (v2 * x1) (v3 + (1 : Int32)))))
set_option maxRecDepth 100000 in
theorem db_f164_b12_ok {X : db_X} {d : Nat}  (n : Nat) : ∀ (s : db_S) (v1 : Int32) (v2 : Int32) (v3 : Int32), db_Rf X (d + 1) dbm_164 12 [(0, .ref 274), (1, .int v1), (2, .int v2), (3, .int v3)] [] s db_zI (db_f164_b12 n s v1 v2 v3) := by
  induction n with
  | zero => intros; exact db_Rnone
  | succ n ih =>
    intro s v1 v2 v3
    unfold db_f164_b12
    refine db_Rgo (pc' := 14) (lv' := [(0, .ref 274), (1, .int v1), (2, .int v2), (3, .int v3)]) (st' := [.int v1, .int v3]) 2 rfl ?_
    refine db_Ric (pc' := 17) (tg := 35) (lv1 := [(0, .ref 274), (1, .int v1), (2, .int v2), (3, .int v3)]) rfl rfl rfl rfl ?_ ?_
    · refine db_Rgo (pc' := 36) (lv' := [(2, .int v2)]) (st' := [.int v2]) 1 rfl ?_
      exact db_Rret (lv1 := [(2, .int v2)]) rfl rfl rfl rfl
    refine db_Rgo (pc' := 26) (lv' := [(0, .ref 274), (1, .int v1), (2, .int v2), (3, .int v3)]) (st' := [.int (0 : Int32), .ref 21, .int v2]) 5 rfl ?_
    refine db_RldI (pc' := 27) (lv1 := [(0, .ref 274), (1, .int v1), (2, .int v2), (3, .int v3)]) rfl rfl rfl fun x1 => ?_
    refine db_Rgo (pc' := 12) (lv' := [(3, .int (v3 + (1 : Int32))), (2, .int (v2 * x1)), (0, .ref 274), (1, .int v1)]) (st' := []) 4 rfl ?_
    refine db_Rn (lv1 := [(0, .ref 274), (1, .int v1), (2, .int (v2 * x1)), (3, .int (v3 + (1 : Int32)))]) rfl rfl rfl ?_
    exact ih _ _ _ _
/-- DreamBook$Finder.startRows(I)I -/
noncomputable def db_f164 (s : db_S) (v1 : Int32) : Option (Int32 × db_S) :=
  ((db_f2 s 279 (0 : Int32)).bind fun s2 => (db_f164_b12 db_FU s2 v1 (1 : Int32) (0 : Int32)))
set_option maxRecDepth 100000 in
theorem db_f164_ok {X : db_X} {d : Nat} {s : db_S} {v1 : Int32} : db_Rf X (d + 1) dbm_164 0 (lv_args 0 [.ref 274, .int v1]) [] s db_zI (db_f164 s v1) := by
  show db_Rf _ _ _ 0 [(0, .ref 274), (1, .int v1)] [] _ _ _
  unfold db_f164
  refine db_Rgo (pc' := 5) (lv' := [(0, .ref 274), (1, .int v1)]) (st' := [.int (0 : Int32), .ref 279]) 3 rfl ?_
  refine db_RcV (mr' := dbm_2) (as := [.ref 279, .int (0 : Int32)]) (rest := []) (pc' := 8) (lv1 := [(0, .ref 274), (1, .int v1)]) rfl rfl rfl rfl rfl (db_f2_ok) fun s2 => ?_
  refine db_Rgo (pc' := 12) (lv' := [(3, .int (0 : Int32)), (2, .int (1 : Int32)), (0, .ref 274), (1, .int v1)]) (st' := []) 4 rfl ?_
  refine db_Rn (lv1 := [(0, .ref 274), (1, .int v1), (2, .int (1 : Int32)), (3, .int (0 : Int32))]) rfl rfl rfl ?_
  exact db_f164_b12_ok db_FU _ _ _ _
noncomputable def db_f166_b4 : Nat → db_S → Int32 → Option db_S
  | 0, _, _ => none
  | n + 1, s, v2 =>
    (cond (db_cnd .lt v2 0) (some s) ((db_rI s 279 v2).bind fun x1 => ((db_rI s 21 (0 : Int32)).bind fun x2 => (cond (db_cnd .ge (x1 + (1 : Int32)) x2) ((db_wI s 279 v2 (0 : Int32)).bind fun s3 => (db_f166_b4 n s3 (v2 + (-1 : Int32)))) ((db_rI s 279 v2).bind fun x4 => ((db_wI s 279 v2 (x4 + (1 : Int32))).bind fun s5 => (some s5)))))))
set_option maxRecDepth 100000 in
theorem db_f166_b4_ok {X : db_X} {d : Nat}  (n : Nat) : ∀ (s : db_S) (v2 : Int32), db_Rf X (d + 0) dbm_166 4 [(0, .ref 274), (2, .int v2)] [] s db_zV (db_f166_b4 n s v2) := by
  induction n with
  | zero => intros; exact db_Rnone
  | succ n ih =>
    intro s v2
    unfold db_f166_b4
    refine db_Rgo (pc' := 5) (lv' := [(0, .ref 274), (2, .int v2)]) (st' := [.int v2]) 1 rfl ?_
    refine db_Rif (pc' := 8) (tg := 52) (lv1 := [(0, .ref 274), (2, .int v2)]) rfl rfl rfl rfl ?_ ?_
    · exact db_Rret (lv1 := []) rfl rfl rfl rfl
    refine db_Rgo (pc' := 13) (lv' := [(0, .ref 274), (2, .int v2)]) (st' := [.int v2, .ref 279]) 3 rfl ?_
    refine db_RldI (pc' := 14) (lv1 := [(0, .ref 274), (2, .int v2)]) rfl rfl rfl fun x1 => ?_
    refine db_Rgo (pc' := 24) (lv' := [(0, .ref 274), (2, .int v2)]) (st' := [.int (0 : Int32), .ref 21, .int (x1 + (1 : Int32))]) 6 rfl ?_
    refine db_RldI (pc' := 25) (lv1 := [(0, .ref 274), (2, .int v2)]) rfl rfl rfl fun x2 => ?_
    refine db_Ric (pc' := 28) (tg := 39) (lv1 := [(0, .ref 274), (2, .int v2)]) rfl rfl rfl rfl ?_ ?_
    · refine db_Rgo (pc' := 45) (lv' := [(0, .ref 274), (2, .int v2)]) (st' := [.int (0 : Int32), .int v2, .ref 279]) 4 rfl ?_
      refine db_RstI (pc' := 46) (lv1 := [(0, .ref 274), (2, .int v2)]) rfl rfl rfl fun s3 => ?_
      refine db_Rgo (pc' := 4) (lv' := [(2, .int (v2 + (-1 : Int32))), (0, .ref 274)]) (st' := []) 2 rfl ?_
      refine db_Rn (lv1 := [(0, .ref 274), (2, .int (v2 + (-1 : Int32)))]) rfl rfl rfl ?_
      exact ih _ _
    refine db_Rgo (pc' := 34) (lv' := [(0, .ref 274), (2, .int v2)]) (st' := [.int v2, .ref 279, .int v2, .ref 279]) 4 rfl ?_
    refine db_RldI (pc' := 35) (lv1 := [(0, .ref 274), (2, .int v2)]) rfl rfl rfl fun x4 => ?_
    refine db_Rgo (pc' := 37) (lv' := [(0, .ref 274), (2, .int v2)]) (st' := [.int (x4 + (1 : Int32)), .int v2, .ref 279]) 2 rfl ?_
    refine db_RstI (pc' := 38) (lv1 := [(0, .ref 274), (2, .int v2)]) rfl rfl rfl fun s5 => ?_
    exact db_Rret (lv1 := [(0, .ref 274), (2, .int v2)]) rfl rfl rfl rfl
/-- DreamBook$Finder.nextRow(I)V -/
noncomputable def db_f166 (s : db_S) (v1 : Int32) : Option db_S :=
  (db_f166_b4 db_FU s (v1 - (1 : Int32)))
set_option maxRecDepth 100000 in
theorem db_f166_ok {X : db_X} {d : Nat} {s : db_S} {v1 : Int32} : db_Rf X (d + 0) dbm_166 0 (lv_args 0 [.ref 274, .int v1]) [] s db_zV (db_f166 s v1) := by
  show db_Rf _ _ _ 0 [(0, .ref 274), (1, .int v1)] [] _ _ _
  unfold db_f166
  refine db_Rgo (pc' := 4) (lv' := [(2, .int (v1 - (1 : Int32))), (0, .ref 274), (1, .int v1)]) (st' := []) 4 rfl ?_
  refine db_Rn (lv1 := [(0, .ref 274), (2, .int (v1 - (1 : Int32)))]) rfl rfl rfl ?_
  exact db_f166_b4_ok db_FU _ _
/-- DreamBook$Finder.keepRow(I)I -/
noncomputable def db_f165 (s : db_S) (v1 : Int32) : Option (Int32 × db_S) :=
  ((db_f83 s 279 275).bind fun s2 => ((db_pI s2 274 1 v1).bind fun s3 => (some (v1, s3))))
set_option maxRecDepth 100000 in
theorem db_f165_ok {X : db_X} {d : Nat} {s : db_S} {v1 : Int32} : db_Rf X (d + 1) dbm_165 0 (lv_args 0 [.ref 274, .int v1]) [] s db_zI (db_f165 s v1) := by
  show db_Rf _ _ _ 0 [(0, .ref 274), (1, .int v1)] [] _ _ _
  unfold db_f165
  refine db_Rgo (pc' := 8) (lv' := [(0, .ref 274), (1, .int v1)]) (st' := [.ref 275, .ref 279]) 4 rfl ?_
  refine db_RcV (mr' := dbm_83) (as := [.ref 279, .ref 275]) (rest := []) (pc' := 11) (lv1 := [(0, .ref 274), (1, .int v1)]) rfl rfl rfl rfl rfl (db_f83_ok) fun s2 => ?_
  refine db_Rgo (pc' := 13) (lv' := [(0, .ref 274), (1, .int v1)]) (st' := [.int v1, .ref 274]) 2 rfl ?_
  refine db_RpuI (pc' := 16) (lv1 := [(0, .ref 274), (1, .int v1)]) rfl rfl rfl rfl rfl rfl (by decide) rfl rfl fun s3 => ?_
  refine db_Rgo (pc' := 17) (lv' := [(0, .ref 274), (1, .int v1)]) (st' := [.int v1]) 1 rfl ?_
  exact db_Rret (lv1 := [(0, .ref 274), (1, .int v1)]) rfl rfl rfl rfl
noncomputable def db_f163_b44 (h27 : db_S → Int32 → Int32 → Int32 → Option (Int32 × db_S)) : Nat → db_S → Int32 → Int32 → Int32 → Int32 → Int32 → Option (Int32 × db_S)
  | 0, _, _, _, _, _, _ => none
  | n + 1, s, v4, v5, v6, v7, v8 =>
    (cond (db_cnd .ge v8 v7) (h27 s v4 v5 (v6 + (1 : Int32))) (db_bd (db_f130 s 279 v6 v4) fun q1 s2 => (cond (db_cnd .ne q1 v5) ((db_f166 s2 v6).bind fun s4 => (db_f163_b44 h27 n s4 v4 v5 v6 v7 (v8 + (1 : Int32)))) (db_bd (db_f165 s2 v6) fun q5 s6 => (some (q5, s6))))))
set_option maxRecDepth 100000 in
theorem db_f163_b44_ok {X : db_X} {d : Nat}  {h27 : db_S → Int32 → Int32 → Int32 → Option (Int32 × db_S)} (zh27 : ∀ (s' : db_S) (v4 : Int32) (v5 : Int32) (v6 : Int32) , db_Rf X (d + 2) dbm_163 27 [(0, .ref 274), (4, .int v4), (5, .int v5), (6, .int v6)] [] s' db_zI (h27 s' v4 v5 v6)) (n : Nat) : ∀ (s : db_S) (v4 : Int32) (v5 : Int32) (v6 : Int32) (v7 : Int32) (v8 : Int32), db_Rf X (d + 2) dbm_163 44 [(0, .ref 274), (4, .int v4), (5, .int v5), (6, .int v6), (7, .int v7), (8, .int v8)] [] s db_zI (db_f163_b44 h27 n s v4 v5 v6 v7 v8) := by
  induction n with
  | zero => intros; exact db_Rnone
  | succ n ih =>
    intro s v4 v5 v6 v7 v8
    unfold db_f163_b44
    refine db_Rgo (pc' := 48) (lv' := [(0, .ref 274), (4, .int v4), (5, .int v5), (6, .int v6), (7, .int v7), (8, .int v8)]) (st' := [.int v7, .int v8]) 2 rfl ?_
    refine db_Ric (pc' := 51) (tg := 90) (lv1 := [(0, .ref 274), (4, .int v4), (5, .int v5), (6, .int v6), (7, .int v7), (8, .int v8)]) rfl rfl rfl rfl ?_ ?_
    · refine db_Rgo (pc' := 27) (lv' := [(6, .int (v6 + (1 : Int32))), (0, .ref 274), (4, .int v4), (5, .int v5)]) (st' := []) 2 rfl ?_
      refine db_Rn (lv1 := [(0, .ref 274), (4, .int v4), (5, .int v5), (6, .int (v6 + (1 : Int32)))]) rfl rfl rfl ?_
      exact zh27 _ _ _ _
    refine db_Rgo (pc' := 63) (lv' := [(0, .ref 274), (4, .int v4), (5, .int v5), (6, .int v6), (7, .int v7), (8, .int v8)]) (st' := [.int v4, .int v6, .ref 279, .ref 271]) 6 rfl ?_
    refine db_RcdI (mr' := dbm_130) (as := [.ref 271, .ref 279, .int v6, .int v4]) (rest := []) (pc' := 66) (lv1 := [(0, .ref 274), (4, .int v4), (5, .int v5), (6, .int v6), (7, .int v7), (8, .int v8)]) rfl rfl rfl rfl rfl (db_f130_ok) fun q1 s2 => ?_
    refine db_Rgo (pc' := 68) (lv' := [(0, .ref 274), (4, .int v4), (5, .int v5), (6, .int v6), (7, .int v7), (8, .int v8)]) (st' := [.int v5, .int q1]) 1 rfl ?_
    refine db_Ric (pc' := 71) (tg := 78) (lv1 := [(0, .ref 274), (4, .int v4), (5, .int v5), (6, .int v6), (7, .int v7), (8, .int v8)]) rfl rfl rfl rfl ?_ ?_
    · refine db_Rgo (pc' := 81) (lv' := [(0, .ref 274), (4, .int v4), (5, .int v5), (6, .int v6), (7, .int v7), (8, .int v8)]) (st' := [.int v6, .ref 274]) 2 rfl ?_
      refine db_RcV (mr' := dbm_166) (as := [.ref 274, .int v6]) (rest := []) (pc' := 84) (lv1 := [(0, .ref 274), (4, .int v4), (5, .int v5), (6, .int v6), (7, .int v7), (8, .int v8)]) rfl rfl rfl rfl rfl (db_f166_ok) fun s4 => ?_
      refine db_Rgo (pc' := 44) (lv' := [(8, .int (v8 + (1 : Int32))), (0, .ref 274), (4, .int v4), (5, .int v5), (6, .int v6), (7, .int v7)]) (st' := []) 2 rfl ?_
      refine db_Rn (lv1 := [(0, .ref 274), (4, .int v4), (5, .int v5), (6, .int v6), (7, .int v7), (8, .int (v8 + (1 : Int32)))]) rfl rfl rfl ?_
      exact ih _ _ _ _ _ _
    refine db_Rgo (pc' := 74) (lv' := [(0, .ref 274), (4, .int v4), (5, .int v5), (6, .int v6), (7, .int v7), (8, .int v8)]) (st' := [.int v6, .ref 274]) 2 rfl ?_
    refine db_RcdI (mr' := dbm_165) (as := [.ref 274, .int v6]) (rest := []) (pc' := 77) (lv1 := [(0, .ref 274), (4, .int v4), (5, .int v5), (6, .int v6), (7, .int v7), (8, .int v8)]) rfl rfl rfl rfl rfl (db_f165_ok) fun q5 s6 => ?_
    exact db_Rret (lv1 := [(0, .ref 274), (4, .int v4), (5, .int v5), (6, .int v6), (7, .int v7), (8, .int v8)]) rfl rfl rfl rfl
noncomputable def db_f163_b27 : Nat → db_S → Int32 → Int32 → Int32 → Option (Int32 × db_S)
  | 0, _, _, _, _ => none
  | n + 1, s, v4, v5, v6 =>
    (cond (db_cnd .gt v6 (4 : Int32)) (some ((-1 : Int32), s)) (db_bd (db_f164 s v6) fun q1 s2 => (db_f163_b44 (db_f163_b27 n) db_FU s2 v4 v5 v6 q1 (0 : Int32))))
set_option maxRecDepth 100000 in
theorem db_f163_b27_ok {X : db_X} {d : Nat}  (n : Nat) : ∀ (s : db_S) (v4 : Int32) (v5 : Int32) (v6 : Int32), db_Rf X (d + 2) dbm_163 27 [(0, .ref 274), (4, .int v4), (5, .int v5), (6, .int v6)] [] s db_zI (db_f163_b27 n s v4 v5 v6) := by
  induction n with
  | zero => intros; exact db_Rnone
  | succ n ih =>
    intro s v4 v5 v6
    unfold db_f163_b27
    refine db_Rgo (pc' := 30) (lv' := [(0, .ref 274), (4, .int v4), (5, .int v5), (6, .int v6)]) (st' := [.int (4 : Int32), .int v6]) 2 rfl ?_
    refine db_Ric (pc' := 33) (tg := 96) (lv1 := [(0, .ref 274), (4, .int v4), (5, .int v5), (6, .int v6)]) rfl rfl rfl rfl ?_ ?_
    · refine db_Rgo (pc' := 97) (lv' := []) (st' := [.int (-1 : Int32)]) 1 rfl ?_
      exact db_Rret (lv1 := []) rfl rfl rfl rfl
    refine db_Rgo (pc' := 36) (lv' := [(0, .ref 274), (4, .int v4), (5, .int v5), (6, .int v6)]) (st' := [.int v6, .ref 274]) 2 rfl ?_
    refine db_RcdI (mr' := dbm_164) (as := [.ref 274, .int v6]) (rest := []) (pc' := 39) (lv1 := [(0, .ref 274), (4, .int v4), (5, .int v5), (6, .int v6)]) rfl rfl rfl rfl rfl (db_f164_ok) fun q1 s2 => ?_
    refine db_Rgo (pc' := 44) (lv' := [(8, .int (0 : Int32)), (7, .int q1), (0, .ref 274), (4, .int v4), (5, .int v5), (6, .int v6)]) (st' := []) 3 rfl ?_
    refine db_Rn (lv1 := [(0, .ref 274), (4, .int v4), (5, .int v5), (6, .int v6), (7, .int q1), (8, .int (0 : Int32))]) rfl rfl rfl ?_
    exact db_f163_b44_ok ih db_FU _ _ _ _ _ _
/-- DreamBook$Finder.findShortest(III)I -/
noncomputable def db_f163 (s : db_S) (v1 : Int32) (v2 : Int32) (v3 : Int32) : Option (Int32 × db_S) :=
  ((db_f129 s v2 v3).bind fun q1 => ((db_f128 s v2 v3).bind fun q3 => (db_f163_b27 db_FU s q1 (q3 * v1) (1 : Int32))))
set_option maxRecDepth 100000 in
theorem db_f163_ok {X : db_X} {d : Nat} {s : db_S} {v1 : Int32} {v2 : Int32} {v3 : Int32} : db_Rf X (d + 2) dbm_163 0 (lv_args 0 [.ref 274, .int v1, .int v2, .int v3]) [] s db_zI (db_f163 s v1 v2 v3) := by
  show db_Rf _ _ _ 0 [(0, .ref 274), (1, .int v1), (2, .int v2), (3, .int v3)] [] _ _ _
  unfold db_f163
  refine db_Rgo (pc' := 6) (lv' := [(0, .ref 274), (1, .int v1), (2, .int v2), (3, .int v3)]) (st' := [.int v3, .int v2, .ref 271]) 4 rfl ?_
  refine db_RcyI (mr' := dbm_129) (as := [.ref 271, .int v2, .int v3]) (rest := []) (pc' := 9) (lv1 := [(0, .ref 274), (1, .int v1), (2, .int v2), (3, .int v3)]) rfl rfl rfl rfl rfl (db_f129_ok) fun q1 => ?_
  refine db_Rgo (pc' := 17) (lv' := [(4, .int q1), (0, .ref 274), (1, .int v1), (2, .int v2), (3, .int v3)]) (st' := [.int v3, .int v2, .ref 271]) 5 rfl ?_
  refine db_RcyI (mr' := dbm_128) (as := [.ref 271, .int v2, .int v3]) (rest := []) (pc' := 20) (lv1 := [(4, .int q1), (0, .ref 274), (1, .int v1), (2, .int v2), (3, .int v3)]) rfl rfl rfl rfl rfl (db_f128_ok) fun q3 => ?_
  refine db_Rgo (pc' := 27) (lv' := [(6, .int (1 : Int32)), (5, .int (q3 * v1)), (4, .int q1), (0, .ref 274), (1, .int v1), (2, .int v2), (3, .int v3)]) (st' := []) 5 rfl ?_
  refine db_Rn (lv1 := [(0, .ref 274), (4, .int q1), (5, .int (q3 * v1)), (6, .int (1 : Int32))]) rfl rfl rfl ?_
  exact db_f163_b27_ok db_FU _ _ _ _
/-- DreamBook.shortest(III)I -/
noncomputable def db_f161 (s : db_S) (v1 : Int32) (v2 : Int32) (v3 : Int32) : Option (Int32 × db_S) :=
  ((db_f126 s v2 v3).bind fun q1 => (cond q1 ((db_f162 s v1).bind fun q3 => (cond q3 (db_bd (db_f163 s v1 v2 v3) fun q5 s6 => (cond (db_cnd .ne q5 (-1 : Int32)) (db_bd (db_f87 s6 q5) fun q7 s8 => (some (q7, s8))) (db_bd (db_f37 s6 (8 : Int32)) fun q9 s10 => (some (q9, s10))))) (db_bd (db_f37 s (5 : Int32)) fun q11 s12 => (some (q11, s12))))) (db_bd (db_f37 s (2 : Int32)) fun q13 s14 => (some (q13, s14)))))
set_option maxRecDepth 100000 in
theorem db_f161_ok {X : db_X} {d : Nat} {s : db_S} {v1 : Int32} {v2 : Int32} {v3 : Int32} : db_Rf X (d + 3) dbm_161 0 (lv_args 0 [.ref 4, .int v1, .int v2, .int v3]) [] s db_zI (db_f161 s v1 v2 v3) := by
  show db_Rf _ _ _ 0 [(0, .ref 4), (1, .int v1), (2, .int v2), (3, .int v3)] [] _ _ _
  unfold db_f161
  refine db_Rgo (pc' := 3) (lv' := [(0, .ref 4), (1, .int v1), (2, .int v2), (3, .int v3)]) (st' := [.int v3, .int v2, .ref 4]) 3 rfl ?_
  refine db_RcyB (mr' := dbm_126) (as := [.ref 4, .int v2, .int v3]) (rest := []) (pc' := 6) (lv1 := [(0, .ref 4), (1, .int v1), (2, .int v2), (3, .int v3)]) rfl rfl rfl rfl rfl (db_f126_ok) fun q1 => ?_
  refine db_RifBn (pc' := 9) (tg := 15) (lv1 := [(0, .ref 4), (1, .int v1), (2, .int v2), (3, .int v3)]) rfl rfl rfl rfl ?_ ?_
  · refine db_Rgo (pc' := 16) (lv' := [(0, .ref 4), (1, .int v1), (2, .int v2), (3, .int v3)]) (st' := [.int v1]) 1 rfl ?_
    refine db_RcyB (mr' := dbm_162) (as := [.int v1]) (rest := []) (pc' := 19) (lv1 := [(0, .ref 4), (1, .int v1), (2, .int v2), (3, .int v3)]) rfl rfl rfl rfl rfl (db_f162_ok) fun q3 => ?_
    refine db_RifBn (pc' := 22) (tg := 28) (lv1 := [(0, .ref 4), (1, .int v1), (2, .int v2), (3, .int v3)]) rfl rfl rfl rfl ?_ ?_
    · refine db_Rgo (pc' := 35) (lv' := [(0, .ref 4), (1, .int v1), (2, .int v2), (3, .int v3)]) (st' := [.int v3, .int v2, .int v1, .ref 274]) 5 rfl ?_
      refine db_RcdI (mr' := dbm_163) (as := [.ref 274, .int v1, .int v2, .int v3]) (rest := []) (pc' := 38) (lv1 := [(0, .ref 4), (1, .int v1), (2, .int v2), (3, .int v3)]) rfl rfl rfl rfl rfl (db_f163_ok) fun q5 s6 => ?_
      refine db_Rgo (pc' := 43) (lv' := [(4, .int q5), (0, .ref 4), (1, .int v1), (2, .int v2), (3, .int v3)]) (st' := [.int (-1 : Int32), .int q5]) 3 rfl ?_
      refine db_Ric (pc' := 46) (tg := 55) (lv1 := [(4, .int q5), (0, .ref 4), (1, .int v1), (2, .int v2), (3, .int v3)]) rfl rfl rfl rfl ?_ ?_
      · refine db_Rgo (pc' := 58) (lv' := [(0, .ref 4), (4, .int q5)]) (st' := [.int q5, .ref 4]) 2 rfl ?_
        refine db_RcdI (mr' := dbm_87) (as := [.ref 4, .int q5]) (rest := []) (pc' := 61) (lv1 := [(0, .ref 4), (4, .int q5)]) rfl rfl rfl rfl rfl (db_f87_ok) fun q7 s8 => ?_
        exact db_Rret (lv1 := []) rfl rfl rfl rfl
      refine db_Rgo (pc' := 49) (lv' := [(4, .int q5), (0, .ref 4), (1, .int v1), (2, .int v2), (3, .int v3)]) (st' := [.int (8 : Int32), .ref 4]) 2 rfl ?_
      refine db_RcdI (mr' := dbm_37) (as := [.ref 4, .int (8 : Int32)]) (rest := []) (pc' := 52) (lv1 := [(4, .int q5), (0, .ref 4), (1, .int v1), (2, .int v2), (3, .int v3)]) rfl rfl rfl rfl rfl (db_f37_ok) fun q9 s10 => ?_
      refine db_Rgo (pc' := 61) (lv' := [(4, .int q5), (0, .ref 4), (1, .int v1), (2, .int v2), (3, .int v3)]) (st' := [.int q9]) 1 rfl ?_
      exact db_Rret (lv1 := []) rfl rfl rfl rfl
    refine db_Rgo (pc' := 24) (lv' := [(0, .ref 4), (1, .int v1), (2, .int v2), (3, .int v3)]) (st' := [.int (5 : Int32), .ref 4]) 2 rfl ?_
    refine db_RcdI (mr' := dbm_37) (as := [.ref 4, .int (5 : Int32)]) (rest := []) (pc' := 27) (lv1 := [(0, .ref 4), (1, .int v1), (2, .int v2), (3, .int v3)]) rfl rfl rfl rfl rfl (db_f37_ok) fun q11 s12 => ?_
    exact db_Rret (lv1 := [(0, .ref 4), (1, .int v1), (2, .int v2), (3, .int v3)]) rfl rfl rfl rfl
  refine db_Rgo (pc' := 11) (lv' := [(0, .ref 4), (1, .int v1), (2, .int v2), (3, .int v3)]) (st' := [.int (2 : Int32), .ref 4]) 2 rfl ?_
  refine db_RcdI (mr' := dbm_37) (as := [.ref 4, .int (2 : Int32)]) (rest := []) (pc' := 14) (lv1 := [(0, .ref 4), (1, .int v1), (2, .int v2), (3, .int v3)]) rfl rfl rfl rfl rfl (db_f37_ok) fun q13 s14 => ?_
  exact db_Rret (lv1 := [(0, .ref 4), (1, .int v1), (2, .int v2), (3, .int v3)]) rfl rfl rfl rfl
noncomputable def db_f348_b7 : Nat → db_S → Int32 → Int32 → Option db_S
  | 0, _, _, _ => none
  | n + 1, s, v1, v2 =>
    (cond (db_cnd .ge v2 v1) (some s) ((db_wI s 678 v2 (0 : Int32)).bind fun s1 => (db_f348_b7 n s1 v1 (v2 + (1 : Int32)))))
set_option maxRecDepth 100000 in
theorem db_f348_b7_ok {X : db_X} {d : Nat}  (n : Nat) : ∀ (s : db_S) (v1 : Int32) (v2 : Int32), db_Rf X (d + 0) dbm_348 7 [(0, .ref 669), (1, .int v1), (2, .int v2)] [] s db_zV (db_f348_b7 n s v1 v2) := by
  induction n with
  | zero => intros; exact db_Rnone
  | succ n ih =>
    intro s v1 v2
    unfold db_f348_b7
    refine db_Rgo (pc' := 9) (lv' := [(0, .ref 669), (1, .int v1), (2, .int v2)]) (st' := [.int v1, .int v2]) 2 rfl ?_
    refine db_Ric (pc' := 12) (tg := 25) (lv1 := [(0, .ref 669), (1, .int v1), (2, .int v2)]) rfl rfl rfl rfl ?_ ?_
    · exact db_Rret (lv1 := []) rfl rfl rfl rfl
    refine db_Rgo (pc' := 18) (lv' := [(0, .ref 669), (1, .int v1), (2, .int v2)]) (st' := [.int (0 : Int32), .int v2, .ref 678]) 4 rfl ?_
    refine db_RstI (pc' := 19) (lv1 := [(0, .ref 669), (1, .int v1), (2, .int v2)]) rfl rfl rfl fun s1 => ?_
    refine db_Rgo (pc' := 7) (lv' := [(2, .int (v2 + (1 : Int32))), (0, .ref 669), (1, .int v1)]) (st' := []) 2 rfl ?_
    refine db_Rn (lv1 := [(0, .ref 669), (1, .int v1), (2, .int (v2 + (1 : Int32)))]) rfl rfl rfl ?_
    exact ih _ _ _
/-- DreamBookModel.firstRow(I)V -/
noncomputable def db_f348 (s : db_S) (v1 : Int32) : Option db_S :=
  ((db_pI s 669 29 v1).bind fun s1 => (db_f348_b7 db_FU s1 v1 (0 : Int32)))
set_option maxRecDepth 100000 in
theorem db_f348_ok {X : db_X} {d : Nat} {s : db_S} {v1 : Int32} : db_Rf X (d + 0) dbm_348 0 (lv_args 0 [.ref 669, .int v1]) [] s db_zV (db_f348 s v1) := by
  show db_Rf _ _ _ 0 [(0, .ref 669), (1, .int v1)] [] _ _ _
  unfold db_f348
  refine db_Rgo (pc' := 2) (lv' := [(0, .ref 669), (1, .int v1)]) (st' := [.int v1, .ref 669]) 2 rfl ?_
  refine db_RpuI (pc' := 5) (lv1 := [(0, .ref 669), (1, .int v1)]) rfl rfl rfl rfl rfl rfl (by decide) rfl rfl fun s1 => ?_
  refine db_Rgo (pc' := 7) (lv' := [(2, .int (0 : Int32)), (0, .ref 669), (1, .int v1)]) (st' := []) 2 rfl ?_
  refine db_Rn (lv1 := [(0, .ref 669), (1, .int v1), (2, .int (0 : Int32))]) rfl rfl rfl ?_
  exact db_f348_b7_ok db_FU _ _ _
noncomputable def db_f350_b41 (s : db_S) (v1 : Int32) : Option (Bool × db_S) :=
  (cond (db_cnd .ge v1 0) ((db_rI s 678 v1).bind fun x1 => ((db_wI s 678 v1 (x1 + (1 : Int32))).bind fun s2 => (some (true, s2)))) (some (false, s)))
set_option maxRecDepth 100000 in
theorem db_f350_b41_ok {X : db_X} {d : Nat}  {s : db_S} {v1 : Int32} : db_Rf X (d + 0) dbm_350 41 [(0, .ref 669), (1, .int v1)] [] s db_zB (db_f350_b41 s v1) := by
  unfold db_f350_b41
  refine db_Rgo (pc' := 42) (lv' := [(0, .ref 669), (1, .int v1)]) (st' := [.int v1]) 1 rfl ?_
  refine db_Rif (pc' := 45) (tg := 47) (lv1 := [(0, .ref 669), (1, .int v1)]) rfl rfl rfl rfl ?_ ?_
  · refine db_Rgo (pc' := 53) (lv' := [(0, .ref 669), (1, .int v1)]) (st' := [.int v1, .ref 678, .int v1, .ref 678]) 4 rfl ?_
    refine db_RldI (pc' := 54) (lv1 := [(0, .ref 669), (1, .int v1)]) rfl rfl rfl fun x1 => ?_
    refine db_Rgo (pc' := 56) (lv' := [(0, .ref 669), (1, .int v1)]) (st' := [.int (x1 + (1 : Int32)), .int v1, .ref 678]) 2 rfl ?_
    refine db_RstI (pc' := 57) (lv1 := [(0, .ref 669), (1, .int v1)]) rfl rfl rfl fun s2 => ?_
    refine db_Rgo (pc' := 58) (lv' := [(0, .ref 669), (1, .int v1)]) (st' := [.int (1 : Int32)]) 1 rfl ?_
    exact db_Rret (lv1 := [(0, .ref 669), (1, .int v1)]) rfl rfl rfl rfl
  refine db_Rgo (pc' := 46) (lv' := [(0, .ref 669), (1, .int v1)]) (st' := [.int (0 : Int32)]) 1 rfl ?_
  exact db_Rret (lv1 := [(0, .ref 669), (1, .int v1)]) rfl rfl rfl rfl
noncomputable def db_f350_b7 : Nat → db_S → Int32 → Option (Bool × db_S)
  | 0, _, _ => none
  | n + 1, s, v1 =>
    (cond (db_cnd .lt v1 0) (db_f350_b41 s v1) ((db_rI s 678 v1).bind fun x1 => ((db_rI s 674 (0 : Int32)).bind fun x2 => (cond (db_cnd .ne x1 (x2 - (1 : Int32))) (db_f350_b41 s v1) ((db_wI s 678 v1 (0 : Int32)).bind fun s3 => (db_f350_b7 n s3 (v1 + (-1 : Int32))))))))
set_option maxRecDepth 100000 in
theorem db_f350_b7_ok {X : db_X} {d : Nat}  (n : Nat) : ∀ (s : db_S) (v1 : Int32), db_Rf X (d + 0) dbm_350 7 [(0, .ref 669), (1, .int v1)] [] s db_zB (db_f350_b7 n s v1) := by
  induction n with
  | zero => intros; exact db_Rnone
  | succ n ih =>
    intro s v1
    unfold db_f350_b7
    refine db_Rgo (pc' := 8) (lv' := [(0, .ref 669), (1, .int v1)]) (st' := [.int v1]) 1 rfl ?_
    refine db_Rif (pc' := 11) (tg := 41) (lv1 := [(0, .ref 669), (1, .int v1)]) rfl rfl rfl rfl ?_ ?_
    · exact db_f350_b41_ok
    refine db_Rgo (pc' := 16) (lv' := [(0, .ref 669), (1, .int v1)]) (st' := [.int v1, .ref 678]) 3 rfl ?_
    refine db_RldI (pc' := 17) (lv1 := [(0, .ref 669), (1, .int v1)]) rfl rfl rfl fun x1 => ?_
    refine db_Rgo (pc' := 22) (lv' := [(0, .ref 669), (1, .int v1)]) (st' := [.int (0 : Int32), .ref 674, .int x1]) 3 rfl ?_
    refine db_RldI (pc' := 23) (lv1 := [(0, .ref 669), (1, .int v1)]) rfl rfl rfl fun x2 => ?_
    refine db_Rgo (pc' := 25) (lv' := [(0, .ref 669), (1, .int v1)]) (st' := [.int (x2 - (1 : Int32)), .int x1]) 2 rfl ?_
    refine db_Ric (pc' := 28) (tg := 41) (lv1 := [(0, .ref 669), (1, .int v1)]) rfl rfl rfl rfl ?_ ?_
    · exact db_f350_b41_ok
    refine db_Rgo (pc' := 34) (lv' := [(0, .ref 669), (1, .int v1)]) (st' := [.int (0 : Int32), .int v1, .ref 678]) 4 rfl ?_
    refine db_RstI (pc' := 35) (lv1 := [(0, .ref 669), (1, .int v1)]) rfl rfl rfl fun s3 => ?_
    refine db_Rgo (pc' := 7) (lv' := [(1, .int (v1 + (-1 : Int32))), (0, .ref 669)]) (st' := []) 2 rfl ?_
    refine db_Rn (lv1 := [(0, .ref 669), (1, .int (v1 + (-1 : Int32)))]) rfl rfl rfl ?_
    exact ih _ _
/-- DreamBookModel.nextRow()Z -/
noncomputable def db_f350 (s : db_S) : Option (Bool × db_S) :=
  (db_f350_b7 db_FU s ((s.1 669 29) - (1 : Int32)))
set_option maxRecDepth 100000 in
theorem db_f350_ok {X : db_X} {d : Nat} {s : db_S} : db_Rf X (d + 0) dbm_350 0 (lv_args 0 [.ref 669]) [] s db_zB (db_f350 s ) := by
  show db_Rf _ _ _ 0 [(0, .ref 669)] [] _ _ _
  unfold db_f350
  refine db_Rgo (pc' := 7) (lv' := [(1, .int ((s.1 669 29) - (1 : Int32))), (0, .ref 669)]) (st' := []) 5 rfl ?_
  refine db_Rn (lv1 := [(0, .ref 669), (1, .int ((s.1 669 29) - (1 : Int32)))]) rfl rfl rfl ?_
  exact db_f350_b7_ok db_FU _ _
noncomputable def db_f349_b7 : Nat → db_S → Int32 → Option (Int32 × db_S)
  | 0, _, _ => none
  | n + 1, s, v1 =>
    (cond (db_cnd .ge v1 (s.1 669 29)) (some ((s.1 669 29), s)) ((db_rI s 678 v1).bind fun x1 => ((db_f341 s x1).bind fun s3 => (db_f349_b7 n s3 (v1 + (1 : Int32))))))
set_option maxRecDepth 100000 in
theorem db_f349_b7_ok {X : db_X} {d : Nat}  (n : Nat) : ∀ (s : db_S) (v1 : Int32), db_Rf X (d + 1) dbm_349 7 [(0, .ref 669), (1, .int v1)] [] s db_zI (db_f349_b7 n s v1) := by
  induction n with
  | zero => intros; exact db_Rnone
  | succ n ih =>
    intro s v1
    unfold db_f349_b7
    refine db_Rgo (pc' := 12) (lv' := [(0, .ref 669), (1, .int v1)]) (st' := [.int (s.1 669 29), .int v1]) 3 rfl ?_
    refine db_Ric (pc' := 15) (tg := 31) (lv1 := [(0, .ref 669), (1, .int v1)]) rfl rfl rfl rfl ?_ ?_
    · refine db_Rgo (pc' := 35) (lv' := [(0, .ref 669)]) (st' := [.int (s.1 669 29)]) 2 rfl ?_
      exact db_Rret (lv1 := [(0, .ref 669)]) rfl rfl rfl rfl
    refine db_Rgo (pc' := 21) (lv' := [(0, .ref 669), (1, .int v1)]) (st' := [.int v1, .ref 678, .ref 669]) 4 rfl ?_
    refine db_RldI (pc' := 22) (lv1 := [(0, .ref 669), (1, .int v1)]) rfl rfl rfl fun x1 => ?_
    refine db_RcV (mr' := dbm_341) (as := [.ref 669, .int x1]) (rest := []) (pc' := 25) (lv1 := [(0, .ref 669), (1, .int v1)]) rfl rfl rfl rfl rfl (db_f341_ok) fun s3 => ?_
    refine db_Rgo (pc' := 7) (lv' := [(1, .int (v1 + (1 : Int32))), (0, .ref 669)]) (st' := []) 2 rfl ?_
    refine db_Rn (lv1 := [(0, .ref 669), (1, .int (v1 + (1 : Int32)))]) rfl rfl rfl ?_
    exact ih _ _
/-- DreamBookModel.findsRow()I -/
noncomputable def db_f349 (s : db_S) : Option (Int32 × db_S) :=
  ((db_pI s 669 34 (0 : Int32)).bind fun s1 => (db_f349_b7 db_FU s1 (0 : Int32)))
set_option maxRecDepth 100000 in
theorem db_f349_ok {X : db_X} {d : Nat} {s : db_S} : db_Rf X (d + 1) dbm_349 0 (lv_args 0 [.ref 669]) [] s db_zI (db_f349 s ) := by
  show db_Rf _ _ _ 0 [(0, .ref 669)] [] _ _ _
  unfold db_f349
  refine db_Rgo (pc' := 2) (lv' := [(0, .ref 669)]) (st' := [.int (0 : Int32), .ref 669]) 2 rfl ?_
  refine db_RpuI (pc' := 5) (lv1 := [(0, .ref 669)]) rfl rfl rfl rfl rfl rfl (by decide) rfl rfl fun s1 => ?_
  refine db_Rgo (pc' := 7) (lv' := [(1, .int (0 : Int32)), (0, .ref 669)]) (st' := []) 2 rfl ?_
  refine db_Rn (lv1 := [(0, .ref 669), (1, .int (0 : Int32))]) rfl rfl rfl ?_
  exact db_f349_b7_ok db_FU _ _
noncomputable def db_f347_b80 (h56 : db_S → Int32 → Int32 → Int32 → Int32 → Option (Int32 × db_S)) : Nat → db_S → Int32 → Int32 → Int32 → Int32 → Int32 → Option (Int32 × db_S)
  | 0, _, _, _, _, _, _ => none
  | n + 1, s, v1, v2, v3, v4, v5 =>
    (cond (db_cnd .eq v5 0) (h56 s v1 v2 v3 (v4 + (1 : Int32))) (db_bd (db_f318 s v2 v3) fun q1 s2 => (cond (db_cnd .ne q1 v1) (db_bd (db_f350 s2) fun q3 s4 => (db_f347_b80 h56 n s4 v1 v2 v3 v4 (db_i q3))) (db_bd (db_f349 s2) fun q5 s6 => (some (q5, s6))))))
set_option maxRecDepth 100000 in
theorem db_f347_b80_ok {X : db_X} {d : Nat}  {h56 : db_S → Int32 → Int32 → Int32 → Int32 → Option (Int32 × db_S)} (zh56 : ∀ (s' : db_S) (v1 : Int32) (v2 : Int32) (v3 : Int32) (v4 : Int32) , db_Rf X (d + 4) dbm_347 56 [(0, .ref 669), (1, .int v1), (2, .int v2), (3, .int v3), (4, .int v4)] [] s' db_zI (h56 s' v1 v2 v3 v4)) (n : Nat) : ∀ (s : db_S) (v1 : Int32) (v2 : Int32) (v3 : Int32) (v4 : Int32) (v5 : Int32), db_Rf X (d + 4) dbm_347 80 [(0, .ref 669), (1, .int v1), (2, .int v2), (3, .int v3), (4, .int v4), (5, .int v5)] [] s db_zI (db_f347_b80 h56 n s v1 v2 v3 v4 v5) := by
  induction n with
  | zero => intros; exact db_Rnone
  | succ n ih =>
    intro s v1 v2 v3 v4 v5
    unfold db_f347_b80
    refine db_Rgo (pc' := 82) (lv' := [(0, .ref 669), (1, .int v1), (2, .int v2), (3, .int v3), (4, .int v4), (5, .int v5)]) (st' := [.int v5]) 1 rfl ?_
    refine db_Rif (pc' := 85) (tg := 109) (lv1 := [(0, .ref 669), (1, .int v1), (2, .int v2), (3, .int v3), (4, .int v4), (5, .int v5)]) rfl rfl rfl rfl ?_ ?_
    · refine db_Rgo (pc' := 56) (lv' := [(4, .int (v4 + (1 : Int32))), (0, .ref 669), (1, .int v1), (2, .int v2), (3, .int v3)]) (st' := []) 2 rfl ?_
      refine db_Rn (lv1 := [(0, .ref 669), (1, .int v1), (2, .int v2), (3, .int v3), (4, .int (v4 + (1 : Int32)))]) rfl rfl rfl ?_
      exact zh56 _ _ _ _ _
    refine db_Rgo (pc' := 88) (lv' := [(0, .ref 669), (1, .int v1), (2, .int v2), (3, .int v3), (4, .int v4), (5, .int v5)]) (st' := [.int v3, .int v2, .ref 669]) 3 rfl ?_
    refine db_RcdI (mr' := dbm_318) (as := [.ref 669, .int v2, .int v3]) (rest := []) (pc' := 91) (lv1 := [(0, .ref 669), (1, .int v1), (2, .int v2), (3, .int v3), (4, .int v4), (5, .int v5)]) rfl rfl rfl rfl rfl (db_f318_ok) fun q1 s2 => ?_
    refine db_Rgo (pc' := 92) (lv' := [(0, .ref 669), (1, .int v1), (2, .int v2), (3, .int v3), (4, .int v4), (5, .int v5)]) (st' := [.int v1, .int q1]) 1 rfl ?_
    refine db_Ric (pc' := 95) (tg := 100) (lv1 := [(0, .ref 669), (1, .int v1), (2, .int v2), (3, .int v3), (4, .int v4), (5, .int v5)]) rfl rfl rfl rfl ?_ ?_
    · refine db_Rgo (pc' := 101) (lv' := [(0, .ref 669), (1, .int v1), (2, .int v2), (3, .int v3), (4, .int v4)]) (st' := [.ref 669]) 1 rfl ?_
      refine db_RcdB (mr' := dbm_350) (as := [.ref 669]) (rest := []) (pc' := 104) (lv1 := [(0, .ref 669), (1, .int v1), (2, .int v2), (3, .int v3), (4, .int v4)]) rfl rfl rfl rfl rfl (db_f350_ok) fun q3 s4 => ?_
      refine db_Rgo (pc' := 80) (lv' := [(5, .int (db_i q3)), (0, .ref 669), (1, .int v1), (2, .int v2), (3, .int v3), (4, .int v4)]) (st' := []) 2 rfl ?_
      refine db_Rn (lv1 := [(0, .ref 669), (1, .int v1), (2, .int v2), (3, .int v3), (4, .int v4), (5, .int (db_i q3))]) rfl rfl rfl ?_
      exact ih _ _ _ _ _ _
    refine db_Rgo (pc' := 96) (lv' := [(0, .ref 669), (1, .int v1), (2, .int v2), (3, .int v3), (4, .int v4), (5, .int v5)]) (st' := [.ref 669]) 1 rfl ?_
    refine db_RcdI (mr' := dbm_349) (as := [.ref 669]) (rest := []) (pc' := 99) (lv1 := [(0, .ref 669), (1, .int v1), (2, .int v2), (3, .int v3), (4, .int v4), (5, .int v5)]) rfl rfl rfl rfl rfl (db_f349_ok) fun q5 s6 => ?_
    exact db_Rret (lv1 := [(0, .ref 669), (1, .int v1), (2, .int v2), (3, .int v3), (4, .int v4), (5, .int v5)]) rfl rfl rfl rfl
noncomputable def db_f347_b115 (s : db_S) : Option (Int32 × db_S) :=
  (db_bd (db_f281 s (8 : Int32)) fun q1 s2 => (some (q1, s2)))
set_option maxRecDepth 100000 in
theorem db_f347_b115_ok {X : db_X} {d : Nat}  {s : db_S} : db_Rf X (d + 4) dbm_347 115 [(0, .ref 669)] [] s db_zI (db_f347_b115 s ) := by
  unfold db_f347_b115
  refine db_Rgo (pc' := 118) (lv' := [(0, .ref 669)]) (st' := [.int (8 : Int32), .ref 669]) 2 rfl ?_
  refine db_RcdI (mr' := dbm_281) (as := [.ref 669, .int (8 : Int32)]) (rest := []) (pc' := 121) (lv1 := [(0, .ref 669)]) rfl rfl rfl rfl rfl (db_f281_ok) fun q1 s2 => ?_
  exact db_Rret (lv1 := [(0, .ref 669)]) rfl rfl rfl rfl
noncomputable def db_f347_b56 : Nat → db_S → Int32 → Int32 → Int32 → Int32 → Option (Int32 × db_S)
  | 0, _, _, _, _, _ => none
  | n + 1, s, v1, v2, v3, v4 =>
    (cond (db_cnd .ge v4 (5 : Int32)) (db_f347_b115 s ) ((db_rI s 674 (0 : Int32)).bind fun x1 => (cond (db_cnd .le x1 0) (db_f347_b115 s ) ((db_f348 s v4).bind fun s3 => (db_f347_b80 (db_f347_b56 n) db_FU s3 v1 v2 v3 v4 (1 : Int32))))))
set_option maxRecDepth 100000 in
theorem db_f347_b56_ok {X : db_X} {d : Nat}  (n : Nat) : ∀ (s : db_S) (v1 : Int32) (v2 : Int32) (v3 : Int32) (v4 : Int32), db_Rf X (d + 4) dbm_347 56 [(0, .ref 669), (1, .int v1), (2, .int v2), (3, .int v3), (4, .int v4)] [] s db_zI (db_f347_b56 n s v1 v2 v3 v4) := by
  induction n with
  | zero => intros; exact db_Rnone
  | succ n ih =>
    intro s v1 v2 v3 v4
    unfold db_f347_b56
    refine db_Rgo (pc' := 59) (lv' := [(0, .ref 669), (1, .int v1), (2, .int v2), (3, .int v3), (4, .int v4)]) (st' := [.int (5 : Int32), .int v4]) 2 rfl ?_
    refine db_Ric (pc' := 62) (tg := 115) (lv1 := [(0, .ref 669), (1, .int v1), (2, .int v2), (3, .int v3), (4, .int v4)]) rfl rfl rfl rfl ?_ ?_
    · refine db_Rn (lv1 := [(0, .ref 669)]) rfl rfl rfl ?_
      exact db_f347_b115_ok
    refine db_Rgo (pc' := 67) (lv' := [(0, .ref 669), (1, .int v1), (2, .int v2), (3, .int v3), (4, .int v4)]) (st' := [.int (0 : Int32), .ref 674]) 3 rfl ?_
    refine db_RldI (pc' := 68) (lv1 := [(0, .ref 669), (1, .int v1), (2, .int v2), (3, .int v3), (4, .int v4)]) rfl rfl rfl fun x1 => ?_
    refine db_Rif (pc' := 71) (tg := 115) (lv1 := [(0, .ref 669), (1, .int v1), (2, .int v2), (3, .int v3), (4, .int v4)]) rfl rfl rfl rfl ?_ ?_
    · refine db_Rn (lv1 := [(0, .ref 669)]) rfl rfl rfl ?_
      exact db_f347_b115_ok
    refine db_Rgo (pc' := 74) (lv' := [(0, .ref 669), (1, .int v1), (2, .int v2), (3, .int v3), (4, .int v4)]) (st' := [.int v4, .ref 669]) 2 rfl ?_
    refine db_RcV (mr' := dbm_348) (as := [.ref 669, .int v4]) (rest := []) (pc' := 77) (lv1 := [(0, .ref 669), (1, .int v1), (2, .int v2), (3, .int v3), (4, .int v4)]) rfl rfl rfl rfl rfl (db_f348_ok) fun s3 => ?_
    refine db_Rgo (pc' := 80) (lv' := [(5, .int (1 : Int32)), (0, .ref 669), (1, .int v1), (2, .int v2), (3, .int v3), (4, .int v4)]) (st' := []) 2 rfl ?_
    refine db_Rn (lv1 := [(0, .ref 669), (1, .int v1), (2, .int v2), (3, .int v3), (4, .int v4), (5, .int (1 : Int32))]) rfl rfl rfl ?_
    exact db_f347_b80_ok ih db_FU _ _ _ _ _ _
/-- DreamBookModel.shortest(III)I -/
noncomputable def db_f347 (s : db_S) (v1 : Int32) (v2 : Int32) (v3 : Int32) : Option (Int32 × db_S) :=
  ((db_pI s 669 1 (0 : Int32)).bind fun s1 => ((db_pI s1 669 0 (0 : Int32)).bind fun s2 => ((db_f315 s2 v2 v3).bind fun q3 => (cond q3 ((db_f269 s2 (Int32.toInt64 v1) (-999 : Int64) (999 : Int64)).bind fun q5 => (cond q5 (db_bd (db_f283 s2) fun q7 s8 => ((db_pI s8 669 30 q7).bind fun s9 => (db_f347_b56 db_FU s9 v1 v2 v3 (1 : Int32)))) (db_bd (db_f281 s2 (5 : Int32)) fun q10 s11 => (some (q10, s11))))) (db_bd (db_f281 s2 (2 : Int32)) fun q12 s13 => (some (q12, s13)))))))
set_option maxRecDepth 100000 in
theorem db_f347_ok {X : db_X} {d : Nat} {s : db_S} {v1 : Int32} {v2 : Int32} {v3 : Int32} : db_Rf X (d + 4) dbm_347 0 (lv_args 0 [.ref 669, .int v1, .int v2, .int v3]) [] s db_zI (db_f347 s v1 v2 v3) := by
  show db_Rf _ _ _ 0 [(0, .ref 669), (1, .int v1), (2, .int v2), (3, .int v3)] [] _ _ _
  unfold db_f347
  refine db_Rgo (pc' := 2) (lv' := [(0, .ref 669), (1, .int v1), (2, .int v2), (3, .int v3)]) (st' := [.int (0 : Int32), .ref 669]) 2 rfl ?_
  refine db_RpuI (pc' := 5) (lv1 := [(0, .ref 669), (1, .int v1), (2, .int v2), (3, .int v3)]) rfl rfl rfl rfl rfl rfl (by decide) rfl rfl fun s1 => ?_
  refine db_Rgo (pc' := 7) (lv' := [(0, .ref 669), (1, .int v1), (2, .int v2), (3, .int v3)]) (st' := [.int (0 : Int32), .ref 669]) 2 rfl ?_
  refine db_RpuI (pc' := 10) (lv1 := [(0, .ref 669), (1, .int v1), (2, .int v2), (3, .int v3)]) rfl rfl rfl rfl rfl rfl (by decide) rfl rfl fun s2 => ?_
  refine db_Rgo (pc' := 13) (lv' := [(0, .ref 669), (1, .int v1), (2, .int v2), (3, .int v3)]) (st' := [.int v3, .int v2, .ref 669]) 3 rfl ?_
  refine db_RcyB (mr' := dbm_315) (as := [.ref 669, .int v2, .int v3]) (rest := []) (pc' := 16) (lv1 := [(0, .ref 669), (1, .int v1), (2, .int v2), (3, .int v3)]) rfl rfl rfl rfl rfl (db_f315_ok) fun q3 => ?_
  refine db_RifBn (pc' := 19) (tg := 25) (lv1 := [(0, .ref 669), (1, .int v1), (2, .int v2), (3, .int v3)]) rfl rfl rfl rfl ?_ ?_
  · refine db_Rgo (pc' := 33) (lv' := [(0, .ref 669), (1, .int v1), (2, .int v2), (3, .int v3)]) (st' := [.long (999 : Int64), .long (-999 : Int64), .long (Int32.toInt64 v1)]) 4 rfl ?_
    refine db_RcyB (mr' := dbm_269) (as := [.long (Int32.toInt64 v1), .long (-999 : Int64), .long (999 : Int64)]) (rest := []) (pc' := 36) (lv1 := [(0, .ref 669), (1, .int v1), (2, .int v2), (3, .int v3)]) rfl rfl rfl rfl rfl (db_f269_ok) fun q5 => ?_
    refine db_RifBn (pc' := 39) (tg := 45) (lv1 := [(0, .ref 669), (1, .int v1), (2, .int v2), (3, .int v3)]) rfl rfl rfl rfl ?_ ?_
    · refine db_Rgo (pc' := 47) (lv' := [(0, .ref 669), (1, .int v1), (2, .int v2), (3, .int v3)]) (st' := [.ref 669, .ref 669]) 2 rfl ?_
      refine db_RcdI (mr' := dbm_283) (as := [.ref 669]) (rest := [.ref 669]) (pc' := 50) (lv1 := [(0, .ref 669), (1, .int v1), (2, .int v2), (3, .int v3)]) rfl rfl rfl rfl rfl (db_f283_ok) fun q7 s8 => ?_
      refine db_RpuI (pc' := 53) (lv1 := [(0, .ref 669), (1, .int v1), (2, .int v2), (3, .int v3)]) rfl rfl rfl rfl rfl rfl (by decide) rfl rfl fun s9 => ?_
      refine db_Rgo (pc' := 56) (lv' := [(4, .int (1 : Int32)), (0, .ref 669), (1, .int v1), (2, .int v2), (3, .int v3)]) (st' := []) 2 rfl ?_
      refine db_Rn (lv1 := [(0, .ref 669), (1, .int v1), (2, .int v2), (3, .int v3), (4, .int (1 : Int32))]) rfl rfl rfl ?_
      exact db_f347_b56_ok db_FU _ _ _ _ _
    refine db_Rgo (pc' := 41) (lv' := [(0, .ref 669), (1, .int v1), (2, .int v2), (3, .int v3)]) (st' := [.int (5 : Int32), .ref 669]) 2 rfl ?_
    refine db_RcdI (mr' := dbm_281) (as := [.ref 669, .int (5 : Int32)]) (rest := []) (pc' := 44) (lv1 := [(0, .ref 669), (1, .int v1), (2, .int v2), (3, .int v3)]) rfl rfl rfl rfl rfl (db_f281_ok) fun q10 s11 => ?_
    exact db_Rret (lv1 := [(0, .ref 669), (1, .int v1), (2, .int v2), (3, .int v3)]) rfl rfl rfl rfl
  refine db_Rgo (pc' := 21) (lv' := [(0, .ref 669), (1, .int v1), (2, .int v2), (3, .int v3)]) (st' := [.int (2 : Int32), .ref 669]) 2 rfl ?_
  refine db_RcdI (mr' := dbm_281) (as := [.ref 669, .int (2 : Int32)]) (rest := []) (pc' := 24) (lv1 := [(0, .ref 669), (1, .int v1), (2, .int v2), (3, .int v3)]) rfl rfl rfl rfl rfl (db_f281_ok) fun q12 s13 => ?_
  exact db_Rret (lv1 := [(0, .ref 669), (1, .int v1), (2, .int v2), (3, .int v3)]) rfl rfl rfl rfl
noncomputable def db_f168_b68 (h39 : db_S → Int32 → Int32 → Int32 → Int32 → Int32 → Int32 → Option (Int32 × db_S)) (s : db_S) (v1 : Int32) (v5 : Int32) (v6 : Int32) (v7 : Int32) (v8 : Int32) (v9 : Int32) : Option (Int32 × db_S) :=
  ((db_f166 s v1).bind fun s2 => (h39 s2 v1 v5 v6 v7 v8 (v9 + (1 : Int32))))
set_option maxRecDepth 100000 in
theorem db_f168_b68_ok {X : db_X} {d : Nat}  {h39 : db_S → Int32 → Int32 → Int32 → Int32 → Int32 → Int32 → Option (Int32 × db_S)} {s : db_S} {v1 : Int32} {v5 : Int32} {v6 : Int32} {v7 : Int32} {v8 : Int32} {v9 : Int32} (zh39 : ∀ (s' : db_S) (v1 : Int32) (v5 : Int32) (v6 : Int32) (v7 : Int32) (v8 : Int32) (v9 : Int32) , db_Rf X (d + 2) dbm_168 39 [(0, .ref 274), (1, .int v1), (5, .int v5), (6, .int v6), (7, .int v7), (8, .int v8), (9, .int v9)] [] s' db_zI (h39 s' v1 v5 v6 v7 v8 v9)) : db_Rf X (d + 2) dbm_168 68 [(0, .ref 274), (1, .int v1), (5, .int v5), (6, .int v6), (7, .int v7), (8, .int v8), (9, .int v9)] [] s db_zI (db_f168_b68 h39 s v1 v5 v6 v7 v8 v9) := by
  unfold db_f168_b68
  refine db_Rgo (pc' := 70) (lv' := [(0, .ref 274), (1, .int v1), (5, .int v5), (6, .int v6), (7, .int v7), (8, .int v8), (9, .int v9)]) (st' := [.int v1, .ref 274]) 2 rfl ?_
  refine db_RcV (mr' := dbm_166) (as := [.ref 274, .int v1]) (rest := []) (pc' := 73) (lv1 := [(0, .ref 274), (1, .int v1), (5, .int v5), (6, .int v6), (7, .int v7), (8, .int v8), (9, .int v9)]) rfl rfl rfl rfl rfl (db_f166_ok) fun s2 => ?_
  refine db_Rgo (pc' := 39) (lv' := [(9, .int (v9 + (1 : Int32))), (0, .ref 274), (1, .int v1), (5, .int v5), (6, .int v6), (7, .int v7), (8, .int v8)]) (st' := []) 2 rfl ?_
  refine db_Rn (lv1 := [(0, .ref 274), (1, .int v1), (5, .int v5), (6, .int v6), (7, .int v7), (8, .int v8), (9, .int (v9 + (1 : Int32)))]) rfl rfl rfl ?_
  exact zh39 _ _ _ _ _ _ _
noncomputable def db_f168_b39 : Nat → db_S → Int32 → Int32 → Int32 → Int32 → Int32 → Int32 → Option (Int32 × db_S)
  | 0, _, _, _, _, _, _, _ => none
  | n + 1, s, v1, v5, v6, v7, v8, v9 =>
    (cond (db_cnd .ge v9 v7) (some (v8, s)) (db_bd (db_f130 s 279 v1 v5) fun q1 s2 => (cond (db_cnd .ne q1 v6) (db_f168_b68 (db_f168_b39 n) s2 v1 v5 v6 v7 v8 v9) (db_f168_b68 (db_f168_b39 n) s2 v1 v5 v6 v7 (v8 + (1 : Int32)) v9))))
set_option maxRecDepth 100000 in
theorem db_f168_b39_ok {X : db_X} {d : Nat}  (n : Nat) : ∀ (s : db_S) (v1 : Int32) (v5 : Int32) (v6 : Int32) (v7 : Int32) (v8 : Int32) (v9 : Int32), db_Rf X (d + 2) dbm_168 39 [(0, .ref 274), (1, .int v1), (5, .int v5), (6, .int v6), (7, .int v7), (8, .int v8), (9, .int v9)] [] s db_zI (db_f168_b39 n s v1 v5 v6 v7 v8 v9) := by
  induction n with
  | zero => intros; exact db_Rnone
  | succ n ih =>
    intro s v1 v5 v6 v7 v8 v9
    unfold db_f168_b39
    refine db_Rgo (pc' := 43) (lv' := [(0, .ref 274), (1, .int v1), (5, .int v5), (6, .int v6), (7, .int v7), (8, .int v8), (9, .int v9)]) (st' := [.int v7, .int v9]) 2 rfl ?_
    refine db_Ric (pc' := 46) (tg := 79) (lv1 := [(0, .ref 274), (1, .int v1), (5, .int v5), (6, .int v6), (7, .int v7), (8, .int v8), (9, .int v9)]) rfl rfl rfl rfl ?_ ?_
    · refine db_Rgo (pc' := 81) (lv' := [(8, .int v8)]) (st' := [.int v8]) 1 rfl ?_
      exact db_Rret (lv1 := [(8, .int v8)]) rfl rfl rfl rfl
    refine db_Rgo (pc' := 57) (lv' := [(0, .ref 274), (1, .int v1), (5, .int v5), (6, .int v6), (7, .int v7), (8, .int v8), (9, .int v9)]) (st' := [.int v5, .int v1, .ref 279, .ref 271]) 6 rfl ?_
    refine db_RcdI (mr' := dbm_130) (as := [.ref 271, .ref 279, .int v1, .int v5]) (rest := []) (pc' := 60) (lv1 := [(0, .ref 274), (1, .int v1), (5, .int v5), (6, .int v6), (7, .int v7), (8, .int v8), (9, .int v9)]) rfl rfl rfl rfl rfl (db_f130_ok) fun q1 s2 => ?_
    refine db_Rgo (pc' := 62) (lv' := [(0, .ref 274), (1, .int v1), (5, .int v5), (6, .int v6), (7, .int v7), (8, .int v8), (9, .int v9)]) (st' := [.int v6, .int q1]) 1 rfl ?_
    refine db_Ric (pc' := 65) (tg := 68) (lv1 := [(0, .ref 274), (1, .int v1), (5, .int v5), (6, .int v6), (7, .int v7), (8, .int v8), (9, .int v9)]) rfl rfl rfl rfl ?_ ?_
    · exact db_f168_b68_ok ih
    refine db_Rgo (pc' := 68) (lv' := [(8, .int (v8 + (1 : Int32))), (0, .ref 274), (1, .int v1), (5, .int v5), (6, .int v6), (7, .int v7), (9, .int v9)]) (st' := []) 1 rfl ?_
    refine db_Rn (lv1 := [(0, .ref 274), (1, .int v1), (5, .int v5), (6, .int v6), (7, .int v7), (8, .int (v8 + (1 : Int32))), (9, .int v9)]) rfl rfl rfl ?_
    exact db_f168_b68_ok ih
/-- DreamBook$Finder.countRows(IIII)I -/
noncomputable def db_f168 (s : db_S) (v1 : Int32) (v2 : Int32) (v3 : Int32) (v4 : Int32) : Option (Int32 × db_S) :=
  ((db_f129 s v3 v4).bind fun q1 => ((db_f128 s v3 v4).bind fun q3 => (db_bd (db_f164 s v1) fun q5 s6 => (db_f168_b39 db_FU s6 v1 q1 (q3 * v2) q5 (0 : Int32) (0 : Int32)))))
set_option maxRecDepth 100000 in
theorem db_f168_ok {X : db_X} {d : Nat} {s : db_S} {v1 : Int32} {v2 : Int32} {v3 : Int32} {v4 : Int32} : db_Rf X (d + 2) dbm_168 0 (lv_args 0 [.ref 274, .int v1, .int v2, .int v3, .int v4]) [] s db_zI (db_f168 s v1 v2 v3 v4) := by
  show db_Rf _ _ _ 0 [(0, .ref 274), (1, .int v1), (2, .int v2), (3, .int v3), (4, .int v4)] [] _ _ _
  unfold db_f168
  refine db_Rgo (pc' := 7) (lv' := [(0, .ref 274), (1, .int v1), (2, .int v2), (3, .int v3), (4, .int v4)]) (st' := [.int v4, .int v3, .ref 271]) 4 rfl ?_
  refine db_RcyI (mr' := dbm_129) (as := [.ref 271, .int v3, .int v4]) (rest := []) (pc' := 10) (lv1 := [(0, .ref 274), (1, .int v1), (2, .int v2), (3, .int v3), (4, .int v4)]) rfl rfl rfl rfl rfl (db_f129_ok) fun q1 => ?_
  refine db_Rgo (pc' := 19) (lv' := [(5, .int q1), (0, .ref 274), (1, .int v1), (2, .int v2), (3, .int v3), (4, .int v4)]) (st' := [.int v4, .int v3, .ref 271]) 5 rfl ?_
  refine db_RcyI (mr' := dbm_128) (as := [.ref 271, .int v3, .int v4]) (rest := []) (pc' := 22) (lv1 := [(5, .int q1), (0, .ref 274), (1, .int v1), (2, .int v2), (3, .int v3), (4, .int v4)]) rfl rfl rfl rfl rfl (db_f128_ok) fun q3 => ?_
  refine db_Rgo (pc' := 28) (lv' := [(6, .int (q3 * v2)), (5, .int q1), (0, .ref 274), (1, .int v1), (2, .int v2), (3, .int v3), (4, .int v4)]) (st' := [.int v1, .ref 274]) 5 rfl ?_
  refine db_RcdI (mr' := dbm_164) (as := [.ref 274, .int v1]) (rest := []) (pc' := 31) (lv1 := [(6, .int (q3 * v2)), (5, .int q1), (0, .ref 274), (1, .int v1), (2, .int v2), (3, .int v3), (4, .int v4)]) rfl rfl rfl rfl rfl (db_f164_ok) fun q5 s6 => ?_
  refine db_Rgo (pc' := 39) (lv' := [(9, .int (0 : Int32)), (8, .int (0 : Int32)), (7, .int q5), (6, .int (q3 * v2)), (5, .int q1), (0, .ref 274), (1, .int v1), (2, .int v2), (3, .int v3), (4, .int v4)]) (st' := []) 5 rfl ?_
  refine db_Rn (lv1 := [(0, .ref 274), (1, .int v1), (5, .int q1), (6, .int (q3 * v2)), (7, .int q5), (8, .int (0 : Int32)), (9, .int (0 : Int32))]) rfl rfl rfl ?_
  exact db_f168_b39_ok db_FU _ _ _ _ _ _ _
noncomputable def db_f167_b32 (s : db_S) : Option (Int32 × db_S) :=
  (db_bd (db_f37 s (5 : Int32)) fun q1 s2 => (some (q1, s2)))
set_option maxRecDepth 100000 in
theorem db_f167_b32_ok {X : db_X} {d : Nat}  {s : db_S} : db_Rf X (d + 3) dbm_167 32 [(0, .ref 4)] [] s db_zI (db_f167_b32 s ) := by
  unfold db_f167_b32
  refine db_Rgo (pc' := 34) (lv' := [(0, .ref 4)]) (st' := [.int (5 : Int32), .ref 4]) 2 rfl ?_
  refine db_RcdI (mr' := dbm_37) (as := [.ref 4, .int (5 : Int32)]) (rest := []) (pc' := 37) (lv1 := [(0, .ref 4)]) rfl rfl rfl rfl rfl (db_f37_ok) fun q1 s2 => ?_
  exact db_Rret (lv1 := [(0, .ref 4)]) rfl rfl rfl rfl
/-- DreamBook.rows(IIII)I -/
noncomputable def db_f167 (s : db_S) (v1 : Int32) (v2 : Int32) (v3 : Int32) (v4 : Int32) : Option (Int32 × db_S) :=
  ((db_f126 s v3 v4).bind fun q1 => (cond q1 ((db_f27 s v1 (1 : Int32) (4 : Int32)).bind fun q3 => (cond q3 ((db_f162 s v2).bind fun q5 => (cond q5 (db_bd (db_f168 s v1 v2 v3 v4) fun q7 s8 => (db_bd (db_f87 s8 q7) fun q9 s10 => (some (q9, s10)))) (db_f167_b32 s ))) (db_f167_b32 s ))) (db_bd (db_f37 s (2 : Int32)) fun q11 s12 => (some (q11, s12)))))
set_option maxRecDepth 100000 in
theorem db_f167_ok {X : db_X} {d : Nat} {s : db_S} {v1 : Int32} {v2 : Int32} {v3 : Int32} {v4 : Int32} : db_Rf X (d + 3) dbm_167 0 (lv_args 0 [.ref 4, .int v1, .int v2, .int v3, .int v4]) [] s db_zI (db_f167 s v1 v2 v3 v4) := by
  show db_Rf _ _ _ 0 [(0, .ref 4), (1, .int v1), (2, .int v2), (3, .int v3), (4, .int v4)] [] _ _ _
  unfold db_f167
  refine db_Rgo (pc' := 4) (lv' := [(0, .ref 4), (1, .int v1), (2, .int v2), (3, .int v3), (4, .int v4)]) (st' := [.int v4, .int v3, .ref 4]) 3 rfl ?_
  refine db_RcyB (mr' := dbm_126) (as := [.ref 4, .int v3, .int v4]) (rest := []) (pc' := 7) (lv1 := [(0, .ref 4), (1, .int v1), (2, .int v2), (3, .int v3), (4, .int v4)]) rfl rfl rfl rfl rfl (db_f126_ok) fun q1 => ?_
  refine db_RifBn (pc' := 10) (tg := 16) (lv1 := [(0, .ref 4), (1, .int v1), (2, .int v2), (3, .int v3), (4, .int v4)]) rfl rfl rfl rfl ?_ ?_
  · refine db_Rgo (pc' := 19) (lv' := [(0, .ref 4), (1, .int v1), (2, .int v2), (3, .int v3), (4, .int v4)]) (st' := [.int (4 : Int32), .int (1 : Int32), .int v1]) 3 rfl ?_
    refine db_RcyB (mr' := dbm_27) (as := [.int v1, .int (1 : Int32), .int (4 : Int32)]) (rest := []) (pc' := 22) (lv1 := [(0, .ref 4), (1, .int v1), (2, .int v2), (3, .int v3), (4, .int v4)]) rfl rfl rfl rfl rfl (db_f27_ok) fun q3 => ?_
    refine db_RifBe (pc' := 25) (tg := 32) (lv1 := [(0, .ref 4), (1, .int v1), (2, .int v2), (3, .int v3), (4, .int v4)]) rfl rfl rfl rfl ?_ ?_
    · refine db_Rn (lv1 := [(0, .ref 4)]) rfl rfl rfl ?_
      exact db_f167_b32_ok
    refine db_Rgo (pc' := 26) (lv' := [(0, .ref 4), (1, .int v1), (2, .int v2), (3, .int v3), (4, .int v4)]) (st' := [.int v2]) 1 rfl ?_
    refine db_RcyB (mr' := dbm_162) (as := [.int v2]) (rest := []) (pc' := 29) (lv1 := [(0, .ref 4), (1, .int v1), (2, .int v2), (3, .int v3), (4, .int v4)]) rfl rfl rfl rfl rfl (db_f162_ok) fun q5 => ?_
    refine db_RifBn (pc' := 32) (tg := 38) (lv1 := [(0, .ref 4), (1, .int v1), (2, .int v2), (3, .int v3), (4, .int v4)]) rfl rfl rfl rfl ?_ ?_
    · refine db_Rgo (pc' := 48) (lv' := [(0, .ref 4), (1, .int v1), (2, .int v2), (3, .int v3), (4, .int v4)]) (st' := [.int v4, .int v3, .int v2, .int v1, .ref 274, .ref 4]) 7 rfl ?_
      refine db_RcdI (mr' := dbm_168) (as := [.ref 274, .int v1, .int v2, .int v3, .int v4]) (rest := [.ref 4]) (pc' := 51) (lv1 := [(0, .ref 4), (1, .int v1), (2, .int v2), (3, .int v3), (4, .int v4)]) rfl rfl rfl rfl rfl (db_f168_ok) fun q7 s8 => ?_
      refine db_RcdI (mr' := dbm_87) (as := [.ref 4, .int q7]) (rest := []) (pc' := 54) (lv1 := [(0, .ref 4), (1, .int v1), (2, .int v2), (3, .int v3), (4, .int v4)]) rfl rfl rfl rfl rfl (db_f87_ok) fun q9 s10 => ?_
      exact db_Rret (lv1 := [(0, .ref 4), (1, .int v1), (2, .int v2), (3, .int v3), (4, .int v4)]) rfl rfl rfl rfl
    refine db_Rn (lv1 := [(0, .ref 4)]) rfl rfl rfl ?_
    exact db_f167_b32_ok
  refine db_Rgo (pc' := 12) (lv' := [(0, .ref 4), (1, .int v1), (2, .int v2), (3, .int v3), (4, .int v4)]) (st' := [.int (2 : Int32), .ref 4]) 2 rfl ?_
  refine db_RcdI (mr' := dbm_37) (as := [.ref 4, .int (2 : Int32)]) (rest := []) (pc' := 15) (lv1 := [(0, .ref 4), (1, .int v1), (2, .int v2), (3, .int v3), (4, .int v4)]) rfl rfl rfl rfl rfl (db_f37_ok) fun q11 s12 => ?_
  exact db_Rret (lv1 := [(0, .ref 4), (1, .int v1), (2, .int v2), (3, .int v3), (4, .int v4)]) rfl rfl rfl rfl
noncomputable def db_f351_b52 (s : db_S) : Option (Int32 × db_S) :=
  (db_bd (db_f281 s (5 : Int32)) fun q1 s2 => (some (q1, s2)))
set_option maxRecDepth 100000 in
theorem db_f351_b52_ok {X : db_X} {d : Nat}  {s : db_S} : db_Rf X (d + 4) dbm_351 52 [(0, .ref 669)] [] s db_zI (db_f351_b52 s ) := by
  unfold db_f351_b52
  refine db_Rgo (pc' := 54) (lv' := [(0, .ref 669)]) (st' := [.int (5 : Int32), .ref 669]) 2 rfl ?_
  refine db_RcdI (mr' := dbm_281) (as := [.ref 669, .int (5 : Int32)]) (rest := []) (pc' := 57) (lv1 := [(0, .ref 669)]) rfl rfl rfl rfl rfl (db_f281_ok) fun q1 s2 => ?_
  exact db_Rret (lv1 := [(0, .ref 669)]) rfl rfl rfl rfl
noncomputable def db_f351_b113 (h90 : db_S → Int32 → Int32 → Int32 → Int32 → Int32 → Option (Int32 × db_S)) (s : db_S) (v2 : Int32) (v3 : Int32) (v4 : Int32) (t0 : Int32) (t1 : Int32) : Option (Int32 × db_S) :=
  (db_bd (db_f350 s) fun q1 s2 => (h90 s2 v2 v3 v4 (t0 + t1) (db_i q1)))
set_option maxRecDepth 100000 in
theorem db_f351_b113_ok {X : db_X} {d : Nat}  {h90 : db_S → Int32 → Int32 → Int32 → Int32 → Int32 → Option (Int32 × db_S)} {s : db_S} {v2 : Int32} {v3 : Int32} {v4 : Int32} {t0 : Int32} {t1 : Int32} (zh90 : ∀ (s' : db_S) (v2 : Int32) (v3 : Int32) (v4 : Int32) (v5 : Int32) (v6 : Int32) , db_Rf X (d + 4) dbm_351 90 [(0, .ref 669), (2, .int v2), (3, .int v3), (4, .int v4), (5, .int v5), (6, .int v6)] [] s' db_zI (h90 s' v2 v3 v4 v5 v6)) : db_Rf X (d + 4) dbm_351 113 [(0, .ref 669), (2, .int v2), (3, .int v3), (4, .int v4)] [.int t1, .int t0] s db_zI (db_f351_b113 h90 s v2 v3 v4 t0 t1) := by
  unfold db_f351_b113
  refine db_Rgo (pc' := 117) (lv' := [(5, .int (t0 + t1)), (0, .ref 669), (2, .int v2), (3, .int v3), (4, .int v4)]) (st' := [.ref 669]) 3 rfl ?_
  refine db_RcdB (mr' := dbm_350) (as := [.ref 669]) (rest := []) (pc' := 120) (lv1 := [(5, .int (t0 + t1)), (0, .ref 669), (2, .int v2), (3, .int v3), (4, .int v4)]) rfl rfl rfl rfl rfl (db_f350_ok) fun q1 s2 => ?_
  refine db_Rgo (pc' := 90) (lv' := [(6, .int (db_i q1)), (5, .int (t0 + t1)), (0, .ref 669), (2, .int v2), (3, .int v3), (4, .int v4)]) (st' := []) 2 rfl ?_
  refine db_Rn (lv1 := [(0, .ref 669), (2, .int v2), (3, .int v3), (4, .int v4), (5, .int (t0 + t1)), (6, .int (db_i q1))]) rfl rfl rfl ?_
  exact zh90 _ _ _ _ _ _
noncomputable def db_f351_b90 : Nat → db_S → Int32 → Int32 → Int32 → Int32 → Int32 → Option (Int32 × db_S)
  | 0, _, _, _, _, _, _ => none
  | n + 1, s, v2, v3, v4, v5, v6 =>
    (cond (db_cnd .eq v6 0) (some (v5, s)) (db_bd (db_f318 s v3 v4) fun q1 s2 => (cond (db_cnd .ne q1 v2) (db_f351_b113 (db_f351_b90 n) s2 v2 v3 v4 v5 (0 : Int32)) (db_f351_b113 (db_f351_b90 n) s2 v2 v3 v4 v5 (1 : Int32)))))
set_option maxRecDepth 100000 in
theorem db_f351_b90_ok {X : db_X} {d : Nat}  (n : Nat) : ∀ (s : db_S) (v2 : Int32) (v3 : Int32) (v4 : Int32) (v5 : Int32) (v6 : Int32), db_Rf X (d + 4) dbm_351 90 [(0, .ref 669), (2, .int v2), (3, .int v3), (4, .int v4), (5, .int v5), (6, .int v6)] [] s db_zI (db_f351_b90 n s v2 v3 v4 v5 v6) := by
  induction n with
  | zero => intros; exact db_Rnone
  | succ n ih =>
    intro s v2 v3 v4 v5 v6
    unfold db_f351_b90
    refine db_Rgo (pc' := 92) (lv' := [(0, .ref 669), (2, .int v2), (3, .int v3), (4, .int v4), (5, .int v5), (6, .int v6)]) (st' := [.int v6]) 1 rfl ?_
    refine db_Rif (pc' := 95) (tg := 125) (lv1 := [(0, .ref 669), (2, .int v2), (3, .int v3), (4, .int v4), (5, .int v5), (6, .int v6)]) rfl rfl rfl rfl ?_ ?_
    · refine db_Rgo (pc' := 127) (lv' := [(5, .int v5)]) (st' := [.int v5]) 1 rfl ?_
      exact db_Rret (lv1 := [(5, .int v5)]) rfl rfl rfl rfl
    refine db_Rgo (pc' := 101) (lv' := [(0, .ref 669), (2, .int v2), (3, .int v3), (4, .int v4), (5, .int v5), (6, .int v6)]) (st' := [.int v4, .int v3, .ref 669, .int v5]) 4 rfl ?_
    refine db_RcdI (mr' := dbm_318) (as := [.ref 669, .int v3, .int v4]) (rest := [.int v5]) (pc' := 104) (lv1 := [(0, .ref 669), (2, .int v2), (3, .int v3), (4, .int v4), (5, .int v5), (6, .int v6)]) rfl rfl rfl rfl rfl (db_f318_ok) fun q1 s2 => ?_
    refine db_Rgo (pc' := 105) (lv' := [(0, .ref 669), (2, .int v2), (3, .int v3), (4, .int v4), (5, .int v5), (6, .int v6)]) (st' := [.int v2, .int q1, .int v5]) 1 rfl ?_
    refine db_Ric (pc' := 108) (tg := 112) (lv1 := [(0, .ref 669), (2, .int v2), (3, .int v3), (4, .int v4), (5, .int v5), (6, .int v6)]) rfl rfl rfl rfl ?_ ?_
    · refine db_Rgo (pc' := 113) (lv' := [(0, .ref 669), (2, .int v2), (3, .int v3), (4, .int v4)]) (st' := [.int (0 : Int32), .int v5]) 1 rfl ?_
      exact db_f351_b113_ok ih
    refine db_Rgo (pc' := 113) (lv' := [(0, .ref 669), (2, .int v2), (3, .int v3), (4, .int v4), (5, .int v5), (6, .int v6)]) (st' := [.int (1 : Int32), .int v5]) 2 rfl ?_
    refine db_Rn (lv1 := [(0, .ref 669), (2, .int v2), (3, .int v3), (4, .int v4)]) rfl rfl rfl ?_
    exact db_f351_b113_ok ih
noncomputable def db_f351_b88 (s : db_S) (v2 : Int32) (v3 : Int32) (v4 : Int32) (v5 : Int32) (t0 : Int32) : Option (Int32 × db_S) :=
  (db_f351_b90 db_FU s v2 v3 v4 v5 t0)
set_option maxRecDepth 100000 in
theorem db_f351_b88_ok {X : db_X} {d : Nat}  {s : db_S} {v2 : Int32} {v3 : Int32} {v4 : Int32} {v5 : Int32} {t0 : Int32} : db_Rf X (d + 4) dbm_351 88 [(0, .ref 669), (2, .int v2), (3, .int v3), (4, .int v4), (5, .int v5)] [.int t0] s db_zI (db_f351_b88 s v2 v3 v4 v5 t0) := by
  unfold db_f351_b88
  refine db_Rgo (pc' := 90) (lv' := [(6, .int t0), (0, .ref 669), (2, .int v2), (3, .int v3), (4, .int v4), (5, .int v5)]) (st' := []) 1 rfl ?_
  refine db_Rn (lv1 := [(0, .ref 669), (2, .int v2), (3, .int v3), (4, .int v4), (5, .int v5), (6, .int t0)]) rfl rfl rfl ?_
  exact db_f351_b90_ok db_FU _ _ _ _ _ _
/-- DreamBookModel.rows(IIII)I -/
noncomputable def db_f351 (s : db_S) (v1 : Int32) (v2 : Int32) (v3 : Int32) (v4 : Int32) : Option (Int32 × db_S) :=
  ((db_pI s 669 1 (0 : Int32)).bind fun s1 => ((db_pI s1 669 0 (0 : Int32)).bind fun s2 => ((db_f315 s2 v3 v4).bind fun q3 => (cond q3 ((db_f269 s2 (Int32.toInt64 v1) (1 : Int64) (4 : Int64)).bind fun q5 => (cond q5 ((db_f269 s2 (Int32.toInt64 v2) (-999 : Int64) (999 : Int64)).bind fun q7 => (cond q7 (db_bd (db_f283 s2) fun q9 s10 => ((db_pI s10 669 30 q9).bind fun s11 => ((db_f348 s11 v1).bind fun s13 => ((db_rI s13 674 (0 : Int32)).bind fun x14 => (cond (db_cnd .le x14 0) (db_f351_b88 s13 v2 v3 v4 (0 : Int32) (0 : Int32)) (db_f351_b88 s13 v2 v3 v4 (0 : Int32) (1 : Int32))))))) (db_f351_b52 s2 ))) (db_f351_b52 s2 ))) (db_bd (db_f281 s2 (2 : Int32)) fun q15 s16 => (some (q15, s16)))))))
set_option maxRecDepth 100000 in
theorem db_f351_ok {X : db_X} {d : Nat} {s : db_S} {v1 : Int32} {v2 : Int32} {v3 : Int32} {v4 : Int32} : db_Rf X (d + 4) dbm_351 0 (lv_args 0 [.ref 669, .int v1, .int v2, .int v3, .int v4]) [] s db_zI (db_f351 s v1 v2 v3 v4) := by
  show db_Rf _ _ _ 0 [(0, .ref 669), (1, .int v1), (2, .int v2), (3, .int v3), (4, .int v4)] [] _ _ _
  unfold db_f351
  refine db_Rgo (pc' := 2) (lv' := [(0, .ref 669), (1, .int v1), (2, .int v2), (3, .int v3), (4, .int v4)]) (st' := [.int (0 : Int32), .ref 669]) 2 rfl ?_
  refine db_RpuI (pc' := 5) (lv1 := [(0, .ref 669), (1, .int v1), (2, .int v2), (3, .int v3), (4, .int v4)]) rfl rfl rfl rfl rfl rfl (by decide) rfl rfl fun s1 => ?_
  refine db_Rgo (pc' := 7) (lv' := [(0, .ref 669), (1, .int v1), (2, .int v2), (3, .int v3), (4, .int v4)]) (st' := [.int (0 : Int32), .ref 669]) 2 rfl ?_
  refine db_RpuI (pc' := 10) (lv1 := [(0, .ref 669), (1, .int v1), (2, .int v2), (3, .int v3), (4, .int v4)]) rfl rfl rfl rfl rfl rfl (by decide) rfl rfl fun s2 => ?_
  refine db_Rgo (pc' := 14) (lv' := [(0, .ref 669), (1, .int v1), (2, .int v2), (3, .int v3), (4, .int v4)]) (st' := [.int v4, .int v3, .ref 669]) 3 rfl ?_
  refine db_RcyB (mr' := dbm_315) (as := [.ref 669, .int v3, .int v4]) (rest := []) (pc' := 17) (lv1 := [(0, .ref 669), (1, .int v1), (2, .int v2), (3, .int v3), (4, .int v4)]) rfl rfl rfl rfl rfl (db_f315_ok) fun q3 => ?_
  refine db_RifBn (pc' := 20) (tg := 26) (lv1 := [(0, .ref 669), (1, .int v1), (2, .int v2), (3, .int v3), (4, .int v4)]) rfl rfl rfl rfl ?_ ?_
  · refine db_Rgo (pc' := 32) (lv' := [(0, .ref 669), (1, .int v1), (2, .int v2), (3, .int v3), (4, .int v4)]) (st' := [.long (4 : Int64), .long (1 : Int64), .long (Int32.toInt64 v1)]) 4 rfl ?_
    refine db_RcyB (mr' := dbm_269) (as := [.long (Int32.toInt64 v1), .long (1 : Int64), .long (4 : Int64)]) (rest := []) (pc' := 35) (lv1 := [(0, .ref 669), (1, .int v1), (2, .int v2), (3, .int v3), (4, .int v4)]) rfl rfl rfl rfl rfl (db_f269_ok) fun q5 => ?_
    refine db_RifBe (pc' := 38) (tg := 52) (lv1 := [(0, .ref 669), (1, .int v1), (2, .int v2), (3, .int v3), (4, .int v4)]) rfl rfl rfl rfl ?_ ?_
    · refine db_Rn (lv1 := [(0, .ref 669)]) rfl rfl rfl ?_
      exact db_f351_b52_ok
    refine db_Rgo (pc' := 46) (lv' := [(0, .ref 669), (1, .int v1), (2, .int v2), (3, .int v3), (4, .int v4)]) (st' := [.long (999 : Int64), .long (-999 : Int64), .long (Int32.toInt64 v2)]) 4 rfl ?_
    refine db_RcyB (mr' := dbm_269) (as := [.long (Int32.toInt64 v2), .long (-999 : Int64), .long (999 : Int64)]) (rest := []) (pc' := 49) (lv1 := [(0, .ref 669), (1, .int v1), (2, .int v2), (3, .int v3), (4, .int v4)]) rfl rfl rfl rfl rfl (db_f269_ok) fun q7 => ?_
    refine db_RifBn (pc' := 52) (tg := 58) (lv1 := [(0, .ref 669), (1, .int v1), (2, .int v2), (3, .int v3), (4, .int v4)]) rfl rfl rfl rfl ?_ ?_
    · refine db_Rgo (pc' := 60) (lv' := [(0, .ref 669), (1, .int v1), (2, .int v2), (3, .int v3), (4, .int v4)]) (st' := [.ref 669, .ref 669]) 2 rfl ?_
      refine db_RcdI (mr' := dbm_283) (as := [.ref 669]) (rest := [.ref 669]) (pc' := 63) (lv1 := [(0, .ref 669), (1, .int v1), (2, .int v2), (3, .int v3), (4, .int v4)]) rfl rfl rfl rfl rfl (db_f283_ok) fun q9 s10 => ?_
      refine db_RpuI (pc' := 66) (lv1 := [(0, .ref 669), (1, .int v1), (2, .int v2), (3, .int v3), (4, .int v4)]) rfl rfl rfl rfl rfl rfl (by decide) rfl rfl fun s11 => ?_
      refine db_Rgo (pc' := 68) (lv' := [(0, .ref 669), (1, .int v1), (2, .int v2), (3, .int v3), (4, .int v4)]) (st' := [.int v1, .ref 669]) 2 rfl ?_
      refine db_RcV (mr' := dbm_348) (as := [.ref 669, .int v1]) (rest := []) (pc' := 71) (lv1 := [(0, .ref 669), (1, .int v1), (2, .int v2), (3, .int v3), (4, .int v4)]) rfl rfl rfl rfl rfl (db_f348_ok) fun s13 => ?_
      refine db_Rgo (pc' := 79) (lv' := [(5, .int (0 : Int32)), (0, .ref 669), (1, .int v1), (2, .int v2), (3, .int v3), (4, .int v4)]) (st' := [.int (0 : Int32), .ref 674]) 5 rfl ?_
      refine db_RldI (pc' := 80) (lv1 := [(5, .int (0 : Int32)), (0, .ref 669), (1, .int v1), (2, .int v2), (3, .int v3), (4, .int v4)]) rfl rfl rfl fun x14 => ?_
      refine db_Rif (pc' := 83) (tg := 87) (lv1 := [(5, .int (0 : Int32)), (0, .ref 669), (1, .int v1), (2, .int v2), (3, .int v3), (4, .int v4)]) rfl rfl rfl rfl ?_ ?_
      · refine db_Rgo (pc' := 88) (lv' := [(0, .ref 669), (2, .int v2), (3, .int v3), (4, .int v4), (5, .int (0 : Int32))]) (st' := [.int (0 : Int32)]) 1 rfl ?_
        exact db_f351_b88_ok
      refine db_Rgo (pc' := 88) (lv' := [(5, .int (0 : Int32)), (0, .ref 669), (1, .int v1), (2, .int v2), (3, .int v3), (4, .int v4)]) (st' := [.int (1 : Int32)]) 2 rfl ?_
      refine db_Rn (lv1 := [(0, .ref 669), (2, .int v2), (3, .int v3), (4, .int v4), (5, .int (0 : Int32))]) rfl rfl rfl ?_
      exact db_f351_b88_ok
    refine db_Rn (lv1 := [(0, .ref 669)]) rfl rfl rfl ?_
    exact db_f351_b52_ok
  refine db_Rgo (pc' := 22) (lv' := [(0, .ref 669), (1, .int v1), (2, .int v2), (3, .int v3), (4, .int v4)]) (st' := [.int (2 : Int32), .ref 669]) 2 rfl ?_
  refine db_RcdI (mr' := dbm_281) (as := [.ref 669, .int (2 : Int32)]) (rest := []) (pc' := 25) (lv1 := [(0, .ref 669), (1, .int v1), (2, .int v2), (3, .int v3), (4, .int v4)]) rfl rfl rfl rfl rfl (db_f281_ok) fun q15 s16 => ?_
  exact db_Rret (lv1 := [(0, .ref 669), (1, .int v1), (2, .int v2), (3, .int v3), (4, .int v4)]) rfl rfl rfl rfl
noncomputable def db_f171_b96 (h7 : db_S → Int32 → Option db_S) (s : db_S) (v1 : Int32) : Option db_S :=
  (h7 s (v1 + (1 : Int32)))
set_option maxRecDepth 100000 in
theorem db_f171_b96_ok {X : db_X} {d : Nat}  {h7 : db_S → Int32 → Option db_S} {s : db_S} {v1 : Int32} (zh7 : ∀ (s' : db_S) (v1 : Int32) , db_Rf X (d + 2) dbm_171 7 [(0, .ref 274), (1, .int v1)] [] s' db_zV (h7 s' v1)) : db_Rf X (d + 2) dbm_171 96 [(0, .ref 274), (1, .int v1)] [] s db_zV (db_f171_b96 h7 s v1) := by
  unfold db_f171_b96
  refine db_Rgo (pc' := 7) (lv' := [(1, .int (v1 + (1 : Int32))), (0, .ref 274)]) (st' := []) 2 rfl ?_
  refine db_Rn (lv1 := [(0, .ref 274), (1, .int (v1 + (1 : Int32)))]) rfl rfl rfl ?_
  exact zh7 _ _
noncomputable def db_f171_b22 (h7 : db_S → Int32 → Option db_S) : Nat → db_S → Int32 → Int32 → Option db_S
  | 0, _, _, _ => none
  | n + 1, s, v1, v2 =>
    ((db_rI s 21 (2 : Int32)).bind fun x1 => (cond (db_cnd .ge v2 x1) (db_f171_b96 h7 s v1) (cond (db_cnd .ge (s.1 274 10) (20 : Int32)) (db_f171_b96 h7 s v1) ((db_f129 s v1 v2).bind fun q2 => ((db_wI s 280 (s.1 274 10) q2).bind fun s4 => ((db_f128 s4 v1 v2).bind fun q5 => ((db_wI s4 281 (s4.1 274 10) q5).bind fun s7 => ((db_pI s7 274 10 ((s7.1 274 10) + (1 : Int32))).bind fun s8 => (db_f171_b22 h7 n s8 v1 (v2 + (1 : Int32)))))))))))
set_option maxRecDepth 100000 in
theorem db_f171_b22_ok {X : db_X} {d : Nat}  {h7 : db_S → Int32 → Option db_S} (zh7 : ∀ (s' : db_S) (v1 : Int32) , db_Rf X (d + 2) dbm_171 7 [(0, .ref 274), (1, .int v1)] [] s' db_zV (h7 s' v1)) (n : Nat) : ∀ (s : db_S) (v1 : Int32) (v2 : Int32), db_Rf X (d + 2) dbm_171 22 [(0, .ref 274), (1, .int v1), (2, .int v2)] [] s db_zV (db_f171_b22 h7 n s v1 v2) := by
  induction n with
  | zero => intros; exact db_Rnone
  | succ n ih =>
    intro s v1 v2
    unfold db_f171_b22
    refine db_Rgo (pc' := 31) (lv' := [(0, .ref 274), (1, .int v1), (2, .int v2)]) (st' := [.int (2 : Int32), .ref 21, .int v2]) 5 rfl ?_
    refine db_RldI (pc' := 32) (lv1 := [(0, .ref 274), (1, .int v1), (2, .int v2)]) rfl rfl rfl fun x1 => ?_
    refine db_Ric (pc' := 35) (tg := 96) (lv1 := [(0, .ref 274), (1, .int v1), (2, .int v2)]) rfl rfl rfl rfl ?_ ?_
    · refine db_Rn (lv1 := [(0, .ref 274), (1, .int v1)]) rfl rfl rfl ?_
      exact db_f171_b96_ok zh7
    refine db_Rgo (pc' := 41) (lv' := [(0, .ref 274), (1, .int v1), (2, .int v2)]) (st' := [.int (20 : Int32), .int (s.1 274 10)]) 3 rfl ?_
    refine db_Ric (pc' := 44) (tg := 96) (lv1 := [(0, .ref 274), (1, .int v1), (2, .int v2)]) rfl rfl rfl rfl ?_ ?_
    · refine db_Rn (lv1 := [(0, .ref 274), (1, .int v1)]) rfl rfl rfl ?_
      exact db_f171_b96_ok zh7
    refine db_Rgo (pc' := 58) (lv' := [(0, .ref 274), (1, .int v1), (2, .int v2)]) (st' := [.int v2, .int v1, .ref 271, .int (s.1 274 10), .ref 280]) 8 rfl ?_
    refine db_RcyI (mr' := dbm_129) (as := [.ref 271, .int v1, .int v2]) (rest := [.int (s.1 274 10), .ref 280]) (pc' := 61) (lv1 := [(0, .ref 274), (1, .int v1), (2, .int v2)]) rfl rfl rfl rfl rfl (db_f129_ok) fun q2 => ?_
    refine db_RstI (pc' := 62) (lv1 := [(0, .ref 274), (1, .int v1), (2, .int v2)]) rfl rfl rfl fun s4 => ?_
    refine db_Rgo (pc' := 76) (lv' := [(0, .ref 274), (1, .int v1), (2, .int v2)]) (st' := [.int v2, .int v1, .ref 271, .int (s4.1 274 10), .ref 281]) 8 rfl ?_
    refine db_RcyI (mr' := dbm_128) (as := [.ref 271, .int v1, .int v2]) (rest := [.int (s4.1 274 10), .ref 281]) (pc' := 79) (lv1 := [(0, .ref 274), (1, .int v1), (2, .int v2)]) rfl rfl rfl rfl rfl (db_f128_ok) fun q5 => ?_
    refine db_RstI (pc' := 80) (lv1 := [(0, .ref 274), (1, .int v1), (2, .int v2)]) rfl rfl rfl fun s7 => ?_
    refine db_Rgo (pc' := 87) (lv' := [(0, .ref 274), (1, .int v1), (2, .int v2)]) (st' := [.int ((s7.1 274 10) + (1 : Int32)), .ref 274]) 5 rfl ?_
    refine db_RpuI (pc' := 90) (lv1 := [(0, .ref 274), (1, .int v1), (2, .int v2)]) rfl rfl rfl rfl rfl rfl (by decide) rfl rfl fun s8 => ?_
    refine db_Rgo (pc' := 22) (lv' := [(2, .int (v2 + (1 : Int32))), (0, .ref 274), (1, .int v1)]) (st' := []) 2 rfl ?_
    refine db_Rn (lv1 := [(0, .ref 274), (1, .int v1), (2, .int (v2 + (1 : Int32)))]) rfl rfl rfl ?_
    exact ih _ _ _
noncomputable def db_f171_b7 : Nat → db_S → Int32 → Option db_S
  | 0, _, _ => none
  | n + 1, s, v1 =>
    ((db_rI s 21 (1 : Int32)).bind fun x1 => (cond (db_cnd .ge v1 x1) (some s) (db_f171_b22 (db_f171_b7 n) db_FU s v1 (-1 : Int32))))
set_option maxRecDepth 100000 in
theorem db_f171_b7_ok {X : db_X} {d : Nat}  (n : Nat) : ∀ (s : db_S) (v1 : Int32), db_Rf X (d + 2) dbm_171 7 [(0, .ref 274), (1, .int v1)] [] s db_zV (db_f171_b7 n s v1) := by
  induction n with
  | zero => intros; exact db_Rnone
  | succ n ih =>
    intro s v1
    unfold db_f171_b7
    refine db_Rgo (pc' := 16) (lv' := [(0, .ref 274), (1, .int v1)]) (st' := [.int (1 : Int32), .ref 21, .int v1]) 5 rfl ?_
    refine db_RldI (pc' := 17) (lv1 := [(0, .ref 274), (1, .int v1)]) rfl rfl rfl fun x1 => ?_
    refine db_Ric (pc' := 20) (tg := 102) (lv1 := [(0, .ref 274), (1, .int v1)]) rfl rfl rfl rfl ?_ ?_
    · exact db_Rret (lv1 := []) rfl rfl rfl rfl
    refine db_Rgo (pc' := 22) (lv' := [(2, .int (-1 : Int32)), (0, .ref 274), (1, .int v1)]) (st' := []) 2 rfl ?_
    refine db_Rn (lv1 := [(0, .ref 274), (1, .int v1), (2, .int (-1 : Int32))]) rfl rfl rfl ?_
    exact db_f171_b22_ok ih db_FU _ _ _
/-- DreamBook$Finder.gatherHearers()V -/
noncomputable def db_f171 (s : db_S) : Option db_S :=
  ((db_pI s 274 10 (0 : Int32)).bind fun s1 => (db_f171_b7 db_FU s1 (-1 : Int32)))
set_option maxRecDepth 100000 in
theorem db_f171_ok {X : db_X} {d : Nat} {s : db_S} : db_Rf X (d + 2) dbm_171 0 (lv_args 0 [.ref 274]) [] s db_zV (db_f171 s ) := by
  show db_Rf _ _ _ 0 [(0, .ref 274)] [] _ _ _
  unfold db_f171
  refine db_Rgo (pc' := 2) (lv' := [(0, .ref 274)]) (st' := [.int (0 : Int32), .ref 274]) 2 rfl ?_
  refine db_RpuI (pc' := 5) (lv1 := [(0, .ref 274)]) rfl rfl rfl rfl rfl rfl (by decide) rfl rfl fun s1 => ?_
  refine db_Rgo (pc' := 7) (lv' := [(1, .int (-1 : Int32)), (0, .ref 274)]) (st' := []) 2 rfl ?_
  refine db_Rn (lv1 := [(0, .ref 274), (1, .int (-1 : Int32))]) rfl rfl rfl ?_
  exact db_f171_b7_ok db_FU _ _
noncomputable def db_f172_b2 : Nat → db_S → Int32 → Int32 → Option (Bool × db_S)
  | 0, _, _, _ => none
  | n + 1, s, v1, v2 =>
    (cond (db_cnd .ge v2 (s.1 274 10)) (some (true, s)) ((db_rI s 281 v2).bind fun x1 => ((db_rI s 280 v2).bind fun x2 => (db_bd (db_f130 s 279 v1 x2) fun q3 s4 => (cond (db_cnd .gt (x1 * q3) 0) (db_f172_b2 n s4 v1 (v2 + (1 : Int32))) (some (false, s4)))))))
set_option maxRecDepth 100000 in
theorem db_f172_b2_ok {X : db_X} {d : Nat}  (n : Nat) : ∀ (s : db_S) (v1 : Int32) (v2 : Int32), db_Rf X (d + 2) dbm_172 2 [(0, .ref 274), (1, .int v1), (2, .int v2)] [] s db_zB (db_f172_b2 n s v1 v2) := by
  induction n with
  | zero => intros; exact db_Rnone
  | succ n ih =>
    intro s v1 v2
    unfold db_f172_b2
    refine db_Rgo (pc' := 7) (lv' := [(0, .ref 274), (1, .int v1), (2, .int v2)]) (st' := [.int (s.1 274 10), .int v2]) 3 rfl ?_
    refine db_Ric (pc' := 10) (tg := 46) (lv1 := [(0, .ref 274), (1, .int v1), (2, .int v2)]) rfl rfl rfl rfl ?_ ?_
    · refine db_Rgo (pc' := 47) (lv' := []) (st' := [.int (1 : Int32)]) 1 rfl ?_
      exact db_Rret (lv1 := []) rfl rfl rfl rfl
    refine db_Rgo (pc' := 15) (lv' := [(0, .ref 274), (1, .int v1), (2, .int v2)]) (st' := [.int v2, .ref 281]) 3 rfl ?_
    refine db_RldI (pc' := 16) (lv1 := [(0, .ref 274), (1, .int v1), (2, .int v2)]) rfl rfl rfl fun x1 => ?_
    refine db_Rgo (pc' := 30) (lv' := [(0, .ref 274), (1, .int v1), (2, .int v2)]) (st' := [.int v2, .ref 280, .int v1, .ref 279, .ref 271, .int x1]) 8 rfl ?_
    refine db_RldI (pc' := 31) (lv1 := [(0, .ref 274), (1, .int v1), (2, .int v2)]) rfl rfl rfl fun x2 => ?_
    refine db_RcdI (mr' := dbm_130) (as := [.ref 271, .ref 279, .int v1, .int x2]) (rest := [.int x1]) (pc' := 34) (lv1 := [(0, .ref 274), (1, .int v1), (2, .int v2)]) rfl rfl rfl rfl rfl (db_f130_ok) fun q3 s4 => ?_
    refine db_Rgo (pc' := 35) (lv' := [(0, .ref 274), (1, .int v1), (2, .int v2)]) (st' := [.int (x1 * q3)]) 1 rfl ?_
    refine db_Rif (pc' := 38) (tg := 40) (lv1 := [(0, .ref 274), (1, .int v1), (2, .int v2)]) rfl rfl rfl rfl ?_ ?_
    · refine db_Rgo (pc' := 2) (lv' := [(2, .int (v2 + (1 : Int32))), (0, .ref 274), (1, .int v1)]) (st' := []) 2 rfl ?_
      refine db_Rn (lv1 := [(0, .ref 274), (1, .int v1), (2, .int (v2 + (1 : Int32)))]) rfl rfl rfl ?_
      exact ih _ _ _
    refine db_Rgo (pc' := 39) (lv' := [(0, .ref 274), (1, .int v1), (2, .int v2)]) (st' := [.int (0 : Int32)]) 1 rfl ?_
    exact db_Rret (lv1 := [(0, .ref 274), (1, .int v1), (2, .int v2)]) rfl rfl rfl rfl
/-- DreamBook$Finder.isLuckyRow(I)Z -/
noncomputable def db_f172 (s : db_S) (v1 : Int32) : Option (Bool × db_S) :=
  (db_f172_b2 db_FU s v1 (0 : Int32))
set_option maxRecDepth 100000 in
theorem db_f172_ok {X : db_X} {d : Nat} {s : db_S} {v1 : Int32} : db_Rf X (d + 2) dbm_172 0 (lv_args 0 [.ref 274, .int v1]) [] s db_zB (db_f172 s v1) := by
  show db_Rf _ _ _ 0 [(0, .ref 274), (1, .int v1)] [] _ _ _
  unfold db_f172
  refine db_Rgo (pc' := 2) (lv' := [(2, .int (0 : Int32)), (0, .ref 274), (1, .int v1)]) (st' := []) 2 rfl ?_
  refine db_Rn (lv1 := [(0, .ref 274), (1, .int v1), (2, .int (0 : Int32))]) rfl rfl rfl ?_
  exact db_f172_b2_ok db_FU _ _ _
noncomputable def db_f170_b19 (h6 : db_S → Int32 → Option (Int32 × db_S)) : Nat → db_S → Int32 → Int32 → Int32 → Option (Int32 × db_S)
  | 0, _, _, _, _ => none
  | n + 1, s, v1, v2, v3 =>
    (cond (db_cnd .ge v3 v2) (h6 s (v1 + (1 : Int32))) (db_bd (db_f172 s v1) fun q1 s2 => (cond q1 (db_bd (db_f165 s2 v1) fun q5 s6 => (some (q5, s6))) ((db_f166 s2 v1).bind fun s4 => (db_f170_b19 h6 n s4 v1 v2 (v3 + (1 : Int32)))))))
set_option maxRecDepth 100000 in
theorem db_f170_b19_ok {X : db_X} {d : Nat}  {h6 : db_S → Int32 → Option (Int32 × db_S)} (zh6 : ∀ (s' : db_S) (v1 : Int32) , db_Rf X (d + 3) dbm_170 6 [(0, .ref 274), (1, .int v1)] [] s' db_zI (h6 s' v1)) (n : Nat) : ∀ (s : db_S) (v1 : Int32) (v2 : Int32) (v3 : Int32), db_Rf X (d + 3) dbm_170 19 [(0, .ref 274), (1, .int v1), (2, .int v2), (3, .int v3)] [] s db_zI (db_f170_b19 h6 n s v1 v2 v3) := by
  induction n with
  | zero => intros; exact db_Rnone
  | succ n ih =>
    intro s v1 v2 v3
    unfold db_f170_b19
    refine db_Rgo (pc' := 21) (lv' := [(0, .ref 274), (1, .int v1), (2, .int v2), (3, .int v3)]) (st' := [.int v2, .int v3]) 2 rfl ?_
    refine db_Ric (pc' := 24) (tg := 49) (lv1 := [(0, .ref 274), (1, .int v1), (2, .int v2), (3, .int v3)]) rfl rfl rfl rfl ?_ ?_
    · refine db_Rgo (pc' := 6) (lv' := [(1, .int (v1 + (1 : Int32))), (0, .ref 274)]) (st' := []) 2 rfl ?_
      refine db_Rn (lv1 := [(0, .ref 274), (1, .int (v1 + (1 : Int32)))]) rfl rfl rfl ?_
      exact zh6 _ _
    refine db_Rgo (pc' := 26) (lv' := [(0, .ref 274), (1, .int v1), (2, .int v2), (3, .int v3)]) (st' := [.int v1, .ref 274]) 2 rfl ?_
    refine db_RcdB (mr' := dbm_172) (as := [.ref 274, .int v1]) (rest := []) (pc' := 29) (lv1 := [(0, .ref 274), (1, .int v1), (2, .int v2), (3, .int v3)]) rfl rfl rfl rfl rfl (db_f172_ok) fun q1 s2 => ?_
    refine db_RifBe (pc' := 32) (tg := 38) (lv1 := [(0, .ref 274), (1, .int v1), (2, .int v2), (3, .int v3)]) rfl rfl rfl rfl ?_ ?_
    · refine db_Rgo (pc' := 40) (lv' := [(0, .ref 274), (1, .int v1), (2, .int v2), (3, .int v3)]) (st' := [.int v1, .ref 274]) 2 rfl ?_
      refine db_RcV (mr' := dbm_166) (as := [.ref 274, .int v1]) (rest := []) (pc' := 43) (lv1 := [(0, .ref 274), (1, .int v1), (2, .int v2), (3, .int v3)]) rfl rfl rfl rfl rfl (db_f166_ok) fun s4 => ?_
      refine db_Rgo (pc' := 19) (lv' := [(3, .int (v3 + (1 : Int32))), (0, .ref 274), (1, .int v1), (2, .int v2)]) (st' := []) 2 rfl ?_
      refine db_Rn (lv1 := [(0, .ref 274), (1, .int v1), (2, .int v2), (3, .int (v3 + (1 : Int32)))]) rfl rfl rfl ?_
      exact ih _ _ _ _
    refine db_Rgo (pc' := 34) (lv' := [(0, .ref 274), (1, .int v1), (2, .int v2), (3, .int v3)]) (st' := [.int v1, .ref 274]) 2 rfl ?_
    refine db_RcdI (mr' := dbm_165) (as := [.ref 274, .int v1]) (rest := []) (pc' := 37) (lv1 := [(0, .ref 274), (1, .int v1), (2, .int v2), (3, .int v3)]) rfl rfl rfl rfl rfl (db_f165_ok) fun q5 s6 => ?_
    exact db_Rret (lv1 := [(0, .ref 274), (1, .int v1), (2, .int v2), (3, .int v3)]) rfl rfl rfl rfl
noncomputable def db_f170_b6 : Nat → db_S → Int32 → Option (Int32 × db_S)
  | 0, _, _ => none
  | n + 1, s, v1 =>
    (cond (db_cnd .gt v1 (3 : Int32)) (some ((-1 : Int32), s)) (db_bd (db_f164 s v1) fun q1 s2 => (db_f170_b19 (db_f170_b6 n) db_FU s2 v1 q1 (0 : Int32))))
set_option maxRecDepth 100000 in
theorem db_f170_b6_ok {X : db_X} {d : Nat}  (n : Nat) : ∀ (s : db_S) (v1 : Int32), db_Rf X (d + 3) dbm_170 6 [(0, .ref 274), (1, .int v1)] [] s db_zI (db_f170_b6 n s v1) := by
  induction n with
  | zero => intros; exact db_Rnone
  | succ n ih =>
    intro s v1
    unfold db_f170_b6
    refine db_Rgo (pc' := 8) (lv' := [(0, .ref 274), (1, .int v1)]) (st' := [.int (3 : Int32), .int v1]) 2 rfl ?_
    refine db_Ric (pc' := 11) (tg := 55) (lv1 := [(0, .ref 274), (1, .int v1)]) rfl rfl rfl rfl ?_ ?_
    · refine db_Rgo (pc' := 56) (lv' := []) (st' := [.int (-1 : Int32)]) 1 rfl ?_
      exact db_Rret (lv1 := []) rfl rfl rfl rfl
    refine db_Rgo (pc' := 13) (lv' := [(0, .ref 274), (1, .int v1)]) (st' := [.int v1, .ref 274]) 2 rfl ?_
    refine db_RcdI (mr' := dbm_164) (as := [.ref 274, .int v1]) (rest := []) (pc' := 16) (lv1 := [(0, .ref 274), (1, .int v1)]) rfl rfl rfl rfl rfl (db_f164_ok) fun q1 s2 => ?_
    refine db_Rgo (pc' := 19) (lv' := [(3, .int (0 : Int32)), (2, .int q1), (0, .ref 274), (1, .int v1)]) (st' := []) 3 rfl ?_
    refine db_Rn (lv1 := [(0, .ref 274), (1, .int v1), (2, .int q1), (3, .int (0 : Int32))]) rfl rfl rfl ?_
    exact db_f170_b19_ok ih db_FU _ _ _ _
/-- DreamBook$Finder.findLucky()I -/
noncomputable def db_f170 (s : db_S) : Option (Int32 × db_S) :=
  ((db_f171 s).bind fun s2 => (db_f170_b6 db_FU s2 (1 : Int32)))
set_option maxRecDepth 100000 in
theorem db_f170_ok {X : db_X} {d : Nat} {s : db_S} : db_Rf X (d + 3) dbm_170 0 (lv_args 0 [.ref 274]) [] s db_zI (db_f170 s ) := by
  show db_Rf _ _ _ 0 [(0, .ref 274)] [] _ _ _
  unfold db_f170
  refine db_Rgo (pc' := 1) (lv' := [(0, .ref 274)]) (st' := [.ref 274]) 1 rfl ?_
  refine db_RcV (mr' := dbm_171) (as := [.ref 274]) (rest := []) (pc' := 4) (lv1 := [(0, .ref 274)]) rfl rfl rfl rfl rfl (db_f171_ok) fun s2 => ?_
  refine db_Rgo (pc' := 6) (lv' := [(1, .int (1 : Int32)), (0, .ref 274)]) (st' := []) 2 rfl ?_
  refine db_Rn (lv1 := [(0, .ref 274), (1, .int (1 : Int32))]) rfl rfl rfl ?_
  exact db_f170_b6_ok db_FU _ _
/-- DreamBook.lucky()I -/
noncomputable def db_f169 (s : db_S) : Option (Int32 × db_S) :=
  (db_bd (db_f170 s) fun q1 s2 => (cond (db_cnd .ne q1 (-1 : Int32)) (db_bd (db_f87 s2 q1) fun q3 s4 => (some (q3, s4))) (db_bd (db_f37 s2 (8 : Int32)) fun q5 s6 => (some (q5, s6)))))
set_option maxRecDepth 100000 in
theorem db_f169_ok {X : db_X} {d : Nat} {s : db_S} : db_Rf X (d + 4) dbm_169 0 (lv_args 0 [.ref 4]) [] s db_zI (db_f169 s ) := by
  show db_Rf _ _ _ 0 [(0, .ref 4)] [] _ _ _
  unfold db_f169
  refine db_Rgo (pc' := 4) (lv' := [(0, .ref 4)]) (st' := [.ref 274]) 2 rfl ?_
  refine db_RcdI (mr' := dbm_170) (as := [.ref 274]) (rest := []) (pc' := 7) (lv1 := [(0, .ref 4)]) rfl rfl rfl rfl rfl (db_f170_ok) fun q1 s2 => ?_
  refine db_Rgo (pc' := 10) (lv' := [(1, .int q1), (0, .ref 4)]) (st' := [.int (-1 : Int32), .int q1]) 3 rfl ?_
  refine db_Ric (pc' := 13) (tg := 22) (lv1 := [(1, .int q1), (0, .ref 4)]) rfl rfl rfl rfl ?_ ?_
  · refine db_Rgo (pc' := 24) (lv' := [(0, .ref 4), (1, .int q1)]) (st' := [.int q1, .ref 4]) 2 rfl ?_
    refine db_RcdI (mr' := dbm_87) (as := [.ref 4, .int q1]) (rest := []) (pc' := 27) (lv1 := [(0, .ref 4), (1, .int q1)]) rfl rfl rfl rfl rfl (db_f87_ok) fun q3 s4 => ?_
    exact db_Rret (lv1 := []) rfl rfl rfl rfl
  refine db_Rgo (pc' := 16) (lv' := [(1, .int q1), (0, .ref 4)]) (st' := [.int (8 : Int32), .ref 4]) 2 rfl ?_
  refine db_RcdI (mr' := dbm_37) (as := [.ref 4, .int (8 : Int32)]) (rest := []) (pc' := 19) (lv1 := [(1, .int q1), (0, .ref 4)]) rfl rfl rfl rfl rfl (db_f37_ok) fun q5 s6 => ?_
  refine db_Rgo (pc' := 27) (lv' := [(1, .int q1), (0, .ref 4)]) (st' := [.int q5]) 1 rfl ?_
  exact db_Rret (lv1 := []) rfl rfl rfl rfl
noncomputable def db_f353_b14 (h2 : db_S → Int32 → Option (Bool × db_S)) : Nat → db_S → Int32 → Int32 → Option (Bool × db_S)
  | 0, _, _, _ => none
  | n + 1, s, v1, v2 =>
    ((db_rI s 674 (2 : Int32)).bind fun x1 => (cond (db_cnd .ge v2 x1) (h2 s (v1 + (1 : Int32))) (db_bd (db_f318 s v1 v2) fun q2 s3 => (cond (db_cnd .gt q2 0) (db_f353_b14 h2 n s3 v1 (v2 + (1 : Int32))) (some (false, s3))))))
set_option maxRecDepth 100000 in
theorem db_f353_b14_ok {X : db_X} {d : Nat}  {h2 : db_S → Int32 → Option (Bool × db_S)} (zh2 : ∀ (s' : db_S) (v1 : Int32) , db_Rf X (d + 3) dbm_353 2 [(0, .ref 669), (1, .int v1)] [] s' db_zB (h2 s' v1)) (n : Nat) : ∀ (s : db_S) (v1 : Int32) (v2 : Int32), db_Rf X (d + 3) dbm_353 14 [(0, .ref 669), (1, .int v1), (2, .int v2)] [] s db_zB (db_f353_b14 h2 n s v1 v2) := by
  induction n with
  | zero => intros; exact db_Rnone
  | succ n ih =>
    intro s v1 v2
    unfold db_f353_b14
    refine db_Rgo (pc' := 20) (lv' := [(0, .ref 669), (1, .int v1), (2, .int v2)]) (st' := [.int (2 : Int32), .ref 674, .int v2]) 4 rfl ?_
    refine db_RldI (pc' := 21) (lv1 := [(0, .ref 669), (1, .int v1), (2, .int v2)]) rfl rfl rfl fun x1 => ?_
    refine db_Ric (pc' := 24) (tg := 41) (lv1 := [(0, .ref 669), (1, .int v1), (2, .int v2)]) rfl rfl rfl rfl ?_ ?_
    · refine db_Rgo (pc' := 2) (lv' := [(1, .int (v1 + (1 : Int32))), (0, .ref 669)]) (st' := []) 2 rfl ?_
      refine db_Rn (lv1 := [(0, .ref 669), (1, .int (v1 + (1 : Int32)))]) rfl rfl rfl ?_
      exact zh2 _ _
    refine db_Rgo (pc' := 27) (lv' := [(0, .ref 669), (1, .int v1), (2, .int v2)]) (st' := [.int v2, .int v1, .ref 669]) 3 rfl ?_
    refine db_RcdI (mr' := dbm_318) (as := [.ref 669, .int v1, .int v2]) (rest := []) (pc' := 30) (lv1 := [(0, .ref 669), (1, .int v1), (2, .int v2)]) rfl rfl rfl rfl rfl (db_f318_ok) fun q2 s3 => ?_
    refine db_Rif (pc' := 33) (tg := 35) (lv1 := [(0, .ref 669), (1, .int v1), (2, .int v2)]) rfl rfl rfl rfl ?_ ?_
    · refine db_Rgo (pc' := 14) (lv' := [(2, .int (v2 + (1 : Int32))), (0, .ref 669), (1, .int v1)]) (st' := []) 2 rfl ?_
      refine db_Rn (lv1 := [(0, .ref 669), (1, .int v1), (2, .int (v2 + (1 : Int32)))]) rfl rfl rfl ?_
      exact ih _ _ _
    refine db_Rgo (pc' := 34) (lv' := [(0, .ref 669), (1, .int v1), (2, .int v2)]) (st' := [.int (0 : Int32)]) 1 rfl ?_
    exact db_Rret (lv1 := [(0, .ref 669), (1, .int v1), (2, .int v2)]) rfl rfl rfl rfl
noncomputable def db_f353_b2 : Nat → db_S → Int32 → Option (Bool × db_S)
  | 0, _, _ => none
  | n + 1, s, v1 =>
    ((db_rI s 674 (1 : Int32)).bind fun x1 => (cond (db_cnd .ge v1 x1) (some (true, s)) (db_f353_b14 (db_f353_b2 n) db_FU s v1 (-1 : Int32))))
set_option maxRecDepth 100000 in
theorem db_f353_b2_ok {X : db_X} {d : Nat}  (n : Nat) : ∀ (s : db_S) (v1 : Int32), db_Rf X (d + 3) dbm_353 2 [(0, .ref 669), (1, .int v1)] [] s db_zB (db_f353_b2 n s v1) := by
  induction n with
  | zero => intros; exact db_Rnone
  | succ n ih =>
    intro s v1
    unfold db_f353_b2
    refine db_Rgo (pc' := 8) (lv' := [(0, .ref 669), (1, .int v1)]) (st' := [.int (1 : Int32), .ref 674, .int v1]) 4 rfl ?_
    refine db_RldI (pc' := 9) (lv1 := [(0, .ref 669), (1, .int v1)]) rfl rfl rfl fun x1 => ?_
    refine db_Ric (pc' := 12) (tg := 47) (lv1 := [(0, .ref 669), (1, .int v1)]) rfl rfl rfl rfl ?_ ?_
    · refine db_Rgo (pc' := 48) (lv' := []) (st' := [.int (1 : Int32)]) 1 rfl ?_
      exact db_Rret (lv1 := []) rfl rfl rfl rfl
    refine db_Rgo (pc' := 14) (lv' := [(2, .int (-1 : Int32)), (0, .ref 669), (1, .int v1)]) (st' := []) 2 rfl ?_
    refine db_Rn (lv1 := [(0, .ref 669), (1, .int v1), (2, .int (-1 : Int32))]) rfl rfl rfl ?_
    exact db_f353_b14_ok ih db_FU _ _ _
/-- DreamBookModel.isLucky()Z -/
noncomputable def db_f353 (s : db_S) : Option (Bool × db_S) :=
  (db_f353_b2 db_FU s (-1 : Int32))
set_option maxRecDepth 100000 in
theorem db_f353_ok {X : db_X} {d : Nat} {s : db_S} : db_Rf X (d + 3) dbm_353 0 (lv_args 0 [.ref 669]) [] s db_zB (db_f353 s ) := by
  show db_Rf _ _ _ 0 [(0, .ref 669)] [] _ _ _
  unfold db_f353
  refine db_Rgo (pc' := 2) (lv' := [(1, .int (-1 : Int32)), (0, .ref 669)]) (st' := []) 2 rfl ?_
  refine db_Rn (lv1 := [(0, .ref 669), (1, .int (-1 : Int32))]) rfl rfl rfl ?_
  exact db_f353_b2_ok db_FU _ _
noncomputable def db_f352_b41 (h20 : db_S → Int32 → Option (Int32 × db_S)) : Nat → db_S → Int32 → Int32 → Option (Int32 × db_S)
  | 0, _, _, _ => none
  | n + 1, s, v1, v2 =>
    (cond (db_cnd .eq v2 0) (h20 s (v1 + (1 : Int32))) (db_bd (db_f353 s) fun q1 s2 => (cond q1 (db_bd (db_f349 s2) fun q5 s6 => (some (q5, s6))) (db_bd (db_f350 s2) fun q3 s4 => (db_f352_b41 h20 n s4 v1 (db_i q3))))))
set_option maxRecDepth 100000 in
theorem db_f352_b41_ok {X : db_X} {d : Nat}  {h20 : db_S → Int32 → Option (Int32 × db_S)} (zh20 : ∀ (s' : db_S) (v1 : Int32) , db_Rf X (d + 4) dbm_352 20 [(0, .ref 669), (1, .int v1)] [] s' db_zI (h20 s' v1)) (n : Nat) : ∀ (s : db_S) (v1 : Int32) (v2 : Int32), db_Rf X (d + 4) dbm_352 41 [(0, .ref 669), (1, .int v1), (2, .int v2)] [] s db_zI (db_f352_b41 h20 n s v1 v2) := by
  induction n with
  | zero => intros; exact db_Rnone
  | succ n ih =>
    intro s v1 v2
    unfold db_f352_b41
    refine db_Rgo (pc' := 42) (lv' := [(0, .ref 669), (1, .int v1), (2, .int v2)]) (st' := [.int v2]) 1 rfl ?_
    refine db_Rif (pc' := 45) (tg := 65) (lv1 := [(0, .ref 669), (1, .int v1), (2, .int v2)]) rfl rfl rfl rfl ?_ ?_
    · refine db_Rgo (pc' := 20) (lv' := [(1, .int (v1 + (1 : Int32))), (0, .ref 669)]) (st' := []) 2 rfl ?_
      refine db_Rn (lv1 := [(0, .ref 669), (1, .int (v1 + (1 : Int32)))]) rfl rfl rfl ?_
      exact zh20 _ _
    refine db_Rgo (pc' := 46) (lv' := [(0, .ref 669), (1, .int v1), (2, .int v2)]) (st' := [.ref 669]) 1 rfl ?_
    refine db_RcdB (mr' := dbm_353) (as := [.ref 669]) (rest := []) (pc' := 49) (lv1 := [(0, .ref 669), (1, .int v1), (2, .int v2)]) rfl rfl rfl rfl rfl (db_f353_ok) fun q1 s2 => ?_
    refine db_RifBe (pc' := 52) (tg := 57) (lv1 := [(0, .ref 669), (1, .int v1), (2, .int v2)]) rfl rfl rfl rfl ?_ ?_
    · refine db_Rgo (pc' := 58) (lv' := [(0, .ref 669), (1, .int v1)]) (st' := [.ref 669]) 1 rfl ?_
      refine db_RcdB (mr' := dbm_350) (as := [.ref 669]) (rest := []) (pc' := 61) (lv1 := [(0, .ref 669), (1, .int v1)]) rfl rfl rfl rfl rfl (db_f350_ok) fun q3 s4 => ?_
      refine db_Rgo (pc' := 41) (lv' := [(2, .int (db_i q3)), (0, .ref 669), (1, .int v1)]) (st' := []) 2 rfl ?_
      refine db_Rn (lv1 := [(0, .ref 669), (1, .int v1), (2, .int (db_i q3))]) rfl rfl rfl ?_
      exact ih _ _ _
    refine db_Rgo (pc' := 53) (lv' := [(0, .ref 669), (1, .int v1), (2, .int v2)]) (st' := [.ref 669]) 1 rfl ?_
    refine db_RcdI (mr' := dbm_349) (as := [.ref 669]) (rest := []) (pc' := 56) (lv1 := [(0, .ref 669), (1, .int v1), (2, .int v2)]) rfl rfl rfl rfl rfl (db_f349_ok) fun q5 s6 => ?_
    exact db_Rret (lv1 := [(0, .ref 669), (1, .int v1), (2, .int v2)]) rfl rfl rfl rfl
noncomputable def db_f352_b71 (s : db_S) : Option (Int32 × db_S) :=
  (db_bd (db_f281 s (8 : Int32)) fun q1 s2 => (some (q1, s2)))
set_option maxRecDepth 100000 in
theorem db_f352_b71_ok {X : db_X} {d : Nat}  {s : db_S} : db_Rf X (d + 4) dbm_352 71 [(0, .ref 669)] [] s db_zI (db_f352_b71 s ) := by
  unfold db_f352_b71
  refine db_Rgo (pc' := 74) (lv' := [(0, .ref 669)]) (st' := [.int (8 : Int32), .ref 669]) 2 rfl ?_
  refine db_RcdI (mr' := dbm_281) (as := [.ref 669, .int (8 : Int32)]) (rest := []) (pc' := 77) (lv1 := [(0, .ref 669)]) rfl rfl rfl rfl rfl (db_f281_ok) fun q1 s2 => ?_
  exact db_Rret (lv1 := [(0, .ref 669)]) rfl rfl rfl rfl
noncomputable def db_f352_b20 : Nat → db_S → Int32 → Option (Int32 × db_S)
  | 0, _, _ => none
  | n + 1, s, v1 =>
    (cond (db_cnd .ge v1 (4 : Int32)) (db_f352_b71 s ) ((db_rI s 674 (0 : Int32)).bind fun x1 => (cond (db_cnd .le x1 0) (db_f352_b71 s ) ((db_f348 s v1).bind fun s3 => (db_f352_b41 (db_f352_b20 n) db_FU s3 v1 (1 : Int32))))))
set_option maxRecDepth 100000 in
theorem db_f352_b20_ok {X : db_X} {d : Nat}  (n : Nat) : ∀ (s : db_S) (v1 : Int32), db_Rf X (d + 4) dbm_352 20 [(0, .ref 669), (1, .int v1)] [] s db_zI (db_f352_b20 n s v1) := by
  induction n with
  | zero => intros; exact db_Rnone
  | succ n ih =>
    intro s v1
    unfold db_f352_b20
    refine db_Rgo (pc' := 22) (lv' := [(0, .ref 669), (1, .int v1)]) (st' := [.int (4 : Int32), .int v1]) 2 rfl ?_
    refine db_Ric (pc' := 25) (tg := 71) (lv1 := [(0, .ref 669), (1, .int v1)]) rfl rfl rfl rfl ?_ ?_
    · refine db_Rn (lv1 := [(0, .ref 669)]) rfl rfl rfl ?_
      exact db_f352_b71_ok
    refine db_Rgo (pc' := 30) (lv' := [(0, .ref 669), (1, .int v1)]) (st' := [.int (0 : Int32), .ref 674]) 3 rfl ?_
    refine db_RldI (pc' := 31) (lv1 := [(0, .ref 669), (1, .int v1)]) rfl rfl rfl fun x1 => ?_
    refine db_Rif (pc' := 34) (tg := 71) (lv1 := [(0, .ref 669), (1, .int v1)]) rfl rfl rfl rfl ?_ ?_
    · refine db_Rn (lv1 := [(0, .ref 669)]) rfl rfl rfl ?_
      exact db_f352_b71_ok
    refine db_Rgo (pc' := 36) (lv' := [(0, .ref 669), (1, .int v1)]) (st' := [.int v1, .ref 669]) 2 rfl ?_
    refine db_RcV (mr' := dbm_348) (as := [.ref 669, .int v1]) (rest := []) (pc' := 39) (lv1 := [(0, .ref 669), (1, .int v1)]) rfl rfl rfl rfl rfl (db_f348_ok) fun s3 => ?_
    refine db_Rgo (pc' := 41) (lv' := [(2, .int (1 : Int32)), (0, .ref 669), (1, .int v1)]) (st' := []) 2 rfl ?_
    refine db_Rn (lv1 := [(0, .ref 669), (1, .int v1), (2, .int (1 : Int32))]) rfl rfl rfl ?_
    exact db_f352_b41_ok ih db_FU _ _ _
/-- DreamBookModel.lucky()I -/
noncomputable def db_f352 (s : db_S) : Option (Int32 × db_S) :=
  ((db_pI s 669 1 (0 : Int32)).bind fun s1 => ((db_pI s1 669 0 (0 : Int32)).bind fun s2 => (db_bd (db_f283 s2) fun q3 s4 => ((db_pI s4 669 30 q3).bind fun s5 => (db_f352_b20 db_FU s5 (1 : Int32))))))
set_option maxRecDepth 100000 in
theorem db_f352_ok {X : db_X} {d : Nat} {s : db_S} : db_Rf X (d + 4) dbm_352 0 (lv_args 0 [.ref 669]) [] s db_zI (db_f352 s ) := by
  show db_Rf _ _ _ 0 [(0, .ref 669)] [] _ _ _
  unfold db_f352
  refine db_Rgo (pc' := 2) (lv' := [(0, .ref 669)]) (st' := [.int (0 : Int32), .ref 669]) 2 rfl ?_
  refine db_RpuI (pc' := 5) (lv1 := [(0, .ref 669)]) rfl rfl rfl rfl rfl rfl (by decide) rfl rfl fun s1 => ?_
  refine db_Rgo (pc' := 7) (lv' := [(0, .ref 669)]) (st' := [.int (0 : Int32), .ref 669]) 2 rfl ?_
  refine db_RpuI (pc' := 10) (lv1 := [(0, .ref 669)]) rfl rfl rfl rfl rfl rfl (by decide) rfl rfl fun s2 => ?_
  refine db_Rgo (pc' := 12) (lv' := [(0, .ref 669)]) (st' := [.ref 669, .ref 669]) 2 rfl ?_
  refine db_RcdI (mr' := dbm_283) (as := [.ref 669]) (rest := [.ref 669]) (pc' := 15) (lv1 := [(0, .ref 669)]) rfl rfl rfl rfl rfl (db_f283_ok) fun q3 s4 => ?_
  refine db_RpuI (pc' := 18) (lv1 := [(0, .ref 669)]) rfl rfl rfl rfl rfl rfl (by decide) rfl rfl fun s5 => ?_
  refine db_Rgo (pc' := 20) (lv' := [(1, .int (1 : Int32)), (0, .ref 669)]) (st' := []) 2 rfl ?_
  refine db_Rn (lv1 := [(0, .ref 669), (1, .int (1 : Int32))]) rfl rfl rfl ?_
  exact db_f352_b20_ok db_FU _ _
/-- DreamBook$Life.copyFrom(LDreamBook$Life;)V -/
noncomputable def db_f175_276_80 (s : db_S) : Option db_S :=
  ((db_f83 s 81 277).bind fun s2 => ((db_f83 s2 82 278).bind fun s4 => ((db_pI s4 276 2 (s4.1 80 2)).bind fun s5 => ((db_pI s5 276 3 (s5.1 80 3)).bind fun s6 => (some s6)))))
set_option maxRecDepth 100000 in
theorem db_f175_276_80_ok {X : db_X} {d : Nat} {s : db_S} : db_Rf X (d + 1) dbm_175 0 (lv_args 0 [.ref 276, .ref 80]) [] s db_zV (db_f175_276_80 s ) := by
  show db_Rf _ _ _ 0 [(0, .ref 276), (1, .ref 80)] [] _ _ _
  unfold db_f175_276_80
  refine db_Rgo (pc' := 8) (lv' := [(0, .ref 276), (1, .ref 80)]) (st' := [.ref 277, .ref 81]) 4 rfl ?_
  refine db_RcV (mr' := dbm_83) (as := [.ref 81, .ref 277]) (rest := []) (pc' := 11) (lv1 := [(0, .ref 276), (1, .ref 80)]) rfl rfl rfl rfl rfl (db_f83_ok) fun s2 => ?_
  refine db_Rgo (pc' := 19) (lv' := [(0, .ref 276), (1, .ref 80)]) (st' := [.ref 278, .ref 82]) 4 rfl ?_
  refine db_RcV (mr' := dbm_83) (as := [.ref 82, .ref 278]) (rest := []) (pc' := 22) (lv1 := [(0, .ref 276), (1, .ref 80)]) rfl rfl rfl rfl rfl (db_f83_ok) fun s4 => ?_
  refine db_Rgo (pc' := 27) (lv' := [(0, .ref 276), (1, .ref 80)]) (st' := [.int (s4.1 80 2), .ref 276]) 3 rfl ?_
  refine db_RpuI (pc' := 30) (lv1 := [(0, .ref 276), (1, .ref 80)]) rfl rfl rfl rfl rfl rfl (by decide) rfl rfl fun s5 => ?_
  refine db_Rgo (pc' := 35) (lv' := [(0, .ref 276), (1, .ref 80)]) (st' := [.int (s5.1 80 3), .ref 276]) 3 rfl ?_
  refine db_RpuI (pc' := 38) (lv1 := [(0, .ref 276), (1, .ref 80)]) rfl rfl rfl rfl rfl rfl (by decide) rfl rfl fun s6 => ?_
  exact db_Rret (lv1 := [(0, .ref 276), (1, .ref 80)]) rfl rfl rfl rfl
noncomputable def db_f176_b39 (h4 : Int32 → Int32 → Int32 → Option Int32) (s : db_S) (v1 : Int32) (v3 : Int32) (t0 : Int32) (t1 : Int32) : Option Int32 :=
  (h4 v1 (t0 + t1) (v3 + (1 : Int32)))
set_option maxRecDepth 100000 in
theorem db_f176_b39_ok {X : db_X} {d : Nat}  {h4 : Int32 → Int32 → Int32 → Option Int32} {s : db_S} {v1 : Int32} {v3 : Int32} {t0 : Int32} {t1 : Int32} (zh4 : ∀ (v1 : Int32) (v2 : Int32) (v3 : Int32) , db_Rf X (d + 1) dbm_176 4 [(0, .ref 274), (1, .int v1), (2, .int v2), (3, .int v3)] [] s (db_yI s) (h4 v1 v2 v3)) : db_Rf X (d + 1) dbm_176 39 [(0, .ref 274), (1, .int v1), (3, .int v3)] [.int t1, .int t0] s (db_yI s) (db_f176_b39 h4 s v1 v3 t0 t1) := by
  unfold db_f176_b39
  refine db_Rgo (pc' := 4) (lv' := [(3, .int (v3 + (1 : Int32))), (2, .int (t0 + t1)), (0, .ref 274), (1, .int v1)]) (st' := []) 4 rfl ?_
  refine db_Rn (lv1 := [(0, .ref 274), (1, .int v1), (2, .int (t0 + t1)), (3, .int (v3 + (1 : Int32)))]) rfl rfl rfl ?_
  exact zh4 _ _ _
noncomputable def db_f176_b4 (s : db_S) : Nat → Int32 → Int32 → Int32 → Option Int32
  | 0, _, _, _ => none
  | n + 1, v1, v2, v3 =>
    ((db_rI s 21 (5 : Int32)).bind fun x1 => (cond (db_cnd .ge v3 x1) (some v2) ((db_f112 s v1 v3).bind fun q2 => (cond q2 ((db_rI s 60 v3).bind fun x4 => (db_f176_b39 (db_f176_b4 s n) s v1 v3 v2 x4)) (db_f176_b39 (db_f176_b4 s n) s v1 v3 v2 (0 : Int32))))))
set_option maxRecDepth 100000 in
theorem db_f176_b4_ok {X : db_X} {d : Nat} {s : db_S} (n : Nat) : ∀ (v1 : Int32) (v2 : Int32) (v3 : Int32), db_Rf X (d + 1) dbm_176 4 [(0, .ref 274), (1, .int v1), (2, .int v2), (3, .int v3)] [] s (db_yI s) (db_f176_b4 s n v1 v2 v3) := by
  induction n with
  | zero => intros; exact db_Rnone
  | succ n ih =>
    intro v1 v2 v3
    unfold db_f176_b4
    refine db_Rgo (pc' := 13) (lv' := [(0, .ref 274), (1, .int v1), (2, .int v2), (3, .int v3)]) (st' := [.int (5 : Int32), .ref 21, .int v3]) 5 rfl ?_
    refine db_RldI (pc' := 14) (lv1 := [(0, .ref 274), (1, .int v1), (2, .int v2), (3, .int v3)]) rfl rfl rfl fun x1 => ?_
    refine db_Ric (pc' := 17) (tg := 47) (lv1 := [(0, .ref 274), (1, .int v1), (2, .int v2), (3, .int v3)]) rfl rfl rfl rfl ?_ ?_
    · refine db_Rgo (pc' := 48) (lv' := [(2, .int v2)]) (st' := [.int v2]) 1 rfl ?_
      exact db_Rret (lv1 := [(2, .int v2)]) rfl rfl rfl rfl
    refine db_Rgo (pc' := 20) (lv' := [(0, .ref 274), (1, .int v1), (2, .int v2), (3, .int v3)]) (st' := [.int v3, .int v1, .int v2]) 3 rfl ?_
    refine db_RcyB (mr' := dbm_112) (as := [.int v1, .int v3]) (rest := [.int v2]) (pc' := 23) (lv1 := [(0, .ref 274), (1, .int v1), (2, .int v2), (3, .int v3)]) rfl rfl rfl rfl rfl (db_f112_ok) fun q2 => ?_
    refine db_RifBe (pc' := 26) (tg := 38) (lv1 := [(0, .ref 274), (1, .int v1), (2, .int v2), (3, .int v3)]) rfl rfl rfl rfl ?_ ?_
    · refine db_Rgo (pc' := 39) (lv' := [(0, .ref 274), (1, .int v1), (3, .int v3)]) (st' := [.int (0 : Int32), .int v2]) 1 rfl ?_
      exact db_f176_b39_ok ih
    refine db_Rgo (pc' := 34) (lv' := [(0, .ref 274), (1, .int v1), (2, .int v2), (3, .int v3)]) (st' := [.int v3, .ref 60, .int v2]) 4 rfl ?_
    refine db_RldI (pc' := 35) (lv1 := [(0, .ref 274), (1, .int v1), (2, .int v2), (3, .int v3)]) rfl rfl rfl fun x4 => ?_
    refine db_Rgo (pc' := 39) (lv' := [(0, .ref 274), (1, .int v1), (2, .int v2), (3, .int v3)]) (st' := [.int x4, .int v2]) 1 rfl ?_
    refine db_Rn (lv1 := [(0, .ref 274), (1, .int v1), (3, .int v3)]) rfl rfl rfl ?_
    exact db_f176_b39_ok ih
/-- DreamBook$Finder.priceOf(I)I -/
noncomputable def db_f176 (s : db_S) (v1 : Int32) : Option Int32 :=
  (db_f176_b4 s db_FU v1 (0 : Int32) (0 : Int32))
set_option maxRecDepth 100000 in
theorem db_f176_ok {X : db_X} {d : Nat} {s : db_S} {v1 : Int32} : db_Rf X (d + 1) dbm_176 0 (lv_args 0 [.ref 274, .int v1]) [] s (db_yI s) (db_f176 s v1) := by
  show db_Rf _ _ _ 0 [(0, .ref 274), (1, .int v1)] [] _ _ _
  unfold db_f176
  refine db_Rgo (pc' := 4) (lv' := [(3, .int (0 : Int32)), (2, .int (0 : Int32)), (0, .ref 274), (1, .int v1)]) (st' := []) 4 rfl ?_
  refine db_Rn (lv1 := [(0, .ref 274), (1, .int v1), (2, .int (0 : Int32)), (3, .int (0 : Int32))]) rfl rfl rfl ?_
  exact db_f176_b4_ok db_FU _ _ _
