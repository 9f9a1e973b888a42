/-- DreamBook$Plan.clear()V -/
noncomputable def db_f86_83 (s : db_S) : Option db_S :=
  ((db_pI s 83 0 (0 : Int32)).bind fun s1 => ((db_pI s1 83 1 (0 : Int32)).bind fun s2 => ((db_pI s2 83 2 (0 : Int32)).bind fun s3 => (some s3))))
set_option maxRecDepth 100000 in
theorem db_f86_83_ok {X : db_X} {d : Nat} {s : db_S} : db_Rf X (d + 0) dbm_86 0 (lv_args 0 [.ref 83]) [] s db_zV (db_f86_83 s ) := by
  show db_Rf _ _ _ 0 [(0, .ref 83)] [] _ _ _
  unfold db_f86_83
  refine db_Rgo (pc' := 2) (lv' := [(0, .ref 83)]) (st' := [.int (0 : Int32), .ref 83]) 2 rfl ?_
  refine db_RpuI (pc' := 5) (lv1 := [(0, .ref 83)]) rfl rfl rfl rfl rfl rfl (by decide) rfl rfl fun s1 => ?_
  refine db_Rgo (pc' := 7) (lv' := [(0, .ref 83)]) (st' := [.int (0 : Int32), .ref 83]) 2 rfl ?_
  refine db_RpuI (pc' := 10) (lv1 := [(0, .ref 83)]) rfl rfl rfl rfl rfl rfl (by decide) rfl rfl fun s2 => ?_
  refine db_Rgo (pc' := 12) (lv' := [(0, .ref 83)]) (st' := [.int (0 : Int32), .ref 83]) 2 rfl ?_
  refine db_RpuI (pc' := 15) (lv1 := [(0, .ref 83)]) rfl rfl rfl rfl rfl rfl (by decide) rfl rfl fun s3 => ?_
  exact db_Rret (lv1 := [(0, .ref 83)]) rfl rfl rfl rfl
/-- DreamBook.yes(I)I -/
noncomputable def db_f87 (s : db_S) (v1 : Int32) : Option (Int32 × db_S) :=
  ((db_pI s 4 0 (0 : Int32)).bind fun s1 => (some (v1, s1)))
set_option maxRecDepth 100000 in
theorem db_f87_ok {X : db_X} {d : Nat} {s : db_S} {v1 : Int32} : db_Rf X (d + 0) dbm_87 0 (lv_args 0 [.ref 4, .int v1]) [] s db_zI (db_f87 s v1) := by
  show db_Rf _ _ _ 0 [(0, .ref 4), (1, .int v1)] [] _ _ _
  unfold db_f87
  refine db_Rgo (pc' := 2) (lv' := [(0, .ref 4), (1, .int v1)]) (st' := [.int (0 : Int32), .ref 4]) 2 rfl ?_
  refine db_RpuI (pc' := 5) (lv1 := [(0, .ref 4), (1, .int v1)]) rfl rfl rfl rfl rfl rfl (by decide) rfl rfl fun s1 => ?_
  refine db_Rgo (pc' := 6) (lv' := [(0, .ref 4), (1, .int v1)]) (st' := [.int v1]) 1 rfl ?_
  exact db_Rret (lv1 := [(0, .ref 4), (1, .int v1)]) rfl rfl rfl rfl
/-- DreamBook.book(I)I -/
noncomputable def db_f44 (s : db_S) (v1 : Int32) : Option (Int32 × db_S) :=
  ((db_f27 s v1 (0 : Int32) (s.1 13 1)).bind fun q1 => (cond q1 (db_bd (db_f45 s v1) fun q3 s4 => ((db_pI s4 13 1 (0 : Int32)).bind fun s5 => (cond q3 ((db_f82_20_146 s5).bind fun s7 => ((db_f85_80 s7).bind fun s9 => ((db_f86_83 s9).bind fun s11 => ((db_rI s11 21 (3 : Int32)).bind fun x12 => (db_bd (db_f87 s11 x12) fun q13 s14 => (some (q13, s14))))))) (db_bd (db_f37 s5 (10 : Int32)) fun q15 s16 => (some (q15, s16)))))) (db_bd (db_f37 s (5 : Int32)) fun q17 s18 => (some (q17, s18)))))
set_option maxRecDepth 100000 in
theorem db_f44_ok {X : db_X} {d : Nat} {s : db_S} {v1 : Int32} : db_Rf X (d + 7) dbm_44 0 (lv_args 0 [.ref 4, .int v1]) [] s db_zI (db_f44 s v1) := by
  show db_Rf _ _ _ 0 [(0, .ref 4), (1, .int v1)] [] _ _ _
  unfold db_f44
  refine db_Rgo (pc' := 9) (lv' := [(0, .ref 4), (1, .int v1)]) (st' := [.int (s.1 13 1), .int (0 : Int32), .int v1]) 5 rfl ?_
  refine db_RcyB (mr' := dbm_27) (as := [.int v1, .int (0 : Int32), .int (s.1 13 1)]) (rest := []) (pc' := 12) (lv1 := [(0, .ref 4), (1, .int v1)]) rfl rfl rfl rfl rfl (db_f27_ok) fun q1 => ?_
  refine db_RifBn (pc' := 15) (tg := 21) (lv1 := [(0, .ref 4), (1, .int v1)]) rfl rfl rfl rfl ?_ ?_
  · refine db_Rgo (pc' := 26) (lv' := [(0, .ref 4), (1, .int v1)]) (st' := [.int v1, .ref 145]) 3 rfl ?_
    refine db_RcdB (mr' := dbm_45) (as := [.ref 145, .int v1]) (rest := []) (pc' := 29) (lv1 := [(0, .ref 4), (1, .int v1)]) rfl rfl rfl rfl rfl (db_f45_ok) fun q3 s4 => ?_
    refine db_Rgo (pc' := 35) (lv' := [(2, .int (db_i q3)), (0, .ref 4), (1, .int v1)]) (st' := [.int (0 : Int32), .ref 13]) 4 rfl ?_
    refine db_RpuI (pc' := 38) (lv1 := [(2, .int (db_i q3)), (0, .ref 4), (1, .int v1)]) rfl rfl rfl rfl rfl rfl (by decide) rfl rfl fun s5 => ?_
    refine db_Rgo (pc' := 39) (lv' := [(2, .int (db_i q3)), (0, .ref 4), (1, .int v1)]) (st' := [.int (db_i q3)]) 1 rfl ?_
    refine db_RifBn (pc' := 42) (tg := 49) (lv1 := [(2, .int (db_i q3)), (0, .ref 4), (1, .int v1)]) rfl rfl rfl rfl ?_ ?_
    · refine db_Rgo (pc' := 60) (lv' := [(0, .ref 4)]) (st' := [.ref 146, .ref 20]) 5 rfl ?_
      refine db_RcV (mr' := dbm_82) (as := [.ref 20, .ref 146]) (rest := []) (pc' := 63) (lv1 := [(0, .ref 4)]) rfl rfl rfl rfl rfl (db_f82_20_146_ok) fun s7 => ?_
      refine db_Rgo (pc' := 67) (lv' := [(0, .ref 4)]) (st' := [.ref 80]) 2 rfl ?_
      refine db_RcV (mr' := dbm_85) (as := [.ref 80]) (rest := []) (pc' := 70) (lv1 := [(0, .ref 4)]) rfl rfl rfl rfl rfl (db_f85_80_ok) fun s9 => ?_
      refine db_Rgo (pc' := 74) (lv' := [(0, .ref 4)]) (st' := [.ref 83]) 2 rfl ?_
      refine db_RcV (mr' := dbm_86) (as := [.ref 83]) (rest := []) (pc' := 77) (lv1 := [(0, .ref 4)]) rfl rfl rfl rfl rfl (db_f86_83_ok) fun s11 => ?_
      refine db_Rgo (pc' := 86) (lv' := [(0, .ref 4)]) (st' := [.int (3 : Int32), .ref 21, .ref 4]) 5 rfl ?_
      refine db_RldI (pc' := 87) (lv1 := [(0, .ref 4)]) rfl rfl rfl fun x12 => ?_
      refine db_RcdI (mr' := dbm_87) (as := [.ref 4, .int x12]) (rest := []) (pc' := 90) (lv1 := [(0, .ref 4)]) rfl rfl rfl rfl rfl (db_f87_ok) fun q13 s14 => ?_
      exact db_Rret (lv1 := [(0, .ref 4)]) rfl rfl rfl rfl
    refine db_Rgo (pc' := 45) (lv' := [(2, .int (db_i q3)), (0, .ref 4), (1, .int v1)]) (st' := [.int (10 : Int32), .ref 4]) 2 rfl ?_
    refine db_RcdI (mr' := dbm_37) (as := [.ref 4, .int (10 : Int32)]) (rest := []) (pc' := 48) (lv1 := [(2, .int (db_i q3)), (0, .ref 4), (1, .int v1)]) rfl rfl rfl rfl rfl (db_f37_ok) fun q15 s16 => ?_
    exact db_Rret (lv1 := [(2, .int (db_i q3)), (0, .ref 4), (1, .int v1)]) rfl rfl rfl rfl
  refine db_Rgo (pc' := 17) (lv' := [(0, .ref 4), (1, .int v1)]) (st' := [.int (5 : Int32), .ref 4]) 2 rfl ?_
  refine db_RcdI (mr' := dbm_37) (as := [.ref 4, .int (5 : Int32)]) (rest := []) (pc' := 20) (lv1 := [(0, .ref 4), (1, .int v1)]) rfl rfl rfl rfl rfl (db_f37_ok) fun q17 s18 => ?_
  exact db_Rret (lv1 := [(0, .ref 4), (1, .int v1)]) rfl rfl rfl rfl
/-- DreamBookModel.look2(I)I -/
noncomputable def db_f224 (s : db_S) (v1 : Int32) : Option Int32 :=
  (cond (db_cnd .ge v1 (s.1 669 9)) (some (0 : Int32)) ((db_rB s 673 v1).bind fun x1 => (some (x1 &&& (255 : Int32)))))
set_option maxRecDepth 100000 in
theorem db_f224_ok {X : db_X} {d : Nat} {s : db_S} {v1 : Int32} : db_Rf X (d + 0) dbm_224 0 (lv_args 0 [.ref 669, .int v1]) [] s (db_yI s) (db_f224 s v1) := by
  show db_Rf _ _ _ 0 [(0, .ref 669), (1, .int v1)] [] _ _ _
  unfold db_f224
  refine db_Rgo (pc' := 5) (lv' := [(0, .ref 669), (1, .int v1)]) (st' := [.int (s.1 669 9), .int v1]) 3 rfl ?_
  refine db_Ric (pc' := 8) (tg := 21) (lv1 := [(0, .ref 669), (1, .int v1)]) rfl rfl rfl rfl ?_ ?_
  · refine db_Rgo (pc' := 22) (lv' := []) (st' := [.int (0 : Int32)]) 1 rfl ?_
    exact db_Rret (lv1 := []) rfl rfl rfl rfl
  refine db_Rgo (pc' := 13) (lv' := [(0, .ref 669), (1, .int v1)]) (st' := [.int v1, .ref 673]) 3 rfl ?_
  refine db_RldB (pc' := 14) (lv1 := [(0, .ref 669), (1, .int v1)]) rfl rfl rfl fun x1 => ?_
  refine db_Rgo (pc' := 22) (lv' := [(0, .ref 669), (1, .int v1)]) (st' := [.int (x1 &&& (255 : Int32))]) 3 rfl ?_
  exact db_Rret (lv1 := []) rfl rfl rfl rfl
/-- DreamBookModel.isLetter(I)Z -/
noncomputable def db_f225 (s : db_S) (v0 : Int32) : Option Bool :=
  (cond (db_cnd .lt v0 (97 : Int32)) (some false) (cond (db_cnd .gt v0 (122 : Int32)) (some false) (some true)))
set_option maxRecDepth 100000 in
theorem db_f225_ok {X : db_X} {d : Nat} {s : db_S} {v0 : Int32} : db_Rf X (d + 0) dbm_225 0 (lv_args 0 [.int v0]) [] s (db_yB s) (db_f225 s v0) := by
  show db_Rf _ _ _ 0 [(0, .int v0)] [] _ _ _
  unfold db_f225
  refine db_Rgo (pc' := 3) (lv' := [(0, .int v0)]) (st' := [.int (97 : Int32), .int v0]) 2 rfl ?_
  refine db_Ric (pc' := 6) (tg := 16) (lv1 := [(0, .int v0)]) rfl rfl rfl rfl ?_ ?_
  · refine db_Rgo (pc' := 17) (lv' := []) (st' := [.int (0 : Int32)]) 1 rfl ?_
    exact db_Rret (lv1 := []) rfl rfl rfl rfl
  refine db_Rgo (pc' := 9) (lv' := [(0, .int v0)]) (st' := [.int (122 : Int32), .int v0]) 2 rfl ?_
  refine db_Ric (pc' := 12) (tg := 16) (lv1 := [(0, .int v0)]) rfl rfl rfl rfl ?_ ?_
  · refine db_Rgo (pc' := 17) (lv' := []) (st' := [.int (0 : Int32)]) 1 rfl ?_
    exact db_Rret (lv1 := []) rfl rfl rfl rfl
  refine db_Rgo (pc' := 17) (lv' := [(0, .int v0)]) (st' := [.int (1 : Int32)]) 2 rfl ?_
  exact db_Rret (lv1 := []) rfl rfl rfl rfl
/-- DreamBookModel.isDigit(I)Z -/
noncomputable def db_f226 (s : db_S) (v0 : Int32) : Option Bool :=
  (cond (db_cnd .lt v0 (48 : Int32)) (some false) (cond (db_cnd .gt v0 (57 : Int32)) (some false) (some true)))
set_option maxRecDepth 100000 in
theorem db_f226_ok {X : db_X} {d : Nat} {s : db_S} {v0 : Int32} : db_Rf X (d + 0) dbm_226 0 (lv_args 0 [.int v0]) [] s (db_yB s) (db_f226 s v0) := by
  show db_Rf _ _ _ 0 [(0, .int v0)] [] _ _ _
  unfold db_f226
  refine db_Rgo (pc' := 3) (lv' := [(0, .int v0)]) (st' := [.int (48 : Int32), .int v0]) 2 rfl ?_
  refine db_Ric (pc' := 6) (tg := 16) (lv1 := [(0, .int v0)]) rfl rfl rfl rfl ?_ ?_
  · refine db_Rgo (pc' := 17) (lv' := []) (st' := [.int (0 : Int32)]) 1 rfl ?_
    exact db_Rret (lv1 := []) rfl rfl rfl rfl
  refine db_Rgo (pc' := 9) (lv' := [(0, .int v0)]) (st' := [.int (57 : Int32), .int v0]) 2 rfl ?_
  refine db_Ric (pc' := 12) (tg := 16) (lv1 := [(0, .int v0)]) rfl rfl rfl rfl ?_ ?_
  · refine db_Rgo (pc' := 17) (lv' := []) (st' := [.int (0 : Int32)]) 1 rfl ?_
    exact db_Rret (lv1 := []) rfl rfl rfl rfl
  refine db_Rgo (pc' := 17) (lv' := [(0, .int v0)]) (st' := [.int (1 : Int32)]) 2 rfl ?_
  exact db_Rret (lv1 := []) rfl rfl rfl rfl
/-- DreamBookModel.isSignByte(I)Z -/
noncomputable def db_f227 (s : db_S) (v1 : Int32) : Option Bool :=
  (cond (db_cnd .eq v1 (59 : Int32)) (some true) (cond (db_cnd .eq v1 (60 : Int32)) (some true) (cond (db_cnd .eq v1 (62 : Int32)) (some true) (cond (db_cnd .ne v1 (61 : Int32)) (some false) (some true)))))
set_option maxRecDepth 100000 in
theorem db_f227_ok {X : db_X} {d : Nat} {s : db_S} {v1 : Int32} : db_Rf X (d + 0) dbm_227 0 (lv_args 0 [.ref 669, .int v1]) [] s (db_yB s) (db_f227 s v1) := by
  show db_Rf _ _ _ 0 [(0, .ref 669), (1, .int v1)] [] _ _ _
  unfold db_f227
  refine db_Rgo (pc' := 3) (lv' := [(0, .ref 669), (1, .int v1)]) (st' := [.int (59 : Int32), .int v1]) 2 rfl ?_
  refine db_Ric (pc' := 6) (tg := 24) (lv1 := [(0, .ref 669), (1, .int v1)]) rfl rfl rfl rfl ?_ ?_
  · refine db_Rgo (pc' := 29) (lv' := []) (st' := [.int (1 : Int32)]) 2 rfl ?_
    exact db_Rret (lv1 := []) rfl rfl rfl rfl
  refine db_Rgo (pc' := 9) (lv' := [(0, .ref 669), (1, .int v1)]) (st' := [.int (60 : Int32), .int v1]) 2 rfl ?_
  refine db_Ric (pc' := 12) (tg := 24) (lv1 := [(0, .ref 669), (1, .int v1)]) rfl rfl rfl rfl ?_ ?_
  · refine db_Rgo (pc' := 29) (lv' := []) (st' := [.int (1 : Int32)]) 2 rfl ?_
    exact db_Rret (lv1 := []) rfl rfl rfl rfl
  refine db_Rgo (pc' := 15) (lv' := [(0, .ref 669), (1, .int v1)]) (st' := [.int (62 : Int32), .int v1]) 2 rfl ?_
  refine db_Ric (pc' := 18) (tg := 24) (lv1 := [(0, .ref 669), (1, .int v1)]) rfl rfl rfl rfl ?_ ?_
  · refine db_Rgo (pc' := 29) (lv' := []) (st' := [.int (1 : Int32)]) 2 rfl ?_
    exact db_Rret (lv1 := []) rfl rfl rfl rfl
  refine db_Rgo (pc' := 21) (lv' := [(0, .ref 669), (1, .int v1)]) (st' := [.int (61 : Int32), .int v1]) 2 rfl ?_
  refine db_Ric (pc' := 24) (tg := 28) (lv1 := [(0, .ref 669), (1, .int v1)]) rfl rfl rfl rfl ?_ ?_
  · refine db_Rgo (pc' := 29) (lv' := []) (st' := [.int (0 : Int32)]) 1 rfl ?_
    exact db_Rret (lv1 := []) rfl rfl rfl rfl
  refine db_Rgo (pc' := 29) (lv' := []) (st' := [.int (1 : Int32)]) 2 rfl ?_
  exact db_Rret (lv1 := []) rfl rfl rfl rfl
noncomputable def db_f223_b45 (h8 : db_S → Option db_S) (s : db_S) : Option db_S :=
  ((db_pI s 669 15 ((s.1 669 15) + (1 : Int32))).bind fun s1 => (h8 s1 ))
set_option maxRecDepth 100000 in
theorem db_f223_b45_ok {X : db_X} {d : Nat}  {h8 : db_S → Option db_S} {s : db_S} (zh8 : ∀ (s' : db_S) , db_Rf X (d + 1) dbm_223 8 [(0, .ref 669)] [] s' db_zV (h8 s' )) : db_Rf X (d + 1) dbm_223 45 [(0, .ref 669)] [] s db_zV (db_f223_b45 h8 s ) := by
  unfold db_f223_b45
  refine db_Rgo (pc' := 52) (lv' := [(0, .ref 669)]) (st' := [.int ((s.1 669 15) + (1 : Int32)), .ref 669]) 5 rfl ?_
  refine db_RpuI (pc' := 55) (lv1 := [(0, .ref 669)]) rfl rfl rfl rfl rfl rfl (by decide) rfl rfl fun s1 => ?_
  refine db_Rgo (pc' := 8) (lv' := [(0, .ref 669)]) (st' := []) 1 rfl ?_
  exact zh8 _
noncomputable def db_f223_b166 (h109 : db_S → Option db_S) (s : db_S) (t1 : Int64) : Option db_S :=
  ((db_pL s 669 19 t1).bind fun s1 => ((db_pI s1 669 16 ((s1.1 669 16) + (1 : Int32))).bind fun s2 => (h109 s2 )))
set_option maxRecDepth 100000 in
theorem db_f223_b166_ok {X : db_X} {d : Nat}  {h109 : db_S → Option db_S} {s : db_S} {t1 : Int64} (zh109 : ∀ (s' : db_S) , db_Rf X (d + 1) dbm_223 109 [(0, .ref 669)] [] s' db_zV (h109 s' )) : db_Rf X (d + 1) dbm_223 166 [(0, .ref 669)] [.long t1, .ref 669] s db_zV (db_f223_b166 h109 s t1) := by
  unfold db_f223_b166
  refine db_RpuL (pc' := 169) (lv1 := [(0, .ref 669)]) rfl rfl rfl rfl rfl rfl (by decide) rfl rfl fun s1 => ?_
  refine db_Rgo (pc' := 176) (lv' := [(0, .ref 669)]) (st' := [.int ((s1.1 669 16) + (1 : Int32)), .ref 669]) 5 rfl ?_
  refine db_RpuI (pc' := 179) (lv1 := [(0, .ref 669)]) rfl rfl rfl rfl rfl rfl (by decide) rfl rfl fun s2 => ?_
  refine db_Rgo (pc' := 109) (lv' := [(0, .ref 669)]) (st' := []) 1 rfl ?_
  exact zh109 _
noncomputable def db_f223_b109 : Nat → db_S → Option db_S
  | 0, _ => none
  | n + 1, s =>
    ((db_f224 s (s.1 669 16)).bind fun q1 => ((db_f225 s q1).bind fun q3 => (cond q3 (cond (db_cnd .ge ((s.1 669 16) - (s.1 669 15)) (8 : Int32)) (db_f223_b166 (db_f223_b109 n) s (-1 : Int64)) ((db_f224 s (s.1 669 16)).bind fun q6 => (db_f223_b166 (db_f223_b109 n) s ((((s.2 669 19) * (32 : Int64)) + (Int32.toInt64 q6)) - (96 : Int64))))) ((db_pI s 669 18 ((s.1 669 16) - (s.1 669 15))).bind fun s5 => (some s5)))))
set_option maxRecDepth 100000 in
theorem db_f223_b109_ok {X : db_X} {d : Nat}  (n : Nat) : ∀ (s : db_S), db_Rf X (d + 1) dbm_223 109 [(0, .ref 669)] [] s db_zV (db_f223_b109 n s ) := by
  induction n with
  | zero => intros; exact db_Rnone
  | succ n ih =>
    intro s 
    unfold db_f223_b109
    refine db_Rgo (pc' := 114) (lv' := [(0, .ref 669)]) (st' := [.int (s.1 669 16), .ref 669]) 3 rfl ?_
    refine db_RcyI (mr' := dbm_224) (as := [.ref 669, .int (s.1 669 16)]) (rest := []) (pc' := 117) (lv1 := [(0, .ref 669)]) rfl rfl rfl rfl rfl (db_f224_ok) fun q1 => ?_
    refine db_RcyB (mr' := dbm_225) (as := [.int q1]) (rest := []) (pc' := 120) (lv1 := [(0, .ref 669)]) rfl rfl rfl rfl rfl (db_f225_ok) fun q3 => ?_
    refine db_RifBe (pc' := 123) (tg := 182) (lv1 := [(0, .ref 669)]) rfl rfl rfl rfl ?_ ?_
    · refine db_Rgo (pc' := 192) (lv' := [(0, .ref 669)]) (st' := [.int ((s.1 669 16) - (s.1 669 15)), .ref 669]) 6 rfl ?_
      refine db_RpuI (pc' := 195) (lv1 := [(0, .ref 669)]) rfl rfl rfl rfl rfl rfl (by decide) rfl rfl fun s5 => ?_
      refine db_Rgo (pc' := 330) (lv' := [(0, .ref 669)]) (st' := []) 1 rfl ?_
      exact db_Rret (lv1 := []) rfl rfl rfl rfl
    refine db_Rgo (pc' := 135) (lv' := [(0, .ref 669)]) (st' := [.int (8 : Int32), .int ((s.1 669 16) - (s.1 669 15)), .ref 669]) 7 rfl ?_
    refine db_Ric (pc' := 138) (tg := 163) (lv1 := [(0, .ref 669)]) rfl rfl rfl rfl ?_ ?_
    · refine db_Rgo (pc' := 166) (lv' := [(0, .ref 669)]) (st' := [.long (-1 : Int64), .ref 669]) 1 rfl ?_
      exact db_f223_b166_ok ih
    refine db_Rgo (pc' := 151) (lv' := [(0, .ref 669)]) (st' := [.int (s.1 669 16), .ref 669, .long ((s.2 669 19) * (32 : Int64)), .ref 669]) 7 rfl ?_
    refine db_RcyI (mr' := dbm_224) (as := [.ref 669, .int (s.1 669 16)]) (rest := [.long ((s.2 669 19) * (32 : Int64)), .ref 669]) (pc' := 154) (lv1 := [(0, .ref 669)]) rfl rfl rfl rfl rfl (db_f224_ok) fun q6 => ?_
    refine db_Rgo (pc' := 166) (lv' := [(0, .ref 669)]) (st' := [.long ((((s.2 669 19) * (32 : Int64)) + (Int32.toInt64 q6)) - (96 : Int64)), .ref 669]) 5 rfl ?_
    exact db_f223_b166_ok ih
noncomputable def db_f223_b260 (h210 : db_S → Option db_S) (s : db_S) : Option db_S :=
  ((db_pI s 669 16 ((s.1 669 16) + (1 : Int32))).bind fun s1 => (h210 s1 ))
set_option maxRecDepth 100000 in
theorem db_f223_b260_ok {X : db_X} {d : Nat}  {h210 : db_S → Option db_S} {s : db_S} (zh210 : ∀ (s' : db_S) , db_Rf X (d + 1) dbm_223 210 [(0, .ref 669)] [] s' db_zV (h210 s' )) : db_Rf X (d + 1) dbm_223 260 [(0, .ref 669)] [] s db_zV (db_f223_b260 h210 s ) := by
  unfold db_f223_b260
  refine db_Rgo (pc' := 267) (lv' := [(0, .ref 669)]) (st' := [.int ((s.1 669 16) + (1 : Int32)), .ref 669]) 5 rfl ?_
  refine db_RpuI (pc' := 270) (lv1 := [(0, .ref 669)]) rfl rfl rfl rfl rfl rfl (by decide) rfl rfl fun s1 => ?_
  refine db_Rgo (pc' := 210) (lv' := [(0, .ref 669)]) (st' := []) 1 rfl ?_
  exact zh210 _
noncomputable def db_f223_b292 (s : db_S) (t1 : Int32) : Option db_S :=
  ((db_pI s 669 14 t1).bind fun s1 => (some s1))
set_option maxRecDepth 100000 in
theorem db_f223_b292_ok {X : db_X} {d : Nat}  {s : db_S} {t1 : Int32} : db_Rf X (d + 1) dbm_223 292 [] [.int t1, .ref 669] s db_zV (db_f223_b292 s t1) := by
  unfold db_f223_b292
  refine db_RpuI (pc' := 295) (lv1 := []) rfl rfl rfl rfl rfl rfl (by decide) rfl rfl fun s1 => ?_
  refine db_Rgo (pc' := 330) (lv' := []) (st' := []) 1 rfl ?_
  exact db_Rret (lv1 := []) rfl rfl rfl rfl
noncomputable def db_f223_b210 : Nat → db_S → Option db_S
  | 0, _ => none
  | n + 1, s =>
    ((db_f224 s (s.1 669 16)).bind fun q1 => ((db_f226 s q1).bind fun q3 => (cond q3 (cond (db_cnd .ge ((s.1 669 16) - (s.1 669 15)) (4 : Int32)) (db_f223_b260 (db_f223_b210 n) s ) ((db_f224 s (s.1 669 16)).bind fun q5 => ((db_pI s 669 17 ((((10 : Int32) * (s.1 669 17)) + q5) - (48 : Int32))).bind fun s7 => (db_f223_b260 (db_f223_b210 n) s7 )))) (cond (db_cnd .le ((s.1 669 16) - (s.1 669 15)) (4 : Int32)) (db_f223_b292 s (2 : Int32)) (db_f223_b292 s (4 : Int32))))))
set_option maxRecDepth 100000 in
theorem db_f223_b210_ok {X : db_X} {d : Nat}  (n : Nat) : ∀ (s : db_S), db_Rf X (d + 1) dbm_223 210 [(0, .ref 669)] [] s db_zV (db_f223_b210 n s ) := by
  induction n with
  | zero => intros; exact db_Rnone
  | succ n ih =>
    intro s 
    unfold db_f223_b210
    refine db_Rgo (pc' := 215) (lv' := [(0, .ref 669)]) (st' := [.int (s.1 669 16), .ref 669]) 3 rfl ?_
    refine db_RcyI (mr' := dbm_224) (as := [.ref 669, .int (s.1 669 16)]) (rest := []) (pc' := 218) (lv1 := [(0, .ref 669)]) rfl rfl rfl rfl rfl (db_f224_ok) fun q1 => ?_
    refine db_RcyB (mr' := dbm_226) (as := [.int q1]) (rest := []) (pc' := 221) (lv1 := [(0, .ref 669)]) rfl rfl rfl rfl rfl (db_f226_ok) fun q3 => ?_
    refine db_RifBe (pc' := 224) (tg := 273) (lv1 := [(0, .ref 669)]) rfl rfl rfl rfl ?_ ?_
    · refine db_Rgo (pc' := 284) (lv' := [(0, .ref 669)]) (st' := [.int (4 : Int32), .int ((s.1 669 16) - (s.1 669 15)), .ref 669]) 7 rfl ?_
      refine db_Ric (pc' := 287) (tg := 291) (lv1 := [(0, .ref 669)]) rfl rfl rfl rfl ?_ ?_
      · refine db_Rgo (pc' := 292) (lv' := []) (st' := [.int (2 : Int32), .ref 669]) 1 rfl ?_
        exact db_f223_b292_ok
      refine db_Rgo (pc' := 292) (lv' := [(0, .ref 669)]) (st' := [.int (4 : Int32), .ref 669]) 2 rfl ?_
      refine db_Rn (lv1 := []) rfl rfl rfl ?_
      exact db_f223_b292_ok
    refine db_Rgo (pc' := 234) (lv' := [(0, .ref 669)]) (st' := [.int (4 : Int32), .int ((s.1 669 16) - (s.1 669 15))]) 6 rfl ?_
    refine db_Ric (pc' := 237) (tg := 260) (lv1 := [(0, .ref 669)]) rfl rfl rfl rfl ?_ ?_
    · exact db_f223_b260_ok ih
    refine db_Rgo (pc' := 250) (lv' := [(0, .ref 669)]) (st' := [.int (s.1 669 16), .ref 669, .int ((10 : Int32) * (s.1 669 17)), .ref 669]) 8 rfl ?_
    refine db_RcyI (mr' := dbm_224) (as := [.ref 669, .int (s.1 669 16)]) (rest := [.int ((10 : Int32) * (s.1 669 17)), .ref 669]) (pc' := 253) (lv1 := [(0, .ref 669)]) rfl rfl rfl rfl rfl (db_f224_ok) fun q5 => ?_
    refine db_Rgo (pc' := 257) (lv' := [(0, .ref 669)]) (st' := [.int ((((10 : Int32) * (s.1 669 17)) + q5) - (48 : Int32)), .ref 669]) 3 rfl ?_
    refine db_RpuI (pc' := 260) (lv1 := [(0, .ref 669)]) rfl rfl rfl rfl rfl rfl (by decide) rfl rfl fun s7 => ?_
    exact db_f223_b260_ok ih
noncomputable def db_f223_b327 (s : db_S) (t1 : Int32) : Option db_S :=
  ((db_pI s 669 14 t1).bind fun s1 => (some s1))
set_option maxRecDepth 100000 in
theorem db_f223_b327_ok {X : db_X} {d : Nat}  {s : db_S} {t1 : Int32} : db_Rf X (d + 1) dbm_223 327 [] [.int t1, .ref 669] s db_zV (db_f223_b327 s t1) := by
  unfold db_f223_b327
  refine db_RpuI (pc' := 330) (lv1 := []) rfl rfl rfl rfl rfl rfl (by decide) rfl rfl fun s1 => ?_
  exact db_Rret (lv1 := []) rfl rfl rfl rfl
noncomputable def db_f223_b58 (s : db_S) : Option db_S :=
  ((db_pI s 669 16 (s.1 669 15)).bind fun s1 => (cond (db_cnd .lt (s1.1 669 15) (s1.1 669 9)) ((db_f224 s1 (s1.1 669 15)).bind fun q2 => ((db_f225 s1 q2).bind fun q4 => (cond q4 ((db_pI s1 669 14 (1 : Int32)).bind fun s13 => ((db_pL s13 669 19 (0 : Int64)).bind fun s14 => (db_f223_b109 db_FU s14 ))) ((db_f226 s1 q2).bind fun q6 => (cond q6 ((db_pI s1 669 17 (0 : Int32)).bind fun s12 => (db_f223_b210 db_FU s12 )) ((db_pI s1 669 16 ((s1.1 669 15) + (1 : Int32))).bind fun s8 => ((db_pI s8 669 17 q2).bind fun s9 => ((db_f227 s9 q2).bind fun q10 => (cond q10 (db_f223_b327 s9 (3 : Int32)) (db_f223_b327 s9 (4 : Int32))))))))))) ((db_pI s1 669 14 (0 : Int32)).bind fun s15 => (some s15))))
set_option maxRecDepth 100000 in
theorem db_f223_b58_ok {X : db_X} {d : Nat}  {s : db_S} : db_Rf X (d + 1) dbm_223 58 [(0, .ref 669)] [] s db_zV (db_f223_b58 s ) := by
  unfold db_f223_b58
  refine db_Rgo (pc' := 63) (lv' := [(0, .ref 669)]) (st' := [.int (s.1 669 15), .ref 669]) 3 rfl ?_
  refine db_RpuI (pc' := 66) (lv1 := [(0, .ref 669)]) rfl rfl rfl rfl rfl rfl (by decide) rfl rfl fun s1 => ?_
  refine db_Rgo (pc' := 74) (lv' := [(0, .ref 669)]) (st' := [.int (s1.1 669 9), .int (s1.1 669 15)]) 4 rfl ?_
  refine db_Ric (pc' := 77) (tg := 83) (lv1 := [(0, .ref 669)]) rfl rfl rfl rfl ?_ ?_
  · refine db_Rgo (pc' := 88) (lv' := [(0, .ref 669)]) (st' := [.int (s1.1 669 15), .ref 669]) 3 rfl ?_
    refine db_RcyI (mr' := dbm_224) (as := [.ref 669, .int (s1.1 669 15)]) (rest := []) (pc' := 91) (lv1 := [(0, .ref 669)]) rfl rfl rfl rfl rfl (db_f224_ok) fun q2 => ?_
    refine db_Rgo (pc' := 93) (lv' := [(1, .int q2), (0, .ref 669)]) (st' := [.int q2]) 2 rfl ?_
    refine db_RcyB (mr' := dbm_225) (as := [.int q2]) (rest := []) (pc' := 96) (lv1 := [(1, .int q2), (0, .ref 669)]) rfl rfl rfl rfl rfl (db_f225_ok) fun q4 => ?_
    refine db_RifBe (pc' := 99) (tg := 198) (lv1 := [(1, .int q2), (0, .ref 669)]) rfl rfl rfl rfl ?_ ?_
    · refine db_Rgo (pc' := 199) (lv' := [(0, .ref 669), (1, .int q2)]) (st' := [.int q2]) 1 rfl ?_
      refine db_RcyB (mr' := dbm_226) (as := [.int q2]) (rest := []) (pc' := 202) (lv1 := [(0, .ref 669), (1, .int q2)]) rfl rfl rfl rfl rfl (db_f226_ok) fun q6 => ?_
      refine db_RifBe (pc' := 205) (tg := 298) (lv1 := [(0, .ref 669), (1, .int q2)]) rfl rfl rfl rfl ?_ ?_
      · refine db_Rgo (pc' := 305) (lv' := [(0, .ref 669), (1, .int q2)]) (st' := [.int ((s1.1 669 15) + (1 : Int32)), .ref 669]) 5 rfl ?_
        refine db_RpuI (pc' := 308) (lv1 := [(0, .ref 669), (1, .int q2)]) rfl rfl rfl rfl rfl rfl (by decide) rfl rfl fun s8 => ?_
        refine db_Rgo (pc' := 310) (lv' := [(0, .ref 669), (1, .int q2)]) (st' := [.int q2, .ref 669]) 2 rfl ?_
        refine db_RpuI (pc' := 313) (lv1 := [(0, .ref 669), (1, .int q2)]) rfl rfl rfl rfl rfl rfl (by decide) rfl rfl fun s9 => ?_
        refine db_Rgo (pc' := 316) (lv' := [(0, .ref 669), (1, .int q2)]) (st' := [.int q2, .ref 669, .ref 669]) 3 rfl ?_
        refine db_RcyB (mr' := dbm_227) (as := [.ref 669, .int q2]) (rest := [.ref 669]) (pc' := 319) (lv1 := [(0, .ref 669), (1, .int q2)]) rfl rfl rfl rfl rfl (db_f227_ok) fun q10 => ?_
        refine db_RifBe (pc' := 322) (tg := 326) (lv1 := [(0, .ref 669), (1, .int q2)]) rfl rfl rfl rfl ?_ ?_
        · refine db_Rgo (pc' := 327) (lv' := []) (st' := [.int (4 : Int32), .ref 669]) 1 rfl ?_
          exact db_f223_b327_ok
        refine db_Rgo (pc' := 327) (lv' := [(0, .ref 669), (1, .int q2)]) (st' := [.int (3 : Int32), .ref 669]) 2 rfl ?_
        refine db_Rn (lv1 := []) rfl rfl rfl ?_
        exact db_f223_b327_ok
      refine db_Rgo (pc' := 207) (lv' := [(0, .ref 669), (1, .int q2)]) (st' := [.int (0 : Int32), .ref 669]) 2 rfl ?_
      refine db_RpuI (pc' := 210) (lv1 := [(0, .ref 669), (1, .int q2)]) rfl rfl rfl rfl rfl rfl (by decide) rfl rfl fun s12 => ?_
      refine db_Rn (lv1 := [(0, .ref 669)]) rfl rfl rfl ?_
      exact db_f223_b210_ok db_FU _
    refine db_Rgo (pc' := 101) (lv' := [(1, .int q2), (0, .ref 669)]) (st' := [.int (1 : Int32), .ref 669]) 2 rfl ?_
    refine db_RpuI (pc' := 104) (lv1 := [(1, .int q2), (0, .ref 669)]) rfl rfl rfl rfl rfl rfl (by decide) rfl rfl fun s13 => ?_
    refine db_Rgo (pc' := 106) (lv' := [(1, .int q2), (0, .ref 669)]) (st' := [.long (0 : Int64), .ref 669]) 2 rfl ?_
    refine db_RpuL (pc' := 109) (lv1 := [(1, .int q2), (0, .ref 669)]) rfl rfl rfl rfl rfl rfl (by decide) rfl rfl fun s14 => ?_
    refine db_Rn (lv1 := [(0, .ref 669)]) rfl rfl rfl ?_
    exact db_f223_b109_ok db_FU _
  refine db_Rgo (pc' := 79) (lv' := [(0, .ref 669)]) (st' := [.int (0 : Int32), .ref 669]) 2 rfl ?_
  refine db_RpuI (pc' := 82) (lv1 := [(0, .ref 669)]) rfl rfl rfl rfl rfl rfl (by decide) rfl rfl fun s15 => ?_
  exact db_Rret (lv1 := [(0, .ref 669)]) rfl rfl rfl rfl
noncomputable def db_f223_b8 : Nat → db_S → Option db_S
  | 0, _ => none
  | n + 1, s =>
    (cond (db_cnd .ge (s.1 669 15) (s.1 669 9)) (db_f223_b58 s ) ((db_f224 s (s.1 669 15)).bind fun q1 => (cond (db_cnd .eq q1 (10 : Int32)) (db_f223_b45 (db_f223_b8 n) s ) ((db_f224 s (s.1 669 15)).bind fun q3 => (cond (db_cnd .ne q3 (32 : Int32)) (db_f223_b58 s ) (db_f223_b45 (db_f223_b8 n) s ))))))
set_option maxRecDepth 100000 in
theorem db_f223_b8_ok {X : db_X} {d : Nat}  (n : Nat) : ∀ (s : db_S), db_Rf X (d + 1) dbm_223 8 [(0, .ref 669)] [] s db_zV (db_f223_b8 n s ) := by
  induction n with
  | zero => intros; exact db_Rnone
  | succ n ih =>
    intro s 
    unfold db_f223_b8
    refine db_Rgo (pc' := 16) (lv' := [(0, .ref 669)]) (st' := [.int (s.1 669 9), .int (s.1 669 15)]) 4 rfl ?_
    refine db_Ric (pc' := 19) (tg := 58) (lv1 := [(0, .ref 669)]) rfl rfl rfl rfl ?_ ?_
    · exact db_f223_b58_ok
    refine db_Rgo (pc' := 24) (lv' := [(0, .ref 669)]) (st' := [.int (s.1 669 15), .ref 669]) 3 rfl ?_
    refine db_RcyI (mr' := dbm_224) (as := [.ref 669, .int (s.1 669 15)]) (rest := []) (pc' := 27) (lv1 := [(0, .ref 669)]) rfl rfl rfl rfl rfl (db_f224_ok) fun q1 => ?_
    refine db_Rgo (pc' := 29) (lv' := [(0, .ref 669)]) (st' := [.int (10 : Int32), .int q1]) 1 rfl ?_
    refine db_Ric (pc' := 32) (tg := 45) (lv1 := [(0, .ref 669)]) rfl rfl rfl rfl ?_ ?_
    · exact db_f223_b45_ok ih
    refine db_Rgo (pc' := 37) (lv' := [(0, .ref 669)]) (st' := [.int (s.1 669 15), .ref 669]) 3 rfl ?_
    refine db_RcyI (mr' := dbm_224) (as := [.ref 669, .int (s.1 669 15)]) (rest := []) (pc' := 40) (lv1 := [(0, .ref 669)]) rfl rfl rfl rfl rfl (db_f224_ok) fun q3 => ?_
    refine db_Rgo (pc' := 42) (lv' := [(0, .ref 669)]) (st' := [.int (32 : Int32), .int q3]) 1 rfl ?_
    refine db_Ric (pc' := 45) (tg := 58) (lv1 := [(0, .ref 669)]) rfl rfl rfl rfl ?_ ?_
    · exact db_f223_b58_ok
    exact db_f223_b45_ok ih
/-- DreamBookModel.next()V -/
noncomputable def db_f223 (s : db_S) : Option db_S :=
  ((db_pI s 669 15 (s.1 669 16)).bind fun s1 => (db_f223_b8 db_FU s1 ))
set_option maxRecDepth 100000 in
theorem db_f223_ok {X : db_X} {d : Nat} {s : db_S} : db_Rf X (d + 1) dbm_223 0 (lv_args 0 [.ref 669]) [] s db_zV (db_f223 s ) := by
  show db_Rf _ _ _ 0 [(0, .ref 669)] [] _ _ _
  unfold db_f223
  refine db_Rgo (pc' := 5) (lv' := [(0, .ref 669)]) (st' := [.int (s.1 669 16), .ref 669]) 3 rfl ?_
  refine db_RpuI (pc' := 8) (lv1 := [(0, .ref 669)]) rfl rfl rfl rfl rfl rfl (by decide) rfl rfl fun s1 => ?_
  exact db_f223_b8_ok db_FU _
noncomputable def db_f222_b17 (s : db_S) : Option (Bool × db_S) :=
  (db_bd (db_f211 s (5 : Int32)) fun q1 s2 => (some (q1, s2)))
set_option maxRecDepth 100000 in
theorem db_f222_b17_ok {X : db_X} {d : Nat}  {s : db_S} : db_Rf X (d + 2) dbm_222 17 [(0, .ref 669)] [] s db_zB (db_f222_b17 s ) := by
  unfold db_f222_b17
  refine db_Rgo (pc' := 19) (lv' := [(0, .ref 669)]) (st' := [.int (5 : Int32), .ref 669]) 2 rfl ?_
  refine db_RcdB (mr' := dbm_211) (as := [.ref 669, .int (5 : Int32)]) (rest := []) (pc' := 22) (lv1 := [(0, .ref 669)]) rfl rfl rfl rfl rfl (db_f211_ok) fun q1 s2 => ?_
  exact db_RretB (lv1 := [(0, .ref 669)]) rfl rfl rfl rfl
/-- DreamBookModel.starts(II)Z -/
noncomputable def db_f222 (s : db_S) (v1 : Int32) (v2 : Int32) : Option (Bool × db_S) :=
  (cond (db_cnd .lt v1 0) (db_f222_b17 s ) (cond (db_cnd .gt v1 (s.1 669 8)) (db_f222_b17 s ) (cond (db_cnd .le v1 v2) ((db_pI s 669 9 v1).bind fun s1 => ((db_pI s1 669 8 (0 : Int32)).bind fun s2 => ((db_pI s2 669 16 (0 : Int32)).bind fun s3 => ((db_pI s3 669 12 (0 : Int32)).bind fun s4 => ((db_f223 s4).bind fun s6 => (some (true, s6))))))) (db_f222_b17 s ))))
set_option maxRecDepth 100000 in
theorem db_f222_ok {X : db_X} {d : Nat} {s : db_S} {v1 : Int32} {v2 : Int32} : db_Rf X (d + 2) dbm_222 0 (lv_args 0 [.ref 669, .int v1, .int v2]) [] s db_zB (db_f222 s v1 v2) := by
  show db_Rf _ _ _ 0 [(0, .ref 669), (1, .int v1), (2, .int v2)] [] _ _ _
  unfold db_f222
  refine db_Rgo (pc' := 1) (lv' := [(0, .ref 669), (1, .int v1), (2, .int v2)]) (st' := [.int v1]) 1 rfl ?_
  refine db_Rif (pc' := 4) (tg := 17) (lv1 := [(0, .ref 669), (1, .int v1), (2, .int v2)]) rfl rfl rfl rfl ?_ ?_
  · refine db_Rn (lv1 := [(0, .ref 669)]) rfl rfl rfl ?_
    exact db_f222_b17_ok
  refine db_Rgo (pc' := 9) (lv' := [(0, .ref 669), (1, .int v1), (2, .int v2)]) (st' := [.int (s.1 669 8), .int v1]) 3 rfl ?_
  refine db_Ric (pc' := 12) (tg := 17) (lv1 := [(0, .ref 669), (1, .int v1), (2, .int v2)]) rfl rfl rfl rfl ?_ ?_
  · refine db_Rn (lv1 := [(0, .ref 669)]) rfl rfl rfl ?_
    exact db_f222_b17_ok
  refine db_Rgo (pc' := 14) (lv' := [(0, .ref 669), (1, .int v1), (2, .int v2)]) (st' := [.int v2, .int v1]) 2 rfl ?_
  refine db_Ric (pc' := 17) (tg := 23) (lv1 := [(0, .ref 669), (1, .int v1), (2, .int v2)]) rfl rfl rfl rfl ?_ ?_
  · refine db_Rgo (pc' := 25) (lv' := [(0, .ref 669), (1, .int v1)]) (st' := [.int v1, .ref 669]) 2 rfl ?_
    refine db_RpuI (pc' := 28) (lv1 := [(0, .ref 669), (1, .int v1)]) rfl rfl rfl rfl rfl rfl (by decide) rfl rfl fun s1 => ?_
    refine db_Rgo (pc' := 30) (lv' := [(0, .ref 669), (1, .int v1)]) (st' := [.int (0 : Int32), .ref 669]) 2 rfl ?_
    refine db_RpuI (pc' := 33) (lv1 := [(0, .ref 669), (1, .int v1)]) rfl rfl rfl rfl rfl rfl (by decide) rfl rfl fun s2 => ?_
    refine db_Rgo (pc' := 35) (lv' := [(0, .ref 669), (1, .int v1)]) (st' := [.int (0 : Int32), .ref 669]) 2 rfl ?_
    refine db_RpuI (pc' := 38) (lv1 := [(0, .ref 669), (1, .int v1)]) rfl rfl rfl rfl rfl rfl (by decide) rfl rfl fun s3 => ?_
    refine db_Rgo (pc' := 40) (lv' := [(0, .ref 669), (1, .int v1)]) (st' := [.int (0 : Int32), .ref 669]) 2 rfl ?_
    refine db_RpuI (pc' := 43) (lv1 := [(0, .ref 669), (1, .int v1)]) rfl rfl rfl rfl rfl rfl (by decide) rfl rfl fun s4 => ?_
    refine db_Rgo (pc' := 44) (lv' := [(0, .ref 669), (1, .int v1)]) (st' := [.ref 669]) 1 rfl ?_
    refine db_RcV (mr' := dbm_223) (as := [.ref 669]) (rest := []) (pc' := 47) (lv1 := [(0, .ref 669), (1, .int v1)]) rfl rfl rfl rfl rfl (db_f223_ok) fun s6 => ?_
    refine db_Rgo (pc' := 48) (lv' := [(0, .ref 669), (1, .int v1)]) (st' := [.int (1 : Int32)]) 1 rfl ?_
    exact db_Rret (lv1 := [(0, .ref 669), (1, .int v1)]) rfl rfl rfl rfl
  refine db_Rn (lv1 := [(0, .ref 669)]) rfl rfl rfl ?_
  exact db_f222_b17_ok
noncomputable def db_f229_b91 (s : db_S) (v5 : Int32) (t0 : Int64) : Option Int64 :=
  (cond (db_cnd .le v5 0) (some t0) (some (((t0 * (32 : Int64)) + (Int32.toInt64 v5)) - (96 : Int64))))
set_option maxRecDepth 100000 in
theorem db_f229_b91_ok {X : db_X} {d : Nat}  {s : db_S} {v5 : Int32} {t0 : Int64} : db_Rf X (d + 0) dbm_229 91 [(5, .int v5)] [.long t0] s (db_yL s) (db_f229_b91 s v5 t0) := by
  unfold db_f229_b91
  refine db_Rgo (pc' := 95) (lv' := [(6, .long t0), (5, .int v5)]) (st' := [.int v5]) 2 rfl ?_
  refine db_Rif (pc' := 98) (tg := 115) (lv1 := [(6, .long t0), (5, .int v5)]) rfl rfl rfl rfl ?_ ?_
  · refine db_Rgo (pc' := 117) (lv' := [(6, .long t0)]) (st' := [.long t0]) 1 rfl ?_
    exact db_Rret (lv1 := []) rfl rfl rfl rfl
  refine db_Rgo (pc' := 117) (lv' := [(6, .long t0), (5, .int v5)]) (st' := [.long (((t0 * (32 : Int64)) + (Int32.toInt64 v5)) - (96 : Int64))]) 9 rfl ?_
  exact db_Rret (lv1 := []) rfl rfl rfl rfl
noncomputable def db_f229_b65 (s : db_S) (v4 : Int32) (v5 : Int32) (t0 : Int64) : Option Int64 :=
  (cond (db_cnd .le v4 0) (db_f229_b91 s v5 t0) (db_f229_b91 s v5 (((t0 * (32 : Int64)) + (Int32.toInt64 v4)) - (96 : Int64))))
set_option maxRecDepth 100000 in
theorem db_f229_b65_ok {X : db_X} {d : Nat}  {s : db_S} {v4 : Int32} {v5 : Int32} {t0 : Int64} : db_Rf X (d + 0) dbm_229 65 [(4, .int v4), (5, .int v5)] [.long t0] s (db_yL s) (db_f229_b65 s v4 v5 t0) := by
  unfold db_f229_b65
  refine db_Rgo (pc' := 69) (lv' := [(6, .long t0), (4, .int v4), (5, .int v5)]) (st' := [.int v4]) 2 rfl ?_
  refine db_Rif (pc' := 72) (tg := 89) (lv1 := [(6, .long t0), (4, .int v4), (5, .int v5)]) rfl rfl rfl rfl ?_ ?_
  · refine db_Rgo (pc' := 91) (lv' := [(5, .int v5), (6, .long t0)]) (st' := [.long t0]) 1 rfl ?_
    refine db_Rn (lv1 := [(5, .int v5)]) rfl rfl rfl ?_
    exact db_f229_b91_ok
  refine db_Rgo (pc' := 91) (lv' := [(6, .long t0), (4, .int v4), (5, .int v5)]) (st' := [.long (((t0 * (32 : Int64)) + (Int32.toInt64 v4)) - (96 : Int64))]) 9 rfl ?_
  refine db_Rn (lv1 := [(5, .int v5)]) rfl rfl rfl ?_
  exact db_f229_b91_ok
noncomputable def db_f229_b41 (s : db_S) (v3 : Int32) (v4 : Int32) (v5 : Int32) (t0 : Int64) : Option Int64 :=
  (cond (db_cnd .le v3 0) (db_f229_b65 s v4 v5 t0) (db_f229_b65 s v4 v5 (((t0 * (32 : Int64)) + (Int32.toInt64 v3)) - (96 : Int64))))
set_option maxRecDepth 100000 in
theorem db_f229_b41_ok {X : db_X} {d : Nat}  {s : db_S} {v3 : Int32} {v4 : Int32} {v5 : Int32} {t0 : Int64} : db_Rf X (d + 0) dbm_229 41 [(3, .int v3), (4, .int v4), (5, .int v5)] [.long t0] s (db_yL s) (db_f229_b41 s v3 v4 v5 t0) := by
  unfold db_f229_b41
  refine db_Rgo (pc' := 44) (lv' := [(6, .long t0), (3, .int v3), (4, .int v4), (5, .int v5)]) (st' := [.int v3]) 2 rfl ?_
  refine db_Rif (pc' := 47) (tg := 63) (lv1 := [(6, .long t0), (3, .int v3), (4, .int v4), (5, .int v5)]) rfl rfl rfl rfl ?_ ?_
  · refine db_Rgo (pc' := 65) (lv' := [(4, .int v4), (5, .int v5), (6, .long t0)]) (st' := [.long t0]) 1 rfl ?_
    refine db_Rn (lv1 := [(4, .int v4), (5, .int v5)]) rfl rfl rfl ?_
    exact db_f229_b65_ok
  refine db_Rgo (pc' := 65) (lv' := [(6, .long t0), (3, .int v3), (4, .int v4), (5, .int v5)]) (st' := [.long (((t0 * (32 : Int64)) + (Int32.toInt64 v3)) - (96 : Int64))]) 9 rfl ?_
  refine db_Rn (lv1 := [(4, .int v4), (5, .int v5)]) rfl rfl rfl ?_
  exact db_f229_b65_ok
/-- DreamBookModel.spelled(IIIIII)J -/
noncomputable def db_f229 (s : db_S) (v0 : Int32) (v1 : Int32) (v2 : Int32) (v3 : Int32) (v4 : Int32) (v5 : Int32) : Option Int64 :=
  (cond (db_cnd .le v2 0) (db_f229_b41 s v3 v4 v5 (((((Int32.toInt64 v0) - (96 : Int64)) * (32 : Int64)) + (Int32.toInt64 v1)) - (96 : Int64))) (db_f229_b41 s v3 v4 v5 ((((((((Int32.toInt64 v0) - (96 : Int64)) * (32 : Int64)) + (Int32.toInt64 v1)) - (96 : Int64)) * (32 : Int64)) + (Int32.toInt64 v2)) - (96 : Int64))))
set_option maxRecDepth 100000 in
theorem db_f229_ok {X : db_X} {d : Nat} {s : db_S} {v0 : Int32} {v1 : Int32} {v2 : Int32} {v3 : Int32} {v4 : Int32} {v5 : Int32} : db_Rf X (d + 0) dbm_229 0 (lv_args 0 [.int v0, .int v1, .int v2, .int v3, .int v4, .int v5]) [] s (db_yL s) (db_f229 s v0 v1 v2 v3 v4 v5) := by
  show db_Rf _ _ _ 0 [(0, .int v0), (1, .int v1), (2, .int v2), (3, .int v3), (4, .int v4), (5, .int v5)] [] _ _ _
  unfold db_f229
  refine db_Rgo (pc' := 20) (lv' := [(6, .long (((((Int32.toInt64 v0) - (96 : Int64)) * (32 : Int64)) + (Int32.toInt64 v1)) - (96 : Int64))), (0, .int v0), (1, .int v1), (2, .int v2), (3, .int v3), (4, .int v4), (5, .int v5)]) (st' := [.int v2]) 13 rfl ?_
  refine db_Rif (pc' := 23) (tg := 39) (lv1 := [(6, .long (((((Int32.toInt64 v0) - (96 : Int64)) * (32 : Int64)) + (Int32.toInt64 v1)) - (96 : Int64))), (0, .int v0), (1, .int v1), (2, .int v2), (3, .int v3), (4, .int v4), (5, .int v5)]) rfl rfl rfl rfl ?_ ?_
  · refine db_Rgo (pc' := 41) (lv' := [(3, .int v3), (4, .int v4), (5, .int v5), (6, .long (((((Int32.toInt64 v0) - (96 : Int64)) * (32 : Int64)) + (Int32.toInt64 v1)) - (96 : Int64)))]) (st' := [.long (((((Int32.toInt64 v0) - (96 : Int64)) * (32 : Int64)) + (Int32.toInt64 v1)) - (96 : Int64))]) 1 rfl ?_
    refine db_Rn (lv1 := [(3, .int v3), (4, .int v4), (5, .int v5)]) rfl rfl rfl ?_
    exact db_f229_b41_ok
  refine db_Rgo (pc' := 41) (lv' := [(6, .long (((((Int32.toInt64 v0) - (96 : Int64)) * (32 : Int64)) + (Int32.toInt64 v1)) - (96 : Int64))), (0, .int v0), (1, .int v1), (2, .int v2), (3, .int v3), (4, .int v4), (5, .int v5)]) (st' := [.long ((((((((Int32.toInt64 v0) - (96 : Int64)) * (32 : Int64)) + (Int32.toInt64 v1)) - (96 : Int64)) * (32 : Int64)) + (Int32.toInt64 v2)) - (96 : Int64))]) 9 rfl ?_
  refine db_Rn (lv1 := [(3, .int v3), (4, .int v4), (5, .int v5)]) rfl rfl rfl ?_
  exact db_f229_b41_ok
/-- DreamBookModel.isWord(J)Z -/
noncomputable def db_f230 (s : db_S) (v1 : Int64) : Option Bool :=
  (cond (db_cnd .ne (s.1 669 14) (1 : Int32)) (some false) (cond (db_cnd .ne (lg_cmp (s.2 669 19) v1) 0) (some false) (some true)))
set_option maxRecDepth 100000 in
theorem db_f230_ok {X : db_X} {d : Nat} {s : db_S} {v1 : Int64} : db_Rf X (d + 0) dbm_230 0 (lv_args 0 [.ref 669, .long v1]) [] s (db_yB s) (db_f230 s v1) := by
  show db_Rf _ _ _ 0 [(0, .ref 669), (1, .long v1)] [] _ _ _
  unfold db_f230
  refine db_Rgo (pc' := 5) (lv' := [(0, .ref 669), (1, .long v1)]) (st' := [.int (1 : Int32), .int (s.1 669 14)]) 3 rfl ?_
  refine db_Ric (pc' := 8) (tg := 21) (lv1 := [(0, .ref 669), (1, .long v1)]) rfl rfl rfl rfl ?_ ?_
  · refine db_Rgo (pc' := 22) (lv' := []) (st' := [.int (0 : Int32)]) 1 rfl ?_
    exact db_Rret (lv1 := []) rfl rfl rfl rfl
  refine db_Rgo (pc' := 14) (lv' := [(0, .ref 669), (1, .long v1)]) (st' := [.int (lg_cmp (s.2 669 19) v1)]) 4 rfl ?_
  refine db_Rif (pc' := 17) (tg := 21) (lv1 := [(0, .ref 669), (1, .long v1)]) rfl rfl rfl rfl ?_ ?_
  · refine db_Rgo (pc' := 22) (lv' := []) (st' := [.int (0 : Int32)]) 1 rfl ?_
    exact db_Rret (lv1 := []) rfl rfl rfl rfl
  refine db_Rgo (pc' := 22) (lv' := [(0, .ref 669), (1, .long v1)]) (st' := [.int (1 : Int32)]) 2 rfl ?_
  exact db_Rret (lv1 := []) rfl rfl rfl rfl
/-- DreamBookModel.isThing()Z -/
noncomputable def db_f228 (s : db_S) : Option Bool :=
  ((db_f229 s (116 : Int32) (104 : Int32) (105 : Int32) (110 : Int32) (103 : Int32) (0 : Int32)).bind fun q1 => ((db_f230 s q1).bind fun q3 => (some q3)))
set_option maxRecDepth 100000 in
theorem db_f228_ok {X : db_X} {d : Nat} {s : db_S} : db_Rf X (d + 1) dbm_228 0 (lv_args 0 [.ref 669]) [] s (db_yB s) (db_f228 s ) := by
  show db_Rf _ _ _ 0 [(0, .ref 669)] [] _ _ _
  unfold db_f228
  refine db_Rgo (pc' := 12) (lv' := [(0, .ref 669)]) (st' := [.int (0 : Int32), .int (103 : Int32), .int (110 : Int32), .int (105 : Int32), .int (104 : Int32), .int (116 : Int32), .ref 669]) 7 rfl ?_
  refine db_RcyL (mr' := dbm_229) (as := [.int (116 : Int32), .int (104 : Int32), .int (105 : Int32), .int (110 : Int32), .int (103 : Int32), .int (0 : Int32)]) (rest := [.ref 669]) (pc' := 15) (lv1 := [(0, .ref 669)]) rfl rfl rfl rfl rfl (db_f229_ok) fun q1 => ?_
  refine db_RcyB (mr' := dbm_230) (as := [.ref 669, .long q1]) (rest := []) (pc' := 18) (lv1 := [(0, .ref 669)]) rfl rfl rfl rfl rfl (db_f230_ok) fun q3 => ?_
  exact db_RretB (lv1 := [(0, .ref 669)]) rfl rfl rfl rfl
/-- DreamBookModel.isPerson()Z -/
noncomputable def db_f237 (s : db_S) : Option Bool :=
  ((db_f229 s (112 : Int32) (101 : Int32) (114 : Int32) (115 : Int32) (111 : Int32) (110 : Int32)).bind fun q1 => ((db_f230 s q1).bind fun q3 => (some q3)))
set_option maxRecDepth 100000 in
theorem db_f237_ok {X : db_X} {d : Nat} {s : db_S} : db_Rf X (d + 1) dbm_237 0 (lv_args 0 [.ref 669]) [] s (db_yB s) (db_f237 s ) := by
  show db_Rf _ _ _ 0 [(0, .ref 669)] [] _ _ _
  unfold db_f237
  refine db_Rgo (pc' := 13) (lv' := [(0, .ref 669)]) (st' := [.int (110 : Int32), .int (111 : Int32), .int (115 : Int32), .int (114 : Int32), .int (101 : Int32), .int (112 : Int32), .ref 669]) 7 rfl ?_
  refine db_RcyL (mr' := dbm_229) (as := [.int (112 : Int32), .int (101 : Int32), .int (114 : Int32), .int (115 : Int32), .int (111 : Int32), .int (110 : Int32)]) (rest := [.ref 669]) (pc' := 16) (lv1 := [(0, .ref 669)]) rfl rfl rfl rfl rfl (db_f229_ok) fun q1 => ?_
  refine db_RcyB (mr' := dbm_230) (as := [.ref 669, .long q1]) (rest := []) (pc' := 19) (lv1 := [(0, .ref 669)]) rfl rfl rfl rfl rfl (db_f230_ok) fun q3 => ?_
  exact db_RretB (lv1 := [(0, .ref 669)]) rfl rfl rfl rfl
/-- DreamBookModel.isSeason()Z -/
noncomputable def db_f239 (s : db_S) : Option Bool :=
  ((db_f229 s (115 : Int32) (101 : Int32) (97 : Int32) (115 : Int32) (111 : Int32) (110 : Int32)).bind fun q1 => ((db_f230 s q1).bind fun q3 => (some q3)))
set_option maxRecDepth 100000 in
theorem db_f239_ok {X : db_X} {d : Nat} {s : db_S} : db_Rf X (d + 1) dbm_239 0 (lv_args 0 [.ref 669]) [] s (db_yB s) (db_f239 s ) := by
  show db_Rf _ _ _ 0 [(0, .ref 669)] [] _ _ _
  unfold db_f239
  refine db_Rgo (pc' := 13) (lv' := [(0, .ref 669)]) (st' := [.int (110 : Int32), .int (111 : Int32), .int (115 : Int32), .int (97 : Int32), .int (101 : Int32), .int (115 : Int32), .ref 669]) 7 rfl ?_
  refine db_RcyL (mr' := dbm_229) (as := [.int (115 : Int32), .int (101 : Int32), .int (97 : Int32), .int (115 : Int32), .int (111 : Int32), .int (110 : Int32)]) (rest := [.ref 669]) (pc' := 16) (lv1 := [(0, .ref 669)]) rfl rfl rfl rfl rfl (db_f229_ok) fun q1 => ?_
  refine db_RcyB (mr' := dbm_230) (as := [.ref 669, .long q1]) (rest := []) (pc' := 19) (lv1 := [(0, .ref 669)]) rfl rfl rfl rfl rfl (db_f230_ok) fun q3 => ?_
  exact db_RretB (lv1 := [(0, .ref 669)]) rfl rfl rfl rfl
/-- DreamBookModel.isRule()Z -/
noncomputable def db_f241 (s : db_S) : Option Bool :=
  ((db_f229 s (114 : Int32) (117 : Int32) (108 : Int32) (101 : Int32) (0 : Int32) (0 : Int32)).bind fun q1 => ((db_f230 s q1).bind fun q3 => (some q3)))
set_option maxRecDepth 100000 in
theorem db_f241_ok {X : db_X} {d : Nat} {s : db_S} : db_Rf X (d + 1) dbm_241 0 (lv_args 0 [.ref 669]) [] s (db_yB s) (db_f241 s ) := by
  show db_Rf _ _ _ 0 [(0, .ref 669)] [] _ _ _
  unfold db_f241
  refine db_Rgo (pc' := 11) (lv' := [(0, .ref 669)]) (st' := [.int (0 : Int32), .int (0 : Int32), .int (101 : Int32), .int (108 : Int32), .int (117 : Int32), .int (114 : Int32), .ref 669]) 7 rfl ?_
  refine db_RcyL (mr' := dbm_229) (as := [.int (114 : Int32), .int (117 : Int32), .int (108 : Int32), .int (101 : Int32), .int (0 : Int32), .int (0 : Int32)]) (rest := [.ref 669]) (pc' := 14) (lv1 := [(0, .ref 669)]) rfl rfl rfl rfl rfl (db_f229_ok) fun q1 => ?_
  refine db_RcyB (mr' := dbm_230) (as := [.ref 669, .long q1]) (rest := []) (pc' := 17) (lv1 := [(0, .ref 669)]) rfl rfl rfl rfl rfl (db_f230_ok) fun q3 => ?_
  exact db_RretB (lv1 := [(0, .ref 669)]) rfl rfl rfl rfl
/-- DreamBookModel.isNote()Z -/
noncomputable def db_f249 (s : db_S) : Option Bool :=
  ((db_f229 s (110 : Int32) (111 : Int32) (116 : Int32) (101 : Int32) (0 : Int32) (0 : Int32)).bind fun q1 => ((db_f230 s q1).bind fun q3 => (some q3)))
set_option maxRecDepth 100000 in
theorem db_f249_ok {X : db_X} {d : Nat} {s : db_S} : db_Rf X (d + 1) dbm_249 0 (lv_args 0 [.ref 669]) [] s (db_yB s) (db_f249 s ) := by
  show db_Rf _ _ _ 0 [(0, .ref 669)] [] _ _ _
  unfold db_f249
  refine db_Rgo (pc' := 11) (lv' := [(0, .ref 669)]) (st' := [.int (0 : Int32), .int (0 : Int32), .int (101 : Int32), .int (116 : Int32), .int (111 : Int32), .int (110 : Int32), .ref 669]) 7 rfl ?_
  refine db_RcyL (mr' := dbm_229) (as := [.int (110 : Int32), .int (111 : Int32), .int (116 : Int32), .int (101 : Int32), .int (0 : Int32), .int (0 : Int32)]) (rest := [.ref 669]) (pc' := 14) (lv1 := [(0, .ref 669)]) rfl rfl rfl rfl rfl (db_f229_ok) fun q1 => ?_
  refine db_RcyB (mr' := dbm_230) (as := [.ref 669, .long q1]) (rest := []) (pc' := 17) (lv1 := [(0, .ref 669)]) rfl rfl rfl rfl rfl (db_f230_ok) fun q3 => ?_
  exact db_RretB (lv1 := [(0, .ref 669)]) rfl rfl rfl rfl
/-- DreamBookModel.isDream()Z -/
noncomputable def db_f251 (s : db_S) : Option Bool :=
  ((db_f229 s (100 : Int32) (114 : Int32) (101 : Int32) (97 : Int32) (109 : Int32) (0 : Int32)).bind fun q1 => ((db_f230 s q1).bind fun q3 => (some q3)))
set_option maxRecDepth 100000 in
theorem db_f251_ok {X : db_X} {d : Nat} {s : db_S} : db_Rf X (d + 1) dbm_251 0 (lv_args 0 [.ref 669]) [] s (db_yB s) (db_f251 s ) := by
  show db_Rf _ _ _ 0 [(0, .ref 669)] [] _ _ _
  unfold db_f251
  refine db_Rgo (pc' := 12) (lv' := [(0, .ref 669)]) (st' := [.int (0 : Int32), .int (109 : Int32), .int (97 : Int32), .int (101 : Int32), .int (114 : Int32), .int (100 : Int32), .ref 669]) 7 rfl ?_
  refine db_RcyL (mr' := dbm_229) (as := [.int (100 : Int32), .int (114 : Int32), .int (101 : Int32), .int (97 : Int32), .int (109 : Int32), .int (0 : Int32)]) (rest := [.ref 669]) (pc' := 15) (lv1 := [(0, .ref 669)]) rfl rfl rfl rfl rfl (db_f229_ok) fun q1 => ?_
  refine db_RcyB (mr' := dbm_230) (as := [.ref 669, .long q1]) (rest := []) (pc' := 18) (lv1 := [(0, .ref 669)]) rfl rfl rfl rfl rfl (db_f230_ok) fun q3 => ?_
  exact db_RretB (lv1 := [(0, .ref 669)]) rfl rfl rfl rfl
/-- DreamBookModel.fail(II)V -/
noncomputable def db_f234 (s : db_S) (v1 : Int32) (v2 : Int32) : Option db_S :=
  (cond (db_cnd .le (s.1 669 12) 0) ((db_pI s 669 12 v1).bind fun s1 => ((db_pI s1 669 13 v2).bind fun s2 => (some s2))) (some s))
set_option maxRecDepth 100000 in
theorem db_f234_ok {X : db_X} {d : Nat} {s : db_S} {v1 : Int32} {v2 : Int32} : db_Rf X (d + 0) dbm_234 0 (lv_args 0 [.ref 669, .int v1, .int v2]) [] s db_zV (db_f234 s v1 v2) := by
  show db_Rf _ _ _ 0 [(0, .ref 669), (1, .int v1), (2, .int v2)] [] _ _ _
  unfold db_f234
  refine db_Rgo (pc' := 4) (lv' := [(0, .ref 669), (1, .int v1), (2, .int v2)]) (st' := [.int (s.1 669 12)]) 2 rfl ?_
  refine db_Rif (pc' := 7) (tg := 8) (lv1 := [(0, .ref 669), (1, .int v1), (2, .int v2)]) rfl rfl rfl rfl ?_ ?_
  · refine db_Rgo (pc' := 10) (lv' := [(0, .ref 669), (1, .int v1), (2, .int v2)]) (st' := [.int v1, .ref 669]) 2 rfl ?_
    refine db_RpuI (pc' := 13) (lv1 := [(0, .ref 669), (1, .int v1), (2, .int v2)]) rfl rfl rfl rfl rfl rfl (by decide) rfl rfl fun s1 => ?_
    refine db_Rgo (pc' := 15) (lv' := [(0, .ref 669), (1, .int v1), (2, .int v2)]) (st' := [.int v2, .ref 669]) 2 rfl ?_
    refine db_RpuI (pc' := 18) (lv1 := [(0, .ref 669), (1, .int v1), (2, .int v2)]) rfl rfl rfl rfl rfl rfl (by decide) rfl rfl fun s2 => ?_
    exact db_Rret (lv1 := [(0, .ref 669), (1, .int v1), (2, .int v2)]) rfl rfl rfl rfl
  exact db_Rret (lv1 := [(0, .ref 669), (1, .int v1), (2, .int v2)]) rfl rfl rfl rfl
noncomputable def db_f257_b14 (s : db_S) (t1 : Int32) : Option db_S :=
  ((db_f234 s t1 (s.1 669 15)).bind fun s2 => (some s2))
set_option maxRecDepth 100000 in
theorem db_f257_b14_ok {X : db_X} {d : Nat}  {s : db_S} {t1 : Int32} : db_Rf X (d + 1) dbm_257 14 [(0, .ref 669)] [.int t1, .ref 669] s db_zV (db_f257_b14 s t1) := by
  unfold db_f257_b14
  refine db_Rgo (pc' := 18) (lv' := [(0, .ref 669)]) (st' := [.int (s.1 669 15), .int t1, .ref 669]) 2 rfl ?_
  refine db_RcV (mr' := dbm_234) (as := [.ref 669, .int t1, .int (s.1 669 15)]) (rest := []) (pc' := 21) (lv1 := [(0, .ref 669)]) rfl rfl rfl rfl rfl (db_f234_ok) fun s2 => ?_
  exact db_Rret (lv1 := [(0, .ref 669)]) rfl rfl rfl rfl
/-- DreamBookModel.wrong()V -/
noncomputable def db_f257 (s : db_S) : Option db_S :=
  (cond (db_cnd .ne (s.1 669 14) (4 : Int32)) (db_f257_b14 s (2 : Int32)) (db_f257_b14 s (1 : Int32)))
set_option maxRecDepth 100000 in
theorem db_f257_ok {X : db_X} {d : Nat} {s : db_S} : db_Rf X (d + 1) dbm_257 0 (lv_args 0 [.ref 669]) [] s db_zV (db_f257 s ) := by
  show db_Rf _ _ _ 0 [(0, .ref 669)] [] _ _ _
  unfold db_f257
  refine db_Rgo (pc' := 6) (lv' := [(0, .ref 669)]) (st' := [.int (4 : Int32), .int (s.1 669 14), .ref 669]) 4 rfl ?_
  refine db_Ric (pc' := 9) (tg := 13) (lv1 := [(0, .ref 669)]) rfl rfl rfl rfl ?_ ?_
  · refine db_Rgo (pc' := 14) (lv' := [(0, .ref 669)]) (st' := [.int (2 : Int32), .ref 669]) 1 rfl ?_
    exact db_f257_b14_ok
  refine db_Rgo (pc' := 14) (lv' := [(0, .ref 669)]) (st' := [.int (1 : Int32), .ref 669]) 2 rfl ?_
  exact db_f257_b14_ok
/-- DreamBookModel.manyOf(II)I -/
noncomputable def db_f233 (s : db_S) (v1 : Int32) (v2 : Int32) : Option Int32 :=
  (cond (db_cnd .ge v2 (4 : Int32)) ((db_rI s 674 (((480 : Int32) * v1) + (5 : Int32))).bind fun x1 => (some x1)) ((db_rI s 674 (((480 : Int32) * v1) + v2)).bind fun x2 => (some x2)))
set_option maxRecDepth 100000 in
theorem db_f233_ok {X : db_X} {d : Nat} {s : db_S} {v1 : Int32} {v2 : Int32} : db_Rf X (d + 0) dbm_233 0 (lv_args 0 [.ref 669, .int v1, .int v2]) [] s (db_yI s) (db_f233 s v1 v2) := by
  show db_Rf _ _ _ 0 [(0, .ref 669), (1, .int v1), (2, .int v2)] [] _ _ _
  unfold db_f233
  refine db_Rgo (pc' := 11) (lv' := [(0, .ref 669), (1, .int v1), (2, .int v2)]) (st' := [.int (4 : Int32), .int v2, .int ((480 : Int32) * v1), .ref 674]) 7 rfl ?_
  refine db_Ric (pc' := 14) (tg := 18) (lv1 := [(0, .ref 669), (1, .int v1), (2, .int v2)]) rfl rfl rfl rfl ?_ ?_
  · refine db_Rgo (pc' := 20) (lv' := []) (st' := [.int (((480 : Int32) * v1) + (5 : Int32)), .ref 674]) 2 rfl ?_
    refine db_RldI (pc' := 21) (lv1 := []) rfl rfl rfl fun x1 => ?_
    exact db_Rret (lv1 := []) rfl rfl rfl rfl
  refine db_Rgo (pc' := 20) (lv' := []) (st' := [.int (((480 : Int32) * v1) + v2), .ref 674]) 3 rfl ?_
  refine db_RldI (pc' := 21) (lv1 := []) rfl rfl rfl fun x2 => ?_
  exact db_Rret (lv1 := []) rfl rfl rfl rfl
/-- DreamBookModel.isWidow()Z -/
noncomputable def db_f238 (s : db_S) : Option Bool :=
  ((db_f229 s (119 : Int32) (105 : Int32) (100 : Int32) (111 : Int32) (119 : Int32) (0 : Int32)).bind fun q1 => ((db_f230 s q1).bind fun q3 => (some q3)))
set_option maxRecDepth 100000 in
theorem db_f238_ok {X : db_X} {d : Nat} {s : db_S} : db_Rf X (d + 1) dbm_238 0 (lv_args 0 [.ref 669]) [] s (db_yB s) (db_f238 s ) := by
  show db_Rf _ _ _ 0 [(0, .ref 669)] [] _ _ _
  unfold db_f238
  refine db_Rgo (pc' := 12) (lv' := [(0, .ref 669)]) (st' := [.int (0 : Int32), .int (119 : Int32), .int (111 : Int32), .int (100 : Int32), .int (105 : Int32), .int (119 : Int32), .ref 669]) 7 rfl ?_
  refine db_RcyL (mr' := dbm_229) (as := [.int (119 : Int32), .int (105 : Int32), .int (100 : Int32), .int (111 : Int32), .int (119 : Int32), .int (0 : Int32)]) (rest := [.ref 669]) (pc' := 15) (lv1 := [(0, .ref 669)]) rfl rfl rfl rfl rfl (db_f229_ok) fun q1 => ?_
  refine db_RcyB (mr' := dbm_230) (as := [.ref 669, .long q1]) (rest := []) (pc' := 18) (lv1 := [(0, .ref 669)]) rfl rfl rfl rfl rfl (db_f230_ok) fun q3 => ?_
  exact db_RretB (lv1 := [(0, .ref 669)]) rfl rfl rfl rfl
/-- DreamBookModel.isTurns()Z -/
noncomputable def db_f240 (s : db_S) : Option Bool :=
  ((db_f229 s (116 : Int32) (117 : Int32) (114 : Int32) (110 : Int32) (115 : Int32) (0 : Int32)).bind fun q1 => ((db_f230 s q1).bind fun q3 => (some q3)))
set_option maxRecDepth 100000 in
theorem db_f240_ok {X : db_X} {d : Nat} {s : db_S} : db_Rf X (d + 1) dbm_240 0 (lv_args 0 [.ref 669]) [] s (db_yB s) (db_f240 s ) := by
  show db_Rf _ _ _ 0 [(0, .ref 669)] [] _ _ _
  unfold db_f240
  refine db_Rgo (pc' := 12) (lv' := [(0, .ref 669)]) (st' := [.int (0 : Int32), .int (115 : Int32), .int (110 : Int32), .int (114 : Int32), .int (117 : Int32), .int (116 : Int32), .ref 669]) 7 rfl ?_
  refine db_RcyL (mr' := dbm_229) (as := [.int (116 : Int32), .int (117 : Int32), .int (114 : Int32), .int (110 : Int32), .int (115 : Int32), .int (0 : Int32)]) (rest := [.ref 669]) (pc' := 15) (lv1 := [(0, .ref 669)]) rfl rfl rfl rfl rfl (db_f229_ok) fun q1 => ?_
  refine db_RcyB (mr' := dbm_230) (as := [.ref 669, .long q1]) (rest := []) (pc' := 18) (lv1 := [(0, .ref 669)]) rfl rfl rfl rfl rfl (db_f230_ok) fun q3 => ?_
  exact db_RretB (lv1 := [(0, .ref 669)]) rfl rfl rfl rfl
/-- DreamBookModel.isOf()Z -/
noncomputable def db_f242 (s : db_S) : Option Bool :=
  ((db_f229 s (111 : Int32) (102 : Int32) (0 : Int32) (0 : Int32) (0 : Int32) (0 : Int32)).bind fun q1 => ((db_f230 s q1).bind fun q3 => (some q3)))
set_option maxRecDepth 100000 in
theorem db_f242_ok {X : db_X} {d : Nat} {s : db_S} : db_Rf X (d + 1) dbm_242 0 (lv_args 0 [.ref 669]) [] s (db_yB s) (db_f242 s ) := by
  show db_Rf _ _ _ 0 [(0, .ref 669)] [] _ _ _
  unfold db_f242
  refine db_Rgo (pc' := 9) (lv' := [(0, .ref 669)]) (st' := [.int (0 : Int32), .int (0 : Int32), .int (0 : Int32), .int (0 : Int32), .int (102 : Int32), .int (111 : Int32), .ref 669]) 7 rfl ?_
  refine db_RcyL (mr' := dbm_229) (as := [.int (111 : Int32), .int (102 : Int32), .int (0 : Int32), .int (0 : Int32), .int (0 : Int32), .int (0 : Int32)]) (rest := [.ref 669]) (pc' := 12) (lv1 := [(0, .ref 669)]) rfl rfl rfl rfl rfl (db_f229_ok) fun q1 => ?_
  refine db_RcyB (mr' := dbm_230) (as := [.ref 669, .long q1]) (rest := []) (pc' := 15) (lv1 := [(0, .ref 669)]) rfl rfl rfl rfl rfl (db_f230_ok) fun q3 => ?_
  exact db_RretB (lv1 := [(0, .ref 669)]) rfl rfl rfl rfl
/-- DreamBookModel.isMeans()Z -/
noncomputable def db_f243 (s : db_S) : Option Bool :=
  ((db_f229 s (109 : Int32) (101 : Int32) (97 : Int32) (110 : Int32) (115 : Int32) (0 : Int32)).bind fun q1 => ((db_f230 s q1).bind fun q3 => (some q3)))
set_option maxRecDepth 100000 in
theorem db_f243_ok {X : db_X} {d : Nat} {s : db_S} : db_Rf X (d + 1) dbm_243 0 (lv_args 0 [.ref 669]) [] s (db_yB s) (db_f243 s ) := by
  show db_Rf _ _ _ 0 [(0, .ref 669)] [] _ _ _
  unfold db_f243
  refine db_Rgo (pc' := 12) (lv' := [(0, .ref 669)]) (st' := [.int (0 : Int32), .int (115 : Int32), .int (110 : Int32), .int (97 : Int32), .int (101 : Int32), .int (109 : Int32), .ref 669]) 7 rfl ?_
  refine db_RcyL (mr' := dbm_229) (as := [.int (109 : Int32), .int (101 : Int32), .int (97 : Int32), .int (110 : Int32), .int (115 : Int32), .int (0 : Int32)]) (rest := [.ref 669]) (pc' := 15) (lv1 := [(0, .ref 669)]) rfl rfl rfl rfl rfl (db_f229_ok) fun q1 => ?_
  refine db_RcyB (mr' := dbm_230) (as := [.ref 669, .long q1]) (rest := []) (pc' := 18) (lv1 := [(0, .ref 669)]) rfl rfl rfl rfl rfl (db_f230_ok) fun q3 => ?_
  exact db_RretB (lv1 := [(0, .ref 669)]) rfl rfl rfl rfl
/-- DreamBookModel.isLess()Z -/
noncomputable def db_f244 (s : db_S) : Option Bool :=
  ((db_f229 s (108 : Int32) (101 : Int32) (115 : Int32) (115 : Int32) (0 : Int32) (0 : Int32)).bind fun q1 => ((db_f230 s q1).bind fun q3 => (some q3)))
set_option maxRecDepth 100000 in
theorem db_f244_ok {X : db_X} {d : Nat} {s : db_S} : db_Rf X (d + 1) dbm_244 0 (lv_args 0 [.ref 669]) [] s (db_yB s) (db_f244 s ) := by
  show db_Rf _ _ _ 0 [(0, .ref 669)] [] _ _ _
  unfold db_f244
  refine db_Rgo (pc' := 11) (lv' := [(0, .ref 669)]) (st' := [.int (0 : Int32), .int (0 : Int32), .int (115 : Int32), .int (115 : Int32), .int (101 : Int32), .int (108 : Int32), .ref 669]) 7 rfl ?_
  refine db_RcyL (mr' := dbm_229) (as := [.int (108 : Int32), .int (101 : Int32), .int (115 : Int32), .int (115 : Int32), .int (0 : Int32), .int (0 : Int32)]) (rest := [.ref 669]) (pc' := 14) (lv1 := [(0, .ref 669)]) rfl rfl rfl rfl rfl (db_f229_ok) fun q1 => ?_
  refine db_RcyB (mr' := dbm_230) (as := [.ref 669, .long q1]) (rest := []) (pc' := 17) (lv1 := [(0, .ref 669)]) rfl rfl rfl rfl rfl (db_f230_ok) fun q3 => ?_
  exact db_RretB (lv1 := [(0, .ref 669)]) rfl rfl rfl rfl
/-- DreamBookModel.isBy()Z -/
noncomputable def db_f245 (s : db_S) : Option Bool :=
  ((db_f229 s (98 : Int32) (121 : Int32) (0 : Int32) (0 : Int32) (0 : Int32) (0 : Int32)).bind fun q1 => ((db_f230 s q1).bind fun q3 => (some q3)))
set_option maxRecDepth 100000 in
theorem db_f245_ok {X : db_X} {d : Nat} {s : db_S} : db_Rf X (d + 1) dbm_245 0 (lv_args 0 [.ref 669]) [] s (db_yB s) (db_f245 s ) := by
  show db_Rf _ _ _ 0 [(0, .ref 669)] [] _ _ _
  unfold db_f245
  refine db_Rgo (pc' := 9) (lv' := [(0, .ref 669)]) (st' := [.int (0 : Int32), .int (0 : Int32), .int (0 : Int32), .int (0 : Int32), .int (121 : Int32), .int (98 : Int32), .ref 669]) 7 rfl ?_
  refine db_RcyL (mr' := dbm_229) (as := [.int (98 : Int32), .int (121 : Int32), .int (0 : Int32), .int (0 : Int32), .int (0 : Int32), .int (0 : Int32)]) (rest := [.ref 669]) (pc' := 12) (lv1 := [(0, .ref 669)]) rfl rfl rfl rfl rfl (db_f229_ok) fun q1 => ?_
  refine db_RcyB (mr' := dbm_230) (as := [.ref 669, .long q1]) (rest := []) (pc' := 15) (lv1 := [(0, .ref 669)]) rfl rfl rfl rfl rfl (db_f230_ok) fun q3 => ?_
  exact db_RretB (lv1 := [(0, .ref 669)]) rfl rfl rfl rfl
/-- DreamBookModel.isUnless()Z -/
noncomputable def db_f246 (s : db_S) : Option Bool :=
  ((db_f229 s (117 : Int32) (110 : Int32) (108 : Int32) (101 : Int32) (115 : Int32) (115 : Int32)).bind fun q1 => ((db_f230 s q1).bind fun q3 => (some q3)))
set_option maxRecDepth 100000 in
theorem db_f246_ok {X : db_X} {d : Nat} {s : db_S} : db_Rf X (d + 1) dbm_246 0 (lv_args 0 [.ref 669]) [] s (db_yB s) (db_f246 s ) := by
  show db_Rf _ _ _ 0 [(0, .ref 669)] [] _ _ _
  unfold db_f246
  refine db_Rgo (pc' := 13) (lv' := [(0, .ref 669)]) (st' := [.int (115 : Int32), .int (115 : Int32), .int (101 : Int32), .int (108 : Int32), .int (110 : Int32), .int (117 : Int32), .ref 669]) 7 rfl ?_
  refine db_RcyL (mr' := dbm_229) (as := [.int (117 : Int32), .int (110 : Int32), .int (108 : Int32), .int (101 : Int32), .int (115 : Int32), .int (115 : Int32)]) (rest := [.ref 669]) (pc' := 16) (lv1 := [(0, .ref 669)]) rfl rfl rfl rfl rfl (db_f229_ok) fun q1 => ?_
  refine db_RcyB (mr' := dbm_230) (as := [.ref 669, .long q1]) (rest := []) (pc' := 19) (lv1 := [(0, .ref 669)]) rfl rfl rfl rfl rfl (db_f230_ok) fun q3 => ?_
  exact db_RretB (lv1 := [(0, .ref 669)]) rfl rfl rfl rfl
/-- DreamBookModel.isFor()Z -/
noncomputable def db_f247 (s : db_S) : Option Bool :=
  ((db_f229 s (102 : Int32) (111 : Int32) (114 : Int32) (0 : Int32) (0 : Int32) (0 : Int32)).bind fun q1 => ((db_f230 s q1).bind fun q3 => (some q3)))
set_option maxRecDepth 100000 in
theorem db_f247_ok {X : db_X} {d : Nat} {s : db_S} : db_Rf X (d + 1) dbm_247 0 (lv_args 0 [.ref 669]) [] s (db_yB s) (db_f247 s ) := by
  show db_Rf _ _ _ 0 [(0, .ref 669)] [] _ _ _
  unfold db_f247
  refine db_Rgo (pc' := 10) (lv' := [(0, .ref 669)]) (st' := [.int (0 : Int32), .int (0 : Int32), .int (0 : Int32), .int (114 : Int32), .int (111 : Int32), .int (102 : Int32), .ref 669]) 7 rfl ?_
  refine db_RcyL (mr' := dbm_229) (as := [.int (102 : Int32), .int (111 : Int32), .int (114 : Int32), .int (0 : Int32), .int (0 : Int32), .int (0 : Int32)]) (rest := [.ref 669]) (pc' := 13) (lv1 := [(0, .ref 669)]) rfl rfl rfl rfl rfl (db_f229_ok) fun q1 => ?_
  refine db_RcyB (mr' := dbm_230) (as := [.ref 669, .long q1]) (rest := []) (pc' := 16) (lv1 := [(0, .ref 669)]) rfl rfl rfl rfl rfl (db_f230_ok) fun q3 => ?_
  exact db_RretB (lv1 := [(0, .ref 669)]) rfl rfl rfl rfl
/-- DreamBookModel.isInWord()Z -/
noncomputable def db_f248 (s : db_S) : Option Bool :=
  ((db_f229 s (105 : Int32) (110 : Int32) (0 : Int32) (0 : Int32) (0 : Int32) (0 : Int32)).bind fun q1 => ((db_f230 s q1).bind fun q3 => (some q3)))
set_option maxRecDepth 100000 in
theorem db_f248_ok {X : db_X} {d : Nat} {s : db_S} : db_Rf X (d + 1) dbm_248 0 (lv_args 0 [.ref 669]) [] s (db_yB s) (db_f248 s ) := by
  show db_Rf _ _ _ 0 [(0, .ref 669)] [] _ _ _
  unfold db_f248
  refine db_Rgo (pc' := 9) (lv' := [(0, .ref 669)]) (st' := [.int (0 : Int32), .int (0 : Int32), .int (0 : Int32), .int (0 : Int32), .int (110 : Int32), .int (105 : Int32), .ref 669]) 7 rfl ?_
  refine db_RcyL (mr' := dbm_229) (as := [.int (105 : Int32), .int (110 : Int32), .int (0 : Int32), .int (0 : Int32), .int (0 : Int32), .int (0 : Int32)]) (rest := [.ref 669]) (pc' := 12) (lv1 := [(0, .ref 669)]) rfl rfl rfl rfl rfl (db_f229_ok) fun q1 => ?_
  refine db_RcyB (mr' := dbm_230) (as := [.ref 669, .long q1]) (rest := []) (pc' := 15) (lv1 := [(0, .ref 669)]) rfl rfl rfl rfl rfl (db_f230_ok) fun q3 => ?_
  exact db_RretB (lv1 := [(0, .ref 669)]) rfl rfl rfl rfl
/-- DreamBookModel.isStrikes()Z -/
noncomputable def db_f250 (s : db_S) : Option Bool :=
  ((db_f229 s (115 : Int32) (116 : Int32) (114 : Int32) (105 : Int32) (107 : Int32) (101 : Int32)).bind fun q1 => ((db_f230 s ((q1 * (32 : Int64)) + (19 : Int64))).bind fun q3 => (some q3)))
set_option maxRecDepth 100000 in
theorem db_f250_ok {X : db_X} {d : Nat} {s : db_S} : db_Rf X (d + 1) dbm_250 0 (lv_args 0 [.ref 669]) [] s (db_yB s) (db_f250 s ) := by
  show db_Rf _ _ _ 0 [(0, .ref 669)] [] _ _ _
  unfold db_f250
  refine db_Rgo (pc' := 13) (lv' := [(0, .ref 669)]) (st' := [.int (101 : Int32), .int (107 : Int32), .int (105 : Int32), .int (114 : Int32), .int (116 : Int32), .int (115 : Int32), .ref 669]) 7 rfl ?_
  refine db_RcyL (mr' := dbm_229) (as := [.int (115 : Int32), .int (116 : Int32), .int (114 : Int32), .int (105 : Int32), .int (107 : Int32), .int (101 : Int32)]) (rest := [.ref 669]) (pc' := 16) (lv1 := [(0, .ref 669)]) rfl rfl rfl rfl rfl (db_f229_ok) fun q1 => ?_
  refine db_Rgo (pc' := 24) (lv' := [(0, .ref 669)]) (st' := [.long ((q1 * (32 : Int64)) + (19 : Int64)), .ref 669]) 4 rfl ?_
  refine db_RcyB (mr' := dbm_230) (as := [.ref 669, .long ((q1 * (32 : Int64)) + (19 : Int64))]) (rest := []) (pc' := 27) (lv1 := [(0, .ref 669)]) rfl rfl rfl rfl rfl (db_f230_ok) fun q3 => ?_
  exact db_RretB (lv1 := [(0, .ref 669)]) rfl rfl rfl rfl
/-- DreamBookModel.isCosts()Z -/
noncomputable def db_f252 (s : db_S) : Option Bool :=
  ((db_f229 s (99 : Int32) (111 : Int32) (115 : Int32) (116 : Int32) (115 : Int32) (0 : Int32)).bind fun q1 => ((db_f230 s q1).bind fun q3 => (some q3)))
set_option maxRecDepth 100000 in
theorem db_f252_ok {X : db_X} {d : Nat} {s : db_S} : db_Rf X (d + 1) dbm_252 0 (lv_args 0 [.ref 669]) [] s (db_yB s) (db_f252 s ) := by
  show db_Rf _ _ _ 0 [(0, .ref 669)] [] _ _ _
  unfold db_f252
  refine db_Rgo (pc' := 12) (lv' := [(0, .ref 669)]) (st' := [.int (0 : Int32), .int (115 : Int32), .int (116 : Int32), .int (115 : Int32), .int (111 : Int32), .int (99 : Int32), .ref 669]) 7 rfl ?_
  refine db_RcyL (mr' := dbm_229) (as := [.int (99 : Int32), .int (111 : Int32), .int (115 : Int32), .int (116 : Int32), .int (115 : Int32), .int (0 : Int32)]) (rest := [.ref 669]) (pc' := 15) (lv1 := [(0, .ref 669)]) rfl rfl rfl rfl rfl (db_f229_ok) fun q1 => ?_
  refine db_RcyB (mr' := dbm_230) (as := [.ref 669, .long q1]) (rest := []) (pc' := 18) (lv1 := [(0, .ref 669)]) rfl rfl rfl rfl rfl (db_f230_ok) fun q3 => ?_
  exact db_RretB (lv1 := [(0, .ref 669)]) rfl rfl rfl rfl
/-- DreamBookModel.isChance()Z -/
noncomputable def db_f253 (s : db_S) : Option Bool :=
  ((db_f229 s (99 : Int32) (104 : Int32) (97 : Int32) (110 : Int32) (99 : Int32) (101 : Int32)).bind fun q1 => ((db_f230 s q1).bind fun q3 => (some q3)))
set_option maxRecDepth 100000 in
theorem db_f253_ok {X : db_X} {d : Nat} {s : db_S} : db_Rf X (d + 1) dbm_253 0 (lv_args 0 [.ref 669]) [] s (db_yB s) (db_f253 s ) := by
  show db_Rf _ _ _ 0 [(0, .ref 669)] [] _ _ _
  unfold db_f253
  refine db_Rgo (pc' := 13) (lv' := [(0, .ref 669)]) (st' := [.int (101 : Int32), .int (99 : Int32), .int (110 : Int32), .int (97 : Int32), .int (104 : Int32), .int (99 : Int32), .ref 669]) 7 rfl ?_
  refine db_RcyL (mr' := dbm_229) (as := [.int (99 : Int32), .int (104 : Int32), .int (97 : Int32), .int (110 : Int32), .int (99 : Int32), .int (101 : Int32)]) (rest := [.ref 669]) (pc' := 16) (lv1 := [(0, .ref 669)]) rfl rfl rfl rfl rfl (db_f229_ok) fun q1 => ?_
  refine db_RcyB (mr' := dbm_230) (as := [.ref 669, .long q1]) (rest := []) (pc' := 19) (lv1 := [(0, .ref 669)]) rfl rfl rfl rfl rfl (db_f230_ok) fun q3 => ?_
  exact db_RretB (lv1 := [(0, .ref 669)]) rfl rfl rfl rfl
/-- DreamBookModel.stepWord()I -/
noncomputable def db_f254 (s : db_S) : Option Int32 :=
  ((db_f229 s (110 : Int32) (105 : Int32) (103 : Int32) (104 : Int32) (116 : Int32) (0 : Int32)).bind fun q1 => ((db_f230 s q1).bind fun q3 => (cond q3 (some (0 : Int32)) ((db_f229 s (97 : Int32) (110 : Int32) (121 : Int32) (0 : Int32) (0 : Int32) (0 : Int32)).bind fun q5 => ((db_f230 s q5).bind fun q7 => (cond q7 (some (1 : Int32)) ((db_f229 s (115 : Int32) (116 : Int32) (114 : Int32) (105 : Int32) (107 : Int32) (101 : Int32)).bind fun q9 => ((db_f230 s q9).bind fun q11 => (cond q11 (some (2 : Int32)) ((db_f229 s (112 : Int32) (114 : Int32) (105 : Int32) (110 : Int32) (116 : Int32) (0 : Int32)).bind fun q13 => ((db_f230 s q13).bind fun q15 => (cond q15 (some (3 : Int32)) ((db_f229 s (119 : Int32) (104 : Int32) (101 : Int32) (110 : Int32) (0 : Int32) (0 : Int32)).bind fun q17 => ((db_f230 s q17).bind fun q19 => (cond q19 (some (4 : Int32)) ((db_f229 s (108 : Int32) (111 : Int32) (111 : Int32) (112 : Int32) (0 : Int32) (0 : Int32)).bind fun q21 => ((db_f230 s q21).bind fun q23 => (cond q23 (some (5 : Int32)) ((db_f229 s (115 : Int32) (116 : Int32) (111 : Int32) (112 : Int32) (0 : Int32) (0 : Int32)).bind fun q25 => ((db_f230 s q25).bind fun q27 => (cond q27 (some (6 : Int32)) (some (-1 : Int32)))))))))))))))))))))))
set_option maxRecDepth 100000 in
theorem db_f254_ok {X : db_X} {d : Nat} {s : db_S} : db_Rf X (d + 1) dbm_254 0 (lv_args 0 [.ref 669]) [] s (db_yI s) (db_f254 s ) := by
  show db_Rf _ _ _ 0 [(0, .ref 669)] [] _ _ _
  unfold db_f254
  refine db_Rgo (pc' := 12) (lv' := [(0, .ref 669)]) (st' := [.int (0 : Int32), .int (116 : Int32), .int (104 : Int32), .int (103 : Int32), .int (105 : Int32), .int (110 : Int32), .ref 669]) 7 rfl ?_
  refine db_RcyL (mr' := dbm_229) (as := [.int (110 : Int32), .int (105 : Int32), .int (103 : Int32), .int (104 : Int32), .int (116 : Int32), .int (0 : Int32)]) (rest := [.ref 669]) (pc' := 15) (lv1 := [(0, .ref 669)]) rfl rfl rfl rfl rfl (db_f229_ok) fun q1 => ?_
  refine db_RcyB (mr' := dbm_230) (as := [.ref 669, .long q1]) (rest := []) (pc' := 18) (lv1 := [(0, .ref 669)]) rfl rfl rfl rfl rfl (db_f230_ok) fun q3 => ?_
  refine db_RifBe (pc' := 21) (tg := 23) (lv1 := [(0, .ref 669)]) rfl rfl rfl rfl ?_ ?_
  · refine db_Rgo (pc' := 33) (lv' := [(0, .ref 669)]) (st' := [.int (0 : Int32), .int (0 : Int32), .int (0 : Int32), .int (121 : Int32), .int (110 : Int32), .int (97 : Int32), .ref 669]) 7 rfl ?_
    refine db_RcyL (mr' := dbm_229) (as := [.int (97 : Int32), .int (110 : Int32), .int (121 : Int32), .int (0 : Int32), .int (0 : Int32), .int (0 : Int32)]) (rest := [.ref 669]) (pc' := 36) (lv1 := [(0, .ref 669)]) rfl rfl rfl rfl rfl (db_f229_ok) fun q5 => ?_
    refine db_RcyB (mr' := dbm_230) (as := [.ref 669, .long q5]) (rest := []) (pc' := 39) (lv1 := [(0, .ref 669)]) rfl rfl rfl rfl rfl (db_f230_ok) fun q7 => ?_
    refine db_RifBe (pc' := 42) (tg := 44) (lv1 := [(0, .ref 669)]) rfl rfl rfl rfl ?_ ?_
    · refine db_Rgo (pc' := 57) (lv' := [(0, .ref 669)]) (st' := [.int (101 : Int32), .int (107 : Int32), .int (105 : Int32), .int (114 : Int32), .int (116 : Int32), .int (115 : Int32), .ref 669]) 7 rfl ?_
      refine db_RcyL (mr' := dbm_229) (as := [.int (115 : Int32), .int (116 : Int32), .int (114 : Int32), .int (105 : Int32), .int (107 : Int32), .int (101 : Int32)]) (rest := [.ref 669]) (pc' := 60) (lv1 := [(0, .ref 669)]) rfl rfl rfl rfl rfl (db_f229_ok) fun q9 => ?_
      refine db_RcyB (mr' := dbm_230) (as := [.ref 669, .long q9]) (rest := []) (pc' := 63) (lv1 := [(0, .ref 669)]) rfl rfl rfl rfl rfl (db_f230_ok) fun q11 => ?_
      refine db_RifBe (pc' := 66) (tg := 68) (lv1 := [(0, .ref 669)]) rfl rfl rfl rfl ?_ ?_
      · refine db_Rgo (pc' := 80) (lv' := [(0, .ref 669)]) (st' := [.int (0 : Int32), .int (116 : Int32), .int (110 : Int32), .int (105 : Int32), .int (114 : Int32), .int (112 : Int32), .ref 669]) 7 rfl ?_
        refine db_RcyL (mr' := dbm_229) (as := [.int (112 : Int32), .int (114 : Int32), .int (105 : Int32), .int (110 : Int32), .int (116 : Int32), .int (0 : Int32)]) (rest := [.ref 669]) (pc' := 83) (lv1 := [(0, .ref 669)]) rfl rfl rfl rfl rfl (db_f229_ok) fun q13 => ?_
        refine db_RcyB (mr' := dbm_230) (as := [.ref 669, .long q13]) (rest := []) (pc' := 86) (lv1 := [(0, .ref 669)]) rfl rfl rfl rfl rfl (db_f230_ok) fun q15 => ?_
        refine db_RifBe (pc' := 89) (tg := 91) (lv1 := [(0, .ref 669)]) rfl rfl rfl rfl ?_ ?_
        · refine db_Rgo (pc' := 102) (lv' := [(0, .ref 669)]) (st' := [.int (0 : Int32), .int (0 : Int32), .int (110 : Int32), .int (101 : Int32), .int (104 : Int32), .int (119 : Int32), .ref 669]) 7 rfl ?_
          refine db_RcyL (mr' := dbm_229) (as := [.int (119 : Int32), .int (104 : Int32), .int (101 : Int32), .int (110 : Int32), .int (0 : Int32), .int (0 : Int32)]) (rest := [.ref 669]) (pc' := 105) (lv1 := [(0, .ref 669)]) rfl rfl rfl rfl rfl (db_f229_ok) fun q17 => ?_
          refine db_RcyB (mr' := dbm_230) (as := [.ref 669, .long q17]) (rest := []) (pc' := 108) (lv1 := [(0, .ref 669)]) rfl rfl rfl rfl rfl (db_f230_ok) fun q19 => ?_
          refine db_RifBe (pc' := 111) (tg := 113) (lv1 := [(0, .ref 669)]) rfl rfl rfl rfl ?_ ?_
          · refine db_Rgo (pc' := 124) (lv' := [(0, .ref 669)]) (st' := [.int (0 : Int32), .int (0 : Int32), .int (112 : Int32), .int (111 : Int32), .int (111 : Int32), .int (108 : Int32), .ref 669]) 7 rfl ?_
            refine db_RcyL (mr' := dbm_229) (as := [.int (108 : Int32), .int (111 : Int32), .int (111 : Int32), .int (112 : Int32), .int (0 : Int32), .int (0 : Int32)]) (rest := [.ref 669]) (pc' := 127) (lv1 := [(0, .ref 669)]) rfl rfl rfl rfl rfl (db_f229_ok) fun q21 => ?_
            refine db_RcyB (mr' := dbm_230) (as := [.ref 669, .long q21]) (rest := []) (pc' := 130) (lv1 := [(0, .ref 669)]) rfl rfl rfl rfl rfl (db_f230_ok) fun q23 => ?_
            refine db_RifBe (pc' := 133) (tg := 135) (lv1 := [(0, .ref 669)]) rfl rfl rfl rfl ?_ ?_
            · refine db_Rgo (pc' := 146) (lv' := [(0, .ref 669)]) (st' := [.int (0 : Int32), .int (0 : Int32), .int (112 : Int32), .int (111 : Int32), .int (116 : Int32), .int (115 : Int32), .ref 669]) 7 rfl ?_
              refine db_RcyL (mr' := dbm_229) (as := [.int (115 : Int32), .int (116 : Int32), .int (111 : Int32), .int (112 : Int32), .int (0 : Int32), .int (0 : Int32)]) (rest := [.ref 669]) (pc' := 149) (lv1 := [(0, .ref 669)]) rfl rfl rfl rfl rfl (db_f229_ok) fun q25 => ?_
              refine db_RcyB (mr' := dbm_230) (as := [.ref 669, .long q25]) (rest := []) (pc' := 152) (lv1 := [(0, .ref 669)]) rfl rfl rfl rfl rfl (db_f230_ok) fun q27 => ?_
              refine db_RifBe (pc' := 155) (tg := 160) (lv1 := [(0, .ref 669)]) rfl rfl rfl rfl ?_ ?_
              · refine db_Rgo (pc' := 161) (lv' := []) (st' := [.int (-1 : Int32)]) 1 rfl ?_
                exact db_Rret (lv1 := []) rfl rfl rfl rfl
              refine db_Rgo (pc' := 161) (lv' := [(0, .ref 669)]) (st' := [.int (6 : Int32)]) 2 rfl ?_
              exact db_Rret (lv1 := []) rfl rfl rfl rfl
            refine db_Rgo (pc' := 134) (lv' := [(0, .ref 669)]) (st' := [.int (5 : Int32)]) 1 rfl ?_
            exact db_Rret (lv1 := [(0, .ref 669)]) rfl rfl rfl rfl
          refine db_Rgo (pc' := 112) (lv' := [(0, .ref 669)]) (st' := [.int (4 : Int32)]) 1 rfl ?_
          exact db_Rret (lv1 := [(0, .ref 669)]) rfl rfl rfl rfl
        refine db_Rgo (pc' := 90) (lv' := [(0, .ref 669)]) (st' := [.int (3 : Int32)]) 1 rfl ?_
        exact db_Rret (lv1 := [(0, .ref 669)]) rfl rfl rfl rfl
      refine db_Rgo (pc' := 67) (lv' := [(0, .ref 669)]) (st' := [.int (2 : Int32)]) 1 rfl ?_
      exact db_Rret (lv1 := [(0, .ref 669)]) rfl rfl rfl rfl
    refine db_Rgo (pc' := 43) (lv' := [(0, .ref 669)]) (st' := [.int (1 : Int32)]) 1 rfl ?_
    exact db_Rret (lv1 := [(0, .ref 669)]) rfl rfl rfl rfl
  refine db_Rgo (pc' := 22) (lv' := [(0, .ref 669)]) (st' := [.int (0 : Int32)]) 1 rfl ?_
  exact db_Rret (lv1 := [(0, .ref 669)]) rfl rfl rfl rfl
/-- DreamBookModel.testWord()I -/
noncomputable def db_f255 (s : db_S) : Option Int32 :=
  ((db_f229 s (115 : Int32) (117 : Int32) (109 : Int32) (0 : Int32) (0 : Int32) (0 : Int32)).bind fun q1 => ((db_f230 s q1).bind fun q3 => (cond q3 (some (0 : Int32)) ((db_f229 s (119 : Int32) (111 : Int32) (114 : Int32) (110 : Int32) (0 : Int32) (0 : Int32)).bind fun q5 => ((db_f230 s q5).bind fun q7 => (cond q7 (some (1 : Int32)) (some (-1 : Int32))))))))
set_option maxRecDepth 100000 in
theorem db_f255_ok {X : db_X} {d : Nat} {s : db_S} : db_Rf X (d + 1) dbm_255 0 (lv_args 0 [.ref 669]) [] s (db_yI s) (db_f255 s ) := by
  show db_Rf _ _ _ 0 [(0, .ref 669)] [] _ _ _
  unfold db_f255
  refine db_Rgo (pc' := 10) (lv' := [(0, .ref 669)]) (st' := [.int (0 : Int32), .int (0 : Int32), .int (0 : Int32), .int (109 : Int32), .int (117 : Int32), .int (115 : Int32), .ref 669]) 7 rfl ?_
  refine db_RcyL (mr' := dbm_229) (as := [.int (115 : Int32), .int (117 : Int32), .int (109 : Int32), .int (0 : Int32), .int (0 : Int32), .int (0 : Int32)]) (rest := [.ref 669]) (pc' := 13) (lv1 := [(0, .ref 669)]) rfl rfl rfl rfl rfl (db_f229_ok) fun q1 => ?_
  refine db_RcyB (mr' := dbm_230) (as := [.ref 669, .long q1]) (rest := []) (pc' := 16) (lv1 := [(0, .ref 669)]) rfl rfl rfl rfl rfl (db_f230_ok) fun q3 => ?_
  refine db_RifBe (pc' := 19) (tg := 23) (lv1 := [(0, .ref 669)]) rfl rfl rfl rfl ?_ ?_
  · refine db_Rgo (pc' := 34) (lv' := [(0, .ref 669)]) (st' := [.int (0 : Int32), .int (0 : Int32), .int (110 : Int32), .int (114 : Int32), .int (111 : Int32), .int (119 : Int32), .ref 669]) 7 rfl ?_
    refine db_RcyL (mr' := dbm_229) (as := [.int (119 : Int32), .int (111 : Int32), .int (114 : Int32), .int (110 : Int32), .int (0 : Int32), .int (0 : Int32)]) (rest := [.ref 669]) (pc' := 37) (lv1 := [(0, .ref 669)]) rfl rfl rfl rfl rfl (db_f229_ok) fun q5 => ?_
    refine db_RcyB (mr' := dbm_230) (as := [.ref 669, .long q5]) (rest := []) (pc' := 40) (lv1 := [(0, .ref 669)]) rfl rfl rfl rfl rfl (db_f230_ok) fun q7 => ?_
    refine db_RifBe (pc' := 43) (tg := 47) (lv1 := [(0, .ref 669)]) rfl rfl rfl rfl ?_ ?_
    · refine db_Rgo (pc' := 48) (lv' := []) (st' := [.int (-1 : Int32)]) 1 rfl ?_
      exact db_Rret (lv1 := []) rfl rfl rfl rfl
    refine db_Rgo (pc' := 48) (lv' := [(0, .ref 669)]) (st' := [.int (1 : Int32)]) 2 rfl ?_
    exact db_Rret (lv1 := []) rfl rfl rfl rfl
  refine db_Rgo (pc' := 48) (lv' := [(0, .ref 669)]) (st' := [.int (0 : Int32)]) 2 rfl ?_
  exact db_Rret (lv1 := []) rfl rfl rfl rfl
/-- DreamBookModel.isEnd()Z -/
noncomputable def db_f256 (s : db_S) : Option Bool :=
  ((db_f229 s (101 : Int32) (110 : Int32) (100 : Int32) (0 : Int32) (0 : Int32) (0 : Int32)).bind fun q1 => ((db_f230 s q1).bind fun q3 => (some q3)))
set_option maxRecDepth 100000 in
theorem db_f256_ok {X : db_X} {d : Nat} {s : db_S} : db_Rf X (d + 1) dbm_256 0 (lv_args 0 [.ref 669]) [] s (db_yB s) (db_f256 s ) := by
  show db_Rf _ _ _ 0 [(0, .ref 669)] [] _ _ _
  unfold db_f256
  refine db_Rgo (pc' := 10) (lv' := [(0, .ref 669)]) (st' := [.int (0 : Int32), .int (0 : Int32), .int (0 : Int32), .int (100 : Int32), .int (110 : Int32), .int (101 : Int32), .ref 669]) 7 rfl ?_
  refine db_RcyL (mr' := dbm_229) (as := [.int (101 : Int32), .int (110 : Int32), .int (100 : Int32), .int (0 : Int32), .int (0 : Int32), .int (0 : Int32)]) (rest := [.ref 669]) (pc' := 13) (lv1 := [(0, .ref 669)]) rfl rfl rfl rfl rfl (db_f229_ok) fun q1 => ?_
  refine db_RcyB (mr' := dbm_230) (as := [.ref 669, .long q1]) (rest := []) (pc' := 16) (lv1 := [(0, .ref 669)]) rfl rfl rfl rfl rfl (db_f230_ok) fun q3 => ?_
  exact db_RretB (lv1 := [(0, .ref 669)]) rfl rfl rfl rfl
/-- DreamBookModel.isKept()Z -/
noncomputable def db_f236 (s : db_S) : Option Bool :=
  ((db_f228 s).bind fun q1 => (cond q1 (some true) ((db_f237 s).bind fun q3 => (cond q3 (some true) ((db_f238 s).bind fun q5 => (cond q5 (some true) ((db_f239 s).bind fun q7 => (cond q7 (some true) ((db_f240 s).bind fun q9 => (cond q9 (some true) ((db_f241 s).bind fun q11 => (cond q11 (some true) ((db_f242 s).bind fun q13 => (cond q13 (some true) ((db_f243 s).bind fun q15 => (cond q15 (some true) ((db_f244 s).bind fun q17 => (cond q17 (some true) ((db_f245 s).bind fun q19 => (cond q19 (some true) ((db_f246 s).bind fun q21 => (cond q21 (some true) ((db_f247 s).bind fun q23 => (cond q23 (some true) ((db_f248 s).bind fun q25 => (cond q25 (some true) ((db_f249 s).bind fun q27 => (cond q27 (some true) ((db_f250 s).bind fun q29 => (cond q29 (some true) ((db_f251 s).bind fun q31 => (cond q31 (some true) ((db_f252 s).bind fun q33 => (cond q33 (some true) ((db_f253 s).bind fun q35 => (cond q35 (some true) ((db_f254 s).bind fun q37 => (cond (db_cnd .ge q37 0) (some true) ((db_f255 s).bind fun q39 => (cond (db_cnd .ge q39 0) (some true) ((db_f256 s).bind fun q41 => (cond q41 (some true) (some false)))))))))))))))))))))))))))))))))))))))))))
set_option maxRecDepth 100000 in
theorem db_f236_ok {X : db_X} {d : Nat} {s : db_S} : db_Rf X (d + 2) dbm_236 0 (lv_args 0 [.ref 669]) [] s (db_yB s) (db_f236 s ) := by
  show db_Rf _ _ _ 0 [(0, .ref 669)] [] _ _ _
  unfold db_f236
  refine db_Rgo (pc' := 1) (lv' := [(0, .ref 669)]) (st' := [.ref 669]) 1 rfl ?_
  refine db_RcyB (mr' := dbm_228) (as := [.ref 669]) (rest := []) (pc' := 4) (lv1 := [(0, .ref 669)]) rfl rfl rfl rfl rfl (db_f228_ok) fun q1 => ?_
  refine db_RifBn (pc' := 7) (tg := 77) (lv1 := [(0, .ref 669)]) rfl rfl rfl rfl ?_ ?_
  · refine db_Rgo (pc' := 78) (lv' := []) (st' := [.int (1 : Int32)]) 1 rfl ?_
    exact db_Rret (lv1 := []) rfl rfl rfl rfl
  refine db_Rgo (pc' := 8) (lv' := [(0, .ref 669)]) (st' := [.ref 669]) 1 rfl ?_
  refine db_RcyB (mr' := dbm_237) (as := [.ref 669]) (rest := []) (pc' := 11) (lv1 := [(0, .ref 669)]) rfl rfl rfl rfl rfl (db_f237_ok) fun q3 => ?_
  refine db_RifBn (pc' := 14) (tg := 77) (lv1 := [(0, .ref 669)]) rfl rfl rfl rfl ?_ ?_
  · refine db_Rgo (pc' := 78) (lv' := []) (st' := [.int (1 : Int32)]) 1 rfl ?_
    exact db_Rret (lv1 := []) rfl rfl rfl rfl
  refine db_Rgo (pc' := 15) (lv' := [(0, .ref 669)]) (st' := [.ref 669]) 1 rfl ?_
  refine db_RcyB (mr' := dbm_238) (as := [.ref 669]) (rest := []) (pc' := 18) (lv1 := [(0, .ref 669)]) rfl rfl rfl rfl rfl (db_f238_ok) fun q5 => ?_
  refine db_RifBn (pc' := 21) (tg := 77) (lv1 := [(0, .ref 669)]) rfl rfl rfl rfl ?_ ?_
  · refine db_Rgo (pc' := 78) (lv' := []) (st' := [.int (1 : Int32)]) 1 rfl ?_
    exact db_Rret (lv1 := []) rfl rfl rfl rfl
  refine db_Rgo (pc' := 22) (lv' := [(0, .ref 669)]) (st' := [.ref 669]) 1 rfl ?_
  refine db_RcyB (mr' := dbm_239) (as := [.ref 669]) (rest := []) (pc' := 25) (lv1 := [(0, .ref 669)]) rfl rfl rfl rfl rfl (db_f239_ok) fun q7 => ?_
  refine db_RifBn (pc' := 28) (tg := 77) (lv1 := [(0, .ref 669)]) rfl rfl rfl rfl ?_ ?_
  · refine db_Rgo (pc' := 78) (lv' := []) (st' := [.int (1 : Int32)]) 1 rfl ?_
    exact db_Rret (lv1 := []) rfl rfl rfl rfl
  refine db_Rgo (pc' := 29) (lv' := [(0, .ref 669)]) (st' := [.ref 669]) 1 rfl ?_
  refine db_RcyB (mr' := dbm_240) (as := [.ref 669]) (rest := []) (pc' := 32) (lv1 := [(0, .ref 669)]) rfl rfl rfl rfl rfl (db_f240_ok) fun q9 => ?_
  refine db_RifBn (pc' := 35) (tg := 77) (lv1 := [(0, .ref 669)]) rfl rfl rfl rfl ?_ ?_
  · refine db_Rgo (pc' := 78) (lv' := []) (st' := [.int (1 : Int32)]) 1 rfl ?_
    exact db_Rret (lv1 := []) rfl rfl rfl rfl
  refine db_Rgo (pc' := 36) (lv' := [(0, .ref 669)]) (st' := [.ref 669]) 1 rfl ?_
  refine db_RcyB (mr' := dbm_241) (as := [.ref 669]) (rest := []) (pc' := 39) (lv1 := [(0, .ref 669)]) rfl rfl rfl rfl rfl (db_f241_ok) fun q11 => ?_
  refine db_RifBn (pc' := 42) (tg := 77) (lv1 := [(0, .ref 669)]) rfl rfl rfl rfl ?_ ?_
  · refine db_Rgo (pc' := 78) (lv' := []) (st' := [.int (1 : Int32)]) 1 rfl ?_
    exact db_Rret (lv1 := []) rfl rfl rfl rfl
  refine db_Rgo (pc' := 43) (lv' := [(0, .ref 669)]) (st' := [.ref 669]) 1 rfl ?_
  refine db_RcyB (mr' := dbm_242) (as := [.ref 669]) (rest := []) (pc' := 46) (lv1 := [(0, .ref 669)]) rfl rfl rfl rfl rfl (db_f242_ok) fun q13 => ?_
  refine db_RifBn (pc' := 49) (tg := 77) (lv1 := [(0, .ref 669)]) rfl rfl rfl rfl ?_ ?_
  · refine db_Rgo (pc' := 78) (lv' := []) (st' := [.int (1 : Int32)]) 1 rfl ?_
    exact db_Rret (lv1 := []) rfl rfl rfl rfl
  refine db_Rgo (pc' := 50) (lv' := [(0, .ref 669)]) (st' := [.ref 669]) 1 rfl ?_
  refine db_RcyB (mr' := dbm_243) (as := [.ref 669]) (rest := []) (pc' := 53) (lv1 := [(0, .ref 669)]) rfl rfl rfl rfl rfl (db_f243_ok) fun q15 => ?_
  refine db_RifBn (pc' := 56) (tg := 77) (lv1 := [(0, .ref 669)]) rfl rfl rfl rfl ?_ ?_
  · refine db_Rgo (pc' := 78) (lv' := []) (st' := [.int (1 : Int32)]) 1 rfl ?_
    exact db_Rret (lv1 := []) rfl rfl rfl rfl
  refine db_Rgo (pc' := 57) (lv' := [(0, .ref 669)]) (st' := [.ref 669]) 1 rfl ?_
  refine db_RcyB (mr' := dbm_244) (as := [.ref 669]) (rest := []) (pc' := 60) (lv1 := [(0, .ref 669)]) rfl rfl rfl rfl rfl (db_f244_ok) fun q17 => ?_
  refine db_RifBn (pc' := 63) (tg := 77) (lv1 := [(0, .ref 669)]) rfl rfl rfl rfl ?_ ?_
  · refine db_Rgo (pc' := 78) (lv' := []) (st' := [.int (1 : Int32)]) 1 rfl ?_
    exact db_Rret (lv1 := []) rfl rfl rfl rfl
  refine db_Rgo (pc' := 64) (lv' := [(0, .ref 669)]) (st' := [.ref 669]) 1 rfl ?_
  refine db_RcyB (mr' := dbm_245) (as := [.ref 669]) (rest := []) (pc' := 67) (lv1 := [(0, .ref 669)]) rfl rfl rfl rfl rfl (db_f245_ok) fun q19 => ?_
  refine db_RifBn (pc' := 70) (tg := 77) (lv1 := [(0, .ref 669)]) rfl rfl rfl rfl ?_ ?_
  · refine db_Rgo (pc' := 78) (lv' := []) (st' := [.int (1 : Int32)]) 1 rfl ?_
    exact db_Rret (lv1 := []) rfl rfl rfl rfl
  refine db_Rgo (pc' := 71) (lv' := [(0, .ref 669)]) (st' := [.ref 669]) 1 rfl ?_
  refine db_RcyB (mr' := dbm_246) (as := [.ref 669]) (rest := []) (pc' := 74) (lv1 := [(0, .ref 669)]) rfl rfl rfl rfl rfl (db_f246_ok) fun q21 => ?_
  refine db_RifBe (pc' := 77) (tg := 79) (lv1 := [(0, .ref 669)]) rfl rfl rfl rfl ?_ ?_
  · refine db_Rgo (pc' := 80) (lv' := [(0, .ref 669)]) (st' := [.ref 669]) 1 rfl ?_
    refine db_RcyB (mr' := dbm_247) (as := [.ref 669]) (rest := []) (pc' := 83) (lv1 := [(0, .ref 669)]) rfl rfl rfl rfl rfl (db_f247_ok) fun q23 => ?_
    refine db_RifBn (pc' := 86) (tg := 128) (lv1 := [(0, .ref 669)]) rfl rfl rfl rfl ?_ ?_
    · refine db_Rgo (pc' := 129) (lv' := []) (st' := [.int (1 : Int32)]) 1 rfl ?_
      exact db_Rret (lv1 := []) rfl rfl rfl rfl
    refine db_Rgo (pc' := 87) (lv' := [(0, .ref 669)]) (st' := [.ref 669]) 1 rfl ?_
    refine db_RcyB (mr' := dbm_248) (as := [.ref 669]) (rest := []) (pc' := 90) (lv1 := [(0, .ref 669)]) rfl rfl rfl rfl rfl (db_f248_ok) fun q25 => ?_
    refine db_RifBn (pc' := 93) (tg := 128) (lv1 := [(0, .ref 669)]) rfl rfl rfl rfl ?_ ?_
    · refine db_Rgo (pc' := 129) (lv' := []) (st' := [.int (1 : Int32)]) 1 rfl ?_
      exact db_Rret (lv1 := []) rfl rfl rfl rfl
    refine db_Rgo (pc' := 94) (lv' := [(0, .ref 669)]) (st' := [.ref 669]) 1 rfl ?_
    refine db_RcyB (mr' := dbm_249) (as := [.ref 669]) (rest := []) (pc' := 97) (lv1 := [(0, .ref 669)]) rfl rfl rfl rfl rfl (db_f249_ok) fun q27 => ?_
    refine db_RifBn (pc' := 100) (tg := 128) (lv1 := [(0, .ref 669)]) rfl rfl rfl rfl ?_ ?_
    · refine db_Rgo (pc' := 129) (lv' := []) (st' := [.int (1 : Int32)]) 1 rfl ?_
      exact db_Rret (lv1 := []) rfl rfl rfl rfl
    refine db_Rgo (pc' := 101) (lv' := [(0, .ref 669)]) (st' := [.ref 669]) 1 rfl ?_
    refine db_RcyB (mr' := dbm_250) (as := [.ref 669]) (rest := []) (pc' := 104) (lv1 := [(0, .ref 669)]) rfl rfl rfl rfl rfl (db_f250_ok) fun q29 => ?_
    refine db_RifBn (pc' := 107) (tg := 128) (lv1 := [(0, .ref 669)]) rfl rfl rfl rfl ?_ ?_
    · refine db_Rgo (pc' := 129) (lv' := []) (st' := [.int (1 : Int32)]) 1 rfl ?_
      exact db_Rret (lv1 := []) rfl rfl rfl rfl
    refine db_Rgo (pc' := 108) (lv' := [(0, .ref 669)]) (st' := [.ref 669]) 1 rfl ?_
    refine db_RcyB (mr' := dbm_251) (as := [.ref 669]) (rest := []) (pc' := 111) (lv1 := [(0, .ref 669)]) rfl rfl rfl rfl rfl (db_f251_ok) fun q31 => ?_
    refine db_RifBn (pc' := 114) (tg := 128) (lv1 := [(0, .ref 669)]) rfl rfl rfl rfl ?_ ?_
    · refine db_Rgo (pc' := 129) (lv' := []) (st' := [.int (1 : Int32)]) 1 rfl ?_
      exact db_Rret (lv1 := []) rfl rfl rfl rfl
    refine db_Rgo (pc' := 115) (lv' := [(0, .ref 669)]) (st' := [.ref 669]) 1 rfl ?_
    refine db_RcyB (mr' := dbm_252) (as := [.ref 669]) (rest := []) (pc' := 118) (lv1 := [(0, .ref 669)]) rfl rfl rfl rfl rfl (db_f252_ok) fun q33 => ?_
    refine db_RifBn (pc' := 121) (tg := 128) (lv1 := [(0, .ref 669)]) rfl rfl rfl rfl ?_ ?_
    · refine db_Rgo (pc' := 129) (lv' := []) (st' := [.int (1 : Int32)]) 1 rfl ?_
      exact db_Rret (lv1 := []) rfl rfl rfl rfl
    refine db_Rgo (pc' := 122) (lv' := [(0, .ref 669)]) (st' := [.ref 669]) 1 rfl ?_
    refine db_RcyB (mr' := dbm_253) (as := [.ref 669]) (rest := []) (pc' := 125) (lv1 := [(0, .ref 669)]) rfl rfl rfl rfl rfl (db_f253_ok) fun q35 => ?_
    refine db_RifBe (pc' := 128) (tg := 130) (lv1 := [(0, .ref 669)]) rfl rfl rfl rfl ?_ ?_
    · refine db_Rgo (pc' := 131) (lv' := [(0, .ref 669)]) (st' := [.ref 669]) 1 rfl ?_
      refine db_RcyI (mr' := dbm_254) (as := [.ref 669]) (rest := []) (pc' := 134) (lv1 := [(0, .ref 669)]) rfl rfl rfl rfl rfl (db_f254_ok) fun q37 => ?_
      refine db_Rif (pc' := 137) (tg := 151) (lv1 := [(0, .ref 669)]) rfl rfl rfl rfl ?_ ?_
      · refine db_Rgo (pc' := 156) (lv' := []) (st' := [.int (1 : Int32)]) 2 rfl ?_
        exact db_Rret (lv1 := []) rfl rfl rfl rfl
      refine db_Rgo (pc' := 138) (lv' := [(0, .ref 669)]) (st' := [.ref 669]) 1 rfl ?_
      refine db_RcyI (mr' := dbm_255) (as := [.ref 669]) (rest := []) (pc' := 141) (lv1 := [(0, .ref 669)]) rfl rfl rfl rfl rfl (db_f255_ok) fun q39 => ?_
      refine db_Rif (pc' := 144) (tg := 151) (lv1 := [(0, .ref 669)]) rfl rfl rfl rfl ?_ ?_
      · refine db_Rgo (pc' := 156) (lv' := []) (st' := [.int (1 : Int32)]) 2 rfl ?_
        exact db_Rret (lv1 := []) rfl rfl rfl rfl
      refine db_Rgo (pc' := 145) (lv' := [(0, .ref 669)]) (st' := [.ref 669]) 1 rfl ?_
      refine db_RcyB (mr' := dbm_256) (as := [.ref 669]) (rest := []) (pc' := 148) (lv1 := [(0, .ref 669)]) rfl rfl rfl rfl rfl (db_f256_ok) fun q41 => ?_
      refine db_RifBe (pc' := 151) (tg := 155) (lv1 := [(0, .ref 669)]) rfl rfl rfl rfl ?_ ?_
      · refine db_Rgo (pc' := 156) (lv' := []) (st' := [.int (0 : Int32)]) 1 rfl ?_
        exact db_Rret (lv1 := []) rfl rfl rfl rfl
      refine db_Rgo (pc' := 156) (lv' := []) (st' := [.int (1 : Int32)]) 2 rfl ?_
      exact db_Rret (lv1 := []) rfl rfl rfl rfl
    refine db_Rgo (pc' := 129) (lv' := []) (st' := [.int (1 : Int32)]) 1 rfl ?_
    exact db_Rret (lv1 := []) rfl rfl rfl rfl
  refine db_Rgo (pc' := 78) (lv' := []) (st' := [.int (1 : Int32)]) 1 rfl ?_
  exact db_Rret (lv1 := []) rfl rfl rfl rfl
/-- DreamBookModel.isName()Z -/
noncomputable def db_f235 (s : db_S) : Option Bool :=
  (cond (db_cnd .ne (s.1 669 14) (1 : Int32)) (some false) (cond (db_cnd .gt (s.1 669 18) (8 : Int32)) (some false) ((db_f236 s).bind fun q1 => (cond q1 (some false) (some true)))))
set_option maxRecDepth 100000 in
theorem db_f235_ok {X : db_X} {d : Nat} {s : db_S} : db_Rf X (d + 3) dbm_235 0 (lv_args 0 [.ref 669]) [] s (db_yB s) (db_f235 s ) := by
  show db_Rf _ _ _ 0 [(0, .ref 669)] [] _ _ _
  unfold db_f235
  refine db_Rgo (pc' := 5) (lv' := [(0, .ref 669)]) (st' := [.int (1 : Int32), .int (s.1 669 14)]) 3 rfl ?_
  refine db_Ric (pc' := 8) (tg := 28) (lv1 := [(0, .ref 669)]) rfl rfl rfl rfl ?_ ?_
  · refine db_Rgo (pc' := 29) (lv' := []) (st' := [.int (0 : Int32)]) 1 rfl ?_
    exact db_Rret (lv1 := []) rfl rfl rfl rfl
  refine db_Rgo (pc' := 14) (lv' := [(0, .ref 669)]) (st' := [.int (8 : Int32), .int (s.1 669 18)]) 3 rfl ?_
  refine db_Ric (pc' := 17) (tg := 28) (lv1 := [(0, .ref 669)]) rfl rfl rfl rfl ?_ ?_
  · refine db_Rgo (pc' := 29) (lv' := []) (st' := [.int (0 : Int32)]) 1 rfl ?_
    exact db_Rret (lv1 := []) rfl rfl rfl rfl
  refine db_Rgo (pc' := 18) (lv' := [(0, .ref 669)]) (st' := [.ref 669]) 1 rfl ?_
  refine db_RcyB (mr' := dbm_236) (as := [.ref 669]) (rest := []) (pc' := 21) (lv1 := [(0, .ref 669)]) rfl rfl rfl rfl rfl (db_f236_ok) fun q1 => ?_
  refine db_RifBn (pc' := 24) (tg := 28) (lv1 := [(0, .ref 669)]) rfl rfl rfl rfl ?_ ?_
  · refine db_Rgo (pc' := 29) (lv' := []) (st' := [.int (0 : Int32)]) 1 rfl ?_
    exact db_Rret (lv1 := []) rfl rfl rfl rfl
  refine db_Rgo (pc' := 29) (lv' := [(0, .ref 669)]) (st' := [.int (1 : Int32)]) 2 rfl ?_
  exact db_Rret (lv1 := []) rfl rfl rfl rfl
/-- DreamBookModel.fromOf(I)I -/
noncomputable def db_f260 (s : db_S) (v0 : Int32) : Option Int32 :=
  (cond (db_cnd .ne v0 0) (cond (db_cnd .ne v0 (1 : Int32)) (cond (db_cnd .ne v0 (2 : Int32)) (cond (db_cnd .ne v0 (3 : Int32)) (some (29 : Int32)) (some (17 : Int32))) (some (14 : Int32))) (some (10 : Int32))) (some (0 : Int32)))
set_option maxRecDepth 100000 in
theorem db_f260_ok {X : db_X} {d : Nat} {s : db_S} {v0 : Int32} : db_Rf X (d + 0) dbm_260 0 (lv_args 0 [.int v0]) [] s (db_yI s) (db_f260 s v0) := by
  show db_Rf _ _ _ 0 [(0, .int v0)] [] _ _ _
  unfold db_f260
  refine db_Rgo (pc' := 1) (lv' := [(0, .int v0)]) (st' := [.int v0]) 1 rfl ?_
  refine db_Rif (pc' := 4) (tg := 8) (lv1 := [(0, .int v0)]) rfl rfl rfl rfl ?_ ?_
  · refine db_Rgo (pc' := 10) (lv' := [(0, .int v0)]) (st' := [.int (1 : Int32), .int v0]) 2 rfl ?_
    refine db_Ric (pc' := 13) (tg := 18) (lv1 := [(0, .int v0)]) rfl rfl rfl rfl ?_ ?_
    · refine db_Rgo (pc' := 20) (lv' := [(0, .int v0)]) (st' := [.int (2 : Int32), .int v0]) 2 rfl ?_
      refine db_Ric (pc' := 23) (tg := 28) (lv1 := [(0, .int v0)]) rfl rfl rfl rfl ?_ ?_
      · refine db_Rgo (pc' := 30) (lv' := [(0, .int v0)]) (st' := [.int (3 : Int32), .int v0]) 2 rfl ?_
        refine db_Ric (pc' := 33) (tg := 38) (lv1 := [(0, .int v0)]) rfl rfl rfl rfl ?_ ?_
        · refine db_Rgo (pc' := 40) (lv' := []) (st' := [.int (29 : Int32)]) 1 rfl ?_
          exact db_Rret (lv1 := []) rfl rfl rfl rfl
        refine db_Rgo (pc' := 40) (lv' := [(0, .int v0)]) (st' := [.int (17 : Int32)]) 2 rfl ?_
        exact db_Rret (lv1 := []) rfl rfl rfl rfl
      refine db_Rgo (pc' := 40) (lv' := [(0, .int v0)]) (st' := [.int (14 : Int32)]) 2 rfl ?_
      exact db_Rret (lv1 := []) rfl rfl rfl rfl
    refine db_Rgo (pc' := 40) (lv' := [(0, .int v0)]) (st' := [.int (10 : Int32)]) 2 rfl ?_
    exact db_Rret (lv1 := []) rfl rfl rfl rfl
  refine db_Rgo (pc' := 40) (lv' := [(0, .int v0)]) (st' := [.int (0 : Int32)]) 2 rfl ?_
  exact db_Rret (lv1 := []) rfl rfl rfl rfl
noncomputable def db_f259_b2 (s : db_S) : Nat → Int32 → Int32 → Int32 → Option Int32
  | 0, _, _, _ => none
  | n + 1, v1, v2, v3 =>
    ((db_f233 s v1 v2).bind fun q1 => (cond (db_cnd .ge v3 q1) (some (-1 : Int32)) ((db_f260 s v2).bind fun q3 => ((db_rL s 676 ((((37 : Int32) * v1) + q3) + v3)).bind fun x5 => (cond (db_cnd .ne (lg_cmp x5 (s.2 669 19)) 0) (db_f259_b2 s n v1 v2 (v3 + (1 : Int32))) (some v3))))))
set_option maxRecDepth 100000 in
theorem db_f259_b2_ok {X : db_X} {d : Nat} {s : db_S} (n : Nat) : ∀ (v1 : Int32) (v2 : Int32) (v3 : Int32), db_Rf X (d + 1) dbm_259 2 [(0, .ref 669), (1, .int v1), (2, .int v2), (3, .int v3)] [] s (db_yI s) (db_f259_b2 s n v1 v2 v3) := by
  induction n with
  | zero => intros; exact db_Rnone
  | succ n ih =>
    intro v1 v2 v3
    unfold db_f259_b2
    refine db_Rgo (pc' := 6) (lv' := [(0, .ref 669), (1, .int v1), (2, .int v2), (3, .int v3)]) (st' := [.int v2, .int v1, .ref 669, .int v3]) 4 rfl ?_
    refine db_RcyI (mr' := dbm_233) (as := [.ref 669, .int v1, .int v2]) (rest := [.int v3]) (pc' := 9) (lv1 := [(0, .ref 669), (1, .int v1), (2, .int v2), (3, .int v3)]) rfl rfl rfl rfl rfl (db_f233_ok) fun q1 => ?_
    refine db_Ric (pc' := 12) (tg := 44) (lv1 := [(0, .ref 669), (1, .int v1), (2, .int v2), (3, .int v3)]) rfl rfl rfl rfl ?_ ?_
    · refine db_Rgo (pc' := 45) (lv' := []) (st' := [.int (-1 : Int32)]) 1 rfl ?_
      exact db_Rret (lv1 := []) rfl rfl rfl rfl
    refine db_Rgo (pc' := 21) (lv' := [(0, .ref 669), (1, .int v1), (2, .int v2), (3, .int v3)]) (st' := [.int v2, .int ((37 : Int32) * v1), .ref 676]) 6 rfl ?_
    refine db_RcyI (mr' := dbm_260) (as := [.int v2]) (rest := [.int ((37 : Int32) * v1), .ref 676]) (pc' := 24) (lv1 := [(0, .ref 669), (1, .int v1), (2, .int v2), (3, .int v3)]) rfl rfl rfl rfl rfl (db_f260_ok) fun q3 => ?_
    refine db_Rgo (pc' := 27) (lv' := [(0, .ref 669), (1, .int v1), (2, .int v2), (3, .int v3)]) (st' := [.int ((((37 : Int32) * v1) + q3) + v3), .ref 676]) 3 rfl ?_
    refine db_RldL (pc' := 28) (lv1 := [(0, .ref 669), (1, .int v1), (2, .int v2), (3, .int v3)]) rfl rfl rfl fun x5 => ?_
    refine db_Rgo (pc' := 33) (lv' := [(0, .ref 669), (1, .int v1), (2, .int v2), (3, .int v3)]) (st' := [.int (lg_cmp x5 (s.2 669 19))]) 3 rfl ?_
    refine db_Rif (pc' := 36) (tg := 38) (lv1 := [(0, .ref 669), (1, .int v1), (2, .int v2), (3, .int v3)]) rfl rfl rfl rfl ?_ ?_
    · refine db_Rgo (pc' := 2) (lv' := [(3, .int (v3 + (1 : Int32))), (0, .ref 669), (1, .int v1), (2, .int v2)]) (st' := []) 2 rfl ?_
      refine db_Rn (lv1 := [(0, .ref 669), (1, .int v1), (2, .int v2), (3, .int (v3 + (1 : Int32)))]) rfl rfl rfl ?_
      exact ih _ _ _
    refine db_Rgo (pc' := 37) (lv' := [(0, .ref 669), (1, .int v1), (2, .int v2), (3, .int v3)]) (st' := [.int v3]) 1 rfl ?_
    exact db_Rret (lv1 := [(0, .ref 669), (1, .int v1), (2, .int v2), (3, .int v3)]) rfl rfl rfl rfl
/-- DreamBookModel.named(II)I -/
noncomputable def db_f259 (s : db_S) (v1 : Int32) (v2 : Int32) : Option Int32 :=
  (db_f259_b2 s db_FU v1 v2 (0 : Int32))
set_option maxRecDepth 100000 in
theorem db_f259_ok {X : db_X} {d : Nat} {s : db_S} {v1 : Int32} {v2 : Int32} : db_Rf X (d + 1) dbm_259 0 (lv_args 0 [.ref 669, .int v1, .int v2]) [] s (db_yI s) (db_f259 s v1 v2) := by
  show db_Rf _ _ _ 0 [(0, .ref 669), (1, .int v1), (2, .int v2)] [] _ _ _
  unfold db_f259
  refine db_Rgo (pc' := 2) (lv' := [(3, .int (0 : Int32)), (0, .ref 669), (1, .int v1), (2, .int v2)]) (st' := []) 2 rfl ?_
  refine db_Rn (lv1 := [(0, .ref 669), (1, .int v1), (2, .int v2), (3, .int (0 : Int32))]) rfl rfl rfl ?_
  exact db_f259_b2_ok db_FU _ _ _
/-- DreamBookModel.isTaken()Z -/
noncomputable def db_f258 (s : db_S) : Option Bool :=
  ((db_f259 s (4 : Int32) (0 : Int32)).bind fun q1 => (cond (db_cnd .ge q1 0) (some true) ((db_f259 s (4 : Int32) (1 : Int32)).bind fun q3 => (cond (db_cnd .ge q3 0) (some true) ((db_f259 s (4 : Int32) (2 : Int32)).bind fun q5 => (cond (db_cnd .ge q5 0) (some true) ((db_f259 s (4 : Int32) (3 : Int32)).bind fun q7 => (cond (db_cnd .ge q7 0) (some true) ((db_f259 s (4 : Int32) (4 : Int32)).bind fun q9 => (cond (db_cnd .lt q9 0) (some false) (some true)))))))))))
set_option maxRecDepth 100000 in
theorem db_f258_ok {X : db_X} {d : Nat} {s : db_S} : db_Rf X (d + 2) dbm_258 0 (lv_args 0 [.ref 669]) [] s (db_yB s) (db_f258 s ) := by
  show db_Rf _ _ _ 0 [(0, .ref 669)] [] _ _ _
  unfold db_f258
  refine db_Rgo (pc' := 3) (lv' := [(0, .ref 669)]) (st' := [.int (0 : Int32), .int (4 : Int32), .ref 669]) 3 rfl ?_
  refine db_RcyI (mr' := dbm_259) (as := [.ref 669, .int (4 : Int32), .int (0 : Int32)]) (rest := []) (pc' := 6) (lv1 := [(0, .ref 669)]) rfl rfl rfl rfl rfl (db_f259_ok) fun q1 => ?_
  refine db_Rif (pc' := 9) (tg := 45) (lv1 := [(0, .ref 669)]) rfl rfl rfl rfl ?_ ?_
  · refine db_Rgo (pc' := 50) (lv' := []) (st' := [.int (1 : Int32)]) 2 rfl ?_
    exact db_Rret (lv1 := []) rfl rfl rfl rfl
  refine db_Rgo (pc' := 12) (lv' := [(0, .ref 669)]) (st' := [.int (1 : Int32), .int (4 : Int32), .ref 669]) 3 rfl ?_
  refine db_RcyI (mr' := dbm_259) (as := [.ref 669, .int (4 : Int32), .int (1 : Int32)]) (rest := []) (pc' := 15) (lv1 := [(0, .ref 669)]) rfl rfl rfl rfl rfl (db_f259_ok) fun q3 => ?_
  refine db_Rif (pc' := 18) (tg := 45) (lv1 := [(0, .ref 669)]) rfl rfl rfl rfl ?_ ?_
  · refine db_Rgo (pc' := 50) (lv' := []) (st' := [.int (1 : Int32)]) 2 rfl ?_
    exact db_Rret (lv1 := []) rfl rfl rfl rfl
  refine db_Rgo (pc' := 21) (lv' := [(0, .ref 669)]) (st' := [.int (2 : Int32), .int (4 : Int32), .ref 669]) 3 rfl ?_
  refine db_RcyI (mr' := dbm_259) (as := [.ref 669, .int (4 : Int32), .int (2 : Int32)]) (rest := []) (pc' := 24) (lv1 := [(0, .ref 669)]) rfl rfl rfl rfl rfl (db_f259_ok) fun q5 => ?_
  refine db_Rif (pc' := 27) (tg := 45) (lv1 := [(0, .ref 669)]) rfl rfl rfl rfl ?_ ?_
  · refine db_Rgo (pc' := 50) (lv' := []) (st' := [.int (1 : Int32)]) 2 rfl ?_
    exact db_Rret (lv1 := []) rfl rfl rfl rfl
  refine db_Rgo (pc' := 30) (lv' := [(0, .ref 669)]) (st' := [.int (3 : Int32), .int (4 : Int32), .ref 669]) 3 rfl ?_
  refine db_RcyI (mr' := dbm_259) (as := [.ref 669, .int (4 : Int32), .int (3 : Int32)]) (rest := []) (pc' := 33) (lv1 := [(0, .ref 669)]) rfl rfl rfl rfl rfl (db_f259_ok) fun q7 => ?_
  refine db_Rif (pc' := 36) (tg := 45) (lv1 := [(0, .ref 669)]) rfl rfl rfl rfl ?_ ?_
  · refine db_Rgo (pc' := 50) (lv' := []) (st' := [.int (1 : Int32)]) 2 rfl ?_
    exact db_Rret (lv1 := []) rfl rfl rfl rfl
  refine db_Rgo (pc' := 39) (lv' := [(0, .ref 669)]) (st' := [.int (4 : Int32), .int (4 : Int32), .ref 669]) 3 rfl ?_
  refine db_RcyI (mr' := dbm_259) (as := [.ref 669, .int (4 : Int32), .int (4 : Int32)]) (rest := []) (pc' := 42) (lv1 := [(0, .ref 669)]) rfl rfl rfl rfl rfl (db_f259_ok) fun q9 => ?_
  refine db_Rif (pc' := 45) (tg := 49) (lv1 := [(0, .ref 669)]) rfl rfl rfl rfl ?_ ?_
  · refine db_Rgo (pc' := 50) (lv' := []) (st' := [.int (0 : Int32)]) 1 rfl ?_
    exact db_Rret (lv1 := []) rfl rfl rfl rfl
  refine db_Rgo (pc' := 50) (lv' := []) (st' := [.int (1 : Int32)]) 2 rfl ?_
  exact db_Rret (lv1 := []) rfl rfl rfl rfl
noncomputable def db_f232_b69 (s : db_S) (v1 : Int32) (v3 : Int32) : Option (Int32 × db_S) :=
  (cond (db_cnd .le (s.1 669 12) 0) ((db_f260 s v1).bind fun q1 => ((db_wL s 676 (((148 : Int32) + q1) + v3) (s.2 669 19)).bind fun s3 => ((db_f223 s3).bind fun s5 => (some (v3, s5))))) (some ((0 : Int32), s)))
set_option maxRecDepth 100000 in
theorem db_f232_b69_ok {X : db_X} {d : Nat}  {s : db_S} {v1 : Int32} {v3 : Int32} : db_Rf X (d + 4) dbm_232 69 [(0, .ref 669), (1, .int v1), (3, .int v3)] [] s db_zI (db_f232_b69 s v1 v3) := by
  unfold db_f232_b69
  refine db_Rgo (pc' := 73) (lv' := [(0, .ref 669), (1, .int v1), (3, .int v3)]) (st' := [.int (s.1 669 12)]) 2 rfl ?_
  refine db_Rif (pc' := 76) (tg := 78) (lv1 := [(0, .ref 669), (1, .int v1), (3, .int v3)]) rfl rfl rfl rfl ?_ ?_
  · refine db_Rgo (pc' := 86) (lv' := [(0, .ref 669), (1, .int v1), (3, .int v3)]) (st' := [.int v1, .int (148 : Int32), .ref 676]) 4 rfl ?_
    refine db_RcyI (mr' := dbm_260) (as := [.int v1]) (rest := [.int (148 : Int32), .ref 676]) (pc' := 89) (lv1 := [(0, .ref 669), (1, .int v1), (3, .int v3)]) rfl rfl rfl rfl rfl (db_f260_ok) fun q1 => ?_
    refine db_Rgo (pc' := 96) (lv' := [(0, .ref 669), (1, .int v1), (3, .int v3)]) (st' := [.long (s.2 669 19), .int (((148 : Int32) + q1) + v3), .ref 676]) 5 rfl ?_
    refine db_RstL (pc' := 97) (lv1 := [(0, .ref 669), (1, .int v1), (3, .int v3)]) rfl rfl rfl fun s3 => ?_
    refine db_Rgo (pc' := 98) (lv' := [(0, .ref 669), (1, .int v1), (3, .int v3)]) (st' := [.ref 669]) 1 rfl ?_
    refine db_RcV (mr' := dbm_223) (as := [.ref 669]) (rest := []) (pc' := 101) (lv1 := [(0, .ref 669), (1, .int v1), (3, .int v3)]) rfl rfl rfl rfl rfl (db_f223_ok) fun s5 => ?_
    refine db_Rgo (pc' := 102) (lv' := [(0, .ref 669), (1, .int v1), (3, .int v3)]) (st' := [.int v3]) 1 rfl ?_
    exact db_Rret (lv1 := [(0, .ref 669), (1, .int v1), (3, .int v3)]) rfl rfl rfl rfl
  refine db_Rgo (pc' := 77) (lv' := [(0, .ref 669), (1, .int v1), (3, .int v3)]) (st' := [.int (0 : Int32)]) 1 rfl ?_
  exact db_Rret (lv1 := [(0, .ref 669), (1, .int v1), (3, .int v3)]) rfl rfl rfl rfl
noncomputable def db_f232_b46 (s : db_S) (v1 : Int32) (v3 : Int32) : Option (Int32 × db_S) :=
  (cond (db_cnd .ne (s.1 669 12) 0) (db_f232_b69 s v1 v3) ((db_f258 s).bind fun q1 => (cond q1 ((db_f234 s (3 : Int32) (s.1 669 15)).bind fun s4 => (db_f232_b69 s4 v1 v3)) (db_f232_b69 s v1 v3))))
set_option maxRecDepth 100000 in
theorem db_f232_b46_ok {X : db_X} {d : Nat}  {s : db_S} {v1 : Int32} {v3 : Int32} : db_Rf X (d + 4) dbm_232 46 [(0, .ref 669), (1, .int v1), (3, .int v3)] [] s db_zI (db_f232_b46 s v1 v3) := by
  unfold db_f232_b46
  refine db_Rgo (pc' := 50) (lv' := [(0, .ref 669), (1, .int v1), (3, .int v3)]) (st' := [.int (s.1 669 12)]) 2 rfl ?_
  refine db_Rif (pc' := 53) (tg := 69) (lv1 := [(0, .ref 669), (1, .int v1), (3, .int v3)]) rfl rfl rfl rfl ?_ ?_
  · exact db_f232_b69_ok
  refine db_Rgo (pc' := 54) (lv' := [(0, .ref 669), (1, .int v1), (3, .int v3)]) (st' := [.ref 669]) 1 rfl ?_
  refine db_RcyB (mr' := dbm_258) (as := [.ref 669]) (rest := []) (pc' := 57) (lv1 := [(0, .ref 669), (1, .int v1), (3, .int v3)]) rfl rfl rfl rfl rfl (db_f258_ok) fun q1 => ?_
  refine db_RifBe (pc' := 60) (tg := 69) (lv1 := [(0, .ref 669), (1, .int v1), (3, .int v3)]) rfl rfl rfl rfl ?_ ?_
  · exact db_f232_b69_ok
  refine db_Rgo (pc' := 66) (lv' := [(0, .ref 669), (1, .int v1), (3, .int v3)]) (st' := [.int (s.1 669 15), .int (3 : Int32), .ref 669]) 4 rfl ?_
  refine db_RcV (mr' := dbm_234) (as := [.ref 669, .int (3 : Int32), .int (s.1 669 15)]) (rest := []) (pc' := 69) (lv1 := [(0, .ref 669), (1, .int v1), (3, .int v3)]) rfl rfl rfl rfl rfl (db_f234_ok) fun s4 => ?_
  exact db_f232_b69_ok
noncomputable def db_f232_b22 (s : db_S) (v1 : Int32) (v3 : Int32) : Option (Int32 × db_S) :=
  (cond (db_cnd .le (s.1 669 12) 0) ((db_f223 s).bind fun s2 => ((db_f235 s2).bind fun q3 => (cond q3 (db_f232_b46 s2 v1 v3) ((db_f257 s2).bind fun s6 => (db_f232_b46 s6 v1 v3))))) (some ((0 : Int32), s)))
set_option maxRecDepth 100000 in
theorem db_f232_b22_ok {X : db_X} {d : Nat}  {s : db_S} {v1 : Int32} {v3 : Int32} : db_Rf X (d + 4) dbm_232 22 [(0, .ref 669), (1, .int v1), (3, .int v3)] [] s db_zI (db_f232_b22 s v1 v3) := by
  unfold db_f232_b22
  refine db_Rgo (pc' := 26) (lv' := [(0, .ref 669), (1, .int v1), (3, .int v3)]) (st' := [.int (s.1 669 12)]) 2 rfl ?_
  refine db_Rif (pc' := 29) (tg := 31) (lv1 := [(0, .ref 669), (1, .int v1), (3, .int v3)]) rfl rfl rfl rfl ?_ ?_
  · refine db_Rgo (pc' := 32) (lv' := [(0, .ref 669), (1, .int v1), (3, .int v3)]) (st' := [.ref 669]) 1 rfl ?_
    refine db_RcV (mr' := dbm_223) (as := [.ref 669]) (rest := []) (pc' := 35) (lv1 := [(0, .ref 669), (1, .int v1), (3, .int v3)]) rfl rfl rfl rfl rfl (db_f223_ok) fun s2 => ?_
    refine db_Rgo (pc' := 36) (lv' := [(0, .ref 669), (1, .int v1), (3, .int v3)]) (st' := [.ref 669]) 1 rfl ?_
    refine db_RcyB (mr' := dbm_235) (as := [.ref 669]) (rest := []) (pc' := 39) (lv1 := [(0, .ref 669), (1, .int v1), (3, .int v3)]) rfl rfl rfl rfl rfl (db_f235_ok) fun q3 => ?_
    refine db_RifBn (pc' := 42) (tg := 46) (lv1 := [(0, .ref 669), (1, .int v1), (3, .int v3)]) rfl rfl rfl rfl ?_ ?_
    · exact db_f232_b46_ok
    refine db_Rgo (pc' := 43) (lv' := [(0, .ref 669), (1, .int v1), (3, .int v3)]) (st' := [.ref 669]) 1 rfl ?_
    refine db_RcV (mr' := dbm_257) (as := [.ref 669]) (rest := []) (pc' := 46) (lv1 := [(0, .ref 669), (1, .int v1), (3, .int v3)]) rfl rfl rfl rfl rfl (db_f257_ok) fun s6 => ?_
    exact db_f232_b46_ok
  refine db_Rgo (pc' := 30) (lv' := [(0, .ref 669), (1, .int v1), (3, .int v3)]) (st' := [.int (0 : Int32)]) 1 rfl ?_
  exact db_Rret (lv1 := [(0, .ref 669), (1, .int v1), (3, .int v3)]) rfl rfl rfl rfl
/-- DreamBookModel.readNew(II)I -/
noncomputable def db_f232 (s : db_S) (v1 : Int32) (v2 : Int32) : Option (Int32 × db_S) :=
  ((db_f233 s (4 : Int32) v1).bind fun q1 => (cond (db_cnd .ne q1 v2) (db_f232_b22 s v1 q1) ((db_f234 s (6 : Int32) (s.1 669 15)).bind fun s4 => (db_f232_b22 s4 v1 q1))))
set_option maxRecDepth 100000 in
theorem db_f232_ok {X : db_X} {d : Nat} {s : db_S} {v1 : Int32} {v2 : Int32} : db_Rf X (d + 4) dbm_232 0 (lv_args 0 [.ref 669, .int v1, .int v2]) [] s db_zI (db_f232 s v1 v2) := by
  show db_Rf _ _ _ 0 [(0, .ref 669), (1, .int v1), (2, .int v2)] [] _ _ _
  unfold db_f232
  refine db_Rgo (pc' := 3) (lv' := [(0, .ref 669), (1, .int v1), (2, .int v2)]) (st' := [.int v1, .int (4 : Int32), .ref 669]) 3 rfl ?_
  refine db_RcyI (mr' := dbm_233) (as := [.ref 669, .int (4 : Int32), .int v1]) (rest := []) (pc' := 6) (lv1 := [(0, .ref 669), (1, .int v1), (2, .int v2)]) rfl rfl rfl rfl rfl (db_f233_ok) fun q1 => ?_
  refine db_Rgo (pc' := 9) (lv' := [(3, .int q1), (0, .ref 669), (1, .int v1), (2, .int v2)]) (st' := [.int v2, .int q1]) 3 rfl ?_
  refine db_Ric (pc' := 12) (tg := 22) (lv1 := [(3, .int q1), (0, .ref 669), (1, .int v1), (2, .int v2)]) rfl rfl rfl rfl ?_ ?_
  · refine db_Rn (lv1 := [(0, .ref 669), (1, .int v1), (3, .int q1)]) rfl rfl rfl ?_
    exact db_f232_b22_ok
  refine db_Rgo (pc' := 19) (lv' := [(3, .int q1), (0, .ref 669), (1, .int v1), (2, .int v2)]) (st' := [.int (s.1 669 15), .int (6 : Int32), .ref 669]) 4 rfl ?_
  refine db_RcV (mr' := dbm_234) (as := [.ref 669, .int (6 : Int32), .int (s.1 669 15)]) (rest := []) (pc' := 22) (lv1 := [(3, .int q1), (0, .ref 669), (1, .int v1), (2, .int v2)]) rfl rfl rfl rfl rfl (db_f234_ok) fun s4 => ?_
  refine db_Rn (lv1 := [(0, .ref 669), (1, .int v1), (3, .int q1)]) rfl rfl rfl ?_
  exact db_f232_b22_ok
noncomputable def db_f266_b47 (s : db_S) (v3 : Int32) : Option (Int32 × db_S) :=
  (some ((if (0 : Int32) < v3 then v3 else (0 : Int32)), s))
set_option maxRecDepth 100000 in
theorem db_f266_b47_ok {X : db_X} {d : Nat}  {s : db_S} {v3 : Int32} : db_Rf X (d + 4) dbm_266 47 [(3, .int v3)] [] s db_zI (db_f266_b47 s v3) := by
  unfold db_f266_b47
  refine db_Rgo (pc' := 52) (lv' := [(3, .int v3)]) (st' := [.int (if (0 : Int32) < v3 then v3 else (0 : Int32))]) 3 rfl ?_
  exact db_Rret (lv1 := [(3, .int v3)]) rfl rfl rfl rfl
noncomputable def db_f266_b18 (s : db_S) (v1 : Int32) (v2 : Int32) : Option (Int32 × db_S) :=
  (cond (db_cnd .le (s.1 669 12) 0) ((db_f259 s v1 v2).bind fun q1 => (cond (db_cnd .ge q1 0) (db_f266_b47 s q1) ((db_f234 s (3 : Int32) (s.1 669 15)).bind fun s4 => (db_f266_b47 s4 q1)))) (some ((0 : Int32), s)))
set_option maxRecDepth 100000 in
theorem db_f266_b18_ok {X : db_X} {d : Nat}  {s : db_S} {v1 : Int32} {v2 : Int32} : db_Rf X (d + 4) dbm_266 18 [(0, .ref 669), (1, .int v1), (2, .int v2)] [] s db_zI (db_f266_b18 s v1 v2) := by
  unfold db_f266_b18
  refine db_Rgo (pc' := 22) (lv' := [(0, .ref 669), (1, .int v1), (2, .int v2)]) (st' := [.int (s.1 669 12)]) 2 rfl ?_
  refine db_Rif (pc' := 25) (tg := 27) (lv1 := [(0, .ref 669), (1, .int v1), (2, .int v2)]) rfl rfl rfl rfl ?_ ?_
  · refine db_Rgo (pc' := 30) (lv' := [(0, .ref 669), (1, .int v1), (2, .int v2)]) (st' := [.int v2, .int v1, .ref 669]) 3 rfl ?_
    refine db_RcyI (mr' := dbm_259) (as := [.ref 669, .int v1, .int v2]) (rest := []) (pc' := 33) (lv1 := [(0, .ref 669), (1, .int v1), (2, .int v2)]) rfl rfl rfl rfl rfl (db_f259_ok) fun q1 => ?_
    refine db_Rgo (pc' := 35) (lv' := [(3, .int q1), (0, .ref 669), (1, .int v1), (2, .int v2)]) (st' := [.int q1]) 2 rfl ?_
    refine db_Rif (pc' := 38) (tg := 47) (lv1 := [(3, .int q1), (0, .ref 669), (1, .int v1), (2, .int v2)]) rfl rfl rfl rfl ?_ ?_
    · refine db_Rn (lv1 := [(3, .int q1)]) rfl rfl rfl ?_
      exact db_f266_b47_ok
    refine db_Rgo (pc' := 44) (lv' := [(3, .int q1), (0, .ref 669), (1, .int v1), (2, .int v2)]) (st' := [.int (s.1 669 15), .int (3 : Int32), .ref 669]) 4 rfl ?_
    refine db_RcV (mr' := dbm_234) (as := [.ref 669, .int (3 : Int32), .int (s.1 669 15)]) (rest := []) (pc' := 47) (lv1 := [(3, .int q1), (0, .ref 669), (1, .int v1), (2, .int v2)]) rfl rfl rfl rfl rfl (db_f234_ok) fun s4 => ?_
    refine db_Rn (lv1 := [(3, .int q1)]) rfl rfl rfl ?_
    exact db_f266_b47_ok
  refine db_Rgo (pc' := 26) (lv' := [(0, .ref 669), (1, .int v1), (2, .int v2)]) (st' := [.int (0 : Int32)]) 1 rfl ?_
  exact db_Rret (lv1 := [(0, .ref 669), (1, .int v1), (2, .int v2)]) rfl rfl rfl rfl
/-- DreamBookModel.told(II)I -/
noncomputable def db_f266 (s : db_S) (v1 : Int32) (v2 : Int32) : Option (Int32 × db_S) :=
  (cond (db_cnd .ne (s.1 669 12) 0) (db_f266_b18 s v1 v2) ((db_f235 s).bind fun q1 => (cond q1 (db_f266_b18 s v1 v2) ((db_f257 s).bind fun s4 => (db_f266_b18 s4 v1 v2)))))
set_option maxRecDepth 100000 in
theorem db_f266_ok {X : db_X} {d : Nat} {s : db_S} {v1 : Int32} {v2 : Int32} : db_Rf X (d + 4) dbm_266 0 (lv_args 0 [.ref 669, .int v1, .int v2]) [] s db_zI (db_f266 s v1 v2) := by
  show db_Rf _ _ _ 0 [(0, .ref 669), (1, .int v1), (2, .int v2)] [] _ _ _
  unfold db_f266
  refine db_Rgo (pc' := 4) (lv' := [(0, .ref 669), (1, .int v1), (2, .int v2)]) (st' := [.int (s.1 669 12)]) 2 rfl ?_
  refine db_Rif (pc' := 7) (tg := 18) (lv1 := [(0, .ref 669), (1, .int v1), (2, .int v2)]) rfl rfl rfl rfl ?_ ?_
  · exact db_f266_b18_ok
  refine db_Rgo (pc' := 8) (lv' := [(0, .ref 669), (1, .int v1), (2, .int v2)]) (st' := [.ref 669]) 1 rfl ?_
  refine db_RcyB (mr' := dbm_235) (as := [.ref 669]) (rest := []) (pc' := 11) (lv1 := [(0, .ref 669), (1, .int v1), (2, .int v2)]) rfl rfl rfl rfl rfl (db_f235_ok) fun q1 => ?_
  refine db_RifBn (pc' := 14) (tg := 18) (lv1 := [(0, .ref 669), (1, .int v1), (2, .int v2)]) rfl rfl rfl rfl ?_ ?_
  · exact db_f266_b18_ok
  refine db_Rgo (pc' := 15) (lv' := [(0, .ref 669), (1, .int v1), (2, .int v2)]) (st' := [.ref 669]) 1 rfl ?_
  refine db_RcV (mr' := dbm_257) (as := [.ref 669]) (rest := []) (pc' := 18) (lv1 := [(0, .ref 669), (1, .int v1), (2, .int v2)]) rfl rfl rfl rfl rfl (db_f257_ok) fun s4 => ?_
  exact db_f266_b18_ok
/-- DreamBookModel.must(Z)V -/
noncomputable def db_f264 (s : db_S) (v1 : Int32) : Option db_S :=
  (cond (db_cnd .le (s.1 669 12) 0) (cond (db_cnd .eq v1 0) ((db_f257 s).bind fun s2 => (some s2)) ((db_f223 s).bind fun s4 => (some s4))) (some s))
set_option maxRecDepth 100000 in
theorem db_f264_ok {X : db_X} {d : Nat} {s : db_S} {v1 : Int32} : db_Rf X (d + 2) dbm_264 0 (lv_args 0 [.ref 669, .int v1]) [] s db_zV (db_f264 s v1) := by
  show db_Rf _ _ _ 0 [(0, .ref 669), (1, .int v1)] [] _ _ _
  unfold db_f264
  refine db_Rgo (pc' := 4) (lv' := [(0, .ref 669), (1, .int v1)]) (st' := [.int (s.1 669 12)]) 2 rfl ?_
  refine db_Rif (pc' := 7) (tg := 8) (lv1 := [(0, .ref 669), (1, .int v1)]) rfl rfl rfl rfl ?_ ?_
  · refine db_Rgo (pc' := 9) (lv' := [(0, .ref 669), (1, .int v1)]) (st' := [.int v1]) 1 rfl ?_
    refine db_Rif (pc' := 12) (tg := 19) (lv1 := [(0, .ref 669), (1, .int v1)]) rfl rfl rfl rfl ?_ ?_
    · refine db_Rgo (pc' := 20) (lv' := [(0, .ref 669)]) (st' := [.ref 669]) 1 rfl ?_
      refine db_RcV (mr' := dbm_257) (as := [.ref 669]) (rest := []) (pc' := 23) (lv1 := [(0, .ref 669)]) rfl rfl rfl rfl rfl (db_f257_ok) fun s2 => ?_
      exact db_Rret (lv1 := []) rfl rfl rfl rfl
    refine db_Rgo (pc' := 13) (lv' := [(0, .ref 669), (1, .int v1)]) (st' := [.ref 669]) 1 rfl ?_
    refine db_RcV (mr' := dbm_223) (as := [.ref 669]) (rest := []) (pc' := 16) (lv1 := [(0, .ref 669), (1, .int v1)]) rfl rfl rfl rfl rfl (db_f223_ok) fun s4 => ?_
    refine db_Rgo (pc' := 23) (lv' := [(0, .ref 669), (1, .int v1)]) (st' := []) 1 rfl ?_
    exact db_Rret (lv1 := []) rfl rfl rfl rfl
  exact db_Rret (lv1 := [(0, .ref 669), (1, .int v1)]) rfl rfl rfl rfl
/-- DreamBookModel.isIn(JJJ)Z -/
noncomputable def db_f269 (s : db_S) (v0 : Int64) (v2 : Int64) (v4 : Int64) : Option Bool :=
  (cond (db_cnd .lt (lg_cmp v0 v2) 0) (some false) (cond (db_cnd .gt (lg_cmp v0 v4) 0) (some false) (some true)))
set_option maxRecDepth 100000 in
theorem db_f269_ok {X : db_X} {d : Nat} {s : db_S} {v0 : Int64} {v2 : Int64} {v4 : Int64} : db_Rf X (d + 0) dbm_269 0 (lv_args 0 [.long v0, .long v2, .long v4]) [] s (db_yB s) (db_f269 s v0 v2 v4) := by
  show db_Rf _ _ _ 0 [(0, .long v0), (2, .long v2), (4, .long v4)] [] _ _ _
  unfold db_f269
  refine db_Rgo (pc' := 3) (lv' := [(0, .long v0), (2, .long v2), (4, .long v4)]) (st' := [.int (lg_cmp v0 v2)]) 3 rfl ?_
  refine db_Rif (pc' := 6) (tg := 17) (lv1 := [(0, .long v0), (2, .long v2), (4, .long v4)]) rfl rfl rfl rfl ?_ ?_
  · refine db_Rgo (pc' := 18) (lv' := []) (st' := [.int (0 : Int32)]) 1 rfl ?_
    exact db_Rret (lv1 := []) rfl rfl rfl rfl
  refine db_Rgo (pc' := 10) (lv' := [(0, .long v0), (2, .long v2), (4, .long v4)]) (st' := [.int (lg_cmp v0 v4)]) 3 rfl ?_
  refine db_Rif (pc' := 13) (tg := 17) (lv1 := [(0, .long v0), (2, .long v2), (4, .long v4)]) rfl rfl rfl rfl ?_ ?_
  · refine db_Rgo (pc' := 18) (lv' := []) (st' := [.int (0 : Int32)]) 1 rfl ?_
    exact db_Rret (lv1 := []) rfl rfl rfl rfl
  refine db_Rgo (pc' := 18) (lv' := [(0, .long v0), (2, .long v2), (4, .long v4)]) (st' := [.int (1 : Int32)]) 2 rfl ?_
  exact db_Rret (lv1 := []) rfl rfl rfl rfl
noncomputable def db_f268_b50 (s : db_S) : Option (Int32 × db_S) :=
  (cond (db_cnd .le (s.1 669 12) 0) ((db_f223 s).bind fun s2 => (some ((s.1 669 17), s2))) (some ((0 : Int32), s)))
set_option maxRecDepth 100000 in
theorem db_f268_b50_ok {X : db_X} {d : Nat}  {s : db_S} : db_Rf X (d + 2) dbm_268 50 [(0, .ref 669)] [] s db_zI (db_f268_b50 s ) := by
  unfold db_f268_b50
  refine db_Rgo (pc' := 54) (lv' := [(0, .ref 669)]) (st' := [.int (s.1 669 12)]) 2 rfl ?_
  refine db_Rif (pc' := 57) (tg := 59) (lv1 := [(0, .ref 669)]) rfl rfl rfl rfl ?_ ?_
  · refine db_Rgo (pc' := 65) (lv' := [(3, .int (s.1 669 17)), (0, .ref 669)]) (st' := [.ref 669]) 4 rfl ?_
    refine db_RcV (mr' := dbm_223) (as := [.ref 669]) (rest := []) (pc' := 68) (lv1 := [(3, .int (s.1 669 17)), (0, .ref 669)]) rfl rfl rfl rfl rfl (db_f223_ok) fun s2 => ?_
    refine db_Rgo (pc' := 69) (lv' := [(3, .int (s.1 669 17)), (0, .ref 669)]) (st' := [.int (s.1 669 17)]) 1 rfl ?_
    exact db_Rret (lv1 := [(3, .int (s.1 669 17)), (0, .ref 669)]) rfl rfl rfl rfl
  refine db_Rgo (pc' := 58) (lv' := [(0, .ref 669)]) (st' := [.int (0 : Int32)]) 1 rfl ?_
  exact db_Rret (lv1 := [(0, .ref 669)]) rfl rfl rfl rfl
noncomputable def db_f268_b19 (s : db_S) (v1 : Int32) (v2 : Int32) : Option (Int32 × db_S) :=
  (cond (db_cnd .ne (s.1 669 12) 0) (db_f268_b50 s ) ((db_f269 s (Int32.toInt64 (s.1 669 17)) (Int32.toInt64 v1) (Int32.toInt64 v2)).bind fun q1 => (cond q1 (db_f268_b50 s ) ((db_f234 s (4 : Int32) (s.1 669 15)).bind fun s4 => (db_f268_b50 s4 )))))
set_option maxRecDepth 100000 in
theorem db_f268_b19_ok {X : db_X} {d : Nat}  {s : db_S} {v1 : Int32} {v2 : Int32} : db_Rf X (d + 2) dbm_268 19 [(0, .ref 669), (1, .int v1), (2, .int v2)] [] s db_zI (db_f268_b19 s v1 v2) := by
  unfold db_f268_b19
  refine db_Rgo (pc' := 23) (lv' := [(0, .ref 669), (1, .int v1), (2, .int v2)]) (st' := [.int (s.1 669 12)]) 2 rfl ?_
  refine db_Rif (pc' := 26) (tg := 50) (lv1 := [(0, .ref 669), (1, .int v1), (2, .int v2)]) rfl rfl rfl rfl ?_ ?_
  · refine db_Rn (lv1 := [(0, .ref 669)]) rfl rfl rfl ?_
    exact db_f268_b50_ok
  refine db_Rgo (pc' := 35) (lv' := [(0, .ref 669), (1, .int v1), (2, .int v2)]) (st' := [.long (Int32.toInt64 v2), .long (Int32.toInt64 v1), .long (Int32.toInt64 (s.1 669 17))]) 7 rfl ?_
  refine db_RcyB (mr' := dbm_269) (as := [.long (Int32.toInt64 (s.1 669 17)), .long (Int32.toInt64 v1), .long (Int32.toInt64 v2)]) (rest := []) (pc' := 38) (lv1 := [(0, .ref 669), (1, .int v1), (2, .int v2)]) rfl rfl rfl rfl rfl (db_f269_ok) fun q1 => ?_
  refine db_RifBn (pc' := 41) (tg := 50) (lv1 := [(0, .ref 669), (1, .int v1), (2, .int v2)]) rfl rfl rfl rfl ?_ ?_
  · refine db_Rn (lv1 := [(0, .ref 669)]) rfl rfl rfl ?_
    exact db_f268_b50_ok
  refine db_Rgo (pc' := 47) (lv' := [(0, .ref 669), (1, .int v1), (2, .int v2)]) (st' := [.int (s.1 669 15), .int (4 : Int32), .ref 669]) 4 rfl ?_
  refine db_RcV (mr' := dbm_234) (as := [.ref 669, .int (4 : Int32), .int (s.1 669 15)]) (rest := []) (pc' := 50) (lv1 := [(0, .ref 669), (1, .int v1), (2, .int v2)]) rfl rfl rfl rfl rfl (db_f234_ok) fun s4 => ?_
  refine db_Rn (lv1 := [(0, .ref 669)]) rfl rfl rfl ?_
  exact db_f268_b50_ok
/-- DreamBookModel.count(II)I -/
noncomputable def db_f268 (s : db_S) (v1 : Int32) (v2 : Int32) : Option (Int32 × db_S) :=
  (cond (db_cnd .ne (s.1 669 12) 0) (db_f268_b19 s v1 v2) (cond (db_cnd .eq (s.1 669 14) (2 : Int32)) (db_f268_b19 s v1 v2) ((db_f257 s).bind fun s2 => (db_f268_b19 s2 v1 v2))))
set_option maxRecDepth 100000 in
theorem db_f268_ok {X : db_X} {d : Nat} {s : db_S} {v1 : Int32} {v2 : Int32} : db_Rf X (d + 2) dbm_268 0 (lv_args 0 [.ref 669, .int v1, .int v2]) [] s db_zI (db_f268 s v1 v2) := by
  show db_Rf _ _ _ 0 [(0, .ref 669), (1, .int v1), (2, .int v2)] [] _ _ _
  unfold db_f268
  refine db_Rgo (pc' := 4) (lv' := [(0, .ref 669), (1, .int v1), (2, .int v2)]) (st' := [.int (s.1 669 12)]) 2 rfl ?_
  refine db_Rif (pc' := 7) (tg := 19) (lv1 := [(0, .ref 669), (1, .int v1), (2, .int v2)]) rfl rfl rfl rfl ?_ ?_
  · exact db_f268_b19_ok
  refine db_Rgo (pc' := 12) (lv' := [(0, .ref 669), (1, .int v1), (2, .int v2)]) (st' := [.int (2 : Int32), .int (s.1 669 14)]) 3 rfl ?_
  refine db_Ric (pc' := 15) (tg := 19) (lv1 := [(0, .ref 669), (1, .int v1), (2, .int v2)]) rfl rfl rfl rfl ?_ ?_
  · exact db_f268_b19_ok
  refine db_Rgo (pc' := 16) (lv' := [(0, .ref 669), (1, .int v1), (2, .int v2)]) (st' := [.ref 669]) 1 rfl ?_
  refine db_RcV (mr' := dbm_257) (as := [.ref 669]) (rest := []) (pc' := 19) (lv1 := [(0, .ref 669), (1, .int v1), (2, .int v2)]) rfl rfl rfl rfl rfl (db_f257_ok) fun s2 => ?_
  exact db_f268_b19_ok
noncomputable def db_f272_b107 (h12 : db_S → Int32 → Int32 → Int32 → Option db_S) (s : db_S) (v1 : Int32) (v2 : Int32) (t0 : Int32) : Option db_S :=
  (h12 s v1 v2 t0)
set_option maxRecDepth 100000 in
theorem db_f272_b107_ok {X : db_X} {d : Nat}  {h12 : db_S → Int32 → Int32 → Int32 → Option db_S} {s : db_S} {v1 : Int32} {v2 : Int32} {t0 : Int32} (zh12 : ∀ (s' : db_S) (v1 : Int32) (v2 : Int32) (v3 : Int32) , db_Rf X (d + 5) dbm_272 12 [(0, .ref 669), (1, .int v1), (2, .int v2), (3, .int v3)] [] s' db_zV (h12 s' v1 v2 v3)) : db_Rf X (d + 5) dbm_272 107 [(0, .ref 669), (1, .int v1), (2, .int v2)] [.int t0] s db_zV (db_f272_b107 h12 s v1 v2 t0) := by
  unfold db_f272_b107
  refine db_Rgo (pc' := 12) (lv' := [(3, .int t0), (0, .ref 669), (1, .int v1), (2, .int v2)]) (st' := []) 2 rfl ?_
  refine db_Rn (lv1 := [(0, .ref 669), (1, .int v1), (2, .int v2), (3, .int t0)]) rfl rfl rfl ?_
  exact zh12 _ _ _ _
noncomputable def db_f272_b106 (h12 : db_S → Int32 → Int32 → Int32 → Option db_S) (s : db_S) (v1 : Int32) (v2 : Int32) : Option db_S :=
  (db_f272_b107 h12 s v1 v2 (0 : Int32))
set_option maxRecDepth 100000 in
theorem db_f272_b106_ok {X : db_X} {d : Nat}  {h12 : db_S → Int32 → Int32 → Int32 → Option db_S} {s : db_S} {v1 : Int32} {v2 : Int32} (zh12 : ∀ (s' : db_S) (v1 : Int32) (v2 : Int32) (v3 : Int32) , db_Rf X (d + 5) dbm_272 12 [(0, .ref 669), (1, .int v1), (2, .int v2), (3, .int v3)] [] s' db_zV (h12 s' v1 v2 v3)) : db_Rf X (d + 5) dbm_272 106 [(0, .ref 669), (1, .int v1), (2, .int v2)] [] s db_zV (db_f272_b106 h12 s v1 v2) := by
  unfold db_f272_b106
  refine db_Rgo (pc' := 107) (lv' := [(0, .ref 669), (1, .int v1), (2, .int v2)]) (st' := [.int (0 : Int32)]) 1 rfl ?_
  exact db_f272_b107_ok zh12
noncomputable def db_f272_b47 (h12 : db_S → Int32 → Int32 → Int32 → Option db_S) (s : db_S) (v1 : Int32) (v2 : Int32) (v4 : Int32) : Option db_S :=
  ((db_f264 s (1 : Int32)).bind fun s2 => (cond (db_cnd .le (s2.1 669 12) 0) ((db_wI s2 674 (((2071 : Int32) + ((6 : Int32) * v1)) + v2) v4).bind fun s3 => (cond (db_cnd .ne (s3.1 669 14) (1 : Int32)) (db_f272_b106 h12 s3 v1 (v2 + (1 : Int32))) ((db_f252 s3).bind fun q4 => (cond q4 (db_f272_b106 h12 s3 v1 (v2 + (1 : Int32))) ((db_f253 s3).bind fun q6 => (cond q6 (db_f272_b106 h12 s3 v1 (v2 + (1 : Int32))) (db_f272_b107 h12 s3 v1 (v2 + (1 : Int32)) (1 : Int32)))))))) (some s2)))
set_option maxRecDepth 100000 in
theorem db_f272_b47_ok {X : db_X} {d : Nat}  {h12 : db_S → Int32 → Int32 → Int32 → Option db_S} {s : db_S} {v1 : Int32} {v2 : Int32} {v4 : Int32} (zh12 : ∀ (s' : db_S) (v1 : Int32) (v2 : Int32) (v3 : Int32) , db_Rf X (d + 5) dbm_272 12 [(0, .ref 669), (1, .int v1), (2, .int v2), (3, .int v3)] [] s' db_zV (h12 s' v1 v2 v3)) : db_Rf X (d + 5) dbm_272 47 [(0, .ref 669), (1, .int v1), (2, .int v2), (4, .int v4)] [] s db_zV (db_f272_b47 h12 s v1 v2 v4) := by
  unfold db_f272_b47
  refine db_Rgo (pc' := 49) (lv' := [(0, .ref 669), (1, .int v1), (2, .int v2), (4, .int v4)]) (st' := [.int (1 : Int32), .ref 669]) 2 rfl ?_
  refine db_RcV (mr' := dbm_264) (as := [.ref 669, .int (1 : Int32)]) (rest := []) (pc' := 52) (lv1 := [(0, .ref 669), (1, .int v1), (2, .int v2), (4, .int v4)]) rfl rfl rfl rfl rfl (db_f264_ok) fun s2 => ?_
  refine db_Rgo (pc' := 56) (lv' := [(0, .ref 669), (1, .int v1), (2, .int v2), (4, .int v4)]) (st' := [.int (s2.1 669 12)]) 2 rfl ?_
  refine db_Rif (pc' := 59) (tg := 60) (lv1 := [(0, .ref 669), (1, .int v1), (2, .int v2), (4, .int v4)]) rfl rfl rfl rfl ?_ ?_
  · refine db_Rgo (pc' := 76) (lv' := [(0, .ref 669), (1, .int v1), (2, .int v2), (4, .int v4)]) (st' := [.int v4, .int (((2071 : Int32) + ((6 : Int32) * v1)) + v2), .ref 674]) 10 rfl ?_
    refine db_RstI (pc' := 77) (lv1 := [(0, .ref 669), (1, .int v1), (2, .int v2), (4, .int v4)]) rfl rfl rfl fun s3 => ?_
    refine db_Rgo (pc' := 85) (lv' := [(2, .int (v2 + (1 : Int32))), (0, .ref 669), (1, .int v1), (4, .int v4)]) (st' := [.int (1 : Int32), .int (s3.1 669 14)]) 4 rfl ?_
    refine db_Ric (pc' := 88) (tg := 106) (lv1 := [(2, .int (v2 + (1 : Int32))), (0, .ref 669), (1, .int v1), (4, .int v4)]) rfl rfl rfl rfl ?_ ?_
    · refine db_Rn (lv1 := [(0, .ref 669), (1, .int v1), (2, .int (v2 + (1 : Int32)))]) rfl rfl rfl ?_
      exact db_f272_b106_ok zh12
    refine db_Rgo (pc' := 89) (lv' := [(2, .int (v2 + (1 : Int32))), (0, .ref 669), (1, .int v1), (4, .int v4)]) (st' := [.ref 669]) 1 rfl ?_
    refine db_RcyB (mr' := dbm_252) (as := [.ref 669]) (rest := []) (pc' := 92) (lv1 := [(2, .int (v2 + (1 : Int32))), (0, .ref 669), (1, .int v1), (4, .int v4)]) rfl rfl rfl rfl rfl (db_f252_ok) fun q4 => ?_
    refine db_RifBn (pc' := 95) (tg := 106) (lv1 := [(2, .int (v2 + (1 : Int32))), (0, .ref 669), (1, .int v1), (4, .int v4)]) rfl rfl rfl rfl ?_ ?_
    · refine db_Rn (lv1 := [(0, .ref 669), (1, .int v1), (2, .int (v2 + (1 : Int32)))]) rfl rfl rfl ?_
      exact db_f272_b106_ok zh12
    refine db_Rgo (pc' := 96) (lv' := [(2, .int (v2 + (1 : Int32))), (0, .ref 669), (1, .int v1), (4, .int v4)]) (st' := [.ref 669]) 1 rfl ?_
    refine db_RcyB (mr' := dbm_253) (as := [.ref 669]) (rest := []) (pc' := 99) (lv1 := [(2, .int (v2 + (1 : Int32))), (0, .ref 669), (1, .int v1), (4, .int v4)]) rfl rfl rfl rfl rfl (db_f253_ok) fun q6 => ?_
    refine db_RifBn (pc' := 102) (tg := 106) (lv1 := [(2, .int (v2 + (1 : Int32))), (0, .ref 669), (1, .int v1), (4, .int v4)]) rfl rfl rfl rfl ?_ ?_
    · refine db_Rn (lv1 := [(0, .ref 669), (1, .int v1), (2, .int (v2 + (1 : Int32)))]) rfl rfl rfl ?_
      exact db_f272_b106_ok zh12
    refine db_Rgo (pc' := 107) (lv' := [(2, .int (v2 + (1 : Int32))), (0, .ref 669), (1, .int v1), (4, .int v4)]) (st' := [.int (1 : Int32)]) 2 rfl ?_
    refine db_Rn (lv1 := [(0, .ref 669), (1, .int v1), (2, .int (v2 + (1 : Int32)))]) rfl rfl rfl ?_
    exact db_f272_b107_ok zh12
  exact db_Rret (lv1 := [(0, .ref 669), (1, .int v1), (2, .int v2), (4, .int v4)]) rfl rfl rfl rfl
noncomputable def db_f272_b215 (s : db_S) : Option db_S :=
  (cond (db_cnd .ne (s.1 669 12) 0) (some s) ((db_rI s 674 (1925 : Int32)).bind fun x1 => ((db_wI s 674 (1925 : Int32) (x1 + (1 : Int32))).bind fun s2 => (some s2))))
set_option maxRecDepth 100000 in
theorem db_f272_b215_ok {X : db_X} {d : Nat}  {s : db_S} : db_Rf X (d + 5) dbm_272 215 [(0, .ref 669)] [] s db_zV (db_f272_b215 s ) := by
  unfold db_f272_b215
  refine db_Rgo (pc' := 219) (lv' := [(0, .ref 669)]) (st' := [.int (s.1 669 12)]) 2 rfl ?_
  refine db_Rif (pc' := 222) (tg := 234) (lv1 := [(0, .ref 669)]) rfl rfl rfl rfl ?_ ?_
  · exact db_Rret (lv1 := []) rfl rfl rfl rfl
  refine db_Rgo (pc' := 230) (lv' := [(0, .ref 669)]) (st' := [.int (1925 : Int32), .ref 674, .int (1925 : Int32), .ref 674]) 4 rfl ?_
  refine db_RldI (pc' := 231) (lv1 := [(0, .ref 669)]) rfl rfl rfl fun x1 => ?_
  refine db_Rgo (pc' := 233) (lv' := [(0, .ref 669)]) (st' := [.int (x1 + (1 : Int32)), .int (1925 : Int32), .ref 674]) 2 rfl ?_
  refine db_RstI (pc' := 234) (lv1 := [(0, .ref 669)]) rfl rfl rfl fun s2 => ?_
  exact db_Rret (lv1 := []) rfl rfl rfl rfl
noncomputable def db_f272_b180 (s : db_S) (v1 : Int32) : Option db_S :=
  (cond (db_cnd .ne (s.1 669 12) 0) (db_f272_b215 s ) ((db_f253 s).bind fun q1 => (cond q1 ((db_f223 s).bind fun s4 => (db_bd (db_f268 s4 (1 : Int32) (99 : Int32)) fun q5 s6 => ((db_wI s6 674 ((2063 : Int32) + v1) q5).bind fun s7 => (db_f272_b215 s7 )))) (db_f272_b215 s ))))
set_option maxRecDepth 100000 in
theorem db_f272_b180_ok {X : db_X} {d : Nat}  {s : db_S} {v1 : Int32} : db_Rf X (d + 5) dbm_272 180 [(0, .ref 669), (1, .int v1)] [] s db_zV (db_f272_b180 s v1) := by
  unfold db_f272_b180
  refine db_Rgo (pc' := 184) (lv' := [(0, .ref 669), (1, .int v1)]) (st' := [.int (s.1 669 12)]) 2 rfl ?_
  refine db_Rif (pc' := 187) (tg := 215) (lv1 := [(0, .ref 669), (1, .int v1)]) rfl rfl rfl rfl ?_ ?_
  · refine db_Rn (lv1 := [(0, .ref 669)]) rfl rfl rfl ?_
    exact db_f272_b215_ok
  refine db_Rgo (pc' := 188) (lv' := [(0, .ref 669), (1, .int v1)]) (st' := [.ref 669]) 1 rfl ?_
  refine db_RcyB (mr' := dbm_253) (as := [.ref 669]) (rest := []) (pc' := 191) (lv1 := [(0, .ref 669), (1, .int v1)]) rfl rfl rfl rfl rfl (db_f253_ok) fun q1 => ?_
  refine db_RifBe (pc' := 194) (tg := 215) (lv1 := [(0, .ref 669), (1, .int v1)]) rfl rfl rfl rfl ?_ ?_
  · refine db_Rn (lv1 := [(0, .ref 669)]) rfl rfl rfl ?_
    exact db_f272_b215_ok
  refine db_Rgo (pc' := 195) (lv' := [(0, .ref 669), (1, .int v1)]) (st' := [.ref 669]) 1 rfl ?_
  refine db_RcV (mr' := dbm_223) (as := [.ref 669]) (rest := []) (pc' := 198) (lv1 := [(0, .ref 669), (1, .int v1)]) rfl rfl rfl rfl rfl (db_f223_ok) fun s4 => ?_
  refine db_Rgo (pc' := 211) (lv' := [(0, .ref 669), (1, .int v1)]) (st' := [.int (99 : Int32), .int (1 : Int32), .ref 669, .int ((2063 : Int32) + v1), .ref 674]) 8 rfl ?_
  refine db_RcdI (mr' := dbm_268) (as := [.ref 669, .int (1 : Int32), .int (99 : Int32)]) (rest := [.int ((2063 : Int32) + v1), .ref 674]) (pc' := 214) (lv1 := [(0, .ref 669), (1, .int v1)]) rfl rfl rfl rfl rfl (db_f268_ok) fun q5 s6 => ?_
  refine db_RstI (pc' := 215) (lv1 := [(0, .ref 669), (1, .int v1)]) rfl rfl rfl fun s7 => ?_
  refine db_Rn (lv1 := [(0, .ref 669)]) rfl rfl rfl ?_
  exact db_f272_b215_ok
noncomputable def db_f272_b111 (s : db_S) (v1 : Int32) (v2 : Int32) : Option db_S :=
  (cond (db_cnd .le (s.1 669 12) 0) ((db_wI s 674 ((2047 : Int32) + v1) v2).bind fun s1 => ((db_wI s1 674 ((2055 : Int32) + v1) (0 : Int32)).bind fun s2 => ((db_wI s2 674 ((2063 : Int32) + v1) (1 : Int32)).bind fun s3 => ((db_f252 s3).bind fun q4 => (cond q4 ((db_f223 s3).bind fun s7 => (db_bd (db_f268 s7 (0 : Int32) (99 : Int32)) fun q8 s9 => ((db_wI s9 674 ((2055 : Int32) + v1) q8).bind fun s10 => (db_f272_b180 s10 v1)))) (db_f272_b180 s3 v1)))))) (some s))
set_option maxRecDepth 100000 in
theorem db_f272_b111_ok {X : db_X} {d : Nat}  {s : db_S} {v1 : Int32} {v2 : Int32} : db_Rf X (d + 5) dbm_272 111 [(0, .ref 669), (1, .int v1), (2, .int v2)] [] s db_zV (db_f272_b111 s v1 v2) := by
  unfold db_f272_b111
  refine db_Rgo (pc' := 115) (lv' := [(0, .ref 669), (1, .int v1), (2, .int v2)]) (st' := [.int (s.1 669 12)]) 2 rfl ?_
  refine db_Rif (pc' := 118) (tg := 119) (lv1 := [(0, .ref 669), (1, .int v1), (2, .int v2)]) rfl rfl rfl rfl ?_ ?_
  · refine db_Rgo (pc' := 129) (lv' := [(0, .ref 669), (1, .int v1), (2, .int v2)]) (st' := [.int v2, .int ((2047 : Int32) + v1), .ref 674]) 6 rfl ?_
    refine db_RstI (pc' := 130) (lv1 := [(0, .ref 669), (1, .int v1), (2, .int v2)]) rfl rfl rfl fun s1 => ?_
    refine db_Rgo (pc' := 140) (lv' := [(0, .ref 669), (1, .int v1), (2, .int v2)]) (st' := [.int (0 : Int32), .int ((2055 : Int32) + v1), .ref 674]) 6 rfl ?_
    refine db_RstI (pc' := 141) (lv1 := [(0, .ref 669), (1, .int v1), (2, .int v2)]) rfl rfl rfl fun s2 => ?_
    refine db_Rgo (pc' := 151) (lv' := [(0, .ref 669), (1, .int v1), (2, .int v2)]) (st' := [.int (1 : Int32), .int ((2063 : Int32) + v1), .ref 674]) 6 rfl ?_
    refine db_RstI (pc' := 152) (lv1 := [(0, .ref 669), (1, .int v1), (2, .int v2)]) rfl rfl rfl fun s3 => ?_
    refine db_Rgo (pc' := 153) (lv' := [(0, .ref 669), (1, .int v1), (2, .int v2)]) (st' := [.ref 669]) 1 rfl ?_
    refine db_RcyB (mr' := dbm_252) (as := [.ref 669]) (rest := []) (pc' := 156) (lv1 := [(0, .ref 669), (1, .int v1), (2, .int v2)]) rfl rfl rfl rfl rfl (db_f252_ok) fun q4 => ?_
    refine db_RifBe (pc' := 159) (tg := 180) (lv1 := [(0, .ref 669), (1, .int v1), (2, .int v2)]) rfl rfl rfl rfl ?_ ?_
    · refine db_Rn (lv1 := [(0, .ref 669), (1, .int v1)]) rfl rfl rfl ?_
      exact db_f272_b180_ok
    refine db_Rgo (pc' := 160) (lv' := [(0, .ref 669), (1, .int v1), (2, .int v2)]) (st' := [.ref 669]) 1 rfl ?_
    refine db_RcV (mr' := dbm_223) (as := [.ref 669]) (rest := []) (pc' := 163) (lv1 := [(0, .ref 669), (1, .int v1), (2, .int v2)]) rfl rfl rfl rfl rfl (db_f223_ok) fun s7 => ?_
    refine db_Rgo (pc' := 176) (lv' := [(0, .ref 669), (1, .int v1), (2, .int v2)]) (st' := [.int (99 : Int32), .int (0 : Int32), .ref 669, .int ((2055 : Int32) + v1), .ref 674]) 8 rfl ?_
    refine db_RcdI (mr' := dbm_268) (as := [.ref 669, .int (0 : Int32), .int (99 : Int32)]) (rest := [.int ((2055 : Int32) + v1), .ref 674]) (pc' := 179) (lv1 := [(0, .ref 669), (1, .int v1), (2, .int v2)]) rfl rfl rfl rfl rfl (db_f268_ok) fun q8 s9 => ?_
    refine db_RstI (pc' := 180) (lv1 := [(0, .ref 669), (1, .int v1), (2, .int v2)]) rfl rfl rfl fun s10 => ?_
    refine db_Rn (lv1 := [(0, .ref 669), (1, .int v1)]) rfl rfl rfl ?_
    exact db_f272_b180_ok
  exact db_Rret (lv1 := [(0, .ref 669), (1, .int v1), (2, .int v2)]) rfl rfl rfl rfl
noncomputable def db_f272_b12 : Nat → db_S → Int32 → Int32 → Int32 → Option db_S
  | 0, _, _, _, _ => none
  | n + 1, s, v1, v2, v3 =>
    (cond (db_cnd .ne (s.1 669 12) 0) (db_f272_b111 s v1 v2) (cond (db_cnd .eq v3 0) (db_f272_b111 s v1 v2) (db_bd (db_f266 s (4 : Int32) (0 : Int32)) fun q1 s2 => (cond (db_cnd .ne v2 (6 : Int32)) (db_f272_b47 (db_f272_b12 n) s2 v1 v2 q1) ((db_f234 s2 (6 : Int32) (s2.1 669 15)).bind fun s4 => (db_f272_b47 (db_f272_b12 n) s4 v1 v2 q1))))))
set_option maxRecDepth 100000 in
theorem db_f272_b12_ok {X : db_X} {d : Nat}  (n : Nat) : ∀ (s : db_S) (v1 : Int32) (v2 : Int32) (v3 : Int32), db_Rf X (d + 5) dbm_272 12 [(0, .ref 669), (1, .int v1), (2, .int v2), (3, .int v3)] [] s db_zV (db_f272_b12 n s v1 v2 v3) := by
  induction n with
  | zero => intros; exact db_Rnone
  | succ n ih =>
    intro s v1 v2 v3
    unfold db_f272_b12
    refine db_Rgo (pc' := 16) (lv' := [(0, .ref 669), (1, .int v1), (2, .int v2), (3, .int v3)]) (st' := [.int (s.1 669 12)]) 2 rfl ?_
    refine db_Rif (pc' := 19) (tg := 111) (lv1 := [(0, .ref 669), (1, .int v1), (2, .int v2), (3, .int v3)]) rfl rfl rfl rfl ?_ ?_
    · refine db_Rn (lv1 := [(0, .ref 669), (1, .int v1), (2, .int v2)]) rfl rfl rfl ?_
      exact db_f272_b111_ok
    refine db_Rgo (pc' := 20) (lv' := [(0, .ref 669), (1, .int v1), (2, .int v2), (3, .int v3)]) (st' := [.int v3]) 1 rfl ?_
    refine db_Rif (pc' := 23) (tg := 111) (lv1 := [(0, .ref 669), (1, .int v1), (2, .int v2), (3, .int v3)]) rfl rfl rfl rfl ?_ ?_
    · refine db_Rn (lv1 := [(0, .ref 669), (1, .int v1), (2, .int v2)]) rfl rfl rfl ?_
      exact db_f272_b111_ok
    refine db_Rgo (pc' := 26) (lv' := [(0, .ref 669), (1, .int v1), (2, .int v2), (3, .int v3)]) (st' := [.int (0 : Int32), .int (4 : Int32), .ref 669]) 3 rfl ?_
    refine db_RcdI (mr' := dbm_266) (as := [.ref 669, .int (4 : Int32), .int (0 : Int32)]) (rest := []) (pc' := 29) (lv1 := [(0, .ref 669), (1, .int v1), (2, .int v2), (3, .int v3)]) rfl rfl rfl rfl rfl (db_f266_ok) fun q1 s2 => ?_
    refine db_Rgo (pc' := 34) (lv' := [(4, .int q1), (0, .ref 669), (1, .int v1), (2, .int v2), (3, .int v3)]) (st' := [.int (6 : Int32), .int v2]) 3 rfl ?_
    refine db_Ric (pc' := 37) (tg := 47) (lv1 := [(4, .int q1), (0, .ref 669), (1, .int v1), (2, .int v2), (3, .int v3)]) rfl rfl rfl rfl ?_ ?_
    · refine db_Rn (lv1 := [(0, .ref 669), (1, .int v1), (2, .int v2), (4, .int q1)]) rfl rfl rfl ?_
      exact db_f272_b47_ok ih
    refine db_Rgo (pc' := 44) (lv' := [(4, .int q1), (0, .ref 669), (1, .int v1), (2, .int v2), (3, .int v3)]) (st' := [.int (s2.1 669 15), .int (6 : Int32), .ref 669]) 4 rfl ?_
    refine db_RcV (mr' := dbm_234) (as := [.ref 669, .int (6 : Int32), .int (s2.1 669 15)]) (rest := []) (pc' := 47) (lv1 := [(4, .int q1), (0, .ref 669), (1, .int v1), (2, .int v2), (3, .int v3)]) rfl rfl rfl rfl rfl (db_f234_ok) fun s4 => ?_
    refine db_Rn (lv1 := [(0, .ref 669), (1, .int v1), (2, .int v2), (4, .int q1)]) rfl rfl rfl ?_
    exact db_f272_b47_ok ih
/-- DreamBookModel.readDream()V -/
noncomputable def db_f272 (s : db_S) : Option db_S :=
  (db_bd (db_f232 s (4 : Int32) (8 : Int32)) fun q1 s2 => (db_f272_b12 db_FU s2 q1 (0 : Int32) (1 : Int32)))
set_option maxRecDepth 100000 in
theorem db_f272_ok {X : db_X} {d : Nat} {s : db_S} : db_Rf X (d + 5) dbm_272 0 (lv_args 0 [.ref 669]) [] s db_zV (db_f272 s ) := by
  show db_Rf _ _ _ 0 [(0, .ref 669)] [] _ _ _
  unfold db_f272
  refine db_Rgo (pc' := 4) (lv' := [(0, .ref 669)]) (st' := [.int (8 : Int32), .int (4 : Int32), .ref 669]) 3 rfl ?_
  refine db_RcdI (mr' := dbm_232) (as := [.ref 669, .int (4 : Int32), .int (8 : Int32)]) (rest := []) (pc' := 7) (lv1 := [(0, .ref 669)]) rfl rfl rfl rfl rfl (db_f232_ok) fun q1 s2 => ?_
  refine db_Rgo (pc' := 12) (lv' := [(3, .int (1 : Int32)), (2, .int (0 : Int32)), (1, .int q1), (0, .ref 669)]) (st' := []) 5 rfl ?_
  refine db_Rn (lv1 := [(0, .ref 669), (1, .int q1), (2, .int (0 : Int32)), (3, .int (1 : Int32))]) rfl rfl rfl ?_
  exact db_f272_b12_ok db_FU _ _ _ _
