/-- DreamBookModel.readTold(II)I -/
noncomputable def db_f265 (s : db_S) (v1 : Int32) (v2 : Int32) : Option (Int32 × db_S) :=
  (db_bd (db_f266 s v1 v2) fun q1 s2 => ((db_f264 s2 (1 : Int32)).bind fun s4 => (some (q1, s4))))
set_option maxRecDepth 100000 in
theorem db_f265_ok {X : db_X} {d : Nat} {s : db_S} {v1 : Int32} {v2 : Int32} : db_Rf X (d + 5) dbm_265 0 (lv_args 0 [.ref 669, .int v1, .int v2]) [] s db_zI (db_f265 s v1 v2) := by
  show db_Rf _ _ _ 0 [(0, .ref 669), (1, .int v1), (2, .int v2)] [] _ _ _
  unfold db_f265
  refine db_Rgo (pc' := 3) (lv' := [(0, .ref 669), (1, .int v1), (2, .int v2)]) (st' := [.int v2, .int v1, .ref 669]) 3 rfl ?_
  refine db_RcdI (mr' := dbm_266) (as := [.ref 669, .int v1, .int v2]) (rest := []) (pc' := 6) (lv1 := [(0, .ref 669), (1, .int v1), (2, .int v2)]) rfl rfl rfl rfl rfl (db_f266_ok) fun q1 s2 => ?_
  refine db_Rgo (pc' := 9) (lv' := [(3, .int q1), (0, .ref 669), (1, .int v1), (2, .int v2)]) (st' := [.int (1 : Int32), .ref 669]) 3 rfl ?_
  refine db_RcV (mr' := dbm_264) (as := [.ref 669, .int (1 : Int32)]) (rest := []) (pc' := 12) (lv1 := [(3, .int q1), (0, .ref 669), (1, .int v1), (2, .int v2)]) rfl rfl rfl rfl rfl (db_f264_ok) fun s4 => ?_
  refine db_Rgo (pc' := 13) (lv' := [(3, .int q1), (0, .ref 669), (1, .int v1), (2, .int v2)]) (st' := [.int q1]) 1 rfl ?_
  exact db_Rret (lv1 := [(3, .int q1), (0, .ref 669), (1, .int v1), (2, .int v2)]) rfl rfl rfl rfl
noncomputable def db_f271_b114 (h62 : db_S → Int32 → Int32 → Int32 → Int32 → Option db_S) (s : db_S) (v1 : Int32) (v2 : Int32) (v3 : Int32) (v4 : Int32) : Option db_S :=
  (h62 s v1 v2 v3 (v4 + (1 : Int32)))
set_option maxRecDepth 100000 in
theorem db_f271_b114_ok {X : db_X} {d : Nat}  {h62 : db_S → Int32 → Int32 → Int32 → Int32 → Option db_S} {s : db_S} {v1 : Int32} {v2 : Int32} {v3 : Int32} {v4 : Int32} (zh62 : ∀ (s' : db_S) (v1 : Int32) (v2 : Int32) (v3 : Int32) (v4 : Int32) , db_Rf X (d + 6) dbm_271 62 [(0, .ref 669), (1, .int v1), (2, .int v2), (3, .int v3), (4, .int v4)] [] s' db_zV (h62 s' v1 v2 v3 v4)) : db_Rf X (d + 6) dbm_271 114 [(0, .ref 669), (1, .int v1), (2, .int v2), (3, .int v3), (4, .int v4)] [] s db_zV (db_f271_b114 h62 s v1 v2 v3 v4) := by
  unfold db_f271_b114
  refine db_Rgo (pc' := 62) (lv' := [(4, .int (v4 + (1 : Int32))), (0, .ref 669), (1, .int v1), (2, .int v2), (3, .int v3)]) (st' := []) 2 rfl ?_
  refine db_Rn (lv1 := [(0, .ref 669), (1, .int v1), (2, .int v2), (3, .int v3), (4, .int (v4 + (1 : Int32)))]) rfl rfl rfl ?_
  exact zh62 _ _ _ _ _
noncomputable def db_f271_b120 (s : db_S) (v1 : Int32) (v2 : Int32) (v3 : Int32) : Option db_S :=
  ((db_f264 s (1 : Int32)).bind fun s2 => (cond (db_cnd .le (s2.1 669 12) 0) ((db_wI s2 674 ((2023 : Int32) + v1) v2).bind fun s3 => ((db_wI s3 674 ((2035 : Int32) + v1) v3).bind fun s4 => ((db_rI s4 674 (1924 : Int32)).bind fun x5 => ((db_wI s4 674 (1924 : Int32) (x5 + (1 : Int32))).bind fun s6 => (some s6))))) (some s2)))
set_option maxRecDepth 100000 in
theorem db_f271_b120_ok {X : db_X} {d : Nat}  {s : db_S} {v1 : Int32} {v2 : Int32} {v3 : Int32} : db_Rf X (d + 6) dbm_271 120 [(0, .ref 669), (1, .int v1), (2, .int v2), (3, .int v3)] [] s db_zV (db_f271_b120 s v1 v2 v3) := by
  unfold db_f271_b120
  refine db_Rgo (pc' := 122) (lv' := [(0, .ref 669), (1, .int v1), (2, .int v2), (3, .int v3)]) (st' := [.int (1 : Int32), .ref 669]) 2 rfl ?_
  refine db_RcV (mr' := dbm_264) (as := [.ref 669, .int (1 : Int32)]) (rest := []) (pc' := 125) (lv1 := [(0, .ref 669), (1, .int v1), (2, .int v2), (3, .int v3)]) rfl rfl rfl rfl rfl (db_f264_ok) fun s2 => ?_
  refine db_Rgo (pc' := 129) (lv' := [(0, .ref 669), (1, .int v1), (2, .int v2), (3, .int v3)]) (st' := [.int (s2.1 669 12)]) 2 rfl ?_
  refine db_Rif (pc' := 132) (tg := 133) (lv1 := [(0, .ref 669), (1, .int v1), (2, .int v2), (3, .int v3)]) rfl rfl rfl rfl ?_ ?_
  · refine db_Rgo (pc' := 143) (lv' := [(0, .ref 669), (1, .int v1), (2, .int v2), (3, .int v3)]) (st' := [.int v2, .int ((2023 : Int32) + v1), .ref 674]) 6 rfl ?_
    refine db_RstI (pc' := 144) (lv1 := [(0, .ref 669), (1, .int v1), (2, .int v2), (3, .int v3)]) rfl rfl rfl fun s3 => ?_
    refine db_Rgo (pc' := 154) (lv' := [(0, .ref 669), (1, .int v1), (2, .int v2), (3, .int v3)]) (st' := [.int v3, .int ((2035 : Int32) + v1), .ref 674]) 6 rfl ?_
    refine db_RstI (pc' := 155) (lv1 := [(0, .ref 669), (1, .int v1), (2, .int v2), (3, .int v3)]) rfl rfl rfl fun s4 => ?_
    refine db_Rgo (pc' := 163) (lv' := [(0, .ref 669), (1, .int v1), (2, .int v2), (3, .int v3)]) (st' := [.int (1924 : Int32), .ref 674, .int (1924 : Int32), .ref 674]) 4 rfl ?_
    refine db_RldI (pc' := 164) (lv1 := [(0, .ref 669), (1, .int v1), (2, .int v2), (3, .int v3)]) rfl rfl rfl fun x5 => ?_
    refine db_Rgo (pc' := 166) (lv' := [(0, .ref 669), (1, .int v1), (2, .int v2), (3, .int v3)]) (st' := [.int (x5 + (1 : Int32)), .int (1924 : Int32), .ref 674]) 2 rfl ?_
    refine db_RstI (pc' := 167) (lv1 := [(0, .ref 669), (1, .int v1), (2, .int v2), (3, .int v3)]) rfl rfl rfl fun s6 => ?_
    exact db_Rret (lv1 := [(0, .ref 669), (1, .int v1), (2, .int v2), (3, .int v3)]) rfl rfl rfl rfl
  exact db_Rret (lv1 := [(0, .ref 669), (1, .int v1), (2, .int v2), (3, .int v3)]) rfl rfl rfl rfl
noncomputable def db_f271_b62 : Nat → db_S → Int32 → Int32 → Int32 → Int32 → Option db_S
  | 0, _, _, _, _, _ => none
  | n + 1, s, v1, v2, v3, v4 =>
    (cond (db_cnd .ge v4 v1) (db_f271_b120 s v1 v2 v3) (cond (db_cnd .ne (s.1 669 12) 0) (db_f271_b120 s v1 v2 v3) ((db_rI s 674 ((2023 : Int32) + v4)).bind fun x1 => (cond (db_cnd .ne x1 v2) (db_f271_b114 (db_f271_b62 n) s v1 v2 v3 v4) ((db_rI s 674 ((2035 : Int32) + v4)).bind fun x2 => (cond (db_cnd .ne x2 v3) (db_f271_b114 (db_f271_b62 n) s v1 v2 v3 v4) ((db_f234 s (5 : Int32) (s.1 669 15)).bind fun s4 => (db_f271_b114 (db_f271_b62 n) s4 v1 v2 v3 v4))))))))
set_option maxRecDepth 100000 in
theorem db_f271_b62_ok {X : db_X} {d : Nat}  (n : Nat) : ∀ (s : db_S) (v1 : Int32) (v2 : Int32) (v3 : Int32) (v4 : Int32), db_Rf X (d + 6) dbm_271 62 [(0, .ref 669), (1, .int v1), (2, .int v2), (3, .int v3), (4, .int v4)] [] s db_zV (db_f271_b62 n s v1 v2 v3 v4) := by
  induction n with
  | zero => intros; exact db_Rnone
  | succ n ih =>
    intro s v1 v2 v3 v4
    unfold db_f271_b62
    refine db_Rgo (pc' := 65) (lv' := [(0, .ref 669), (1, .int v1), (2, .int v2), (3, .int v3), (4, .int v4)]) (st' := [.int v1, .int v4]) 2 rfl ?_
    refine db_Ric (pc' := 68) (tg := 120) (lv1 := [(0, .ref 669), (1, .int v1), (2, .int v2), (3, .int v3), (4, .int v4)]) rfl rfl rfl rfl ?_ ?_
    · refine db_Rn (lv1 := [(0, .ref 669), (1, .int v1), (2, .int v2), (3, .int v3)]) rfl rfl rfl ?_
      exact db_f271_b120_ok
    refine db_Rgo (pc' := 72) (lv' := [(0, .ref 669), (1, .int v1), (2, .int v2), (3, .int v3), (4, .int v4)]) (st' := [.int (s.1 669 12)]) 2 rfl ?_
    refine db_Rif (pc' := 75) (tg := 120) (lv1 := [(0, .ref 669), (1, .int v1), (2, .int v2), (3, .int v3), (4, .int v4)]) rfl rfl rfl rfl ?_ ?_
    · refine db_Rn (lv1 := [(0, .ref 669), (1, .int v1), (2, .int v2), (3, .int v3)]) rfl rfl rfl ?_
      exact db_f271_b120_ok
    refine db_Rgo (pc' := 85) (lv' := [(0, .ref 669), (1, .int v1), (2, .int v2), (3, .int v3), (4, .int v4)]) (st' := [.int ((2023 : Int32) + v4), .ref 674]) 5 rfl ?_
    refine db_RldI (pc' := 86) (lv1 := [(0, .ref 669), (1, .int v1), (2, .int v2), (3, .int v3), (4, .int v4)]) rfl rfl rfl fun x1 => ?_
    refine db_Rgo (pc' := 87) (lv' := [(0, .ref 669), (1, .int v1), (2, .int v2), (3, .int v3), (4, .int v4)]) (st' := [.int v2, .int x1]) 1 rfl ?_
    refine db_Ric (pc' := 90) (tg := 114) (lv1 := [(0, .ref 669), (1, .int v1), (2, .int v2), (3, .int v3), (4, .int v4)]) rfl rfl rfl rfl ?_ ?_
    · exact db_f271_b114_ok ih
    refine db_Rgo (pc' := 100) (lv' := [(0, .ref 669), (1, .int v1), (2, .int v2), (3, .int v3), (4, .int v4)]) (st' := [.int ((2035 : Int32) + v4), .ref 674]) 5 rfl ?_
    refine db_RldI (pc' := 101) (lv1 := [(0, .ref 669), (1, .int v1), (2, .int v2), (3, .int v3), (4, .int v4)]) rfl rfl rfl fun x2 => ?_
    refine db_Rgo (pc' := 102) (lv' := [(0, .ref 669), (1, .int v1), (2, .int v2), (3, .int v3), (4, .int v4)]) (st' := [.int v3, .int x2]) 1 rfl ?_
    refine db_Ric (pc' := 105) (tg := 114) (lv1 := [(0, .ref 669), (1, .int v1), (2, .int v2), (3, .int v3), (4, .int v4)]) rfl rfl rfl rfl ?_ ?_
    · exact db_f271_b114_ok ih
    refine db_Rgo (pc' := 111) (lv' := [(0, .ref 669), (1, .int v1), (2, .int v2), (3, .int v3), (4, .int v4)]) (st' := [.int (s.1 669 15), .int (5 : Int32), .ref 669]) 4 rfl ?_
    refine db_RcV (mr' := dbm_234) (as := [.ref 669, .int (5 : Int32), .int (s.1 669 15)]) (rest := []) (pc' := 114) (lv1 := [(0, .ref 669), (1, .int v1), (2, .int v2), (3, .int v3), (4, .int v4)]) rfl rfl rfl rfl rfl (db_f234_ok) fun s4 => ?_
    exact db_f271_b114_ok ih
noncomputable def db_f271_b25 (s : db_S) (v1 : Int32) : Option db_S :=
  (cond (db_cnd .le (s.1 669 12) 0) ((db_f223 s).bind fun s2 => (db_bd (db_f265 s2 (4 : Int32) (3 : Int32)) fun q3 s4 => ((db_f250 s4).bind fun q5 => ((db_f264 s4 (db_i q5)).bind fun s8 => (db_bd (db_f266 s8 (4 : Int32) (3 : Int32)) fun q9 s10 => (db_f271_b62 db_FU s10 v1 q3 q9 (0 : Int32))))))) (some s))
set_option maxRecDepth 100000 in
theorem db_f271_b25_ok {X : db_X} {d : Nat}  {s : db_S} {v1 : Int32} : db_Rf X (d + 6) dbm_271 25 [(0, .ref 669), (1, .int v1)] [] s db_zV (db_f271_b25 s v1) := by
  unfold db_f271_b25
  refine db_Rgo (pc' := 29) (lv' := [(0, .ref 669), (1, .int v1)]) (st' := [.int (s.1 669 12)]) 2 rfl ?_
  refine db_Rif (pc' := 32) (tg := 33) (lv1 := [(0, .ref 669), (1, .int v1)]) rfl rfl rfl rfl ?_ ?_
  · refine db_Rgo (pc' := 34) (lv' := [(0, .ref 669), (1, .int v1)]) (st' := [.ref 669]) 1 rfl ?_
    refine db_RcV (mr' := dbm_223) (as := [.ref 669]) (rest := []) (pc' := 37) (lv1 := [(0, .ref 669), (1, .int v1)]) rfl rfl rfl rfl rfl (db_f223_ok) fun s2 => ?_
    refine db_Rgo (pc' := 40) (lv' := [(0, .ref 669), (1, .int v1)]) (st' := [.int (3 : Int32), .int (4 : Int32), .ref 669]) 3 rfl ?_
    refine db_RcdI (mr' := dbm_265) (as := [.ref 669, .int (4 : Int32), .int (3 : Int32)]) (rest := []) (pc' := 43) (lv1 := [(0, .ref 669), (1, .int v1)]) rfl rfl rfl rfl rfl (db_f265_ok) fun q3 s4 => ?_
    refine db_Rgo (pc' := 46) (lv' := [(2, .int q3), (0, .ref 669), (1, .int v1)]) (st' := [.ref 669, .ref 669]) 3 rfl ?_
    refine db_RcyB (mr' := dbm_250) (as := [.ref 669]) (rest := [.ref 669]) (pc' := 49) (lv1 := [(2, .int q3), (0, .ref 669), (1, .int v1)]) rfl rfl rfl rfl rfl (db_f250_ok) fun q5 => ?_
    refine db_RcV (mr' := dbm_264) (as := [.ref 669, .int (db_i q5)]) (rest := []) (pc' := 52) (lv1 := [(2, .int q3), (0, .ref 669), (1, .int v1)]) rfl rfl rfl rfl rfl (db_f264_ok) fun s8 => ?_
    refine db_Rgo (pc' := 55) (lv' := [(2, .int q3), (0, .ref 669), (1, .int v1)]) (st' := [.int (3 : Int32), .int (4 : Int32), .ref 669]) 3 rfl ?_
    refine db_RcdI (mr' := dbm_266) (as := [.ref 669, .int (4 : Int32), .int (3 : Int32)]) (rest := []) (pc' := 58) (lv1 := [(2, .int q3), (0, .ref 669), (1, .int v1)]) rfl rfl rfl rfl rfl (db_f266_ok) fun q9 s10 => ?_
    refine db_Rgo (pc' := 62) (lv' := [(4, .int (0 : Int32)), (3, .int q9), (2, .int q3), (0, .ref 669), (1, .int v1)]) (st' := []) 3 rfl ?_
    refine db_Rn (lv1 := [(0, .ref 669), (1, .int v1), (2, .int q3), (3, .int q9), (4, .int (0 : Int32))]) rfl rfl rfl ?_
    exact db_f271_b62_ok db_FU _ _ _ _ _
  exact db_Rret (lv1 := [(0, .ref 669), (1, .int v1)]) rfl rfl rfl rfl
/-- DreamBookModel.readNote()V -/
noncomputable def db_f271 (s : db_S) : Option db_S :=
  ((db_rI s 674 (1924 : Int32)).bind fun x1 => (cond (db_cnd .ne x1 (12 : Int32)) (db_f271_b25 s x1) ((db_f234 s (6 : Int32) (s.1 669 15)).bind fun s3 => (db_f271_b25 s3 x1))))
set_option maxRecDepth 100000 in
theorem db_f271_ok {X : db_X} {d : Nat} {s : db_S} : db_Rf X (d + 6) dbm_271 0 (lv_args 0 [.ref 669]) [] s db_zV (db_f271 s ) := by
  show db_Rf _ _ _ 0 [(0, .ref 669)] [] _ _ _
  unfold db_f271
  refine db_Rgo (pc' := 7) (lv' := [(0, .ref 669)]) (st' := [.int (1924 : Int32), .ref 674]) 3 rfl ?_
  refine db_RldI (pc' := 8) (lv1 := [(0, .ref 669)]) rfl rfl rfl fun x1 => ?_
  refine db_Rgo (pc' := 12) (lv' := [(1, .int x1), (0, .ref 669)]) (st' := [.int (12 : Int32), .int x1]) 3 rfl ?_
  refine db_Ric (pc' := 15) (tg := 25) (lv1 := [(1, .int x1), (0, .ref 669)]) rfl rfl rfl rfl ?_ ?_
  · refine db_Rn (lv1 := [(0, .ref 669), (1, .int x1)]) rfl rfl rfl ?_
    exact db_f271_b25_ok
  refine db_Rgo (pc' := 22) (lv' := [(1, .int x1), (0, .ref 669)]) (st' := [.int (s.1 669 15), .int (6 : Int32), .ref 669]) 4 rfl ?_
  refine db_RcV (mr' := dbm_234) (as := [.ref 669, .int (6 : Int32), .int (s.1 669 15)]) (rest := []) (pc' := 25) (lv1 := [(1, .int x1), (0, .ref 669)]) rfl rfl rfl rfl rfl (db_f234_ok) fun s3 => ?_
  refine db_Rn (lv1 := [(0, .ref 669), (1, .int x1)]) rfl rfl rfl ?_
  exact db_f271_b25_ok
noncomputable def db_f267_b28 (s : db_S) (v1 : Int32) (v2 : Int32) : Option (Int32 × db_S) :=
  (db_bd (db_f268 s (0 : Int32) v1) fun q1 s2 => (cond (db_cnd .eq v2 0) (some (q1, s2)) (some ((-q1), s2))))
set_option maxRecDepth 100000 in
theorem db_f267_b28_ok {X : db_X} {d : Nat}  {s : db_S} {v1 : Int32} {v2 : Int32} : db_Rf X (d + 3) dbm_267 28 [(0, .ref 669), (1, .int v1), (2, .int v2)] [] s db_zI (db_f267_b28 s v1 v2) := by
  unfold db_f267_b28
  refine db_Rgo (pc' := 31) (lv' := [(0, .ref 669), (1, .int v1), (2, .int v2)]) (st' := [.int v1, .int (0 : Int32), .ref 669]) 3 rfl ?_
  refine db_RcdI (mr' := dbm_268) (as := [.ref 669, .int (0 : Int32), .int v1]) (rest := []) (pc' := 34) (lv1 := [(0, .ref 669), (1, .int v1), (2, .int v2)]) rfl rfl rfl rfl rfl (db_f268_ok) fun q1 s2 => ?_
  refine db_Rgo (pc' := 36) (lv' := [(3, .int q1), (0, .ref 669), (1, .int v1), (2, .int v2)]) (st' := [.int v2]) 2 rfl ?_
  refine db_Rif (pc' := 39) (tg := 44) (lv1 := [(3, .int q1), (0, .ref 669), (1, .int v1), (2, .int v2)]) rfl rfl rfl rfl ?_ ?_
  · refine db_Rgo (pc' := 45) (lv' := [(3, .int q1)]) (st' := [.int q1]) 1 rfl ?_
    exact db_Rret (lv1 := []) rfl rfl rfl rfl
  refine db_Rgo (pc' := 45) (lv' := [(3, .int q1), (0, .ref 669), (1, .int v1), (2, .int v2)]) (st' := [.int (-q1)]) 3 rfl ?_
  exact db_Rret (lv1 := []) rfl rfl rfl rfl
noncomputable def db_f267_b19 (s : db_S) (v1 : Int32) (t0 : Int32) : Option (Int32 × db_S) :=
  (cond (db_cnd .eq t0 0) (db_f267_b28 s v1 t0) ((db_f223 s).bind fun s2 => (db_f267_b28 s2 v1 t0)))
set_option maxRecDepth 100000 in
theorem db_f267_b19_ok {X : db_X} {d : Nat}  {s : db_S} {v1 : Int32} {t0 : Int32} : db_Rf X (d + 3) dbm_267 19 [(0, .ref 669), (1, .int v1)] [.int t0] s db_zI (db_f267_b19 s v1 t0) := by
  unfold db_f267_b19
  refine db_Rgo (pc' := 21) (lv' := [(2, .int t0), (0, .ref 669), (1, .int v1)]) (st' := [.int t0]) 2 rfl ?_
  refine db_Rif (pc' := 24) (tg := 28) (lv1 := [(2, .int t0), (0, .ref 669), (1, .int v1)]) rfl rfl rfl rfl ?_ ?_
  · refine db_Rn (lv1 := [(0, .ref 669), (1, .int v1), (2, .int t0)]) rfl rfl rfl ?_
    exact db_f267_b28_ok
  refine db_Rgo (pc' := 25) (lv' := [(2, .int t0), (0, .ref 669), (1, .int v1)]) (st' := [.ref 669]) 1 rfl ?_
  refine db_RcV (mr' := dbm_223) (as := [.ref 669]) (rest := []) (pc' := 28) (lv1 := [(2, .int t0), (0, .ref 669), (1, .int v1)]) rfl rfl rfl rfl rfl (db_f223_ok) fun s2 => ?_
  refine db_Rn (lv1 := [(0, .ref 669), (1, .int v1), (2, .int t0)]) rfl rfl rfl ?_
  exact db_f267_b28_ok
noncomputable def db_f267_b18 (s : db_S) (v1 : Int32) : Option (Int32 × db_S) :=
  (db_f267_b19 s v1 (0 : Int32))
set_option maxRecDepth 100000 in
theorem db_f267_b18_ok {X : db_X} {d : Nat}  {s : db_S} {v1 : Int32} : db_Rf X (d + 3) dbm_267 18 [(0, .ref 669), (1, .int v1)] [] s db_zI (db_f267_b18 s v1) := by
  unfold db_f267_b18
  refine db_Rgo (pc' := 19) (lv' := [(0, .ref 669), (1, .int v1)]) (st' := [.int (0 : Int32)]) 1 rfl ?_
  exact db_f267_b19_ok
/-- DreamBookModel.readSigned(I)I -/
noncomputable def db_f267 (s : db_S) (v1 : Int32) : Option (Int32 × db_S) :=
  (cond (db_cnd .ne (s.1 669 12) 0) (db_f267_b18 s v1) ((db_f244 s).bind fun q1 => (cond q1 (db_f267_b19 s v1 (1 : Int32)) (db_f267_b18 s v1))))
set_option maxRecDepth 100000 in
theorem db_f267_ok {X : db_X} {d : Nat} {s : db_S} {v1 : Int32} : db_Rf X (d + 3) dbm_267 0 (lv_args 0 [.ref 669, .int v1]) [] s db_zI (db_f267 s v1) := by
  show db_Rf _ _ _ 0 [(0, .ref 669), (1, .int v1)] [] _ _ _
  unfold db_f267
  refine db_Rgo (pc' := 4) (lv' := [(0, .ref 669), (1, .int v1)]) (st' := [.int (s.1 669 12)]) 2 rfl ?_
  refine db_Rif (pc' := 7) (tg := 18) (lv1 := [(0, .ref 669), (1, .int v1)]) rfl rfl rfl rfl ?_ ?_
  · exact db_f267_b18_ok
  refine db_Rgo (pc' := 8) (lv' := [(0, .ref 669), (1, .int v1)]) (st' := [.ref 669]) 1 rfl ?_
  refine db_RcyB (mr' := dbm_244) (as := [.ref 669]) (rest := []) (pc' := 11) (lv1 := [(0, .ref 669), (1, .int v1)]) rfl rfl rfl rfl rfl (db_f244_ok) fun q1 => ?_
  refine db_RifBe (pc' := 14) (tg := 18) (lv1 := [(0, .ref 669), (1, .int v1)]) rfl rfl rfl rfl ?_ ?_
  · exact db_f267_b18_ok
  refine db_Rgo (pc' := 19) (lv' := [(0, .ref 669), (1, .int v1)]) (st' := [.int (1 : Int32)]) 2 rfl ?_
  exact db_f267_b19_ok
/-- DreamBookModel.perhaps(ZII)I -/
noncomputable def db_f270 (s : db_S) (v1 : Int32) (v2 : Int32) (v3 : Int32) : Option (Int32 × db_S) :=
  (cond (db_cnd .gt (s.1 669 12) 0) (some ((-1 : Int32), s)) (cond (db_cnd .ne v1 0) ((db_f223 s).bind fun s2 => (db_bd (db_f265 s2 v2 v3) fun q3 s4 => (some (q3, s4)))) (some ((-1 : Int32), s))))
set_option maxRecDepth 100000 in
theorem db_f270_ok {X : db_X} {d : Nat} {s : db_S} {v1 : Int32} {v2 : Int32} {v3 : Int32} : db_Rf X (d + 6) dbm_270 0 (lv_args 0 [.ref 669, .int v1, .int v2, .int v3]) [] s db_zI (db_f270 s v1 v2 v3) := by
  show db_Rf _ _ _ 0 [(0, .ref 669), (1, .int v1), (2, .int v2), (3, .int v3)] [] _ _ _
  unfold db_f270
  refine db_Rgo (pc' := 4) (lv' := [(0, .ref 669), (1, .int v1), (2, .int v2), (3, .int v3)]) (st' := [.int (s.1 669 12)]) 2 rfl ?_
  refine db_Rif (pc' := 7) (tg := 11) (lv1 := [(0, .ref 669), (1, .int v1), (2, .int v2), (3, .int v3)]) rfl rfl rfl rfl ?_ ?_
  · refine db_Rgo (pc' := 12) (lv' := []) (st' := [.int (-1 : Int32)]) 1 rfl ?_
    exact db_Rret (lv1 := []) rfl rfl rfl rfl
  refine db_Rgo (pc' := 8) (lv' := [(0, .ref 669), (1, .int v1), (2, .int v2), (3, .int v3)]) (st' := [.int v1]) 1 rfl ?_
  refine db_Rif (pc' := 11) (tg := 13) (lv1 := [(0, .ref 669), (1, .int v1), (2, .int v2), (3, .int v3)]) rfl rfl rfl rfl ?_ ?_
  · refine db_Rgo (pc' := 14) (lv' := [(0, .ref 669), (2, .int v2), (3, .int v3)]) (st' := [.ref 669]) 1 rfl ?_
    refine db_RcV (mr' := dbm_223) (as := [.ref 669]) (rest := []) (pc' := 17) (lv1 := [(0, .ref 669), (2, .int v2), (3, .int v3)]) rfl rfl rfl rfl rfl (db_f223_ok) fun s2 => ?_
    refine db_Rgo (pc' := 20) (lv' := [(0, .ref 669), (2, .int v2), (3, .int v3)]) (st' := [.int v3, .int v2, .ref 669]) 3 rfl ?_
    refine db_RcdI (mr' := dbm_265) (as := [.ref 669, .int v2, .int v3]) (rest := []) (pc' := 23) (lv1 := [(0, .ref 669), (2, .int v2), (3, .int v3)]) rfl rfl rfl rfl rfl (db_f265_ok) fun q3 s4 => ?_
    exact db_Rret (lv1 := [(0, .ref 669), (2, .int v2), (3, .int v3)]) rfl rfl rfl rfl
  refine db_Rgo (pc' := 12) (lv' := []) (st' := [.int (-1 : Int32)]) 1 rfl ?_
  exact db_Rret (lv1 := []) rfl rfl rfl rfl
/-- DreamBookModel.readRule()V -/
noncomputable def db_f263 (s : db_S) : Option db_S :=
  (db_bd (db_f232 s (3 : Int32) (12 : Int32)) fun q1 s2 => ((db_f242 s2).bind fun q3 => ((db_f264 s2 (db_i q3)).bind fun s6 => (db_bd (db_f265 s6 (4 : Int32) (0 : Int32)) fun q7 s8 => ((db_wI s8 674 ((1939 : Int32) + q1) q7).bind fun s9 => ((db_f243 s9).bind fun q10 => ((db_f264 s9 (db_i q10)).bind fun s13 => (db_bd (db_f267 s13 (99 : Int32)) fun q14 s15 => ((db_wI s15 674 ((1951 : Int32) + q1) q14).bind fun s16 => ((db_f245 s16).bind fun q17 => (db_bd (db_f270 s16 (db_i q17) (4 : Int32) (0 : Int32)) fun q19 s20 => ((db_wI s20 674 ((1963 : Int32) + q1) q19).bind fun s21 => ((db_f246 s21).bind fun q22 => (db_bd (db_f270 s21 (db_i q22) (4 : Int32) (0 : Int32)) fun q24 s25 => ((db_wI s25 674 ((1975 : Int32) + q1) q24).bind fun s26 => ((db_f247 s26).bind fun q27 => (db_bd (db_f270 s26 (db_i q27) (4 : Int32) (1 : Int32)) fun q29 s30 => ((db_wI s30 674 ((1987 : Int32) + q1) q29).bind fun s31 => ((db_f248 s31).bind fun q32 => (db_bd (db_f270 s31 (db_i q32) (4 : Int32) (2 : Int32)) fun q34 s35 => ((db_wI s35 674 ((1999 : Int32) + q1) q34).bind fun s36 => (cond (db_cnd .ne (s36.1 669 12) 0) (some s36) ((db_rI s36 674 (1923 : Int32)).bind fun x37 => ((db_wI s36 674 (1923 : Int32) (x37 + (1 : Int32))).bind fun s38 => (some s38)))))))))))))))))))))))))
set_option maxRecDepth 100000 in
theorem db_f263_ok {X : db_X} {d : Nat} {s : db_S} : db_Rf X (d + 7) dbm_263 0 (lv_args 0 [.ref 669]) [] s db_zV (db_f263 s ) := by
  show db_Rf _ _ _ 0 [(0, .ref 669)] [] _ _ _
  unfold db_f263
  refine db_Rgo (pc' := 4) (lv' := [(0, .ref 669)]) (st' := [.int (12 : Int32), .int (3 : Int32), .ref 669]) 3 rfl ?_
  refine db_RcdI (mr' := dbm_232) (as := [.ref 669, .int (3 : Int32), .int (12 : Int32)]) (rest := []) (pc' := 7) (lv1 := [(0, .ref 669)]) rfl rfl rfl rfl rfl (db_f232_ok) fun q1 s2 => ?_
  refine db_Rgo (pc' := 10) (lv' := [(1, .int q1), (0, .ref 669)]) (st' := [.ref 669, .ref 669]) 3 rfl ?_
  refine db_RcyB (mr' := dbm_242) (as := [.ref 669]) (rest := [.ref 669]) (pc' := 13) (lv1 := [(1, .int q1), (0, .ref 669)]) rfl rfl rfl rfl rfl (db_f242_ok) fun q3 => ?_
  refine db_RcV (mr' := dbm_264) (as := [.ref 669, .int (db_i q3)]) (rest := []) (pc' := 16) (lv1 := [(1, .int q1), (0, .ref 669)]) rfl rfl rfl rfl rfl (db_f264_ok) fun s6 => ?_
  refine db_Rgo (pc' := 28) (lv' := [(1, .int q1), (0, .ref 669)]) (st' := [.int (0 : Int32), .int (4 : Int32), .ref 669, .int ((1939 : Int32) + q1), .ref 674]) 8 rfl ?_
  refine db_RcdI (mr' := dbm_265) (as := [.ref 669, .int (4 : Int32), .int (0 : Int32)]) (rest := [.int ((1939 : Int32) + q1), .ref 674]) (pc' := 31) (lv1 := [(1, .int q1), (0, .ref 669)]) rfl rfl rfl rfl rfl (db_f265_ok) fun q7 s8 => ?_
  refine db_RstI (pc' := 32) (lv1 := [(1, .int q1), (0, .ref 669)]) rfl rfl rfl fun s9 => ?_
  refine db_Rgo (pc' := 34) (lv' := [(1, .int q1), (0, .ref 669)]) (st' := [.ref 669, .ref 669]) 2 rfl ?_
  refine db_RcyB (mr' := dbm_243) (as := [.ref 669]) (rest := [.ref 669]) (pc' := 37) (lv1 := [(1, .int q1), (0, .ref 669)]) rfl rfl rfl rfl rfl (db_f243_ok) fun q10 => ?_
  refine db_RcV (mr' := dbm_264) (as := [.ref 669, .int (db_i q10)]) (rest := []) (pc' := 40) (lv1 := [(1, .int q1), (0, .ref 669)]) rfl rfl rfl rfl rfl (db_f264_ok) fun s13 => ?_
  refine db_Rgo (pc' := 52) (lv' := [(1, .int q1), (0, .ref 669)]) (st' := [.int (99 : Int32), .ref 669, .int ((1951 : Int32) + q1), .ref 674]) 7 rfl ?_
  refine db_RcdI (mr' := dbm_267) (as := [.ref 669, .int (99 : Int32)]) (rest := [.int ((1951 : Int32) + q1), .ref 674]) (pc' := 55) (lv1 := [(1, .int q1), (0, .ref 669)]) rfl rfl rfl rfl rfl (db_f267_ok) fun q14 s15 => ?_
  refine db_RstI (pc' := 56) (lv1 := [(1, .int q1), (0, .ref 669)]) rfl rfl rfl fun s16 => ?_
  refine db_Rgo (pc' := 67) (lv' := [(1, .int q1), (0, .ref 669)]) (st' := [.ref 669, .ref 669, .int ((1963 : Int32) + q1), .ref 674]) 7 rfl ?_
  refine db_RcyB (mr' := dbm_245) (as := [.ref 669]) (rest := [.ref 669, .int ((1963 : Int32) + q1), .ref 674]) (pc' := 70) (lv1 := [(1, .int q1), (0, .ref 669)]) rfl rfl rfl rfl rfl (db_f245_ok) fun q17 => ?_
  refine db_Rgo (pc' := 72) (lv' := [(1, .int q1), (0, .ref 669)]) (st' := [.int (0 : Int32), .int (4 : Int32), .int (db_i q17), .ref 669, .int ((1963 : Int32) + q1), .ref 674]) 2 rfl ?_
  refine db_RcdI (mr' := dbm_270) (as := [.ref 669, .int (db_i q17), .int (4 : Int32), .int (0 : Int32)]) (rest := [.int ((1963 : Int32) + q1), .ref 674]) (pc' := 75) (lv1 := [(1, .int q1), (0, .ref 669)]) rfl rfl rfl rfl rfl (db_f270_ok) fun q19 s20 => ?_
  refine db_RstI (pc' := 76) (lv1 := [(1, .int q1), (0, .ref 669)]) rfl rfl rfl fun s21 => ?_
  refine db_Rgo (pc' := 87) (lv' := [(1, .int q1), (0, .ref 669)]) (st' := [.ref 669, .ref 669, .int ((1975 : Int32) + q1), .ref 674]) 7 rfl ?_
  refine db_RcyB (mr' := dbm_246) (as := [.ref 669]) (rest := [.ref 669, .int ((1975 : Int32) + q1), .ref 674]) (pc' := 90) (lv1 := [(1, .int q1), (0, .ref 669)]) rfl rfl rfl rfl rfl (db_f246_ok) fun q22 => ?_
  refine db_Rgo (pc' := 92) (lv' := [(1, .int q1), (0, .ref 669)]) (st' := [.int (0 : Int32), .int (4 : Int32), .int (db_i q22), .ref 669, .int ((1975 : Int32) + q1), .ref 674]) 2 rfl ?_
  refine db_RcdI (mr' := dbm_270) (as := [.ref 669, .int (db_i q22), .int (4 : Int32), .int (0 : Int32)]) (rest := [.int ((1975 : Int32) + q1), .ref 674]) (pc' := 95) (lv1 := [(1, .int q1), (0, .ref 669)]) rfl rfl rfl rfl rfl (db_f270_ok) fun q24 s25 => ?_
  refine db_RstI (pc' := 96) (lv1 := [(1, .int q1), (0, .ref 669)]) rfl rfl rfl fun s26 => ?_
  refine db_Rgo (pc' := 107) (lv' := [(1, .int q1), (0, .ref 669)]) (st' := [.ref 669, .ref 669, .int ((1987 : Int32) + q1), .ref 674]) 7 rfl ?_
  refine db_RcyB (mr' := dbm_247) (as := [.ref 669]) (rest := [.ref 669, .int ((1987 : Int32) + q1), .ref 674]) (pc' := 110) (lv1 := [(1, .int q1), (0, .ref 669)]) rfl rfl rfl rfl rfl (db_f247_ok) fun q27 => ?_
  refine db_Rgo (pc' := 112) (lv' := [(1, .int q1), (0, .ref 669)]) (st' := [.int (1 : Int32), .int (4 : Int32), .int (db_i q27), .ref 669, .int ((1987 : Int32) + q1), .ref 674]) 2 rfl ?_
  refine db_RcdI (mr' := dbm_270) (as := [.ref 669, .int (db_i q27), .int (4 : Int32), .int (1 : Int32)]) (rest := [.int ((1987 : Int32) + q1), .ref 674]) (pc' := 115) (lv1 := [(1, .int q1), (0, .ref 669)]) rfl rfl rfl rfl rfl (db_f270_ok) fun q29 s30 => ?_
  refine db_RstI (pc' := 116) (lv1 := [(1, .int q1), (0, .ref 669)]) rfl rfl rfl fun s31 => ?_
  refine db_Rgo (pc' := 127) (lv' := [(1, .int q1), (0, .ref 669)]) (st' := [.ref 669, .ref 669, .int ((1999 : Int32) + q1), .ref 674]) 7 rfl ?_
  refine db_RcyB (mr' := dbm_248) (as := [.ref 669]) (rest := [.ref 669, .int ((1999 : Int32) + q1), .ref 674]) (pc' := 130) (lv1 := [(1, .int q1), (0, .ref 669)]) rfl rfl rfl rfl rfl (db_f248_ok) fun q32 => ?_
  refine db_Rgo (pc' := 132) (lv' := [(1, .int q1), (0, .ref 669)]) (st' := [.int (2 : Int32), .int (4 : Int32), .int (db_i q32), .ref 669, .int ((1999 : Int32) + q1), .ref 674]) 2 rfl ?_
  refine db_RcdI (mr' := dbm_270) (as := [.ref 669, .int (db_i q32), .int (4 : Int32), .int (2 : Int32)]) (rest := [.int ((1999 : Int32) + q1), .ref 674]) (pc' := 135) (lv1 := [(1, .int q1), (0, .ref 669)]) rfl rfl rfl rfl rfl (db_f270_ok) fun q34 s35 => ?_
  refine db_RstI (pc' := 136) (lv1 := [(1, .int q1), (0, .ref 669)]) rfl rfl rfl fun s36 => ?_
  refine db_Rgo (pc' := 140) (lv' := [(1, .int q1), (0, .ref 669)]) (st' := [.int (s36.1 669 12)]) 2 rfl ?_
  refine db_Rif (pc' := 143) (tg := 155) (lv1 := [(1, .int q1), (0, .ref 669)]) rfl rfl rfl rfl ?_ ?_
  · exact db_Rret (lv1 := []) rfl rfl rfl rfl
  refine db_Rgo (pc' := 151) (lv' := [(1, .int q1), (0, .ref 669)]) (st' := [.int (1923 : Int32), .ref 674, .int (1923 : Int32), .ref 674]) 4 rfl ?_
  refine db_RldI (pc' := 152) (lv1 := [(1, .int q1), (0, .ref 669)]) rfl rfl rfl fun x37 => ?_
  refine db_Rgo (pc' := 154) (lv' := [(1, .int q1), (0, .ref 669)]) (st' := [.int (x37 + (1 : Int32)), .int (1923 : Int32), .ref 674]) 2 rfl ?_
  refine db_RstI (pc' := 155) (lv1 := [(1, .int q1), (0, .ref 669)]) rfl rfl rfl fun s38 => ?_
  exact db_Rret (lv1 := []) rfl rfl rfl rfl
noncomputable def db_f262_b48 (s : db_S) : Option db_S :=
  ((db_rI s 674 (1922 : Int32)).bind fun x1 => ((db_wI s 674 (1922 : Int32) (x1 + (1 : Int32))).bind fun s2 => (some s2)))
set_option maxRecDepth 100000 in
theorem db_f262_b48_ok {X : db_X} {d : Nat}  {s : db_S} : db_Rf X (d + 5) dbm_262 48 [(0, .ref 669)] [] s db_zV (db_f262_b48 s ) := by
  unfold db_f262_b48
  refine db_Rgo (pc' := 56) (lv' := [(0, .ref 669)]) (st' := [.int (1922 : Int32), .ref 674, .int (1922 : Int32), .ref 674]) 4 rfl ?_
  refine db_RldI (pc' := 57) (lv1 := [(0, .ref 669)]) rfl rfl rfl fun x1 => ?_
  refine db_Rgo (pc' := 59) (lv' := [(0, .ref 669)]) (st' := [.int (x1 + (1 : Int32)), .int (1922 : Int32), .ref 674]) 2 rfl ?_
  refine db_RstI (pc' := 60) (lv1 := [(0, .ref 669)]) rfl rfl rfl fun s2 => ?_
  exact db_Rret (lv1 := [(0, .ref 669)]) rfl rfl rfl rfl
noncomputable def db_f262_b36 (s : db_S) (t1 : Int32) (t2 : Int32) : Option db_S :=
  ((db_wI s 674 t1 t2).bind fun s1 => ((db_f240 s1).bind fun q2 => (cond q2 ((db_f223 s1).bind fun s5 => (db_f262_b48 s5 )) (db_f262_b48 s1 ))))
set_option maxRecDepth 100000 in
theorem db_f262_b36_ok {X : db_X} {d : Nat}  {s : db_S} {t1 : Int32} {t2 : Int32} : db_Rf X (d + 5) dbm_262 36 [(0, .ref 669)] [.int t2, .int t1, .ref 674] s db_zV (db_f262_b36 s t1 t2) := by
  unfold db_f262_b36
  refine db_RstI (pc' := 37) (lv1 := [(0, .ref 669)]) rfl rfl rfl fun s1 => ?_
  refine db_Rgo (pc' := 38) (lv' := [(0, .ref 669)]) (st' := [.ref 669]) 1 rfl ?_
  refine db_RcyB (mr' := dbm_240) (as := [.ref 669]) (rest := []) (pc' := 41) (lv1 := [(0, .ref 669)]) rfl rfl rfl rfl rfl (db_f240_ok) fun q2 => ?_
  refine db_RifBe (pc' := 44) (tg := 48) (lv1 := [(0, .ref 669)]) rfl rfl rfl rfl ?_ ?_
  · exact db_f262_b48_ok
  refine db_Rgo (pc' := 45) (lv' := [(0, .ref 669)]) (st' := [.ref 669]) 1 rfl ?_
  refine db_RcV (mr' := dbm_223) (as := [.ref 669]) (rest := []) (pc' := 48) (lv1 := [(0, .ref 669)]) rfl rfl rfl rfl rfl (db_f223_ok) fun s5 => ?_
  exact db_f262_b48_ok
/-- DreamBookModel.readSeason()V -/
noncomputable def db_f262 (s : db_S) : Option db_S :=
  (db_bd (db_f232 s (2 : Int32) (3 : Int32)) fun q1 s2 => (cond (db_cnd .le (s2.1 669 12) 0) ((db_f240 s2).bind fun q3 => (cond q3 (db_f262_b36 s2 ((1936 : Int32) + q1) (1 : Int32)) (db_f262_b36 s2 ((1936 : Int32) + q1) (0 : Int32)))) (some s2)))
set_option maxRecDepth 100000 in
theorem db_f262_ok {X : db_X} {d : Nat} {s : db_S} : db_Rf X (d + 5) dbm_262 0 (lv_args 0 [.ref 669]) [] s db_zV (db_f262 s ) := by
  show db_Rf _ _ _ 0 [(0, .ref 669)] [] _ _ _
  unfold db_f262
  refine db_Rgo (pc' := 3) (lv' := [(0, .ref 669)]) (st' := [.int (3 : Int32), .int (2 : Int32), .ref 669]) 3 rfl ?_
  refine db_RcdI (mr' := dbm_232) (as := [.ref 669, .int (2 : Int32), .int (3 : Int32)]) (rest := []) (pc' := 6) (lv1 := [(0, .ref 669)]) rfl rfl rfl rfl rfl (db_f232_ok) fun q1 s2 => ?_
  refine db_Rgo (pc' := 11) (lv' := [(1, .int q1), (0, .ref 669)]) (st' := [.int (s2.1 669 12)]) 3 rfl ?_
  refine db_Rif (pc' := 14) (tg := 15) (lv1 := [(1, .int q1), (0, .ref 669)]) rfl rfl rfl rfl ?_ ?_
  · refine db_Rgo (pc' := 25) (lv' := [(0, .ref 669), (1, .int q1)]) (st' := [.ref 669, .int ((1936 : Int32) + q1), .ref 674]) 6 rfl ?_
    refine db_RcyB (mr' := dbm_240) (as := [.ref 669]) (rest := [.int ((1936 : Int32) + q1), .ref 674]) (pc' := 28) (lv1 := [(0, .ref 669), (1, .int q1)]) rfl rfl rfl rfl rfl (db_f240_ok) fun q3 => ?_
    refine db_RifBe (pc' := 31) (tg := 35) (lv1 := [(0, .ref 669), (1, .int q1)]) rfl rfl rfl rfl ?_ ?_
    · refine db_Rgo (pc' := 36) (lv' := [(0, .ref 669)]) (st' := [.int (0 : Int32), .int ((1936 : Int32) + q1), .ref 674]) 1 rfl ?_
      exact db_f262_b36_ok
    refine db_Rgo (pc' := 36) (lv' := [(0, .ref 669), (1, .int q1)]) (st' := [.int (1 : Int32), .int ((1936 : Int32) + q1), .ref 674]) 2 rfl ?_
    refine db_Rn (lv1 := [(0, .ref 669)]) rfl rfl rfl ?_
    exact db_f262_b36_ok
  exact db_Rret (lv1 := [(1, .int q1), (0, .ref 669)]) rfl rfl rfl rfl
noncomputable def db_f261_b48 (s : db_S) : Option db_S :=
  ((db_rI s 674 (1921 : Int32)).bind fun x1 => ((db_wI s 674 (1921 : Int32) (x1 + (1 : Int32))).bind fun s2 => (some s2)))
set_option maxRecDepth 100000 in
theorem db_f261_b48_ok {X : db_X} {d : Nat}  {s : db_S} : db_Rf X (d + 5) dbm_261 48 [(0, .ref 669)] [] s db_zV (db_f261_b48 s ) := by
  unfold db_f261_b48
  refine db_Rgo (pc' := 56) (lv' := [(0, .ref 669)]) (st' := [.int (1921 : Int32), .ref 674, .int (1921 : Int32), .ref 674]) 4 rfl ?_
  refine db_RldI (pc' := 57) (lv1 := [(0, .ref 669)]) rfl rfl rfl fun x1 => ?_
  refine db_Rgo (pc' := 59) (lv' := [(0, .ref 669)]) (st' := [.int (x1 + (1 : Int32)), .int (1921 : Int32), .ref 674]) 2 rfl ?_
  refine db_RstI (pc' := 60) (lv1 := [(0, .ref 669)]) rfl rfl rfl fun s2 => ?_
  exact db_Rret (lv1 := [(0, .ref 669)]) rfl rfl rfl rfl
noncomputable def db_f261_b36 (s : db_S) (t1 : Int32) (t2 : Int32) : Option db_S :=
  ((db_wI s 674 t1 t2).bind fun s1 => ((db_f238 s1).bind fun q2 => (cond q2 ((db_f223 s1).bind fun s5 => (db_f261_b48 s5 )) (db_f261_b48 s1 ))))
set_option maxRecDepth 100000 in
theorem db_f261_b36_ok {X : db_X} {d : Nat}  {s : db_S} {t1 : Int32} {t2 : Int32} : db_Rf X (d + 5) dbm_261 36 [(0, .ref 669)] [.int t2, .int t1, .ref 674] s db_zV (db_f261_b36 s t1 t2) := by
  unfold db_f261_b36
  refine db_RstI (pc' := 37) (lv1 := [(0, .ref 669)]) rfl rfl rfl fun s1 => ?_
  refine db_Rgo (pc' := 38) (lv' := [(0, .ref 669)]) (st' := [.ref 669]) 1 rfl ?_
  refine db_RcyB (mr' := dbm_238) (as := [.ref 669]) (rest := []) (pc' := 41) (lv1 := [(0, .ref 669)]) rfl rfl rfl rfl rfl (db_f238_ok) fun q2 => ?_
  refine db_RifBe (pc' := 44) (tg := 48) (lv1 := [(0, .ref 669)]) rfl rfl rfl rfl ?_ ?_
  · exact db_f261_b48_ok
  refine db_Rgo (pc' := 45) (lv' := [(0, .ref 669)]) (st' := [.ref 669]) 1 rfl ?_
  refine db_RcV (mr' := dbm_223) (as := [.ref 669]) (rest := []) (pc' := 48) (lv1 := [(0, .ref 669)]) rfl rfl rfl rfl rfl (db_f223_ok) fun s5 => ?_
  exact db_f261_b48_ok
/-- DreamBookModel.readPerson()V -/
noncomputable def db_f261 (s : db_S) : Option db_S :=
  (db_bd (db_f232 s (1 : Int32) (4 : Int32)) fun q1 s2 => (cond (db_cnd .le (s2.1 669 12) 0) ((db_f238 s2).bind fun q3 => (cond q3 (db_f261_b36 s2 ((1928 : Int32) + q1) (1 : Int32)) (db_f261_b36 s2 ((1928 : Int32) + q1) (0 : Int32)))) (some s2)))
set_option maxRecDepth 100000 in
theorem db_f261_ok {X : db_X} {d : Nat} {s : db_S} : db_Rf X (d + 5) dbm_261 0 (lv_args 0 [.ref 669]) [] s db_zV (db_f261 s ) := by
  show db_Rf _ _ _ 0 [(0, .ref 669)] [] _ _ _
  unfold db_f261
  refine db_Rgo (pc' := 3) (lv' := [(0, .ref 669)]) (st' := [.int (4 : Int32), .int (1 : Int32), .ref 669]) 3 rfl ?_
  refine db_RcdI (mr' := dbm_232) (as := [.ref 669, .int (1 : Int32), .int (4 : Int32)]) (rest := []) (pc' := 6) (lv1 := [(0, .ref 669)]) rfl rfl rfl rfl rfl (db_f232_ok) fun q1 s2 => ?_
  refine db_Rgo (pc' := 11) (lv' := [(1, .int q1), (0, .ref 669)]) (st' := [.int (s2.1 669 12)]) 3 rfl ?_
  refine db_Rif (pc' := 14) (tg := 15) (lv1 := [(1, .int q1), (0, .ref 669)]) rfl rfl rfl rfl ?_ ?_
  · refine db_Rgo (pc' := 25) (lv' := [(0, .ref 669), (1, .int q1)]) (st' := [.ref 669, .int ((1928 : Int32) + q1), .ref 674]) 6 rfl ?_
    refine db_RcyB (mr' := dbm_238) (as := [.ref 669]) (rest := [.int ((1928 : Int32) + q1), .ref 674]) (pc' := 28) (lv1 := [(0, .ref 669), (1, .int q1)]) rfl rfl rfl rfl rfl (db_f238_ok) fun q3 => ?_
    refine db_RifBe (pc' := 31) (tg := 35) (lv1 := [(0, .ref 669), (1, .int q1)]) rfl rfl rfl rfl ?_ ?_
    · refine db_Rgo (pc' := 36) (lv' := [(0, .ref 669)]) (st' := [.int (0 : Int32), .int ((1928 : Int32) + q1), .ref 674]) 1 rfl ?_
      exact db_f261_b36_ok
    refine db_Rgo (pc' := 36) (lv' := [(0, .ref 669), (1, .int q1)]) (st' := [.int (1 : Int32), .int ((1928 : Int32) + q1), .ref 674]) 2 rfl ?_
    refine db_Rn (lv1 := [(0, .ref 669)]) rfl rfl rfl ?_
    exact db_f261_b36_ok
  exact db_Rret (lv1 := [(1, .int q1), (0, .ref 669)]) rfl rfl rfl rfl
/-- DreamBookModel.readThing()V -/
noncomputable def db_f231 (s : db_S) : Option db_S :=
  (db_bd (db_f232 s (0 : Int32) (10 : Int32)) fun q1 s2 => (cond (db_cnd .ne (s2.1 669 12) 0) (some s2) ((db_rI s2 674 (1920 : Int32)).bind fun x3 => ((db_wI s2 674 (1920 : Int32) (x3 + (1 : Int32))).bind fun s4 => (some s4)))))
set_option maxRecDepth 100000 in
theorem db_f231_ok {X : db_X} {d : Nat} {s : db_S} : db_Rf X (d + 5) dbm_231 0 (lv_args 0 [.ref 669]) [] s db_zV (db_f231 s ) := by
  show db_Rf _ _ _ 0 [(0, .ref 669)] [] _ _ _
  unfold db_f231
  refine db_Rgo (pc' := 4) (lv' := [(0, .ref 669)]) (st' := [.int (10 : Int32), .int (0 : Int32), .ref 669]) 3 rfl ?_
  refine db_RcdI (mr' := dbm_232) (as := [.ref 669, .int (0 : Int32), .int (10 : Int32)]) (rest := []) (pc' := 7) (lv1 := [(0, .ref 669)]) rfl rfl rfl rfl rfl (db_f232_ok) fun q1 s2 => ?_
  refine db_Rgo (pc' := 12) (lv' := [(0, .ref 669)]) (st' := [.int (s2.1 669 12)]) 3 rfl ?_
  refine db_Rif (pc' := 15) (tg := 27) (lv1 := [(0, .ref 669)]) rfl rfl rfl rfl ?_ ?_
  · exact db_Rret (lv1 := []) rfl rfl rfl rfl
  refine db_Rgo (pc' := 23) (lv' := [(0, .ref 669)]) (st' := [.int (1920 : Int32), .ref 674, .int (1920 : Int32), .ref 674]) 4 rfl ?_
  refine db_RldI (pc' := 24) (lv1 := [(0, .ref 669)]) rfl rfl rfl fun x3 => ?_
  refine db_Rgo (pc' := 26) (lv' := [(0, .ref 669)]) (st' := [.int (x3 + (1 : Int32)), .int (1920 : Int32), .ref 674]) 2 rfl ?_
  refine db_RstI (pc' := 27) (lv1 := [(0, .ref 669)]) rfl rfl rfl fun s4 => ?_
  exact db_Rret (lv1 := []) rfl rfl rfl rfl
/-- DreamBookModel.isSign(I)Z -/
noncomputable def db_f273 (s : db_S) (v1 : Int32) : Option Bool :=
  (cond (db_cnd .ne (s.1 669 14) (3 : Int32)) (some false) (cond (db_cnd .ne (s.1 669 17) v1) (some false) (some true)))
set_option maxRecDepth 100000 in
theorem db_f273_ok {X : db_X} {d : Nat} {s : db_S} {v1 : Int32} : db_Rf X (d + 0) dbm_273 0 (lv_args 0 [.ref 669, .int v1]) [] s (db_yB s) (db_f273 s v1) := by
  show db_Rf _ _ _ 0 [(0, .ref 669), (1, .int v1)] [] _ _ _
  unfold db_f273
  refine db_Rgo (pc' := 5) (lv' := [(0, .ref 669), (1, .int v1)]) (st' := [.int (3 : Int32), .int (s.1 669 14)]) 3 rfl ?_
  refine db_Ric (pc' := 8) (tg := 20) (lv1 := [(0, .ref 669), (1, .int v1)]) rfl rfl rfl rfl ?_ ?_
  · refine db_Rgo (pc' := 21) (lv' := []) (st' := [.int (0 : Int32)]) 1 rfl ?_
    exact db_Rret (lv1 := []) rfl rfl rfl rfl
  refine db_Rgo (pc' := 13) (lv' := [(0, .ref 669), (1, .int v1)]) (st' := [.int v1, .int (s.1 669 17)]) 3 rfl ?_
  refine db_Ric (pc' := 16) (tg := 20) (lv1 := [(0, .ref 669), (1, .int v1)]) rfl rfl rfl rfl ?_ ?_
  · refine db_Rgo (pc' := 21) (lv' := []) (st' := [.int (0 : Int32)]) 1 rfl ?_
    exact db_Rret (lv1 := []) rfl rfl rfl rfl
  refine db_Rgo (pc' := 21) (lv' := [(0, .ref 669), (1, .int v1)]) (st' := [.int (1 : Int32)]) 2 rfl ?_
  exact db_Rret (lv1 := []) rfl rfl rfl rfl
noncomputable def db_f274_b24 (s : db_S) (t1 : Int32) : Option (Bool × db_S) :=
  ((db_pI s 669 11 t1).bind fun s1 => (cond (db_cnd .eq (s1.1 669 12) 0) (some (true, s1)) (db_bd (db_f211 s1 (10 : Int32)) fun q2 s3 => (cond q2 (some (true, s3)) (some (false, s3))))))
set_option maxRecDepth 100000 in
theorem db_f274_b24_ok {X : db_X} {d : Nat}  {s : db_S} {t1 : Int32} : db_Rf X (d + 1) dbm_274 24 [(0, .ref 669)] [.int t1, .ref 669] s db_zB (db_f274_b24 s t1) := by
  unfold db_f274_b24
  refine db_RpuI (pc' := 27) (lv1 := [(0, .ref 669)]) rfl rfl rfl rfl rfl rfl (by decide) rfl rfl fun s1 => ?_
  refine db_Rgo (pc' := 31) (lv' := [(0, .ref 669)]) (st' := [.int (s1.1 669 12)]) 2 rfl ?_
  refine db_Rif (pc' := 34) (tg := 43) (lv1 := [(0, .ref 669)]) rfl rfl rfl rfl ?_ ?_
  · refine db_Rgo (pc' := 48) (lv' := []) (st' := [.int (1 : Int32)]) 2 rfl ?_
    exact db_Rret (lv1 := []) rfl rfl rfl rfl
  refine db_Rgo (pc' := 37) (lv' := [(0, .ref 669)]) (st' := [.int (10 : Int32), .ref 669]) 2 rfl ?_
  refine db_RcdB (mr' := dbm_211) (as := [.ref 669, .int (10 : Int32)]) (rest := []) (pc' := 40) (lv1 := [(0, .ref 669)]) rfl rfl rfl rfl rfl (db_f211_ok) fun q2 s3 => ?_
  refine db_RifBe (pc' := 43) (tg := 47) (lv1 := [(0, .ref 669)]) rfl rfl rfl rfl ?_ ?_
  · refine db_Rgo (pc' := 48) (lv' := []) (st' := [.int (0 : Int32)]) 1 rfl ?_
    exact db_Rret (lv1 := []) rfl rfl rfl rfl
  refine db_Rgo (pc' := 48) (lv' := []) (st' := [.int (1 : Int32)]) 2 rfl ?_
  exact db_Rret (lv1 := []) rfl rfl rfl rfl
/-- DreamBookModel.isWell()Z -/
noncomputable def db_f274 (s : db_S) : Option (Bool × db_S) :=
  ((db_pI s 669 10 (s.1 669 12)).bind fun s1 => (cond (db_cnd .ne (s1.1 669 12) 0) (db_f274_b24 s1 (s1.1 669 13)) (db_f274_b24 s1 (-1 : Int32))))
set_option maxRecDepth 100000 in
theorem db_f274_ok {X : db_X} {d : Nat} {s : db_S} : db_Rf X (d + 1) dbm_274 0 (lv_args 0 [.ref 669]) [] s db_zB (db_f274 s ) := by
  show db_Rf _ _ _ 0 [(0, .ref 669)] [] _ _ _
  unfold db_f274
  refine db_Rgo (pc' := 5) (lv' := [(0, .ref 669)]) (st' := [.int (s.1 669 12), .ref 669]) 3 rfl ?_
  refine db_RpuI (pc' := 8) (lv1 := [(0, .ref 669)]) rfl rfl rfl rfl rfl rfl (by decide) rfl rfl fun s1 => ?_
  refine db_Rgo (pc' := 13) (lv' := [(0, .ref 669)]) (st' := [.int (s1.1 669 12), .ref 669]) 3 rfl ?_
  refine db_Rif (pc' := 16) (tg := 20) (lv1 := [(0, .ref 669)]) rfl rfl rfl rfl ?_ ?_
  · refine db_Rgo (pc' := 24) (lv' := [(0, .ref 669)]) (st' := [.int (s1.1 669 13), .ref 669]) 2 rfl ?_
    exact db_f274_b24_ok
  refine db_Rgo (pc' := 24) (lv' := [(0, .ref 669)]) (st' := [.int (-1 : Int32), .ref 669]) 2 rfl ?_
  exact db_f274_b24_ok
noncomputable def db_f275_b41 : Nat → db_S → Int32 → Int32 → Int32 → Option db_S
  | 0, _, _, _, _ => none
  | n + 1, s, v1, v2, v3 =>
    (cond (db_cnd .ge v3 (37 : Int32)) (some s) ((db_rL s 676 (((37 : Int32) * v1) + v3)).bind fun x1 => ((db_wL s 676 (((37 : Int32) * v2) + v3) x1).bind fun s2 => (db_f275_b41 n s2 v1 v2 (v3 + (1 : Int32))))))
set_option maxRecDepth 100000 in
theorem db_f275_b41_ok {X : db_X} {d : Nat}  (n : Nat) : ∀ (s : db_S) (v1 : Int32) (v2 : Int32) (v3 : Int32), db_Rf X (d + 0) dbm_275 41 [(0, .ref 669), (1, .int v1), (2, .int v2), (3, .int v3)] [] s db_zV (db_f275_b41 n s v1 v2 v3) := by
  induction n with
  | zero => intros; exact db_Rnone
  | succ n ih =>
    intro s v1 v2 v3
    unfold db_f275_b41
    refine db_Rgo (pc' := 44) (lv' := [(0, .ref 669), (1, .int v1), (2, .int v2), (3, .int v3)]) (st' := [.int (37 : Int32), .int v3]) 2 rfl ?_
    refine db_Ric (pc' := 47) (tg := 75) (lv1 := [(0, .ref 669), (1, .int v1), (2, .int v2), (3, .int v3)]) rfl rfl rfl rfl ?_ ?_
    · exact db_Rret (lv1 := []) rfl rfl rfl rfl
    refine db_Rgo (pc' := 67) (lv' := [(0, .ref 669), (1, .int v1), (2, .int v2), (3, .int v3)]) (st' := [.int (((37 : Int32) * v1) + v3), .ref 676, .int (((37 : Int32) * v2) + v3), .ref 676]) 14 rfl ?_
    refine db_RldL (pc' := 68) (lv1 := [(0, .ref 669), (1, .int v1), (2, .int v2), (3, .int v3)]) rfl rfl rfl fun x1 => ?_
    refine db_RstL (pc' := 69) (lv1 := [(0, .ref 669), (1, .int v1), (2, .int v2), (3, .int v3)]) rfl rfl rfl fun s2 => ?_
    refine db_Rgo (pc' := 41) (lv' := [(3, .int (v3 + (1 : Int32))), (0, .ref 669), (1, .int v1), (2, .int v2)]) (st' := []) 2 rfl ?_
    refine db_Rn (lv1 := [(0, .ref 669), (1, .int v1), (2, .int v2), (3, .int (v3 + (1 : Int32)))]) rfl rfl rfl ?_
    exact ih _ _ _ _
noncomputable def db_f275_b2 : Nat → db_S → Int32 → Int32 → Int32 → Option db_S
  | 0, _, _, _, _ => none
  | n + 1, s, v1, v2, v3 =>
    (cond (db_cnd .ge v3 (480 : Int32)) (db_f275_b41 db_FU s v1 v2 (0 : Int32)) ((db_rI s 674 (((480 : Int32) * v1) + v3)).bind fun x1 => ((db_wI s 674 (((480 : Int32) * v2) + v3) x1).bind fun s2 => (db_f275_b2 n s2 v1 v2 (v3 + (1 : Int32))))))
set_option maxRecDepth 100000 in
theorem db_f275_b2_ok {X : db_X} {d : Nat}  (n : Nat) : ∀ (s : db_S) (v1 : Int32) (v2 : Int32) (v3 : Int32), db_Rf X (d + 0) dbm_275 2 [(0, .ref 669), (1, .int v1), (2, .int v2), (3, .int v3)] [] s db_zV (db_f275_b2 n s v1 v2 v3) := by
  induction n with
  | zero => intros; exact db_Rnone
  | succ n ih =>
    intro s v1 v2 v3
    unfold db_f275_b2
    refine db_Rgo (pc' := 6) (lv' := [(0, .ref 669), (1, .int v1), (2, .int v2), (3, .int v3)]) (st' := [.int (480 : Int32), .int v3]) 2 rfl ?_
    refine db_Ric (pc' := 9) (tg := 39) (lv1 := [(0, .ref 669), (1, .int v1), (2, .int v2), (3, .int v3)]) rfl rfl rfl rfl ?_ ?_
    · refine db_Rgo (pc' := 41) (lv' := [(3, .int (0 : Int32)), (0, .ref 669), (1, .int v1), (2, .int v2)]) (st' := []) 2 rfl ?_
      refine db_Rn (lv1 := [(0, .ref 669), (1, .int v1), (2, .int v2), (3, .int (0 : Int32))]) rfl rfl rfl ?_
      exact db_f275_b41_ok db_FU _ _ _ _
    refine db_Rgo (pc' := 31) (lv' := [(0, .ref 669), (1, .int v1), (2, .int v2), (3, .int v3)]) (st' := [.int (((480 : Int32) * v1) + v3), .ref 674, .int (((480 : Int32) * v2) + v3), .ref 674]) 14 rfl ?_
    refine db_RldI (pc' := 32) (lv1 := [(0, .ref 669), (1, .int v1), (2, .int v2), (3, .int v3)]) rfl rfl rfl fun x1 => ?_
    refine db_RstI (pc' := 33) (lv1 := [(0, .ref 669), (1, .int v1), (2, .int v2), (3, .int v3)]) rfl rfl rfl fun s2 => ?_
    refine db_Rgo (pc' := 2) (lv' := [(3, .int (v3 + (1 : Int32))), (0, .ref 669), (1, .int v1), (2, .int v2)]) (st' := []) 2 rfl ?_
    refine db_Rn (lv1 := [(0, .ref 669), (1, .int v1), (2, .int v2), (3, .int (v3 + (1 : Int32)))]) rfl rfl rfl ?_
    exact ih _ _ _ _
/-- DreamBookModel.copy(II)V -/
noncomputable def db_f275 (s : db_S) (v1 : Int32) (v2 : Int32) : Option db_S :=
  (db_f275_b2 db_FU s v1 v2 (0 : Int32))
set_option maxRecDepth 100000 in
theorem db_f275_ok {X : db_X} {d : Nat} {s : db_S} {v1 : Int32} {v2 : Int32} : db_Rf X (d + 0) dbm_275 0 (lv_args 0 [.ref 669, .int v1, .int v2]) [] s db_zV (db_f275 s v1 v2) := by
  show db_Rf _ _ _ 0 [(0, .ref 669), (1, .int v1), (2, .int v2)] [] _ _ _
  unfold db_f275
  refine db_Rgo (pc' := 2) (lv' := [(3, .int (0 : Int32)), (0, .ref 669), (1, .int v1), (2, .int v2)]) (st' := []) 2 rfl ?_
  refine db_Rn (lv1 := [(0, .ref 669), (1, .int v1), (2, .int v2), (3, .int (0 : Int32))]) rfl rfl rfl ?_
  exact db_f275_b2_ok db_FU _ _ _ _
noncomputable def db_f221_b151 (h49 : db_S → Option (Int32 × db_S)) (s : db_S) : Option (Int32 × db_S) :=
  ((db_f273 s (59 : Int32)).bind fun q1 => ((db_f264 s (db_i q1)).bind fun s4 => (h49 s4 )))
set_option maxRecDepth 100000 in
theorem db_f221_b151_ok {X : db_X} {d : Nat}  {h49 : db_S → Option (Int32 × db_S)} {s : db_S} (zh49 : ∀ (s' : db_S) , db_Rf X (d + 8) dbm_221 49 [(0, .ref 669)] [] s' db_zI (h49 s' )) : db_Rf X (d + 8) dbm_221 151 [(0, .ref 669)] [] s db_zI (db_f221_b151 h49 s ) := by
  unfold db_f221_b151
  refine db_Rgo (pc' := 155) (lv' := [(0, .ref 669)]) (st' := [.int (59 : Int32), .ref 669, .ref 669]) 3 rfl ?_
  refine db_RcyB (mr' := dbm_273) (as := [.ref 669, .int (59 : Int32)]) (rest := [.ref 669]) (pc' := 158) (lv1 := [(0, .ref 669)]) rfl rfl rfl rfl rfl (db_f273_ok) fun q1 => ?_
  refine db_RcV (mr' := dbm_264) (as := [.ref 669, .int (db_i q1)]) (rest := []) (pc' := 161) (lv1 := [(0, .ref 669)]) rfl rfl rfl rfl rfl (db_f264_ok) fun s4 => ?_
  refine db_Rgo (pc' := 49) (lv' := [(0, .ref 669)]) (st' := []) 1 rfl ?_
  exact zh49 _
noncomputable def db_f221_b164 (s : db_S) : Option (Int32 × db_S) :=
  (db_bd (db_f274 s) fun q1 s2 => (cond q1 ((db_f275 s2 (4 : Int32) (0 : Int32)).bind fun s4 => ((db_rI s4 674 (3 : Int32)).bind fun x5 => (some (x5, s4)))) (some ((-1 : Int32), s2))))
set_option maxRecDepth 100000 in
theorem db_f221_b164_ok {X : db_X} {d : Nat}  {s : db_S} : db_Rf X (d + 8) dbm_221 164 [(0, .ref 669)] [] s db_zI (db_f221_b164 s ) := by
  unfold db_f221_b164
  refine db_Rgo (pc' := 165) (lv' := [(0, .ref 669)]) (st' := [.ref 669]) 1 rfl ?_
  refine db_RcdB (mr' := dbm_274) (as := [.ref 669]) (rest := []) (pc' := 168) (lv1 := [(0, .ref 669)]) rfl rfl rfl rfl rfl (db_f274_ok) fun q1 s2 => ?_
  refine db_RifBn (pc' := 171) (tg := 173) (lv1 := [(0, .ref 669)]) rfl rfl rfl rfl ?_ ?_
  · refine db_Rgo (pc' := 176) (lv' := [(0, .ref 669)]) (st' := [.int (0 : Int32), .int (4 : Int32), .ref 669]) 3 rfl ?_
    refine db_RcV (mr' := dbm_275) (as := [.ref 669, .int (4 : Int32), .int (0 : Int32)]) (rest := []) (pc' := 179) (lv1 := [(0, .ref 669)]) rfl rfl rfl rfl rfl (db_f275_ok) fun s4 => ?_
    refine db_Rgo (pc' := 184) (lv' := [(0, .ref 669)]) (st' := [.int (3 : Int32), .ref 674]) 3 rfl ?_
    refine db_RldI (pc' := 185) (lv1 := [(0, .ref 669)]) rfl rfl rfl fun x5 => ?_
    exact db_Rret (lv1 := [(0, .ref 669)]) rfl rfl rfl rfl
  refine db_Rgo (pc' := 172) (lv' := [(0, .ref 669)]) (st' := [.int (-1 : Int32)]) 1 rfl ?_
  exact db_Rret (lv1 := [(0, .ref 669)]) rfl rfl rfl rfl
noncomputable def db_f221_b49 : Nat → db_S → Option (Int32 × db_S)
  | 0, _ => none
  | n + 1, s =>
    (cond (db_cnd .ne (s.1 669 12) 0) (db_f221_b164 s ) (cond (db_cnd .eq (s.1 669 14) 0) (db_f221_b164 s ) ((db_f228 s).bind fun q1 => (cond q1 ((db_f231 s).bind fun s26 => (db_f221_b151 (db_f221_b49 n) s26 )) ((db_f237 s).bind fun q3 => (cond q3 ((db_f261 s).bind fun s24 => (db_f221_b151 (db_f221_b49 n) s24 )) ((db_f239 s).bind fun q5 => (cond q5 ((db_f262 s).bind fun s22 => (db_f221_b151 (db_f221_b49 n) s22 )) ((db_f241 s).bind fun q7 => (cond q7 ((db_f263 s).bind fun s20 => (db_f221_b151 (db_f221_b49 n) s20 )) ((db_f249 s).bind fun q9 => (cond q9 ((db_f271 s).bind fun s18 => (db_f221_b151 (db_f221_b49 n) s18 )) ((db_f251 s).bind fun q11 => (cond q11 ((db_f272 s).bind fun s16 => (db_f221_b151 (db_f221_b49 n) s16 )) ((db_f257 s).bind fun s14 => (db_f221_b151 (db_f221_b49 n) s14 ))))))))))))))))
set_option maxRecDepth 100000 in
theorem db_f221_b49_ok {X : db_X} {d : Nat}  (n : Nat) : ∀ (s : db_S), db_Rf X (d + 8) dbm_221 49 [(0, .ref 669)] [] s db_zI (db_f221_b49 n s ) := by
  induction n with
  | zero => intros; exact db_Rnone
  | succ n ih =>
    intro s 
    unfold db_f221_b49
    refine db_Rgo (pc' := 53) (lv' := [(0, .ref 669)]) (st' := [.int (s.1 669 12)]) 2 rfl ?_
    refine db_Rif (pc' := 56) (tg := 164) (lv1 := [(0, .ref 669)]) rfl rfl rfl rfl ?_ ?_
    · exact db_f221_b164_ok
    refine db_Rgo (pc' := 60) (lv' := [(0, .ref 669)]) (st' := [.int (s.1 669 14)]) 2 rfl ?_
    refine db_Rif (pc' := 63) (tg := 164) (lv1 := [(0, .ref 669)]) rfl rfl rfl rfl ?_ ?_
    · exact db_f221_b164_ok
    refine db_Rgo (pc' := 64) (lv' := [(0, .ref 669)]) (st' := [.ref 669]) 1 rfl ?_
    refine db_RcyB (mr' := dbm_228) (as := [.ref 669]) (rest := []) (pc' := 67) (lv1 := [(0, .ref 669)]) rfl rfl rfl rfl rfl (db_f228_ok) fun q1 => ?_
    refine db_RifBe (pc' := 70) (tg := 77) (lv1 := [(0, .ref 669)]) rfl rfl rfl rfl ?_ ?_
    · refine db_Rgo (pc' := 78) (lv' := [(0, .ref 669)]) (st' := [.ref 669]) 1 rfl ?_
      refine db_RcyB (mr' := dbm_237) (as := [.ref 669]) (rest := []) (pc' := 81) (lv1 := [(0, .ref 669)]) rfl rfl rfl rfl rfl (db_f237_ok) fun q3 => ?_
      refine db_RifBe (pc' := 84) (tg := 91) (lv1 := [(0, .ref 669)]) rfl rfl rfl rfl ?_ ?_
      · refine db_Rgo (pc' := 92) (lv' := [(0, .ref 669)]) (st' := [.ref 669]) 1 rfl ?_
        refine db_RcyB (mr' := dbm_239) (as := [.ref 669]) (rest := []) (pc' := 95) (lv1 := [(0, .ref 669)]) rfl rfl rfl rfl rfl (db_f239_ok) fun q5 => ?_
        refine db_RifBe (pc' := 98) (tg := 105) (lv1 := [(0, .ref 669)]) rfl rfl rfl rfl ?_ ?_
        · refine db_Rgo (pc' := 106) (lv' := [(0, .ref 669)]) (st' := [.ref 669]) 1 rfl ?_
          refine db_RcyB (mr' := dbm_241) (as := [.ref 669]) (rest := []) (pc' := 109) (lv1 := [(0, .ref 669)]) rfl rfl rfl rfl rfl (db_f241_ok) fun q7 => ?_
          refine db_RifBe (pc' := 112) (tg := 119) (lv1 := [(0, .ref 669)]) rfl rfl rfl rfl ?_ ?_
          · refine db_Rgo (pc' := 120) (lv' := [(0, .ref 669)]) (st' := [.ref 669]) 1 rfl ?_
            refine db_RcyB (mr' := dbm_249) (as := [.ref 669]) (rest := []) (pc' := 123) (lv1 := [(0, .ref 669)]) rfl rfl rfl rfl rfl (db_f249_ok) fun q9 => ?_
            refine db_RifBe (pc' := 126) (tg := 133) (lv1 := [(0, .ref 669)]) rfl rfl rfl rfl ?_ ?_
            · refine db_Rgo (pc' := 134) (lv' := [(0, .ref 669)]) (st' := [.ref 669]) 1 rfl ?_
              refine db_RcyB (mr' := dbm_251) (as := [.ref 669]) (rest := []) (pc' := 137) (lv1 := [(0, .ref 669)]) rfl rfl rfl rfl rfl (db_f251_ok) fun q11 => ?_
              refine db_RifBe (pc' := 140) (tg := 147) (lv1 := [(0, .ref 669)]) rfl rfl rfl rfl ?_ ?_
              · refine db_Rgo (pc' := 148) (lv' := [(0, .ref 669)]) (st' := [.ref 669]) 1 rfl ?_
                refine db_RcV (mr' := dbm_257) (as := [.ref 669]) (rest := []) (pc' := 151) (lv1 := [(0, .ref 669)]) rfl rfl rfl rfl rfl (db_f257_ok) fun s14 => ?_
                exact db_f221_b151_ok ih
              refine db_Rgo (pc' := 141) (lv' := [(0, .ref 669)]) (st' := [.ref 669]) 1 rfl ?_
              refine db_RcV (mr' := dbm_272) (as := [.ref 669]) (rest := []) (pc' := 144) (lv1 := [(0, .ref 669)]) rfl rfl rfl rfl rfl (db_f272_ok) fun s16 => ?_
              refine db_Rgo (pc' := 151) (lv' := [(0, .ref 669)]) (st' := []) 1 rfl ?_
              exact db_f221_b151_ok ih
            refine db_Rgo (pc' := 127) (lv' := [(0, .ref 669)]) (st' := [.ref 669]) 1 rfl ?_
            refine db_RcV (mr' := dbm_271) (as := [.ref 669]) (rest := []) (pc' := 130) (lv1 := [(0, .ref 669)]) rfl rfl rfl rfl rfl (db_f271_ok) fun s18 => ?_
            refine db_Rgo (pc' := 151) (lv' := [(0, .ref 669)]) (st' := []) 1 rfl ?_
            exact db_f221_b151_ok ih
          refine db_Rgo (pc' := 113) (lv' := [(0, .ref 669)]) (st' := [.ref 669]) 1 rfl ?_
          refine db_RcV (mr' := dbm_263) (as := [.ref 669]) (rest := []) (pc' := 116) (lv1 := [(0, .ref 669)]) rfl rfl rfl rfl rfl (db_f263_ok) fun s20 => ?_
          refine db_Rgo (pc' := 151) (lv' := [(0, .ref 669)]) (st' := []) 1 rfl ?_
          exact db_f221_b151_ok ih
        refine db_Rgo (pc' := 99) (lv' := [(0, .ref 669)]) (st' := [.ref 669]) 1 rfl ?_
        refine db_RcV (mr' := dbm_262) (as := [.ref 669]) (rest := []) (pc' := 102) (lv1 := [(0, .ref 669)]) rfl rfl rfl rfl rfl (db_f262_ok) fun s22 => ?_
        refine db_Rgo (pc' := 151) (lv' := [(0, .ref 669)]) (st' := []) 1 rfl ?_
        exact db_f221_b151_ok ih
      refine db_Rgo (pc' := 85) (lv' := [(0, .ref 669)]) (st' := [.ref 669]) 1 rfl ?_
      refine db_RcV (mr' := dbm_261) (as := [.ref 669]) (rest := []) (pc' := 88) (lv1 := [(0, .ref 669)]) rfl rfl rfl rfl rfl (db_f261_ok) fun s24 => ?_
      refine db_Rgo (pc' := 151) (lv' := [(0, .ref 669)]) (st' := []) 1 rfl ?_
      exact db_f221_b151_ok ih
    refine db_Rgo (pc' := 71) (lv' := [(0, .ref 669)]) (st' := [.ref 669]) 1 rfl ?_
    refine db_RcV (mr' := dbm_231) (as := [.ref 669]) (rest := []) (pc' := 74) (lv1 := [(0, .ref 669)]) rfl rfl rfl rfl rfl (db_f231_ok) fun s26 => ?_
    refine db_Rgo (pc' := 151) (lv' := [(0, .ref 669)]) (st' := []) 1 rfl ?_
    exact db_f221_b151_ok ih
noncomputable def db_f221_b25 : Nat → db_S → Int32 → Option (Int32 × db_S)
  | 0, _, _ => none
  | n + 1, s, v2 =>
    (cond (db_cnd .ge v2 (480 : Int32)) (db_f221_b49 db_FU s ) ((db_wI s 674 ((1920 : Int32) + v2) (0 : Int32)).bind fun s1 => (db_f221_b25 n s1 (v2 + (1 : Int32)))))
set_option maxRecDepth 100000 in
theorem db_f221_b25_ok {X : db_X} {d : Nat}  (n : Nat) : ∀ (s : db_S) (v2 : Int32), db_Rf X (d + 8) dbm_221 25 [(0, .ref 669), (2, .int v2)] [] s db_zI (db_f221_b25 n s v2) := by
  induction n with
  | zero => intros; exact db_Rnone
  | succ n ih =>
    intro s v2
    unfold db_f221_b25
    refine db_Rgo (pc' := 29) (lv' := [(0, .ref 669), (2, .int v2)]) (st' := [.int (480 : Int32), .int v2]) 2 rfl ?_
    refine db_Ric (pc' := 32) (tg := 49) (lv1 := [(0, .ref 669), (2, .int v2)]) rfl rfl rfl rfl ?_ ?_
    · refine db_Rn (lv1 := [(0, .ref 669)]) rfl rfl rfl ?_
      exact db_f221_b49_ok db_FU _
    refine db_Rgo (pc' := 42) (lv' := [(0, .ref 669), (2, .int v2)]) (st' := [.int (0 : Int32), .int ((1920 : Int32) + v2), .ref 674]) 6 rfl ?_
    refine db_RstI (pc' := 43) (lv1 := [(0, .ref 669), (2, .int v2)]) rfl rfl rfl fun s1 => ?_
    refine db_Rgo (pc' := 25) (lv' := [(2, .int (v2 + (1 : Int32))), (0, .ref 669)]) (st' := []) 2 rfl ?_
    refine db_Rn (lv1 := [(0, .ref 669), (2, .int (v2 + (1 : Int32)))]) rfl rfl rfl ?_
    exact ih _ _
/-- DreamBookModel.book(I)I -/
noncomputable def db_f221 (s : db_S) (v1 : Int32) : Option (Int32 × db_S) :=
  ((db_pI s 669 1 (0 : Int32)).bind fun s1 => ((db_pI s1 669 0 (0 : Int32)).bind fun s2 => (db_bd (db_f222 s2 v1 (900 : Int32)) fun q3 s4 => (cond q3 (db_f221_b25 db_FU s4 (0 : Int32)) (some ((-1 : Int32), s4))))))
set_option maxRecDepth 100000 in
theorem db_f221_ok {X : db_X} {d : Nat} {s : db_S} {v1 : Int32} : db_Rf X (d + 8) dbm_221 0 (lv_args 0 [.ref 669, .int v1]) [] s db_zI (db_f221 s v1) := by
  show db_Rf _ _ _ 0 [(0, .ref 669), (1, .int v1)] [] _ _ _
  unfold db_f221
  refine db_Rgo (pc' := 2) (lv' := [(0, .ref 669), (1, .int v1)]) (st' := [.int (0 : Int32), .ref 669]) 2 rfl ?_
  refine db_RpuI (pc' := 5) (lv1 := [(0, .ref 669), (1, .int v1)]) rfl rfl rfl rfl rfl rfl (by decide) rfl rfl fun s1 => ?_
  refine db_Rgo (pc' := 7) (lv' := [(0, .ref 669), (1, .int v1)]) (st' := [.int (0 : Int32), .ref 669]) 2 rfl ?_
  refine db_RpuI (pc' := 10) (lv1 := [(0, .ref 669), (1, .int v1)]) rfl rfl rfl rfl rfl rfl (by decide) rfl rfl fun s2 => ?_
  refine db_Rgo (pc' := 15) (lv' := [(0, .ref 669), (1, .int v1)]) (st' := [.int (900 : Int32), .int v1, .ref 669]) 3 rfl ?_
  refine db_RcdB (mr' := dbm_222) (as := [.ref 669, .int v1, .int (900 : Int32)]) (rest := []) (pc' := 18) (lv1 := [(0, .ref 669), (1, .int v1)]) rfl rfl rfl rfl rfl (db_f222_ok) fun q3 s4 => ?_
  refine db_RifBn (pc' := 21) (tg := 23) (lv1 := [(0, .ref 669), (1, .int v1)]) rfl rfl rfl rfl ?_ ?_
  · refine db_Rgo (pc' := 25) (lv' := [(2, .int (0 : Int32)), (0, .ref 669)]) (st' := []) 2 rfl ?_
    refine db_Rn (lv1 := [(0, .ref 669), (2, .int (0 : Int32))]) rfl rfl rfl ?_
    exact db_f221_b25_ok db_FU _ _
  refine db_Rgo (pc' := 22) (lv' := [(0, .ref 669), (1, .int v1)]) (st' := [.int (-1 : Int32)]) 1 rfl ?_
  exact db_Rret (lv1 := [(0, .ref 669), (1, .int v1)]) rfl rfl rfl rfl
/-- DreamBook$Plan.clear()V -/
noncomputable def db_f86_208 (s : db_S) : Option db_S :=
  ((db_pI s 208 0 (0 : Int32)).bind fun s1 => ((db_pI s1 208 1 (0 : Int32)).bind fun s2 => ((db_pI s2 208 2 (0 : Int32)).bind fun s3 => (some s3))))
set_option maxRecDepth 100000 in
theorem db_f86_208_ok {X : db_X} {d : Nat} {s : db_S} : db_Rf X (d + 0) dbm_86 0 (lv_args 0 [.ref 208]) [] s db_zV (db_f86_208 s ) := by
  show db_Rf _ _ _ 0 [(0, .ref 208)] [] _ _ _
  unfold db_f86_208
  refine db_Rgo (pc' := 2) (lv' := [(0, .ref 208)]) (st' := [.int (0 : Int32), .ref 208]) 2 rfl ?_
  refine db_RpuI (pc' := 5) (lv1 := [(0, .ref 208)]) rfl rfl rfl rfl rfl rfl (by decide) rfl rfl fun s1 => ?_
  refine db_Rgo (pc' := 7) (lv' := [(0, .ref 208)]) (st' := [.int (0 : Int32), .ref 208]) 2 rfl ?_
  refine db_RpuI (pc' := 10) (lv1 := [(0, .ref 208)]) rfl rfl rfl rfl rfl rfl (by decide) rfl rfl fun s2 => ?_
  refine db_Rgo (pc' := 12) (lv' := [(0, .ref 208)]) (st' := [.int (0 : Int32), .ref 208]) 2 rfl ?_
  refine db_RpuI (pc' := 15) (lv1 := [(0, .ref 208)]) rfl rfl rfl rfl rfl rfl (by decide) rfl rfl fun s3 => ?_
  exact db_Rret (lv1 := [(0, .ref 208)]) rfl rfl rfl rfl
/-- DreamBook$PlanParser.newRow(I)[I -/
noncomputable def db_f92 (s : db_S) (v1 : Int32) : Option (Nat × db_S) :=
  ((db_rR 209 (s.1 208 2)).bind fun y1 => ((db_wI s y1 (0 : Int32) v1).bind fun s2 => ((db_pI s2 208 2 ((s2.1 208 2) + (1 : Int32))).bind fun s3 => (some (y1, s3)))))
set_option maxRecDepth 100000 in
theorem db_f92_ok {X : db_X} {d : Nat} {s : db_S} {v1 : Int32} : db_Rf X (d + 0) dbm_92 0 (lv_args 0 [.ref 207, .int v1]) [] s db_zR (db_f92 s v1) := by
  show db_Rf _ _ _ 0 [(0, .ref 207), (1, .int v1)] [] _ _ _
  unfold db_f92
  refine db_Rgo (pc' := 14) (lv' := [(0, .ref 207), (1, .int v1)]) (st' := [.int (s.1 208 2), .ref 209]) 6 rfl ?_
  refine db_RldR (pc' := 15) (lv1 := [(0, .ref 207), (1, .int v1)]) rfl rfl rfl fun y1 => ?_
  refine db_Rgo (pc' := 19) (lv' := [(2, .ref (y1 + 4)), (0, .ref 207), (1, .int v1)]) (st' := [.int v1, .int (0 : Int32), .ref (y1 + 4)]) 4 rfl ?_
  refine db_RstI (pc' := 20) (lv1 := [(2, .ref (y1 + 4)), (0, .ref 207), (1, .int v1)]) rfl rfl rfl fun s2 => ?_
  refine db_Rgo (pc' := 30) (lv' := [(2, .ref (y1 + 4)), (0, .ref 207), (1, .int v1)]) (st' := [.int ((s2.1 208 2) + (1 : Int32)), .ref 208]) 6 rfl ?_
  refine db_RpuI (pc' := 33) (lv1 := [(2, .ref (y1 + 4)), (0, .ref 207), (1, .int v1)]) rfl rfl rfl rfl rfl rfl (by decide) rfl rfl fun s3 => ?_
  refine db_Rgo (pc' := 34) (lv' := [(2, .ref (y1 + 4)), (0, .ref 207), (1, .int v1)]) (st' := [.ref (y1 + 4)]) 1 rfl ?_
  exact db_Rret (lv1 := [(2, .ref (y1 + 4)), (0, .ref 207), (1, .int v1)]) rfl rfl rfl rfl
/-- DreamBook$PlanParser.parseEnd()Z -/
noncomputable def db_f91 (s : db_S) : Option (Bool × db_S) :=
  (cond (db_cnd .ne (s.1 207 4) 0) ((db_pI s 207 4 ((s.1 207 4) - (1 : Int32))).bind fun s1 => ((db_rI s1 270 (s1.1 207 4)).bind fun x2 => ((db_rR 209 x2).bind fun y3 => ((db_wI s1 y3 (5 : Int32) (s1.1 208 2)).bind fun s4 => (db_bd (db_f92 s4 (25 : Int32)) fun q5 s6 => (db_g4 q5 fun y7 => ((db_rI s6 270 (s6.1 207 4)).bind fun x8 => ((db_wI s6 y7 (5 : Int32) x8).bind fun s9 => ((db_f60 s9).bind fun s11 => (some (true, s11))))))))))) (db_bd (db_f58 s (2 : Int32)) fun q12 s13 => (some (q12, s13))))
set_option maxRecDepth 100000 in
theorem db_f91_ok {X : db_X} {d : Nat} {s : db_S} : db_Rf X (d + 1) dbm_91 0 (lv_args 0 [.ref 207]) [] s db_zB (db_f91 s ) := by
  show db_Rf _ _ _ 0 [(0, .ref 207)] [] _ _ _
  unfold db_f91
  refine db_Rgo (pc' := 4) (lv' := [(0, .ref 207)]) (st' := [.int (s.1 207 4)]) 2 rfl ?_
  refine db_Rif (pc' := 7) (tg := 16) (lv1 := [(0, .ref 207)]) rfl rfl rfl rfl ?_ ?_
  · refine db_Rgo (pc' := 23) (lv' := [(0, .ref 207)]) (st' := [.int ((s.1 207 4) - (1 : Int32)), .ref 207]) 5 rfl ?_
    refine db_RpuI (pc' := 26) (lv1 := [(0, .ref 207)]) rfl rfl rfl rfl rfl rfl (by decide) rfl rfl fun s1 => ?_
    refine db_Rgo (pc' := 41) (lv' := [(0, .ref 207)]) (st' := [.int (s1.1 207 4), .ref 270, .ref 209]) 7 rfl ?_
    refine db_RldI (pc' := 42) (lv1 := [(0, .ref 207)]) rfl rfl rfl fun x2 => ?_
    refine db_RldR (pc' := 43) (lv1 := [(0, .ref 207)]) rfl rfl rfl fun y3 => ?_
    refine db_Rgo (pc' := 51) (lv' := [(0, .ref 207)]) (st' := [.int (s1.1 208 2), .int (5 : Int32), .ref (y3 + 4)]) 4 rfl ?_
    refine db_RstI (pc' := 52) (lv1 := [(0, .ref 207)]) rfl rfl rfl fun s4 => ?_
    refine db_Rgo (pc' := 55) (lv' := [(0, .ref 207)]) (st' := [.int (25 : Int32), .ref 207]) 2 rfl ?_
    refine db_RcdR (mr' := dbm_92) (as := [.ref 207, .int (25 : Int32)]) (rest := []) (pc' := 58) (lv1 := [(0, .ref 207)]) rfl rfl rfl rfl rfl (db_f92_ok) fun q5 s6 => ?_
    refine db_RgF fun y7 => ?_
    refine db_Rgo (pc' := 67) (lv' := [(0, .ref 207)]) (st' := [.int (s6.1 207 4), .ref 270, .int (5 : Int32), .ref (y7 + 4)]) 5 rfl ?_
    refine db_RldI (pc' := 68) (lv1 := [(0, .ref 207)]) rfl rfl rfl fun x8 => ?_
    refine db_RstI (pc' := 69) (lv1 := [(0, .ref 207)]) rfl rfl rfl fun s9 => ?_
    refine db_Rgo (pc' := 73) (lv' := [(0, .ref 207)]) (st' := [.ref 13]) 2 rfl ?_
    refine db_RcV (mr' := dbm_60) (as := [.ref 13]) (rest := []) (pc' := 76) (lv1 := [(0, .ref 207)]) rfl rfl rfl rfl rfl (db_f60_ok) fun s11 => ?_
    refine db_Rgo (pc' := 77) (lv' := [(0, .ref 207)]) (st' := [.int (1 : Int32)]) 1 rfl ?_
    exact db_Rret (lv1 := [(0, .ref 207)]) rfl rfl rfl rfl
  refine db_Rgo (pc' := 12) (lv' := [(0, .ref 207)]) (st' := [.int (2 : Int32), .ref 13]) 3 rfl ?_
  refine db_RcdB (mr' := dbm_58) (as := [.ref 13, .int (2 : Int32)]) (rest := []) (pc' := 15) (lv1 := [(0, .ref 207)]) rfl rfl rfl rfl rfl (db_f58_ok) fun q12 s13 => ?_
  exact db_RretB (lv1 := [(0, .ref 207)]) rfl rfl rfl rfl
noncomputable def db_f71_20_b43 (h3 : Int64 → Int32 → Int32 → Option Int32) (s : db_S) (v1 : Int64) (v3 : Int32) (v4 : Int32) : Option Int32 :=
  (h3 v1 v3 (v4 + (1 : Int32)))
set_option maxRecDepth 100000 in
theorem db_f71_20_b43_ok {X : db_X} {d : Nat}  {h3 : Int64 → Int32 → Int32 → Option Int32} {s : db_S} {v1 : Int64} {v3 : Int32} {v4 : Int32} (zh3 : ∀ (v1 : Int64) (v3 : Int32) (v4 : Int32) , db_Rf X (d + 0) dbm_71 3 [(0, .ref 20), (1, .long v1), (3, .int v3), (4, .int v4)] [] s (db_yI s) (h3 v1 v3 v4)) : db_Rf X (d + 0) dbm_71 43 [(0, .ref 20), (1, .long v1), (3, .int v3), (4, .int v4)] [] s (db_yI s) (db_f71_20_b43 h3 s v1 v3 v4) := by
  unfold db_f71_20_b43
  refine db_Rgo (pc' := 3) (lv' := [(4, .int (v4 + (1 : Int32))), (0, .ref 20), (1, .long v1), (3, .int v3)]) (st' := []) 2 rfl ?_
  refine db_Rn (lv1 := [(0, .ref 20), (1, .long v1), (3, .int v3), (4, .int (v4 + (1 : Int32)))]) rfl rfl rfl ?_
  exact zh3 _ _ _
noncomputable def db_f71_20_b3 (s : db_S) : Nat → Int64 → Int32 → Int32 → Option Int32
  | 0, _, _, _ => none
  | n + 1, v1, v3, v4 =>
    (cond (db_cnd .ge v4 (s.1 20 18)) (some (-1 : Int32)) ((db_rL s 76 v4).bind fun x1 => (cond (db_cnd .ne (lg_cmp x1 v1) 0) (db_f71_20_b43 (db_f71_20_b3 s n) s v1 v3 v4) ((db_rI s 77 v4).bind fun x2 => (cond (db_cnd .ne x2 v3) (db_f71_20_b43 (db_f71_20_b3 s n) s v1 v3 v4) ((db_rI s 78 v4).bind fun x3 => (some x3)))))))
set_option maxRecDepth 100000 in
theorem db_f71_20_b3_ok {X : db_X} {d : Nat} {s : db_S} (n : Nat) : ∀ (v1 : Int64) (v3 : Int32) (v4 : Int32), db_Rf X (d + 0) dbm_71 3 [(0, .ref 20), (1, .long v1), (3, .int v3), (4, .int v4)] [] s (db_yI s) (db_f71_20_b3 s n v1 v3 v4) := by
  induction n with
  | zero => intros; exact db_Rnone
  | succ n ih =>
    intro v1 v3 v4
    unfold db_f71_20_b3
    refine db_Rgo (pc' := 9) (lv' := [(0, .ref 20), (1, .long v1), (3, .int v3), (4, .int v4)]) (st' := [.int (s.1 20 18), .int v4]) 3 rfl ?_
    refine db_Ric (pc' := 12) (tg := 49) (lv1 := [(0, .ref 20), (1, .long v1), (3, .int v3), (4, .int v4)]) rfl rfl rfl rfl ?_ ?_
    · refine db_Rgo (pc' := 50) (lv' := []) (st' := [.int (-1 : Int32)]) 1 rfl ?_
      exact db_Rret (lv1 := []) rfl rfl rfl rfl
    refine db_Rgo (pc' := 18) (lv' := [(0, .ref 20), (1, .long v1), (3, .int v3), (4, .int v4)]) (st' := [.int v4, .ref 76]) 3 rfl ?_
    refine db_RldL (pc' := 19) (lv1 := [(0, .ref 20), (1, .long v1), (3, .int v3), (4, .int v4)]) rfl rfl rfl fun x1 => ?_
    refine db_Rgo (pc' := 21) (lv' := [(0, .ref 20), (1, .long v1), (3, .int v3), (4, .int v4)]) (st' := [.int (lg_cmp x1 v1)]) 2 rfl ?_
    refine db_Rif (pc' := 24) (tg := 43) (lv1 := [(0, .ref 20), (1, .long v1), (3, .int v3), (4, .int v4)]) rfl rfl rfl rfl ?_ ?_
    · exact db_f71_20_b43_ok ih
    refine db_Rgo (pc' := 30) (lv' := [(0, .ref 20), (1, .long v1), (3, .int v3), (4, .int v4)]) (st' := [.int v4, .ref 77]) 3 rfl ?_
    refine db_RldI (pc' := 31) (lv1 := [(0, .ref 20), (1, .long v1), (3, .int v3), (4, .int v4)]) rfl rfl rfl fun x2 => ?_
    refine db_Rgo (pc' := 32) (lv' := [(0, .ref 20), (1, .long v1), (3, .int v3), (4, .int v4)]) (st' := [.int v3, .int x2]) 1 rfl ?_
    refine db_Ric (pc' := 35) (tg := 43) (lv1 := [(0, .ref 20), (1, .long v1), (3, .int v3), (4, .int v4)]) rfl rfl rfl rfl ?_ ?_
    · exact db_f71_20_b43_ok ih
    refine db_Rgo (pc' := 41) (lv' := [(0, .ref 20), (1, .long v1), (3, .int v3), (4, .int v4)]) (st' := [.int v4, .ref 78]) 3 rfl ?_
    refine db_RldI (pc' := 42) (lv1 := [(0, .ref 20), (1, .long v1), (3, .int v3), (4, .int v4)]) rfl rfl rfl fun x3 => ?_
    exact db_Rret (lv1 := [(0, .ref 20), (1, .long v1), (3, .int v3), (4, .int v4)]) rfl rfl rfl rfl
/-- DreamBook$Told.numberOf(JI)I -/
noncomputable def db_f71_20 (s : db_S) (v1 : Int64) (v3 : Int32) : Option Int32 :=
  (db_f71_20_b3 s db_FU v1 v3 (0 : Int32))
set_option maxRecDepth 100000 in
theorem db_f71_20_ok {X : db_X} {d : Nat} {s : db_S} {v1 : Int64} {v3 : Int32} : db_Rf X (d + 0) dbm_71 0 (lv_args 0 [.ref 20, .long v1, .int v3]) [] s (db_yI s) (db_f71_20 s v1 v3) := by
  show db_Rf _ _ _ 0 [(0, .ref 20), (1, .long v1), (3, .int v3)] [] _ _ _
  unfold db_f71_20
  refine db_Rgo (pc' := 3) (lv' := [(4, .int (0 : Int32)), (0, .ref 20), (1, .long v1), (3, .int v3)]) (st' := []) 2 rfl ?_
  refine db_Rn (lv1 := [(0, .ref 20), (1, .long v1), (3, .int v3), (4, .int (0 : Int32))]) rfl rfl rfl ?_
  exact db_f71_20_b3_ok db_FU _ _ _
/-- DreamBook$Scanner.seesName(LDreamBook$Told;I[II)Z -/
noncomputable def db_f70_20 (s : db_S) (v2 : Int32) (a3 : Nat) (v4 : Int32) : Option (Bool × db_S) :=
  ((db_f62 s).bind fun q1 => (cond q1 ((db_rL s 19 (s.1 13 9)).bind fun x3 => ((db_f71_20 s x3 v2).bind fun q4 => ((db_wI s a3 v4 q4).bind fun s6 => ((db_rI s6 a3 v4).bind fun x7 => (cond (db_cnd .ne x7 (-1 : Int32)) (some (true, s6)) (db_bd (db_f58 s6 (3 : Int32)) fun q8 s9 => (cond q8 (some (true, s9)) (some (false, s9))))))))) (db_bd (db_f58 s (2 : Int32)) fun q10 s11 => (some (q10, s11)))))
set_option maxRecDepth 100000 in
theorem db_f70_20_ok {X : db_X} {d : Nat} {s : db_S} {v2 : Int32} {a3 : Nat} {v4 : Int32} : db_Rf X (d + 1) dbm_70 0 (lv_args 0 [.ref 13, .ref 20, .int v2, .ref (a3 + 4), .int v4]) [] s db_zB (db_f70_20 s v2 (a3 + 4) v4) := by
  show db_Rf _ _ _ 0 [(0, .ref 13), (1, .ref 20), (2, .int v2), (3, .ref (a3 + 4)), (4, .int v4)] [] _ _ _
  unfold db_f70_20
  refine db_Rgo (pc' := 1) (lv' := [(0, .ref 13), (1, .ref 20), (2, .int v2), (3, .ref (a3 + 4)), (4, .int v4)]) (st' := [.ref 13]) 1 rfl ?_
  refine db_RcyB (mr' := dbm_62) (as := [.ref 13]) (rest := []) (pc' := 4) (lv1 := [(0, .ref 13), (1, .ref 20), (2, .int v2), (3, .ref (a3 + 4)), (4, .int v4)]) rfl rfl rfl rfl rfl (db_f62_ok) fun q1 => ?_
  refine db_RifBn (pc' := 7) (tg := 13) (lv1 := [(0, .ref 13), (1, .ref 20), (2, .int v2), (3, .ref (a3 + 4)), (4, .int v4)]) rfl rfl rfl rfl ?_ ?_
  · refine db_Rgo (pc' := 25) (lv' := [(0, .ref 13), (1, .ref 20), (2, .int v2), (3, .ref (a3 + 4)), (4, .int v4)]) (st' := [.int (s.1 13 9), .ref 19, .ref 20, .int v4, .ref (a3 + 4)]) 7 rfl ?_
    refine db_RldL (pc' := 26) (lv1 := [(0, .ref 13), (1, .ref 20), (2, .int v2), (3, .ref (a3 + 4)), (4, .int v4)]) rfl rfl rfl fun x3 => ?_
    refine db_Rgo (pc' := 27) (lv' := [(0, .ref 13), (1, .ref 20), (2, .int v2), (3, .ref (a3 + 4)), (4, .int v4)]) (st' := [.int v2, .long x3, .ref 20, .int v4, .ref (a3 + 4)]) 1 rfl ?_
    refine db_RcyI (mr' := dbm_71) (as := [.ref 20, .long x3, .int v2]) (rest := [.int v4, .ref (a3 + 4)]) (pc' := 30) (lv1 := [(0, .ref 13), (1, .ref 20), (2, .int v2), (3, .ref (a3 + 4)), (4, .int v4)]) rfl rfl rfl rfl rfl (db_f71_20_ok) fun q4 => ?_
    refine db_RstI (pc' := 31) (lv1 := [(0, .ref 13), (1, .ref 20), (2, .int v2), (3, .ref (a3 + 4)), (4, .int v4)]) rfl rfl rfl fun s6 => ?_
    refine db_Rgo (pc' := 34) (lv' := [(0, .ref 13), (1, .ref 20), (2, .int v2), (3, .ref (a3 + 4)), (4, .int v4)]) (st' := [.int v4, .ref (a3 + 4)]) 2 rfl ?_
    refine db_RldI (pc' := 35) (lv1 := [(0, .ref 13), (1, .ref 20), (2, .int v2), (3, .ref (a3 + 4)), (4, .int v4)]) rfl rfl rfl fun x7 => ?_
    refine db_Rgo (pc' := 36) (lv' := [(0, .ref 13), (1, .ref 20), (2, .int v2), (3, .ref (a3 + 4)), (4, .int v4)]) (st' := [.int (-1 : Int32), .int x7]) 1 rfl ?_
    refine db_Ric (pc' := 39) (tg := 47) (lv1 := [(0, .ref 13), (1, .ref 20), (2, .int v2), (3, .ref (a3 + 4)), (4, .int v4)]) rfl rfl rfl rfl ?_ ?_
    · refine db_Rgo (pc' := 52) (lv' := []) (st' := [.int (1 : Int32)]) 2 rfl ?_
      exact db_Rret (lv1 := []) rfl rfl rfl rfl
    refine db_Rgo (pc' := 41) (lv' := [(0, .ref 13), (1, .ref 20), (2, .int v2), (3, .ref (a3 + 4)), (4, .int v4)]) (st' := [.int (3 : Int32), .ref 13]) 2 rfl ?_
    refine db_RcdB (mr' := dbm_58) (as := [.ref 13, .int (3 : Int32)]) (rest := []) (pc' := 44) (lv1 := [(0, .ref 13), (1, .ref 20), (2, .int v2), (3, .ref (a3 + 4)), (4, .int v4)]) rfl rfl rfl rfl rfl (db_f58_ok) fun q8 s9 => ?_
    refine db_RifBe (pc' := 47) (tg := 51) (lv1 := [(0, .ref 13), (1, .ref 20), (2, .int v2), (3, .ref (a3 + 4)), (4, .int v4)]) rfl rfl rfl rfl ?_ ?_
    · refine db_Rgo (pc' := 52) (lv' := []) (st' := [.int (0 : Int32)]) 1 rfl ?_
      exact db_Rret (lv1 := []) rfl rfl rfl rfl
    refine db_Rgo (pc' := 52) (lv' := []) (st' := [.int (1 : Int32)]) 2 rfl ?_
    exact db_Rret (lv1 := []) rfl rfl rfl rfl
  refine db_Rgo (pc' := 9) (lv' := [(0, .ref 13), (1, .ref 20), (2, .int v2), (3, .ref (a3 + 4)), (4, .int v4)]) (st' := [.int (2 : Int32), .ref 13]) 2 rfl ?_
  refine db_RcdB (mr' := dbm_58) (as := [.ref 13, .int (2 : Int32)]) (rest := []) (pc' := 12) (lv1 := [(0, .ref 13), (1, .ref 20), (2, .int v2), (3, .ref (a3 + 4)), (4, .int v4)]) rfl rfl rfl rfl rfl (db_f58_ok) fun q10 s11 => ?_
  exact db_RretB (lv1 := [(0, .ref 13), (1, .ref 20), (2, .int v2), (3, .ref (a3 + 4)), (4, .int v4)]) rfl rfl rfl rfl
/-- DreamBook$Scanner.takeName(LDreamBook$Told;I[II)Z -/
noncomputable def db_f69_20 (s : db_S) (v2 : Int32) (a3 : Nat) (v4 : Int32) : Option (Bool × db_S) :=
  (db_bd (db_f70_20 s v2 a3 v4) fun q1 s2 => (cond q1 ((db_f60 s2).bind fun s4 => (some (true, s4))) (some (false, s2))))
set_option maxRecDepth 100000 in
theorem db_f69_20_ok {X : db_X} {d : Nat} {s : db_S} {v2 : Int32} {a3 : Nat} {v4 : Int32} : db_Rf X (d + 2) dbm_69 0 (lv_args 0 [.ref 13, .ref 20, .int v2, .ref (a3 + 4), .int v4]) [] s db_zB (db_f69_20 s v2 (a3 + 4) v4) := by
  show db_Rf _ _ _ 0 [(0, .ref 13), (1, .ref 20), (2, .int v2), (3, .ref (a3 + 4)), (4, .int v4)] [] _ _ _
  unfold db_f69_20
  refine db_Rgo (pc' := 6) (lv' := [(0, .ref 13), (1, .ref 20), (2, .int v2), (3, .ref (a3 + 4)), (4, .int v4)]) (st' := [.int v4, .ref (a3 + 4), .int v2, .ref 20, .ref 13]) 5 rfl ?_
  refine db_RcdB (mr' := dbm_70) (as := [.ref 13, .ref 20, .int v2, .ref (a3 + 4), .int v4]) (rest := []) (pc' := 9) (lv1 := [(0, .ref 13), (1, .ref 20), (2, .int v2), (3, .ref (a3 + 4)), (4, .int v4)]) rfl rfl rfl rfl rfl (db_f70_20_ok) fun q1 s2 => ?_
  refine db_RifBn (pc' := 12) (tg := 14) (lv1 := [(0, .ref 13), (1, .ref 20), (2, .int v2), (3, .ref (a3 + 4)), (4, .int v4)]) rfl rfl rfl rfl ?_ ?_
  · refine db_Rgo (pc' := 15) (lv' := [(0, .ref 13)]) (st' := [.ref 13]) 1 rfl ?_
    refine db_RcV (mr' := dbm_60) (as := [.ref 13]) (rest := []) (pc' := 18) (lv1 := [(0, .ref 13)]) rfl rfl rfl rfl rfl (db_f60_ok) fun s4 => ?_
    refine db_Rgo (pc' := 19) (lv' := [(0, .ref 13)]) (st' := [.int (1 : Int32)]) 1 rfl ?_
    exact db_Rret (lv1 := [(0, .ref 13)]) rfl rfl rfl rfl
  refine db_Rgo (pc' := 13) (lv' := [(0, .ref 13), (1, .ref 20), (2, .int v2), (3, .ref (a3 + 4)), (4, .int v4)]) (st' := [.int (0 : Int32)]) 1 rfl ?_
  exact db_Rret (lv1 := [(0, .ref 13), (1, .ref 20), (2, .int v2), (3, .ref (a3 + 4)), (4, .int v4)]) rfl rfl rfl rfl
/-- DreamBook$PlanParser.parseSleeper([I)Z -/
noncomputable def db_f94 (s : db_S) (a1 : Nat) : Option (Bool × db_S) :=
  (db_bd (db_f68 s (13 : Int32)) fun q1 s2 => (cond q1 (db_bd (db_f69_20 s2 (1 : Int32) a1 (2 : Int32)) fun q3 s4 => (cond q3 ((db_wI s4 a1 (3 : Int32) (-1 : Int32)).bind fun s5 => (db_bd (db_f66 s5 (14 : Int32)) fun q6 s7 => (cond q6 (db_bd (db_f69_20 s7 (2 : Int32) a1 (3 : Int32)) fun q8 s9 => (cond q8 (some (true, s9)) (some (false, s9)))) (some (true, s7))))) (some (false, s4)))) (some (false, s2))))
set_option maxRecDepth 100000 in
theorem db_f94_ok {X : db_X} {d : Nat} {s : db_S} {a1 : Nat} : db_Rf X (d + 3) dbm_94 0 (lv_args 0 [.ref 207, .ref (a1 + 4)]) [] s db_zB (db_f94 s (a1 + 4)) := by
  show db_Rf _ _ _ 0 [(0, .ref 207), (1, .ref (a1 + 4))] [] _ _ _
  unfold db_f94
  refine db_Rgo (pc' := 6) (lv' := [(0, .ref 207), (1, .ref (a1 + 4))]) (st' := [.int (13 : Int32), .ref 13]) 3 rfl ?_
  refine db_RcdB (mr' := dbm_68) (as := [.ref 13, .int (13 : Int32)]) (rest := []) (pc' := 9) (lv1 := [(0, .ref 207), (1, .ref (a1 + 4))]) rfl rfl rfl rfl rfl (db_f68_ok) fun q1 s2 => ?_
  refine db_RifBe (pc' := 12) (tg := 29) (lv1 := [(0, .ref 207), (1, .ref (a1 + 4))]) rfl rfl rfl rfl ?_ ?_
  · refine db_Rgo (pc' := 30) (lv' := []) (st' := [.int (0 : Int32)]) 1 rfl ?_
    exact db_Rret (lv1 := []) rfl rfl rfl rfl
  refine db_Rgo (pc' := 23) (lv' := [(0, .ref 207), (1, .ref (a1 + 4))]) (st' := [.int (2 : Int32), .ref (a1 + 4), .int (1 : Int32), .ref 20, .ref 13]) 7 rfl ?_
  refine db_RcdB (mr' := dbm_69) (as := [.ref 13, .ref 20, .int (1 : Int32), .ref (a1 + 4), .int (2 : Int32)]) (rest := []) (pc' := 26) (lv1 := [(0, .ref 207), (1, .ref (a1 + 4))]) rfl rfl rfl rfl rfl (db_f69_20_ok) fun q3 s4 => ?_
  refine db_RifBn (pc' := 29) (tg := 31) (lv1 := [(0, .ref 207), (1, .ref (a1 + 4))]) rfl rfl rfl rfl ?_ ?_
  · refine db_Rgo (pc' := 34) (lv' := [(0, .ref 207), (1, .ref (a1 + 4))]) (st' := [.int (-1 : Int32), .int (3 : Int32), .ref (a1 + 4)]) 3 rfl ?_
    refine db_RstI (pc' := 35) (lv1 := [(0, .ref 207), (1, .ref (a1 + 4))]) rfl rfl rfl fun s5 => ?_
    refine db_Rgo (pc' := 41) (lv' := [(0, .ref 207), (1, .ref (a1 + 4))]) (st' := [.int (14 : Int32), .ref 13]) 3 rfl ?_
    refine db_RcdB (mr' := dbm_66) (as := [.ref 13, .int (14 : Int32)]) (rest := []) (pc' := 44) (lv1 := [(0, .ref 207), (1, .ref (a1 + 4))]) rfl rfl rfl rfl rfl (db_f66_ok) fun q6 s7 => ?_
    refine db_RifBe (pc' := 47) (tg := 64) (lv1 := [(0, .ref 207), (1, .ref (a1 + 4))]) rfl rfl rfl rfl ?_ ?_
    · refine db_Rgo (pc' := 69) (lv' := []) (st' := [.int (1 : Int32)]) 2 rfl ?_
      exact db_Rret (lv1 := []) rfl rfl rfl rfl
    refine db_Rgo (pc' := 58) (lv' := [(0, .ref 207), (1, .ref (a1 + 4))]) (st' := [.int (3 : Int32), .ref (a1 + 4), .int (2 : Int32), .ref 20, .ref 13]) 7 rfl ?_
    refine db_RcdB (mr' := dbm_69) (as := [.ref 13, .ref 20, .int (2 : Int32), .ref (a1 + 4), .int (3 : Int32)]) (rest := []) (pc' := 61) (lv1 := [(0, .ref 207), (1, .ref (a1 + 4))]) rfl rfl rfl rfl rfl (db_f69_20_ok) fun q8 s9 => ?_
    refine db_RifBe (pc' := 64) (tg := 68) (lv1 := [(0, .ref 207), (1, .ref (a1 + 4))]) rfl rfl rfl rfl ?_ ?_
    · refine db_Rgo (pc' := 69) (lv' := []) (st' := [.int (0 : Int32)]) 1 rfl ?_
      exact db_Rret (lv1 := []) rfl rfl rfl rfl
    refine db_Rgo (pc' := 69) (lv' := []) (st' := [.int (1 : Int32)]) 2 rfl ?_
    exact db_Rret (lv1 := []) rfl rfl rfl rfl
  refine db_Rgo (pc' := 30) (lv' := []) (st' := [.int (0 : Int32)]) 1 rfl ?_
  exact db_Rret (lv1 := []) rfl rfl rfl rfl
noncomputable def db_f96_b27 (s : db_S) : Option (Bool × db_S) :=
  (db_bd (db_f58 s (2 : Int32)) fun q1 s2 => (some (q1, s2)))
set_option maxRecDepth 100000 in
theorem db_f96_b27_ok {X : db_X} {d : Nat}  {s : db_S} : db_Rf X (d + 1) dbm_96 27 [(0, .ref 13)] [] s db_zB (db_f96_b27 s ) := by
  unfold db_f96_b27
  refine db_Rgo (pc' := 29) (lv' := [(0, .ref 13)]) (st' := [.int (2 : Int32), .ref 13]) 2 rfl ?_
  refine db_RcdB (mr' := dbm_58) (as := [.ref 13, .int (2 : Int32)]) (rest := []) (pc' := 32) (lv1 := [(0, .ref 13)]) rfl rfl rfl rfl rfl (db_f58_ok) fun q1 s2 => ?_
  exact db_RretB (lv1 := [(0, .ref 13)]) rfl rfl rfl rfl
/-- DreamBook$Scanner.takeCompare([II)Z -/
noncomputable def db_f96 (s : db_S) (a1 : Nat) (v2 : Int32) : Option (Bool × db_S) :=
  ((db_rI s 16 (s.1 13 9)).bind fun x1 => (cond (db_cnd .ne x1 (3 : Int32)) (db_f96_b27 s ) ((db_rI s 18 (s.1 13 9)).bind fun x2 => (cond (db_cnd .ne x2 (59 : Int32)) ((db_rI s 18 (s.1 13 9)).bind fun x3 => ((db_wI s a1 v2 (x3 - (61 : Int32))).bind fun s4 => ((db_f60 s4).bind fun s6 => (some (true, s6))))) (db_f96_b27 s )))))
set_option maxRecDepth 100000 in
theorem db_f96_ok {X : db_X} {d : Nat} {s : db_S} {a1 : Nat} {v2 : Int32} : db_Rf X (d + 1) dbm_96 0 (lv_args 0 [.ref 13, .ref (a1 + 4), .int v2]) [] s db_zB (db_f96 s (a1 + 4) v2) := by
  show db_Rf _ _ _ 0 [(0, .ref 13), (1, .ref (a1 + 4)), (2, .int v2)] [] _ _ _
  unfold db_f96
  refine db_Rgo (pc' := 8) (lv' := [(0, .ref 13), (1, .ref (a1 + 4)), (2, .int v2)]) (st' := [.int (s.1 13 9), .ref 16]) 4 rfl ?_
  refine db_RldI (pc' := 9) (lv1 := [(0, .ref 13), (1, .ref (a1 + 4)), (2, .int v2)]) rfl rfl rfl fun x1 => ?_
  refine db_Rgo (pc' := 10) (lv' := [(0, .ref 13), (1, .ref (a1 + 4)), (2, .int v2)]) (st' := [.int (3 : Int32), .int x1]) 1 rfl ?_
  refine db_Ric (pc' := 13) (tg := 27) (lv1 := [(0, .ref 13), (1, .ref (a1 + 4)), (2, .int v2)]) rfl rfl rfl rfl ?_ ?_
  · refine db_Rn (lv1 := [(0, .ref 13)]) rfl rfl rfl ?_
    exact db_f96_b27_ok
  refine db_Rgo (pc' := 21) (lv' := [(0, .ref 13), (1, .ref (a1 + 4)), (2, .int v2)]) (st' := [.int (s.1 13 9), .ref 18]) 4 rfl ?_
  refine db_RldI (pc' := 22) (lv1 := [(0, .ref 13), (1, .ref (a1 + 4)), (2, .int v2)]) rfl rfl rfl fun x2 => ?_
  refine db_Rgo (pc' := 24) (lv' := [(0, .ref 13), (1, .ref (a1 + 4)), (2, .int v2)]) (st' := [.int (59 : Int32), .int x2]) 1 rfl ?_
  refine db_Ric (pc' := 27) (tg := 33) (lv1 := [(0, .ref 13), (1, .ref (a1 + 4)), (2, .int v2)]) rfl rfl rfl rfl ?_ ?_
  · refine db_Rgo (pc' := 43) (lv' := [(0, .ref 13), (1, .ref (a1 + 4)), (2, .int v2)]) (st' := [.int (s.1 13 9), .ref 18, .int v2, .ref (a1 + 4)]) 6 rfl ?_
    refine db_RldI (pc' := 44) (lv1 := [(0, .ref 13), (1, .ref (a1 + 4)), (2, .int v2)]) rfl rfl rfl fun x3 => ?_
    refine db_Rgo (pc' := 47) (lv' := [(0, .ref 13), (1, .ref (a1 + 4)), (2, .int v2)]) (st' := [.int (x3 - (61 : Int32)), .int v2, .ref (a1 + 4)]) 2 rfl ?_
    refine db_RstI (pc' := 48) (lv1 := [(0, .ref 13), (1, .ref (a1 + 4)), (2, .int v2)]) rfl rfl rfl fun s4 => ?_
    refine db_Rgo (pc' := 49) (lv' := [(0, .ref 13), (1, .ref (a1 + 4)), (2, .int v2)]) (st' := [.ref 13]) 1 rfl ?_
    refine db_RcV (mr' := dbm_60) (as := [.ref 13]) (rest := []) (pc' := 52) (lv1 := [(0, .ref 13), (1, .ref (a1 + 4)), (2, .int v2)]) rfl rfl rfl rfl rfl (db_f60_ok) fun s6 => ?_
    refine db_Rgo (pc' := 53) (lv' := [(0, .ref 13), (1, .ref (a1 + 4)), (2, .int v2)]) (st' := [.int (1 : Int32)]) 1 rfl ?_
    exact db_Rret (lv1 := [(0, .ref 13), (1, .ref (a1 + 4)), (2, .int v2)]) rfl rfl rfl rfl
  refine db_Rn (lv1 := [(0, .ref 13)]) rfl rfl rfl ?_
  exact db_f96_b27_ok
/-- DreamBook$PlanParser.parseTest([I)Z -/
noncomputable def db_f95 (s : db_S) (a1 : Nat) : Option (Bool × db_S) :=
  (db_bd (db_f66 s (27 : Int32)) fun q1 s2 => (cond q1 ((db_wI s2 a1 (2 : Int32) (-1 : Int32)).bind fun s11 => (db_bd (db_f69_20 s11 (3 : Int32) a1 (1 : Int32)) fun q12 s13 => (some (q12, s13)))) (db_bd (db_f68 s2 (26 : Int32)) fun q3 s4 => (cond q3 (db_bd (db_f69_20 s4 (1 : Int32) a1 (2 : Int32)) fun q5 s6 => (cond q5 (db_bd (db_f96 s6 a1 (3 : Int32)) fun q7 s8 => (cond q7 (db_bd (db_f72 s8 (9999 : Int32) a1 (4 : Int32)) fun q9 s10 => (cond q9 (some (true, s10)) (some (false, s10)))) (some (false, s8)))) (some (false, s6)))) (some (false, s4))))))
set_option maxRecDepth 100000 in
theorem db_f95_ok {X : db_X} {d : Nat} {s : db_S} {a1 : Nat} : db_Rf X (d + 3) dbm_95 0 (lv_args 0 [.ref 207, .ref (a1 + 4)]) [] s db_zB (db_f95 s (a1 + 4)) := by
  show db_Rf _ _ _ 0 [(0, .ref 207), (1, .ref (a1 + 4))] [] _ _ _
  unfold db_f95
  refine db_Rgo (pc' := 6) (lv' := [(0, .ref 207), (1, .ref (a1 + 4))]) (st' := [.int (27 : Int32), .ref 13]) 3 rfl ?_
  refine db_RcdB (mr' := dbm_66) (as := [.ref 13, .int (27 : Int32)]) (rest := []) (pc' := 9) (lv1 := [(0, .ref 207), (1, .ref (a1 + 4))]) rfl rfl rfl rfl rfl (db_f66_ok) fun q1 s2 => ?_
  refine db_RifBe (pc' := 12) (tg := 31) (lv1 := [(0, .ref 207), (1, .ref (a1 + 4))]) rfl rfl rfl rfl ?_ ?_
  · refine db_Rgo (pc' := 37) (lv' := [(0, .ref 207), (1, .ref (a1 + 4))]) (st' := [.int (26 : Int32), .ref 13]) 3 rfl ?_
    refine db_RcdB (mr' := dbm_68) (as := [.ref 13, .int (26 : Int32)]) (rest := []) (pc' := 40) (lv1 := [(0, .ref 207), (1, .ref (a1 + 4))]) rfl rfl rfl rfl rfl (db_f68_ok) fun q3 s4 => ?_
    refine db_RifBe (pc' := 43) (tg := 91) (lv1 := [(0, .ref 207), (1, .ref (a1 + 4))]) rfl rfl rfl rfl ?_ ?_
    · refine db_Rgo (pc' := 92) (lv' := []) (st' := [.int (0 : Int32)]) 1 rfl ?_
      exact db_Rret (lv1 := []) rfl rfl rfl rfl
    refine db_Rgo (pc' := 54) (lv' := [(0, .ref 207), (1, .ref (a1 + 4))]) (st' := [.int (2 : Int32), .ref (a1 + 4), .int (1 : Int32), .ref 20, .ref 13]) 7 rfl ?_
    refine db_RcdB (mr' := dbm_69) (as := [.ref 13, .ref 20, .int (1 : Int32), .ref (a1 + 4), .int (2 : Int32)]) (rest := []) (pc' := 57) (lv1 := [(0, .ref 207), (1, .ref (a1 + 4))]) rfl rfl rfl rfl rfl (db_f69_20_ok) fun q5 s6 => ?_
    refine db_RifBe (pc' := 60) (tg := 91) (lv1 := [(0, .ref 207), (1, .ref (a1 + 4))]) rfl rfl rfl rfl ?_ ?_
    · refine db_Rgo (pc' := 92) (lv' := []) (st' := [.int (0 : Int32)]) 1 rfl ?_
      exact db_Rret (lv1 := []) rfl rfl rfl rfl
    refine db_Rgo (pc' := 66) (lv' := [(0, .ref 207), (1, .ref (a1 + 4))]) (st' := [.int (3 : Int32), .ref (a1 + 4), .ref 13]) 4 rfl ?_
    refine db_RcdB (mr' := dbm_96) (as := [.ref 13, .ref (a1 + 4), .int (3 : Int32)]) (rest := []) (pc' := 69) (lv1 := [(0, .ref 207), (1, .ref (a1 + 4))]) rfl rfl rfl rfl rfl (db_f96_ok) fun q7 s8 => ?_
    refine db_RifBe (pc' := 72) (tg := 91) (lv1 := [(0, .ref 207), (1, .ref (a1 + 4))]) rfl rfl rfl rfl ?_ ?_
    · refine db_Rgo (pc' := 92) (lv' := []) (st' := [.int (0 : Int32)]) 1 rfl ?_
      exact db_Rret (lv1 := []) rfl rfl rfl rfl
    refine db_Rgo (pc' := 81) (lv' := [(0, .ref 207), (1, .ref (a1 + 4))]) (st' := [.int (4 : Int32), .ref (a1 + 4), .int (9999 : Int32), .ref 13]) 5 rfl ?_
    refine db_RcdB (mr' := dbm_72) (as := [.ref 13, .int (9999 : Int32), .ref (a1 + 4), .int (4 : Int32)]) (rest := []) (pc' := 84) (lv1 := [(0, .ref 207), (1, .ref (a1 + 4))]) rfl rfl rfl rfl rfl (db_f72_ok) fun q9 s10 => ?_
    refine db_RifBe (pc' := 87) (tg := 91) (lv1 := [(0, .ref 207), (1, .ref (a1 + 4))]) rfl rfl rfl rfl ?_ ?_
    · refine db_Rgo (pc' := 92) (lv' := []) (st' := [.int (0 : Int32)]) 1 rfl ?_
      exact db_Rret (lv1 := []) rfl rfl rfl rfl
    refine db_Rgo (pc' := 92) (lv' := [(0, .ref 207), (1, .ref (a1 + 4))]) (st' := [.int (1 : Int32)]) 2 rfl ?_
    exact db_Rret (lv1 := []) rfl rfl rfl rfl
  refine db_Rgo (pc' := 15) (lv' := [(0, .ref 207), (1, .ref (a1 + 4))]) (st' := [.int (-1 : Int32), .int (2 : Int32), .ref (a1 + 4)]) 3 rfl ?_
  refine db_RstI (pc' := 16) (lv1 := [(0, .ref 207), (1, .ref (a1 + 4))]) rfl rfl rfl fun s11 => ?_
  refine db_Rgo (pc' := 27) (lv' := [(0, .ref 207), (1, .ref (a1 + 4))]) (st' := [.int (1 : Int32), .ref (a1 + 4), .int (3 : Int32), .ref 20, .ref 13]) 7 rfl ?_
  refine db_RcdB (mr' := dbm_69) (as := [.ref 13, .ref 20, .int (3 : Int32), .ref (a1 + 4), .int (1 : Int32)]) (rest := []) (pc' := 30) (lv1 := [(0, .ref 207), (1, .ref (a1 + 4))]) rfl rfl rfl rfl rfl (db_f69_20_ok) fun q12 s13 => ?_
  exact db_RretB (lv1 := [(0, .ref 207), (1, .ref (a1 + 4))]) rfl rfl rfl rfl
noncomputable def db_f93_b77 (s : db_S) (a2 : Nat) : Option (Bool × db_S) :=
  (db_bd (db_f69_20 s (3 : Int32) a2 (1 : Int32)) fun q1 s2 => (some (q1, s2)))
set_option maxRecDepth 100000 in
theorem db_f93_b77_ok {X : db_X} {d : Nat}  {s : db_S} {a2 : Nat} : db_Rf X (d + 4) dbm_93 77 [(0, .ref 207), (2, .ref (a2 + 4))] [] s db_zB (db_f93_b77 s (a2 + 4)) := by
  unfold db_f93_b77
  refine db_Rgo (pc' := 88) (lv' := [(0, .ref 207), (2, .ref (a2 + 4))]) (st' := [.int (1 : Int32), .ref (a2 + 4), .int (3 : Int32), .ref 20, .ref 13]) 7 rfl ?_
  refine db_RcdB (mr' := dbm_69) (as := [.ref 13, .ref 20, .int (3 : Int32), .ref (a2 + 4), .int (1 : Int32)]) (rest := []) (pc' := 91) (lv1 := [(0, .ref 207), (2, .ref (a2 + 4))]) rfl rfl rfl rfl rfl (db_f69_20_ok) fun q1 s2 => ?_
  exact db_RretB (lv1 := [(0, .ref 207), (2, .ref (a2 + 4))]) rfl rfl rfl rfl
/-- DreamBook$PlanParser.parseStep(I[I)Z -/
noncomputable def db_f93 (s : db_S) (v1 : Int32) (a2 : Nat) : Option (Bool × db_S) :=
  (if v1 = (18 : Int32) then (db_bd (db_f69_20 s (5 : Int32) a2 (1 : Int32)) fun q1 s2 => (cond q1 (db_bd (db_f94 s2 a2) fun q3 s4 => (cond q3 (some (true, s4)) (some (false, s4)))) (some (false, s2)))) else (if v1 = (19 : Int32) then (db_bd (db_f94 s a2) fun q5 s6 => (some (q5, s6))) else (if v1 = (20 : Int32) then (db_f93_b77 s a2) else (if v1 = (21 : Int32) then (db_f93_b77 s a2) else (if v1 = (22 : Int32) then (db_bd (db_f95 s a2) fun q7 s8 => (some (q7, s8))) else (if v1 = (23 : Int32) then (db_bd (db_f73 s (1 : Int32) (99 : Int32) a2 (4 : Int32)) fun q9 s10 => (some (q9, s10))) else (some (true, s))))))))
set_option maxRecDepth 100000 in
theorem db_f93_ok {X : db_X} {d : Nat} {s : db_S} {v1 : Int32} {a2 : Nat} : db_Rf X (d + 4) dbm_93 0 (lv_args 0 [.ref 207, .int v1, .ref (a2 + 4)]) [] s db_zB (db_f93 s v1 (a2 + 4)) := by
  show db_Rf _ _ _ 0 [(0, .ref 207), (1, .int v1), (2, .ref (a2 + 4))] [] _ _ _
  unfold db_f93
  refine db_Rgo (pc' := 1) (lv' := [(0, .ref 207), (1, .int v1), (2, .ref (a2 + 4))]) (st' := [.int v1]) 1 rfl ?_
  refine db_Rsw (v := (18 : Int32)) (tg := 40) (lv1 := [(0, .ref 207), (1, .int v1), (2, .ref (a2 + 4))]) rfl rfl rfl rfl rfl ?_ (fun zc11 => ?_)
  · refine db_Rgo (pc' := 51) (lv' := [(0, .ref 207), (2, .ref (a2 + 4))]) (st' := [.int (1 : Int32), .ref (a2 + 4), .int (5 : Int32), .ref 20, .ref 13]) 7 rfl ?_
    refine db_RcdB (mr' := dbm_69) (as := [.ref 13, .ref 20, .int (5 : Int32), .ref (a2 + 4), .int (1 : Int32)]) (rest := []) (pc' := 54) (lv1 := [(0, .ref 207), (2, .ref (a2 + 4))]) rfl rfl rfl rfl rfl (db_f69_20_ok) fun q1 s2 => ?_
    refine db_RifBe (pc' := 57) (tg := 69) (lv1 := [(0, .ref 207), (2, .ref (a2 + 4))]) rfl rfl rfl rfl ?_ ?_
    · refine db_Rgo (pc' := 70) (lv' := []) (st' := [.int (0 : Int32)]) 1 rfl ?_
      exact db_Rret (lv1 := []) rfl rfl rfl rfl
    refine db_Rgo (pc' := 59) (lv' := [(0, .ref 207), (2, .ref (a2 + 4))]) (st' := [.ref (a2 + 4), .ref 207]) 2 rfl ?_
    refine db_RcdB (mr' := dbm_94) (as := [.ref 207, .ref (a2 + 4)]) (rest := []) (pc' := 62) (lv1 := [(0, .ref 207), (2, .ref (a2 + 4))]) rfl rfl rfl rfl rfl (db_f94_ok) fun q3 s4 => ?_
    refine db_RifBe (pc' := 65) (tg := 69) (lv1 := [(0, .ref 207), (2, .ref (a2 + 4))]) rfl rfl rfl rfl ?_ ?_
    · refine db_Rgo (pc' := 70) (lv' := []) (st' := [.int (0 : Int32)]) 1 rfl ?_
      exact db_Rret (lv1 := []) rfl rfl rfl rfl
    refine db_Rgo (pc' := 70) (lv' := [(0, .ref 207), (2, .ref (a2 + 4))]) (st' := [.int (1 : Int32)]) 2 rfl ?_
    exact db_Rret (lv1 := []) rfl rfl rfl rfl
  refine db_Rsw (v := (19 : Int32)) (tg := 71) (lv1 := [(0, .ref 207), (1, .int v1), (2, .ref (a2 + 4))]) rfl rfl rfl rfl rfl ?_ (fun zc12 => ?_)
  · refine db_Rgo (pc' := 73) (lv' := [(0, .ref 207), (2, .ref (a2 + 4))]) (st' := [.ref (a2 + 4), .ref 207]) 2 rfl ?_
    refine db_RcdB (mr' := dbm_94) (as := [.ref 207, .ref (a2 + 4)]) (rest := []) (pc' := 76) (lv1 := [(0, .ref 207), (2, .ref (a2 + 4))]) rfl rfl rfl rfl rfl (db_f94_ok) fun q5 s6 => ?_
    exact db_RretB (lv1 := [(0, .ref 207), (2, .ref (a2 + 4))]) rfl rfl rfl rfl
  refine db_Rsw (v := (20 : Int32)) (tg := 77) (lv1 := [(0, .ref 207), (1, .int v1), (2, .ref (a2 + 4))]) rfl rfl rfl rfl rfl ?_ (fun zc13 => ?_)
  · refine db_Rn (lv1 := [(0, .ref 207), (2, .ref (a2 + 4))]) rfl rfl rfl ?_
    exact db_f93_b77_ok
  refine db_Rsw (v := (21 : Int32)) (tg := 77) (lv1 := [(0, .ref 207), (1, .int v1), (2, .ref (a2 + 4))]) rfl rfl rfl rfl rfl ?_ (fun zc14 => ?_)
  · refine db_Rn (lv1 := [(0, .ref 207), (2, .ref (a2 + 4))]) rfl rfl rfl ?_
    exact db_f93_b77_ok
  refine db_Rsw (v := (22 : Int32)) (tg := 92) (lv1 := [(0, .ref 207), (1, .int v1), (2, .ref (a2 + 4))]) rfl rfl rfl rfl rfl ?_ (fun zc15 => ?_)
  · refine db_Rgo (pc' := 94) (lv' := [(0, .ref 207), (2, .ref (a2 + 4))]) (st' := [.ref (a2 + 4), .ref 207]) 2 rfl ?_
    refine db_RcdB (mr' := dbm_95) (as := [.ref 207, .ref (a2 + 4)]) (rest := []) (pc' := 97) (lv1 := [(0, .ref 207), (2, .ref (a2 + 4))]) rfl rfl rfl rfl rfl (db_f95_ok) fun q7 s8 => ?_
    exact db_RretB (lv1 := [(0, .ref 207), (2, .ref (a2 + 4))]) rfl rfl rfl rfl
  refine db_Rsw (v := (23 : Int32)) (tg := 98) (lv1 := [(0, .ref 207), (1, .int v1), (2, .ref (a2 + 4))]) rfl rfl rfl rfl rfl ?_ (fun zc16 => ?_)
  · refine db_Rgo (pc' := 107) (lv' := [(0, .ref 207), (2, .ref (a2 + 4))]) (st' := [.int (4 : Int32), .ref (a2 + 4), .int (99 : Int32), .int (1 : Int32), .ref 13]) 6 rfl ?_
    refine db_RcdB (mr' := dbm_73) (as := [.ref 13, .int (1 : Int32), .int (99 : Int32), .ref (a2 + 4), .int (4 : Int32)]) (rest := []) (pc' := 110) (lv1 := [(0, .ref 207), (2, .ref (a2 + 4))]) rfl rfl rfl rfl rfl (db_f73_ok) fun q9 s10 => ?_
    exact db_RretB (lv1 := [(0, .ref 207), (2, .ref (a2 + 4))]) rfl rfl rfl rfl
  refine db_Rsd (tg := 111) (lv1 := [(0, .ref 207), (1, .int v1), (2, .ref (a2 + 4))]) rfl rfl (db_swd 6 (by decide) (fun k hk => by match k, hk with | 0, _ => exact zc11 | 1, _ => exact zc12 | 2, _ => exact zc13 | 3, _ => exact zc14 | 4, _ => exact zc15 | 5, _ => exact zc16 | k + 6, hk => exact absurd hk (by omega))) rfl ?_
  refine db_Rgo (pc' := 112) (lv' := []) (st' := [.int (1 : Int32)]) 1 rfl ?_
  exact db_Rret (lv1 := []) rfl rfl rfl rfl
noncomputable def db_f90_b131 (s : db_S) (v1 : Int32) : Option (Bool × db_S) :=
  ((db_pI s 208 1 ((s.1 208 1) + (1 : Int32))).bind fun s1 => ((db_f60 s1).bind fun s3 => (db_bd (db_f92 s3 v1) fun q4 s5 => (db_g4 q4 fun y6 => (db_bd (db_f93 s5 v1 y6) fun q7 s8 => (some (q7, s8)))))))
set_option maxRecDepth 100000 in
theorem db_f90_b131_ok {X : db_X} {d : Nat}  {s : db_S} {v1 : Int32} : db_Rf X (d + 5) dbm_90 131 [(0, .ref 207), (1, .int v1)] [] s db_zB (db_f90_b131 s v1) := by
  unfold db_f90_b131
  refine db_Rgo (pc' := 141) (lv' := [(0, .ref 207), (1, .int v1)]) (st' := [.int ((s.1 208 1) + (1 : Int32)), .ref 208]) 6 rfl ?_
  refine db_RpuI (pc' := 144) (lv1 := [(0, .ref 207), (1, .int v1)]) rfl rfl rfl rfl rfl rfl (by decide) rfl rfl fun s1 => ?_
  refine db_Rgo (pc' := 148) (lv' := [(0, .ref 207), (1, .int v1)]) (st' := [.ref 13]) 2 rfl ?_
  refine db_RcV (mr' := dbm_60) (as := [.ref 13]) (rest := []) (pc' := 151) (lv1 := [(0, .ref 207), (1, .int v1)]) rfl rfl rfl rfl rfl (db_f60_ok) fun s3 => ?_
  refine db_Rgo (pc' := 155) (lv' := [(0, .ref 207), (1, .int v1)]) (st' := [.int v1, .ref 207, .int v1, .ref 207]) 4 rfl ?_
  refine db_RcdR (mr' := dbm_92) (as := [.ref 207, .int v1]) (rest := [.int v1, .ref 207]) (pc' := 158) (lv1 := [(0, .ref 207), (1, .int v1)]) rfl rfl rfl rfl rfl (db_f92_ok) fun q4 s5 => ?_
  refine db_RgF fun y6 => ?_
  refine db_RcdB (mr' := dbm_93) (as := [.ref 207, .int v1, .ref (y6 + 4)]) (rest := []) (pc' := 161) (lv1 := [(0, .ref 207), (1, .int v1)]) rfl rfl rfl rfl rfl (db_f93_ok) fun q7 s8 => ?_
  exact db_RretB (lv1 := [(0, .ref 207), (1, .int v1)]) rfl rfl rfl rfl
noncomputable def db_f90_b101 (s : db_S) (v1 : Int32) (v2 : Int32) : Option (Bool × db_S) :=
  (cond (db_cnd .eq v2 0) (db_f90_b131 s v1) ((db_wI s 270 (s.1 207 4) (s.1 208 2)).bind fun s1 => ((db_pI s1 207 4 ((s1.1 207 4) + (1 : Int32))).bind fun s2 => (db_f90_b131 s2 v1))))
set_option maxRecDepth 100000 in
theorem db_f90_b101_ok {X : db_X} {d : Nat}  {s : db_S} {v1 : Int32} {v2 : Int32} : db_Rf X (d + 5) dbm_90 101 [(0, .ref 207), (1, .int v1), (2, .int v2)] [] s db_zB (db_f90_b101 s v1 v2) := by
  unfold db_f90_b101
  refine db_Rgo (pc' := 102) (lv' := [(0, .ref 207), (1, .int v1), (2, .int v2)]) (st' := [.int v2]) 1 rfl ?_
  refine db_Rif (pc' := 105) (tg := 131) (lv1 := [(0, .ref 207), (1, .int v1), (2, .int v2)]) rfl rfl rfl rfl ?_ ?_
  · refine db_Rn (lv1 := [(0, .ref 207), (1, .int v1)]) rfl rfl rfl ?_
    exact db_f90_b131_ok
  refine db_Rgo (pc' := 120) (lv' := [(0, .ref 207), (1, .int v1), (2, .int v2)]) (st' := [.int (s.1 208 2), .int (s.1 207 4), .ref 270]) 7 rfl ?_
  refine db_RstI (pc' := 121) (lv1 := [(0, .ref 207), (1, .int v1), (2, .int v2)]) rfl rfl rfl fun s1 => ?_
  refine db_Rgo (pc' := 128) (lv' := [(0, .ref 207), (1, .int v1), (2, .int v2)]) (st' := [.int ((s1.1 207 4) + (1 : Int32)), .ref 207]) 5 rfl ?_
  refine db_RpuI (pc' := 131) (lv1 := [(0, .ref 207), (1, .int v1), (2, .int v2)]) rfl rfl rfl rfl rfl rfl (by decide) rfl rfl fun s2 => ?_
  refine db_Rn (lv1 := [(0, .ref 207), (1, .int v1)]) rfl rfl rfl ?_
  exact db_f90_b131_ok
noncomputable def db_f90_b78 (s : db_S) (v1 : Int32) (t0 : Int32) : Option (Bool × db_S) :=
  (cond (db_cnd .eq t0 0) (db_f90_b101 s v1 t0) (cond (db_cnd .lt (s.1 207 4) (3 : Int32)) (db_f90_b101 s v1 t0) (db_bd (db_f58 s (7 : Int32)) fun q1 s2 => (some (q1, s2)))))
set_option maxRecDepth 100000 in
theorem db_f90_b78_ok {X : db_X} {d : Nat}  {s : db_S} {v1 : Int32} {t0 : Int32} : db_Rf X (d + 5) dbm_90 78 [(0, .ref 207), (1, .int v1)] [.int t0] s db_zB (db_f90_b78 s v1 t0) := by
  unfold db_f90_b78
  refine db_Rgo (pc' := 80) (lv' := [(2, .int t0), (0, .ref 207), (1, .int v1)]) (st' := [.int t0]) 2 rfl ?_
  refine db_Rif (pc' := 83) (tg := 101) (lv1 := [(2, .int t0), (0, .ref 207), (1, .int v1)]) rfl rfl rfl rfl ?_ ?_
  · refine db_Rn (lv1 := [(0, .ref 207), (1, .int v1), (2, .int t0)]) rfl rfl rfl ?_
    exact db_f90_b101_ok
  refine db_Rgo (pc' := 88) (lv' := [(2, .int t0), (0, .ref 207), (1, .int v1)]) (st' := [.int (3 : Int32), .int (s.1 207 4)]) 3 rfl ?_
  refine db_Ric (pc' := 91) (tg := 101) (lv1 := [(2, .int t0), (0, .ref 207), (1, .int v1)]) rfl rfl rfl rfl ?_ ?_
  · refine db_Rn (lv1 := [(0, .ref 207), (1, .int v1), (2, .int t0)]) rfl rfl rfl ?_
    exact db_f90_b101_ok
  refine db_Rgo (pc' := 97) (lv' := [(2, .int t0), (0, .ref 207), (1, .int v1)]) (st' := [.int (7 : Int32), .ref 13]) 3 rfl ?_
  refine db_RcdB (mr' := dbm_58) (as := [.ref 13, .int (7 : Int32)]) (rest := []) (pc' := 100) (lv1 := [(2, .int t0), (0, .ref 207), (1, .int v1)]) rfl rfl rfl rfl rfl (db_f58_ok) fun q1 s2 => ?_
  exact db_RretB (lv1 := [(2, .int t0), (0, .ref 207), (1, .int v1)]) rfl rfl rfl rfl
noncomputable def db_f90_b73 (s : db_S) (v1 : Int32) : Option (Bool × db_S) :=
  (db_f90_b78 s v1 (1 : Int32))
set_option maxRecDepth 100000 in
theorem db_f90_b73_ok {X : db_X} {d : Nat}  {s : db_S} {v1 : Int32} : db_Rf X (d + 5) dbm_90 73 [(0, .ref 207), (1, .int v1)] [] s db_zB (db_f90_b73 s v1) := by
  unfold db_f90_b73
  refine db_Rgo (pc' := 78) (lv' := [(0, .ref 207), (1, .int v1)]) (st' := [.int (1 : Int32)]) 2 rfl ?_
  exact db_f90_b78_ok
/-- DreamBook$PlanParser.parseRow()Z -/
noncomputable def db_f90 (s : db_S) : Option (Bool × db_S) :=
  ((db_f57 s).bind fun q1 => (cond (db_cnd .ne q1 (25 : Int32)) ((db_f27 s q1 (18 : Int32) (24 : Int32)).bind fun q3 => (cond q3 (cond (db_cnd .lt (s.1 208 1) (30 : Int32)) (cond (db_cnd .eq q1 (22 : Int32)) (db_f90_b73 s q1) (cond (db_cnd .ne q1 (23 : Int32)) (db_f90_b78 s q1 (0 : Int32)) (db_f90_b73 s q1))) (db_bd (db_f58 s (6 : Int32)) fun q5 s6 => (some (q5, s6)))) (db_bd (db_f58 s (2 : Int32)) fun q7 s8 => (some (q7, s8))))) (db_bd (db_f91 s) fun q9 s10 => (some (q9, s10)))))
set_option maxRecDepth 100000 in
theorem db_f90_ok {X : db_X} {d : Nat} {s : db_S} : db_Rf X (d + 5) dbm_90 0 (lv_args 0 [.ref 207]) [] s db_zB (db_f90 s ) := by
  show db_Rf _ _ _ 0 [(0, .ref 207)] [] _ _ _
  unfold db_f90
  refine db_Rgo (pc' := 4) (lv' := [(0, .ref 207)]) (st' := [.ref 13]) 2 rfl ?_
  refine db_RcyI (mr' := dbm_57) (as := [.ref 13]) (rest := []) (pc' := 7) (lv1 := [(0, .ref 207)]) rfl rfl rfl rfl rfl (db_f57_ok) fun q1 => ?_
  refine db_Rgo (pc' := 11) (lv' := [(1, .int q1), (0, .ref 207)]) (st' := [.int (25 : Int32), .int q1]) 3 rfl ?_
  refine db_Ric (pc' := 14) (tg := 19) (lv1 := [(1, .int q1), (0, .ref 207)]) rfl rfl rfl rfl ?_ ?_
  · refine db_Rgo (pc' := 24) (lv' := [(0, .ref 207), (1, .int q1)]) (st' := [.int (24 : Int32), .int (18 : Int32), .int q1]) 3 rfl ?_
    refine db_RcyB (mr' := dbm_27) (as := [.int q1, .int (18 : Int32), .int (24 : Int32)]) (rest := []) (pc' := 27) (lv1 := [(0, .ref 207), (1, .int q1)]) rfl rfl rfl rfl rfl (db_f27_ok) fun q3 => ?_
    refine db_RifBn (pc' := 30) (tg := 39) (lv1 := [(0, .ref 207), (1, .int q1)]) rfl rfl rfl rfl ?_ ?_
    · refine db_Rgo (pc' := 48) (lv' := [(0, .ref 207), (1, .int q1)]) (st' := [.int (30 : Int32), .int (s.1 208 1)]) 4 rfl ?_
      refine db_Ric (pc' := 51) (tg := 61) (lv1 := [(0, .ref 207), (1, .int q1)]) rfl rfl rfl rfl ?_ ?_
      · refine db_Rgo (pc' := 64) (lv' := [(0, .ref 207), (1, .int q1)]) (st' := [.int (22 : Int32), .int q1]) 2 rfl ?_
        refine db_Ric (pc' := 67) (tg := 73) (lv1 := [(0, .ref 207), (1, .int q1)]) rfl rfl rfl rfl ?_ ?_
        · exact db_f90_b73_ok
        refine db_Rgo (pc' := 70) (lv' := [(0, .ref 207), (1, .int q1)]) (st' := [.int (23 : Int32), .int q1]) 2 rfl ?_
        refine db_Ric (pc' := 73) (tg := 77) (lv1 := [(0, .ref 207), (1, .int q1)]) rfl rfl rfl rfl ?_ ?_
        · refine db_Rgo (pc' := 78) (lv' := [(0, .ref 207), (1, .int q1)]) (st' := [.int (0 : Int32)]) 1 rfl ?_
          exact db_f90_b78_ok
        exact db_f90_b73_ok
      refine db_Rgo (pc' := 57) (lv' := [(0, .ref 207), (1, .int q1)]) (st' := [.int (6 : Int32), .ref 13]) 3 rfl ?_
      refine db_RcdB (mr' := dbm_58) (as := [.ref 13, .int (6 : Int32)]) (rest := []) (pc' := 60) (lv1 := [(0, .ref 207), (1, .int q1)]) rfl rfl rfl rfl rfl (db_f58_ok) fun q5 s6 => ?_
      exact db_RretB (lv1 := [(0, .ref 207), (1, .int q1)]) rfl rfl rfl rfl
    refine db_Rgo (pc' := 35) (lv' := [(0, .ref 207), (1, .int q1)]) (st' := [.int (2 : Int32), .ref 13]) 3 rfl ?_
    refine db_RcdB (mr' := dbm_58) (as := [.ref 13, .int (2 : Int32)]) (rest := []) (pc' := 38) (lv1 := [(0, .ref 207), (1, .int q1)]) rfl rfl rfl rfl rfl (db_f58_ok) fun q7 s8 => ?_
    exact db_RretB (lv1 := [(0, .ref 207), (1, .int q1)]) rfl rfl rfl rfl
  refine db_Rgo (pc' := 15) (lv' := [(1, .int q1), (0, .ref 207)]) (st' := [.ref 207]) 1 rfl ?_
  refine db_RcdB (mr' := dbm_91) (as := [.ref 207]) (rest := []) (pc' := 18) (lv1 := [(1, .int q1), (0, .ref 207)]) rfl rfl rfl rfl rfl (db_f91_ok) fun q9 s10 => ?_
  exact db_RretB (lv1 := [(1, .int q1), (0, .ref 207)]) rfl rfl rfl rfl
noncomputable def db_f89_b72 (s : db_S) : Option (Bool × db_S) :=
  (cond (db_cnd .eq (s.1 207 4) 0) (some (true, s)) (db_bd (db_f58 s (2 : Int32)) fun q1 s2 => (cond q1 (some (true, s2)) (some (false, s2)))))
set_option maxRecDepth 100000 in
theorem db_f89_b72_ok {X : db_X} {d : Nat}  {s : db_S} : db_Rf X (d + 6) dbm_89 72 [(0, .ref 207)] [] s db_zB (db_f89_b72 s ) := by
  unfold db_f89_b72
  refine db_Rgo (pc' := 76) (lv' := [(0, .ref 207)]) (st' := [.int (s.1 207 4)]) 2 rfl ?_
  refine db_Rif (pc' := 79) (tg := 90) (lv1 := [(0, .ref 207)]) rfl rfl rfl rfl ?_ ?_
  · refine db_Rgo (pc' := 95) (lv' := []) (st' := [.int (1 : Int32)]) 2 rfl ?_
    exact db_Rret (lv1 := []) rfl rfl rfl rfl
  refine db_Rgo (pc' := 84) (lv' := [(0, .ref 207)]) (st' := [.int (2 : Int32), .ref 13]) 3 rfl ?_
  refine db_RcdB (mr' := dbm_58) (as := [.ref 13, .int (2 : Int32)]) (rest := []) (pc' := 87) (lv1 := [(0, .ref 207)]) rfl rfl rfl rfl rfl (db_f58_ok) fun q1 s2 => ?_
  refine db_RifBe (pc' := 90) (tg := 94) (lv1 := [(0, .ref 207)]) rfl rfl rfl rfl ?_ ?_
  · refine db_Rgo (pc' := 95) (lv' := []) (st' := [.int (0 : Int32)]) 1 rfl ?_
    exact db_Rret (lv1 := []) rfl rfl rfl rfl
  refine db_Rgo (pc' := 95) (lv' := []) (st' := [.int (1 : Int32)]) 2 rfl ?_
  exact db_Rret (lv1 := []) rfl rfl rfl rfl
noncomputable def db_f89_b30 : Nat → db_S → Int32 → Option (Bool × db_S)
  | 0, _, _ => none
  | n + 1, s, v2 =>
    (cond (db_cnd .ge v2 (900 : Int32)) (db_f89_b72 s ) ((db_f55 s).bind fun q1 => (cond q1 (db_f89_b72 s ) (db_bd (db_f90 s) fun q3 s4 => (cond q3 (db_bd (db_f79 s4) fun q5 s6 => (cond q5 (db_f89_b30 n s6 (v2 + (1 : Int32))) (some (false, s6)))) (some (false, s4)))))))
set_option maxRecDepth 100000 in
theorem db_f89_b30_ok {X : db_X} {d : Nat}  (n : Nat) : ∀ (s : db_S) (v2 : Int32), db_Rf X (d + 6) dbm_89 30 [(0, .ref 207), (2, .int v2)] [] s db_zB (db_f89_b30 n s v2) := by
  induction n with
  | zero => intros; exact db_Rnone
  | succ n ih =>
    intro s v2
    unfold db_f89_b30
    refine db_Rgo (pc' := 34) (lv' := [(0, .ref 207), (2, .int v2)]) (st' := [.int (900 : Int32), .int v2]) 2 rfl ?_
    refine db_Ric (pc' := 37) (tg := 72) (lv1 := [(0, .ref 207), (2, .int v2)]) rfl rfl rfl rfl ?_ ?_
    · refine db_Rn (lv1 := [(0, .ref 207)]) rfl rfl rfl ?_
      exact db_f89_b72_ok
    refine db_Rgo (pc' := 41) (lv' := [(0, .ref 207), (2, .int v2)]) (st' := [.ref 13]) 2 rfl ?_
    refine db_RcyB (mr' := dbm_55) (as := [.ref 13]) (rest := []) (pc' := 44) (lv1 := [(0, .ref 207), (2, .int v2)]) rfl rfl rfl rfl rfl (db_f55_ok) fun q1 => ?_
    refine db_RifBn (pc' := 47) (tg := 72) (lv1 := [(0, .ref 207), (2, .int v2)]) rfl rfl rfl rfl ?_ ?_
    · refine db_Rn (lv1 := [(0, .ref 207)]) rfl rfl rfl ?_
      exact db_f89_b72_ok
    refine db_Rgo (pc' := 48) (lv' := [(0, .ref 207), (2, .int v2)]) (st' := [.ref 207]) 1 rfl ?_
    refine db_RcdB (mr' := dbm_90) (as := [.ref 207]) (rest := []) (pc' := 51) (lv1 := [(0, .ref 207), (2, .int v2)]) rfl rfl rfl rfl rfl (db_f90_ok) fun q3 s4 => ?_
    refine db_RifBe (pc' := 54) (tg := 64) (lv1 := [(0, .ref 207), (2, .int v2)]) rfl rfl rfl rfl ?_ ?_
    · refine db_Rgo (pc' := 65) (lv' := []) (st' := [.int (0 : Int32)]) 1 rfl ?_
      exact db_Rret (lv1 := []) rfl rfl rfl rfl
    refine db_Rgo (pc' := 58) (lv' := [(0, .ref 207), (2, .int v2)]) (st' := [.ref 13]) 2 rfl ?_
    refine db_RcdB (mr' := dbm_79) (as := [.ref 13]) (rest := []) (pc' := 61) (lv1 := [(0, .ref 207), (2, .int v2)]) rfl rfl rfl rfl rfl (db_f79_ok) fun q5 s6 => ?_
    refine db_RifBn (pc' := 64) (tg := 66) (lv1 := [(0, .ref 207), (2, .int v2)]) rfl rfl rfl rfl ?_ ?_
    · refine db_Rgo (pc' := 30) (lv' := [(2, .int (v2 + (1 : Int32))), (0, .ref 207)]) (st' := []) 2 rfl ?_
      refine db_Rn (lv1 := [(0, .ref 207), (2, .int (v2 + (1 : Int32)))]) rfl rfl rfl ?_
      exact ih _ _
    refine db_Rgo (pc' := 65) (lv' := []) (st' := [.int (0 : Int32)]) 1 rfl ?_
    exact db_Rret (lv1 := []) rfl rfl rfl rfl
/-- DreamBook$PlanParser.parse(I)Z -/
noncomputable def db_f89 (s : db_S) (v1 : Int32) : Option (Bool × db_S) :=
  ((db_f86_208 s).bind fun s2 => ((db_pI s2 208 0 (1 : Int32)).bind fun s3 => ((db_pI s3 207 4 (0 : Int32)).bind fun s4 => ((db_f47 s4 v1).bind fun s6 => (db_f89_b30 db_FU s6 (0 : Int32))))))
set_option maxRecDepth 100000 in
theorem db_f89_ok {X : db_X} {d : Nat} {s : db_S} {v1 : Int32} : db_Rf X (d + 6) dbm_89 0 (lv_args 0 [.ref 207, .int v1]) [] s db_zB (db_f89 s v1) := by
  show db_Rf _ _ _ 0 [(0, .ref 207), (1, .int v1)] [] _ _ _
  unfold db_f89
  refine db_Rgo (pc' := 4) (lv' := [(0, .ref 207), (1, .int v1)]) (st' := [.ref 208]) 2 rfl ?_
  refine db_RcV (mr' := dbm_86) (as := [.ref 208]) (rest := []) (pc' := 7) (lv1 := [(0, .ref 207), (1, .int v1)]) rfl rfl rfl rfl rfl (db_f86_208_ok) fun s2 => ?_
  refine db_Rgo (pc' := 12) (lv' := [(0, .ref 207), (1, .int v1)]) (st' := [.int (1 : Int32), .ref 208]) 3 rfl ?_
  refine db_RpuI (pc' := 15) (lv1 := [(0, .ref 207), (1, .int v1)]) rfl rfl rfl rfl rfl rfl (by decide) rfl rfl fun s3 => ?_
  refine db_Rgo (pc' := 17) (lv' := [(0, .ref 207), (1, .int v1)]) (st' := [.int (0 : Int32), .ref 207]) 2 rfl ?_
  refine db_RpuI (pc' := 20) (lv1 := [(0, .ref 207), (1, .int v1)]) rfl rfl rfl rfl rfl rfl (by decide) rfl rfl fun s4 => ?_
  refine db_Rgo (pc' := 25) (lv' := [(0, .ref 207), (1, .int v1)]) (st' := [.int v1, .ref 13]) 3 rfl ?_
  refine db_RcV (mr' := dbm_47) (as := [.ref 13, .int v1]) (rest := []) (pc' := 28) (lv1 := [(0, .ref 207), (1, .int v1)]) rfl rfl rfl rfl rfl (db_f47_ok) fun s6 => ?_
  refine db_Rgo (pc' := 30) (lv' := [(2, .int (0 : Int32)), (0, .ref 207), (1, .int v1)]) (st' := []) 2 rfl ?_
  refine db_Rn (lv1 := [(0, .ref 207), (2, .int (0 : Int32))]) rfl rfl rfl ?_
  exact db_f89_b30_ok db_FU _ _
/-- DreamBook$Plan.copyFrom(LDreamBook$Plan;)V -/
noncomputable def db_f97_83_208 (s : db_S) : Option db_S :=
  (cond (db_b01 (s.1 208 0)) ((db_pI s 83 0 (s.1 208 0)).bind fun s1 => ((db_pI s1 83 1 (s1.1 208 1)).bind fun s2 => ((db_pI s2 83 2 (s2.1 208 2)).bind fun s3 => ((db_f84 s3 209 84).bind fun s5 => (some s5))))) none)
set_option maxRecDepth 100000 in
theorem db_f97_83_208_ok {X : db_X} {d : Nat} {s : db_S} : db_Rf X (d + 2) dbm_97 0 (lv_args 0 [.ref 83, .ref 208]) [] s db_zV (db_f97_83_208 s ) := by
  show db_Rf _ _ _ 0 [(0, .ref 83), (1, .ref 208)] [] _ _ _
  unfold db_f97_83_208
  refine db_Rgo (pc' := 5) (lv' := [(0, .ref 83), (1, .ref 208)]) (st' := [.int (s.1 208 0), .ref 83]) 3 rfl ?_
  refine db_Rb01 fun hb => ?_
  refine db_RpuI (pc' := 8) (lv1 := [(0, .ref 83), (1, .ref 208)]) rfl rfl rfl rfl rfl rfl (by decide) rfl (show (db_b01 (s.1 208 0) && true) = true by rw [hb]; rfl) fun s1 => ?_
  refine db_Rgo (pc' := 13) (lv' := [(0, .ref 83), (1, .ref 208)]) (st' := [.int (s1.1 208 1), .ref 83]) 3 rfl ?_
  refine db_RpuI (pc' := 16) (lv1 := [(0, .ref 83), (1, .ref 208)]) rfl rfl rfl rfl rfl rfl (by decide) rfl rfl fun s2 => ?_
  refine db_Rgo (pc' := 21) (lv' := [(0, .ref 83), (1, .ref 208)]) (st' := [.int (s2.1 208 2), .ref 83]) 3 rfl ?_
  refine db_RpuI (pc' := 24) (lv1 := [(0, .ref 83), (1, .ref 208)]) rfl rfl rfl rfl rfl rfl (by decide) rfl rfl fun s3 => ?_
  refine db_Rgo (pc' := 32) (lv' := [(0, .ref 83), (1, .ref 208)]) (st' := [.ref 84, .ref 209]) 4 rfl ?_
  refine db_RcV (mr' := dbm_84) (as := [.ref 209, .ref 84]) (rest := []) (pc' := 35) (lv1 := [(0, .ref 83), (1, .ref 208)]) rfl rfl rfl rfl rfl (db_f84_ok) fun s5 => ?_
  exact db_Rret (lv1 := [(0, .ref 83), (1, .ref 208)]) rfl rfl rfl rfl
noncomputable def db_f88_b22 (s : db_S) : Option (Int32 × db_S) :=
  (db_bd (db_f37 s (5 : Int32)) fun q1 s2 => (some (q1, s2)))
set_option maxRecDepth 100000 in
theorem db_f88_b22_ok {X : db_X} {d : Nat}  {s : db_S} : db_Rf X (d + 7) dbm_88 22 [(0, .ref 4)] [] s db_zI (db_f88_b22 s ) := by
  unfold db_f88_b22
  refine db_Rgo (pc' := 24) (lv' := [(0, .ref 4)]) (st' := [.int (5 : Int32), .ref 4]) 2 rfl ?_
  refine db_RcdI (mr' := dbm_37) (as := [.ref 4, .int (5 : Int32)]) (rest := []) (pc' := 27) (lv1 := [(0, .ref 4)]) rfl rfl rfl rfl rfl (db_f37_ok) fun q1 s2 => ?_
  exact db_Rret (lv1 := [(0, .ref 4)]) rfl rfl rfl rfl
/-- DreamBook.nights(I)I -/
noncomputable def db_f88 (s : db_S) (v1 : Int32) : Option (Int32 × db_S) :=
  ((db_f27 s v1 (0 : Int32) (s.1 13 1)).bind fun q1 => (cond q1 (cond (db_cnd .le v1 (300 : Int32)) (db_bd (db_f89 s v1) fun q3 s4 => ((db_pI s4 13 1 (0 : Int32)).bind fun s5 => (cond q3 ((db_f97_83_208 s5).bind fun s7 => (db_bd (db_f87 s7 (s7.1 83 1)) fun q8 s9 => (some (q8, s9)))) (db_bd (db_f37 s5 (10 : Int32)) fun q10 s11 => (some (q10, s11)))))) (db_f88_b22 s )) (db_f88_b22 s )))
set_option maxRecDepth 100000 in
theorem db_f88_ok {X : db_X} {d : Nat} {s : db_S} {v1 : Int32} : db_Rf X (d + 7) dbm_88 0 (lv_args 0 [.ref 4, .int v1]) [] s db_zI (db_f88 s v1) := by
  show db_Rf _ _ _ 0 [(0, .ref 4), (1, .int v1)] [] _ _ _
  unfold db_f88
  refine db_Rgo (pc' := 9) (lv' := [(0, .ref 4), (1, .int v1)]) (st' := [.int (s.1 13 1), .int (0 : Int32), .int v1]) 5 rfl ?_
  refine db_RcyB (mr' := dbm_27) (as := [.int v1, .int (0 : Int32), .int (s.1 13 1)]) (rest := []) (pc' := 12) (lv1 := [(0, .ref 4), (1, .int v1)]) rfl rfl rfl rfl rfl (db_f27_ok) fun q1 => ?_
  refine db_RifBe (pc' := 15) (tg := 22) (lv1 := [(0, .ref 4), (1, .int v1)]) rfl rfl rfl rfl ?_ ?_
  · refine db_Rn (lv1 := [(0, .ref 4)]) rfl rfl rfl ?_
    exact db_f88_b22_ok
  refine db_Rgo (pc' := 19) (lv' := [(0, .ref 4), (1, .int v1)]) (st' := [.int (300 : Int32), .int v1]) 2 rfl ?_
  refine db_Ric (pc' := 22) (tg := 28) (lv1 := [(0, .ref 4), (1, .int v1)]) rfl rfl rfl rfl ?_ ?_
  · refine db_Rgo (pc' := 33) (lv' := [(0, .ref 4), (1, .int v1)]) (st' := [.int v1, .ref 207]) 3 rfl ?_
    refine db_RcdB (mr' := dbm_89) (as := [.ref 207, .int v1]) (rest := []) (pc' := 36) (lv1 := [(0, .ref 4), (1, .int v1)]) rfl rfl rfl rfl rfl (db_f89_ok) fun q3 s4 => ?_
    refine db_Rgo (pc' := 42) (lv' := [(2, .int (db_i q3)), (0, .ref 4), (1, .int v1)]) (st' := [.int (0 : Int32), .ref 13]) 4 rfl ?_
    refine db_RpuI (pc' := 45) (lv1 := [(2, .int (db_i q3)), (0, .ref 4), (1, .int v1)]) rfl rfl rfl rfl rfl rfl (by decide) rfl rfl fun s5 => ?_
    refine db_Rgo (pc' := 46) (lv' := [(2, .int (db_i q3)), (0, .ref 4), (1, .int v1)]) (st' := [.int (db_i q3)]) 1 rfl ?_
    refine db_RifBn (pc' := 49) (tg := 56) (lv1 := [(2, .int (db_i q3)), (0, .ref 4), (1, .int v1)]) rfl rfl rfl rfl ?_ ?_
    · refine db_Rgo (pc' := 67) (lv' := [(0, .ref 4)]) (st' := [.ref 208, .ref 83]) 5 rfl ?_
      refine db_RcV (mr' := dbm_97) (as := [.ref 83, .ref 208]) (rest := []) (pc' := 70) (lv1 := [(0, .ref 4)]) rfl rfl rfl rfl rfl (db_f97_83_208_ok) fun s7 => ?_
      refine db_Rgo (pc' := 78) (lv' := [(0, .ref 4)]) (st' := [.int (s7.1 83 1), .ref 4]) 4 rfl ?_
      refine db_RcdI (mr' := dbm_87) (as := [.ref 4, .int (s7.1 83 1)]) (rest := []) (pc' := 81) (lv1 := [(0, .ref 4)]) rfl rfl rfl rfl rfl (db_f87_ok) fun q8 s9 => ?_
      exact db_Rret (lv1 := [(0, .ref 4)]) rfl rfl rfl rfl
    refine db_Rgo (pc' := 52) (lv' := [(2, .int (db_i q3)), (0, .ref 4), (1, .int v1)]) (st' := [.int (10 : Int32), .ref 4]) 2 rfl ?_
    refine db_RcdI (mr' := dbm_37) (as := [.ref 4, .int (10 : Int32)]) (rest := []) (pc' := 55) (lv1 := [(2, .int (db_i q3)), (0, .ref 4), (1, .int v1)]) rfl rfl rfl rfl rfl (db_f37_ok) fun q10 s11 => ?_
    exact db_Rret (lv1 := [(2, .int (db_i q3)), (0, .ref 4), (1, .int v1)]) rfl rfl rfl rfl
  refine db_Rn (lv1 := [(0, .ref 4)]) rfl rfl rfl ?_
  exact db_f88_b22_ok
noncomputable def db_f279_b121 (s : db_S) (v1 : Int32) (t1 : Int32) : Option db_S :=
  ((db_f264 s t1).bind fun s2 => (db_bd (db_f267 s2 (9999 : Int32)) fun q3 s4 => ((db_wI s4 674 (v1 + (2 : Int32)) q3).bind fun s5 => (some s5))))
set_option maxRecDepth 100000 in
theorem db_f279_b121_ok {X : db_X} {d : Nat}  {s : db_S} {v1 : Int32} {t1 : Int32} : db_Rf X (d + 6) dbm_279 121 [(0, .ref 669), (1, .int v1)] [.int t1, .ref 669] s db_zV (db_f279_b121 s v1 t1) := by
  unfold db_f279_b121
  refine db_RcV (mr' := dbm_264) (as := [.ref 669, .int t1]) (rest := []) (pc' := 124) (lv1 := [(0, .ref 669), (1, .int v1)]) rfl rfl rfl rfl rfl (db_f264_ok) fun s2 => ?_
  refine db_Rgo (pc' := 135) (lv' := [(0, .ref 669), (1, .int v1)]) (st' := [.int (9999 : Int32), .ref 669, .int (v1 + (2 : Int32)), .ref 674]) 7 rfl ?_
  refine db_RcdI (mr' := dbm_267) (as := [.ref 669, .int (9999 : Int32)]) (rest := [.int (v1 + (2 : Int32)), .ref 674]) (pc' := 138) (lv1 := [(0, .ref 669), (1, .int v1)]) rfl rfl rfl rfl rfl (db_f267_ok) fun q3 s4 => ?_
  refine db_RstI (pc' := 139) (lv1 := [(0, .ref 669), (1, .int v1)]) rfl rfl rfl fun s5 => ?_
  exact db_Rret (lv1 := [(0, .ref 669), (1, .int v1)]) rfl rfl rfl rfl
noncomputable def db_f279_b116 (s : db_S) (v1 : Int32) : Option db_S :=
  (db_f279_b121 s v1 (1 : Int32))
set_option maxRecDepth 100000 in
theorem db_f279_b116_ok {X : db_X} {d : Nat}  {s : db_S} {v1 : Int32} : db_Rf X (d + 6) dbm_279 116 [(0, .ref 669), (1, .int v1)] [.ref 669] s db_zV (db_f279_b116 s v1) := by
  unfold db_f279_b116
  refine db_Rgo (pc' := 121) (lv' := [(0, .ref 669), (1, .int v1)]) (st' := [.int (1 : Int32), .ref 669]) 2 rfl ?_
  exact db_f279_b121_ok
noncomputable def db_f279_b87 (s : db_S) (v1 : Int32) (t1 : Int32) (t2 : Int32) : Option db_S :=
  ((db_wI s 674 t1 t2).bind fun s1 => ((db_f273 s1 (60 : Int32)).bind fun q2 => (cond q2 (db_f279_b116 s1 v1) ((db_f273 s1 (62 : Int32)).bind fun q4 => (cond q4 (db_f279_b116 s1 v1) ((db_f273 s1 (61 : Int32)).bind fun q6 => (cond q6 (db_f279_b116 s1 v1) (db_f279_b121 s1 v1 (0 : Int32)))))))))
set_option maxRecDepth 100000 in
theorem db_f279_b87_ok {X : db_X} {d : Nat}  {s : db_S} {v1 : Int32} {t1 : Int32} {t2 : Int32} : db_Rf X (d + 6) dbm_279 87 [(0, .ref 669), (1, .int v1)] [.int t2, .int t1, .ref 674] s db_zV (db_f279_b87 s v1 t1 t2) := by
  unfold db_f279_b87
  refine db_RstI (pc' := 88) (lv1 := [(0, .ref 669), (1, .int v1)]) rfl rfl rfl fun s1 => ?_
  refine db_Rgo (pc' := 92) (lv' := [(0, .ref 669), (1, .int v1)]) (st' := [.int (60 : Int32), .ref 669, .ref 669]) 3 rfl ?_
  refine db_RcyB (mr' := dbm_273) (as := [.ref 669, .int (60 : Int32)]) (rest := [.ref 669]) (pc' := 95) (lv1 := [(0, .ref 669), (1, .int v1)]) rfl rfl rfl rfl rfl (db_f273_ok) fun q2 => ?_
  refine db_RifBn (pc' := 98) (tg := 116) (lv1 := [(0, .ref 669), (1, .int v1)]) rfl rfl rfl rfl ?_ ?_
  · exact db_f279_b116_ok
  refine db_Rgo (pc' := 101) (lv' := [(0, .ref 669), (1, .int v1)]) (st' := [.int (62 : Int32), .ref 669, .ref 669]) 2 rfl ?_
  refine db_RcyB (mr' := dbm_273) (as := [.ref 669, .int (62 : Int32)]) (rest := [.ref 669]) (pc' := 104) (lv1 := [(0, .ref 669), (1, .int v1)]) rfl rfl rfl rfl rfl (db_f273_ok) fun q4 => ?_
  refine db_RifBn (pc' := 107) (tg := 116) (lv1 := [(0, .ref 669), (1, .int v1)]) rfl rfl rfl rfl ?_ ?_
  · exact db_f279_b116_ok
  refine db_Rgo (pc' := 110) (lv' := [(0, .ref 669), (1, .int v1)]) (st' := [.int (61 : Int32), .ref 669, .ref 669]) 2 rfl ?_
  refine db_RcyB (mr' := dbm_273) (as := [.ref 669, .int (61 : Int32)]) (rest := [.ref 669]) (pc' := 113) (lv1 := [(0, .ref 669), (1, .int v1)]) rfl rfl rfl rfl rfl (db_f273_ok) fun q6 => ?_
  refine db_RifBe (pc' := 116) (tg := 120) (lv1 := [(0, .ref 669), (1, .int v1)]) rfl rfl rfl rfl ?_ ?_
  · refine db_Rgo (pc' := 121) (lv' := [(0, .ref 669), (1, .int v1)]) (st' := [.int (0 : Int32), .ref 669]) 1 rfl ?_
    exact db_f279_b121_ok
  exact db_f279_b116_ok
noncomputable def db_f279_b46 (s : db_S) (v1 : Int32) (v2 : Int32) (t1 : Int32) (t3 : Int32) (t4 : Int32) : Option db_S :=
  (db_bd (db_f265 s t3 t4) fun q1 s2 => ((db_wI s2 674 t1 q1).bind fun s3 => (cond (db_cnd .gt (s3.1 669 12) 0) (some s3) (cond (db_cnd .ne v2 (1 : Int32)) (cond (db_cnd .ne (s3.1 669 14) (3 : Int32)) (db_f279_b87 s3 v1 (v1 + (7 : Int32)) (0 : Int32)) (db_f279_b87 s3 v1 (v1 + (7 : Int32)) (s3.1 669 17))) (some s3)))))
set_option maxRecDepth 100000 in
theorem db_f279_b46_ok {X : db_X} {d : Nat}  {s : db_S} {v1 : Int32} {v2 : Int32} {t1 : Int32} {t3 : Int32} {t4 : Int32} : db_Rf X (d + 6) dbm_279 46 [(0, .ref 669), (1, .int v1), (2, .int v2)] [.int t4, .int t3, .ref 669, .int t1, .ref 674] s db_zV (db_f279_b46 s v1 v2 t1 t3 t4) := by
  unfold db_f279_b46
  refine db_RcdI (mr' := dbm_265) (as := [.ref 669, .int t3, .int t4]) (rest := [.int t1, .ref 674]) (pc' := 49) (lv1 := [(0, .ref 669), (1, .int v1), (2, .int v2)]) rfl rfl rfl rfl rfl (db_f265_ok) fun q1 s2 => ?_
  refine db_RstI (pc' := 50) (lv1 := [(0, .ref 669), (1, .int v1), (2, .int v2)]) rfl rfl rfl fun s3 => ?_
  refine db_Rgo (pc' := 54) (lv' := [(0, .ref 669), (1, .int v1), (2, .int v2)]) (st' := [.int (s3.1 669 12)]) 2 rfl ?_
  refine db_Rif (pc' := 57) (tg := 62) (lv1 := [(0, .ref 669), (1, .int v1), (2, .int v2)]) rfl rfl rfl rfl ?_ ?_
  · exact db_Rret (lv1 := []) rfl rfl rfl rfl
  refine db_Rgo (pc' := 59) (lv' := [(0, .ref 669), (1, .int v1), (2, .int v2)]) (st' := [.int (1 : Int32), .int v2]) 2 rfl ?_
  refine db_Ric (pc' := 62) (tg := 63) (lv1 := [(0, .ref 669), (1, .int v1), (2, .int v2)]) rfl rfl rfl rfl ?_ ?_
  · refine db_Rgo (pc' := 76) (lv' := [(0, .ref 669), (1, .int v1)]) (st' := [.int (3 : Int32), .int (s3.1 669 14), .int (v1 + (7 : Int32)), .ref 674]) 8 rfl ?_
    refine db_Ric (pc' := 79) (tg := 86) (lv1 := [(0, .ref 669), (1, .int v1)]) rfl rfl rfl rfl ?_ ?_
    · refine db_Rgo (pc' := 87) (lv' := [(0, .ref 669), (1, .int v1)]) (st' := [.int (0 : Int32), .int (v1 + (7 : Int32)), .ref 674]) 1 rfl ?_
      exact db_f279_b87_ok
    refine db_Rgo (pc' := 87) (lv' := [(0, .ref 669), (1, .int v1)]) (st' := [.int (s3.1 669 17), .int (v1 + (7 : Int32)), .ref 674]) 3 rfl ?_
    exact db_f279_b87_ok
  exact db_Rret (lv1 := []) rfl rfl rfl rfl
noncomputable def db_f279_b15 (s : db_S) (v1 : Int32) (v2 : Int32) (t1 : Int32) : Option db_S :=
  ((db_f264 s t1).bind fun s2 => ((db_wI s2 674 (v1 + (6 : Int32)) v2).bind fun s3 => (cond (db_cnd .ne v2 0) (db_f279_b46 s3 v1 v2 (v1 + (1 : Int32)) (0 : Int32) (3 : Int32)) (db_f279_b46 s3 v1 v2 (v1 + (1 : Int32)) (0 : Int32) (1 : Int32)))))
set_option maxRecDepth 100000 in
theorem db_f279_b15_ok {X : db_X} {d : Nat}  {s : db_S} {v1 : Int32} {v2 : Int32} {t1 : Int32} : db_Rf X (d + 6) dbm_279 15 [(0, .ref 669), (1, .int v1), (2, .int v2)] [.int t1, .ref 669] s db_zV (db_f279_b15 s v1 v2 t1) := by
  unfold db_f279_b15
  refine db_RcV (mr' := dbm_264) (as := [.ref 669, .int t1]) (rest := []) (pc' := 18) (lv1 := [(0, .ref 669), (1, .int v1), (2, .int v2)]) rfl rfl rfl rfl rfl (db_f264_ok) fun s2 => ?_
  refine db_Rgo (pc' := 27) (lv' := [(0, .ref 669), (1, .int v1), (2, .int v2)]) (st' := [.int v2, .int (v1 + (6 : Int32)), .ref 674]) 6 rfl ?_
  refine db_RstI (pc' := 28) (lv1 := [(0, .ref 669), (1, .int v1), (2, .int v2)]) rfl rfl rfl fun s3 => ?_
  refine db_Rgo (pc' := 38) (lv' := [(0, .ref 669), (1, .int v1), (2, .int v2)]) (st' := [.int v2, .int (0 : Int32), .ref 669, .int (v1 + (1 : Int32)), .ref 674]) 8 rfl ?_
  refine db_Rif (pc' := 41) (tg := 45) (lv1 := [(0, .ref 669), (1, .int v1), (2, .int v2)]) rfl rfl rfl rfl ?_ ?_
  · refine db_Rgo (pc' := 46) (lv' := [(0, .ref 669), (1, .int v1), (2, .int v2)]) (st' := [.int (3 : Int32), .int (0 : Int32), .ref 669, .int (v1 + (1 : Int32)), .ref 674]) 1 rfl ?_
    exact db_f279_b46_ok
  refine db_Rgo (pc' := 46) (lv' := [(0, .ref 669), (1, .int v1), (2, .int v2)]) (st' := [.int (1 : Int32), .int (0 : Int32), .ref 669, .int (v1 + (1 : Int32)), .ref 674]) 2 rfl ?_
  exact db_f279_b46_ok
/-- DreamBookModel.readTest(I)V -/
noncomputable def db_f279 (s : db_S) (v1 : Int32) : Option db_S :=
  ((db_f255 s).bind fun q1 => (cond (db_cnd .lt q1 0) (db_f279_b15 s v1 q1 (0 : Int32)) (db_f279_b15 s v1 q1 (1 : Int32))))
set_option maxRecDepth 100000 in
theorem db_f279_ok {X : db_X} {d : Nat} {s : db_S} {v1 : Int32} : db_Rf X (d + 6) dbm_279 0 (lv_args 0 [.ref 669, .int v1]) [] s db_zV (db_f279 s v1) := by
  show db_Rf _ _ _ 0 [(0, .ref 669), (1, .int v1)] [] _ _ _
  unfold db_f279
  refine db_Rgo (pc' := 1) (lv' := [(0, .ref 669), (1, .int v1)]) (st' := [.ref 669]) 1 rfl ?_
  refine db_RcyI (mr' := dbm_255) (as := [.ref 669]) (rest := []) (pc' := 4) (lv1 := [(0, .ref 669), (1, .int v1)]) rfl rfl rfl rfl rfl (db_f255_ok) fun q1 => ?_
  refine db_Rgo (pc' := 7) (lv' := [(2, .int q1), (0, .ref 669), (1, .int v1)]) (st' := [.int q1, .ref 669]) 3 rfl ?_
  refine db_Rif (pc' := 10) (tg := 14) (lv1 := [(2, .int q1), (0, .ref 669), (1, .int v1)]) rfl rfl rfl rfl ?_ ?_
  · refine db_Rgo (pc' := 15) (lv' := [(0, .ref 669), (1, .int v1), (2, .int q1)]) (st' := [.int (0 : Int32), .ref 669]) 1 rfl ?_
    exact db_f279_b15_ok
  refine db_Rgo (pc' := 15) (lv' := [(2, .int q1), (0, .ref 669), (1, .int v1)]) (st' := [.int (1 : Int32), .ref 669]) 2 rfl ?_
  refine db_Rn (lv1 := [(0, .ref 669), (1, .int v1), (2, .int q1)]) rfl rfl rfl ?_
  exact db_f279_b15_ok
noncomputable def db_f278_b37 (s : db_S) (v1 : Int32) (t1 : Int32) (t2 : Int32) : Option db_S :=
  ((db_wI s 674 t1 t2).bind fun s1 => ((db_f247 s1).bind fun q2 => ((db_f264 s1 (db_i q2)).bind fun s5 => (db_bd (db_f265 s5 (0 : Int32) (1 : Int32)) fun q6 s7 => ((db_wI s7 674 (v1 + (2 : Int32)) q6).bind fun s8 => ((db_f248 s8).bind fun q9 => (db_bd (db_f270 s8 (db_i q9) (0 : Int32) (2 : Int32)) fun q11 s12 => ((db_wI s12 674 (v1 + (3 : Int32)) q11).bind fun s13 => (some s13)))))))))
set_option maxRecDepth 100000 in
theorem db_f278_b37_ok {X : db_X} {d : Nat}  {s : db_S} {v1 : Int32} {t1 : Int32} {t2 : Int32} : db_Rf X (d + 7) dbm_278 37 [(0, .ref 669), (1, .int v1)] [.int t2, .int t1, .ref 674] s db_zV (db_f278_b37 s v1 t1 t2) := by
  unfold db_f278_b37
  refine db_RstI (pc' := 38) (lv1 := [(0, .ref 669), (1, .int v1)]) rfl rfl rfl fun s1 => ?_
  refine db_Rgo (pc' := 40) (lv' := [(0, .ref 669), (1, .int v1)]) (st' := [.ref 669, .ref 669]) 2 rfl ?_
  refine db_RcyB (mr' := dbm_247) (as := [.ref 669]) (rest := [.ref 669]) (pc' := 43) (lv1 := [(0, .ref 669), (1, .int v1)]) rfl rfl rfl rfl rfl (db_f247_ok) fun q2 => ?_
  refine db_RcV (mr' := dbm_264) (as := [.ref 669, .int (db_i q2)]) (rest := []) (pc' := 46) (lv1 := [(0, .ref 669), (1, .int v1)]) rfl rfl rfl rfl rfl (db_f264_ok) fun s5 => ?_
  refine db_Rgo (pc' := 56) (lv' := [(0, .ref 669), (1, .int v1)]) (st' := [.int (1 : Int32), .int (0 : Int32), .ref 669, .int (v1 + (2 : Int32)), .ref 674]) 8 rfl ?_
  refine db_RcdI (mr' := dbm_265) (as := [.ref 669, .int (0 : Int32), .int (1 : Int32)]) (rest := [.int (v1 + (2 : Int32)), .ref 674]) (pc' := 59) (lv1 := [(0, .ref 669), (1, .int v1)]) rfl rfl rfl rfl rfl (db_f265_ok) fun q6 s7 => ?_
  refine db_RstI (pc' := 60) (lv1 := [(0, .ref 669), (1, .int v1)]) rfl rfl rfl fun s8 => ?_
  refine db_Rgo (pc' := 69) (lv' := [(0, .ref 669), (1, .int v1)]) (st' := [.ref 669, .ref 669, .int (v1 + (3 : Int32)), .ref 674]) 7 rfl ?_
  refine db_RcyB (mr' := dbm_248) (as := [.ref 669]) (rest := [.ref 669, .int (v1 + (3 : Int32)), .ref 674]) (pc' := 72) (lv1 := [(0, .ref 669), (1, .int v1)]) rfl rfl rfl rfl rfl (db_f248_ok) fun q9 => ?_
  refine db_Rgo (pc' := 74) (lv' := [(0, .ref 669), (1, .int v1)]) (st' := [.int (2 : Int32), .int (0 : Int32), .int (db_i q9), .ref 669, .int (v1 + (3 : Int32)), .ref 674]) 2 rfl ?_
  refine db_RcdI (mr' := dbm_270) (as := [.ref 669, .int (db_i q9), .int (0 : Int32), .int (2 : Int32)]) (rest := [.int (v1 + (3 : Int32)), .ref 674]) (pc' := 77) (lv1 := [(0, .ref 669), (1, .int v1)]) rfl rfl rfl rfl rfl (db_f270_ok) fun q11 s12 => ?_
  refine db_RstI (pc' := 78) (lv1 := [(0, .ref 669), (1, .int v1)]) rfl rfl rfl fun s13 => ?_
  refine db_Rgo (pc' := 141) (lv' := [(0, .ref 669), (1, .int v1)]) (st' := []) 1 rfl ?_
  exact db_Rret (lv1 := []) rfl rfl rfl rfl
noncomputable def db_f278_b16 (s : db_S) (v1 : Int32) (v2 : Int32) : Option db_S :=
  (cond (db_cnd .ne v2 0) (db_f278_b37 s v1 (v1 + (1 : Int32)) (-1 : Int32)) (db_bd (db_f265 s (0 : Int32) (4 : Int32)) fun q1 s2 => (db_f278_b37 s2 v1 (v1 + (1 : Int32)) q1)))
set_option maxRecDepth 100000 in
theorem db_f278_b16_ok {X : db_X} {d : Nat}  {s : db_S} {v1 : Int32} {v2 : Int32} : db_Rf X (d + 7) dbm_278 16 [(0, .ref 669), (1, .int v1), (2, .int v2)] [] s db_zV (db_f278_b16 s v1 v2) := by
  unfold db_f278_b16
  refine db_Rgo (pc' := 24) (lv' := [(0, .ref 669), (1, .int v1), (2, .int v2)]) (st' := [.int v2, .int (v1 + (1 : Int32)), .ref 674]) 6 rfl ?_
  refine db_Rif (pc' := 27) (tg := 36) (lv1 := [(0, .ref 669), (1, .int v1), (2, .int v2)]) rfl rfl rfl rfl ?_ ?_
  · refine db_Rgo (pc' := 37) (lv' := [(0, .ref 669), (1, .int v1)]) (st' := [.int (-1 : Int32), .int (v1 + (1 : Int32)), .ref 674]) 1 rfl ?_
    exact db_f278_b37_ok
  refine db_Rgo (pc' := 30) (lv' := [(0, .ref 669), (1, .int v1), (2, .int v2)]) (st' := [.int (4 : Int32), .int (0 : Int32), .ref 669, .int (v1 + (1 : Int32)), .ref 674]) 3 rfl ?_
  refine db_RcdI (mr' := dbm_265) (as := [.ref 669, .int (0 : Int32), .int (4 : Int32)]) (rest := [.int (v1 + (1 : Int32)), .ref 674]) (pc' := 33) (lv1 := [(0, .ref 669), (1, .int v1), (2, .int v2)]) rfl rfl rfl rfl rfl (db_f265_ok) fun q1 s2 => ?_
  refine db_Rgo (pc' := 37) (lv' := [(0, .ref 669), (1, .int v1), (2, .int v2)]) (st' := [.int q1, .int (v1 + (1 : Int32)), .ref 674]) 1 rfl ?_
  refine db_Rn (lv1 := [(0, .ref 669), (1, .int v1)]) rfl rfl rfl ?_
  exact db_f278_b37_ok
noncomputable def db_f278_b91 (s : db_S) (v1 : Int32) : Option db_S :=
  (db_bd (db_f265 s (0 : Int32) (3 : Int32)) fun q1 s2 => ((db_wI s2 674 (v1 + (1 : Int32)) q1).bind fun s3 => (some s3)))
set_option maxRecDepth 100000 in
theorem db_f278_b91_ok {X : db_X} {d : Nat}  {s : db_S} {v1 : Int32} : db_Rf X (d + 7) dbm_278 91 [(0, .ref 669), (1, .int v1)] [] s db_zV (db_f278_b91 s v1) := by
  unfold db_f278_b91
  refine db_Rgo (pc' := 101) (lv' := [(0, .ref 669), (1, .int v1)]) (st' := [.int (3 : Int32), .int (0 : Int32), .ref 669, .int (v1 + (1 : Int32)), .ref 674]) 8 rfl ?_
  refine db_RcdI (mr' := dbm_265) (as := [.ref 669, .int (0 : Int32), .int (3 : Int32)]) (rest := [.int (v1 + (1 : Int32)), .ref 674]) (pc' := 104) (lv1 := [(0, .ref 669), (1, .int v1)]) rfl rfl rfl rfl rfl (db_f265_ok) fun q1 s2 => ?_
  refine db_RstI (pc' := 105) (lv1 := [(0, .ref 669), (1, .int v1)]) rfl rfl rfl fun s3 => ?_
  refine db_Rgo (pc' := 141) (lv' := [(0, .ref 669), (1, .int v1)]) (st' := []) 1 rfl ?_
  exact db_Rret (lv1 := []) rfl rfl rfl rfl
/-- DreamBookModel.readRest(I)V -/
noncomputable def db_f278 (s : db_S) (v1 : Int32) : Option db_S :=
  ((db_rI s 674 v1).bind fun x1 => (cond (db_cnd .eq x1 0) (db_f278_b16 s v1 x1) (cond (db_cnd .ne x1 (1 : Int32)) (cond (db_cnd .eq x1 (2 : Int32)) (db_f278_b91 s v1) (cond (db_cnd .ne x1 (3 : Int32)) (cond (db_cnd .ne x1 (4 : Int32)) (cond (db_cnd .ne x1 (5 : Int32)) (some s) (db_bd (db_f268 s (1 : Int32) (99 : Int32)) fun q2 s3 => ((db_wI s3 674 (v1 + (1 : Int32)) q2).bind fun s4 => (some s4)))) ((db_f279 s v1).bind fun s6 => (some s6))) (db_f278_b91 s v1))) (db_f278_b16 s v1 x1))))
set_option maxRecDepth 100000 in
theorem db_f278_ok {X : db_X} {d : Nat} {s : db_S} {v1 : Int32} : db_Rf X (d + 7) dbm_278 0 (lv_args 0 [.ref 669, .int v1]) [] s db_zV (db_f278 s v1) := by
  show db_Rf _ _ _ 0 [(0, .ref 669), (1, .int v1)] [] _ _ _
  unfold db_f278
  refine db_Rgo (pc' := 5) (lv' := [(0, .ref 669), (1, .int v1)]) (st' := [.int v1, .ref 674]) 3 rfl ?_
  refine db_RldI (pc' := 6) (lv1 := [(0, .ref 669), (1, .int v1)]) rfl rfl rfl fun x1 => ?_
  refine db_Rgo (pc' := 8) (lv' := [(2, .int x1), (0, .ref 669), (1, .int v1)]) (st' := [.int x1]) 2 rfl ?_
  refine db_Rif (pc' := 11) (tg := 16) (lv1 := [(2, .int x1), (0, .ref 669), (1, .int v1)]) rfl rfl rfl rfl ?_ ?_
  · refine db_Rn (lv1 := [(0, .ref 669), (1, .int v1), (2, .int x1)]) rfl rfl rfl ?_
    exact db_f278_b16_ok
  refine db_Rgo (pc' := 13) (lv' := [(2, .int x1), (0, .ref 669), (1, .int v1)]) (st' := [.int (1 : Int32), .int x1]) 2 rfl ?_
  refine db_Ric (pc' := 16) (tg := 81) (lv1 := [(2, .int x1), (0, .ref 669), (1, .int v1)]) rfl rfl rfl rfl ?_ ?_
  · refine db_Rgo (pc' := 83) (lv' := [(0, .ref 669), (1, .int v1), (2, .int x1)]) (st' := [.int (2 : Int32), .int x1]) 2 rfl ?_
    refine db_Ric (pc' := 86) (tg := 91) (lv1 := [(0, .ref 669), (1, .int v1), (2, .int x1)]) rfl rfl rfl rfl ?_ ?_
    · refine db_Rn (lv1 := [(0, .ref 669), (1, .int v1)]) rfl rfl rfl ?_
      exact db_f278_b91_ok
    refine db_Rgo (pc' := 88) (lv' := [(0, .ref 669), (1, .int v1), (2, .int x1)]) (st' := [.int (3 : Int32), .int x1]) 2 rfl ?_
    refine db_Ric (pc' := 91) (tg := 108) (lv1 := [(0, .ref 669), (1, .int v1), (2, .int x1)]) rfl rfl rfl rfl ?_ ?_
    · refine db_Rgo (pc' := 110) (lv' := [(0, .ref 669), (1, .int v1), (2, .int x1)]) (st' := [.int (4 : Int32), .int x1]) 2 rfl ?_
      refine db_Ric (pc' := 113) (tg := 121) (lv1 := [(0, .ref 669), (1, .int v1), (2, .int x1)]) rfl rfl rfl rfl ?_ ?_
      · refine db_Rgo (pc' := 123) (lv' := [(0, .ref 669), (1, .int v1), (2, .int x1)]) (st' := [.int (5 : Int32), .int x1]) 2 rfl ?_
        refine db_Ric (pc' := 126) (tg := 141) (lv1 := [(0, .ref 669), (1, .int v1), (2, .int x1)]) rfl rfl rfl rfl ?_ ?_
        · exact db_Rret (lv1 := []) rfl rfl rfl rfl
        refine db_Rgo (pc' := 137) (lv' := [(0, .ref 669), (1, .int v1), (2, .int x1)]) (st' := [.int (99 : Int32), .int (1 : Int32), .ref 669, .int (v1 + (1 : Int32)), .ref 674]) 8 rfl ?_
        refine db_RcdI (mr' := dbm_268) (as := [.ref 669, .int (1 : Int32), .int (99 : Int32)]) (rest := [.int (v1 + (1 : Int32)), .ref 674]) (pc' := 140) (lv1 := [(0, .ref 669), (1, .int v1), (2, .int x1)]) rfl rfl rfl rfl rfl (db_f268_ok) fun q2 s3 => ?_
        refine db_RstI (pc' := 141) (lv1 := [(0, .ref 669), (1, .int v1), (2, .int x1)]) rfl rfl rfl fun s4 => ?_
        exact db_Rret (lv1 := []) rfl rfl rfl rfl
      refine db_Rgo (pc' := 115) (lv' := [(0, .ref 669), (1, .int v1), (2, .int x1)]) (st' := [.int v1, .ref 669]) 2 rfl ?_
      refine db_RcV (mr' := dbm_279) (as := [.ref 669, .int v1]) (rest := []) (pc' := 118) (lv1 := [(0, .ref 669), (1, .int v1), (2, .int x1)]) rfl rfl rfl rfl rfl (db_f279_ok) fun s6 => ?_
      refine db_Rgo (pc' := 141) (lv' := [(0, .ref 669), (1, .int v1), (2, .int x1)]) (st' := []) 1 rfl ?_
      exact db_Rret (lv1 := []) rfl rfl rfl rfl
    refine db_Rn (lv1 := [(0, .ref 669), (1, .int v1)]) rfl rfl rfl ?_
    exact db_f278_b91_ok
  refine db_Rn (lv1 := [(0, .ref 669), (1, .int v1), (2, .int x1)]) rfl rfl rfl ?_
  exact db_f278_b16_ok
