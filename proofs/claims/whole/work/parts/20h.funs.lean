noncomputable def db_f140_b53 (h14 : db_S → Int32 → Int32 → Int32 → Option (Int32 × db_S)) (s : db_S) (v1 : Int32) (v4 : Int32) (v5 : Int32) : Option (Int32 × db_S) :=
  (h14 s v1 v4 (v5 + (1 : Int32)))
set_option maxRecDepth 100000 in
theorem db_f140_b53_ok {X : db_X} {d : Nat}  {h14 : db_S → Int32 → Int32 → Int32 → Option (Int32 × db_S)} {s : db_S} {v1 : Int32} {v4 : Int32} {v5 : Int32} (zh14 : ∀ (s' : db_S) (v1 : Int32) (v4 : Int32) (v5 : Int32) , db_Rf X (d + 3) dbm_140 14 [(0, .ref 271), (1, .int v1), (4, .int v4), (5, .int v5)] [] s' db_zI (h14 s' v1 v4 v5)) : db_Rf X (d + 3) dbm_140 53 [(0, .ref 271), (1, .int v1), (4, .int v4), (5, .int v5)] [] s db_zI (db_f140_b53 h14 s v1 v4 v5) := by
  unfold db_f140_b53
  refine db_Rgo (pc' := 14) (lv' := [(5, .int (v5 + (1 : Int32))), (0, .ref 271), (1, .int v1), (4, .int v4)]) (st' := []) 2 rfl ?_
  refine db_Rn (lv1 := [(0, .ref 271), (1, .int v1), (4, .int v4), (5, .int (v5 + (1 : Int32)))]) rfl rfl rfl ?_
  exact zh14 _ _ _ _
noncomputable def db_f140_b14 : Nat → db_S → Int32 → Int32 → Int32 → Option (Int32 × db_S)
  | 0, _, _, _, _ => none
  | n + 1, s, v1, v4, v5 =>
    ((db_rI s 59 v1).bind fun x1 => (cond (db_cnd .ge v5 x1) (some (v4, s)) ((db_rI s 273 v5).bind fun x2 => (cond (db_cnd .eq x2 (-1 : Int32)) (db_f140_b53 (db_f140_b14 n) s v1 v4 v5) ((db_rI s 273 v5).bind fun x3 => (db_f140_b53 (db_f140_b14 n) s v1 (v4 ||| ((1 : Int32) <<< (x3 &&& 31))) v5))))))
set_option maxRecDepth 100000 in
theorem db_f140_b14_ok {X : db_X} {d : Nat}  (n : Nat) : ∀ (s : db_S) (v1 : Int32) (v4 : Int32) (v5 : Int32), db_Rf X (d + 3) dbm_140 14 [(0, .ref 271), (1, .int v1), (4, .int v4), (5, .int v5)] [] s db_zI (db_f140_b14 n s v1 v4 v5) := by
  induction n with
  | zero => intros; exact db_Rnone
  | succ n ih =>
    intro s v1 v4 v5
    unfold db_f140_b14
    refine db_Rgo (pc' := 24) (lv' := [(0, .ref 271), (1, .int v1), (4, .int v4), (5, .int v5)]) (st' := [.int v1, .ref 59, .int v5]) 5 rfl ?_
    refine db_RldI (pc' := 25) (lv1 := [(0, .ref 271), (1, .int v1), (4, .int v4), (5, .int v5)]) rfl rfl rfl fun x1 => ?_
    refine db_Ric (pc' := 28) (tg := 59) (lv1 := [(0, .ref 271), (1, .int v1), (4, .int v4), (5, .int v5)]) rfl rfl rfl rfl ?_ ?_
    · refine db_Rgo (pc' := 61) (lv' := [(4, .int v4)]) (st' := [.int v4]) 1 rfl ?_
      exact db_Rret (lv1 := [(4, .int v4)]) rfl rfl rfl rfl
    refine db_Rgo (pc' := 34) (lv' := [(0, .ref 271), (1, .int v1), (4, .int v4), (5, .int v5)]) (st' := [.int v5, .ref 273]) 3 rfl ?_
    refine db_RldI (pc' := 35) (lv1 := [(0, .ref 271), (1, .int v1), (4, .int v4), (5, .int v5)]) rfl rfl rfl fun x2 => ?_
    refine db_Rgo (pc' := 36) (lv' := [(0, .ref 271), (1, .int v1), (4, .int v4), (5, .int v5)]) (st' := [.int (-1 : Int32), .int x2]) 1 rfl ?_
    refine db_Ric (pc' := 39) (tg := 53) (lv1 := [(0, .ref 271), (1, .int v1), (4, .int v4), (5, .int v5)]) rfl rfl rfl rfl ?_ ?_
    · exact db_f140_b53_ok ih
    refine db_Rgo (pc' := 48) (lv' := [(0, .ref 271), (1, .int v1), (4, .int v4), (5, .int v5)]) (st' := [.int v5, .ref 273, .int (1 : Int32), .int v4]) 5 rfl ?_
    refine db_RldI (pc' := 49) (lv1 := [(0, .ref 271), (1, .int v1), (4, .int v4), (5, .int v5)]) rfl rfl rfl fun x3 => ?_
    refine db_Rgo (pc' := 53) (lv' := [(4, .int (v4 ||| ((1 : Int32) <<< (x3 &&& 31)))), (0, .ref 271), (1, .int v1), (5, .int v5)]) (st' := []) 3 rfl ?_
    refine db_Rn (lv1 := [(0, .ref 271), (1, .int v1), (4, .int (v4 ||| ((1 : Int32) <<< (x3 &&& 31)))), (5, .int v5)]) rfl rfl rfl ?_
    exact db_f140_b53_ok ih
/-- DreamBook$Reader.countedIn(III)I -/
noncomputable def db_f140 (s : db_S) (v1 : Int32) (v2 : Int32) (v3 : Int32) : Option (Int32 × db_S) :=
  (db_bd (db_f127 s v1 v2 v3) fun q1 s2 => (db_f140_b14 db_FU s2 v1 (0 : Int32) (0 : Int32)))
set_option maxRecDepth 100000 in
theorem db_f140_ok {X : db_X} {d : Nat} {s : db_S} {v1 : Int32} {v2 : Int32} {v3 : Int32} : db_Rf X (d + 3) dbm_140 0 (lv_args 0 [.ref 271, .int v1, .int v2, .int v3]) [] s db_zI (db_f140 s v1 v2 v3) := by
  show db_Rf _ _ _ 0 [(0, .ref 271), (1, .int v1), (2, .int v2), (3, .int v3)] [] _ _ _
  unfold db_f140
  refine db_Rgo (pc' := 4) (lv' := [(0, .ref 271), (1, .int v1), (2, .int v2), (3, .int v3)]) (st' := [.int v3, .int v2, .int v1, .ref 271]) 4 rfl ?_
  refine db_RcdI (mr' := dbm_127) (as := [.ref 271, .int v1, .int v2, .int v3]) (rest := []) (pc' := 7) (lv1 := [(0, .ref 271), (1, .int v1), (2, .int v2), (3, .int v3)]) rfl rfl rfl rfl rfl (db_f127_ok) fun q1 s2 => ?_
  refine db_Rgo (pc' := 14) (lv' := [(5, .int (0 : Int32)), (4, .int (0 : Int32)), (0, .ref 271), (1, .int v1), (2, .int v2), (3, .int v3)]) (st' := []) 5 rfl ?_
  refine db_Rn (lv1 := [(0, .ref 271), (1, .int v1), (4, .int (0 : Int32)), (5, .int (0 : Int32))]) rfl rfl rfl ?_
  exact db_f140_b14_ok db_FU _ _ _ _
/-- DreamBook.counting(III)I -/
noncomputable def db_f139 (s : db_S) (v1 : Int32) (v2 : Int32) (v3 : Int32) : Option (Int32 × db_S) :=
  ((db_f125 s v1 v2 v3).bind fun q1 => (cond q1 (db_bd (db_f140 s v1 v2 v3) fun q3 s4 => (db_bd (db_f87 s4 q3) fun q5 s6 => (some (q5, s6)))) (db_bd (db_f37 s (2 : Int32)) fun q7 s8 => (some (q7, s8)))))
set_option maxRecDepth 100000 in
theorem db_f139_ok {X : db_X} {d : Nat} {s : db_S} {v1 : Int32} {v2 : Int32} {v3 : Int32} : db_Rf X (d + 4) dbm_139 0 (lv_args 0 [.ref 4, .int v1, .int v2, .int v3]) [] s db_zI (db_f139 s v1 v2 v3) := by
  show db_Rf _ _ _ 0 [(0, .ref 4), (1, .int v1), (2, .int v2), (3, .int v3)] [] _ _ _
  unfold db_f139
  refine db_Rgo (pc' := 4) (lv' := [(0, .ref 4), (1, .int v1), (2, .int v2), (3, .int v3)]) (st' := [.int v3, .int v2, .int v1, .ref 4]) 4 rfl ?_
  refine db_RcyB (mr' := dbm_125) (as := [.ref 4, .int v1, .int v2, .int v3]) (rest := []) (pc' := 7) (lv1 := [(0, .ref 4), (1, .int v1), (2, .int v2), (3, .int v3)]) rfl rfl rfl rfl rfl (db_f125_ok) fun q1 => ?_
  refine db_RifBn (pc' := 10) (tg := 16) (lv1 := [(0, .ref 4), (1, .int v1), (2, .int v2), (3, .int v3)]) rfl rfl rfl rfl ?_ ?_
  · refine db_Rgo (pc' := 24) (lv' := [(0, .ref 4), (1, .int v1), (2, .int v2), (3, .int v3)]) (st' := [.int v3, .int v2, .int v1, .ref 271, .ref 4]) 6 rfl ?_
    refine db_RcdI (mr' := dbm_140) (as := [.ref 271, .int v1, .int v2, .int v3]) (rest := [.ref 4]) (pc' := 27) (lv1 := [(0, .ref 4), (1, .int v1), (2, .int v2), (3, .int v3)]) rfl rfl rfl rfl rfl (db_f140_ok) fun q3 s4 => ?_
    refine db_RcdI (mr' := dbm_87) (as := [.ref 4, .int q3]) (rest := []) (pc' := 30) (lv1 := [(0, .ref 4), (1, .int v1), (2, .int v2), (3, .int v3)]) rfl rfl rfl rfl rfl (db_f87_ok) fun q5 s6 => ?_
    exact db_Rret (lv1 := [(0, .ref 4), (1, .int v1), (2, .int v2), (3, .int v3)]) rfl rfl rfl rfl
  refine db_Rgo (pc' := 12) (lv' := [(0, .ref 4), (1, .int v1), (2, .int v2), (3, .int v3)]) (st' := [.int (2 : Int32), .ref 4]) 2 rfl ?_
  refine db_RcdI (mr' := dbm_37) (as := [.ref 4, .int (2 : Int32)]) (rest := []) (pc' := 15) (lv1 := [(0, .ref 4), (1, .int v1), (2, .int v2), (3, .int v3)]) rfl rfl rfl rfl rfl (db_f37_ok) fun q7 s8 => ?_
  exact db_Rret (lv1 := [(0, .ref 4), (1, .int v1), (2, .int v2), (3, .int v3)]) rfl rfl rfl rfl
noncomputable def db_f329_b34 (h4 : Int32 → Int32 → Option Int32) (s : db_S) (v2 : Int32) (t0 : Int32) (t1 : Int32) : Option Int32 :=
  (h4 (t0 ||| t1) (v2 + (1 : Int32)))
set_option maxRecDepth 100000 in
theorem db_f329_b34_ok {X : db_X} {d : Nat}  {h4 : Int32 → Int32 → Option Int32} {s : db_S} {v2 : Int32} {t0 : Int32} {t1 : Int32} (zh4 : ∀ (v1 : Int32) (v2 : Int32) , db_Rf X (d + 0) dbm_329 4 [(0, .ref 669), (1, .int v1), (2, .int v2)] [] s (db_yI s) (h4 v1 v2)) : db_Rf X (d + 0) dbm_329 34 [(0, .ref 669), (2, .int v2)] [.int t1, .int t0] s (db_yI s) (db_f329_b34 h4 s v2 t0 t1) := by
  unfold db_f329_b34
  refine db_Rgo (pc' := 4) (lv' := [(2, .int (v2 + (1 : Int32))), (1, .int (t0 ||| t1)), (0, .ref 669)]) (st' := []) 4 rfl ?_
  refine db_Rn (lv1 := [(0, .ref 669), (1, .int (t0 ||| t1)), (2, .int (v2 + (1 : Int32)))]) rfl rfl rfl ?_
  exact zh4 _ _
noncomputable def db_f329_b4 (s : db_S) : Nat → Int32 → Int32 → Option Int32
  | 0, _, _ => none
  | n + 1, v1, v2 =>
    (cond (db_cnd .ge v2 (s.1 669 29)) (some v1) ((db_rI s 679 v2).bind fun x1 => (cond (db_cnd .ge x1 0) ((db_rI s 679 v2).bind fun x2 => (db_f329_b34 (db_f329_b4 s n) s v2 v1 ((1 : Int32) <<< (x2 &&& 31)))) (db_f329_b34 (db_f329_b4 s n) s v2 v1 (0 : Int32)))))
set_option maxRecDepth 100000 in
theorem db_f329_b4_ok {X : db_X} {d : Nat} {s : db_S} (n : Nat) : ∀ (v1 : Int32) (v2 : Int32), db_Rf X (d + 0) dbm_329 4 [(0, .ref 669), (1, .int v1), (2, .int v2)] [] s (db_yI s) (db_f329_b4 s n v1 v2) := by
  induction n with
  | zero => intros; exact db_Rnone
  | succ n ih =>
    intro v1 v2
    unfold db_f329_b4
    refine db_Rgo (pc' := 9) (lv' := [(0, .ref 669), (1, .int v1), (2, .int v2)]) (st' := [.int (s.1 669 29), .int v2]) 3 rfl ?_
    refine db_Ric (pc' := 12) (tg := 42) (lv1 := [(0, .ref 669), (1, .int v1), (2, .int v2)]) rfl rfl rfl rfl ?_ ?_
    · refine db_Rgo (pc' := 43) (lv' := [(1, .int v1)]) (st' := [.int v1]) 1 rfl ?_
      exact db_Rret (lv1 := [(1, .int v1)]) rfl rfl rfl rfl
    refine db_Rgo (pc' := 18) (lv' := [(0, .ref 669), (1, .int v1), (2, .int v2)]) (st' := [.int v2, .ref 679, .int v1]) 4 rfl ?_
    refine db_RldI (pc' := 19) (lv1 := [(0, .ref 669), (1, .int v1), (2, .int v2)]) rfl rfl rfl fun x1 => ?_
    refine db_Rif (pc' := 22) (tg := 26) (lv1 := [(0, .ref 669), (1, .int v1), (2, .int v2)]) rfl rfl rfl rfl ?_ ?_
    · refine db_Rgo (pc' := 32) (lv' := [(0, .ref 669), (2, .int v2)]) (st' := [.int v2, .ref 679, .int (1 : Int32), .int v1]) 4 rfl ?_
      refine db_RldI (pc' := 33) (lv1 := [(0, .ref 669), (2, .int v2)]) rfl rfl rfl fun x2 => ?_
      refine db_Rgo (pc' := 34) (lv' := [(0, .ref 669), (2, .int v2)]) (st' := [.int ((1 : Int32) <<< (x2 &&& 31)), .int v1]) 1 rfl ?_
      exact db_f329_b34_ok ih
    refine db_Rgo (pc' := 34) (lv' := [(0, .ref 669), (1, .int v1), (2, .int v2)]) (st' := [.int (0 : Int32), .int v1]) 2 rfl ?_
    refine db_Rn (lv1 := [(0, .ref 669), (2, .int v2)]) rfl rfl rfl ?_
    exact db_f329_b34_ok ih
/-- DreamBookModel.countedSet()I -/
noncomputable def db_f329 (s : db_S) : Option Int32 :=
  (db_f329_b4 s db_FU (0 : Int32) (0 : Int32))
set_option maxRecDepth 100000 in
theorem db_f329_ok {X : db_X} {d : Nat} {s : db_S} : db_Rf X (d + 0) dbm_329 0 (lv_args 0 [.ref 669]) [] s (db_yI s) (db_f329 s ) := by
  show db_Rf _ _ _ 0 [(0, .ref 669)] [] _ _ _
  unfold db_f329
  refine db_Rgo (pc' := 4) (lv' := [(2, .int (0 : Int32)), (1, .int (0 : Int32)), (0, .ref 669)]) (st' := []) 4 rfl ?_
  refine db_Rn (lv1 := [(0, .ref 669), (1, .int (0 : Int32)), (2, .int (0 : Int32))]) rfl rfl rfl ?_
  exact db_f329_b4_ok db_FU _ _
/-- DreamBookModel.counting(III)I -/
noncomputable def db_f328 (s : db_S) (v1 : Int32) (v2 : Int32) (v3 : Int32) : Option (Int32 × db_S) :=
  ((db_pI s 669 1 (0 : Int32)).bind fun s1 => ((db_pI s1 669 0 (0 : Int32)).bind fun s2 => (db_bd (db_f314 s2 v1 v2 v3) fun q3 s4 => (cond q3 (db_bd (db_f316 s4 v1 v2 v3) fun q5 s6 => ((db_f329 s6).bind fun q7 => (some (q7, s6)))) (some ((-1 : Int32), s4))))))
set_option maxRecDepth 100000 in
theorem db_f328_ok {X : db_X} {d : Nat} {s : db_S} {v1 : Int32} {v2 : Int32} {v3 : Int32} : db_Rf X (d + 5) dbm_328 0 (lv_args 0 [.ref 669, .int v1, .int v2, .int v3]) [] s db_zI (db_f328 s v1 v2 v3) := by
  show db_Rf _ _ _ 0 [(0, .ref 669), (1, .int v1), (2, .int v2), (3, .int v3)] [] _ _ _
  unfold db_f328
  refine db_Rgo (pc' := 2) (lv' := [(0, .ref 669), (1, .int v1), (2, .int v2), (3, .int v3)]) (st' := [.int (0 : Int32), .ref 669]) 2 rfl ?_
  refine db_RpuI (pc' := 5) (lv1 := [(0, .ref 669), (1, .int v1), (2, .int v2), (3, .int v3)]) rfl rfl rfl rfl rfl rfl (by decide) rfl rfl fun s1 => ?_
  refine db_Rgo (pc' := 7) (lv' := [(0, .ref 669), (1, .int v1), (2, .int v2), (3, .int v3)]) (st' := [.int (0 : Int32), .ref 669]) 2 rfl ?_
  refine db_RpuI (pc' := 10) (lv1 := [(0, .ref 669), (1, .int v1), (2, .int v2), (3, .int v3)]) rfl rfl rfl rfl rfl rfl (by decide) rfl rfl fun s2 => ?_
  refine db_Rgo (pc' := 14) (lv' := [(0, .ref 669), (1, .int v1), (2, .int v2), (3, .int v3)]) (st' := [.int v3, .int v2, .int v1, .ref 669]) 4 rfl ?_
  refine db_RcdB (mr' := dbm_314) (as := [.ref 669, .int v1, .int v2, .int v3]) (rest := []) (pc' := 17) (lv1 := [(0, .ref 669), (1, .int v1), (2, .int v2), (3, .int v3)]) rfl rfl rfl rfl rfl (db_f314_ok) fun q3 s4 => ?_
  refine db_RifBn (pc' := 20) (tg := 22) (lv1 := [(0, .ref 669), (1, .int v1), (2, .int v2), (3, .int v3)]) rfl rfl rfl rfl ?_ ?_
  · refine db_Rgo (pc' := 26) (lv' := [(0, .ref 669), (1, .int v1), (2, .int v2), (3, .int v3)]) (st' := [.int v3, .int v2, .int v1, .ref 669]) 4 rfl ?_
    refine db_RcdI (mr' := dbm_316) (as := [.ref 669, .int v1, .int v2, .int v3]) (rest := []) (pc' := 29) (lv1 := [(0, .ref 669), (1, .int v1), (2, .int v2), (3, .int v3)]) rfl rfl rfl rfl rfl (db_f316_ok) fun q5 s6 => ?_
    refine db_Rgo (pc' := 31) (lv' := [(0, .ref 669), (1, .int v1), (2, .int v2), (3, .int v3)]) (st' := [.ref 669]) 2 rfl ?_
    refine db_RcyI (mr' := dbm_329) (as := [.ref 669]) (rest := []) (pc' := 34) (lv1 := [(0, .ref 669), (1, .int v1), (2, .int v2), (3, .int v3)]) rfl rfl rfl rfl rfl (db_f329_ok) fun q7 => ?_
    exact db_Rret (lv1 := [(0, .ref 669), (1, .int v1), (2, .int v2), (3, .int v3)]) rfl rfl rfl rfl
  refine db_Rgo (pc' := 21) (lv' := [(0, .ref 669), (1, .int v1), (2, .int v2), (3, .int v3)]) (st' := [.int (-1 : Int32)]) 1 rfl ?_
  exact db_Rret (lv1 := [(0, .ref 669), (1, .int v1), (2, .int v2), (3, .int v3)]) rfl rfl rfl rfl
noncomputable def db_f142_b43 (h12 : db_S → Int32 → Int32 → Option (Int32 × db_S)) (h27 : db_S → Int32 → Int32 → Int32 → Option (Int32 × db_S)) : Nat → db_S → Int32 → Int32 → Int32 → Int32 → Option (Int32 × db_S)
  | 0, _, _, _, _, _ => none
  | n + 1, s, v1, v2, v3, v4 =>
    ((db_rI s 21 (5 : Int32)).bind fun x1 => (cond (db_cnd .ge v4 x1) (h27 s v1 v2 (v3 + (1 : Int32))) (db_bd (db_f140 s v4 v2 v3) fun q2 s3 => (db_f142_b43 h12 h27 n s3 (v1 &&& (q2 ^^^ (-1 : Int32))) v2 v3 (v4 + (1 : Int32))))))
set_option maxRecDepth 100000 in
theorem db_f142_b43_ok {X : db_X} {d : Nat}  {h12 : db_S → Int32 → Int32 → Option (Int32 × db_S)} {h27 : db_S → Int32 → Int32 → Int32 → Option (Int32 × db_S)} (zh12 : ∀ (s' : db_S) (v1 : Int32) (v2 : Int32) , db_Rf X (d + 4) dbm_142 12 [(0, .ref 274), (1, .int v1), (2, .int v2)] [] s' db_zI (h12 s' v1 v2)) (zh27 : ∀ (s' : db_S) (v1 : Int32) (v2 : Int32) (v3 : Int32) , db_Rf X (d + 4) dbm_142 27 [(0, .ref 274), (1, .int v1), (2, .int v2), (3, .int v3)] [] s' db_zI (h27 s' v1 v2 v3)) (n : Nat) : ∀ (s : db_S) (v1 : Int32) (v2 : Int32) (v3 : Int32) (v4 : Int32), db_Rf X (d + 4) dbm_142 43 [(0, .ref 274), (1, .int v1), (2, .int v2), (3, .int v3), (4, .int v4)] [] s db_zI (db_f142_b43 h12 h27 n s v1 v2 v3 v4) := by
  induction n with
  | zero => intros; exact db_Rnone
  | succ n ih =>
    intro s v1 v2 v3 v4
    unfold db_f142_b43
    refine db_Rgo (pc' := 53) (lv' := [(0, .ref 274), (1, .int v1), (2, .int v2), (3, .int v3), (4, .int v4)]) (st' := [.int (5 : Int32), .ref 21, .int v4]) 5 rfl ?_
    refine db_RldI (pc' := 54) (lv1 := [(0, .ref 274), (1, .int v1), (2, .int v2), (3, .int v3), (4, .int v4)]) rfl rfl rfl fun x1 => ?_
    refine db_Ric (pc' := 57) (tg := 79) (lv1 := [(0, .ref 274), (1, .int v1), (2, .int v2), (3, .int v3), (4, .int v4)]) rfl rfl rfl rfl ?_ ?_
    · refine db_Rgo (pc' := 27) (lv' := [(3, .int (v3 + (1 : Int32))), (0, .ref 274), (1, .int v1), (2, .int v2)]) (st' := []) 2 rfl ?_
      refine db_Rn (lv1 := [(0, .ref 274), (1, .int v1), (2, .int v2), (3, .int (v3 + (1 : Int32)))]) rfl rfl rfl ?_
      exact zh27 _ _ _ _
    refine db_Rgo (pc' := 66) (lv' := [(0, .ref 274), (1, .int v1), (2, .int v2), (3, .int v3), (4, .int v4)]) (st' := [.int v3, .int v2, .int v4, .ref 271, .int v1]) 6 rfl ?_
    refine db_RcdI (mr' := dbm_140) (as := [.ref 271, .int v4, .int v2, .int v3]) (rest := [.int v1]) (pc' := 69) (lv1 := [(0, .ref 274), (1, .int v1), (2, .int v2), (3, .int v3), (4, .int v4)]) rfl rfl rfl rfl rfl (db_f140_ok) fun q2 s3 => ?_
    refine db_Rgo (pc' := 43) (lv' := [(4, .int (v4 + (1 : Int32))), (1, .int (v1 &&& (q2 ^^^ (-1 : Int32)))), (0, .ref 274), (2, .int v2), (3, .int v3)]) (st' := []) 6 rfl ?_
    refine db_Rn (lv1 := [(0, .ref 274), (1, .int (v1 &&& (q2 ^^^ (-1 : Int32)))), (2, .int v2), (3, .int v3), (4, .int (v4 + (1 : Int32)))]) rfl rfl rfl ?_
    exact ih _ _ _ _ _
noncomputable def db_f142_b27 (h12 : db_S → Int32 → Int32 → Option (Int32 × db_S)) : Nat → db_S → Int32 → Int32 → Int32 → Option (Int32 × db_S)
  | 0, _, _, _, _ => none
  | n + 1, s, v1, v2, v3 =>
    ((db_rI s 21 (2 : Int32)).bind fun x1 => (cond (db_cnd .ge v3 x1) (h12 s v1 (v2 + (1 : Int32))) (db_f142_b43 h12 (db_f142_b27 h12 n) db_FU s v1 v2 v3 (0 : Int32))))
set_option maxRecDepth 100000 in
theorem db_f142_b27_ok {X : db_X} {d : Nat}  {h12 : db_S → Int32 → Int32 → Option (Int32 × db_S)} (zh12 : ∀ (s' : db_S) (v1 : Int32) (v2 : Int32) , db_Rf X (d + 4) dbm_142 12 [(0, .ref 274), (1, .int v1), (2, .int v2)] [] s' db_zI (h12 s' v1 v2)) (n : Nat) : ∀ (s : db_S) (v1 : Int32) (v2 : Int32) (v3 : Int32), db_Rf X (d + 4) dbm_142 27 [(0, .ref 274), (1, .int v1), (2, .int v2), (3, .int v3)] [] s db_zI (db_f142_b27 h12 n s v1 v2 v3) := by
  induction n with
  | zero => intros; exact db_Rnone
  | succ n ih =>
    intro s v1 v2 v3
    unfold db_f142_b27
    refine db_Rgo (pc' := 36) (lv' := [(0, .ref 274), (1, .int v1), (2, .int v2), (3, .int v3)]) (st' := [.int (2 : Int32), .ref 21, .int v3]) 5 rfl ?_
    refine db_RldI (pc' := 37) (lv1 := [(0, .ref 274), (1, .int v1), (2, .int v2), (3, .int v3)]) rfl rfl rfl fun x1 => ?_
    refine db_Ric (pc' := 40) (tg := 85) (lv1 := [(0, .ref 274), (1, .int v1), (2, .int v2), (3, .int v3)]) rfl rfl rfl rfl ?_ ?_
    · refine db_Rgo (pc' := 12) (lv' := [(2, .int (v2 + (1 : Int32))), (0, .ref 274), (1, .int v1)]) (st' := []) 2 rfl ?_
      refine db_Rn (lv1 := [(0, .ref 274), (1, .int v1), (2, .int (v2 + (1 : Int32)))]) rfl rfl rfl ?_
      exact zh12 _ _ _
    refine db_Rgo (pc' := 43) (lv' := [(4, .int (0 : Int32)), (0, .ref 274), (1, .int v1), (2, .int v2), (3, .int v3)]) (st' := []) 2 rfl ?_
    refine db_Rn (lv1 := [(0, .ref 274), (1, .int v1), (2, .int v2), (3, .int v3), (4, .int (0 : Int32))]) rfl rfl rfl ?_
    exact db_f142_b43_ok zh12 ih db_FU _ _ _ _ _
noncomputable def db_f142_b12 : Nat → db_S → Int32 → Int32 → Option (Int32 × db_S)
  | 0, _, _, _ => none
  | n + 1, s, v1, v2 =>
    ((db_rI s 21 (1 : Int32)).bind fun x1 => (cond (db_cnd .ge v2 x1) (some (v1, s)) (db_f142_b27 (db_f142_b12 n) db_FU s v1 v2 (-1 : Int32))))
set_option maxRecDepth 100000 in
theorem db_f142_b12_ok {X : db_X} {d : Nat}  (n : Nat) : ∀ (s : db_S) (v1 : Int32) (v2 : Int32), db_Rf X (d + 4) dbm_142 12 [(0, .ref 274), (1, .int v1), (2, .int v2)] [] s db_zI (db_f142_b12 n s v1 v2) := by
  induction n with
  | zero => intros; exact db_Rnone
  | succ n ih =>
    intro s v1 v2
    unfold db_f142_b12
    refine db_Rgo (pc' := 21) (lv' := [(0, .ref 274), (1, .int v1), (2, .int v2)]) (st' := [.int (1 : Int32), .ref 21, .int v2]) 5 rfl ?_
    refine db_RldI (pc' := 22) (lv1 := [(0, .ref 274), (1, .int v1), (2, .int v2)]) rfl rfl rfl fun x1 => ?_
    refine db_Ric (pc' := 25) (tg := 91) (lv1 := [(0, .ref 274), (1, .int v1), (2, .int v2)]) rfl rfl rfl rfl ?_ ?_
    · refine db_Rgo (pc' := 92) (lv' := [(1, .int v1)]) (st' := [.int v1]) 1 rfl ?_
      exact db_Rret (lv1 := [(1, .int v1)]) rfl rfl rfl rfl
    refine db_Rgo (pc' := 27) (lv' := [(3, .int (-1 : Int32)), (0, .ref 274), (1, .int v1), (2, .int v2)]) (st' := []) 2 rfl ?_
    refine db_Rn (lv1 := [(0, .ref 274), (1, .int v1), (2, .int v2), (3, .int (-1 : Int32))]) rfl rfl rfl ?_
    exact db_f142_b27_ok ih db_FU _ _ _ _
/-- DreamBook$Finder.uncounted()I -/
noncomputable def db_f142 (s : db_S) : Option (Int32 × db_S) :=
  ((db_f115_20 s).bind fun q1 => (db_f142_b12 db_FU s (q1 - (1 : Int32)) (-1 : Int32)))
set_option maxRecDepth 100000 in
theorem db_f142_ok {X : db_X} {d : Nat} {s : db_S} : db_Rf X (d + 4) dbm_142 0 (lv_args 0 [.ref 274]) [] s db_zI (db_f142 s ) := by
  show db_Rf _ _ _ 0 [(0, .ref 274)] [] _ _ _
  unfold db_f142
  refine db_Rgo (pc' := 4) (lv' := [(0, .ref 274)]) (st' := [.ref 20]) 2 rfl ?_
  refine db_RcyI (mr' := dbm_115) (as := [.ref 20]) (rest := []) (pc' := 7) (lv1 := [(0, .ref 274)]) rfl rfl rfl rfl rfl (db_f115_20_ok) fun q1 => ?_
  refine db_Rgo (pc' := 12) (lv' := [(2, .int (-1 : Int32)), (1, .int (q1 - (1 : Int32))), (0, .ref 274)]) (st' := []) 5 rfl ?_
  refine db_Rn (lv1 := [(0, .ref 274), (1, .int (q1 - (1 : Int32))), (2, .int (-1 : Int32))]) rfl rfl rfl ?_
  exact db_f142_b12_ok db_FU _ _ _
/-- DreamBook.idle()I -/
noncomputable def db_f141 (s : db_S) : Option (Int32 × db_S) :=
  (db_bd (db_f142 s) fun q1 s2 => (db_bd (db_f87 s2 q1) fun q3 s4 => (some (q3, s4))))
set_option maxRecDepth 100000 in
theorem db_f141_ok {X : db_X} {d : Nat} {s : db_S} : db_Rf X (d + 5) dbm_141 0 (lv_args 0 [.ref 4]) [] s db_zI (db_f141 s ) := by
  show db_Rf _ _ _ 0 [(0, .ref 4)] [] _ _ _
  unfold db_f141
  refine db_Rgo (pc' := 5) (lv' := [(0, .ref 4)]) (st' := [.ref 274, .ref 4]) 3 rfl ?_
  refine db_RcdI (mr' := dbm_142) (as := [.ref 274]) (rest := [.ref 4]) (pc' := 8) (lv1 := [(0, .ref 4)]) rfl rfl rfl rfl rfl (db_f142_ok) fun q1 s2 => ?_
  refine db_RcdI (mr' := dbm_87) (as := [.ref 4, .int q1]) (rest := []) (pc' := 11) (lv1 := [(0, .ref 4)]) rfl rfl rfl rfl rfl (db_f87_ok) fun q3 s4 => ?_
  exact db_Rret (lv1 := [(0, .ref 4)]) rfl rfl rfl rfl
noncomputable def db_f330_b48 (h23 : db_S → Int32 → Int32 → Option (Int32 × db_S)) (h35 : db_S → Int32 → Int32 → Int32 → Option (Int32 × db_S)) : Nat → db_S → Int32 → Int32 → Int32 → Int32 → Option (Int32 × db_S)
  | 0, _, _, _, _, _ => none
  | n + 1, s, v1, v2, v3, v4 =>
    ((db_rI s 674 (2 : Int32)).bind fun x1 => (cond (db_cnd .ge v4 x1) (h35 s v1 v2 (v3 + (1 : Int32))) (db_bd (db_f316 s v2 v3 v4) fun q2 s3 => ((db_f329 s3).bind fun q4 => (db_f330_b48 h23 h35 n s3 (v1 &&& (q4 ^^^ (-1 : Int32))) v2 v3 (v4 + (1 : Int32)))))))
set_option maxRecDepth 100000 in
theorem db_f330_b48_ok {X : db_X} {d : Nat}  {h23 : db_S → Int32 → Int32 → Option (Int32 × db_S)} {h35 : db_S → Int32 → Int32 → Int32 → Option (Int32 × db_S)} (zh23 : ∀ (s' : db_S) (v1 : Int32) (v2 : Int32) , db_Rf X (d + 5) dbm_330 23 [(0, .ref 669), (1, .int v1), (2, .int v2)] [] s' db_zI (h23 s' v1 v2)) (zh35 : ∀ (s' : db_S) (v1 : Int32) (v2 : Int32) (v3 : Int32) , db_Rf X (d + 5) dbm_330 35 [(0, .ref 669), (1, .int v1), (2, .int v2), (3, .int v3)] [] s' db_zI (h35 s' v1 v2 v3)) (n : Nat) : ∀ (s : db_S) (v1 : Int32) (v2 : Int32) (v3 : Int32) (v4 : Int32), db_Rf X (d + 5) dbm_330 48 [(0, .ref 669), (1, .int v1), (2, .int v2), (3, .int v3), (4, .int v4)] [] s db_zI (db_f330_b48 h23 h35 n s v1 v2 v3 v4) := by
  induction n with
  | zero => intros; exact db_Rnone
  | succ n ih =>
    intro s v1 v2 v3 v4
    unfold db_f330_b48
    refine db_Rgo (pc' := 55) (lv' := [(0, .ref 669), (1, .int v1), (2, .int v2), (3, .int v3), (4, .int v4)]) (st' := [.int (2 : Int32), .ref 674, .int v4]) 4 rfl ?_
    refine db_RldI (pc' := 56) (lv1 := [(0, .ref 669), (1, .int v1), (2, .int v2), (3, .int v3), (4, .int v4)]) rfl rfl rfl fun x1 => ?_
    refine db_Ric (pc' := 59) (tg := 83) (lv1 := [(0, .ref 669), (1, .int v1), (2, .int v2), (3, .int v3), (4, .int v4)]) rfl rfl rfl rfl ?_ ?_
    · refine db_Rgo (pc' := 35) (lv' := [(3, .int (v3 + (1 : Int32))), (0, .ref 669), (1, .int v1), (2, .int v2)]) (st' := []) 2 rfl ?_
      refine db_Rn (lv1 := [(0, .ref 669), (1, .int v1), (2, .int v2), (3, .int (v3 + (1 : Int32)))]) rfl rfl rfl ?_
      exact zh35 _ _ _ _
    refine db_Rgo (pc' := 64) (lv' := [(0, .ref 669), (1, .int v1), (2, .int v2), (3, .int v3), (4, .int v4)]) (st' := [.int v4, .int v3, .int v2, .ref 669]) 4 rfl ?_
    refine db_RcdI (mr' := dbm_316) (as := [.ref 669, .int v2, .int v3, .int v4]) (rest := []) (pc' := 67) (lv1 := [(0, .ref 669), (1, .int v1), (2, .int v2), (3, .int v3), (4, .int v4)]) rfl rfl rfl rfl rfl (db_f316_ok) fun q2 s3 => ?_
    refine db_Rgo (pc' := 70) (lv' := [(0, .ref 669), (1, .int v1), (2, .int v2), (3, .int v3), (4, .int v4)]) (st' := [.ref 669, .int v1]) 3 rfl ?_
    refine db_RcyI (mr' := dbm_329) (as := [.ref 669]) (rest := [.int v1]) (pc' := 73) (lv1 := [(0, .ref 669), (1, .int v1), (2, .int v2), (3, .int v3), (4, .int v4)]) rfl rfl rfl rfl rfl (db_f329_ok) fun q4 => ?_
    refine db_Rgo (pc' := 48) (lv' := [(4, .int (v4 + (1 : Int32))), (1, .int (v1 &&& (q4 ^^^ (-1 : Int32)))), (0, .ref 669), (2, .int v2), (3, .int v3)]) (st' := []) 6 rfl ?_
    refine db_Rn (lv1 := [(0, .ref 669), (1, .int (v1 &&& (q4 ^^^ (-1 : Int32)))), (2, .int v2), (3, .int v3), (4, .int (v4 + (1 : Int32)))]) rfl rfl rfl ?_
    exact ih _ _ _ _ _
noncomputable def db_f330_b35 (h23 : db_S → Int32 → Int32 → Option (Int32 × db_S)) : Nat → db_S → Int32 → Int32 → Int32 → Option (Int32 × db_S)
  | 0, _, _, _, _ => none
  | n + 1, s, v1, v2, v3 =>
    ((db_rI s 674 (1 : Int32)).bind fun x1 => (cond (db_cnd .ge v3 x1) (h23 s v1 (v2 + (1 : Int32))) (db_f330_b48 h23 (db_f330_b35 h23 n) db_FU s v1 v2 v3 (-1 : Int32))))
set_option maxRecDepth 100000 in
theorem db_f330_b35_ok {X : db_X} {d : Nat}  {h23 : db_S → Int32 → Int32 → Option (Int32 × db_S)} (zh23 : ∀ (s' : db_S) (v1 : Int32) (v2 : Int32) , db_Rf X (d + 5) dbm_330 23 [(0, .ref 669), (1, .int v1), (2, .int v2)] [] s' db_zI (h23 s' v1 v2)) (n : Nat) : ∀ (s : db_S) (v1 : Int32) (v2 : Int32) (v3 : Int32), db_Rf X (d + 5) dbm_330 35 [(0, .ref 669), (1, .int v1), (2, .int v2), (3, .int v3)] [] s db_zI (db_f330_b35 h23 n s v1 v2 v3) := by
  induction n with
  | zero => intros; exact db_Rnone
  | succ n ih =>
    intro s v1 v2 v3
    unfold db_f330_b35
    refine db_Rgo (pc' := 41) (lv' := [(0, .ref 669), (1, .int v1), (2, .int v2), (3, .int v3)]) (st' := [.int (1 : Int32), .ref 674, .int v3]) 4 rfl ?_
    refine db_RldI (pc' := 42) (lv1 := [(0, .ref 669), (1, .int v1), (2, .int v2), (3, .int v3)]) rfl rfl rfl fun x1 => ?_
    refine db_Ric (pc' := 45) (tg := 89) (lv1 := [(0, .ref 669), (1, .int v1), (2, .int v2), (3, .int v3)]) rfl rfl rfl rfl ?_ ?_
    · refine db_Rgo (pc' := 23) (lv' := [(2, .int (v2 + (1 : Int32))), (0, .ref 669), (1, .int v1)]) (st' := []) 2 rfl ?_
      refine db_Rn (lv1 := [(0, .ref 669), (1, .int v1), (2, .int (v2 + (1 : Int32)))]) rfl rfl rfl ?_
      exact zh23 _ _ _
    refine db_Rgo (pc' := 48) (lv' := [(4, .int (-1 : Int32)), (0, .ref 669), (1, .int v1), (2, .int v2), (3, .int v3)]) (st' := []) 2 rfl ?_
    refine db_Rn (lv1 := [(0, .ref 669), (1, .int v1), (2, .int v2), (3, .int v3), (4, .int (-1 : Int32))]) rfl rfl rfl ?_
    exact db_f330_b48_ok zh23 ih db_FU _ _ _ _ _
noncomputable def db_f330_b23 : Nat → db_S → Int32 → Int32 → Option (Int32 × db_S)
  | 0, _, _, _ => none
  | n + 1, s, v1, v2 =>
    ((db_rI s 674 (5 : Int32)).bind fun x1 => (cond (db_cnd .ge v2 x1) (some (v1, s)) (db_f330_b35 (db_f330_b23 n) db_FU s v1 v2 (-1 : Int32))))
set_option maxRecDepth 100000 in
theorem db_f330_b23_ok {X : db_X} {d : Nat}  (n : Nat) : ∀ (s : db_S) (v1 : Int32) (v2 : Int32), db_Rf X (d + 5) dbm_330 23 [(0, .ref 669), (1, .int v1), (2, .int v2)] [] s db_zI (db_f330_b23 n s v1 v2) := by
  induction n with
  | zero => intros; exact db_Rnone
  | succ n ih =>
    intro s v1 v2
    unfold db_f330_b23
    refine db_Rgo (pc' := 29) (lv' := [(0, .ref 669), (1, .int v1), (2, .int v2)]) (st' := [.int (5 : Int32), .ref 674, .int v2]) 4 rfl ?_
    refine db_RldI (pc' := 30) (lv1 := [(0, .ref 669), (1, .int v1), (2, .int v2)]) rfl rfl rfl fun x1 => ?_
    refine db_Ric (pc' := 33) (tg := 95) (lv1 := [(0, .ref 669), (1, .int v1), (2, .int v2)]) rfl rfl rfl rfl ?_ ?_
    · refine db_Rgo (pc' := 96) (lv' := [(1, .int v1)]) (st' := [.int v1]) 1 rfl ?_
      exact db_Rret (lv1 := [(1, .int v1)]) rfl rfl rfl rfl
    refine db_Rgo (pc' := 35) (lv' := [(3, .int (-1 : Int32)), (0, .ref 669), (1, .int v1), (2, .int v2)]) (st' := []) 2 rfl ?_
    refine db_Rn (lv1 := [(0, .ref 669), (1, .int v1), (2, .int v2), (3, .int (-1 : Int32))]) rfl rfl rfl ?_
    exact db_f330_b35_ok ih db_FU _ _ _ _
/-- DreamBookModel.idle()I -/
noncomputable def db_f330 (s : db_S) : Option (Int32 × db_S) :=
  ((db_pI s 669 1 (0 : Int32)).bind fun s1 => ((db_pI s1 669 0 (0 : Int32)).bind fun s2 => ((db_rI s2 674 (3 : Int32)).bind fun x3 => (db_f330_b23 db_FU s2 (((1 : Int32) <<< (x3 &&& 31)) - (1 : Int32)) (0 : Int32)))))
set_option maxRecDepth 100000 in
theorem db_f330_ok {X : db_X} {d : Nat} {s : db_S} : db_Rf X (d + 5) dbm_330 0 (lv_args 0 [.ref 669]) [] s db_zI (db_f330 s ) := by
  show db_Rf _ _ _ 0 [(0, .ref 669)] [] _ _ _
  unfold db_f330
  refine db_Rgo (pc' := 2) (lv' := [(0, .ref 669)]) (st' := [.int (0 : Int32), .ref 669]) 2 rfl ?_
  refine db_RpuI (pc' := 5) (lv1 := [(0, .ref 669)]) rfl rfl rfl rfl rfl rfl (by decide) rfl rfl fun s1 => ?_
  refine db_Rgo (pc' := 7) (lv' := [(0, .ref 669)]) (st' := [.int (0 : Int32), .ref 669]) 2 rfl ?_
  refine db_RpuI (pc' := 10) (lv1 := [(0, .ref 669)]) rfl rfl rfl rfl rfl rfl (by decide) rfl rfl fun s2 => ?_
  refine db_Rgo (pc' := 16) (lv' := [(0, .ref 669)]) (st' := [.int (3 : Int32), .ref 674, .int (1 : Int32)]) 4 rfl ?_
  refine db_RldI (pc' := 17) (lv1 := [(0, .ref 669)]) rfl rfl rfl fun x3 => ?_
  refine db_Rgo (pc' := 23) (lv' := [(2, .int (0 : Int32)), (1, .int (((1 : Int32) <<< (x3 &&& 31)) - (1 : Int32))), (0, .ref 669)]) (st' := []) 6 rfl ?_
  refine db_Rn (lv1 := [(0, .ref 669), (1, .int (((1 : Int32) <<< (x3 &&& 31)) - (1 : Int32))), (2, .int (0 : Int32))]) rfl rfl rfl ?_
  exact db_f330_b23_ok db_FU _ _ _
noncomputable def db_f143_b49 (h4 : db_S → Int32 → Int32 → Option (Int32 × db_S)) (s : db_S) (v1 : Int32) (v2 : Int32) : Option (Int32 × db_S) :=
  (h4 s v1 (v2 + (1 : Int32)))
set_option maxRecDepth 100000 in
theorem db_f143_b49_ok {X : db_X} {d : Nat}  {h4 : db_S → Int32 → Int32 → Option (Int32 × db_S)} {s : db_S} {v1 : Int32} {v2 : Int32} (zh4 : ∀ (s' : db_S) (v1 : Int32) (v2 : Int32) , db_Rf X (d + 1) dbm_143 4 [(0, .ref 4), (1, .int v1), (2, .int v2)] [] s' db_zI (h4 s' v1 v2)) : db_Rf X (d + 1) dbm_143 49 [(0, .ref 4), (1, .int v1), (2, .int v2)] [] s db_zI (db_f143_b49 h4 s v1 v2) := by
  unfold db_f143_b49
  refine db_Rgo (pc' := 4) (lv' := [(2, .int (v2 + (1 : Int32))), (0, .ref 4), (1, .int v1)]) (st' := []) 2 rfl ?_
  refine db_Rn (lv1 := [(0, .ref 4), (1, .int v1), (2, .int (v2 + (1 : Int32)))]) rfl rfl rfl ?_
  exact zh4 _ _ _
noncomputable def db_f143_b44 (h4 : db_S → Int32 → Int32 → Option (Int32 × db_S)) (s : db_S) (v1 : Int32) (v2 : Int32) (t0 : Int32) (t1 : Int32) : Option (Int32 × db_S) :=
  (cond (db_cnd .le t0 t1) (db_f143_b49 h4 s v1 v2) (db_f143_b49 h4 s v2 v2))
set_option maxRecDepth 100000 in
theorem db_f143_b44_ok {X : db_X} {d : Nat}  {h4 : db_S → Int32 → Int32 → Option (Int32 × db_S)} {s : db_S} {v1 : Int32} {v2 : Int32} {t0 : Int32} {t1 : Int32} (zh4 : ∀ (s' : db_S) (v1 : Int32) (v2 : Int32) , db_Rf X (d + 1) dbm_143 4 [(0, .ref 4), (1, .int v1), (2, .int v2)] [] s' db_zI (h4 s' v1 v2)) : db_Rf X (d + 1) dbm_143 44 [(0, .ref 4), (1, .int v1), (2, .int v2)] [.int t1, .int t0] s db_zI (db_f143_b44 h4 s v1 v2 t0 t1) := by
  unfold db_f143_b44
  refine db_Ric (pc' := 47) (tg := 49) (lv1 := [(0, .ref 4), (1, .int v1), (2, .int v2)]) rfl rfl rfl rfl ?_ ?_
  · exact db_f143_b49_ok zh4
  refine db_Rgo (pc' := 49) (lv' := [(1, .int v2), (0, .ref 4), (2, .int v2)]) (st' := []) 2 rfl ?_
  refine db_Rn (lv1 := [(0, .ref 4), (1, .int v2), (2, .int v2)]) rfl rfl rfl ?_
  exact db_f143_b49_ok zh4
noncomputable def db_f143_b4 : Nat → db_S → Int32 → Int32 → Option (Int32 × db_S)
  | 0, _, _, _ => none
  | n + 1, s, v1, v2 =>
    ((db_rI s 21 (3 : Int32)).bind fun x1 => (cond (db_cnd .ge v2 x1) (cond (db_cnd .ne v1 (-1 : Int32)) (db_bd (db_f87 s v1) fun q2 s3 => (some (q2, s3))) (db_bd (db_f37 s (8 : Int32)) fun q4 s5 => (some (q4, s5)))) ((db_rI s 81 v2).bind fun x6 => (cond (db_cnd .ne v1 (-1 : Int32)) ((db_rI s 81 v1).bind fun x7 => (db_f143_b44 (db_f143_b4 n) s v1 v2 x6 x7)) (db_f143_b44 (db_f143_b4 n) s v1 v2 x6 (0 : Int32))))))
set_option maxRecDepth 100000 in
theorem db_f143_b4_ok {X : db_X} {d : Nat}  (n : Nat) : ∀ (s : db_S) (v1 : Int32) (v2 : Int32), db_Rf X (d + 1) dbm_143 4 [(0, .ref 4), (1, .int v1), (2, .int v2)] [] s db_zI (db_f143_b4 n s v1 v2) := by
  induction n with
  | zero => intros; exact db_Rnone
  | succ n ih =>
    intro s v1 v2
    unfold db_f143_b4
    refine db_Rgo (pc' := 13) (lv' := [(0, .ref 4), (1, .int v1), (2, .int v2)]) (st' := [.int (3 : Int32), .ref 21, .int v2]) 5 rfl ?_
    refine db_RldI (pc' := 14) (lv1 := [(0, .ref 4), (1, .int v1), (2, .int v2)]) rfl rfl rfl fun x1 => ?_
    refine db_Ric (pc' := 17) (tg := 55) (lv1 := [(0, .ref 4), (1, .int v1), (2, .int v2)]) rfl rfl rfl rfl ?_ ?_
    · refine db_Rgo (pc' := 57) (lv' := [(0, .ref 4), (1, .int v1)]) (st' := [.int (-1 : Int32), .int v1]) 2 rfl ?_
      refine db_Ric (pc' := 60) (tg := 69) (lv1 := [(0, .ref 4), (1, .int v1)]) rfl rfl rfl rfl ?_ ?_
      · refine db_Rgo (pc' := 71) (lv' := [(0, .ref 4), (1, .int v1)]) (st' := [.int v1, .ref 4]) 2 rfl ?_
        refine db_RcdI (mr' := dbm_87) (as := [.ref 4, .int v1]) (rest := []) (pc' := 74) (lv1 := [(0, .ref 4), (1, .int v1)]) rfl rfl rfl rfl rfl (db_f87_ok) fun q2 s3 => ?_
        exact db_Rret (lv1 := []) rfl rfl rfl rfl
      refine db_Rgo (pc' := 63) (lv' := [(0, .ref 4), (1, .int v1)]) (st' := [.int (8 : Int32), .ref 4]) 2 rfl ?_
      refine db_RcdI (mr' := dbm_37) (as := [.ref 4, .int (8 : Int32)]) (rest := []) (pc' := 66) (lv1 := [(0, .ref 4), (1, .int v1)]) rfl rfl rfl rfl rfl (db_f37_ok) fun q4 s5 => ?_
      refine db_Rgo (pc' := 74) (lv' := [(0, .ref 4), (1, .int v1)]) (st' := [.int q4]) 1 rfl ?_
      exact db_Rret (lv1 := []) rfl rfl rfl rfl
    refine db_Rgo (pc' := 25) (lv' := [(0, .ref 4), (1, .int v1), (2, .int v2)]) (st' := [.int v2, .ref 81]) 4 rfl ?_
    refine db_RldI (pc' := 26) (lv1 := [(0, .ref 4), (1, .int v1), (2, .int v2)]) rfl rfl rfl fun x6 => ?_
    refine db_Rgo (pc' := 28) (lv' := [(0, .ref 4), (1, .int v1), (2, .int v2)]) (st' := [.int (-1 : Int32), .int v1, .int x6]) 2 rfl ?_
    refine db_Ric (pc' := 31) (tg := 35) (lv1 := [(0, .ref 4), (1, .int v1), (2, .int v2)]) rfl rfl rfl rfl ?_ ?_
    · refine db_Rgo (pc' := 43) (lv' := [(0, .ref 4), (1, .int v1), (2, .int v2)]) (st' := [.int v1, .ref 81, .int x6]) 4 rfl ?_
      refine db_RldI (pc' := 44) (lv1 := [(0, .ref 4), (1, .int v1), (2, .int v2)]) rfl rfl rfl fun x7 => ?_
      exact db_f143_b44_ok ih
    refine db_Rgo (pc' := 44) (lv' := [(0, .ref 4), (1, .int v1), (2, .int v2)]) (st' := [.int (0 : Int32), .int x6]) 2 rfl ?_
    exact db_f143_b44_ok ih
/-- DreamBook.mostUsed()I -/
noncomputable def db_f143 (s : db_S) : Option (Int32 × db_S) :=
  (db_f143_b4 db_FU s (-1 : Int32) (0 : Int32))
set_option maxRecDepth 100000 in
theorem db_f143_ok {X : db_X} {d : Nat} {s : db_S} : db_Rf X (d + 1) dbm_143 0 (lv_args 0 [.ref 4]) [] s db_zI (db_f143 s ) := by
  show db_Rf _ _ _ 0 [(0, .ref 4)] [] _ _ _
  unfold db_f143
  refine db_Rgo (pc' := 4) (lv' := [(2, .int (0 : Int32)), (1, .int (-1 : Int32)), (0, .ref 4)]) (st' := []) 4 rfl ?_
  refine db_Rn (lv1 := [(0, .ref 4), (1, .int (-1 : Int32)), (2, .int (0 : Int32))]) rfl rfl rfl ?_
  exact db_f143_b4_ok db_FU _ _ _
noncomputable def db_f331_b63 (h14 : db_S → Int32 → Int32 → Option (Int32 × db_S)) (s : db_S) (v1 : Int32) (v2 : Int32) : Option (Int32 × db_S) :=
  (h14 s v1 (v2 + (1 : Int32)))
set_option maxRecDepth 100000 in
theorem db_f331_b63_ok {X : db_X} {d : Nat}  {h14 : db_S → Int32 → Int32 → Option (Int32 × db_S)} {s : db_S} {v1 : Int32} {v2 : Int32} (zh14 : ∀ (s' : db_S) (v1 : Int32) (v2 : Int32) , db_Rf X (d + 1) dbm_331 14 [(0, .ref 669), (1, .int v1), (2, .int v2)] [] s' db_zI (h14 s' v1 v2)) : db_Rf X (d + 1) dbm_331 63 [(0, .ref 669), (1, .int v1), (2, .int v2)] [] s db_zI (db_f331_b63 h14 s v1 v2) := by
  unfold db_f331_b63
  refine db_Rgo (pc' := 14) (lv' := [(2, .int (v2 + (1 : Int32))), (0, .ref 669), (1, .int v1)]) (st' := []) 2 rfl ?_
  refine db_Rn (lv1 := [(0, .ref 669), (1, .int v1), (2, .int (v2 + (1 : Int32)))]) rfl rfl rfl ?_
  exact zh14 _ _ _
noncomputable def db_f331_b61 (h14 : db_S → Int32 → Int32 → Option (Int32 × db_S)) (s : db_S) (v2 : Int32) : Option (Int32 × db_S) :=
  (db_f331_b63 h14 s v2 v2)
set_option maxRecDepth 100000 in
theorem db_f331_b61_ok {X : db_X} {d : Nat}  {h14 : db_S → Int32 → Int32 → Option (Int32 × db_S)} {s : db_S} {v2 : Int32} (zh14 : ∀ (s' : db_S) (v1 : Int32) (v2 : Int32) , db_Rf X (d + 1) dbm_331 14 [(0, .ref 669), (1, .int v1), (2, .int v2)] [] s' db_zI (h14 s' v1 v2)) : db_Rf X (d + 1) dbm_331 61 [(0, .ref 669), (2, .int v2)] [] s db_zI (db_f331_b61 h14 s v2) := by
  unfold db_f331_b61
  refine db_Rgo (pc' := 63) (lv' := [(1, .int v2), (0, .ref 669), (2, .int v2)]) (st' := []) 2 rfl ?_
  refine db_Rn (lv1 := [(0, .ref 669), (1, .int v2), (2, .int v2)]) rfl rfl rfl ?_
  exact db_f331_b63_ok zh14
noncomputable def db_f331_b14 : Nat → db_S → Int32 → Int32 → Option (Int32 × db_S)
  | 0, _, _, _ => none
  | n + 1, s, v1, v2 =>
    ((db_rI s 674 (3 : Int32)).bind fun x1 => (cond (db_cnd .ge v2 x1) (cond (db_cnd .ge v1 0) (some (v1, s)) (db_bd (db_f281 s (8 : Int32)) fun q2 s3 => (some (q2, s3)))) ((db_rI s 674 ((91 : Int32) + v2)).bind fun x4 => (cond (db_cnd .le x4 0) (db_f331_b63 (db_f331_b14 n) s v1 v2) (cond (db_cnd .lt v1 0) (db_f331_b61 (db_f331_b14 n) s v2) ((db_rI s 674 ((91 : Int32) + v2)).bind fun x5 => ((db_rI s 674 ((91 : Int32) + v1)).bind fun x6 => (cond (db_cnd .le x5 x6) (db_f331_b63 (db_f331_b14 n) s v1 v2) (db_f331_b61 (db_f331_b14 n) s v2)))))))))
set_option maxRecDepth 100000 in
theorem db_f331_b14_ok {X : db_X} {d : Nat}  (n : Nat) : ∀ (s : db_S) (v1 : Int32) (v2 : Int32), db_Rf X (d + 1) dbm_331 14 [(0, .ref 669), (1, .int v1), (2, .int v2)] [] s db_zI (db_f331_b14 n s v1 v2) := by
  induction n with
  | zero => intros; exact db_Rnone
  | succ n ih =>
    intro s v1 v2
    unfold db_f331_b14
    refine db_Rgo (pc' := 20) (lv' := [(0, .ref 669), (1, .int v1), (2, .int v2)]) (st' := [.int (3 : Int32), .ref 674, .int v2]) 4 rfl ?_
    refine db_RldI (pc' := 21) (lv1 := [(0, .ref 669), (1, .int v1), (2, .int v2)]) rfl rfl rfl fun x1 => ?_
    refine db_Ric (pc' := 24) (tg := 69) (lv1 := [(0, .ref 669), (1, .int v1), (2, .int v2)]) rfl rfl rfl rfl ?_ ?_
    · refine db_Rgo (pc' := 70) (lv' := [(0, .ref 669), (1, .int v1)]) (st' := [.int v1]) 1 rfl ?_
      refine db_Rif (pc' := 73) (tg := 82) (lv1 := [(0, .ref 669), (1, .int v1)]) rfl rfl rfl rfl ?_ ?_
      · refine db_Rgo (pc' := 83) (lv' := [(1, .int v1)]) (st' := [.int v1]) 1 rfl ?_
        exact db_Rret (lv1 := []) rfl rfl rfl rfl
      refine db_Rgo (pc' := 76) (lv' := [(0, .ref 669), (1, .int v1)]) (st' := [.int (8 : Int32), .ref 669]) 2 rfl ?_
      refine db_RcdI (mr' := dbm_281) (as := [.ref 669, .int (8 : Int32)]) (rest := []) (pc' := 79) (lv1 := [(0, .ref 669), (1, .int v1)]) rfl rfl rfl rfl rfl (db_f281_ok) fun q2 s3 => ?_
      refine db_Rgo (pc' := 83) (lv' := [(0, .ref 669), (1, .int v1)]) (st' := [.int q2]) 1 rfl ?_
      exact db_Rret (lv1 := []) rfl rfl rfl rfl
    refine db_Rgo (pc' := 32) (lv' := [(0, .ref 669), (1, .int v1), (2, .int v2)]) (st' := [.int ((91 : Int32) + v2), .ref 674]) 5 rfl ?_
    refine db_RldI (pc' := 33) (lv1 := [(0, .ref 669), (1, .int v1), (2, .int v2)]) rfl rfl rfl fun x4 => ?_
    refine db_Rif (pc' := 36) (tg := 63) (lv1 := [(0, .ref 669), (1, .int v1), (2, .int v2)]) rfl rfl rfl rfl ?_ ?_
    · exact db_f331_b63_ok ih
    refine db_Rgo (pc' := 37) (lv' := [(0, .ref 669), (1, .int v1), (2, .int v2)]) (st' := [.int v1]) 1 rfl ?_
    refine db_Rif (pc' := 40) (tg := 61) (lv1 := [(0, .ref 669), (1, .int v1), (2, .int v2)]) rfl rfl rfl rfl ?_ ?_
    · refine db_Rn (lv1 := [(0, .ref 669), (2, .int v2)]) rfl rfl rfl ?_
      exact db_f331_b61_ok ih
    refine db_Rgo (pc' := 48) (lv' := [(0, .ref 669), (1, .int v1), (2, .int v2)]) (st' := [.int ((91 : Int32) + v2), .ref 674]) 5 rfl ?_
    refine db_RldI (pc' := 49) (lv1 := [(0, .ref 669), (1, .int v1), (2, .int v2)]) rfl rfl rfl fun x5 => ?_
    refine db_Rgo (pc' := 57) (lv' := [(0, .ref 669), (1, .int v1), (2, .int v2)]) (st' := [.int ((91 : Int32) + v1), .ref 674, .int x5]) 5 rfl ?_
    refine db_RldI (pc' := 58) (lv1 := [(0, .ref 669), (1, .int v1), (2, .int v2)]) rfl rfl rfl fun x6 => ?_
    refine db_Ric (pc' := 61) (tg := 63) (lv1 := [(0, .ref 669), (1, .int v1), (2, .int v2)]) rfl rfl rfl rfl ?_ ?_
    · exact db_f331_b63_ok ih
    refine db_Rn (lv1 := [(0, .ref 669), (2, .int v2)]) rfl rfl rfl ?_
    exact db_f331_b61_ok ih
/-- DreamBookModel.mostUsed()I -/
noncomputable def db_f331 (s : db_S) : Option (Int32 × db_S) :=
  ((db_pI s 669 1 (0 : Int32)).bind fun s1 => ((db_pI s1 669 0 (0 : Int32)).bind fun s2 => (db_f331_b14 db_FU s2 (-1 : Int32) (0 : Int32))))
set_option maxRecDepth 100000 in
theorem db_f331_ok {X : db_X} {d : Nat} {s : db_S} : db_Rf X (d + 1) dbm_331 0 (lv_args 0 [.ref 669]) [] s db_zI (db_f331 s ) := by
  show db_Rf _ _ _ 0 [(0, .ref 669)] [] _ _ _
  unfold db_f331
  refine db_Rgo (pc' := 2) (lv' := [(0, .ref 669)]) (st' := [.int (0 : Int32), .ref 669]) 2 rfl ?_
  refine db_RpuI (pc' := 5) (lv1 := [(0, .ref 669)]) rfl rfl rfl rfl rfl rfl (by decide) rfl rfl fun s1 => ?_
  refine db_Rgo (pc' := 7) (lv' := [(0, .ref 669)]) (st' := [.int (0 : Int32), .ref 669]) 2 rfl ?_
  refine db_RpuI (pc' := 10) (lv1 := [(0, .ref 669)]) rfl rfl rfl rfl rfl rfl (by decide) rfl rfl fun s2 => ?_
  refine db_Rgo (pc' := 14) (lv' := [(2, .int (0 : Int32)), (1, .int (-1 : Int32)), (0, .ref 669)]) (st' := []) 4 rfl ?_
  refine db_Rn (lv1 := [(0, .ref 669), (1, .int (-1 : Int32)), (2, .int (0 : Int32))]) rfl rfl rfl ?_
  exact db_f331_b14_ok db_FU _ _ _
/-- DreamBook.checkCouple(II)I -/
noncomputable def db_f145 (s : db_S) (v1 : Int32) (v2 : Int32) : Option Int32 :=
  ((db_f103 s (3 : Int32) v1).bind fun q1 => (cond q1 ((db_f103 s (3 : Int32) v2).bind fun q3 => (cond q3 (cond (db_cnd .ne v1 v2) (some (0 : Int32)) (some (5 : Int32))) (some (2 : Int32)))) (some (2 : Int32))))
set_option maxRecDepth 100000 in
theorem db_f145_ok {X : db_X} {d : Nat} {s : db_S} {v1 : Int32} {v2 : Int32} : db_Rf X (d + 1) dbm_145 0 (lv_args 0 [.ref 4, .int v1, .int v2]) [] s (db_yI s) (db_f145 s v1 v2) := by
  show db_Rf _ _ _ 0 [(0, .ref 4), (1, .int v1), (2, .int v2)] [] _ _ _
  unfold db_f145
  refine db_Rgo (pc' := 3) (lv' := [(0, .ref 4), (1, .int v1), (2, .int v2)]) (st' := [.int v1, .int (3 : Int32), .ref 4]) 3 rfl ?_
  refine db_RcyB (mr' := dbm_103) (as := [.ref 4, .int (3 : Int32), .int v1]) (rest := []) (pc' := 6) (lv1 := [(0, .ref 4), (1, .int v1), (2, .int v2)]) rfl rfl rfl rfl rfl (db_f103_ok) fun q1 => ?_
  refine db_RifBe (pc' := 9) (tg := 18) (lv1 := [(0, .ref 4), (1, .int v1), (2, .int v2)]) rfl rfl rfl rfl ?_ ?_
  · refine db_Rgo (pc' := 19) (lv' := []) (st' := [.int (2 : Int32)]) 1 rfl ?_
    exact db_Rret (lv1 := []) rfl rfl rfl rfl
  refine db_Rgo (pc' := 12) (lv' := [(0, .ref 4), (1, .int v1), (2, .int v2)]) (st' := [.int v2, .int (3 : Int32), .ref 4]) 3 rfl ?_
  refine db_RcyB (mr' := dbm_103) (as := [.ref 4, .int (3 : Int32), .int v2]) (rest := []) (pc' := 15) (lv1 := [(0, .ref 4), (1, .int v1), (2, .int v2)]) rfl rfl rfl rfl rfl (db_f103_ok) fun q3 => ?_
  refine db_RifBn (pc' := 18) (tg := 20) (lv1 := [(0, .ref 4), (1, .int v1), (2, .int v2)]) rfl rfl rfl rfl ?_ ?_
  · refine db_Rgo (pc' := 22) (lv' := [(1, .int v1), (2, .int v2)]) (st' := [.int v2, .int v1]) 2 rfl ?_
    refine db_Ric (pc' := 25) (tg := 29) (lv1 := [(1, .int v1), (2, .int v2)]) rfl rfl rfl rfl ?_ ?_
    · refine db_Rgo (pc' := 30) (lv' := []) (st' := [.int (0 : Int32)]) 1 rfl ?_
      exact db_Rret (lv1 := []) rfl rfl rfl rfl
    refine db_Rgo (pc' := 30) (lv' := [(1, .int v1), (2, .int v2)]) (st' := [.int (5 : Int32)]) 2 rfl ?_
    exact db_Rret (lv1 := []) rfl rfl rfl rfl
  refine db_Rgo (pc' := 19) (lv' := []) (st' := [.int (2 : Int32)]) 1 rfl ?_
  exact db_Rret (lv1 := []) rfl rfl rfl rfl
/-- DreamBook$Told.canMeet(II)Z -/
noncomputable def db_f147 (s : db_S) (v0 : Int32) (v1 : Int32) : Option Bool :=
  (cond (db_cnd .eq v0 (-1 : Int32)) (some true) (cond (db_cnd .eq v1 (-1 : Int32)) (some true) (cond (db_cnd .ne v0 v1) (some false) (some true))))
set_option maxRecDepth 100000 in
theorem db_f147_ok {X : db_X} {d : Nat} {s : db_S} {v0 : Int32} {v1 : Int32} : db_Rf X (d + 0) dbm_147 0 (lv_args 0 [.int v0, .int v1]) [] s (db_yB s) (db_f147 s v0 v1) := by
  show db_Rf _ _ _ 0 [(0, .int v0), (1, .int v1)] [] _ _ _
  unfold db_f147
  refine db_Rgo (pc' := 2) (lv' := [(0, .int v0), (1, .int v1)]) (st' := [.int (-1 : Int32), .int v0]) 2 rfl ?_
  refine db_Ric (pc' := 5) (tg := 15) (lv1 := [(0, .int v0), (1, .int v1)]) rfl rfl rfl rfl ?_ ?_
  · refine db_Rgo (pc' := 20) (lv' := []) (st' := [.int (1 : Int32)]) 2 rfl ?_
    exact db_Rret (lv1 := []) rfl rfl rfl rfl
  refine db_Rgo (pc' := 7) (lv' := [(0, .int v0), (1, .int v1)]) (st' := [.int (-1 : Int32), .int v1]) 2 rfl ?_
  refine db_Ric (pc' := 10) (tg := 15) (lv1 := [(0, .int v0), (1, .int v1)]) rfl rfl rfl rfl ?_ ?_
  · refine db_Rgo (pc' := 20) (lv' := []) (st' := [.int (1 : Int32)]) 2 rfl ?_
    exact db_Rret (lv1 := []) rfl rfl rfl rfl
  refine db_Rgo (pc' := 12) (lv' := [(0, .int v0), (1, .int v1)]) (st' := [.int v1, .int v0]) 2 rfl ?_
  refine db_Ric (pc' := 15) (tg := 19) (lv1 := [(0, .int v0), (1, .int v1)]) rfl rfl rfl rfl ?_ ?_
  · refine db_Rgo (pc' := 20) (lv' := []) (st' := [.int (0 : Int32)]) 1 rfl ?_
    exact db_Rret (lv1 := []) rfl rfl rfl rfl
  refine db_Rgo (pc' := 20) (lv' := []) (st' := [.int (1 : Int32)]) 2 rfl ?_
  exact db_Rret (lv1 := []) rfl rfl rfl rfl
/-- DreamBook$Told.fitsBeside([I[I)Z -/
noncomputable def db_f148 (s : db_S) (a0 : Nat) (a1 : Nat) : Option Bool :=
  ((db_rI s a0 (3 : Int32)).bind fun x1 => (cond (db_cnd .eq x1 (-1 : Int32)) (some true) ((db_rI s a0 (0 : Int32)).bind fun x2 => (cond (db_cnd .eq x1 x2) (some false) ((db_rI s a0 (2 : Int32)).bind fun x3 => (cond (db_cnd .eq x1 x3) (some false) ((db_rI s a1 (2 : Int32)).bind fun x4 => (cond (db_cnd .eq x1 x4) (some false) (some true)))))))))
set_option maxRecDepth 100000 in
theorem db_f148_ok {X : db_X} {d : Nat} {s : db_S} {a0 : Nat} {a1 : Nat} : db_Rf X (d + 0) dbm_148 0 (lv_args 0 [.ref (a0 + 4), .ref (a1 + 4)]) [] s (db_yB s) (db_f148 s (a0 + 4) (a1 + 4)) := by
  show db_Rf _ _ _ 0 [(0, .ref (a0 + 4)), (1, .ref (a1 + 4))] [] _ _ _
  unfold db_f148
  refine db_Rgo (pc' := 2) (lv' := [(0, .ref (a0 + 4)), (1, .ref (a1 + 4))]) (st' := [.int (3 : Int32), .ref (a0 + 4)]) 2 rfl ?_
  refine db_RldI (pc' := 3) (lv1 := [(0, .ref (a0 + 4)), (1, .ref (a1 + 4))]) rfl rfl rfl fun x1 => ?_
  refine db_Rgo (pc' := 6) (lv' := [(2, .int x1), (0, .ref (a0 + 4)), (1, .ref (a1 + 4))]) (st' := [.int (-1 : Int32), .int x1]) 3 rfl ?_
  refine db_Ric (pc' := 9) (tg := 30) (lv1 := [(2, .int x1), (0, .ref (a0 + 4)), (1, .ref (a1 + 4))]) rfl rfl rfl rfl ?_ ?_
  · refine db_Rgo (pc' := 35) (lv' := []) (st' := [.int (1 : Int32)]) 2 rfl ?_
    exact db_Rret (lv1 := []) rfl rfl rfl rfl
  refine db_Rgo (pc' := 12) (lv' := [(2, .int x1), (0, .ref (a0 + 4)), (1, .ref (a1 + 4))]) (st' := [.int (0 : Int32), .ref (a0 + 4), .int x1]) 3 rfl ?_
  refine db_RldI (pc' := 13) (lv1 := [(2, .int x1), (0, .ref (a0 + 4)), (1, .ref (a1 + 4))]) rfl rfl rfl fun x2 => ?_
  refine db_Ric (pc' := 16) (tg := 34) (lv1 := [(2, .int x1), (0, .ref (a0 + 4)), (1, .ref (a1 + 4))]) rfl rfl rfl rfl ?_ ?_
  · refine db_Rgo (pc' := 35) (lv' := []) (st' := [.int (0 : Int32)]) 1 rfl ?_
    exact db_Rret (lv1 := []) rfl rfl rfl rfl
  refine db_Rgo (pc' := 19) (lv' := [(2, .int x1), (0, .ref (a0 + 4)), (1, .ref (a1 + 4))]) (st' := [.int (2 : Int32), .ref (a0 + 4), .int x1]) 3 rfl ?_
  refine db_RldI (pc' := 20) (lv1 := [(2, .int x1), (0, .ref (a0 + 4)), (1, .ref (a1 + 4))]) rfl rfl rfl fun x3 => ?_
  refine db_Ric (pc' := 23) (tg := 34) (lv1 := [(2, .int x1), (0, .ref (a0 + 4)), (1, .ref (a1 + 4))]) rfl rfl rfl rfl ?_ ?_
  · refine db_Rgo (pc' := 35) (lv' := []) (st' := [.int (0 : Int32)]) 1 rfl ?_
    exact db_Rret (lv1 := []) rfl rfl rfl rfl
  refine db_Rgo (pc' := 26) (lv' := [(2, .int x1), (0, .ref (a0 + 4)), (1, .ref (a1 + 4))]) (st' := [.int (2 : Int32), .ref (a1 + 4), .int x1]) 3 rfl ?_
  refine db_RldI (pc' := 27) (lv1 := [(2, .int x1), (0, .ref (a0 + 4)), (1, .ref (a1 + 4))]) rfl rfl rfl fun x4 => ?_
  refine db_Ric (pc' := 30) (tg := 34) (lv1 := [(2, .int x1), (0, .ref (a0 + 4)), (1, .ref (a1 + 4))]) rfl rfl rfl rfl ?_ ?_
  · refine db_Rgo (pc' := 35) (lv' := []) (st' := [.int (0 : Int32)]) 1 rfl ?_
    exact db_Rret (lv1 := []) rfl rfl rfl rfl
  refine db_Rgo (pc' := 35) (lv' := []) (st' := [.int (1 : Int32)]) 2 rfl ?_
  exact db_Rret (lv1 := []) rfl rfl rfl rfl
noncomputable def db_f146_20_b46 (s : db_S) (a3 : Nat) (a4 : Nat) (t0 : Int32) : Option Bool :=
  (cond (db_cnd .eq t0 0) (some false) ((db_rI s a3 (0 : Int32)).bind fun x1 => ((db_rI s a4 (0 : Int32)).bind fun x2 => (cond (db_cnd .ne x1 x2) (some false) ((db_rI s a3 (4 : Int32)).bind fun x3 => ((db_rI s a4 (4 : Int32)).bind fun x4 => ((db_f147 s x3 x4).bind fun q5 => (cond q5 ((db_rI s a3 (5 : Int32)).bind fun x7 => ((db_rI s a4 (5 : Int32)).bind fun x8 => ((db_f147 s x7 x8).bind fun q9 => (cond q9 ((db_f148 s a3 a4).bind fun q11 => (cond q11 ((db_f148 s a4 a3).bind fun q13 => (cond q13 (some true) (some false))) (some false))) (some false))))) (some false)))))))))
set_option maxRecDepth 100000 in
theorem db_f146_20_b46_ok {X : db_X} {d : Nat}  {s : db_S} {a3 : Nat} {a4 : Nat} {t0 : Int32} : db_Rf X (d + 1) dbm_146 46 [(3, .ref (a3 + 4)), (4, .ref (a4 + 4))] [.int t0] s (db_yB s) (db_f146_20_b46 s (a3 + 4) (a4 + 4) t0) := by
  unfold db_f146_20_b46
  refine db_Rgo (pc' := 50) (lv' := [(5, .int t0), (3, .ref (a3 + 4)), (4, .ref (a4 + 4))]) (st' := [.int t0]) 2 rfl ?_
  refine db_Rif (pc' := 53) (tg := 111) (lv1 := [(5, .int t0), (3, .ref (a3 + 4)), (4, .ref (a4 + 4))]) rfl rfl rfl rfl ?_ ?_
  · refine db_Rgo (pc' := 112) (lv' := []) (st' := [.int (0 : Int32)]) 1 rfl ?_
    exact db_Rret (lv1 := []) rfl rfl rfl rfl
  refine db_Rgo (pc' := 55) (lv' := [(5, .int t0), (3, .ref (a3 + 4)), (4, .ref (a4 + 4))]) (st' := [.int (0 : Int32), .ref (a3 + 4)]) 2 rfl ?_
  refine db_RldI (pc' := 56) (lv1 := [(5, .int t0), (3, .ref (a3 + 4)), (4, .ref (a4 + 4))]) rfl rfl rfl fun x1 => ?_
  refine db_Rgo (pc' := 59) (lv' := [(5, .int t0), (3, .ref (a3 + 4)), (4, .ref (a4 + 4))]) (st' := [.int (0 : Int32), .ref (a4 + 4), .int x1]) 2 rfl ?_
  refine db_RldI (pc' := 60) (lv1 := [(5, .int t0), (3, .ref (a3 + 4)), (4, .ref (a4 + 4))]) rfl rfl rfl fun x2 => ?_
  refine db_Ric (pc' := 63) (tg := 111) (lv1 := [(5, .int t0), (3, .ref (a3 + 4)), (4, .ref (a4 + 4))]) rfl rfl rfl rfl ?_ ?_
  · refine db_Rgo (pc' := 112) (lv' := []) (st' := [.int (0 : Int32)]) 1 rfl ?_
    exact db_Rret (lv1 := []) rfl rfl rfl rfl
  refine db_Rgo (pc' := 65) (lv' := [(5, .int t0), (3, .ref (a3 + 4)), (4, .ref (a4 + 4))]) (st' := [.int (4 : Int32), .ref (a3 + 4)]) 2 rfl ?_
  refine db_RldI (pc' := 66) (lv1 := [(5, .int t0), (3, .ref (a3 + 4)), (4, .ref (a4 + 4))]) rfl rfl rfl fun x3 => ?_
  refine db_Rgo (pc' := 69) (lv' := [(5, .int t0), (3, .ref (a3 + 4)), (4, .ref (a4 + 4))]) (st' := [.int (4 : Int32), .ref (a4 + 4), .int x3]) 2 rfl ?_
  refine db_RldI (pc' := 70) (lv1 := [(5, .int t0), (3, .ref (a3 + 4)), (4, .ref (a4 + 4))]) rfl rfl rfl fun x4 => ?_
  refine db_RcyB (mr' := dbm_147) (as := [.int x3, .int x4]) (rest := []) (pc' := 73) (lv1 := [(5, .int t0), (3, .ref (a3 + 4)), (4, .ref (a4 + 4))]) rfl rfl rfl rfl rfl (db_f147_ok) fun q5 => ?_
  refine db_RifBe (pc' := 76) (tg := 111) (lv1 := [(5, .int t0), (3, .ref (a3 + 4)), (4, .ref (a4 + 4))]) rfl rfl rfl rfl ?_ ?_
  · refine db_Rgo (pc' := 112) (lv' := []) (st' := [.int (0 : Int32)]) 1 rfl ?_
    exact db_Rret (lv1 := []) rfl rfl rfl rfl
  refine db_Rgo (pc' := 78) (lv' := [(5, .int t0), (3, .ref (a3 + 4)), (4, .ref (a4 + 4))]) (st' := [.int (5 : Int32), .ref (a3 + 4)]) 2 rfl ?_
  refine db_RldI (pc' := 79) (lv1 := [(5, .int t0), (3, .ref (a3 + 4)), (4, .ref (a4 + 4))]) rfl rfl rfl fun x7 => ?_
  refine db_Rgo (pc' := 82) (lv' := [(5, .int t0), (3, .ref (a3 + 4)), (4, .ref (a4 + 4))]) (st' := [.int (5 : Int32), .ref (a4 + 4), .int x7]) 2 rfl ?_
  refine db_RldI (pc' := 83) (lv1 := [(5, .int t0), (3, .ref (a3 + 4)), (4, .ref (a4 + 4))]) rfl rfl rfl fun x8 => ?_
  refine db_RcyB (mr' := dbm_147) (as := [.int x7, .int x8]) (rest := []) (pc' := 86) (lv1 := [(5, .int t0), (3, .ref (a3 + 4)), (4, .ref (a4 + 4))]) rfl rfl rfl rfl rfl (db_f147_ok) fun q9 => ?_
  refine db_RifBe (pc' := 89) (tg := 111) (lv1 := [(5, .int t0), (3, .ref (a3 + 4)), (4, .ref (a4 + 4))]) rfl rfl rfl rfl ?_ ?_
  · refine db_Rgo (pc' := 112) (lv' := []) (st' := [.int (0 : Int32)]) 1 rfl ?_
    exact db_Rret (lv1 := []) rfl rfl rfl rfl
  refine db_Rgo (pc' := 92) (lv' := [(5, .int t0), (3, .ref (a3 + 4)), (4, .ref (a4 + 4))]) (st' := [.ref (a4 + 4), .ref (a3 + 4)]) 2 rfl ?_
  refine db_RcyB (mr' := dbm_148) (as := [.ref (a3 + 4), .ref (a4 + 4)]) (rest := []) (pc' := 95) (lv1 := [(5, .int t0), (3, .ref (a3 + 4)), (4, .ref (a4 + 4))]) rfl rfl rfl rfl rfl (db_f148_ok) fun q11 => ?_
  refine db_RifBe (pc' := 98) (tg := 111) (lv1 := [(5, .int t0), (3, .ref (a3 + 4)), (4, .ref (a4 + 4))]) rfl rfl rfl rfl ?_ ?_
  · refine db_Rgo (pc' := 112) (lv' := []) (st' := [.int (0 : Int32)]) 1 rfl ?_
    exact db_Rret (lv1 := []) rfl rfl rfl rfl
  refine db_Rgo (pc' := 101) (lv' := [(5, .int t0), (3, .ref (a3 + 4)), (4, .ref (a4 + 4))]) (st' := [.ref (a3 + 4), .ref (a4 + 4)]) 2 rfl ?_
  refine db_RcyB (mr' := dbm_148) (as := [.ref (a4 + 4), .ref (a3 + 4)]) (rest := []) (pc' := 104) (lv1 := [(5, .int t0), (3, .ref (a3 + 4)), (4, .ref (a4 + 4))]) rfl rfl rfl rfl rfl (db_f148_ok) fun q13 => ?_
  refine db_RifBe (pc' := 107) (tg := 111) (lv1 := [(5, .int t0), (3, .ref (a3 + 4)), (4, .ref (a4 + 4))]) rfl rfl rfl rfl ?_ ?_
  · refine db_Rgo (pc' := 112) (lv' := []) (st' := [.int (0 : Int32)]) 1 rfl ?_
    exact db_Rret (lv1 := []) rfl rfl rfl rfl
  refine db_Rgo (pc' := 112) (lv' := [(5, .int t0), (3, .ref (a3 + 4)), (4, .ref (a4 + 4))]) (st' := [.int (1 : Int32)]) 2 rfl ?_
  exact db_Rret (lv1 := []) rfl rfl rfl rfl
noncomputable def db_f146_20_b41 (s : db_S) (a3 : Nat) (a4 : Nat) : Option Bool :=
  (db_f146_20_b46 s a3 a4 (1 : Int32))
set_option maxRecDepth 100000 in
theorem db_f146_20_b41_ok {X : db_X} {d : Nat}  {s : db_S} {a3 : Nat} {a4 : Nat} : db_Rf X (d + 1) dbm_146 41 [(3, .ref (a3 + 4)), (4, .ref (a4 + 4))] [] s (db_yB s) (db_f146_20_b41 s (a3 + 4) (a4 + 4)) := by
  unfold db_f146_20_b41
  refine db_Rgo (pc' := 46) (lv' := [(3, .ref (a3 + 4)), (4, .ref (a4 + 4))]) (st' := [.int (1 : Int32)]) 2 rfl ?_
  exact db_f146_20_b46_ok
noncomputable def db_f146_20_b45 (s : db_S) (a3 : Nat) (a4 : Nat) : Option Bool :=
  (db_f146_20_b46 s a3 a4 (0 : Int32))
set_option maxRecDepth 100000 in
theorem db_f146_20_b45_ok {X : db_X} {d : Nat}  {s : db_S} {a3 : Nat} {a4 : Nat} : db_Rf X (d + 1) dbm_146 45 [(3, .ref (a3 + 4)), (4, .ref (a4 + 4))] [] s (db_yB s) (db_f146_20_b45 s (a3 + 4) (a4 + 4)) := by
  unfold db_f146_20_b45
  refine db_Rgo (pc' := 46) (lv' := [(3, .ref (a3 + 4)), (4, .ref (a4 + 4))]) (st' := [.int (0 : Int32)]) 1 rfl ?_
  exact db_f146_20_b46_ok
noncomputable def db_f146_20_b28 (s : db_S) (a3 : Nat) (a4 : Nat) : Option Bool :=
  ((db_rI s a3 (1 : Int32)).bind fun x1 => (cond (db_cnd .ge x1 0) (db_f146_20_b45 s a3 a4) ((db_rI s a4 (1 : Int32)).bind fun x2 => (cond (db_cnd .le x2 0) (db_f146_20_b45 s a3 a4) (db_f146_20_b41 s a3 a4)))))
set_option maxRecDepth 100000 in
theorem db_f146_20_b28_ok {X : db_X} {d : Nat}  {s : db_S} {a3 : Nat} {a4 : Nat} : db_Rf X (d + 1) dbm_146 28 [(3, .ref (a3 + 4)), (4, .ref (a4 + 4))] [] s (db_yB s) (db_f146_20_b28 s (a3 + 4) (a4 + 4)) := by
  unfold db_f146_20_b28
  refine db_Rgo (pc' := 30) (lv' := [(3, .ref (a3 + 4)), (4, .ref (a4 + 4))]) (st' := [.int (1 : Int32), .ref (a3 + 4)]) 2 rfl ?_
  refine db_RldI (pc' := 31) (lv1 := [(3, .ref (a3 + 4)), (4, .ref (a4 + 4))]) rfl rfl rfl fun x1 => ?_
  refine db_Rif (pc' := 34) (tg := 45) (lv1 := [(3, .ref (a3 + 4)), (4, .ref (a4 + 4))]) rfl rfl rfl rfl ?_ ?_
  · exact db_f146_20_b45_ok
  refine db_Rgo (pc' := 37) (lv' := [(3, .ref (a3 + 4)), (4, .ref (a4 + 4))]) (st' := [.int (1 : Int32), .ref (a4 + 4)]) 2 rfl ?_
  refine db_RldI (pc' := 38) (lv1 := [(3, .ref (a3 + 4)), (4, .ref (a4 + 4))]) rfl rfl rfl fun x2 => ?_
  refine db_Rif (pc' := 41) (tg := 45) (lv1 := [(3, .ref (a3 + 4)), (4, .ref (a4 + 4))]) rfl rfl rfl rfl ?_ ?_
  · exact db_f146_20_b45_ok
  exact db_f146_20_b41_ok
/-- DreamBook$Told.clash(II)Z -/
noncomputable def db_f146_20 (s : db_S) (v1 : Int32) (v2 : Int32) : Option Bool :=
  ((db_rR 24 v1).bind fun y1 => ((db_rR 24 v2).bind fun y2 => ((db_rI s y1 (1 : Int32)).bind fun x3 => (cond (db_cnd .le x3 0) (db_f146_20_b28 s y1 y2) ((db_rI s y2 (1 : Int32)).bind fun x4 => (cond (db_cnd .lt x4 0) (db_f146_20_b41 s y1 y2) (db_f146_20_b28 s y1 y2)))))))
set_option maxRecDepth 100000 in
theorem db_f146_20_ok {X : db_X} {d : Nat} {s : db_S} {v1 : Int32} {v2 : Int32} : db_Rf X (d + 1) dbm_146 0 (lv_args 0 [.ref 20, .int v1, .int v2]) [] s (db_yB s) (db_f146_20 s v1 v2) := by
  show db_Rf _ _ _ 0 [(0, .ref 20), (1, .int v1), (2, .int v2)] [] _ _ _
  unfold db_f146_20
  refine db_Rgo (pc' := 5) (lv' := [(0, .ref 20), (1, .int v1), (2, .int v2)]) (st' := [.int v1, .ref 24]) 3 rfl ?_
  refine db_RldR (pc' := 6) (lv1 := [(0, .ref 20), (1, .int v1), (2, .int v2)]) rfl rfl rfl fun y1 => ?_
  refine db_Rgo (pc' := 12) (lv' := [(3, .ref (y1 + 4)), (0, .ref 20), (1, .int v1), (2, .int v2)]) (st' := [.int v2, .ref 24]) 4 rfl ?_
  refine db_RldR (pc' := 13) (lv1 := [(3, .ref (y1 + 4)), (0, .ref 20), (1, .int v1), (2, .int v2)]) rfl rfl rfl fun y2 => ?_
  refine db_Rgo (pc' := 17) (lv' := [(4, .ref (y2 + 4)), (3, .ref (y1 + 4)), (0, .ref 20), (1, .int v1), (2, .int v2)]) (st' := [.int (1 : Int32), .ref (y1 + 4)]) 3 rfl ?_
  refine db_RldI (pc' := 18) (lv1 := [(4, .ref (y2 + 4)), (3, .ref (y1 + 4)), (0, .ref 20), (1, .int v1), (2, .int v2)]) rfl rfl rfl fun x3 => ?_
  refine db_Rif (pc' := 21) (tg := 28) (lv1 := [(4, .ref (y2 + 4)), (3, .ref (y1 + 4)), (0, .ref 20), (1, .int v1), (2, .int v2)]) rfl rfl rfl rfl ?_ ?_
  · refine db_Rn (lv1 := [(3, .ref (y1 + 4)), (4, .ref (y2 + 4))]) rfl rfl rfl ?_
    exact db_f146_20_b28_ok
  refine db_Rgo (pc' := 24) (lv' := [(4, .ref (y2 + 4)), (3, .ref (y1 + 4)), (0, .ref 20), (1, .int v1), (2, .int v2)]) (st' := [.int (1 : Int32), .ref (y2 + 4)]) 2 rfl ?_
  refine db_RldI (pc' := 25) (lv1 := [(4, .ref (y2 + 4)), (3, .ref (y1 + 4)), (0, .ref 20), (1, .int v1), (2, .int v2)]) rfl rfl rfl fun x4 => ?_
  refine db_Rif (pc' := 28) (tg := 41) (lv1 := [(4, .ref (y2 + 4)), (3, .ref (y1 + 4)), (0, .ref 20), (1, .int v1), (2, .int v2)]) rfl rfl rfl rfl ?_ ?_
  · refine db_Rn (lv1 := [(3, .ref (y1 + 4)), (4, .ref (y2 + 4))]) rfl rfl rfl ?_
    exact db_f146_20_b41_ok
  refine db_Rn (lv1 := [(3, .ref (y1 + 4)), (4, .ref (y2 + 4))]) rfl rfl rfl ?_
  exact db_f146_20_b28_ok
noncomputable def db_f144_b35 (s : db_S) (t1 : Int32) : Option (Int32 × db_S) :=
  (db_bd (db_f87 s t1) fun q1 s2 => (some (q1, s2)))
set_option maxRecDepth 100000 in
theorem db_f144_b35_ok {X : db_X} {d : Nat}  {s : db_S} {t1 : Int32} : db_Rf X (d + 2) dbm_144 35 [] [.int t1, .ref 4] s db_zI (db_f144_b35 s t1) := by
  unfold db_f144_b35
  refine db_RcdI (mr' := dbm_87) (as := [.ref 4, .int t1]) (rest := []) (pc' := 38) (lv1 := []) rfl rfl rfl rfl rfl (db_f87_ok) fun q1 s2 => ?_
  exact db_Rret (lv1 := []) rfl rfl rfl rfl
/-- DreamBook.quarrel(II)I -/
noncomputable def db_f144 (s : db_S) (v1 : Int32) (v2 : Int32) : Option (Int32 × db_S) :=
  ((db_f145 s v1 v2).bind fun q1 => (cond (db_cnd .eq q1 0) ((db_f146_20 s v1 v2).bind fun q3 => (cond q3 (db_f144_b35 s (1 : Int32)) (db_f144_b35 s (0 : Int32)))) (db_bd (db_f37 s q1) fun q5 s6 => (some (q5, s6)))))
set_option maxRecDepth 100000 in
theorem db_f144_ok {X : db_X} {d : Nat} {s : db_S} {v1 : Int32} {v2 : Int32} : db_Rf X (d + 2) dbm_144 0 (lv_args 0 [.ref 4, .int v1, .int v2]) [] s db_zI (db_f144 s v1 v2) := by
  show db_Rf _ _ _ 0 [(0, .ref 4), (1, .int v1), (2, .int v2)] [] _ _ _
  unfold db_f144
  refine db_Rgo (pc' := 3) (lv' := [(0, .ref 4), (1, .int v1), (2, .int v2)]) (st' := [.int v2, .int v1, .ref 4]) 3 rfl ?_
  refine db_RcyI (mr' := dbm_145) (as := [.ref 4, .int v1, .int v2]) (rest := []) (pc' := 6) (lv1 := [(0, .ref 4), (1, .int v1), (2, .int v2)]) rfl rfl rfl rfl rfl (db_f145_ok) fun q1 => ?_
  refine db_Rgo (pc' := 8) (lv' := [(3, .int q1), (0, .ref 4), (1, .int v1), (2, .int v2)]) (st' := [.int q1]) 2 rfl ?_
  refine db_Rif (pc' := 11) (tg := 17) (lv1 := [(3, .int q1), (0, .ref 4), (1, .int v1), (2, .int v2)]) rfl rfl rfl rfl ?_ ?_
  · refine db_Rgo (pc' := 24) (lv' := [(0, .ref 4), (1, .int v1), (2, .int v2)]) (st' := [.int v2, .int v1, .ref 20, .ref 4]) 5 rfl ?_
    refine db_RcyB (mr' := dbm_146) (as := [.ref 20, .int v1, .int v2]) (rest := [.ref 4]) (pc' := 27) (lv1 := [(0, .ref 4), (1, .int v1), (2, .int v2)]) rfl rfl rfl rfl rfl (db_f146_20_ok) fun q3 => ?_
    refine db_RifBe (pc' := 30) (tg := 34) (lv1 := [(0, .ref 4), (1, .int v1), (2, .int v2)]) rfl rfl rfl rfl ?_ ?_
    · refine db_Rgo (pc' := 35) (lv' := []) (st' := [.int (0 : Int32), .ref 4]) 1 rfl ?_
      exact db_f144_b35_ok
    refine db_Rgo (pc' := 35) (lv' := [(0, .ref 4), (1, .int v1), (2, .int v2)]) (st' := [.int (1 : Int32), .ref 4]) 2 rfl ?_
    refine db_Rn (lv1 := []) rfl rfl rfl ?_
    exact db_f144_b35_ok
  refine db_Rgo (pc' := 13) (lv' := [(3, .int q1), (0, .ref 4), (1, .int v1), (2, .int v2)]) (st' := [.int q1, .ref 4]) 2 rfl ?_
  refine db_RcdI (mr' := dbm_37) (as := [.ref 4, .int q1]) (rest := []) (pc' := 16) (lv1 := [(3, .int q1), (0, .ref 4), (1, .int v1), (2, .int v2)]) rfl rfl rfl rfl rfl (db_f37_ok) fun q5 s6 => ?_
  exact db_Rret (lv1 := [(3, .int q1), (0, .ref 4), (1, .int v1), (2, .int v2)]) rfl rfl rfl rfl
/-- DreamBookModel.isFree(II)Z -/
noncomputable def db_f337 (s : db_S) (v1 : Int32) (v2 : Int32) : Option Bool :=
  (cond (db_cnd .lt v1 0) (some true) (cond (db_cnd .lt v2 0) (some true) (cond (db_cnd .ne v1 v2) (some false) (some true))))
set_option maxRecDepth 100000 in
theorem db_f337_ok {X : db_X} {d : Nat} {s : db_S} {v1 : Int32} {v2 : Int32} : db_Rf X (d + 0) dbm_337 0 (lv_args 0 [.ref 669, .int v1, .int v2]) [] s (db_yB s) (db_f337 s v1 v2) := by
  show db_Rf _ _ _ 0 [(0, .ref 669), (1, .int v1), (2, .int v2)] [] _ _ _
  unfold db_f337
  refine db_Rgo (pc' := 1) (lv' := [(0, .ref 669), (1, .int v1), (2, .int v2)]) (st' := [.int v1]) 1 rfl ?_
  refine db_Rif (pc' := 4) (tg := 13) (lv1 := [(0, .ref 669), (1, .int v1), (2, .int v2)]) rfl rfl rfl rfl ?_ ?_
  · refine db_Rgo (pc' := 18) (lv' := []) (st' := [.int (1 : Int32)]) 2 rfl ?_
    exact db_Rret (lv1 := []) rfl rfl rfl rfl
  refine db_Rgo (pc' := 5) (lv' := [(0, .ref 669), (1, .int v1), (2, .int v2)]) (st' := [.int v2]) 1 rfl ?_
  refine db_Rif (pc' := 8) (tg := 13) (lv1 := [(0, .ref 669), (1, .int v1), (2, .int v2)]) rfl rfl rfl rfl ?_ ?_
  · refine db_Rgo (pc' := 18) (lv' := []) (st' := [.int (1 : Int32)]) 2 rfl ?_
    exact db_Rret (lv1 := []) rfl rfl rfl rfl
  refine db_Rgo (pc' := 10) (lv' := [(0, .ref 669), (1, .int v1), (2, .int v2)]) (st' := [.int v2, .int v1]) 2 rfl ?_
  refine db_Ric (pc' := 13) (tg := 17) (lv1 := [(0, .ref 669), (1, .int v1), (2, .int v2)]) rfl rfl rfl rfl ?_ ?_
  · refine db_Rgo (pc' := 18) (lv' := []) (st' := [.int (0 : Int32)]) 1 rfl ?_
    exact db_Rret (lv1 := []) rfl rfl rfl rfl
  refine db_Rgo (pc' := 18) (lv' := []) (st' := [.int (1 : Int32)]) 2 rfl ?_
  exact db_Rret (lv1 := []) rfl rfl rfl rfl
/-- DreamBookModel.isQuiet(II)Z -/
noncomputable def db_f338 (s : db_S) (v1 : Int32) (v2 : Int32) : Option Bool :=
  ((db_rI s 674 ((55 : Int32) + v1)).bind fun x1 => (cond (db_cnd .lt x1 0) (some true) ((db_rI s 674 ((19 : Int32) + v1)).bind fun x2 => (cond (db_cnd .eq x1 x2) (some false) ((db_rI s 674 ((43 : Int32) + v1)).bind fun x3 => (cond (db_cnd .eq x1 x3) (some false) ((db_rI s 674 ((43 : Int32) + v2)).bind fun x4 => (cond (db_cnd .eq x1 x4) (some false) (some true)))))))))
set_option maxRecDepth 100000 in
theorem db_f338_ok {X : db_X} {d : Nat} {s : db_S} {v1 : Int32} {v2 : Int32} : db_Rf X (d + 0) dbm_338 0 (lv_args 0 [.ref 669, .int v1, .int v2]) [] s (db_yB s) (db_f338 s v1 v2) := by
  show db_Rf _ _ _ 0 [(0, .ref 669), (1, .int v1), (2, .int v2)] [] _ _ _
  unfold db_f338
  refine db_Rgo (pc' := 8) (lv' := [(0, .ref 669), (1, .int v1), (2, .int v2)]) (st' := [.int ((55 : Int32) + v1), .ref 674]) 5 rfl ?_
  refine db_RldI (pc' := 9) (lv1 := [(0, .ref 669), (1, .int v1), (2, .int v2)]) rfl rfl rfl fun x1 => ?_
  refine db_Rgo (pc' := 11) (lv' := [(3, .int x1), (0, .ref 669), (1, .int v1), (2, .int v2)]) (st' := [.int x1]) 2 rfl ?_
  refine db_Rif (pc' := 14) (tg := 53) (lv1 := [(3, .int x1), (0, .ref 669), (1, .int v1), (2, .int v2)]) rfl rfl rfl rfl ?_ ?_
  · refine db_Rgo (pc' := 58) (lv' := []) (st' := [.int (1 : Int32)]) 2 rfl ?_
    exact db_Rret (lv1 := []) rfl rfl rfl rfl
  refine db_Rgo (pc' := 23) (lv' := [(3, .int x1), (0, .ref 669), (1, .int v1), (2, .int v2)]) (st' := [.int ((19 : Int32) + v1), .ref 674, .int x1]) 6 rfl ?_
  refine db_RldI (pc' := 24) (lv1 := [(3, .int x1), (0, .ref 669), (1, .int v1), (2, .int v2)]) rfl rfl rfl fun x2 => ?_
  refine db_Ric (pc' := 27) (tg := 57) (lv1 := [(3, .int x1), (0, .ref 669), (1, .int v1), (2, .int v2)]) rfl rfl rfl rfl ?_ ?_
  · refine db_Rgo (pc' := 58) (lv' := []) (st' := [.int (0 : Int32)]) 1 rfl ?_
    exact db_Rret (lv1 := []) rfl rfl rfl rfl
  refine db_Rgo (pc' := 36) (lv' := [(3, .int x1), (0, .ref 669), (1, .int v1), (2, .int v2)]) (st' := [.int ((43 : Int32) + v1), .ref 674, .int x1]) 6 rfl ?_
  refine db_RldI (pc' := 37) (lv1 := [(3, .int x1), (0, .ref 669), (1, .int v1), (2, .int v2)]) rfl rfl rfl fun x3 => ?_
  refine db_Ric (pc' := 40) (tg := 57) (lv1 := [(3, .int x1), (0, .ref 669), (1, .int v1), (2, .int v2)]) rfl rfl rfl rfl ?_ ?_
  · refine db_Rgo (pc' := 58) (lv' := []) (st' := [.int (0 : Int32)]) 1 rfl ?_
    exact db_Rret (lv1 := []) rfl rfl rfl rfl
  refine db_Rgo (pc' := 49) (lv' := [(3, .int x1), (0, .ref 669), (1, .int v1), (2, .int v2)]) (st' := [.int ((43 : Int32) + v2), .ref 674, .int x1]) 6 rfl ?_
  refine db_RldI (pc' := 50) (lv1 := [(3, .int x1), (0, .ref 669), (1, .int v1), (2, .int v2)]) rfl rfl rfl fun x4 => ?_
  refine db_Ric (pc' := 53) (tg := 57) (lv1 := [(3, .int x1), (0, .ref 669), (1, .int v1), (2, .int v2)]) rfl rfl rfl rfl ?_ ?_
  · refine db_Rgo (pc' := 58) (lv' := []) (st' := [.int (0 : Int32)]) 1 rfl ?_
    exact db_Rret (lv1 := []) rfl rfl rfl rfl
  refine db_Rgo (pc' := 58) (lv' := []) (st' := [.int (1 : Int32)]) 2 rfl ?_
  exact db_Rret (lv1 := []) rfl rfl rfl rfl
/-- DreamBookModel.quarrels2(II)Z -/
noncomputable def db_f336 (s : db_S) (v1 : Int32) (v2 : Int32) : Option Bool :=
  (cond (db_cnd .eq v1 v2) (some false) ((db_rI s 674 ((19 : Int32) + v1)).bind fun x1 => ((db_rI s 674 ((19 : Int32) + v2)).bind fun x2 => (cond (db_cnd .ne x1 x2) (some false) ((db_rI s 674 ((31 : Int32) + v1)).bind fun x3 => ((db_rI s 674 ((31 : Int32) + v2)).bind fun x4 => (cond (db_cnd .lt (x3 * x4) 0) ((db_rI s 674 ((67 : Int32) + v1)).bind fun x5 => ((db_rI s 674 ((67 : Int32) + v2)).bind fun x6 => ((db_f337 s x5 x6).bind fun q7 => (cond q7 ((db_rI s 674 ((79 : Int32) + v1)).bind fun x9 => ((db_rI s 674 ((79 : Int32) + v2)).bind fun x10 => ((db_f337 s x9 x10).bind fun q11 => (cond q11 ((db_f338 s v1 v2).bind fun q13 => (cond q13 ((db_f338 s v2 v1).bind fun q15 => (cond q15 (some true) (some false))) (some false))) (some false))))) (some false))))) (some false))))))))
set_option maxRecDepth 100000 in
theorem db_f336_ok {X : db_X} {d : Nat} {s : db_S} {v1 : Int32} {v2 : Int32} : db_Rf X (d + 1) dbm_336 0 (lv_args 0 [.ref 669, .int v1, .int v2]) [] s (db_yB s) (db_f336 s v1 v2) := by
  show db_Rf _ _ _ 0 [(0, .ref 669), (1, .int v1), (2, .int v2)] [] _ _ _
  unfold db_f336
  refine db_Rgo (pc' := 2) (lv' := [(0, .ref 669), (1, .int v1), (2, .int v2)]) (st' := [.int v2, .int v1]) 2 rfl ?_
  refine db_Ric (pc' := 5) (tg := 48) (lv1 := [(0, .ref 669), (1, .int v1), (2, .int v2)]) rfl rfl rfl rfl ?_ ?_
  · refine db_Rgo (pc' := 49) (lv' := []) (st' := [.int (0 : Int32)]) 1 rfl ?_
    exact db_Rret (lv1 := []) rfl rfl rfl rfl
  refine db_Rgo (pc' := 13) (lv' := [(0, .ref 669), (1, .int v1), (2, .int v2)]) (st' := [.int ((19 : Int32) + v1), .ref 674]) 5 rfl ?_
  refine db_RldI (pc' := 14) (lv1 := [(0, .ref 669), (1, .int v1), (2, .int v2)]) rfl rfl rfl fun x1 => ?_
  refine db_Rgo (pc' := 22) (lv' := [(0, .ref 669), (1, .int v1), (2, .int v2)]) (st' := [.int ((19 : Int32) + v2), .ref 674, .int x1]) 5 rfl ?_
  refine db_RldI (pc' := 23) (lv1 := [(0, .ref 669), (1, .int v1), (2, .int v2)]) rfl rfl rfl fun x2 => ?_
  refine db_Ric (pc' := 26) (tg := 48) (lv1 := [(0, .ref 669), (1, .int v1), (2, .int v2)]) rfl rfl rfl rfl ?_ ?_
  · refine db_Rgo (pc' := 49) (lv' := []) (st' := [.int (0 : Int32)]) 1 rfl ?_
    exact db_Rret (lv1 := []) rfl rfl rfl rfl
  refine db_Rgo (pc' := 34) (lv' := [(0, .ref 669), (1, .int v1), (2, .int v2)]) (st' := [.int ((31 : Int32) + v1), .ref 674]) 5 rfl ?_
  refine db_RldI (pc' := 35) (lv1 := [(0, .ref 669), (1, .int v1), (2, .int v2)]) rfl rfl rfl fun x3 => ?_
  refine db_Rgo (pc' := 43) (lv' := [(0, .ref 669), (1, .int v1), (2, .int v2)]) (st' := [.int ((31 : Int32) + v2), .ref 674, .int x3]) 5 rfl ?_
  refine db_RldI (pc' := 44) (lv1 := [(0, .ref 669), (1, .int v1), (2, .int v2)]) rfl rfl rfl fun x4 => ?_
  refine db_Rgo (pc' := 45) (lv' := [(0, .ref 669), (1, .int v1), (2, .int v2)]) (st' := [.int (x3 * x4)]) 1 rfl ?_
  refine db_Rif (pc' := 48) (tg := 50) (lv1 := [(0, .ref 669), (1, .int v1), (2, .int v2)]) rfl rfl rfl rfl ?_ ?_
  · refine db_Rgo (pc' := 59) (lv' := [(0, .ref 669), (1, .int v1), (2, .int v2)]) (st' := [.int ((67 : Int32) + v1), .ref 674, .ref 669]) 6 rfl ?_
    refine db_RldI (pc' := 60) (lv1 := [(0, .ref 669), (1, .int v1), (2, .int v2)]) rfl rfl rfl fun x5 => ?_
    refine db_Rgo (pc' := 68) (lv' := [(0, .ref 669), (1, .int v1), (2, .int v2)]) (st' := [.int ((67 : Int32) + v2), .ref 674, .int x5, .ref 669]) 5 rfl ?_
    refine db_RldI (pc' := 69) (lv1 := [(0, .ref 669), (1, .int v1), (2, .int v2)]) rfl rfl rfl fun x6 => ?_
    refine db_RcyB (mr' := dbm_337) (as := [.ref 669, .int x5, .int x6]) (rest := []) (pc' := 72) (lv1 := [(0, .ref 669), (1, .int v1), (2, .int v2)]) rfl rfl rfl rfl rfl (db_f337_ok) fun q7 => ?_
    refine db_RifBe (pc' := 75) (tg := 122) (lv1 := [(0, .ref 669), (1, .int v1), (2, .int v2)]) rfl rfl rfl rfl ?_ ?_
    · refine db_Rgo (pc' := 123) (lv' := []) (st' := [.int (0 : Int32)]) 1 rfl ?_
      exact db_Rret (lv1 := []) rfl rfl rfl rfl
    refine db_Rgo (pc' := 84) (lv' := [(0, .ref 669), (1, .int v1), (2, .int v2)]) (st' := [.int ((79 : Int32) + v1), .ref 674, .ref 669]) 6 rfl ?_
    refine db_RldI (pc' := 85) (lv1 := [(0, .ref 669), (1, .int v1), (2, .int v2)]) rfl rfl rfl fun x9 => ?_
    refine db_Rgo (pc' := 93) (lv' := [(0, .ref 669), (1, .int v1), (2, .int v2)]) (st' := [.int ((79 : Int32) + v2), .ref 674, .int x9, .ref 669]) 5 rfl ?_
    refine db_RldI (pc' := 94) (lv1 := [(0, .ref 669), (1, .int v1), (2, .int v2)]) rfl rfl rfl fun x10 => ?_
    refine db_RcyB (mr' := dbm_337) (as := [.ref 669, .int x9, .int x10]) (rest := []) (pc' := 97) (lv1 := [(0, .ref 669), (1, .int v1), (2, .int v2)]) rfl rfl rfl rfl rfl (db_f337_ok) fun q11 => ?_
    refine db_RifBe (pc' := 100) (tg := 122) (lv1 := [(0, .ref 669), (1, .int v1), (2, .int v2)]) rfl rfl rfl rfl ?_ ?_
    · refine db_Rgo (pc' := 123) (lv' := []) (st' := [.int (0 : Int32)]) 1 rfl ?_
      exact db_Rret (lv1 := []) rfl rfl rfl rfl
    refine db_Rgo (pc' := 103) (lv' := [(0, .ref 669), (1, .int v1), (2, .int v2)]) (st' := [.int v2, .int v1, .ref 669]) 3 rfl ?_
    refine db_RcyB (mr' := dbm_338) (as := [.ref 669, .int v1, .int v2]) (rest := []) (pc' := 106) (lv1 := [(0, .ref 669), (1, .int v1), (2, .int v2)]) rfl rfl rfl rfl rfl (db_f338_ok) fun q13 => ?_
    refine db_RifBe (pc' := 109) (tg := 122) (lv1 := [(0, .ref 669), (1, .int v1), (2, .int v2)]) rfl rfl rfl rfl ?_ ?_
    · refine db_Rgo (pc' := 123) (lv' := []) (st' := [.int (0 : Int32)]) 1 rfl ?_
      exact db_Rret (lv1 := []) rfl rfl rfl rfl
    refine db_Rgo (pc' := 112) (lv' := [(0, .ref 669), (1, .int v1), (2, .int v2)]) (st' := [.int v1, .int v2, .ref 669]) 3 rfl ?_
    refine db_RcyB (mr' := dbm_338) (as := [.ref 669, .int v2, .int v1]) (rest := []) (pc' := 115) (lv1 := [(0, .ref 669), (1, .int v1), (2, .int v2)]) rfl rfl rfl rfl rfl (db_f338_ok) fun q15 => ?_
    refine db_RifBe (pc' := 118) (tg := 122) (lv1 := [(0, .ref 669), (1, .int v1), (2, .int v2)]) rfl rfl rfl rfl ?_ ?_
    · refine db_Rgo (pc' := 123) (lv' := []) (st' := [.int (0 : Int32)]) 1 rfl ?_
      exact db_Rret (lv1 := []) rfl rfl rfl rfl
    refine db_Rgo (pc' := 123) (lv' := [(0, .ref 669), (1, .int v1), (2, .int v2)]) (st' := [.int (1 : Int32)]) 2 rfl ?_
    exact db_Rret (lv1 := []) rfl rfl rfl rfl
  refine db_Rgo (pc' := 49) (lv' := []) (st' := [.int (0 : Int32)]) 1 rfl ?_
  exact db_Rret (lv1 := []) rfl rfl rfl rfl
noncomputable def db_f335_b26 (s : db_S) : Option (Int32 × db_S) :=
  (db_bd (db_f281 s (2 : Int32)) fun q1 s2 => (some (q1, s2)))
set_option maxRecDepth 100000 in
theorem db_f335_b26_ok {X : db_X} {d : Nat}  {s : db_S} : db_Rf X (d + 2) dbm_335 26 [(0, .ref 669)] [] s db_zI (db_f335_b26 s ) := by
  unfold db_f335_b26
  refine db_Rgo (pc' := 28) (lv' := [(0, .ref 669)]) (st' := [.int (2 : Int32), .ref 669]) 2 rfl ?_
  refine db_RcdI (mr' := dbm_281) (as := [.ref 669, .int (2 : Int32)]) (rest := []) (pc' := 31) (lv1 := [(0, .ref 669)]) rfl rfl rfl rfl rfl (db_f281_ok) fun q1 s2 => ?_
  exact db_Rret (lv1 := [(0, .ref 669)]) rfl rfl rfl rfl
/-- DreamBookModel.quarrel(II)I -/
noncomputable def db_f335 (s : db_S) (v1 : Int32) (v2 : Int32) : Option (Int32 × db_S) :=
  ((db_pI s 669 1 (0 : Int32)).bind fun s1 => ((db_pI s1 669 0 (0 : Int32)).bind fun s2 => ((db_f289 s2 v1).bind fun q3 => (cond q3 ((db_f289 s2 v2).bind fun q5 => (cond q5 (cond (db_cnd .ne v1 v2) ((db_f336 s2 v1 v2).bind fun q7 => (cond q7 (some ((1 : Int32), s2)) (some ((0 : Int32), s2)))) (db_bd (db_f281 s2 (5 : Int32)) fun q9 s10 => (some (q9, s10)))) (db_f335_b26 s2 ))) (db_f335_b26 s2 )))))
set_option maxRecDepth 100000 in
theorem db_f335_ok {X : db_X} {d : Nat} {s : db_S} {v1 : Int32} {v2 : Int32} : db_Rf X (d + 2) dbm_335 0 (lv_args 0 [.ref 669, .int v1, .int v2]) [] s db_zI (db_f335 s v1 v2) := by
  show db_Rf _ _ _ 0 [(0, .ref 669), (1, .int v1), (2, .int v2)] [] _ _ _
  unfold db_f335
  refine db_Rgo (pc' := 2) (lv' := [(0, .ref 669), (1, .int v1), (2, .int v2)]) (st' := [.int (0 : Int32), .ref 669]) 2 rfl ?_
  refine db_RpuI (pc' := 5) (lv1 := [(0, .ref 669), (1, .int v1), (2, .int v2)]) rfl rfl rfl rfl rfl rfl (by decide) rfl rfl fun s1 => ?_
  refine db_Rgo (pc' := 7) (lv' := [(0, .ref 669), (1, .int v1), (2, .int v2)]) (st' := [.int (0 : Int32), .ref 669]) 2 rfl ?_
  refine db_RpuI (pc' := 10) (lv1 := [(0, .ref 669), (1, .int v1), (2, .int v2)]) rfl rfl rfl rfl rfl rfl (by decide) rfl rfl fun s2 => ?_
  refine db_Rgo (pc' := 12) (lv' := [(0, .ref 669), (1, .int v1), (2, .int v2)]) (st' := [.int v1, .ref 669]) 2 rfl ?_
  refine db_RcyB (mr' := dbm_289) (as := [.ref 669, .int v1]) (rest := []) (pc' := 15) (lv1 := [(0, .ref 669), (1, .int v1), (2, .int v2)]) rfl rfl rfl rfl rfl (db_f289_ok) fun q3 => ?_
  refine db_RifBe (pc' := 18) (tg := 26) (lv1 := [(0, .ref 669), (1, .int v1), (2, .int v2)]) rfl rfl rfl rfl ?_ ?_
  · refine db_Rn (lv1 := [(0, .ref 669)]) rfl rfl rfl ?_
    exact db_f335_b26_ok
  refine db_Rgo (pc' := 20) (lv' := [(0, .ref 669), (1, .int v1), (2, .int v2)]) (st' := [.int v2, .ref 669]) 2 rfl ?_
  refine db_RcyB (mr' := dbm_289) (as := [.ref 669, .int v2]) (rest := []) (pc' := 23) (lv1 := [(0, .ref 669), (1, .int v1), (2, .int v2)]) rfl rfl rfl rfl rfl (db_f289_ok) fun q5 => ?_
  refine db_RifBn (pc' := 26) (tg := 32) (lv1 := [(0, .ref 669), (1, .int v1), (2, .int v2)]) rfl rfl rfl rfl ?_ ?_
  · refine db_Rgo (pc' := 34) (lv' := [(0, .ref 669), (1, .int v1), (2, .int v2)]) (st' := [.int v2, .int v1]) 2 rfl ?_
    refine db_Ric (pc' := 37) (tg := 43) (lv1 := [(0, .ref 669), (1, .int v1), (2, .int v2)]) rfl rfl rfl rfl ?_ ?_
    · refine db_Rgo (pc' := 46) (lv' := [(0, .ref 669), (1, .int v1), (2, .int v2)]) (st' := [.int v2, .int v1, .ref 669]) 3 rfl ?_
      refine db_RcyB (mr' := dbm_336) (as := [.ref 669, .int v1, .int v2]) (rest := []) (pc' := 49) (lv1 := [(0, .ref 669), (1, .int v1), (2, .int v2)]) rfl rfl rfl rfl rfl (db_f336_ok) fun q7 => ?_
      refine db_RifBe (pc' := 52) (tg := 56) (lv1 := [(0, .ref 669), (1, .int v1), (2, .int v2)]) rfl rfl rfl rfl ?_ ?_
      · refine db_Rgo (pc' := 57) (lv' := []) (st' := [.int (0 : Int32)]) 1 rfl ?_
        exact db_Rret (lv1 := []) rfl rfl rfl rfl
      refine db_Rgo (pc' := 57) (lv' := [(0, .ref 669), (1, .int v1), (2, .int v2)]) (st' := [.int (1 : Int32)]) 2 rfl ?_
      exact db_Rret (lv1 := []) rfl rfl rfl rfl
    refine db_Rgo (pc' := 39) (lv' := [(0, .ref 669), (1, .int v1), (2, .int v2)]) (st' := [.int (5 : Int32), .ref 669]) 2 rfl ?_
    refine db_RcdI (mr' := dbm_281) (as := [.ref 669, .int (5 : Int32)]) (rest := []) (pc' := 42) (lv1 := [(0, .ref 669), (1, .int v1), (2, .int v2)]) rfl rfl rfl rfl rfl (db_f281_ok) fun q9 s10 => ?_
    exact db_Rret (lv1 := [(0, .ref 669), (1, .int v1), (2, .int v2)]) rfl rfl rfl rfl
  refine db_Rn (lv1 := [(0, .ref 669)]) rfl rfl rfl ?_
  exact db_f335_b26_ok
noncomputable def db_f151_20_b29 (h4 : Int32 → Int32 → Int32 → Option Int32) (s : db_S) (v1 : Int32) (v2 : Int32) (v3 : Int32) : Option Int32 :=
  (h4 v1 v2 (v3 + (1 : Int32)))
set_option maxRecDepth 100000 in
theorem db_f151_20_b29_ok {X : db_X} {d : Nat}  {h4 : Int32 → Int32 → Int32 → Option Int32} {s : db_S} {v1 : Int32} {v2 : Int32} {v3 : Int32} (zh4 : ∀ (v1 : Int32) (v2 : Int32) (v3 : Int32) , db_Rf X (d + 2) dbm_151 4 [(0, .ref 20), (1, .int v1), (2, .int v2), (3, .int v3)] [] s (db_yI s) (h4 v1 v2 v3)) : db_Rf X (d + 2) dbm_151 29 [(0, .ref 20), (1, .int v1), (2, .int v2), (3, .int v3)] [] s (db_yI s) (db_f151_20_b29 h4 s v1 v2 v3) := by
  unfold db_f151_20_b29
  refine db_Rgo (pc' := 4) (lv' := [(3, .int (v3 + (1 : Int32))), (0, .ref 20), (1, .int v1), (2, .int v2)]) (st' := []) 2 rfl ?_
  refine db_Rn (lv1 := [(0, .ref 20), (1, .int v1), (2, .int v2), (3, .int (v3 + (1 : Int32)))]) rfl rfl rfl ?_
  exact zh4 _ _ _
noncomputable def db_f151_20_b4 (s : db_S) : Nat → Int32 → Int32 → Int32 → Option Int32
  | 0, _, _, _ => none
  | n + 1, v1, v2, v3 =>
    ((db_rI s 21 (3 : Int32)).bind fun x1 => (cond (db_cnd .ge v3 x1) (some v2) ((db_f146_20 s v1 v3).bind fun q2 => (cond q2 (db_f151_20_b29 (db_f151_20_b4 s n) s v1 (v2 ||| ((1 : Int32) <<< (v3 &&& 31))) v3) (db_f151_20_b29 (db_f151_20_b4 s n) s v1 v2 v3)))))
set_option maxRecDepth 100000 in
theorem db_f151_20_b4_ok {X : db_X} {d : Nat} {s : db_S} (n : Nat) : ∀ (v1 : Int32) (v2 : Int32) (v3 : Int32), db_Rf X (d + 2) dbm_151 4 [(0, .ref 20), (1, .int v1), (2, .int v2), (3, .int v3)] [] s (db_yI s) (db_f151_20_b4 s n v1 v2 v3) := by
  induction n with
  | zero => intros; exact db_Rnone
  | succ n ih =>
    intro v1 v2 v3
    unfold db_f151_20_b4
    refine db_Rgo (pc' := 10) (lv' := [(0, .ref 20), (1, .int v1), (2, .int v2), (3, .int v3)]) (st' := [.int (3 : Int32), .ref 21, .int v3]) 4 rfl ?_
    refine db_RldI (pc' := 11) (lv1 := [(0, .ref 20), (1, .int v1), (2, .int v2), (3, .int v3)]) rfl rfl rfl fun x1 => ?_
    refine db_Ric (pc' := 14) (tg := 35) (lv1 := [(0, .ref 20), (1, .int v1), (2, .int v2), (3, .int v3)]) rfl rfl rfl rfl ?_ ?_
    · refine db_Rgo (pc' := 36) (lv' := [(2, .int v2)]) (st' := [.int v2]) 1 rfl ?_
      exact db_Rret (lv1 := [(2, .int v2)]) rfl rfl rfl rfl
    refine db_Rgo (pc' := 17) (lv' := [(0, .ref 20), (1, .int v1), (2, .int v2), (3, .int v3)]) (st' := [.int v3, .int v1, .ref 20]) 3 rfl ?_
    refine db_RcyB (mr' := dbm_146) (as := [.ref 20, .int v1, .int v3]) (rest := []) (pc' := 20) (lv1 := [(0, .ref 20), (1, .int v1), (2, .int v2), (3, .int v3)]) rfl rfl rfl rfl rfl (db_f146_20_ok) fun q2 => ?_
    refine db_RifBe (pc' := 23) (tg := 29) (lv1 := [(0, .ref 20), (1, .int v1), (2, .int v2), (3, .int v3)]) rfl rfl rfl rfl ?_ ?_
    · exact db_f151_20_b29_ok ih
    refine db_Rgo (pc' := 29) (lv' := [(2, .int (v2 ||| ((1 : Int32) <<< (v3 &&& 31)))), (0, .ref 20), (1, .int v1), (3, .int v3)]) (st' := []) 6 rfl ?_
    refine db_Rn (lv1 := [(0, .ref 20), (1, .int v1), (2, .int (v2 ||| ((1 : Int32) <<< (v3 &&& 31)))), (3, .int v3)]) rfl rfl rfl ?_
    exact db_f151_20_b29_ok ih
/-- DreamBook$Told.clashesOf(I)I -/
noncomputable def db_f151_20 (s : db_S) (v1 : Int32) : Option Int32 :=
  (db_f151_20_b4 s db_FU v1 (0 : Int32) (0 : Int32))
set_option maxRecDepth 100000 in
theorem db_f151_20_ok {X : db_X} {d : Nat} {s : db_S} {v1 : Int32} : db_Rf X (d + 2) dbm_151 0 (lv_args 0 [.ref 20, .int v1]) [] s (db_yI s) (db_f151_20 s v1) := by
  show db_Rf _ _ _ 0 [(0, .ref 20), (1, .int v1)] [] _ _ _
  unfold db_f151_20
  refine db_Rgo (pc' := 4) (lv' := [(3, .int (0 : Int32)), (2, .int (0 : Int32)), (0, .ref 20), (1, .int v1)]) (st' := []) 4 rfl ?_
  refine db_Rn (lv1 := [(0, .ref 20), (1, .int v1), (2, .int (0 : Int32)), (3, .int (0 : Int32))]) rfl rfl rfl ?_
  exact db_f151_20_b4_ok db_FU _ _ _
/-- java/lang/Integer.bitCount(I)I -/
noncomputable def db_f152 (s : db_S) (v0 : Int32) : Option Int32 :=
  (some ((((((((v0 - (((Int32.toUInt32 v0 >>> (Int32.toUInt32 (1 : Int32) &&& Int32.toUInt32 31)).toInt32) &&& (1431655765 : Int32))) &&& (858993459 : Int32)) + (((Int32.toUInt32 (v0 - (((Int32.toUInt32 v0 >>> (Int32.toUInt32 (1 : Int32) &&& Int32.toUInt32 31)).toInt32) &&& (1431655765 : Int32))) >>> (Int32.toUInt32 (2 : Int32) &&& Int32.toUInt32 31)).toInt32) &&& (858993459 : Int32))) + ((Int32.toUInt32 (((v0 - (((Int32.toUInt32 v0 >>> (Int32.toUInt32 (1 : Int32) &&& Int32.toUInt32 31)).toInt32) &&& (1431655765 : Int32))) &&& (858993459 : Int32)) + (((Int32.toUInt32 (v0 - (((Int32.toUInt32 v0 >>> (Int32.toUInt32 (1 : Int32) &&& Int32.toUInt32 31)).toInt32) &&& (1431655765 : Int32))) >>> (Int32.toUInt32 (2 : Int32) &&& Int32.toUInt32 31)).toInt32) &&& (858993459 : Int32))) >>> (Int32.toUInt32 (4 : Int32) &&& Int32.toUInt32 31)).toInt32)) &&& (252645135 : Int32)) + ((Int32.toUInt32 (((((v0 - (((Int32.toUInt32 v0 >>> (Int32.toUInt32 (1 : Int32) &&& Int32.toUInt32 31)).toInt32) &&& (1431655765 : Int32))) &&& (858993459 : Int32)) + (((Int32.toUInt32 (v0 - (((Int32.toUInt32 v0 >>> (Int32.toUInt32 (1 : Int32) &&& Int32.toUInt32 31)).toInt32) &&& (1431655765 : Int32))) >>> (Int32.toUInt32 (2 : Int32) &&& Int32.toUInt32 31)).toInt32) &&& (858993459 : Int32))) + ((Int32.toUInt32 (((v0 - (((Int32.toUInt32 v0 >>> (Int32.toUInt32 (1 : Int32) &&& Int32.toUInt32 31)).toInt32) &&& (1431655765 : Int32))) &&& (858993459 : Int32)) + (((Int32.toUInt32 (v0 - (((Int32.toUInt32 v0 >>> (Int32.toUInt32 (1 : Int32) &&& Int32.toUInt32 31)).toInt32) &&& (1431655765 : Int32))) >>> (Int32.toUInt32 (2 : Int32) &&& Int32.toUInt32 31)).toInt32) &&& (858993459 : Int32))) >>> (Int32.toUInt32 (4 : Int32) &&& Int32.toUInt32 31)).toInt32)) &&& (252645135 : Int32)) >>> (Int32.toUInt32 (8 : Int32) &&& Int32.toUInt32 31)).toInt32)) + ((Int32.toUInt32 ((((((v0 - (((Int32.toUInt32 v0 >>> (Int32.toUInt32 (1 : Int32) &&& Int32.toUInt32 31)).toInt32) &&& (1431655765 : Int32))) &&& (858993459 : Int32)) + (((Int32.toUInt32 (v0 - (((Int32.toUInt32 v0 >>> (Int32.toUInt32 (1 : Int32) &&& Int32.toUInt32 31)).toInt32) &&& (1431655765 : Int32))) >>> (Int32.toUInt32 (2 : Int32) &&& Int32.toUInt32 31)).toInt32) &&& (858993459 : Int32))) + ((Int32.toUInt32 (((v0 - (((Int32.toUInt32 v0 >>> (Int32.toUInt32 (1 : Int32) &&& Int32.toUInt32 31)).toInt32) &&& (1431655765 : Int32))) &&& (858993459 : Int32)) + (((Int32.toUInt32 (v0 - (((Int32.toUInt32 v0 >>> (Int32.toUInt32 (1 : Int32) &&& Int32.toUInt32 31)).toInt32) &&& (1431655765 : Int32))) >>> (Int32.toUInt32 (2 : Int32) &&& Int32.toUInt32 31)).toInt32) &&& (858993459 : Int32))) >>> (Int32.toUInt32 (4 : Int32) &&& Int32.toUInt32 31)).toInt32)) &&& (252645135 : Int32)) + ((Int32.toUInt32 (((((v0 - (((Int32.toUInt32 v0 >>> (Int32.toUInt32 (1 : Int32) &&& Int32.toUInt32 31)).toInt32) &&& (1431655765 : Int32))) &&& (858993459 : Int32)) + (((Int32.toUInt32 (v0 - (((Int32.toUInt32 v0 >>> (Int32.toUInt32 (1 : Int32) &&& Int32.toUInt32 31)).toInt32) &&& (1431655765 : Int32))) >>> (Int32.toUInt32 (2 : Int32) &&& Int32.toUInt32 31)).toInt32) &&& (858993459 : Int32))) + ((Int32.toUInt32 (((v0 - (((Int32.toUInt32 v0 >>> (Int32.toUInt32 (1 : Int32) &&& Int32.toUInt32 31)).toInt32) &&& (1431655765 : Int32))) &&& (858993459 : Int32)) + (((Int32.toUInt32 (v0 - (((Int32.toUInt32 v0 >>> (Int32.toUInt32 (1 : Int32) &&& Int32.toUInt32 31)).toInt32) &&& (1431655765 : Int32))) >>> (Int32.toUInt32 (2 : Int32) &&& Int32.toUInt32 31)).toInt32) &&& (858993459 : Int32))) >>> (Int32.toUInt32 (4 : Int32) &&& Int32.toUInt32 31)).toInt32)) &&& (252645135 : Int32)) >>> (Int32.toUInt32 (8 : Int32) &&& Int32.toUInt32 31)).toInt32)) >>> (Int32.toUInt32 (16 : Int32) &&& Int32.toUInt32 31)).toInt32)) &&& (63 : Int32)))
set_option maxRecDepth 100000 in
theorem db_f152_ok {X : db_X} {d : Nat} {s : db_S} {v0 : Int32} : db_Rf X (d + 0) dbm_152 0 (lv_args 0 [.int v0]) [] s (db_yI s) (db_f152 s v0) := by
  show db_Rf _ _ _ 0 [(0, .int v0)] [] _ _ _
  unfold db_f152
  refine db_Rgo (pc' := 52) (lv' := [(0, .int (((((((v0 - (((Int32.toUInt32 v0 >>> (Int32.toUInt32 (1 : Int32) &&& Int32.toUInt32 31)).toInt32) &&& (1431655765 : Int32))) &&& (858993459 : Int32)) + (((Int32.toUInt32 (v0 - (((Int32.toUInt32 v0 >>> (Int32.toUInt32 (1 : Int32) &&& Int32.toUInt32 31)).toInt32) &&& (1431655765 : Int32))) >>> (Int32.toUInt32 (2 : Int32) &&& Int32.toUInt32 31)).toInt32) &&& (858993459 : Int32))) + ((Int32.toUInt32 (((v0 - (((Int32.toUInt32 v0 >>> (Int32.toUInt32 (1 : Int32) &&& Int32.toUInt32 31)).toInt32) &&& (1431655765 : Int32))) &&& (858993459 : Int32)) + (((Int32.toUInt32 (v0 - (((Int32.toUInt32 v0 >>> (Int32.toUInt32 (1 : Int32) &&& Int32.toUInt32 31)).toInt32) &&& (1431655765 : Int32))) >>> (Int32.toUInt32 (2 : Int32) &&& Int32.toUInt32 31)).toInt32) &&& (858993459 : Int32))) >>> (Int32.toUInt32 (4 : Int32) &&& Int32.toUInt32 31)).toInt32)) &&& (252645135 : Int32)) + ((Int32.toUInt32 (((((v0 - (((Int32.toUInt32 v0 >>> (Int32.toUInt32 (1 : Int32) &&& Int32.toUInt32 31)).toInt32) &&& (1431655765 : Int32))) &&& (858993459 : Int32)) + (((Int32.toUInt32 (v0 - (((Int32.toUInt32 v0 >>> (Int32.toUInt32 (1 : Int32) &&& Int32.toUInt32 31)).toInt32) &&& (1431655765 : Int32))) >>> (Int32.toUInt32 (2 : Int32) &&& Int32.toUInt32 31)).toInt32) &&& (858993459 : Int32))) + ((Int32.toUInt32 (((v0 - (((Int32.toUInt32 v0 >>> (Int32.toUInt32 (1 : Int32) &&& Int32.toUInt32 31)).toInt32) &&& (1431655765 : Int32))) &&& (858993459 : Int32)) + (((Int32.toUInt32 (v0 - (((Int32.toUInt32 v0 >>> (Int32.toUInt32 (1 : Int32) &&& Int32.toUInt32 31)).toInt32) &&& (1431655765 : Int32))) >>> (Int32.toUInt32 (2 : Int32) &&& Int32.toUInt32 31)).toInt32) &&& (858993459 : Int32))) >>> (Int32.toUInt32 (4 : Int32) &&& Int32.toUInt32 31)).toInt32)) &&& (252645135 : Int32)) >>> (Int32.toUInt32 (8 : Int32) &&& Int32.toUInt32 31)).toInt32)) + ((Int32.toUInt32 ((((((v0 - (((Int32.toUInt32 v0 >>> (Int32.toUInt32 (1 : Int32) &&& Int32.toUInt32 31)).toInt32) &&& (1431655765 : Int32))) &&& (858993459 : Int32)) + (((Int32.toUInt32 (v0 - (((Int32.toUInt32 v0 >>> (Int32.toUInt32 (1 : Int32) &&& Int32.toUInt32 31)).toInt32) &&& (1431655765 : Int32))) >>> (Int32.toUInt32 (2 : Int32) &&& Int32.toUInt32 31)).toInt32) &&& (858993459 : Int32))) + ((Int32.toUInt32 (((v0 - (((Int32.toUInt32 v0 >>> (Int32.toUInt32 (1 : Int32) &&& Int32.toUInt32 31)).toInt32) &&& (1431655765 : Int32))) &&& (858993459 : Int32)) + (((Int32.toUInt32 (v0 - (((Int32.toUInt32 v0 >>> (Int32.toUInt32 (1 : Int32) &&& Int32.toUInt32 31)).toInt32) &&& (1431655765 : Int32))) >>> (Int32.toUInt32 (2 : Int32) &&& Int32.toUInt32 31)).toInt32) &&& (858993459 : Int32))) >>> (Int32.toUInt32 (4 : Int32) &&& Int32.toUInt32 31)).toInt32)) &&& (252645135 : Int32)) + ((Int32.toUInt32 (((((v0 - (((Int32.toUInt32 v0 >>> (Int32.toUInt32 (1 : Int32) &&& Int32.toUInt32 31)).toInt32) &&& (1431655765 : Int32))) &&& (858993459 : Int32)) + (((Int32.toUInt32 (v0 - (((Int32.toUInt32 v0 >>> (Int32.toUInt32 (1 : Int32) &&& Int32.toUInt32 31)).toInt32) &&& (1431655765 : Int32))) >>> (Int32.toUInt32 (2 : Int32) &&& Int32.toUInt32 31)).toInt32) &&& (858993459 : Int32))) + ((Int32.toUInt32 (((v0 - (((Int32.toUInt32 v0 >>> (Int32.toUInt32 (1 : Int32) &&& Int32.toUInt32 31)).toInt32) &&& (1431655765 : Int32))) &&& (858993459 : Int32)) + (((Int32.toUInt32 (v0 - (((Int32.toUInt32 v0 >>> (Int32.toUInt32 (1 : Int32) &&& Int32.toUInt32 31)).toInt32) &&& (1431655765 : Int32))) >>> (Int32.toUInt32 (2 : Int32) &&& Int32.toUInt32 31)).toInt32) &&& (858993459 : Int32))) >>> (Int32.toUInt32 (4 : Int32) &&& Int32.toUInt32 31)).toInt32)) &&& (252645135 : Int32)) >>> (Int32.toUInt32 (8 : Int32) &&& Int32.toUInt32 31)).toInt32)) >>> (Int32.toUInt32 (16 : Int32) &&& Int32.toUInt32 31)).toInt32)))]) (st' := [.int ((((((((v0 - (((Int32.toUInt32 v0 >>> (Int32.toUInt32 (1 : Int32) &&& Int32.toUInt32 31)).toInt32) &&& (1431655765 : Int32))) &&& (858993459 : Int32)) + (((Int32.toUInt32 (v0 - (((Int32.toUInt32 v0 >>> (Int32.toUInt32 (1 : Int32) &&& Int32.toUInt32 31)).toInt32) &&& (1431655765 : Int32))) >>> (Int32.toUInt32 (2 : Int32) &&& Int32.toUInt32 31)).toInt32) &&& (858993459 : Int32))) + ((Int32.toUInt32 (((v0 - (((Int32.toUInt32 v0 >>> (Int32.toUInt32 (1 : Int32) &&& Int32.toUInt32 31)).toInt32) &&& (1431655765 : Int32))) &&& (858993459 : Int32)) + (((Int32.toUInt32 (v0 - (((Int32.toUInt32 v0 >>> (Int32.toUInt32 (1 : Int32) &&& Int32.toUInt32 31)).toInt32) &&& (1431655765 : Int32))) >>> (Int32.toUInt32 (2 : Int32) &&& Int32.toUInt32 31)).toInt32) &&& (858993459 : Int32))) >>> (Int32.toUInt32 (4 : Int32) &&& Int32.toUInt32 31)).toInt32)) &&& (252645135 : Int32)) + ((Int32.toUInt32 (((((v0 - (((Int32.toUInt32 v0 >>> (Int32.toUInt32 (1 : Int32) &&& Int32.toUInt32 31)).toInt32) &&& (1431655765 : Int32))) &&& (858993459 : Int32)) + (((Int32.toUInt32 (v0 - (((Int32.toUInt32 v0 >>> (Int32.toUInt32 (1 : Int32) &&& Int32.toUInt32 31)).toInt32) &&& (1431655765 : Int32))) >>> (Int32.toUInt32 (2 : Int32) &&& Int32.toUInt32 31)).toInt32) &&& (858993459 : Int32))) + ((Int32.toUInt32 (((v0 - (((Int32.toUInt32 v0 >>> (Int32.toUInt32 (1 : Int32) &&& Int32.toUInt32 31)).toInt32) &&& (1431655765 : Int32))) &&& (858993459 : Int32)) + (((Int32.toUInt32 (v0 - (((Int32.toUInt32 v0 >>> (Int32.toUInt32 (1 : Int32) &&& Int32.toUInt32 31)).toInt32) &&& (1431655765 : Int32))) >>> (Int32.toUInt32 (2 : Int32) &&& Int32.toUInt32 31)).toInt32) &&& (858993459 : Int32))) >>> (Int32.toUInt32 (4 : Int32) &&& Int32.toUInt32 31)).toInt32)) &&& (252645135 : Int32)) >>> (Int32.toUInt32 (8 : Int32) &&& Int32.toUInt32 31)).toInt32)) + ((Int32.toUInt32 ((((((v0 - (((Int32.toUInt32 v0 >>> (Int32.toUInt32 (1 : Int32) &&& Int32.toUInt32 31)).toInt32) &&& (1431655765 : Int32))) &&& (858993459 : Int32)) + (((Int32.toUInt32 (v0 - (((Int32.toUInt32 v0 >>> (Int32.toUInt32 (1 : Int32) &&& Int32.toUInt32 31)).toInt32) &&& (1431655765 : Int32))) >>> (Int32.toUInt32 (2 : Int32) &&& Int32.toUInt32 31)).toInt32) &&& (858993459 : Int32))) + ((Int32.toUInt32 (((v0 - (((Int32.toUInt32 v0 >>> (Int32.toUInt32 (1 : Int32) &&& Int32.toUInt32 31)).toInt32) &&& (1431655765 : Int32))) &&& (858993459 : Int32)) + (((Int32.toUInt32 (v0 - (((Int32.toUInt32 v0 >>> (Int32.toUInt32 (1 : Int32) &&& Int32.toUInt32 31)).toInt32) &&& (1431655765 : Int32))) >>> (Int32.toUInt32 (2 : Int32) &&& Int32.toUInt32 31)).toInt32) &&& (858993459 : Int32))) >>> (Int32.toUInt32 (4 : Int32) &&& Int32.toUInt32 31)).toInt32)) &&& (252645135 : Int32)) + ((Int32.toUInt32 (((((v0 - (((Int32.toUInt32 v0 >>> (Int32.toUInt32 (1 : Int32) &&& Int32.toUInt32 31)).toInt32) &&& (1431655765 : Int32))) &&& (858993459 : Int32)) + (((Int32.toUInt32 (v0 - (((Int32.toUInt32 v0 >>> (Int32.toUInt32 (1 : Int32) &&& Int32.toUInt32 31)).toInt32) &&& (1431655765 : Int32))) >>> (Int32.toUInt32 (2 : Int32) &&& Int32.toUInt32 31)).toInt32) &&& (858993459 : Int32))) + ((Int32.toUInt32 (((v0 - (((Int32.toUInt32 v0 >>> (Int32.toUInt32 (1 : Int32) &&& Int32.toUInt32 31)).toInt32) &&& (1431655765 : Int32))) &&& (858993459 : Int32)) + (((Int32.toUInt32 (v0 - (((Int32.toUInt32 v0 >>> (Int32.toUInt32 (1 : Int32) &&& Int32.toUInt32 31)).toInt32) &&& (1431655765 : Int32))) >>> (Int32.toUInt32 (2 : Int32) &&& Int32.toUInt32 31)).toInt32) &&& (858993459 : Int32))) >>> (Int32.toUInt32 (4 : Int32) &&& Int32.toUInt32 31)).toInt32)) &&& (252645135 : Int32)) >>> (Int32.toUInt32 (8 : Int32) &&& Int32.toUInt32 31)).toInt32)) >>> (Int32.toUInt32 (16 : Int32) &&& Int32.toUInt32 31)).toInt32)) &&& (63 : Int32))]) 41 rfl ?_
  exact db_Rret (lv1 := [(0, .int (((((((v0 - (((Int32.toUInt32 v0 >>> (Int32.toUInt32 (1 : Int32) &&& Int32.toUInt32 31)).toInt32) &&& (1431655765 : Int32))) &&& (858993459 : Int32)) + (((Int32.toUInt32 (v0 - (((Int32.toUInt32 v0 >>> (Int32.toUInt32 (1 : Int32) &&& Int32.toUInt32 31)).toInt32) &&& (1431655765 : Int32))) >>> (Int32.toUInt32 (2 : Int32) &&& Int32.toUInt32 31)).toInt32) &&& (858993459 : Int32))) + ((Int32.toUInt32 (((v0 - (((Int32.toUInt32 v0 >>> (Int32.toUInt32 (1 : Int32) &&& Int32.toUInt32 31)).toInt32) &&& (1431655765 : Int32))) &&& (858993459 : Int32)) + (((Int32.toUInt32 (v0 - (((Int32.toUInt32 v0 >>> (Int32.toUInt32 (1 : Int32) &&& Int32.toUInt32 31)).toInt32) &&& (1431655765 : Int32))) >>> (Int32.toUInt32 (2 : Int32) &&& Int32.toUInt32 31)).toInt32) &&& (858993459 : Int32))) >>> (Int32.toUInt32 (4 : Int32) &&& Int32.toUInt32 31)).toInt32)) &&& (252645135 : Int32)) + ((Int32.toUInt32 (((((v0 - (((Int32.toUInt32 v0 >>> (Int32.toUInt32 (1 : Int32) &&& Int32.toUInt32 31)).toInt32) &&& (1431655765 : Int32))) &&& (858993459 : Int32)) + (((Int32.toUInt32 (v0 - (((Int32.toUInt32 v0 >>> (Int32.toUInt32 (1 : Int32) &&& Int32.toUInt32 31)).toInt32) &&& (1431655765 : Int32))) >>> (Int32.toUInt32 (2 : Int32) &&& Int32.toUInt32 31)).toInt32) &&& (858993459 : Int32))) + ((Int32.toUInt32 (((v0 - (((Int32.toUInt32 v0 >>> (Int32.toUInt32 (1 : Int32) &&& Int32.toUInt32 31)).toInt32) &&& (1431655765 : Int32))) &&& (858993459 : Int32)) + (((Int32.toUInt32 (v0 - (((Int32.toUInt32 v0 >>> (Int32.toUInt32 (1 : Int32) &&& Int32.toUInt32 31)).toInt32) &&& (1431655765 : Int32))) >>> (Int32.toUInt32 (2 : Int32) &&& Int32.toUInt32 31)).toInt32) &&& (858993459 : Int32))) >>> (Int32.toUInt32 (4 : Int32) &&& Int32.toUInt32 31)).toInt32)) &&& (252645135 : Int32)) >>> (Int32.toUInt32 (8 : Int32) &&& Int32.toUInt32 31)).toInt32)) + ((Int32.toUInt32 ((((((v0 - (((Int32.toUInt32 v0 >>> (Int32.toUInt32 (1 : Int32) &&& Int32.toUInt32 31)).toInt32) &&& (1431655765 : Int32))) &&& (858993459 : Int32)) + (((Int32.toUInt32 (v0 - (((Int32.toUInt32 v0 >>> (Int32.toUInt32 (1 : Int32) &&& Int32.toUInt32 31)).toInt32) &&& (1431655765 : Int32))) >>> (Int32.toUInt32 (2 : Int32) &&& Int32.toUInt32 31)).toInt32) &&& (858993459 : Int32))) + ((Int32.toUInt32 (((v0 - (((Int32.toUInt32 v0 >>> (Int32.toUInt32 (1 : Int32) &&& Int32.toUInt32 31)).toInt32) &&& (1431655765 : Int32))) &&& (858993459 : Int32)) + (((Int32.toUInt32 (v0 - (((Int32.toUInt32 v0 >>> (Int32.toUInt32 (1 : Int32) &&& Int32.toUInt32 31)).toInt32) &&& (1431655765 : Int32))) >>> (Int32.toUInt32 (2 : Int32) &&& Int32.toUInt32 31)).toInt32) &&& (858993459 : Int32))) >>> (Int32.toUInt32 (4 : Int32) &&& Int32.toUInt32 31)).toInt32)) &&& (252645135 : Int32)) + ((Int32.toUInt32 (((((v0 - (((Int32.toUInt32 v0 >>> (Int32.toUInt32 (1 : Int32) &&& Int32.toUInt32 31)).toInt32) &&& (1431655765 : Int32))) &&& (858993459 : Int32)) + (((Int32.toUInt32 (v0 - (((Int32.toUInt32 v0 >>> (Int32.toUInt32 (1 : Int32) &&& Int32.toUInt32 31)).toInt32) &&& (1431655765 : Int32))) >>> (Int32.toUInt32 (2 : Int32) &&& Int32.toUInt32 31)).toInt32) &&& (858993459 : Int32))) + ((Int32.toUInt32 (((v0 - (((Int32.toUInt32 v0 >>> (Int32.toUInt32 (1 : Int32) &&& Int32.toUInt32 31)).toInt32) &&& (1431655765 : Int32))) &&& (858993459 : Int32)) + (((Int32.toUInt32 (v0 - (((Int32.toUInt32 v0 >>> (Int32.toUInt32 (1 : Int32) &&& Int32.toUInt32 31)).toInt32) &&& (1431655765 : Int32))) >>> (Int32.toUInt32 (2 : Int32) &&& Int32.toUInt32 31)).toInt32) &&& (858993459 : Int32))) >>> (Int32.toUInt32 (4 : Int32) &&& Int32.toUInt32 31)).toInt32)) &&& (252645135 : Int32)) >>> (Int32.toUInt32 (8 : Int32) &&& Int32.toUInt32 31)).toInt32)) >>> (Int32.toUInt32 (16 : Int32) &&& Int32.toUInt32 31)).toInt32)))]) rfl rfl rfl rfl
noncomputable def db_f150_20_b4 (s : db_S) : Nat → Int32 → Int32 → Option Int32
  | 0, _, _ => none
  | n + 1, v1, v2 =>
    ((db_rI s 21 (3 : Int32)).bind fun x1 => (cond (db_cnd .ge v2 x1) (some (v1 / (2 : Int32))) ((db_f151_20 s v2).bind fun q2 => ((db_f152 s q2).bind fun q4 => (db_f150_20_b4 s n (v1 + q4) (v2 + (1 : Int32)))))))
set_option maxRecDepth 100000 in
theorem db_f150_20_b4_ok {X : db_X} {d : Nat} {s : db_S} (n : Nat) : ∀ (v1 : Int32) (v2 : Int32), db_Rf X (d + 3) dbm_150 4 [(0, .ref 20), (1, .int v1), (2, .int v2)] [] s (db_yI s) (db_f150_20_b4 s n v1 v2) := by
  induction n with
  | zero => intros; exact db_Rnone
  | succ n ih =>
    intro v1 v2
    unfold db_f150_20_b4
    refine db_Rgo (pc' := 10) (lv' := [(0, .ref 20), (1, .int v1), (2, .int v2)]) (st' := [.int (3 : Int32), .ref 21, .int v2]) 4 rfl ?_
    refine db_RldI (pc' := 11) (lv1 := [(0, .ref 20), (1, .int v1), (2, .int v2)]) rfl rfl rfl fun x1 => ?_
    refine db_Ric (pc' := 14) (tg := 31) (lv1 := [(0, .ref 20), (1, .int v1), (2, .int v2)]) rfl rfl rfl rfl ?_ ?_
    · refine db_Rgo (pc' := 34) (lv' := [(1, .int v1)]) (st' := [.int (v1 / (2 : Int32))]) 3 rfl ?_
      exact db_Rret (lv1 := [(1, .int v1)]) rfl rfl rfl rfl
    refine db_Rgo (pc' := 17) (lv' := [(0, .ref 20), (1, .int v1), (2, .int v2)]) (st' := [.int v2, .ref 20, .int v1]) 3 rfl ?_
    refine db_RcyI (mr' := dbm_151) (as := [.ref 20, .int v2]) (rest := [.int v1]) (pc' := 20) (lv1 := [(0, .ref 20), (1, .int v1), (2, .int v2)]) rfl rfl rfl rfl rfl (db_f151_20_ok) fun q2 => ?_
    refine db_RcyI (mr' := dbm_152) (as := [.int q2]) (rest := [.int v1]) (pc' := 23) (lv1 := [(0, .ref 20), (1, .int v1), (2, .int v2)]) rfl rfl rfl rfl rfl (db_f152_ok) fun q4 => ?_
    refine db_Rgo (pc' := 4) (lv' := [(2, .int (v2 + (1 : Int32))), (1, .int (v1 + q4)), (0, .ref 20)]) (st' := []) 4 rfl ?_
    refine db_Rn (lv1 := [(0, .ref 20), (1, .int (v1 + q4)), (2, .int (v2 + (1 : Int32)))]) rfl rfl rfl ?_
    exact ih _ _
/-- DreamBook$Told.countClashes()I -/
noncomputable def db_f150_20 (s : db_S) : Option Int32 :=
  (db_f150_20_b4 s db_FU (0 : Int32) (0 : Int32))
set_option maxRecDepth 100000 in
theorem db_f150_20_ok {X : db_X} {d : Nat} {s : db_S} : db_Rf X (d + 3) dbm_150 0 (lv_args 0 [.ref 20]) [] s (db_yI s) (db_f150_20 s ) := by
  show db_Rf _ _ _ 0 [(0, .ref 20)] [] _ _ _
  unfold db_f150_20
  refine db_Rgo (pc' := 4) (lv' := [(2, .int (0 : Int32)), (1, .int (0 : Int32)), (0, .ref 20)]) (st' := []) 4 rfl ?_
  refine db_Rn (lv1 := [(0, .ref 20), (1, .int (0 : Int32)), (2, .int (0 : Int32))]) rfl rfl rfl ?_
  exact db_f150_20_b4_ok db_FU _ _
/-- DreamBook.quarrels()I -/
noncomputable def db_f149 (s : db_S) : Option (Int32 × db_S) :=
  ((db_f150_20 s).bind fun q1 => (db_bd (db_f87 s q1) fun q3 s4 => (some (q3, s4))))
set_option maxRecDepth 100000 in
theorem db_f149_ok {X : db_X} {d : Nat} {s : db_S} : db_Rf X (d + 4) dbm_149 0 (lv_args 0 [.ref 4]) [] s db_zI (db_f149 s ) := by
  show db_Rf _ _ _ 0 [(0, .ref 4)] [] _ _ _
  unfold db_f149
  refine db_Rgo (pc' := 5) (lv' := [(0, .ref 4)]) (st' := [.ref 20, .ref 4]) 3 rfl ?_
  refine db_RcyI (mr' := dbm_150) (as := [.ref 20]) (rest := [.ref 4]) (pc' := 8) (lv1 := [(0, .ref 4)]) rfl rfl rfl rfl rfl (db_f150_20_ok) fun q1 => ?_
  refine db_RcdI (mr' := dbm_87) (as := [.ref 4, .int q1]) (rest := []) (pc' := 11) (lv1 := [(0, .ref 4)]) rfl rfl rfl rfl rfl (db_f87_ok) fun q3 s4 => ?_
  exact db_Rret (lv1 := [(0, .ref 4)]) rfl rfl rfl rfl
noncomputable def db_f339_b46 (h14 : db_S → Int32 → Int32 → Option (Int32 × db_S)) (h26 : db_S → Int32 → Int32 → Int32 → Option (Int32 × db_S)) (s : db_S) (v2 : Int32) (v3 : Int32) (t0 : Int32) (t1 : Int32) : Option (Int32 × db_S) :=
  (h26 s (t0 + t1) v2 (v3 + (1 : Int32)))
set_option maxRecDepth 100000 in
theorem db_f339_b46_ok {X : db_X} {d : Nat}  {h14 : db_S → Int32 → Int32 → Option (Int32 × db_S)} {h26 : db_S → Int32 → Int32 → Int32 → Option (Int32 × db_S)} {s : db_S} {v2 : Int32} {v3 : Int32} {t0 : Int32} {t1 : Int32} (zh14 : ∀ (s' : db_S) (v1 : Int32) (v2 : Int32) , db_Rf X (d + 2) dbm_339 14 [(0, .ref 669), (1, .int v1), (2, .int v2)] [] s' db_zI (h14 s' v1 v2)) (zh26 : ∀ (s' : db_S) (v1 : Int32) (v2 : Int32) (v3 : Int32) , db_Rf X (d + 2) dbm_339 26 [(0, .ref 669), (1, .int v1), (2, .int v2), (3, .int v3)] [] s' db_zI (h26 s' v1 v2 v3)) : db_Rf X (d + 2) dbm_339 46 [(0, .ref 669), (2, .int v2), (3, .int v3)] [.int t1, .int t0] s db_zI (db_f339_b46 h14 h26 s v2 v3 t0 t1) := by
  unfold db_f339_b46
  refine db_Rgo (pc' := 26) (lv' := [(3, .int (v3 + (1 : Int32))), (1, .int (t0 + t1)), (0, .ref 669), (2, .int v2)]) (st' := []) 4 rfl ?_
  refine db_Rn (lv1 := [(0, .ref 669), (1, .int (t0 + t1)), (2, .int v2), (3, .int (v3 + (1 : Int32)))]) rfl rfl rfl ?_
  exact zh26 _ _ _ _
noncomputable def db_f339_b26 (h14 : db_S → Int32 → Int32 → Option (Int32 × db_S)) : Nat → db_S → Int32 → Int32 → Int32 → Option (Int32 × db_S)
  | 0, _, _, _, _ => none
  | n + 1, s, v1, v2, v3 =>
    (cond (db_cnd .ge v3 v2) (h14 s v1 (v2 + (1 : Int32))) ((db_f336 s v2 v3).bind fun q1 => (cond q1 (db_f339_b46 h14 (db_f339_b26 h14 n) s v2 v3 v1 (1 : Int32)) (db_f339_b46 h14 (db_f339_b26 h14 n) s v2 v3 v1 (0 : Int32)))))
set_option maxRecDepth 100000 in
theorem db_f339_b26_ok {X : db_X} {d : Nat}  {h14 : db_S → Int32 → Int32 → Option (Int32 × db_S)} (zh14 : ∀ (s' : db_S) (v1 : Int32) (v2 : Int32) , db_Rf X (d + 2) dbm_339 14 [(0, .ref 669), (1, .int v1), (2, .int v2)] [] s' db_zI (h14 s' v1 v2)) (n : Nat) : ∀ (s : db_S) (v1 : Int32) (v2 : Int32) (v3 : Int32), db_Rf X (d + 2) dbm_339 26 [(0, .ref 669), (1, .int v1), (2, .int v2), (3, .int v3)] [] s db_zI (db_f339_b26 h14 n s v1 v2 v3) := by
  induction n with
  | zero => intros; exact db_Rnone
  | succ n ih =>
    intro s v1 v2 v3
    unfold db_f339_b26
    refine db_Rgo (pc' := 28) (lv' := [(0, .ref 669), (1, .int v1), (2, .int v2), (3, .int v3)]) (st' := [.int v2, .int v3]) 2 rfl ?_
    refine db_Ric (pc' := 31) (tg := 54) (lv1 := [(0, .ref 669), (1, .int v1), (2, .int v2), (3, .int v3)]) rfl rfl rfl rfl ?_ ?_
    · refine db_Rgo (pc' := 14) (lv' := [(2, .int (v2 + (1 : Int32))), (0, .ref 669), (1, .int v1)]) (st' := []) 2 rfl ?_
      refine db_Rn (lv1 := [(0, .ref 669), (1, .int v1), (2, .int (v2 + (1 : Int32)))]) rfl rfl rfl ?_
      exact zh14 _ _ _
    refine db_Rgo (pc' := 35) (lv' := [(0, .ref 669), (1, .int v1), (2, .int v2), (3, .int v3)]) (st' := [.int v3, .int v2, .ref 669, .int v1]) 4 rfl ?_
    refine db_RcyB (mr' := dbm_336) (as := [.ref 669, .int v2, .int v3]) (rest := [.int v1]) (pc' := 38) (lv1 := [(0, .ref 669), (1, .int v1), (2, .int v2), (3, .int v3)]) rfl rfl rfl rfl rfl (db_f336_ok) fun q1 => ?_
    refine db_RifBe (pc' := 41) (tg := 45) (lv1 := [(0, .ref 669), (1, .int v1), (2, .int v2), (3, .int v3)]) rfl rfl rfl rfl ?_ ?_
    · refine db_Rgo (pc' := 46) (lv' := [(0, .ref 669), (2, .int v2), (3, .int v3)]) (st' := [.int (0 : Int32), .int v1]) 1 rfl ?_
      exact db_f339_b46_ok zh14 ih
    refine db_Rgo (pc' := 46) (lv' := [(0, .ref 669), (1, .int v1), (2, .int v2), (3, .int v3)]) (st' := [.int (1 : Int32), .int v1]) 2 rfl ?_
    refine db_Rn (lv1 := [(0, .ref 669), (2, .int v2), (3, .int v3)]) rfl rfl rfl ?_
    exact db_f339_b46_ok zh14 ih
noncomputable def db_f339_b14 : Nat → db_S → Int32 → Int32 → Option (Int32 × db_S)
  | 0, _, _, _ => none
  | n + 1, s, v1, v2 =>
    ((db_rI s 674 (3 : Int32)).bind fun x1 => (cond (db_cnd .ge v2 x1) (some (v1, s)) (db_f339_b26 (db_f339_b14 n) db_FU s v1 v2 (0 : Int32))))
set_option maxRecDepth 100000 in
theorem db_f339_b14_ok {X : db_X} {d : Nat}  (n : Nat) : ∀ (s : db_S) (v1 : Int32) (v2 : Int32), db_Rf X (d + 2) dbm_339 14 [(0, .ref 669), (1, .int v1), (2, .int v2)] [] s db_zI (db_f339_b14 n s v1 v2) := by
  induction n with
  | zero => intros; exact db_Rnone
  | succ n ih =>
    intro s v1 v2
    unfold db_f339_b14
    refine db_Rgo (pc' := 20) (lv' := [(0, .ref 669), (1, .int v1), (2, .int v2)]) (st' := [.int (3 : Int32), .ref 674, .int v2]) 4 rfl ?_
    refine db_RldI (pc' := 21) (lv1 := [(0, .ref 669), (1, .int v1), (2, .int v2)]) rfl rfl rfl fun x1 => ?_
    refine db_Ric (pc' := 24) (tg := 60) (lv1 := [(0, .ref 669), (1, .int v1), (2, .int v2)]) rfl rfl rfl rfl ?_ ?_
    · refine db_Rgo (pc' := 61) (lv' := [(1, .int v1)]) (st' := [.int v1]) 1 rfl ?_
      exact db_Rret (lv1 := [(1, .int v1)]) rfl rfl rfl rfl
    refine db_Rgo (pc' := 26) (lv' := [(3, .int (0 : Int32)), (0, .ref 669), (1, .int v1), (2, .int v2)]) (st' := []) 2 rfl ?_
    refine db_Rn (lv1 := [(0, .ref 669), (1, .int v1), (2, .int v2), (3, .int (0 : Int32))]) rfl rfl rfl ?_
    exact db_f339_b26_ok ih db_FU _ _ _ _
/-- DreamBookModel.quarrels()I -/
noncomputable def db_f339 (s : db_S) : Option (Int32 × db_S) :=
  ((db_pI s 669 1 (0 : Int32)).bind fun s1 => ((db_pI s1 669 0 (0 : Int32)).bind fun s2 => (db_f339_b14 db_FU s2 (0 : Int32) (0 : Int32))))
set_option maxRecDepth 100000 in
theorem db_f339_ok {X : db_X} {d : Nat} {s : db_S} : db_Rf X (d + 2) dbm_339 0 (lv_args 0 [.ref 669]) [] s db_zI (db_f339 s ) := by
  show db_Rf _ _ _ 0 [(0, .ref 669)] [] _ _ _
  unfold db_f339
  refine db_Rgo (pc' := 2) (lv' := [(0, .ref 669)]) (st' := [.int (0 : Int32), .ref 669]) 2 rfl ?_
  refine db_RpuI (pc' := 5) (lv1 := [(0, .ref 669)]) rfl rfl rfl rfl rfl rfl (by decide) rfl rfl fun s1 => ?_
  refine db_Rgo (pc' := 7) (lv' := [(0, .ref 669)]) (st' := [.int (0 : Int32), .ref 669]) 2 rfl ?_
  refine db_RpuI (pc' := 10) (lv1 := [(0, .ref 669)]) rfl rfl rfl rfl rfl rfl (by decide) rfl rfl fun s2 => ?_
  refine db_Rgo (pc' := 14) (lv' := [(2, .int (0 : Int32)), (1, .int (0 : Int32)), (0, .ref 669)]) (st' := []) 4 rfl ?_
  refine db_Rn (lv1 := [(0, .ref 669), (1, .int (0 : Int32)), (2, .int (0 : Int32))]) rfl rfl rfl ?_
  exact db_f339_b14_ok db_FU _ _ _
/-- DreamBook$Finder.keep(I)V -/
noncomputable def db_f155 (s : db_S) (v1 : Int32) : Option db_S :=
  ((db_wI s 275 (s.1 274 1) v1).bind fun s1 => ((db_pI s1 274 1 ((s1.1 274 1) + (1 : Int32))).bind fun s2 => (some s2)))
set_option maxRecDepth 100000 in
theorem db_f155_ok {X : db_X} {d : Nat} {s : db_S} {v1 : Int32} : db_Rf X (d + 0) dbm_155 0 (lv_args 0 [.ref 274, .int v1]) [] s db_zV (db_f155 s v1) := by
  show db_Rf _ _ _ 0 [(0, .ref 274), (1, .int v1)] [] _ _ _
  unfold db_f155
  refine db_Rgo (pc' := 9) (lv' := [(0, .ref 274), (1, .int v1)]) (st' := [.int v1, .int (s.1 274 1), .ref 275]) 5 rfl ?_
  refine db_RstI (pc' := 10) (lv1 := [(0, .ref 274), (1, .int v1)]) rfl rfl rfl fun s1 => ?_
  refine db_Rgo (pc' := 17) (lv' := [(0, .ref 274), (1, .int v1)]) (st' := [.int ((s1.1 274 1) + (1 : Int32)), .ref 274]) 5 rfl ?_
  refine db_RpuI (pc' := 20) (lv1 := [(0, .ref 274), (1, .int v1)]) rfl rfl rfl rfl rfl rfl (by decide) rfl rfl fun s2 => ?_
  exact db_Rret (lv1 := [(0, .ref 274), (1, .int v1)]) rfl rfl rfl rfl
noncomputable def db_f154_b19 (s : db_S) (a1 : Nat) (a2 : Nat) : Option (Int32 × db_S) :=
  ((db_rI s a1 (0 : Int32)).bind fun x1 => ((db_f155 s x1).bind fun s3 => ((db_rI s3 a2 (2 : Int32)).bind fun x4 => (cond (db_cnd .eq x4 (-1 : Int32)) (some ((s3.1 274 1), s3)) ((db_rI s3 a2 (2 : Int32)).bind fun x5 => ((db_rI s3 a1 (2 : Int32)).bind fun x6 => (cond (db_cnd .eq x5 x6) (some ((s3.1 274 1), s3)) ((db_rI s3 a2 (2 : Int32)).bind fun x7 => ((db_f155 s3 x7).bind fun s9 => (some ((s9.1 274 1), s9)))))))))))
set_option maxRecDepth 100000 in
theorem db_f154_b19_ok {X : db_X} {d : Nat}  {s : db_S} {a1 : Nat} {a2 : Nat} : db_Rf X (d + 1) dbm_154 19 [(0, .ref 274), (1, .ref (a1 + 4)), (2, .ref (a2 + 4))] [] s db_zI (db_f154_b19 s (a1 + 4) (a2 + 4)) := by
  unfold db_f154_b19
  refine db_Rgo (pc' := 22) (lv' := [(0, .ref 274), (1, .ref (a1 + 4)), (2, .ref (a2 + 4))]) (st' := [.int (0 : Int32), .ref (a1 + 4), .ref 274]) 3 rfl ?_
  refine db_RldI (pc' := 23) (lv1 := [(0, .ref 274), (1, .ref (a1 + 4)), (2, .ref (a2 + 4))]) rfl rfl rfl fun x1 => ?_
  refine db_RcV (mr' := dbm_155) (as := [.ref 274, .int x1]) (rest := []) (pc' := 26) (lv1 := [(0, .ref 274), (1, .ref (a1 + 4)), (2, .ref (a2 + 4))]) rfl rfl rfl rfl rfl (db_f155_ok) fun s3 => ?_
  refine db_Rgo (pc' := 28) (lv' := [(0, .ref 274), (1, .ref (a1 + 4)), (2, .ref (a2 + 4))]) (st' := [.int (2 : Int32), .ref (a2 + 4)]) 2 rfl ?_
  refine db_RldI (pc' := 29) (lv1 := [(0, .ref 274), (1, .ref (a1 + 4)), (2, .ref (a2 + 4))]) rfl rfl rfl fun x4 => ?_
  refine db_Rgo (pc' := 30) (lv' := [(0, .ref 274), (1, .ref (a1 + 4)), (2, .ref (a2 + 4))]) (st' := [.int (-1 : Int32), .int x4]) 1 rfl ?_
  refine db_Ric (pc' := 33) (tg := 49) (lv1 := [(0, .ref 274), (1, .ref (a1 + 4)), (2, .ref (a2 + 4))]) rfl rfl rfl rfl ?_ ?_
  · refine db_Rgo (pc' := 53) (lv' := [(0, .ref 274)]) (st' := [.int (s3.1 274 1)]) 2 rfl ?_
    exact db_Rret (lv1 := [(0, .ref 274)]) rfl rfl rfl rfl
  refine db_Rgo (pc' := 35) (lv' := [(0, .ref 274), (1, .ref (a1 + 4)), (2, .ref (a2 + 4))]) (st' := [.int (2 : Int32), .ref (a2 + 4)]) 2 rfl ?_
  refine db_RldI (pc' := 36) (lv1 := [(0, .ref 274), (1, .ref (a1 + 4)), (2, .ref (a2 + 4))]) rfl rfl rfl fun x5 => ?_
  refine db_Rgo (pc' := 38) (lv' := [(0, .ref 274), (1, .ref (a1 + 4)), (2, .ref (a2 + 4))]) (st' := [.int (2 : Int32), .ref (a1 + 4), .int x5]) 2 rfl ?_
  refine db_RldI (pc' := 39) (lv1 := [(0, .ref 274), (1, .ref (a1 + 4)), (2, .ref (a2 + 4))]) rfl rfl rfl fun x6 => ?_
  refine db_Ric (pc' := 42) (tg := 49) (lv1 := [(0, .ref 274), (1, .ref (a1 + 4)), (2, .ref (a2 + 4))]) rfl rfl rfl rfl ?_ ?_
  · refine db_Rgo (pc' := 53) (lv' := [(0, .ref 274)]) (st' := [.int (s3.1 274 1)]) 2 rfl ?_
    exact db_Rret (lv1 := [(0, .ref 274)]) rfl rfl rfl rfl
  refine db_Rgo (pc' := 45) (lv' := [(0, .ref 274), (1, .ref (a1 + 4)), (2, .ref (a2 + 4))]) (st' := [.int (2 : Int32), .ref (a2 + 4), .ref 274]) 3 rfl ?_
  refine db_RldI (pc' := 46) (lv1 := [(0, .ref 274), (1, .ref (a1 + 4)), (2, .ref (a2 + 4))]) rfl rfl rfl fun x7 => ?_
  refine db_RcV (mr' := dbm_155) (as := [.ref 274, .int x7]) (rest := []) (pc' := 49) (lv1 := [(0, .ref 274), (1, .ref (a1 + 4)), (2, .ref (a2 + 4))]) rfl rfl rfl rfl rfl (db_f155_ok) fun s9 => ?_
  refine db_Rgo (pc' := 53) (lv' := [(0, .ref 274)]) (st' := [.int (s9.1 274 1)]) 2 rfl ?_
  exact db_Rret (lv1 := [(0, .ref 274)]) rfl rfl rfl rfl
/-- DreamBook$Finder.keepClash([I[I)I -/
noncomputable def db_f154 (s : db_S) (a1 : Nat) (a2 : Nat) : Option (Int32 × db_S) :=
  ((db_pI s 274 1 (0 : Int32)).bind fun s1 => ((db_rI s1 a1 (2 : Int32)).bind fun x2 => (cond (db_cnd .eq x2 (-1 : Int32)) (db_f154_b19 s1 a1 a2) ((db_rI s1 a1 (2 : Int32)).bind fun x3 => ((db_f155 s1 x3).bind fun s5 => (db_f154_b19 s5 a1 a2))))))
set_option maxRecDepth 100000 in
theorem db_f154_ok {X : db_X} {d : Nat} {s : db_S} {a1 : Nat} {a2 : Nat} : db_Rf X (d + 1) dbm_154 0 (lv_args 0 [.ref 274, .ref (a1 + 4), .ref (a2 + 4)]) [] s db_zI (db_f154 s (a1 + 4) (a2 + 4)) := by
  show db_Rf _ _ _ 0 [(0, .ref 274), (1, .ref (a1 + 4)), (2, .ref (a2 + 4))] [] _ _ _
  unfold db_f154
  refine db_Rgo (pc' := 2) (lv' := [(0, .ref 274), (1, .ref (a1 + 4)), (2, .ref (a2 + 4))]) (st' := [.int (0 : Int32), .ref 274]) 2 rfl ?_
  refine db_RpuI (pc' := 5) (lv1 := [(0, .ref 274), (1, .ref (a1 + 4)), (2, .ref (a2 + 4))]) rfl rfl rfl rfl rfl rfl (by decide) rfl rfl fun s1 => ?_
  refine db_Rgo (pc' := 7) (lv' := [(0, .ref 274), (1, .ref (a1 + 4)), (2, .ref (a2 + 4))]) (st' := [.int (2 : Int32), .ref (a1 + 4)]) 2 rfl ?_
  refine db_RldI (pc' := 8) (lv1 := [(0, .ref 274), (1, .ref (a1 + 4)), (2, .ref (a2 + 4))]) rfl rfl rfl fun x2 => ?_
  refine db_Rgo (pc' := 9) (lv' := [(0, .ref 274), (1, .ref (a1 + 4)), (2, .ref (a2 + 4))]) (st' := [.int (-1 : Int32), .int x2]) 1 rfl ?_
  refine db_Ric (pc' := 12) (tg := 19) (lv1 := [(0, .ref 274), (1, .ref (a1 + 4)), (2, .ref (a2 + 4))]) rfl rfl rfl rfl ?_ ?_
  · exact db_f154_b19_ok
  refine db_Rgo (pc' := 15) (lv' := [(0, .ref 274), (1, .ref (a1 + 4)), (2, .ref (a2 + 4))]) (st' := [.int (2 : Int32), .ref (a1 + 4), .ref 274]) 3 rfl ?_
  refine db_RldI (pc' := 16) (lv1 := [(0, .ref 274), (1, .ref (a1 + 4)), (2, .ref (a2 + 4))]) rfl rfl rfl fun x3 => ?_
  refine db_RcV (mr' := dbm_155) (as := [.ref 274, .int x3]) (rest := []) (pc' := 19) (lv1 := [(0, .ref 274), (1, .ref (a1 + 4)), (2, .ref (a2 + 4))]) rfl rfl rfl rfl rfl (db_f155_ok) fun s5 => ?_
  exact db_f154_b19_ok
noncomputable def db_f153_b26 (s : db_S) (v1 : Int32) (v2 : Int32) (v3 : Int32) : Option (Int32 × db_S) :=
  (cond (db_cnd .eq v3 0) ((db_rR 24 v1).bind fun y1 => ((db_rR 24 v2).bind fun y2 => (db_bd (db_f154 s y1 y2) fun q3 s4 => (db_bd (db_f87 s4 q3) fun q5 s6 => (some (q5, s6)))))) (db_bd (db_f37 s v3) fun q7 s8 => (some (q7, s8))))
set_option maxRecDepth 100000 in
theorem db_f153_b26_ok {X : db_X} {d : Nat}  {s : db_S} {v1 : Int32} {v2 : Int32} {v3 : Int32} : db_Rf X (d + 2) dbm_153 26 [(0, .ref 4), (1, .int v1), (2, .int v2), (3, .int v3)] [] s db_zI (db_f153_b26 s v1 v2 v3) := by
  unfold db_f153_b26
  refine db_Rgo (pc' := 27) (lv' := [(0, .ref 4), (1, .int v1), (2, .int v2), (3, .int v3)]) (st' := [.int v3]) 1 rfl ?_
  refine db_Rif (pc' := 30) (tg := 36) (lv1 := [(0, .ref 4), (1, .int v1), (2, .int v2), (3, .int v3)]) rfl rfl rfl rfl ?_ ?_
  · refine db_Rgo (pc' := 49) (lv' := [(0, .ref 4), (1, .int v1), (2, .int v2)]) (st' := [.int v1, .ref 24, .ref 274, .ref 4]) 7 rfl ?_
    refine db_RldR (pc' := 50) (lv1 := [(0, .ref 4), (1, .int v1), (2, .int v2)]) rfl rfl rfl fun y1 => ?_
    refine db_Rgo (pc' := 58) (lv' := [(0, .ref 4), (1, .int v1), (2, .int v2)]) (st' := [.int v2, .ref 24, .ref (y1 + 4), .ref 274, .ref 4]) 4 rfl ?_
    refine db_RldR (pc' := 59) (lv1 := [(0, .ref 4), (1, .int v1), (2, .int v2)]) rfl rfl rfl fun y2 => ?_
    refine db_RcdI (mr' := dbm_154) (as := [.ref 274, .ref (y1 + 4), .ref (y2 + 4)]) (rest := [.ref 4]) (pc' := 62) (lv1 := [(0, .ref 4), (1, .int v1), (2, .int v2)]) rfl rfl rfl rfl rfl (db_f154_ok) fun q3 s4 => ?_
    refine db_RcdI (mr' := dbm_87) (as := [.ref 4, .int q3]) (rest := []) (pc' := 65) (lv1 := [(0, .ref 4), (1, .int v1), (2, .int v2)]) rfl rfl rfl rfl rfl (db_f87_ok) fun q5 s6 => ?_
    exact db_Rret (lv1 := [(0, .ref 4), (1, .int v1), (2, .int v2)]) rfl rfl rfl rfl
  refine db_Rgo (pc' := 32) (lv' := [(0, .ref 4), (1, .int v1), (2, .int v2), (3, .int v3)]) (st' := [.int v3, .ref 4]) 2 rfl ?_
  refine db_RcdI (mr' := dbm_37) (as := [.ref 4, .int v3]) (rest := []) (pc' := 35) (lv1 := [(0, .ref 4), (1, .int v1), (2, .int v2), (3, .int v3)]) rfl rfl rfl rfl rfl (db_f37_ok) fun q7 s8 => ?_
  exact db_Rret (lv1 := [(0, .ref 4), (1, .int v1), (2, .int v2), (3, .int v3)]) rfl rfl rfl rfl
/-- DreamBook.shown(II)I -/
noncomputable def db_f153 (s : db_S) (v1 : Int32) (v2 : Int32) : Option (Int32 × db_S) :=
  ((db_f145 s v1 v2).bind fun q1 => (cond (db_cnd .ne q1 0) (db_f153_b26 s v1 v2 q1) ((db_f146_20 s v1 v2).bind fun q3 => (cond q3 (db_f153_b26 s v1 v2 q1) (db_f153_b26 s v1 v2 (8 : Int32))))))
set_option maxRecDepth 100000 in
theorem db_f153_ok {X : db_X} {d : Nat} {s : db_S} {v1 : Int32} {v2 : Int32} : db_Rf X (d + 2) dbm_153 0 (lv_args 0 [.ref 4, .int v1, .int v2]) [] s db_zI (db_f153 s v1 v2) := by
  show db_Rf _ _ _ 0 [(0, .ref 4), (1, .int v1), (2, .int v2)] [] _ _ _
  unfold db_f153
  refine db_Rgo (pc' := 3) (lv' := [(0, .ref 4), (1, .int v1), (2, .int v2)]) (st' := [.int v2, .int v1, .ref 4]) 3 rfl ?_
  refine db_RcyI (mr' := dbm_145) (as := [.ref 4, .int v1, .int v2]) (rest := []) (pc' := 6) (lv1 := [(0, .ref 4), (1, .int v1), (2, .int v2)]) rfl rfl rfl rfl rfl (db_f145_ok) fun q1 => ?_
  refine db_Rgo (pc' := 8) (lv' := [(3, .int q1), (0, .ref 4), (1, .int v1), (2, .int v2)]) (st' := [.int q1]) 2 rfl ?_
  refine db_Rif (pc' := 11) (tg := 26) (lv1 := [(3, .int q1), (0, .ref 4), (1, .int v1), (2, .int v2)]) rfl rfl rfl rfl ?_ ?_
  · refine db_Rn (lv1 := [(0, .ref 4), (1, .int v1), (2, .int v2), (3, .int q1)]) rfl rfl rfl ?_
    exact db_f153_b26_ok
  refine db_Rgo (pc' := 17) (lv' := [(3, .int q1), (0, .ref 4), (1, .int v1), (2, .int v2)]) (st' := [.int v2, .int v1, .ref 20]) 4 rfl ?_
  refine db_RcyB (mr' := dbm_146) (as := [.ref 20, .int v1, .int v2]) (rest := []) (pc' := 20) (lv1 := [(3, .int q1), (0, .ref 4), (1, .int v1), (2, .int v2)]) rfl rfl rfl rfl rfl (db_f146_20_ok) fun q3 => ?_
  refine db_RifBn (pc' := 23) (tg := 26) (lv1 := [(3, .int q1), (0, .ref 4), (1, .int v1), (2, .int v2)]) rfl rfl rfl rfl ?_ ?_
  · refine db_Rn (lv1 := [(0, .ref 4), (1, .int v1), (2, .int v2), (3, .int q1)]) rfl rfl rfl ?_
    exact db_f153_b26_ok
  refine db_Rgo (pc' := 26) (lv' := [(3, .int (8 : Int32)), (0, .ref 4), (1, .int v1), (2, .int v2)]) (st' := []) 2 rfl ?_
  refine db_Rn (lv1 := [(0, .ref 4), (1, .int v1), (2, .int v2), (3, .int (8 : Int32))]) rfl rfl rfl ?_
  exact db_f153_b26_ok
/-- DreamBookModel.finds(I)V -/
noncomputable def db_f341 (s : db_S) (v1 : Int32) : Option db_S :=
  ((db_wI s 680 (s.1 669 34) v1).bind fun s1 => ((db_pI s1 669 34 ((s1.1 669 34) + (1 : Int32))).bind fun s2 => (some s2)))
set_option maxRecDepth 100000 in
theorem db_f341_ok {X : db_X} {d : Nat} {s : db_S} {v1 : Int32} : db_Rf X (d + 0) dbm_341 0 (lv_args 0 [.ref 669, .int v1]) [] s db_zV (db_f341 s v1) := by
  show db_Rf _ _ _ 0 [(0, .ref 669), (1, .int v1)] [] _ _ _
  unfold db_f341
  refine db_Rgo (pc' := 9) (lv' := [(0, .ref 669), (1, .int v1)]) (st' := [.int v1, .int (s.1 669 34), .ref 680]) 5 rfl ?_
  refine db_RstI (pc' := 10) (lv1 := [(0, .ref 669), (1, .int v1)]) rfl rfl rfl fun s1 => ?_
  refine db_Rgo (pc' := 17) (lv' := [(0, .ref 669), (1, .int v1)]) (st' := [.int ((s1.1 669 34) + (1 : Int32)), .ref 669]) 5 rfl ?_
  refine db_RpuI (pc' := 20) (lv1 := [(0, .ref 669), (1, .int v1)]) rfl rfl rfl rfl rfl rfl (by decide) rfl rfl fun s2 => ?_
  exact db_Rret (lv1 := [(0, .ref 669), (1, .int v1)]) rfl rfl rfl rfl
noncomputable def db_f340_b26 (s : db_S) : Option (Int32 × db_S) :=
  (db_bd (db_f281 s (2 : Int32)) fun q1 s2 => (some (q1, s2)))
set_option maxRecDepth 100000 in
theorem db_f340_b26_ok {X : db_X} {d : Nat}  {s : db_S} : db_Rf X (d + 2) dbm_340 26 [(0, .ref 669)] [] s db_zI (db_f340_b26 s ) := by
  unfold db_f340_b26
  refine db_Rgo (pc' := 28) (lv' := [(0, .ref 669)]) (st' := [.int (2 : Int32), .ref 669]) 2 rfl ?_
  refine db_RcdI (mr' := dbm_281) (as := [.ref 669, .int (2 : Int32)]) (rest := []) (pc' := 31) (lv1 := [(0, .ref 669)]) rfl rfl rfl rfl rfl (db_f281_ok) fun q1 s2 => ?_
  exact db_Rret (lv1 := [(0, .ref 669)]) rfl rfl rfl rfl
noncomputable def db_f340_b89 (s : db_S) (v1 : Int32) (v2 : Int32) : Option (Int32 × db_S) :=
  ((db_rI s 674 ((19 : Int32) + v1)).bind fun x1 => ((db_f341 s x1).bind fun s3 => ((db_rI s3 674 ((43 : Int32) + v2)).bind fun x4 => (cond (db_cnd .lt x4 0) (some ((s3.1 669 34), s3)) ((db_rI s3 674 ((43 : Int32) + v2)).bind fun x5 => ((db_rI s3 674 ((43 : Int32) + v1)).bind fun x6 => (cond (db_cnd .eq x5 x6) (some ((s3.1 669 34), s3)) ((db_rI s3 674 ((43 : Int32) + v2)).bind fun x7 => ((db_f341 s3 x7).bind fun s9 => (some ((s9.1 669 34), s9)))))))))))
set_option maxRecDepth 100000 in
theorem db_f340_b89_ok {X : db_X} {d : Nat}  {s : db_S} {v1 : Int32} {v2 : Int32} : db_Rf X (d + 2) dbm_340 89 [(0, .ref 669), (1, .int v1), (2, .int v2)] [] s db_zI (db_f340_b89 s v1 v2) := by
  unfold db_f340_b89
  refine db_Rgo (pc' := 98) (lv' := [(0, .ref 669), (1, .int v1), (2, .int v2)]) (st' := [.int ((19 : Int32) + v1), .ref 674, .ref 669]) 6 rfl ?_
  refine db_RldI (pc' := 99) (lv1 := [(0, .ref 669), (1, .int v1), (2, .int v2)]) rfl rfl rfl fun x1 => ?_
  refine db_RcV (mr' := dbm_341) (as := [.ref 669, .int x1]) (rest := []) (pc' := 102) (lv1 := [(0, .ref 669), (1, .int v1), (2, .int v2)]) rfl rfl rfl rfl rfl (db_f341_ok) fun s3 => ?_
  refine db_Rgo (pc' := 110) (lv' := [(0, .ref 669), (1, .int v1), (2, .int v2)]) (st' := [.int ((43 : Int32) + v2), .ref 674]) 5 rfl ?_
  refine db_RldI (pc' := 111) (lv1 := [(0, .ref 669), (1, .int v1), (2, .int v2)]) rfl rfl rfl fun x4 => ?_
  refine db_Rif (pc' := 114) (tg := 148) (lv1 := [(0, .ref 669), (1, .int v1), (2, .int v2)]) rfl rfl rfl rfl ?_ ?_
  · refine db_Rgo (pc' := 152) (lv' := [(0, .ref 669)]) (st' := [.int (s3.1 669 34)]) 2 rfl ?_
    exact db_Rret (lv1 := [(0, .ref 669)]) rfl rfl rfl rfl
  refine db_Rgo (pc' := 122) (lv' := [(0, .ref 669), (1, .int v1), (2, .int v2)]) (st' := [.int ((43 : Int32) + v2), .ref 674]) 5 rfl ?_
  refine db_RldI (pc' := 123) (lv1 := [(0, .ref 669), (1, .int v1), (2, .int v2)]) rfl rfl rfl fun x5 => ?_
  refine db_Rgo (pc' := 131) (lv' := [(0, .ref 669), (1, .int v1), (2, .int v2)]) (st' := [.int ((43 : Int32) + v1), .ref 674, .int x5]) 5 rfl ?_
  refine db_RldI (pc' := 132) (lv1 := [(0, .ref 669), (1, .int v1), (2, .int v2)]) rfl rfl rfl fun x6 => ?_
  refine db_Ric (pc' := 135) (tg := 148) (lv1 := [(0, .ref 669), (1, .int v1), (2, .int v2)]) rfl rfl rfl rfl ?_ ?_
  · refine db_Rgo (pc' := 152) (lv' := [(0, .ref 669)]) (st' := [.int (s3.1 669 34)]) 2 rfl ?_
    exact db_Rret (lv1 := [(0, .ref 669)]) rfl rfl rfl rfl
  refine db_Rgo (pc' := 144) (lv' := [(0, .ref 669), (1, .int v1), (2, .int v2)]) (st' := [.int ((43 : Int32) + v2), .ref 674, .ref 669]) 6 rfl ?_
  refine db_RldI (pc' := 145) (lv1 := [(0, .ref 669), (1, .int v1), (2, .int v2)]) rfl rfl rfl fun x7 => ?_
  refine db_RcV (mr' := dbm_341) (as := [.ref 669, .int x7]) (rest := []) (pc' := 148) (lv1 := [(0, .ref 669), (1, .int v1), (2, .int v2)]) rfl rfl rfl rfl rfl (db_f341_ok) fun s9 => ?_
  refine db_Rgo (pc' := 152) (lv' := [(0, .ref 669)]) (st' := [.int (s9.1 669 34)]) 2 rfl ?_
  exact db_Rret (lv1 := [(0, .ref 669)]) rfl rfl rfl rfl
/-- DreamBookModel.shown(II)I -/
noncomputable def db_f340 (s : db_S) (v1 : Int32) (v2 : Int32) : Option (Int32 × db_S) :=
  ((db_pI s 669 1 (0 : Int32)).bind fun s1 => ((db_pI s1 669 0 (0 : Int32)).bind fun s2 => ((db_f289 s2 v1).bind fun q3 => (cond q3 ((db_f289 s2 v2).bind fun q5 => (cond q5 (cond (db_cnd .ne v1 v2) ((db_f336 s2 v1 v2).bind fun q7 => (cond q7 ((db_pI s2 669 34 (0 : Int32)).bind fun s9 => ((db_rI s9 674 ((43 : Int32) + v1)).bind fun x10 => (cond (db_cnd .lt x10 0) (db_f340_b89 s9 v1 v2) ((db_rI s9 674 ((43 : Int32) + v1)).bind fun x11 => ((db_f341 s9 x11).bind fun s13 => (db_f340_b89 s13 v1 v2)))))) (db_bd (db_f281 s2 (8 : Int32)) fun q14 s15 => (some (q14, s15))))) (db_bd (db_f281 s2 (5 : Int32)) fun q16 s17 => (some (q16, s17)))) (db_f340_b26 s2 ))) (db_f340_b26 s2 )))))
set_option maxRecDepth 100000 in
theorem db_f340_ok {X : db_X} {d : Nat} {s : db_S} {v1 : Int32} {v2 : Int32} : db_Rf X (d + 2) dbm_340 0 (lv_args 0 [.ref 669, .int v1, .int v2]) [] s db_zI (db_f340 s v1 v2) := by
  show db_Rf _ _ _ 0 [(0, .ref 669), (1, .int v1), (2, .int v2)] [] _ _ _
  unfold db_f340
  refine db_Rgo (pc' := 2) (lv' := [(0, .ref 669), (1, .int v1), (2, .int v2)]) (st' := [.int (0 : Int32), .ref 669]) 2 rfl ?_
  refine db_RpuI (pc' := 5) (lv1 := [(0, .ref 669), (1, .int v1), (2, .int v2)]) rfl rfl rfl rfl rfl rfl (by decide) rfl rfl fun s1 => ?_
  refine db_Rgo (pc' := 7) (lv' := [(0, .ref 669), (1, .int v1), (2, .int v2)]) (st' := [.int (0 : Int32), .ref 669]) 2 rfl ?_
  refine db_RpuI (pc' := 10) (lv1 := [(0, .ref 669), (1, .int v1), (2, .int v2)]) rfl rfl rfl rfl rfl rfl (by decide) rfl rfl fun s2 => ?_
  refine db_Rgo (pc' := 12) (lv' := [(0, .ref 669), (1, .int v1), (2, .int v2)]) (st' := [.int v1, .ref 669]) 2 rfl ?_
  refine db_RcyB (mr' := dbm_289) (as := [.ref 669, .int v1]) (rest := []) (pc' := 15) (lv1 := [(0, .ref 669), (1, .int v1), (2, .int v2)]) rfl rfl rfl rfl rfl (db_f289_ok) fun q3 => ?_
  refine db_RifBe (pc' := 18) (tg := 26) (lv1 := [(0, .ref 669), (1, .int v1), (2, .int v2)]) rfl rfl rfl rfl ?_ ?_
  · refine db_Rn (lv1 := [(0, .ref 669)]) rfl rfl rfl ?_
    exact db_f340_b26_ok
  refine db_Rgo (pc' := 20) (lv' := [(0, .ref 669), (1, .int v1), (2, .int v2)]) (st' := [.int v2, .ref 669]) 2 rfl ?_
  refine db_RcyB (mr' := dbm_289) (as := [.ref 669, .int v2]) (rest := []) (pc' := 23) (lv1 := [(0, .ref 669), (1, .int v1), (2, .int v2)]) rfl rfl rfl rfl rfl (db_f289_ok) fun q5 => ?_
  refine db_RifBn (pc' := 26) (tg := 32) (lv1 := [(0, .ref 669), (1, .int v1), (2, .int v2)]) rfl rfl rfl rfl ?_ ?_
  · refine db_Rgo (pc' := 34) (lv' := [(0, .ref 669), (1, .int v1), (2, .int v2)]) (st' := [.int v2, .int v1]) 2 rfl ?_
    refine db_Ric (pc' := 37) (tg := 43) (lv1 := [(0, .ref 669), (1, .int v1), (2, .int v2)]) rfl rfl rfl rfl ?_ ?_
    · refine db_Rgo (pc' := 46) (lv' := [(0, .ref 669), (1, .int v1), (2, .int v2)]) (st' := [.int v2, .int v1, .ref 669]) 3 rfl ?_
      refine db_RcyB (mr' := dbm_336) (as := [.ref 669, .int v1, .int v2]) (rest := []) (pc' := 49) (lv1 := [(0, .ref 669), (1, .int v1), (2, .int v2)]) rfl rfl rfl rfl rfl (db_f336_ok) fun q7 => ?_
      refine db_RifBn (pc' := 52) (tg := 59) (lv1 := [(0, .ref 669), (1, .int v1), (2, .int v2)]) rfl rfl rfl rfl ?_ ?_
      · refine db_Rgo (pc' := 61) (lv' := [(0, .ref 669), (1, .int v1), (2, .int v2)]) (st' := [.int (0 : Int32), .ref 669]) 2 rfl ?_
        refine db_RpuI (pc' := 64) (lv1 := [(0, .ref 669), (1, .int v1), (2, .int v2)]) rfl rfl rfl rfl rfl rfl (by decide) rfl rfl fun s9 => ?_
        refine db_Rgo (pc' := 72) (lv' := [(0, .ref 669), (1, .int v1), (2, .int v2)]) (st' := [.int ((43 : Int32) + v1), .ref 674]) 5 rfl ?_
        refine db_RldI (pc' := 73) (lv1 := [(0, .ref 669), (1, .int v1), (2, .int v2)]) rfl rfl rfl fun x10 => ?_
        refine db_Rif (pc' := 76) (tg := 89) (lv1 := [(0, .ref 669), (1, .int v1), (2, .int v2)]) rfl rfl rfl rfl ?_ ?_
        · exact db_f340_b89_ok
        refine db_Rgo (pc' := 85) (lv' := [(0, .ref 669), (1, .int v1), (2, .int v2)]) (st' := [.int ((43 : Int32) + v1), .ref 674, .ref 669]) 6 rfl ?_
        refine db_RldI (pc' := 86) (lv1 := [(0, .ref 669), (1, .int v1), (2, .int v2)]) rfl rfl rfl fun x11 => ?_
        refine db_RcV (mr' := dbm_341) (as := [.ref 669, .int x11]) (rest := []) (pc' := 89) (lv1 := [(0, .ref 669), (1, .int v1), (2, .int v2)]) rfl rfl rfl rfl rfl (db_f341_ok) fun s13 => ?_
        exact db_f340_b89_ok
      refine db_Rgo (pc' := 55) (lv' := [(0, .ref 669), (1, .int v1), (2, .int v2)]) (st' := [.int (8 : Int32), .ref 669]) 2 rfl ?_
      refine db_RcdI (mr' := dbm_281) (as := [.ref 669, .int (8 : Int32)]) (rest := []) (pc' := 58) (lv1 := [(0, .ref 669), (1, .int v1), (2, .int v2)]) rfl rfl rfl rfl rfl (db_f281_ok) fun q14 s15 => ?_
      exact db_Rret (lv1 := [(0, .ref 669), (1, .int v1), (2, .int v2)]) rfl rfl rfl rfl
    refine db_Rgo (pc' := 39) (lv' := [(0, .ref 669), (1, .int v1), (2, .int v2)]) (st' := [.int (5 : Int32), .ref 669]) 2 rfl ?_
    refine db_RcdI (mr' := dbm_281) (as := [.ref 669, .int (5 : Int32)]) (rest := []) (pc' := 42) (lv1 := [(0, .ref 669), (1, .int v1), (2, .int v2)]) rfl rfl rfl rfl rfl (db_f281_ok) fun q16 s17 => ?_
    exact db_Rret (lv1 := [(0, .ref 669), (1, .int v1), (2, .int v2)]) rfl rfl rfl rfl
  refine db_Rn (lv1 := [(0, .ref 669)]) rfl rfl rfl ?_
  exact db_f340_b26_ok
/-- DreamBook.foundAt(I)I -/
noncomputable def db_f156 (s : db_S) (v1 : Int32) : Option (Int32 × db_S) :=
  ((db_f27 s v1 (0 : Int32) ((s.1 274 1) - (1 : Int32))).bind fun q1 => (cond q1 ((db_rI s 275 v1).bind fun x3 => (db_bd (db_f87 s x3) fun q4 s5 => (some (q4, s5)))) (db_bd (db_f37 s (8 : Int32)) fun q6 s7 => (some (q6, s7)))))
set_option maxRecDepth 100000 in
theorem db_f156_ok {X : db_X} {d : Nat} {s : db_S} {v1 : Int32} : db_Rf X (d + 1) dbm_156 0 (lv_args 0 [.ref 4, .int v1]) [] s db_zI (db_f156 s v1) := by
  show db_Rf _ _ _ 0 [(0, .ref 4), (1, .int v1)] [] _ _ _
  unfold db_f156
  refine db_Rgo (pc' := 11) (lv' := [(0, .ref 4), (1, .int v1)]) (st' := [.int ((s.1 274 1) - (1 : Int32)), .int (0 : Int32), .int v1]) 7 rfl ?_
  refine db_RcyB (mr' := dbm_27) (as := [.int v1, .int (0 : Int32), .int ((s.1 274 1) - (1 : Int32))]) (rest := []) (pc' := 14) (lv1 := [(0, .ref 4), (1, .int v1)]) rfl rfl rfl rfl rfl (db_f27_ok) fun q1 => ?_
  refine db_RifBn (pc' := 17) (tg := 24) (lv1 := [(0, .ref 4), (1, .int v1)]) rfl rfl rfl rfl ?_ ?_
  · refine db_Rgo (pc' := 33) (lv' := [(0, .ref 4), (1, .int v1)]) (st' := [.int v1, .ref 275, .ref 4]) 5 rfl ?_
    refine db_RldI (pc' := 34) (lv1 := [(0, .ref 4), (1, .int v1)]) rfl rfl rfl fun x3 => ?_
    refine db_RcdI (mr' := dbm_87) (as := [.ref 4, .int x3]) (rest := []) (pc' := 37) (lv1 := [(0, .ref 4), (1, .int v1)]) rfl rfl rfl rfl rfl (db_f87_ok) fun q4 s5 => ?_
    exact db_Rret (lv1 := [(0, .ref 4), (1, .int v1)]) rfl rfl rfl rfl
  refine db_Rgo (pc' := 20) (lv' := [(0, .ref 4), (1, .int v1)]) (st' := [.int (8 : Int32), .ref 4]) 2 rfl ?_
  refine db_RcdI (mr' := dbm_37) (as := [.ref 4, .int (8 : Int32)]) (rest := []) (pc' := 23) (lv1 := [(0, .ref 4), (1, .int v1)]) rfl rfl rfl rfl rfl (db_f37_ok) fun q6 s7 => ?_
  exact db_Rret (lv1 := [(0, .ref 4), (1, .int v1)]) rfl rfl rfl rfl
/-- DreamBookModel.foundAt(I)I -/
noncomputable def db_f342 (s : db_S) (v1 : Int32) : Option (Int32 × db_S) :=
  ((db_pI s 669 1 (0 : Int32)).bind fun s1 => ((db_pI s1 669 0 (0 : Int32)).bind fun s2 => ((db_f269 s2 (Int32.toInt64 v1) (0 : Int64) (Int32.toInt64 ((s2.1 669 34) - (1 : Int32)))).bind fun q3 => (cond q3 ((db_rI s2 680 v1).bind fun x7 => (some (x7, s2))) (db_bd (db_f281 s2 (8 : Int32)) fun q5 s6 => (some (q5, s6)))))))
set_option maxRecDepth 100000 in
theorem db_f342_ok {X : db_X} {d : Nat} {s : db_S} {v1 : Int32} : db_Rf X (d + 1) dbm_342 0 (lv_args 0 [.ref 669, .int v1]) [] s db_zI (db_f342 s v1) := by
  show db_Rf _ _ _ 0 [(0, .ref 669), (1, .int v1)] [] _ _ _
  unfold db_f342
  refine db_Rgo (pc' := 2) (lv' := [(0, .ref 669), (1, .int v1)]) (st' := [.int (0 : Int32), .ref 669]) 2 rfl ?_
  refine db_RpuI (pc' := 5) (lv1 := [(0, .ref 669), (1, .int v1)]) rfl rfl rfl rfl rfl rfl (by decide) rfl rfl fun s1 => ?_
  refine db_Rgo (pc' := 7) (lv' := [(0, .ref 669), (1, .int v1)]) (st' := [.int (0 : Int32), .ref 669]) 2 rfl ?_
  refine db_RpuI (pc' := 10) (lv1 := [(0, .ref 669), (1, .int v1)]) rfl rfl rfl rfl rfl rfl (by decide) rfl rfl fun s2 => ?_
  refine db_Rgo (pc' := 20) (lv' := [(0, .ref 669), (1, .int v1)]) (st' := [.long (Int32.toInt64 ((s2.1 669 34) - (1 : Int32))), .long (0 : Int64), .long (Int32.toInt64 v1)]) 8 rfl ?_
  refine db_RcyB (mr' := dbm_269) (as := [.long (Int32.toInt64 v1), .long (0 : Int64), .long (Int32.toInt64 ((s2.1 669 34) - (1 : Int32)))]) (rest := []) (pc' := 23) (lv1 := [(0, .ref 669), (1, .int v1)]) rfl rfl rfl rfl rfl (db_f269_ok) fun q3 => ?_
  refine db_RifBe (pc' := 26) (tg := 35) (lv1 := [(0, .ref 669), (1, .int v1)]) rfl rfl rfl rfl ?_ ?_
  · refine db_Rgo (pc' := 38) (lv' := [(0, .ref 669)]) (st' := [.int (8 : Int32), .ref 669]) 2 rfl ?_
    refine db_RcdI (mr' := dbm_281) (as := [.ref 669, .int (8 : Int32)]) (rest := []) (pc' := 41) (lv1 := [(0, .ref 669)]) rfl rfl rfl rfl rfl (db_f281_ok) fun q5 s6 => ?_
    exact db_Rret (lv1 := []) rfl rfl rfl rfl
  refine db_Rgo (pc' := 31) (lv' := [(0, .ref 669), (1, .int v1)]) (st' := [.int v1, .ref 680]) 3 rfl ?_
  refine db_RldI (pc' := 32) (lv1 := [(0, .ref 669), (1, .int v1)]) rfl rfl rfl fun x7 => ?_
  refine db_Rgo (pc' := 41) (lv' := [(0, .ref 669), (1, .int v1)]) (st' := [.int x7]) 1 rfl ?_
  exact db_Rret (lv1 := []) rfl rfl rfl rfl
