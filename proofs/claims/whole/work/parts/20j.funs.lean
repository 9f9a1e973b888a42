/-- DreamBook$Life.copyFrom(LDreamBook$Life;)V -/
noncomputable def db_f175_80_276 (s : db_S) : Option db_S :=
  ((db_f83 s 277 81).bind fun s2 => ((db_f83 s2 278 82).bind fun s4 => ((db_pI s4 80 2 (s4.1 276 2)).bind fun s5 => ((db_pI s5 80 3 (s5.1 276 3)).bind fun s6 => (some s6)))))
set_option maxRecDepth 100000 in
theorem db_f175_80_276_ok {X : db_X} {d : Nat} {s : db_S} : db_Rf X (d + 1) dbm_175 0 (lv_args 0 [.ref 80, .ref 276]) [] s db_zV (db_f175_80_276 s ) := by
  show db_Rf _ _ _ 0 [(0, .ref 80), (1, .ref 276)] [] _ _ _
  unfold db_f175_80_276
  refine db_Rgo (pc' := 8) (lv' := [(0, .ref 80), (1, .ref 276)]) (st' := [.ref 81, .ref 277]) 4 rfl ?_
  refine db_RcV (mr' := dbm_83) (as := [.ref 277, .ref 81]) (rest := []) (pc' := 11) (lv1 := [(0, .ref 80), (1, .ref 276)]) rfl rfl rfl rfl rfl (db_f83_ok) fun s2 => ?_
  refine db_Rgo (pc' := 19) (lv' := [(0, .ref 80), (1, .ref 276)]) (st' := [.ref 82, .ref 278]) 4 rfl ?_
  refine db_RcV (mr' := dbm_83) (as := [.ref 278, .ref 82]) (rest := []) (pc' := 22) (lv1 := [(0, .ref 80), (1, .ref 276)]) rfl rfl rfl rfl rfl (db_f83_ok) fun s4 => ?_
  refine db_Rgo (pc' := 27) (lv' := [(0, .ref 80), (1, .ref 276)]) (st' := [.int (s4.1 276 2), .ref 80]) 3 rfl ?_
  refine db_RpuI (pc' := 30) (lv1 := [(0, .ref 80), (1, .ref 276)]) rfl rfl rfl rfl rfl rfl (by decide) rfl rfl fun s5 => ?_
  refine db_Rgo (pc' := 35) (lv' := [(0, .ref 80), (1, .ref 276)]) (st' := [.int (s5.1 276 3), .ref 80]) 3 rfl ?_
  refine db_RpuI (pc' := 38) (lv1 := [(0, .ref 80), (1, .ref 276)]) rfl rfl rfl rfl rfl rfl (by decide) rfl rfl fun s6 => ?_
  exact db_Rret (lv1 := [(0, .ref 80), (1, .ref 276)]) rfl rfl rfl rfl
noncomputable def db_f177_b63 (h6 : db_S → Int32 → Int32 → Int32 → Int32 → Int32 → Option (Int32 × db_S)) (s : db_S) (v1 : Int32) (v2 : Int32) (v3 : Int32) (v4 : Int32) (v5 : Int32) : Option (Int32 × db_S) :=
  (h6 s v1 v2 v3 v4 (v5 + (1 : Int32)))
set_option maxRecDepth 100000 in
theorem db_f177_b63_ok {X : db_X} {d : Nat}  {h6 : db_S → Int32 → Int32 → Int32 → Int32 → Int32 → Option (Int32 × db_S)} {s : db_S} {v1 : Int32} {v2 : Int32} {v3 : Int32} {v4 : Int32} {v5 : Int32} (zh6 : ∀ (s' : db_S) (v1 : Int32) (v2 : Int32) (v3 : Int32) (v4 : Int32) (v5 : Int32) , db_Rf X (d + 3) dbm_177 6 [(0, .ref 274), (1, .int v1), (2, .int v2), (3, .int v3), (4, .int v4), (5, .int v5)] [] s' db_zI (h6 s' v1 v2 v3 v4 v5)) : db_Rf X (d + 3) dbm_177 63 [(0, .ref 274), (1, .int v1), (2, .int v2), (3, .int v3), (4, .int v4), (5, .int v5)] [] s db_zI (db_f177_b63 h6 s v1 v2 v3 v4 v5) := by
  unfold db_f177_b63
  refine db_Rgo (pc' := 6) (lv' := [(5, .int (v5 + (1 : Int32))), (0, .ref 274), (1, .int v1), (2, .int v2), (3, .int v3), (4, .int v4)]) (st' := []) 2 rfl ?_
  refine db_Rn (lv1 := [(0, .ref 274), (1, .int v1), (2, .int v2), (3, .int v3), (4, .int v4), (5, .int (v5 + (1 : Int32)))]) rfl rfl rfl ?_
  exact zh6 _ _ _ _ _ _
noncomputable def db_f177_b6 : Nat → db_S → Int32 → Int32 → Int32 → Int32 → Int32 → Option (Int32 × db_S)
  | 0, _, _, _, _, _, _ => none
  | n + 1, s, v1, v2, v3, v4, v5 =>
    ((db_rI s 21 (5 : Int32)).bind fun x1 => (cond (db_cnd .ge v5 x1) ((db_f175_80_276 s).bind fun s3 => (some (v4, s3))) ((db_f112 s v1 v5).bind fun q4 => (cond q4 (db_bd (db_f127 s v5 v2 v3) fun q6 s7 => ((db_rI s7 59 v5).bind fun x8 => (db_bd (db_f138 s7 x8) fun q9 s10 => (db_f177_b63 (db_f177_b6 n) s10 v1 v2 v3 (v4 + q6) v5)))) (db_f177_b63 (db_f177_b6 n) s v1 v2 v3 v4 v5)))))
set_option maxRecDepth 100000 in
theorem db_f177_b6_ok {X : db_X} {d : Nat}  (n : Nat) : ∀ (s : db_S) (v1 : Int32) (v2 : Int32) (v3 : Int32) (v4 : Int32) (v5 : Int32), db_Rf X (d + 3) dbm_177 6 [(0, .ref 274), (1, .int v1), (2, .int v2), (3, .int v3), (4, .int v4), (5, .int v5)] [] s db_zI (db_f177_b6 n s v1 v2 v3 v4 v5) := by
  induction n with
  | zero => intros; exact db_Rnone
  | succ n ih =>
    intro s v1 v2 v3 v4 v5
    unfold db_f177_b6
    refine db_Rgo (pc' := 16) (lv' := [(0, .ref 274), (1, .int v1), (2, .int v2), (3, .int v3), (4, .int v4), (5, .int v5)]) (st' := [.int (5 : Int32), .ref 21, .int v5]) 5 rfl ?_
    refine db_RldI (pc' := 17) (lv1 := [(0, .ref 274), (1, .int v1), (2, .int v2), (3, .int v3), (4, .int v4), (5, .int v5)]) rfl rfl rfl fun x1 => ?_
    refine db_Ric (pc' := 20) (tg := 69) (lv1 := [(0, .ref 274), (1, .int v1), (2, .int v2), (3, .int v3), (4, .int v4), (5, .int v5)]) rfl rfl rfl rfl ?_ ?_
    · refine db_Rgo (pc' := 77) (lv' := [(0, .ref 274), (4, .int v4)]) (st' := [.ref 276, .ref 80]) 4 rfl ?_
      refine db_RcV (mr' := dbm_175) (as := [.ref 80, .ref 276]) (rest := []) (pc' := 80) (lv1 := [(0, .ref 274), (4, .int v4)]) rfl rfl rfl rfl rfl (db_f175_80_276_ok) fun s3 => ?_
      refine db_Rgo (pc' := 82) (lv' := [(0, .ref 274), (4, .int v4)]) (st' := [.int v4]) 1 rfl ?_
      exact db_Rret (lv1 := [(0, .ref 274), (4, .int v4)]) rfl rfl rfl rfl
    refine db_Rgo (pc' := 23) (lv' := [(0, .ref 274), (1, .int v1), (2, .int v2), (3, .int v3), (4, .int v4), (5, .int v5)]) (st' := [.int v5, .int v1]) 2 rfl ?_
    refine db_RcyB (mr' := dbm_112) (as := [.int v1, .int v5]) (rest := []) (pc' := 26) (lv1 := [(0, .ref 274), (1, .int v1), (2, .int v2), (3, .int v3), (4, .int v4), (5, .int v5)]) rfl rfl rfl rfl rfl (db_f112_ok) fun q4 => ?_
    refine db_RifBe (pc' := 29) (tg := 63) (lv1 := [(0, .ref 274), (1, .int v1), (2, .int v2), (3, .int v3), (4, .int v4), (5, .int v5)]) rfl rfl rfl rfl ?_ ?_
    · exact db_f177_b63_ok ih
    refine db_Rgo (pc' := 39) (lv' := [(0, .ref 274), (1, .int v1), (2, .int v2), (3, .int v3), (4, .int v4), (5, .int v5)]) (st' := [.int v3, .int v2, .int v5, .ref 271, .int v4]) 6 rfl ?_
    refine db_RcdI (mr' := dbm_127) (as := [.ref 271, .int v5, .int v2, .int v3]) (rest := [.int v4]) (pc' := 42) (lv1 := [(0, .ref 274), (1, .int v1), (2, .int v2), (3, .int v3), (4, .int v4), (5, .int v5)]) rfl rfl rfl rfl rfl (db_f127_ok) fun q6 s7 => ?_
    refine db_Rgo (pc' := 58) (lv' := [(4, .int (v4 + q6)), (0, .ref 274), (1, .int v1), (2, .int v2), (3, .int v3), (5, .int v5)]) (st' := [.int v5, .ref 59, .ref 271]) 8 rfl ?_
    refine db_RldI (pc' := 59) (lv1 := [(4, .int (v4 + q6)), (0, .ref 274), (1, .int v1), (2, .int v2), (3, .int v3), (5, .int v5)]) rfl rfl rfl fun x8 => ?_
    refine db_RcdI (mr' := dbm_138) (as := [.ref 271, .int x8]) (rest := []) (pc' := 62) (lv1 := [(4, .int (v4 + q6)), (0, .ref 274), (1, .int v1), (2, .int v2), (3, .int v3), (5, .int v5)]) rfl rfl rfl rfl rfl (db_f138_ok) fun q9 s10 => ?_
    refine db_Rgo (pc' := 63) (lv' := [(4, .int (v4 + q6)), (0, .ref 274), (1, .int v1), (2, .int v2), (3, .int v3), (5, .int v5)]) (st' := []) 1 rfl ?_
    refine db_Rn (lv1 := [(0, .ref 274), (1, .int v1), (2, .int v2), (3, .int v3), (4, .int (v4 + q6)), (5, .int v5)]) rfl rfl rfl ?_
    exact db_f177_b63_ok ih
/-- DreamBook$Finder.dreamAll(III)I -/
noncomputable def db_f177 (s : db_S) (v1 : Int32) (v2 : Int32) (v3 : Int32) : Option (Int32 × db_S) :=
  (db_f177_b6 db_FU s v1 v2 v3 (0 : Int32) (0 : Int32))
set_option maxRecDepth 100000 in
theorem db_f177_ok {X : db_X} {d : Nat} {s : db_S} {v1 : Int32} {v2 : Int32} {v3 : Int32} : db_Rf X (d + 3) dbm_177 0 (lv_args 0 [.ref 274, .int v1, .int v2, .int v3]) [] s db_zI (db_f177 s v1 v2 v3) := by
  show db_Rf _ _ _ 0 [(0, .ref 274), (1, .int v1), (2, .int v2), (3, .int v3)] [] _ _ _
  unfold db_f177
  refine db_Rgo (pc' := 6) (lv' := [(5, .int (0 : Int32)), (4, .int (0 : Int32)), (0, .ref 274), (1, .int v1), (2, .int v2), (3, .int v3)]) (st' := []) 4 rfl ?_
  refine db_Rn (lv1 := [(0, .ref 274), (1, .int v1), (2, .int v2), (3, .int v3), (4, .int (0 : Int32)), (5, .int (0 : Int32))]) rfl rfl rfl ?_
  exact db_f177_b6_ok db_FU _ _ _ _ _ _
noncomputable def db_f174_b80 (h30 : db_S → Int32 → Int32 → Int32 → Int32 → Int32 → Int32 → Option (Int32 × db_S)) (s : db_S) (v1 : Int32) (v2 : Int32) (v3 : Int32) (v4 : Int32) (v5 : Int32) (v6 : Int32) : Option (Int32 × db_S) :=
  (h30 s v1 v2 v3 v4 v5 (v6 + (1 : Int32)))
set_option maxRecDepth 100000 in
theorem db_f174_b80_ok {X : db_X} {d : Nat}  {h30 : db_S → Int32 → Int32 → Int32 → Int32 → Int32 → Int32 → Option (Int32 × db_S)} {s : db_S} {v1 : Int32} {v2 : Int32} {v3 : Int32} {v4 : Int32} {v5 : Int32} {v6 : Int32} (zh30 : ∀ (s' : db_S) (v1 : Int32) (v2 : Int32) (v3 : Int32) (v4 : Int32) (v5 : Int32) (v6 : Int32) , db_Rf X (d + 4) dbm_174 30 [(0, .ref 274), (1, .int v1), (2, .int v2), (3, .int v3), (4, .int v4), (5, .int v5), (6, .int v6)] [] s' db_zI (h30 s' v1 v2 v3 v4 v5 v6)) : db_Rf X (d + 4) dbm_174 80 [(0, .ref 274), (1, .int v1), (2, .int v2), (3, .int v3), (4, .int v4), (5, .int v5), (6, .int v6)] [] s db_zI (db_f174_b80 h30 s v1 v2 v3 v4 v5 v6) := by
  unfold db_f174_b80
  refine db_Rgo (pc' := 30) (lv' := [(6, .int (v6 + (1 : Int32))), (0, .ref 274), (1, .int v1), (2, .int v2), (3, .int v3), (4, .int v4), (5, .int v5)]) (st' := []) 2 rfl ?_
  refine db_Rn (lv1 := [(0, .ref 274), (1, .int v1), (2, .int v2), (3, .int v3), (4, .int v4), (5, .int v5), (6, .int (v6 + (1 : Int32)))]) rfl rfl rfl ?_
  exact zh30 _ _ _ _ _ _ _
noncomputable def db_f174_b58 (h30 : db_S → Int32 → Int32 → Int32 → Int32 → Int32 → Int32 → Option (Int32 × db_S)) (s : db_S) (v1 : Int32) (v2 : Int32) (v3 : Int32) (v4 : Int32) (v5 : Int32) (v6 : Int32) (v7 : Int32) : Option (Int32 × db_S) :=
  (db_bd (db_f177 s v6 v2 v3) fun q1 s2 => (cond (db_cnd .ne q1 v1) (db_f174_b80 h30 s2 v1 v2 v3 v4 v5 v6) ((db_pI s2 274 2 v6).bind fun s3 => (db_f174_b80 h30 s3 v1 v2 v3 v7 v5 v6))))
set_option maxRecDepth 100000 in
theorem db_f174_b58_ok {X : db_X} {d : Nat}  {h30 : db_S → Int32 → Int32 → Int32 → Int32 → Int32 → Int32 → Option (Int32 × db_S)} {s : db_S} {v1 : Int32} {v2 : Int32} {v3 : Int32} {v4 : Int32} {v5 : Int32} {v6 : Int32} {v7 : Int32} (zh30 : ∀ (s' : db_S) (v1 : Int32) (v2 : Int32) (v3 : Int32) (v4 : Int32) (v5 : Int32) (v6 : Int32) , db_Rf X (d + 4) dbm_174 30 [(0, .ref 274), (1, .int v1), (2, .int v2), (3, .int v3), (4, .int v4), (5, .int v5), (6, .int v6)] [] s' db_zI (h30 s' v1 v2 v3 v4 v5 v6)) : db_Rf X (d + 4) dbm_174 58 [(0, .ref 274), (1, .int v1), (2, .int v2), (3, .int v3), (4, .int v4), (5, .int v5), (6, .int v6), (7, .int v7)] [] s db_zI (db_f174_b58 h30 s v1 v2 v3 v4 v5 v6 v7) := by
  unfold db_f174_b58
  refine db_Rgo (pc' := 63) (lv' := [(0, .ref 274), (1, .int v1), (2, .int v2), (3, .int v3), (4, .int v4), (5, .int v5), (6, .int v6), (7, .int v7)]) (st' := [.int v3, .int v2, .int v6, .ref 274]) 4 rfl ?_
  refine db_RcdI (mr' := dbm_177) (as := [.ref 274, .int v6, .int v2, .int v3]) (rest := []) (pc' := 66) (lv1 := [(0, .ref 274), (1, .int v1), (2, .int v2), (3, .int v3), (4, .int v4), (5, .int v5), (6, .int v6), (7, .int v7)]) rfl rfl rfl rfl rfl (db_f177_ok) fun q1 s2 => ?_
  refine db_Rgo (pc' := 67) (lv' := [(0, .ref 274), (1, .int v1), (2, .int v2), (3, .int v3), (4, .int v4), (5, .int v5), (6, .int v6), (7, .int v7)]) (st' := [.int v1, .int q1]) 1 rfl ?_
  refine db_Ric (pc' := 70) (tg := 80) (lv1 := [(0, .ref 274), (1, .int v1), (2, .int v2), (3, .int v3), (4, .int v4), (5, .int v5), (6, .int v6), (7, .int v7)]) rfl rfl rfl rfl ?_ ?_
  · refine db_Rn (lv1 := [(0, .ref 274), (1, .int v1), (2, .int v2), (3, .int v3), (4, .int v4), (5, .int v5), (6, .int v6)]) rfl rfl rfl ?_
    exact db_f174_b80_ok zh30
  refine db_Rgo (pc' := 77) (lv' := [(4, .int v7), (0, .ref 274), (1, .int v1), (2, .int v2), (3, .int v3), (5, .int v5), (6, .int v6), (7, .int v7)]) (st' := [.int v6, .ref 274]) 4 rfl ?_
  refine db_RpuI (pc' := 80) (lv1 := [(4, .int v7), (0, .ref 274), (1, .int v1), (2, .int v2), (3, .int v3), (5, .int v5), (6, .int v6), (7, .int v7)]) rfl rfl rfl rfl rfl rfl (by decide) rfl rfl fun s3 => ?_
  refine db_Rn (lv1 := [(0, .ref 274), (1, .int v1), (2, .int v2), (3, .int v3), (4, .int v7), (5, .int v5), (6, .int v6)]) rfl rfl rfl ?_
  exact db_f174_b80_ok zh30
noncomputable def db_f174_b30 : Nat → db_S → Int32 → Int32 → Int32 → Int32 → Int32 → Int32 → Option (Int32 × db_S)
  | 0, _, _, _, _, _, _, _ => none
  | n + 1, s, v1, v2, v3, v4, v5, v6 =>
    (cond (db_cnd .ge v6 v5) (some (v4, s)) ((db_f176 s v6).bind fun q1 => (cond (db_cnd .eq v4 (-1 : Int32)) (db_f174_b58 (db_f174_b30 n) s v1 v2 v3 v4 v5 v6 q1) (cond (db_cnd .ge q1 v4) (db_f174_b80 (db_f174_b30 n) s v1 v2 v3 v4 v5 v6) (db_f174_b58 (db_f174_b30 n) s v1 v2 v3 v4 v5 v6 q1)))))
set_option maxRecDepth 100000 in
theorem db_f174_b30_ok {X : db_X} {d : Nat}  (n : Nat) : ∀ (s : db_S) (v1 : Int32) (v2 : Int32) (v3 : Int32) (v4 : Int32) (v5 : Int32) (v6 : Int32), db_Rf X (d + 4) dbm_174 30 [(0, .ref 274), (1, .int v1), (2, .int v2), (3, .int v3), (4, .int v4), (5, .int v5), (6, .int v6)] [] s db_zI (db_f174_b30 n s v1 v2 v3 v4 v5 v6) := by
  induction n with
  | zero => intros; exact db_Rnone
  | succ n ih =>
    intro s v1 v2 v3 v4 v5 v6
    unfold db_f174_b30
    refine db_Rgo (pc' := 34) (lv' := [(0, .ref 274), (1, .int v1), (2, .int v2), (3, .int v3), (4, .int v4), (5, .int v5), (6, .int v6)]) (st' := [.int v5, .int v6]) 2 rfl ?_
    refine db_Ric (pc' := 37) (tg := 86) (lv1 := [(0, .ref 274), (1, .int v1), (2, .int v2), (3, .int v3), (4, .int v4), (5, .int v5), (6, .int v6)]) rfl rfl rfl rfl ?_ ?_
    · refine db_Rgo (pc' := 88) (lv' := [(4, .int v4)]) (st' := [.int v4]) 1 rfl ?_
      exact db_Rret (lv1 := [(4, .int v4)]) rfl rfl rfl rfl
    refine db_Rgo (pc' := 40) (lv' := [(0, .ref 274), (1, .int v1), (2, .int v2), (3, .int v3), (4, .int v4), (5, .int v5), (6, .int v6)]) (st' := [.int v6, .ref 274]) 2 rfl ?_
    refine db_RcyI (mr' := dbm_176) (as := [.ref 274, .int v6]) (rest := []) (pc' := 43) (lv1 := [(0, .ref 274), (1, .int v1), (2, .int v2), (3, .int v3), (4, .int v4), (5, .int v5), (6, .int v6)]) rfl rfl rfl rfl rfl (db_f176_ok) fun q1 => ?_
    refine db_Rgo (pc' := 48) (lv' := [(7, .int q1), (0, .ref 274), (1, .int v1), (2, .int v2), (3, .int v3), (4, .int v4), (5, .int v5), (6, .int v6)]) (st' := [.int (-1 : Int32), .int v4]) 3 rfl ?_
    refine db_Ric (pc' := 51) (tg := 58) (lv1 := [(7, .int q1), (0, .ref 274), (1, .int v1), (2, .int v2), (3, .int v3), (4, .int v4), (5, .int v5), (6, .int v6)]) rfl rfl rfl rfl ?_ ?_
    · refine db_Rn (lv1 := [(0, .ref 274), (1, .int v1), (2, .int v2), (3, .int v3), (4, .int v4), (5, .int v5), (6, .int v6), (7, .int q1)]) rfl rfl rfl ?_
      exact db_f174_b58_ok ih
    refine db_Rgo (pc' := 55) (lv' := [(7, .int q1), (0, .ref 274), (1, .int v1), (2, .int v2), (3, .int v3), (4, .int v4), (5, .int v5), (6, .int v6)]) (st' := [.int v4, .int q1]) 2 rfl ?_
    refine db_Ric (pc' := 58) (tg := 80) (lv1 := [(7, .int q1), (0, .ref 274), (1, .int v1), (2, .int v2), (3, .int v3), (4, .int v4), (5, .int v5), (6, .int v6)]) rfl rfl rfl rfl ?_ ?_
    · refine db_Rn (lv1 := [(0, .ref 274), (1, .int v1), (2, .int v2), (3, .int v3), (4, .int v4), (5, .int v5), (6, .int v6)]) rfl rfl rfl ?_
      exact db_f174_b80_ok ih
    refine db_Rn (lv1 := [(0, .ref 274), (1, .int v1), (2, .int v2), (3, .int v3), (4, .int v4), (5, .int v5), (6, .int v6), (7, .int q1)]) rfl rfl rfl ?_
    exact db_f174_b58_ok ih
/-- DreamBook$Finder.findStock(III)I -/
noncomputable def db_f174 (s : db_S) (v1 : Int32) (v2 : Int32) (v3 : Int32) : Option (Int32 × db_S) :=
  ((db_f175_276_80 s).bind fun s2 => ((db_rI s2 21 (5 : Int32)).bind fun x3 => (db_f174_b30 db_FU s2 v1 v2 v3 (-1 : Int32) ((1 : Int32) <<< (x3 &&& 31)) (0 : Int32))))
set_option maxRecDepth 100000 in
theorem db_f174_ok {X : db_X} {d : Nat} {s : db_S} {v1 : Int32} {v2 : Int32} {v3 : Int32} : db_Rf X (d + 4) dbm_174 0 (lv_args 0 [.ref 274, .int v1, .int v2, .int v3]) [] s db_zI (db_f174 s v1 v2 v3) := by
  show db_Rf _ _ _ 0 [(0, .ref 274), (1, .int v1), (2, .int v2), (3, .int v3)] [] _ _ _
  unfold db_f174
  refine db_Rgo (pc' := 8) (lv' := [(0, .ref 274), (1, .int v1), (2, .int v2), (3, .int v3)]) (st' := [.ref 80, .ref 276]) 4 rfl ?_
  refine db_RcV (mr' := dbm_175) (as := [.ref 276, .ref 80]) (rest := []) (pc' := 11) (lv1 := [(0, .ref 274), (1, .int v1), (2, .int v2), (3, .int v3)]) rfl rfl rfl rfl rfl (db_f175_276_80_ok) fun s2 => ?_
  refine db_Rgo (pc' := 23) (lv' := [(4, .int (-1 : Int32)), (0, .ref 274), (1, .int v1), (2, .int v2), (3, .int v3)]) (st' := [.int (5 : Int32), .ref 21, .int (1 : Int32)]) 7 rfl ?_
  refine db_RldI (pc' := 24) (lv1 := [(4, .int (-1 : Int32)), (0, .ref 274), (1, .int v1), (2, .int v2), (3, .int v3)]) rfl rfl rfl fun x3 => ?_
  refine db_Rgo (pc' := 30) (lv' := [(6, .int (0 : Int32)), (5, .int ((1 : Int32) <<< (x3 &&& 31))), (4, .int (-1 : Int32)), (0, .ref 274), (1, .int v1), (2, .int v2), (3, .int v3)]) (st' := []) 4 rfl ?_
  refine db_Rn (lv1 := [(0, .ref 274), (1, .int v1), (2, .int v2), (3, .int v3), (4, .int (-1 : Int32)), (5, .int ((1 : Int32) <<< (x3 &&& 31))), (6, .int (0 : Int32))]) rfl rfl rfl ?_
  exact db_f174_b30_ok db_FU _ _ _ _ _ _ _
/-- DreamBook.stock(III)I -/
noncomputable def db_f173 (s : db_S) (v1 : Int32) (v2 : Int32) (v3 : Int32) : Option (Int32 × db_S) :=
  ((db_f126 s v2 v3).bind fun q1 => (cond q1 ((db_f162 s v1).bind fun q3 => (cond q3 (db_bd (db_f174 s v1 v2 v3) fun q5 s6 => (cond (db_cnd .ne q5 (-1 : Int32)) (db_bd (db_f87 s6 q5) fun q7 s8 => (some (q7, s8))) (db_bd (db_f37 s6 (8 : Int32)) fun q9 s10 => (some (q9, s10))))) (db_bd (db_f37 s (5 : Int32)) fun q11 s12 => (some (q11, s12))))) (db_bd (db_f37 s (2 : Int32)) fun q13 s14 => (some (q13, s14)))))
set_option maxRecDepth 100000 in
theorem db_f173_ok {X : db_X} {d : Nat} {s : db_S} {v1 : Int32} {v2 : Int32} {v3 : Int32} : db_Rf X (d + 5) dbm_173 0 (lv_args 0 [.ref 4, .int v1, .int v2, .int v3]) [] s db_zI (db_f173 s v1 v2 v3) := by
  show db_Rf _ _ _ 0 [(0, .ref 4), (1, .int v1), (2, .int v2), (3, .int v3)] [] _ _ _
  unfold db_f173
  refine db_Rgo (pc' := 3) (lv' := [(0, .ref 4), (1, .int v1), (2, .int v2), (3, .int v3)]) (st' := [.int v3, .int v2, .ref 4]) 3 rfl ?_
  refine db_RcyB (mr' := dbm_126) (as := [.ref 4, .int v2, .int v3]) (rest := []) (pc' := 6) (lv1 := [(0, .ref 4), (1, .int v1), (2, .int v2), (3, .int v3)]) rfl rfl rfl rfl rfl (db_f126_ok) fun q1 => ?_
  refine db_RifBn (pc' := 9) (tg := 15) (lv1 := [(0, .ref 4), (1, .int v1), (2, .int v2), (3, .int v3)]) rfl rfl rfl rfl ?_ ?_
  · refine db_Rgo (pc' := 16) (lv' := [(0, .ref 4), (1, .int v1), (2, .int v2), (3, .int v3)]) (st' := [.int v1]) 1 rfl ?_
    refine db_RcyB (mr' := dbm_162) (as := [.int v1]) (rest := []) (pc' := 19) (lv1 := [(0, .ref 4), (1, .int v1), (2, .int v2), (3, .int v3)]) rfl rfl rfl rfl rfl (db_f162_ok) fun q3 => ?_
    refine db_RifBn (pc' := 22) (tg := 28) (lv1 := [(0, .ref 4), (1, .int v1), (2, .int v2), (3, .int v3)]) rfl rfl rfl rfl ?_ ?_
    · refine db_Rgo (pc' := 35) (lv' := [(0, .ref 4), (1, .int v1), (2, .int v2), (3, .int v3)]) (st' := [.int v3, .int v2, .int v1, .ref 274]) 5 rfl ?_
      refine db_RcdI (mr' := dbm_174) (as := [.ref 274, .int v1, .int v2, .int v3]) (rest := []) (pc' := 38) (lv1 := [(0, .ref 4), (1, .int v1), (2, .int v2), (3, .int v3)]) rfl rfl rfl rfl rfl (db_f174_ok) fun q5 s6 => ?_
      refine db_Rgo (pc' := 43) (lv' := [(4, .int q5), (0, .ref 4), (1, .int v1), (2, .int v2), (3, .int v3)]) (st' := [.int (-1 : Int32), .int q5]) 3 rfl ?_
      refine db_Ric (pc' := 46) (tg := 55) (lv1 := [(4, .int q5), (0, .ref 4), (1, .int v1), (2, .int v2), (3, .int v3)]) rfl rfl rfl rfl ?_ ?_
      · refine db_Rgo (pc' := 58) (lv' := [(0, .ref 4), (4, .int q5)]) (st' := [.int q5, .ref 4]) 2 rfl ?_
        refine db_RcdI (mr' := dbm_87) (as := [.ref 4, .int q5]) (rest := []) (pc' := 61) (lv1 := [(0, .ref 4), (4, .int q5)]) rfl rfl rfl rfl rfl (db_f87_ok) fun q7 s8 => ?_
        exact db_Rret (lv1 := []) rfl rfl rfl rfl
      refine db_Rgo (pc' := 49) (lv' := [(4, .int q5), (0, .ref 4), (1, .int v1), (2, .int v2), (3, .int v3)]) (st' := [.int (8 : Int32), .ref 4]) 2 rfl ?_
      refine db_RcdI (mr' := dbm_37) (as := [.ref 4, .int (8 : Int32)]) (rest := []) (pc' := 52) (lv1 := [(4, .int q5), (0, .ref 4), (1, .int v1), (2, .int v2), (3, .int v3)]) rfl rfl rfl rfl rfl (db_f37_ok) fun q9 s10 => ?_
      refine db_Rgo (pc' := 61) (lv' := [(4, .int q5), (0, .ref 4), (1, .int v1), (2, .int v2), (3, .int v3)]) (st' := [.int q9]) 1 rfl ?_
      exact db_Rret (lv1 := []) rfl rfl rfl rfl
    refine db_Rgo (pc' := 24) (lv' := [(0, .ref 4), (1, .int v1), (2, .int v2), (3, .int v3)]) (st' := [.int (5 : Int32), .ref 4]) 2 rfl ?_
    refine db_RcdI (mr' := dbm_37) (as := [.ref 4, .int (5 : Int32)]) (rest := []) (pc' := 27) (lv1 := [(0, .ref 4), (1, .int v1), (2, .int v2), (3, .int v3)]) rfl rfl rfl rfl rfl (db_f37_ok) fun q11 s12 => ?_
    exact db_Rret (lv1 := [(0, .ref 4), (1, .int v1), (2, .int v2), (3, .int v3)]) rfl rfl rfl rfl
  refine db_Rgo (pc' := 11) (lv' := [(0, .ref 4), (1, .int v1), (2, .int v2), (3, .int v3)]) (st' := [.int (2 : Int32), .ref 4]) 2 rfl ?_
  refine db_RcdI (mr' := dbm_37) (as := [.ref 4, .int (2 : Int32)]) (rest := []) (pc' := 14) (lv1 := [(0, .ref 4), (1, .int v1), (2, .int v2), (3, .int v3)]) rfl rfl rfl rfl rfl (db_f37_ok) fun q13 s14 => ?_
  exact db_Rret (lv1 := [(0, .ref 4), (1, .int v1), (2, .int v2), (3, .int v3)]) rfl rfl rfl rfl
noncomputable def db_f355_b2 : Nat → db_S → Int32 → Option db_S
  | 0, _, _ => none
  | n + 1, s, v1 =>
    (cond (db_cnd .ge v1 (199 : Int32)) (some s) ((db_rI s 674 v1).bind fun x1 => ((db_wI s 675 v1 x1).bind fun s2 => (db_f355_b2 n s2 (v1 + (1 : Int32))))))
set_option maxRecDepth 100000 in
theorem db_f355_b2_ok {X : db_X} {d : Nat}  (n : Nat) : ∀ (s : db_S) (v1 : Int32), db_Rf X (d + 0) dbm_355 2 [(0, .ref 669), (1, .int v1)] [] s db_zV (db_f355_b2 n s v1) := by
  induction n with
  | zero => intros; exact db_Rnone
  | succ n ih =>
    intro s v1
    unfold db_f355_b2
    refine db_Rgo (pc' := 6) (lv' := [(0, .ref 669), (1, .int v1)]) (st' := [.int (199 : Int32), .int v1]) 2 rfl ?_
    refine db_Ric (pc' := 9) (tg := 27) (lv1 := [(0, .ref 669), (1, .int v1)]) rfl rfl rfl rfl ?_ ?_
    · exact db_Rret (lv1 := []) rfl rfl rfl rfl
    refine db_Rgo (pc' := 19) (lv' := [(0, .ref 669), (1, .int v1)]) (st' := [.int v1, .ref 674, .int v1, .ref 675]) 6 rfl ?_
    refine db_RldI (pc' := 20) (lv1 := [(0, .ref 669), (1, .int v1)]) rfl rfl rfl fun x1 => ?_
    refine db_RstI (pc' := 21) (lv1 := [(0, .ref 669), (1, .int v1)]) rfl rfl rfl fun s2 => ?_
    refine db_Rgo (pc' := 2) (lv' := [(1, .int (v1 + (1 : Int32))), (0, .ref 669)]) (st' := []) 2 rfl ?_
    refine db_Rn (lv1 := [(0, .ref 669), (1, .int (v1 + (1 : Int32)))]) rfl rfl rfl ?_
    exact ih _ _
/-- DreamBookModel.keeps()V -/
noncomputable def db_f355 (s : db_S) : Option db_S :=
  (db_f355_b2 db_FU s (0 : Int32))
set_option maxRecDepth 100000 in
theorem db_f355_ok {X : db_X} {d : Nat} {s : db_S} : db_Rf X (d + 0) dbm_355 0 (lv_args 0 [.ref 669]) [] s db_zV (db_f355 s ) := by
  show db_Rf _ _ _ 0 [(0, .ref 669)] [] _ _ _
  unfold db_f355
  refine db_Rgo (pc' := 2) (lv' := [(1, .int (0 : Int32)), (0, .ref 669)]) (st' := []) 2 rfl ?_
  refine db_Rn (lv1 := [(0, .ref 669), (1, .int (0 : Int32))]) rfl rfl rfl ?_
  exact db_f355_b2_ok db_FU _ _
noncomputable def db_f356_b2 : Nat → db_S → Int32 → Option db_S
  | 0, _, _ => none
  | n + 1, s, v1 =>
    (cond (db_cnd .ge v1 (199 : Int32)) (some s) ((db_rI s 675 v1).bind fun x1 => ((db_wI s 674 v1 x1).bind fun s2 => (db_f356_b2 n s2 (v1 + (1 : Int32))))))
set_option maxRecDepth 100000 in
theorem db_f356_b2_ok {X : db_X} {d : Nat}  (n : Nat) : ∀ (s : db_S) (v1 : Int32), db_Rf X (d + 0) dbm_356 2 [(0, .ref 669), (1, .int v1)] [] s db_zV (db_f356_b2 n s v1) := by
  induction n with
  | zero => intros; exact db_Rnone
  | succ n ih =>
    intro s v1
    unfold db_f356_b2
    refine db_Rgo (pc' := 6) (lv' := [(0, .ref 669), (1, .int v1)]) (st' := [.int (199 : Int32), .int v1]) 2 rfl ?_
    refine db_Ric (pc' := 9) (tg := 27) (lv1 := [(0, .ref 669), (1, .int v1)]) rfl rfl rfl rfl ?_ ?_
    · exact db_Rret (lv1 := []) rfl rfl rfl rfl
    refine db_Rgo (pc' := 19) (lv' := [(0, .ref 669), (1, .int v1)]) (st' := [.int v1, .ref 675, .int v1, .ref 674]) 6 rfl ?_
    refine db_RldI (pc' := 20) (lv1 := [(0, .ref 669), (1, .int v1)]) rfl rfl rfl fun x1 => ?_
    refine db_RstI (pc' := 21) (lv1 := [(0, .ref 669), (1, .int v1)]) rfl rfl rfl fun s2 => ?_
    refine db_Rgo (pc' := 2) (lv' := [(1, .int (v1 + (1 : Int32))), (0, .ref 669)]) (st' := []) 2 rfl ?_
    refine db_Rn (lv1 := [(0, .ref 669), (1, .int (v1 + (1 : Int32)))]) rfl rfl rfl ?_
    exact ih _ _
/-- DreamBookModel.gives()V -/
noncomputable def db_f356 (s : db_S) : Option db_S :=
  (db_f356_b2 db_FU s (0 : Int32))
set_option maxRecDepth 100000 in
theorem db_f356_ok {X : db_X} {d : Nat} {s : db_S} : db_Rf X (d + 0) dbm_356 0 (lv_args 0 [.ref 669]) [] s db_zV (db_f356 s ) := by
  show db_Rf _ _ _ 0 [(0, .ref 669)] [] _ _ _
  unfold db_f356
  refine db_Rgo (pc' := 2) (lv' := [(1, .int (0 : Int32)), (0, .ref 669)]) (st' := []) 2 rfl ?_
  refine db_Rn (lv1 := [(0, .ref 669), (1, .int (0 : Int32))]) rfl rfl rfl ?_
  exact db_f356_b2_ok db_FU _ _
noncomputable def db_f354_b137 (h54 : db_S → Int32 → Int32 → Int32 → Int32 → Int32 → Int32 → Option (Int32 × db_S)) (h80 : db_S → Int32 → Int32 → Int32 → Int32 → Int32 → Int32 → Int32 → Int32 → Int32 → Option (Int32 × db_S)) (s : db_S) (v1 : Int32) (v2 : Int32) (v3 : Int32) (v4 : Int32) (v5 : Int32) (v6 : Int32) (v7 : Int32) (v8 : Int32) (v9 : Int32) : Option (Int32 × db_S) :=
  (h80 s v1 v2 v3 v4 v5 v6 v7 v8 (v9 + (1 : Int32)))
set_option maxRecDepth 100000 in
theorem db_f354_b137_ok {X : db_X} {d : Nat}  {h54 : db_S → Int32 → Int32 → Int32 → Int32 → Int32 → Int32 → Option (Int32 × db_S)} {h80 : db_S → Int32 → Int32 → Int32 → Int32 → Int32 → Int32 → Int32 → Int32 → Int32 → Option (Int32 × db_S)} {s : db_S} {v1 : Int32} {v2 : Int32} {v3 : Int32} {v4 : Int32} {v5 : Int32} {v6 : Int32} {v7 : Int32} {v8 : Int32} {v9 : Int32} (zh54 : ∀ (s' : db_S) (v1 : Int32) (v2 : Int32) (v3 : Int32) (v4 : Int32) (v5 : Int32) (v6 : Int32) , db_Rf X (d + 5) dbm_354 54 [(0, .ref 669), (1, .int v1), (2, .int v2), (3, .int v3), (4, .int v4), (5, .int v5), (6, .int v6)] [] s' db_zI (h54 s' v1 v2 v3 v4 v5 v6)) (zh80 : ∀ (s' : db_S) (v1 : Int32) (v2 : Int32) (v3 : Int32) (v4 : Int32) (v5 : Int32) (v6 : Int32) (v7 : Int32) (v8 : Int32) (v9 : Int32) , db_Rf X (d + 5) dbm_354 80 [(0, .ref 669), (1, .int v1), (2, .int v2), (3, .int v3), (4, .int v4), (5, .int v5), (6, .int v6), (7, .int v7), (8, .int v8), (9, .int v9)] [] s' db_zI (h80 s' v1 v2 v3 v4 v5 v6 v7 v8 v9)) : db_Rf X (d + 5) dbm_354 137 [(0, .ref 669), (1, .int v1), (2, .int v2), (3, .int v3), (4, .int v4), (5, .int v5), (6, .int v6), (7, .int v7), (8, .int v8), (9, .int v9)] [] s db_zI (db_f354_b137 h54 h80 s v1 v2 v3 v4 v5 v6 v7 v8 v9) := by
  unfold db_f354_b137
  refine db_Rgo (pc' := 80) (lv' := [(9, .int (v9 + (1 : Int32))), (0, .ref 669), (1, .int v1), (2, .int v2), (3, .int v3), (4, .int v4), (5, .int v5), (6, .int v6), (7, .int v7), (8, .int v8)]) (st' := []) 2 rfl ?_
  refine db_Rn (lv1 := [(0, .ref 669), (1, .int v1), (2, .int v2), (3, .int v3), (4, .int v4), (5, .int v5), (6, .int v6), (7, .int v7), (8, .int v8), (9, .int (v9 + (1 : Int32)))]) rfl rfl rfl ?_
  exact zh80 _ _ _ _ _ _ _ _ _ _
noncomputable def db_f354_b176 (h54 : db_S → Int32 → Int32 → Int32 → Int32 → Int32 → Int32 → Option (Int32 × db_S)) (s : db_S) (v1 : Int32) (v2 : Int32) (v3 : Int32) (v4 : Int32) (v5 : Int32) (v6 : Int32) : Option (Int32 × db_S) :=
  (h54 s v1 v2 v3 v4 v5 (v6 + (1 : Int32)))
set_option maxRecDepth 100000 in
theorem db_f354_b176_ok {X : db_X} {d : Nat}  {h54 : db_S → Int32 → Int32 → Int32 → Int32 → Int32 → Int32 → Option (Int32 × db_S)} {s : db_S} {v1 : Int32} {v2 : Int32} {v3 : Int32} {v4 : Int32} {v5 : Int32} {v6 : Int32} (zh54 : ∀ (s' : db_S) (v1 : Int32) (v2 : Int32) (v3 : Int32) (v4 : Int32) (v5 : Int32) (v6 : Int32) , db_Rf X (d + 5) dbm_354 54 [(0, .ref 669), (1, .int v1), (2, .int v2), (3, .int v3), (4, .int v4), (5, .int v5), (6, .int v6)] [] s' db_zI (h54 s' v1 v2 v3 v4 v5 v6)) : db_Rf X (d + 5) dbm_354 176 [(0, .ref 669), (1, .int v1), (2, .int v2), (3, .int v3), (4, .int v4), (5, .int v5), (6, .int v6)] [] s db_zI (db_f354_b176 h54 s v1 v2 v3 v4 v5 v6) := by
  unfold db_f354_b176
  refine db_Rgo (pc' := 54) (lv' := [(6, .int (v6 + (1 : Int32))), (0, .ref 669), (1, .int v1), (2, .int v2), (3, .int v3), (4, .int v4), (5, .int v5)]) (st' := []) 2 rfl ?_
  refine db_Rn (lv1 := [(0, .ref 669), (1, .int v1), (2, .int v2), (3, .int v3), (4, .int v4), (5, .int v5), (6, .int (v6 + (1 : Int32)))]) rfl rfl rfl ?_
  exact zh54 _ _ _ _ _ _ _
noncomputable def db_f354_b168 (h54 : db_S → Int32 → Int32 → Int32 → Int32 → Int32 → Int32 → Option (Int32 × db_S)) (s : db_S) (v1 : Int32) (v2 : Int32) (v3 : Int32) (v6 : Int32) (v8 : Int32) : Option (Int32 × db_S) :=
  (db_f354_b176 h54 s v1 v2 v3 v6 v8 v6)
set_option maxRecDepth 100000 in
theorem db_f354_b168_ok {X : db_X} {d : Nat}  {h54 : db_S → Int32 → Int32 → Int32 → Int32 → Int32 → Int32 → Option (Int32 × db_S)} {s : db_S} {v1 : Int32} {v2 : Int32} {v3 : Int32} {v6 : Int32} {v8 : Int32} (zh54 : ∀ (s' : db_S) (v1 : Int32) (v2 : Int32) (v3 : Int32) (v4 : Int32) (v5 : Int32) (v6 : Int32) , db_Rf X (d + 5) dbm_354 54 [(0, .ref 669), (1, .int v1), (2, .int v2), (3, .int v3), (4, .int v4), (5, .int v5), (6, .int v6)] [] s' db_zI (h54 s' v1 v2 v3 v4 v5 v6)) : db_Rf X (d + 5) dbm_354 168 [(0, .ref 669), (1, .int v1), (2, .int v2), (3, .int v3), (6, .int v6), (8, .int v8)] [] s db_zI (db_f354_b168 h54 s v1 v2 v3 v6 v8) := by
  unfold db_f354_b168
  refine db_Rgo (pc' := 176) (lv' := [(5, .int v8), (4, .int v6), (0, .ref 669), (1, .int v1), (2, .int v2), (3, .int v3), (6, .int v6), (8, .int v8)]) (st' := []) 4 rfl ?_
  refine db_Rn (lv1 := [(0, .ref 669), (1, .int v1), (2, .int v2), (3, .int v3), (4, .int v6), (5, .int v8), (6, .int v6)]) rfl rfl rfl ?_
  exact db_f354_b176_ok zh54
noncomputable def db_f354_b80 (h54 : db_S → Int32 → Int32 → Int32 → Int32 → Int32 → Int32 → Option (Int32 × db_S)) : Nat → db_S → Int32 → Int32 → Int32 → Int32 → Int32 → Int32 → Int32 → Int32 → Int32 → Option (Int32 × db_S)
  | 0, _, _, _, _, _, _, _, _, _, _ => none
  | n + 1, s, v1, v2, v3, v4, v5, v6, v7, v8, v9 =>
    ((db_rI s 674 (5 : Int32)).bind fun x1 => (cond (db_cnd .ge v9 x1) ((db_f356 s).bind fun s3 => (cond (db_cnd .ne v7 v1) (db_f354_b176 h54 s3 v1 v2 v3 v4 v5 v6) (cond (db_cnd .lt v4 0) (db_f354_b168 h54 s3 v1 v2 v3 v6 v8) (cond (db_cnd .lt v8 v5) (db_f354_b168 h54 s3 v1 v2 v3 v6 v8) (db_f354_b176 h54 s3 v1 v2 v3 v4 v5 v6))))) ((db_f287 s v6 v9).bind fun q4 => (cond q4 ((db_rI s 674 ((135 : Int32) + v9)).bind fun x6 => (db_bd (db_f316 s v9 v2 v3) fun q7 s8 => ((db_f334 s8).bind fun s10 => (db_f354_b137 h54 (db_f354_b80 h54 n) s10 v1 v2 v3 v4 v5 v6 (v7 + q7) (v8 + x6) v9)))) (db_f354_b137 h54 (db_f354_b80 h54 n) s v1 v2 v3 v4 v5 v6 v7 v8 v9)))))
set_option maxRecDepth 100000 in
theorem db_f354_b80_ok {X : db_X} {d : Nat}  {h54 : db_S → Int32 → Int32 → Int32 → Int32 → Int32 → Int32 → Option (Int32 × db_S)} (zh54 : ∀ (s' : db_S) (v1 : Int32) (v2 : Int32) (v3 : Int32) (v4 : Int32) (v5 : Int32) (v6 : Int32) , db_Rf X (d + 5) dbm_354 54 [(0, .ref 669), (1, .int v1), (2, .int v2), (3, .int v3), (4, .int v4), (5, .int v5), (6, .int v6)] [] s' db_zI (h54 s' v1 v2 v3 v4 v5 v6)) (n : Nat) : ∀ (s : db_S) (v1 : Int32) (v2 : Int32) (v3 : Int32) (v4 : Int32) (v5 : Int32) (v6 : Int32) (v7 : Int32) (v8 : Int32) (v9 : Int32), db_Rf X (d + 5) dbm_354 80 [(0, .ref 669), (1, .int v1), (2, .int v2), (3, .int v3), (4, .int v4), (5, .int v5), (6, .int v6), (7, .int v7), (8, .int v8), (9, .int v9)] [] s db_zI (db_f354_b80 h54 n s v1 v2 v3 v4 v5 v6 v7 v8 v9) := by
  induction n with
  | zero => intros; exact db_Rnone
  | succ n ih =>
    intro s v1 v2 v3 v4 v5 v6 v7 v8 v9
    unfold db_f354_b80
    refine db_Rgo (pc' := 87) (lv' := [(0, .ref 669), (1, .int v1), (2, .int v2), (3, .int v3), (4, .int v4), (5, .int v5), (6, .int v6), (7, .int v7), (8, .int v8), (9, .int v9)]) (st' := [.int (5 : Int32), .ref 674, .int v9]) 4 rfl ?_
    refine db_RldI (pc' := 88) (lv1 := [(0, .ref 669), (1, .int v1), (2, .int v2), (3, .int v3), (4, .int v4), (5, .int v5), (6, .int v6), (7, .int v7), (8, .int v8), (9, .int v9)]) rfl rfl rfl fun x1 => ?_
    refine db_Ric (pc' := 91) (tg := 143) (lv1 := [(0, .ref 669), (1, .int v1), (2, .int v2), (3, .int v3), (4, .int v4), (5, .int v5), (6, .int v6), (7, .int v7), (8, .int v8), (9, .int v9)]) rfl rfl rfl rfl ?_ ?_
    · refine db_Rgo (pc' := 144) (lv' := [(0, .ref 669), (1, .int v1), (2, .int v2), (3, .int v3), (4, .int v4), (5, .int v5), (6, .int v6), (7, .int v7), (8, .int v8)]) (st' := [.ref 669]) 1 rfl ?_
      refine db_RcV (mr' := dbm_356) (as := [.ref 669]) (rest := []) (pc' := 147) (lv1 := [(0, .ref 669), (1, .int v1), (2, .int v2), (3, .int v3), (4, .int v4), (5, .int v5), (6, .int v6), (7, .int v7), (8, .int v8)]) rfl rfl rfl rfl rfl (db_f356_ok) fun s3 => ?_
      refine db_Rgo (pc' := 150) (lv' := [(0, .ref 669), (1, .int v1), (2, .int v2), (3, .int v3), (4, .int v4), (5, .int v5), (6, .int v6), (7, .int v7), (8, .int v8)]) (st' := [.int v1, .int v7]) 2 rfl ?_
      refine db_Ric (pc' := 153) (tg := 176) (lv1 := [(0, .ref 669), (1, .int v1), (2, .int v2), (3, .int v3), (4, .int v4), (5, .int v5), (6, .int v6), (7, .int v7), (8, .int v8)]) rfl rfl rfl rfl ?_ ?_
      · refine db_Rn (lv1 := [(0, .ref 669), (1, .int v1), (2, .int v2), (3, .int v3), (4, .int v4), (5, .int v5), (6, .int v6)]) rfl rfl rfl ?_
        exact db_f354_b176_ok zh54
      refine db_Rgo (pc' := 155) (lv' := [(0, .ref 669), (1, .int v1), (2, .int v2), (3, .int v3), (4, .int v4), (5, .int v5), (6, .int v6), (7, .int v7), (8, .int v8)]) (st' := [.int v4]) 1 rfl ?_
      refine db_Rif (pc' := 158) (tg := 168) (lv1 := [(0, .ref 669), (1, .int v1), (2, .int v2), (3, .int v3), (4, .int v4), (5, .int v5), (6, .int v6), (7, .int v7), (8, .int v8)]) rfl rfl rfl rfl ?_ ?_
      · refine db_Rn (lv1 := [(0, .ref 669), (1, .int v1), (2, .int v2), (3, .int v3), (6, .int v6), (8, .int v8)]) rfl rfl rfl ?_
        exact db_f354_b168_ok zh54
      refine db_Rgo (pc' := 162) (lv' := [(0, .ref 669), (1, .int v1), (2, .int v2), (3, .int v3), (4, .int v4), (5, .int v5), (6, .int v6), (7, .int v7), (8, .int v8)]) (st' := [.int v5, .int v8]) 2 rfl ?_
      refine db_Ric (pc' := 165) (tg := 168) (lv1 := [(0, .ref 669), (1, .int v1), (2, .int v2), (3, .int v3), (4, .int v4), (5, .int v5), (6, .int v6), (7, .int v7), (8, .int v8)]) rfl rfl rfl rfl ?_ ?_
      · refine db_Rn (lv1 := [(0, .ref 669), (1, .int v1), (2, .int v2), (3, .int v3), (6, .int v6), (8, .int v8)]) rfl rfl rfl ?_
        exact db_f354_b168_ok zh54
      refine db_Rgo (pc' := 176) (lv' := [(0, .ref 669), (1, .int v1), (2, .int v2), (3, .int v3), (4, .int v4), (5, .int v5), (6, .int v6), (7, .int v7), (8, .int v8)]) (st' := []) 1 rfl ?_
      refine db_Rn (lv1 := [(0, .ref 669), (1, .int v1), (2, .int v2), (3, .int v3), (4, .int v4), (5, .int v5), (6, .int v6)]) rfl rfl rfl ?_
      exact db_f354_b176_ok zh54
    refine db_Rgo (pc' := 95) (lv' := [(0, .ref 669), (1, .int v1), (2, .int v2), (3, .int v3), (4, .int v4), (5, .int v5), (6, .int v6), (7, .int v7), (8, .int v8), (9, .int v9)]) (st' := [.int v9, .int v6]) 2 rfl ?_
    refine db_RcyB (mr' := dbm_287) (as := [.int v6, .int v9]) (rest := []) (pc' := 98) (lv1 := [(0, .ref 669), (1, .int v1), (2, .int v2), (3, .int v3), (4, .int v4), (5, .int v5), (6, .int v6), (7, .int v7), (8, .int v8), (9, .int v9)]) rfl rfl rfl rfl rfl (db_f287_ok) fun q4 => ?_
    refine db_RifBn (pc' := 101) (tg := 104) (lv1 := [(0, .ref 669), (1, .int v1), (2, .int v2), (3, .int v3), (4, .int v4), (5, .int v5), (6, .int v6), (7, .int v7), (8, .int v8), (9, .int v9)]) rfl rfl rfl rfl ?_ ?_
    · refine db_Rgo (pc' := 116) (lv' := [(0, .ref 669), (1, .int v1), (2, .int v2), (3, .int v3), (4, .int v4), (5, .int v5), (6, .int v6), (7, .int v7), (8, .int v8), (9, .int v9)]) (st' := [.int ((135 : Int32) + v9), .ref 674, .int v8]) 6 rfl ?_
      refine db_RldI (pc' := 117) (lv1 := [(0, .ref 669), (1, .int v1), (2, .int v2), (3, .int v3), (4, .int v4), (5, .int v5), (6, .int v6), (7, .int v7), (8, .int v8), (9, .int v9)]) rfl rfl rfl fun x6 => ?_
      refine db_Rgo (pc' := 127) (lv' := [(8, .int (v8 + x6)), (0, .ref 669), (1, .int v1), (2, .int v2), (3, .int v3), (4, .int v4), (5, .int v5), (6, .int v6), (7, .int v7), (9, .int v9)]) (st' := [.int v3, .int v2, .int v9, .ref 669, .int v7]) 7 rfl ?_
      refine db_RcdI (mr' := dbm_316) (as := [.ref 669, .int v9, .int v2, .int v3]) (rest := [.int v7]) (pc' := 130) (lv1 := [(8, .int (v8 + x6)), (0, .ref 669), (1, .int v1), (2, .int v2), (3, .int v3), (4, .int v4), (5, .int v5), (6, .int v6), (7, .int v7), (9, .int v9)]) rfl rfl rfl rfl rfl (db_f316_ok) fun q7 s8 => ?_
      refine db_Rgo (pc' := 134) (lv' := [(7, .int (v7 + q7)), (8, .int (v8 + x6)), (0, .ref 669), (1, .int v1), (2, .int v2), (3, .int v3), (4, .int v4), (5, .int v5), (6, .int v6), (9, .int v9)]) (st' := [.ref 669]) 3 rfl ?_
      refine db_RcV (mr' := dbm_334) (as := [.ref 669]) (rest := []) (pc' := 137) (lv1 := [(7, .int (v7 + q7)), (8, .int (v8 + x6)), (0, .ref 669), (1, .int v1), (2, .int v2), (3, .int v3), (4, .int v4), (5, .int v5), (6, .int v6), (9, .int v9)]) rfl rfl rfl rfl rfl (db_f334_ok) fun s10 => ?_
      refine db_Rn (lv1 := [(0, .ref 669), (1, .int v1), (2, .int v2), (3, .int v3), (4, .int v4), (5, .int v5), (6, .int v6), (7, .int (v7 + q7)), (8, .int (v8 + x6)), (9, .int v9)]) rfl rfl rfl ?_
      exact db_f354_b137_ok zh54 ih
    refine db_Rgo (pc' := 137) (lv' := [(0, .ref 669), (1, .int v1), (2, .int v2), (3, .int v3), (4, .int v4), (5, .int v5), (6, .int v6), (7, .int v7), (8, .int v8), (9, .int v9)]) (st' := []) 1 rfl ?_
    exact db_f354_b137_ok zh54 ih
noncomputable def db_f354_b54 : Nat → db_S → Int32 → Int32 → Int32 → Int32 → Int32 → Int32 → Option (Int32 × db_S)
  | 0, _, _, _, _, _, _, _ => none
  | n + 1, s, v1, v2, v3, v4, v5, v6 =>
    ((db_rI s 674 (5 : Int32)).bind fun x1 => (cond (db_cnd .ge v6 ((1 : Int32) <<< (x1 &&& 31))) (cond (db_cnd .ge v4 0) ((db_pI s 669 35 v4).bind fun s2 => (some (v5, s2))) (db_bd (db_f281 s (8 : Int32)) fun q3 s4 => (some (q3, s4)))) ((db_f355 s).bind fun s6 => (db_f354_b80 (db_f354_b54 n) db_FU s6 v1 v2 v3 v4 v5 v6 (0 : Int32) (0 : Int32) (0 : Int32)))))
set_option maxRecDepth 100000 in
theorem db_f354_b54_ok {X : db_X} {d : Nat}  (n : Nat) : ∀ (s : db_S) (v1 : Int32) (v2 : Int32) (v3 : Int32) (v4 : Int32) (v5 : Int32) (v6 : Int32), db_Rf X (d + 5) dbm_354 54 [(0, .ref 669), (1, .int v1), (2, .int v2), (3, .int v3), (4, .int v4), (5, .int v5), (6, .int v6)] [] s db_zI (db_f354_b54 n s v1 v2 v3 v4 v5 v6) := by
  induction n with
  | zero => intros; exact db_Rnone
  | succ n ih =>
    intro s v1 v2 v3 v4 v5 v6
    unfold db_f354_b54
    refine db_Rgo (pc' := 62) (lv' := [(0, .ref 669), (1, .int v1), (2, .int v2), (3, .int v3), (4, .int v4), (5, .int v5), (6, .int v6)]) (st' := [.int (5 : Int32), .ref 674, .int (1 : Int32), .int v6]) 5 rfl ?_
    refine db_RldI (pc' := 63) (lv1 := [(0, .ref 669), (1, .int v1), (2, .int v2), (3, .int v3), (4, .int v4), (5, .int v5), (6, .int v6)]) rfl rfl rfl fun x1 => ?_
    refine db_Rgo (pc' := 64) (lv' := [(0, .ref 669), (1, .int v1), (2, .int v2), (3, .int v3), (4, .int v4), (5, .int v5), (6, .int v6)]) (st' := [.int ((1 : Int32) <<< (x1 &&& 31)), .int v6]) 1 rfl ?_
    refine db_Ric (pc' := 67) (tg := 182) (lv1 := [(0, .ref 669), (1, .int v1), (2, .int v2), (3, .int v3), (4, .int v4), (5, .int v5), (6, .int v6)]) rfl rfl rfl rfl ?_ ?_
    · refine db_Rgo (pc' := 184) (lv' := [(0, .ref 669), (4, .int v4), (5, .int v5)]) (st' := [.int v4]) 1 rfl ?_
      refine db_Rif (pc' := 187) (tg := 194) (lv1 := [(0, .ref 669), (4, .int v4), (5, .int v5)]) rfl rfl rfl rfl ?_ ?_
      · refine db_Rgo (pc' := 197) (lv' := [(0, .ref 669), (4, .int v4), (5, .int v5)]) (st' := [.int v4, .ref 669]) 2 rfl ?_
        refine db_RpuI (pc' := 200) (lv1 := [(0, .ref 669), (4, .int v4), (5, .int v5)]) rfl rfl rfl rfl rfl rfl (by decide) rfl rfl fun s2 => ?_
        refine db_Rgo (pc' := 202) (lv' := [(0, .ref 669), (4, .int v4), (5, .int v5)]) (st' := [.int v5]) 1 rfl ?_
        exact db_Rret (lv1 := [(0, .ref 669), (4, .int v4), (5, .int v5)]) rfl rfl rfl rfl
      refine db_Rgo (pc' := 190) (lv' := [(0, .ref 669), (4, .int v4), (5, .int v5)]) (st' := [.int (8 : Int32), .ref 669]) 2 rfl ?_
      refine db_RcdI (mr' := dbm_281) (as := [.ref 669, .int (8 : Int32)]) (rest := []) (pc' := 193) (lv1 := [(0, .ref 669), (4, .int v4), (5, .int v5)]) rfl rfl rfl rfl rfl (db_f281_ok) fun q3 s4 => ?_
      exact db_Rret (lv1 := [(0, .ref 669), (4, .int v4), (5, .int v5)]) rfl rfl rfl rfl
    refine db_Rgo (pc' := 68) (lv' := [(0, .ref 669), (1, .int v1), (2, .int v2), (3, .int v3), (4, .int v4), (5, .int v5), (6, .int v6)]) (st' := [.ref 669]) 1 rfl ?_
    refine db_RcV (mr' := dbm_355) (as := [.ref 669]) (rest := []) (pc' := 71) (lv1 := [(0, .ref 669), (1, .int v1), (2, .int v2), (3, .int v3), (4, .int v4), (5, .int v5), (6, .int v6)]) rfl rfl rfl rfl rfl (db_f355_ok) fun s6 => ?_
    refine db_Rgo (pc' := 80) (lv' := [(9, .int (0 : Int32)), (8, .int (0 : Int32)), (7, .int (0 : Int32)), (0, .ref 669), (1, .int v1), (2, .int v2), (3, .int v3), (4, .int v4), (5, .int v5), (6, .int v6)]) (st' := []) 6 rfl ?_
    refine db_Rn (lv1 := [(0, .ref 669), (1, .int v1), (2, .int v2), (3, .int v3), (4, .int v4), (5, .int v5), (6, .int v6), (7, .int (0 : Int32)), (8, .int (0 : Int32)), (9, .int (0 : Int32))]) rfl rfl rfl ?_
    exact db_f354_b80_ok ih db_FU _ _ _ _ _ _ _ _ _ _
/-- DreamBookModel.stock(III)I -/
noncomputable def db_f354 (s : db_S) (v1 : Int32) (v2 : Int32) (v3 : Int32) : Option (Int32 × db_S) :=
  ((db_pI s 669 1 (0 : Int32)).bind fun s1 => ((db_pI s1 669 0 (0 : Int32)).bind fun s2 => ((db_f315 s2 v2 v3).bind fun q3 => (cond q3 ((db_f269 s2 (Int32.toInt64 v1) (-999 : Int64) (999 : Int64)).bind fun q5 => (cond q5 (db_f354_b54 db_FU s2 v1 v2 v3 (-1 : Int32) (0 : Int32) (0 : Int32)) (db_bd (db_f281 s2 (5 : Int32)) fun q7 s8 => (some (q7, s8))))) (db_bd (db_f281 s2 (2 : Int32)) fun q9 s10 => (some (q9, s10)))))))
set_option maxRecDepth 100000 in
theorem db_f354_ok {X : db_X} {d : Nat} {s : db_S} {v1 : Int32} {v2 : Int32} {v3 : Int32} : db_Rf X (d + 5) dbm_354 0 (lv_args 0 [.ref 669, .int v1, .int v2, .int v3]) [] s db_zI (db_f354 s v1 v2 v3) := by
  show db_Rf _ _ _ 0 [(0, .ref 669), (1, .int v1), (2, .int v2), (3, .int v3)] [] _ _ _
  unfold db_f354
  refine db_Rgo (pc' := 2) (lv' := [(0, .ref 669), (1, .int v1), (2, .int v2), (3, .int v3)]) (st' := [.int (0 : Int32), .ref 669]) 2 rfl ?_
  refine db_RpuI (pc' := 5) (lv1 := [(0, .ref 669), (1, .int v1), (2, .int v2), (3, .int v3)]) rfl rfl rfl rfl rfl rfl (by decide) rfl rfl fun s1 => ?_
  refine db_Rgo (pc' := 7) (lv' := [(0, .ref 669), (1, .int v1), (2, .int v2), (3, .int v3)]) (st' := [.int (0 : Int32), .ref 669]) 2 rfl ?_
  refine db_RpuI (pc' := 10) (lv1 := [(0, .ref 669), (1, .int v1), (2, .int v2), (3, .int v3)]) rfl rfl rfl rfl rfl rfl (by decide) rfl rfl fun s2 => ?_
  refine db_Rgo (pc' := 13) (lv' := [(0, .ref 669), (1, .int v1), (2, .int v2), (3, .int v3)]) (st' := [.int v3, .int v2, .ref 669]) 3 rfl ?_
  refine db_RcyB (mr' := dbm_315) (as := [.ref 669, .int v2, .int v3]) (rest := []) (pc' := 16) (lv1 := [(0, .ref 669), (1, .int v1), (2, .int v2), (3, .int v3)]) rfl rfl rfl rfl rfl (db_f315_ok) fun q3 => ?_
  refine db_RifBn (pc' := 19) (tg := 25) (lv1 := [(0, .ref 669), (1, .int v1), (2, .int v2), (3, .int v3)]) rfl rfl rfl rfl ?_ ?_
  · refine db_Rgo (pc' := 33) (lv' := [(0, .ref 669), (1, .int v1), (2, .int v2), (3, .int v3)]) (st' := [.long (999 : Int64), .long (-999 : Int64), .long (Int32.toInt64 v1)]) 4 rfl ?_
    refine db_RcyB (mr' := dbm_269) (as := [.long (Int32.toInt64 v1), .long (-999 : Int64), .long (999 : Int64)]) (rest := []) (pc' := 36) (lv1 := [(0, .ref 669), (1, .int v1), (2, .int v2), (3, .int v3)]) rfl rfl rfl rfl rfl (db_f269_ok) fun q5 => ?_
    refine db_RifBn (pc' := 39) (tg := 45) (lv1 := [(0, .ref 669), (1, .int v1), (2, .int v2), (3, .int v3)]) rfl rfl rfl rfl ?_ ?_
    · refine db_Rgo (pc' := 54) (lv' := [(6, .int (0 : Int32)), (5, .int (0 : Int32)), (4, .int (-1 : Int32)), (0, .ref 669), (1, .int v1), (2, .int v2), (3, .int v3)]) (st' := []) 6 rfl ?_
      refine db_Rn (lv1 := [(0, .ref 669), (1, .int v1), (2, .int v2), (3, .int v3), (4, .int (-1 : Int32)), (5, .int (0 : Int32)), (6, .int (0 : Int32))]) rfl rfl rfl ?_
      exact db_f354_b54_ok db_FU _ _ _ _ _ _ _
    refine db_Rgo (pc' := 41) (lv' := [(0, .ref 669), (1, .int v1), (2, .int v2), (3, .int v3)]) (st' := [.int (5 : Int32), .ref 669]) 2 rfl ?_
    refine db_RcdI (mr' := dbm_281) (as := [.ref 669, .int (5 : Int32)]) (rest := []) (pc' := 44) (lv1 := [(0, .ref 669), (1, .int v1), (2, .int v2), (3, .int v3)]) rfl rfl rfl rfl rfl (db_f281_ok) fun q7 s8 => ?_
    exact db_Rret (lv1 := [(0, .ref 669), (1, .int v1), (2, .int v2), (3, .int v3)]) rfl rfl rfl rfl
  refine db_Rgo (pc' := 21) (lv' := [(0, .ref 669), (1, .int v1), (2, .int v2), (3, .int v3)]) (st' := [.int (2 : Int32), .ref 669]) 2 rfl ?_
  refine db_RcdI (mr' := dbm_281) (as := [.ref 669, .int (2 : Int32)]) (rest := []) (pc' := 24) (lv1 := [(0, .ref 669), (1, .int v1), (2, .int v2), (3, .int v3)]) rfl rfl rfl rfl rfl (db_f281_ok) fun q9 s10 => ?_
  exact db_Rret (lv1 := [(0, .ref 669), (1, .int v1), (2, .int v2), (3, .int v3)]) rfl rfl rfl rfl
/-- DreamBook.stockSet()I -/
noncomputable def db_f178 (s : db_S) : Option (Int32 × db_S) :=
  (cond (db_cnd .ne (s.1 274 2) (-1 : Int32)) (db_bd (db_f87 s (s.1 274 2)) fun q1 s2 => (some (q1, s2))) (db_bd (db_f37 s (8 : Int32)) fun q3 s4 => (some (q3, s4))))
set_option maxRecDepth 100000 in
theorem db_f178_ok {X : db_X} {d : Nat} {s : db_S} : db_Rf X (d + 1) dbm_178 0 (lv_args 0 [.ref 4]) [] s db_zI (db_f178 s ) := by
  show db_Rf _ _ _ 0 [(0, .ref 4)] [] _ _ _
  unfold db_f178
  refine db_Rgo (pc' := 8) (lv' := [(0, .ref 4)]) (st' := [.int (-1 : Int32), .int (s.1 274 2)]) 4 rfl ?_
  refine db_Ric (pc' := 11) (tg := 20) (lv1 := [(0, .ref 4)]) rfl rfl rfl rfl ?_ ?_
  · refine db_Rgo (pc' := 28) (lv' := [(0, .ref 4)]) (st' := [.int (s.1 274 2), .ref 4]) 4 rfl ?_
    refine db_RcdI (mr' := dbm_87) (as := [.ref 4, .int (s.1 274 2)]) (rest := []) (pc' := 31) (lv1 := [(0, .ref 4)]) rfl rfl rfl rfl rfl (db_f87_ok) fun q1 s2 => ?_
    exact db_Rret (lv1 := []) rfl rfl rfl rfl
  refine db_Rgo (pc' := 14) (lv' := [(0, .ref 4)]) (st' := [.int (8 : Int32), .ref 4]) 2 rfl ?_
  refine db_RcdI (mr' := dbm_37) (as := [.ref 4, .int (8 : Int32)]) (rest := []) (pc' := 17) (lv1 := [(0, .ref 4)]) rfl rfl rfl rfl rfl (db_f37_ok) fun q3 s4 => ?_
  refine db_Rgo (pc' := 31) (lv' := [(0, .ref 4)]) (st' := [.int q3]) 1 rfl ?_
  exact db_Rret (lv1 := []) rfl rfl rfl rfl
/-- DreamBookModel.stockSet()I -/
noncomputable def db_f357 (s : db_S) : Option (Int32 × db_S) :=
  ((db_pI s 669 1 (0 : Int32)).bind fun s1 => ((db_pI s1 669 0 (0 : Int32)).bind fun s2 => (cond (db_cnd .ge (s2.1 669 35) 0) (some ((s2.1 669 35), s2)) (db_bd (db_f281 s2 (8 : Int32)) fun q3 s4 => (some (q3, s4))))))
set_option maxRecDepth 100000 in
theorem db_f357_ok {X : db_X} {d : Nat} {s : db_S} : db_Rf X (d + 1) dbm_357 0 (lv_args 0 [.ref 669]) [] s db_zI (db_f357 s ) := by
  show db_Rf _ _ _ 0 [(0, .ref 669)] [] _ _ _
  unfold db_f357
  refine db_Rgo (pc' := 2) (lv' := [(0, .ref 669)]) (st' := [.int (0 : Int32), .ref 669]) 2 rfl ?_
  refine db_RpuI (pc' := 5) (lv1 := [(0, .ref 669)]) rfl rfl rfl rfl rfl rfl (by decide) rfl rfl fun s1 => ?_
  refine db_Rgo (pc' := 7) (lv' := [(0, .ref 669)]) (st' := [.int (0 : Int32), .ref 669]) 2 rfl ?_
  refine db_RpuI (pc' := 10) (lv1 := [(0, .ref 669)]) rfl rfl rfl rfl rfl rfl (by decide) rfl rfl fun s2 => ?_
  refine db_Rgo (pc' := 14) (lv' := [(0, .ref 669)]) (st' := [.int (s2.1 669 35)]) 2 rfl ?_
  refine db_Rif (pc' := 17) (tg := 26) (lv1 := [(0, .ref 669)]) rfl rfl rfl rfl ?_ ?_
  · refine db_Rgo (pc' := 30) (lv' := [(0, .ref 669)]) (st' := [.int (s2.1 669 35)]) 2 rfl ?_
    exact db_Rret (lv1 := []) rfl rfl rfl rfl
  refine db_Rgo (pc' := 20) (lv' := [(0, .ref 669)]) (st' := [.int (8 : Int32), .ref 669]) 2 rfl ?_
  refine db_RcdI (mr' := dbm_281) (as := [.ref 669, .int (8 : Int32)]) (rest := []) (pc' := 23) (lv1 := [(0, .ref 669)]) rfl rfl rfl rfl rfl (db_f281_ok) fun q3 s4 => ?_
  refine db_Rgo (pc' := 30) (lv' := [(0, .ref 669)]) (st' := [.int q3]) 1 rfl ?_
  exact db_Rret (lv1 := []) rfl rfl rfl rfl
noncomputable def db_f179_b60 (h22 : db_S → Int32 → Int32 → Int32 → Int32 → Int32 → Option (Int32 × db_S)) (s : db_S) (v1 : Int32) (v2 : Int32) (v3 : Int32) (v4 : Int32) (v5 : Int32) : Option (Int32 × db_S) :=
  (h22 s v1 v2 v3 v4 (v5 + (1 : Int32)))
set_option maxRecDepth 100000 in
theorem db_f179_b60_ok {X : db_X} {d : Nat}  {h22 : db_S → Int32 → Int32 → Int32 → Int32 → Int32 → Option (Int32 × db_S)} {s : db_S} {v1 : Int32} {v2 : Int32} {v3 : Int32} {v4 : Int32} {v5 : Int32} (zh22 : ∀ (s' : db_S) (v1 : Int32) (v2 : Int32) (v3 : Int32) (v4 : Int32) (v5 : Int32) , db_Rf X (d + 3) dbm_179 22 [(0, .ref 4), (1, .int v1), (2, .int v2), (3, .int v3), (4, .int v4), (5, .int v5)] [] s' db_zI (h22 s' v1 v2 v3 v4 v5)) : db_Rf X (d + 3) dbm_179 60 [(0, .ref 4), (1, .int v1), (2, .int v2), (3, .int v3), (4, .int v4), (5, .int v5)] [] s db_zI (db_f179_b60 h22 s v1 v2 v3 v4 v5) := by
  unfold db_f179_b60
  refine db_Rgo (pc' := 22) (lv' := [(5, .int (v5 + (1 : Int32))), (0, .ref 4), (1, .int v1), (2, .int v2), (3, .int v3), (4, .int v4)]) (st' := []) 2 rfl ?_
  refine db_Rn (lv1 := [(0, .ref 4), (1, .int v1), (2, .int v2), (3, .int v3), (4, .int v4), (5, .int (v5 + (1 : Int32)))]) rfl rfl rfl ?_
  exact zh22 _ _ _ _ _ _
noncomputable def db_f179_b22 : Nat → db_S → Int32 → Int32 → Int32 → Int32 → Int32 → Option (Int32 × db_S)
  | 0, _, _, _, _, _, _ => none
  | n + 1, s, v1, v2, v3, v4, v5 =>
    ((db_rI s 21 (1 : Int32)).bind fun x1 => (cond (db_cnd .ge v5 x1) (db_bd (db_f87 s v4) fun q2 s3 => (some (q2, s3))) (db_bd (db_f127 s v1 v5 v2) fun q4 s5 => (cond (db_cnd .ne q4 v3) (db_f179_b60 (db_f179_b22 n) s5 v1 v2 v3 v4 v5) (db_f179_b60 (db_f179_b22 n) s5 v1 v2 v3 (v4 ||| ((1 : Int32) <<< (v5 &&& 31))) v5)))))
set_option maxRecDepth 100000 in
theorem db_f179_b22_ok {X : db_X} {d : Nat}  (n : Nat) : ∀ (s : db_S) (v1 : Int32) (v2 : Int32) (v3 : Int32) (v4 : Int32) (v5 : Int32), db_Rf X (d + 3) dbm_179 22 [(0, .ref 4), (1, .int v1), (2, .int v2), (3, .int v3), (4, .int v4), (5, .int v5)] [] s db_zI (db_f179_b22 n s v1 v2 v3 v4 v5) := by
  induction n with
  | zero => intros; exact db_Rnone
  | succ n ih =>
    intro s v1 v2 v3 v4 v5
    unfold db_f179_b22
    refine db_Rgo (pc' := 32) (lv' := [(0, .ref 4), (1, .int v1), (2, .int v2), (3, .int v3), (4, .int v4), (5, .int v5)]) (st' := [.int (1 : Int32), .ref 21, .int v5]) 5 rfl ?_
    refine db_RldI (pc' := 33) (lv1 := [(0, .ref 4), (1, .int v1), (2, .int v2), (3, .int v3), (4, .int v4), (5, .int v5)]) rfl rfl rfl fun x1 => ?_
    refine db_Ric (pc' := 36) (tg := 66) (lv1 := [(0, .ref 4), (1, .int v1), (2, .int v2), (3, .int v3), (4, .int v4), (5, .int v5)]) rfl rfl rfl rfl ?_ ?_
    · refine db_Rgo (pc' := 69) (lv' := [(0, .ref 4), (4, .int v4)]) (st' := [.int v4, .ref 4]) 2 rfl ?_
      refine db_RcdI (mr' := dbm_87) (as := [.ref 4, .int v4]) (rest := []) (pc' := 72) (lv1 := [(0, .ref 4), (4, .int v4)]) rfl rfl rfl rfl rfl (db_f87_ok) fun q2 s3 => ?_
      exact db_Rret (lv1 := [(0, .ref 4), (4, .int v4)]) rfl rfl rfl rfl
    refine db_Rgo (pc' := 44) (lv' := [(0, .ref 4), (1, .int v1), (2, .int v2), (3, .int v3), (4, .int v4), (5, .int v5)]) (st' := [.int v2, .int v5, .int v1, .ref 271]) 5 rfl ?_
    refine db_RcdI (mr' := dbm_127) (as := [.ref 271, .int v1, .int v5, .int v2]) (rest := []) (pc' := 47) (lv1 := [(0, .ref 4), (1, .int v1), (2, .int v2), (3, .int v3), (4, .int v4), (5, .int v5)]) rfl rfl rfl rfl rfl (db_f127_ok) fun q4 s5 => ?_
    refine db_Rgo (pc' := 48) (lv' := [(0, .ref 4), (1, .int v1), (2, .int v2), (3, .int v3), (4, .int v4), (5, .int v5)]) (st' := [.int v3, .int q4]) 1 rfl ?_
    refine db_Ric (pc' := 51) (tg := 60) (lv1 := [(0, .ref 4), (1, .int v1), (2, .int v2), (3, .int v3), (4, .int v4), (5, .int v5)]) rfl rfl rfl rfl ?_ ?_
    · exact db_f179_b60_ok ih
    refine db_Rgo (pc' := 60) (lv' := [(4, .int (v4 ||| ((1 : Int32) <<< (v5 &&& 31)))), (0, .ref 4), (1, .int v1), (2, .int v2), (3, .int v3), (5, .int v5)]) (st' := []) 6 rfl ?_
    refine db_Rn (lv1 := [(0, .ref 4), (1, .int v1), (2, .int v2), (3, .int v3), (4, .int (v4 ||| ((1 : Int32) <<< (v5 &&& 31)))), (5, .int v5)]) rfl rfl rfl ?_
    exact db_f179_b60_ok ih
/-- DreamBook.whose(III)I -/
noncomputable def db_f179 (s : db_S) (v1 : Int32) (v2 : Int32) (v3 : Int32) : Option (Int32 × db_S) :=
  ((db_f125 s v1 (-1 : Int32) v2).bind fun q1 => (cond q1 (db_f179_b22 db_FU s v1 v2 v3 (0 : Int32) (0 : Int32)) (db_bd (db_f37 s (2 : Int32)) fun q3 s4 => (some (q3, s4)))))
set_option maxRecDepth 100000 in
theorem db_f179_ok {X : db_X} {d : Nat} {s : db_S} {v1 : Int32} {v2 : Int32} {v3 : Int32} : db_Rf X (d + 3) dbm_179 0 (lv_args 0 [.ref 4, .int v1, .int v2, .int v3]) [] s db_zI (db_f179 s v1 v2 v3) := by
  show db_Rf _ _ _ 0 [(0, .ref 4), (1, .int v1), (2, .int v2), (3, .int v3)] [] _ _ _
  unfold db_f179
  refine db_Rgo (pc' := 4) (lv' := [(0, .ref 4), (1, .int v1), (2, .int v2), (3, .int v3)]) (st' := [.int v2, .int (-1 : Int32), .int v1, .ref 4]) 4 rfl ?_
  refine db_RcyB (mr' := dbm_125) (as := [.ref 4, .int v1, .int (-1 : Int32), .int v2]) (rest := []) (pc' := 7) (lv1 := [(0, .ref 4), (1, .int v1), (2, .int v2), (3, .int v3)]) rfl rfl rfl rfl rfl (db_f125_ok) fun q1 => ?_
  refine db_RifBn (pc' := 10) (tg := 16) (lv1 := [(0, .ref 4), (1, .int v1), (2, .int v2), (3, .int v3)]) rfl rfl rfl rfl ?_ ?_
  · refine db_Rgo (pc' := 22) (lv' := [(5, .int (0 : Int32)), (4, .int (0 : Int32)), (0, .ref 4), (1, .int v1), (2, .int v2), (3, .int v3)]) (st' := []) 4 rfl ?_
    refine db_Rn (lv1 := [(0, .ref 4), (1, .int v1), (2, .int v2), (3, .int v3), (4, .int (0 : Int32)), (5, .int (0 : Int32))]) rfl rfl rfl ?_
    exact db_f179_b22_ok db_FU _ _ _ _ _ _
  refine db_Rgo (pc' := 12) (lv' := [(0, .ref 4), (1, .int v1), (2, .int v2), (3, .int v3)]) (st' := [.int (2 : Int32), .ref 4]) 2 rfl ?_
  refine db_RcdI (mr' := dbm_37) (as := [.ref 4, .int (2 : Int32)]) (rest := []) (pc' := 15) (lv1 := [(0, .ref 4), (1, .int v1), (2, .int v2), (3, .int v3)]) rfl rfl rfl rfl rfl (db_f37_ok) fun q3 s4 => ?_
  exact db_Rret (lv1 := [(0, .ref 4), (1, .int v1), (2, .int v2), (3, .int v3)]) rfl rfl rfl rfl
noncomputable def db_f358_b61 (h28 : db_S → Int32 → Int32 → Int32 → Int32 → Int32 → Option (Int32 × db_S)) (s : db_S) (v1 : Int32) (v2 : Int32) (v3 : Int32) (v5 : Int32) (t0 : Int32) (t1 : Int32) : Option (Int32 × db_S) :=
  (h28 s v1 v2 v3 (t0 ||| t1) (v5 + (1 : Int32)))
set_option maxRecDepth 100000 in
theorem db_f358_b61_ok {X : db_X} {d : Nat}  {h28 : db_S → Int32 → Int32 → Int32 → Int32 → Int32 → Option (Int32 × db_S)} {s : db_S} {v1 : Int32} {v2 : Int32} {v3 : Int32} {v5 : Int32} {t0 : Int32} {t1 : Int32} (zh28 : ∀ (s' : db_S) (v1 : Int32) (v2 : Int32) (v3 : Int32) (v4 : Int32) (v5 : Int32) , db_Rf X (d + 5) dbm_358 28 [(0, .ref 669), (1, .int v1), (2, .int v2), (3, .int v3), (4, .int v4), (5, .int v5)] [] s' db_zI (h28 s' v1 v2 v3 v4 v5)) : db_Rf X (d + 5) dbm_358 61 [(0, .ref 669), (1, .int v1), (2, .int v2), (3, .int v3), (5, .int v5)] [.int t1, .int t0] s db_zI (db_f358_b61 h28 s v1 v2 v3 v5 t0 t1) := by
  unfold db_f358_b61
  refine db_Rgo (pc' := 28) (lv' := [(5, .int (v5 + (1 : Int32))), (4, .int (t0 ||| t1)), (0, .ref 669), (1, .int v1), (2, .int v2), (3, .int v3)]) (st' := []) 4 rfl ?_
  refine db_Rn (lv1 := [(0, .ref 669), (1, .int v1), (2, .int v2), (3, .int v3), (4, .int (t0 ||| t1)), (5, .int (v5 + (1 : Int32)))]) rfl rfl rfl ?_
  exact zh28 _ _ _ _ _ _
noncomputable def db_f358_b28 : Nat → db_S → Int32 → Int32 → Int32 → Int32 → Int32 → Option (Int32 × db_S)
  | 0, _, _, _, _, _, _ => none
  | n + 1, s, v1, v2, v3, v4, v5 =>
    ((db_rI s 674 (1 : Int32)).bind fun x1 => (cond (db_cnd .ge v5 x1) (some (v4, s)) (db_bd (db_f316 s v1 v5 v2) fun q2 s3 => (cond (db_cnd .ne q2 v3) (db_f358_b61 (db_f358_b28 n) s3 v1 v2 v3 v5 v4 (0 : Int32)) (db_f358_b61 (db_f358_b28 n) s3 v1 v2 v3 v5 v4 ((1 : Int32) <<< (v5 &&& 31)))))))
set_option maxRecDepth 100000 in
theorem db_f358_b28_ok {X : db_X} {d : Nat}  (n : Nat) : ∀ (s : db_S) (v1 : Int32) (v2 : Int32) (v3 : Int32) (v4 : Int32) (v5 : Int32), db_Rf X (d + 5) dbm_358 28 [(0, .ref 669), (1, .int v1), (2, .int v2), (3, .int v3), (4, .int v4), (5, .int v5)] [] s db_zI (db_f358_b28 n s v1 v2 v3 v4 v5) := by
  induction n with
  | zero => intros; exact db_Rnone
  | succ n ih =>
    intro s v1 v2 v3 v4 v5
    unfold db_f358_b28
    refine db_Rgo (pc' := 35) (lv' := [(0, .ref 669), (1, .int v1), (2, .int v2), (3, .int v3), (4, .int v4), (5, .int v5)]) (st' := [.int (1 : Int32), .ref 674, .int v5]) 4 rfl ?_
    refine db_RldI (pc' := 36) (lv1 := [(0, .ref 669), (1, .int v1), (2, .int v2), (3, .int v3), (4, .int v4), (5, .int v5)]) rfl rfl rfl fun x1 => ?_
    refine db_Ric (pc' := 39) (tg := 70) (lv1 := [(0, .ref 669), (1, .int v1), (2, .int v2), (3, .int v3), (4, .int v4), (5, .int v5)]) rfl rfl rfl rfl ?_ ?_
    · refine db_Rgo (pc' := 72) (lv' := [(4, .int v4)]) (st' := [.int v4]) 1 rfl ?_
      exact db_Rret (lv1 := [(4, .int v4)]) rfl rfl rfl rfl
    refine db_Rgo (pc' := 46) (lv' := [(0, .ref 669), (1, .int v1), (2, .int v2), (3, .int v3), (4, .int v4), (5, .int v5)]) (st' := [.int v2, .int v5, .int v1, .ref 669, .int v4]) 5 rfl ?_
    refine db_RcdI (mr' := dbm_316) (as := [.ref 669, .int v1, .int v5, .int v2]) (rest := [.int v4]) (pc' := 49) (lv1 := [(0, .ref 669), (1, .int v1), (2, .int v2), (3, .int v3), (4, .int v4), (5, .int v5)]) rfl rfl rfl rfl rfl (db_f316_ok) fun q2 s3 => ?_
    refine db_Rgo (pc' := 50) (lv' := [(0, .ref 669), (1, .int v1), (2, .int v2), (3, .int v3), (4, .int v4), (5, .int v5)]) (st' := [.int v3, .int q2, .int v4]) 1 rfl ?_
    refine db_Ric (pc' := 53) (tg := 60) (lv1 := [(0, .ref 669), (1, .int v1), (2, .int v2), (3, .int v3), (4, .int v4), (5, .int v5)]) rfl rfl rfl rfl ?_ ?_
    · refine db_Rgo (pc' := 61) (lv' := [(0, .ref 669), (1, .int v1), (2, .int v2), (3, .int v3), (5, .int v5)]) (st' := [.int (0 : Int32), .int v4]) 1 rfl ?_
      exact db_f358_b61_ok ih
    refine db_Rgo (pc' := 61) (lv' := [(0, .ref 669), (1, .int v1), (2, .int v2), (3, .int v3), (4, .int v4), (5, .int v5)]) (st' := [.int ((1 : Int32) <<< (v5 &&& 31)), .int v4]) 4 rfl ?_
    refine db_Rn (lv1 := [(0, .ref 669), (1, .int v1), (2, .int v2), (3, .int v3), (5, .int v5)]) rfl rfl rfl ?_
    exact db_f358_b61_ok ih
/-- DreamBookModel.whose(III)I -/
noncomputable def db_f358 (s : db_S) (v1 : Int32) (v2 : Int32) (v3 : Int32) : Option (Int32 × db_S) :=
  ((db_pI s 669 1 (0 : Int32)).bind fun s1 => ((db_pI s1 669 0 (0 : Int32)).bind fun s2 => (db_bd (db_f314 s2 v1 (-1 : Int32) v2) fun q3 s4 => (cond q3 (db_f358_b28 db_FU s4 v1 v2 v3 (0 : Int32) (0 : Int32)) (some ((-1 : Int32), s4))))))
set_option maxRecDepth 100000 in
theorem db_f358_ok {X : db_X} {d : Nat} {s : db_S} {v1 : Int32} {v2 : Int32} {v3 : Int32} : db_Rf X (d + 5) dbm_358 0 (lv_args 0 [.ref 669, .int v1, .int v2, .int v3]) [] s db_zI (db_f358 s v1 v2 v3) := by
  show db_Rf _ _ _ 0 [(0, .ref 669), (1, .int v1), (2, .int v2), (3, .int v3)] [] _ _ _
  unfold db_f358
  refine db_Rgo (pc' := 2) (lv' := [(0, .ref 669), (1, .int v1), (2, .int v2), (3, .int v3)]) (st' := [.int (0 : Int32), .ref 669]) 2 rfl ?_
  refine db_RpuI (pc' := 5) (lv1 := [(0, .ref 669), (1, .int v1), (2, .int v2), (3, .int v3)]) rfl rfl rfl rfl rfl rfl (by decide) rfl rfl fun s1 => ?_
  refine db_Rgo (pc' := 7) (lv' := [(0, .ref 669), (1, .int v1), (2, .int v2), (3, .int v3)]) (st' := [.int (0 : Int32), .ref 669]) 2 rfl ?_
  refine db_RpuI (pc' := 10) (lv1 := [(0, .ref 669), (1, .int v1), (2, .int v2), (3, .int v3)]) rfl rfl rfl rfl rfl rfl (by decide) rfl rfl fun s2 => ?_
  refine db_Rgo (pc' := 14) (lv' := [(0, .ref 669), (1, .int v1), (2, .int v2), (3, .int v3)]) (st' := [.int v2, .int (-1 : Int32), .int v1, .ref 669]) 4 rfl ?_
  refine db_RcdB (mr' := dbm_314) (as := [.ref 669, .int v1, .int (-1 : Int32), .int v2]) (rest := []) (pc' := 17) (lv1 := [(0, .ref 669), (1, .int v1), (2, .int v2), (3, .int v3)]) rfl rfl rfl rfl rfl (db_f314_ok) fun q3 s4 => ?_
  refine db_RifBn (pc' := 20) (tg := 22) (lv1 := [(0, .ref 669), (1, .int v1), (2, .int v2), (3, .int v3)]) rfl rfl rfl rfl ?_ ?_
  · refine db_Rgo (pc' := 28) (lv' := [(5, .int (0 : Int32)), (4, .int (0 : Int32)), (0, .ref 669), (1, .int v1), (2, .int v2), (3, .int v3)]) (st' := []) 4 rfl ?_
    refine db_Rn (lv1 := [(0, .ref 669), (1, .int v1), (2, .int v2), (3, .int v3), (4, .int (0 : Int32)), (5, .int (0 : Int32))]) rfl rfl rfl ?_
    exact db_f358_b28_ok db_FU _ _ _ _ _ _
  refine db_Rgo (pc' := 21) (lv' := [(0, .ref 669), (1, .int v1), (2, .int v2), (3, .int v3)]) (st' := [.int (-1 : Int32)]) 1 rfl ?_
  exact db_Rret (lv1 := [(0, .ref 669), (1, .int v1), (2, .int v2), (3, .int v3)]) rfl rfl rfl rfl
noncomputable def db_f180_b60 (h22 : db_S → Int32 → Int32 → Int32 → Int32 → Int32 → Option (Int32 × db_S)) (s : db_S) (v1 : Int32) (v2 : Int32) (v3 : Int32) (v4 : Int32) (v5 : Int32) : Option (Int32 × db_S) :=
  (h22 s v1 v2 v3 v4 (v5 + (1 : Int32)))
set_option maxRecDepth 100000 in
theorem db_f180_b60_ok {X : db_X} {d : Nat}  {h22 : db_S → Int32 → Int32 → Int32 → Int32 → Int32 → Option (Int32 × db_S)} {s : db_S} {v1 : Int32} {v2 : Int32} {v3 : Int32} {v4 : Int32} {v5 : Int32} (zh22 : ∀ (s' : db_S) (v1 : Int32) (v2 : Int32) (v3 : Int32) (v4 : Int32) (v5 : Int32) , db_Rf X (d + 3) dbm_180 22 [(0, .ref 4), (1, .int v1), (2, .int v2), (3, .int v3), (4, .int v4), (5, .int v5)] [] s' db_zI (h22 s' v1 v2 v3 v4 v5)) : db_Rf X (d + 3) dbm_180 60 [(0, .ref 4), (1, .int v1), (2, .int v2), (3, .int v3), (4, .int v4), (5, .int v5)] [] s db_zI (db_f180_b60 h22 s v1 v2 v3 v4 v5) := by
  unfold db_f180_b60
  refine db_Rgo (pc' := 22) (lv' := [(5, .int (v5 + (1 : Int32))), (0, .ref 4), (1, .int v1), (2, .int v2), (3, .int v3), (4, .int v4)]) (st' := []) 2 rfl ?_
  refine db_Rn (lv1 := [(0, .ref 4), (1, .int v1), (2, .int v2), (3, .int v3), (4, .int v4), (5, .int (v5 + (1 : Int32)))]) rfl rfl rfl ?_
  exact zh22 _ _ _ _ _ _
noncomputable def db_f180_b22 : Nat → db_S → Int32 → Int32 → Int32 → Int32 → Int32 → Option (Int32 × db_S)
  | 0, _, _, _, _, _, _ => none
  | n + 1, s, v1, v2, v3, v4, v5 =>
    ((db_rI s 21 (2 : Int32)).bind fun x1 => (cond (db_cnd .ge v5 x1) (db_bd (db_f87 s v4) fun q2 s3 => (some (q2, s3))) (db_bd (db_f127 s v1 v2 v5) fun q4 s5 => (cond (db_cnd .ne q4 v3) (db_f180_b60 (db_f180_b22 n) s5 v1 v2 v3 v4 v5) (db_f180_b60 (db_f180_b22 n) s5 v1 v2 v3 (v4 ||| ((1 : Int32) <<< (v5 &&& 31))) v5)))))
set_option maxRecDepth 100000 in
theorem db_f180_b22_ok {X : db_X} {d : Nat}  (n : Nat) : ∀ (s : db_S) (v1 : Int32) (v2 : Int32) (v3 : Int32) (v4 : Int32) (v5 : Int32), db_Rf X (d + 3) dbm_180 22 [(0, .ref 4), (1, .int v1), (2, .int v2), (3, .int v3), (4, .int v4), (5, .int v5)] [] s db_zI (db_f180_b22 n s v1 v2 v3 v4 v5) := by
  induction n with
  | zero => intros; exact db_Rnone
  | succ n ih =>
    intro s v1 v2 v3 v4 v5
    unfold db_f180_b22
    refine db_Rgo (pc' := 32) (lv' := [(0, .ref 4), (1, .int v1), (2, .int v2), (3, .int v3), (4, .int v4), (5, .int v5)]) (st' := [.int (2 : Int32), .ref 21, .int v5]) 5 rfl ?_
    refine db_RldI (pc' := 33) (lv1 := [(0, .ref 4), (1, .int v1), (2, .int v2), (3, .int v3), (4, .int v4), (5, .int v5)]) rfl rfl rfl fun x1 => ?_
    refine db_Ric (pc' := 36) (tg := 66) (lv1 := [(0, .ref 4), (1, .int v1), (2, .int v2), (3, .int v3), (4, .int v4), (5, .int v5)]) rfl rfl rfl rfl ?_ ?_
    · refine db_Rgo (pc' := 69) (lv' := [(0, .ref 4), (4, .int v4)]) (st' := [.int v4, .ref 4]) 2 rfl ?_
      refine db_RcdI (mr' := dbm_87) (as := [.ref 4, .int v4]) (rest := []) (pc' := 72) (lv1 := [(0, .ref 4), (4, .int v4)]) rfl rfl rfl rfl rfl (db_f87_ok) fun q2 s3 => ?_
      exact db_Rret (lv1 := [(0, .ref 4), (4, .int v4)]) rfl rfl rfl rfl
    refine db_Rgo (pc' := 44) (lv' := [(0, .ref 4), (1, .int v1), (2, .int v2), (3, .int v3), (4, .int v4), (5, .int v5)]) (st' := [.int v5, .int v2, .int v1, .ref 271]) 5 rfl ?_
    refine db_RcdI (mr' := dbm_127) (as := [.ref 271, .int v1, .int v2, .int v5]) (rest := []) (pc' := 47) (lv1 := [(0, .ref 4), (1, .int v1), (2, .int v2), (3, .int v3), (4, .int v4), (5, .int v5)]) rfl rfl rfl rfl rfl (db_f127_ok) fun q4 s5 => ?_
    refine db_Rgo (pc' := 48) (lv' := [(0, .ref 4), (1, .int v1), (2, .int v2), (3, .int v3), (4, .int v4), (5, .int v5)]) (st' := [.int v3, .int q4]) 1 rfl ?_
    refine db_Ric (pc' := 51) (tg := 60) (lv1 := [(0, .ref 4), (1, .int v1), (2, .int v2), (3, .int v3), (4, .int v4), (5, .int v5)]) rfl rfl rfl rfl ?_ ?_
    · exact db_f180_b60_ok ih
    refine db_Rgo (pc' := 60) (lv' := [(4, .int (v4 ||| ((1 : Int32) <<< (v5 &&& 31)))), (0, .ref 4), (1, .int v1), (2, .int v2), (3, .int v3), (5, .int v5)]) (st' := []) 6 rfl ?_
    refine db_Rn (lv1 := [(0, .ref 4), (1, .int v1), (2, .int v2), (3, .int v3), (4, .int (v4 ||| ((1 : Int32) <<< (v5 &&& 31)))), (5, .int v5)]) rfl rfl rfl ?_
    exact db_f180_b60_ok ih
/-- DreamBook.when(III)I -/
noncomputable def db_f180 (s : db_S) (v1 : Int32) (v2 : Int32) (v3 : Int32) : Option (Int32 × db_S) :=
  ((db_f125 s v1 v2 (-1 : Int32)).bind fun q1 => (cond q1 (db_f180_b22 db_FU s v1 v2 v3 (0 : Int32) (0 : Int32)) (db_bd (db_f37 s (2 : Int32)) fun q3 s4 => (some (q3, s4)))))
set_option maxRecDepth 100000 in
theorem db_f180_ok {X : db_X} {d : Nat} {s : db_S} {v1 : Int32} {v2 : Int32} {v3 : Int32} : db_Rf X (d + 3) dbm_180 0 (lv_args 0 [.ref 4, .int v1, .int v2, .int v3]) [] s db_zI (db_f180 s v1 v2 v3) := by
  show db_Rf _ _ _ 0 [(0, .ref 4), (1, .int v1), (2, .int v2), (3, .int v3)] [] _ _ _
  unfold db_f180
  refine db_Rgo (pc' := 4) (lv' := [(0, .ref 4), (1, .int v1), (2, .int v2), (3, .int v3)]) (st' := [.int (-1 : Int32), .int v2, .int v1, .ref 4]) 4 rfl ?_
  refine db_RcyB (mr' := dbm_125) (as := [.ref 4, .int v1, .int v2, .int (-1 : Int32)]) (rest := []) (pc' := 7) (lv1 := [(0, .ref 4), (1, .int v1), (2, .int v2), (3, .int v3)]) rfl rfl rfl rfl rfl (db_f125_ok) fun q1 => ?_
  refine db_RifBn (pc' := 10) (tg := 16) (lv1 := [(0, .ref 4), (1, .int v1), (2, .int v2), (3, .int v3)]) rfl rfl rfl rfl ?_ ?_
  · refine db_Rgo (pc' := 22) (lv' := [(5, .int (0 : Int32)), (4, .int (0 : Int32)), (0, .ref 4), (1, .int v1), (2, .int v2), (3, .int v3)]) (st' := []) 4 rfl ?_
    refine db_Rn (lv1 := [(0, .ref 4), (1, .int v1), (2, .int v2), (3, .int v3), (4, .int (0 : Int32)), (5, .int (0 : Int32))]) rfl rfl rfl ?_
    exact db_f180_b22_ok db_FU _ _ _ _ _ _
  refine db_Rgo (pc' := 12) (lv' := [(0, .ref 4), (1, .int v1), (2, .int v2), (3, .int v3)]) (st' := [.int (2 : Int32), .ref 4]) 2 rfl ?_
  refine db_RcdI (mr' := dbm_37) (as := [.ref 4, .int (2 : Int32)]) (rest := []) (pc' := 15) (lv1 := [(0, .ref 4), (1, .int v1), (2, .int v2), (3, .int v3)]) rfl rfl rfl rfl rfl (db_f37_ok) fun q3 s4 => ?_
  exact db_Rret (lv1 := [(0, .ref 4), (1, .int v1), (2, .int v2), (3, .int v3)]) rfl rfl rfl rfl
noncomputable def db_f359_b61 (h28 : db_S → Int32 → Int32 → Int32 → Int32 → Int32 → Option (Int32 × db_S)) (s : db_S) (v1 : Int32) (v2 : Int32) (v3 : Int32) (v5 : Int32) (t0 : Int32) (t1 : Int32) : Option (Int32 × db_S) :=
  (h28 s v1 v2 v3 (t0 ||| t1) (v5 + (1 : Int32)))
set_option maxRecDepth 100000 in
theorem db_f359_b61_ok {X : db_X} {d : Nat}  {h28 : db_S → Int32 → Int32 → Int32 → Int32 → Int32 → Option (Int32 × db_S)} {s : db_S} {v1 : Int32} {v2 : Int32} {v3 : Int32} {v5 : Int32} {t0 : Int32} {t1 : Int32} (zh28 : ∀ (s' : db_S) (v1 : Int32) (v2 : Int32) (v3 : Int32) (v4 : Int32) (v5 : Int32) , db_Rf X (d + 5) dbm_359 28 [(0, .ref 669), (1, .int v1), (2, .int v2), (3, .int v3), (4, .int v4), (5, .int v5)] [] s' db_zI (h28 s' v1 v2 v3 v4 v5)) : db_Rf X (d + 5) dbm_359 61 [(0, .ref 669), (1, .int v1), (2, .int v2), (3, .int v3), (5, .int v5)] [.int t1, .int t0] s db_zI (db_f359_b61 h28 s v1 v2 v3 v5 t0 t1) := by
  unfold db_f359_b61
  refine db_Rgo (pc' := 28) (lv' := [(5, .int (v5 + (1 : Int32))), (4, .int (t0 ||| t1)), (0, .ref 669), (1, .int v1), (2, .int v2), (3, .int v3)]) (st' := []) 4 rfl ?_
  refine db_Rn (lv1 := [(0, .ref 669), (1, .int v1), (2, .int v2), (3, .int v3), (4, .int (t0 ||| t1)), (5, .int (v5 + (1 : Int32)))]) rfl rfl rfl ?_
  exact zh28 _ _ _ _ _ _
noncomputable def db_f359_b28 : Nat → db_S → Int32 → Int32 → Int32 → Int32 → Int32 → Option (Int32 × db_S)
  | 0, _, _, _, _, _, _ => none
  | n + 1, s, v1, v2, v3, v4, v5 =>
    ((db_rI s 674 (2 : Int32)).bind fun x1 => (cond (db_cnd .ge v5 x1) (some (v4, s)) (db_bd (db_f316 s v1 v2 v5) fun q2 s3 => (cond (db_cnd .ne q2 v3) (db_f359_b61 (db_f359_b28 n) s3 v1 v2 v3 v5 v4 (0 : Int32)) (db_f359_b61 (db_f359_b28 n) s3 v1 v2 v3 v5 v4 ((1 : Int32) <<< (v5 &&& 31)))))))
set_option maxRecDepth 100000 in
theorem db_f359_b28_ok {X : db_X} {d : Nat}  (n : Nat) : ∀ (s : db_S) (v1 : Int32) (v2 : Int32) (v3 : Int32) (v4 : Int32) (v5 : Int32), db_Rf X (d + 5) dbm_359 28 [(0, .ref 669), (1, .int v1), (2, .int v2), (3, .int v3), (4, .int v4), (5, .int v5)] [] s db_zI (db_f359_b28 n s v1 v2 v3 v4 v5) := by
  induction n with
  | zero => intros; exact db_Rnone
  | succ n ih =>
    intro s v1 v2 v3 v4 v5
    unfold db_f359_b28
    refine db_Rgo (pc' := 35) (lv' := [(0, .ref 669), (1, .int v1), (2, .int v2), (3, .int v3), (4, .int v4), (5, .int v5)]) (st' := [.int (2 : Int32), .ref 674, .int v5]) 4 rfl ?_
    refine db_RldI (pc' := 36) (lv1 := [(0, .ref 669), (1, .int v1), (2, .int v2), (3, .int v3), (4, .int v4), (5, .int v5)]) rfl rfl rfl fun x1 => ?_
    refine db_Ric (pc' := 39) (tg := 70) (lv1 := [(0, .ref 669), (1, .int v1), (2, .int v2), (3, .int v3), (4, .int v4), (5, .int v5)]) rfl rfl rfl rfl ?_ ?_
    · refine db_Rgo (pc' := 72) (lv' := [(4, .int v4)]) (st' := [.int v4]) 1 rfl ?_
      exact db_Rret (lv1 := [(4, .int v4)]) rfl rfl rfl rfl
    refine db_Rgo (pc' := 46) (lv' := [(0, .ref 669), (1, .int v1), (2, .int v2), (3, .int v3), (4, .int v4), (5, .int v5)]) (st' := [.int v5, .int v2, .int v1, .ref 669, .int v4]) 5 rfl ?_
    refine db_RcdI (mr' := dbm_316) (as := [.ref 669, .int v1, .int v2, .int v5]) (rest := [.int v4]) (pc' := 49) (lv1 := [(0, .ref 669), (1, .int v1), (2, .int v2), (3, .int v3), (4, .int v4), (5, .int v5)]) rfl rfl rfl rfl rfl (db_f316_ok) fun q2 s3 => ?_
    refine db_Rgo (pc' := 50) (lv' := [(0, .ref 669), (1, .int v1), (2, .int v2), (3, .int v3), (4, .int v4), (5, .int v5)]) (st' := [.int v3, .int q2, .int v4]) 1 rfl ?_
    refine db_Ric (pc' := 53) (tg := 60) (lv1 := [(0, .ref 669), (1, .int v1), (2, .int v2), (3, .int v3), (4, .int v4), (5, .int v5)]) rfl rfl rfl rfl ?_ ?_
    · refine db_Rgo (pc' := 61) (lv' := [(0, .ref 669), (1, .int v1), (2, .int v2), (3, .int v3), (5, .int v5)]) (st' := [.int (0 : Int32), .int v4]) 1 rfl ?_
      exact db_f359_b61_ok ih
    refine db_Rgo (pc' := 61) (lv' := [(0, .ref 669), (1, .int v1), (2, .int v2), (3, .int v3), (4, .int v4), (5, .int v5)]) (st' := [.int ((1 : Int32) <<< (v5 &&& 31)), .int v4]) 4 rfl ?_
    refine db_Rn (lv1 := [(0, .ref 669), (1, .int v1), (2, .int v2), (3, .int v3), (5, .int v5)]) rfl rfl rfl ?_
    exact db_f359_b61_ok ih
/-- DreamBookModel.when(III)I -/
noncomputable def db_f359 (s : db_S) (v1 : Int32) (v2 : Int32) (v3 : Int32) : Option (Int32 × db_S) :=
  ((db_pI s 669 1 (0 : Int32)).bind fun s1 => ((db_pI s1 669 0 (0 : Int32)).bind fun s2 => (db_bd (db_f314 s2 v1 v2 (-1 : Int32)) fun q3 s4 => (cond q3 (db_f359_b28 db_FU s4 v1 v2 v3 (0 : Int32) (0 : Int32)) (some ((-1 : Int32), s4))))))
set_option maxRecDepth 100000 in
theorem db_f359_ok {X : db_X} {d : Nat} {s : db_S} {v1 : Int32} {v2 : Int32} {v3 : Int32} : db_Rf X (d + 5) dbm_359 0 (lv_args 0 [.ref 669, .int v1, .int v2, .int v3]) [] s db_zI (db_f359 s v1 v2 v3) := by
  show db_Rf _ _ _ 0 [(0, .ref 669), (1, .int v1), (2, .int v2), (3, .int v3)] [] _ _ _
  unfold db_f359
  refine db_Rgo (pc' := 2) (lv' := [(0, .ref 669), (1, .int v1), (2, .int v2), (3, .int v3)]) (st' := [.int (0 : Int32), .ref 669]) 2 rfl ?_
  refine db_RpuI (pc' := 5) (lv1 := [(0, .ref 669), (1, .int v1), (2, .int v2), (3, .int v3)]) rfl rfl rfl rfl rfl rfl (by decide) rfl rfl fun s1 => ?_
  refine db_Rgo (pc' := 7) (lv' := [(0, .ref 669), (1, .int v1), (2, .int v2), (3, .int v3)]) (st' := [.int (0 : Int32), .ref 669]) 2 rfl ?_
  refine db_RpuI (pc' := 10) (lv1 := [(0, .ref 669), (1, .int v1), (2, .int v2), (3, .int v3)]) rfl rfl rfl rfl rfl rfl (by decide) rfl rfl fun s2 => ?_
  refine db_Rgo (pc' := 14) (lv' := [(0, .ref 669), (1, .int v1), (2, .int v2), (3, .int v3)]) (st' := [.int (-1 : Int32), .int v2, .int v1, .ref 669]) 4 rfl ?_
  refine db_RcdB (mr' := dbm_314) (as := [.ref 669, .int v1, .int v2, .int (-1 : Int32)]) (rest := []) (pc' := 17) (lv1 := [(0, .ref 669), (1, .int v1), (2, .int v2), (3, .int v3)]) rfl rfl rfl rfl rfl (db_f314_ok) fun q3 s4 => ?_
  refine db_RifBn (pc' := 20) (tg := 22) (lv1 := [(0, .ref 669), (1, .int v1), (2, .int v2), (3, .int v3)]) rfl rfl rfl rfl ?_ ?_
  · refine db_Rgo (pc' := 28) (lv' := [(5, .int (0 : Int32)), (4, .int (0 : Int32)), (0, .ref 669), (1, .int v1), (2, .int v2), (3, .int v3)]) (st' := []) 4 rfl ?_
    refine db_Rn (lv1 := [(0, .ref 669), (1, .int v1), (2, .int v2), (3, .int v3), (4, .int (0 : Int32)), (5, .int (0 : Int32))]) rfl rfl rfl ?_
    exact db_f359_b28_ok db_FU _ _ _ _ _ _
  refine db_Rgo (pc' := 21) (lv' := [(0, .ref 669), (1, .int v1), (2, .int v2), (3, .int v3)]) (st' := [.int (-1 : Int32)]) 1 rfl ?_
  exact db_Rret (lv1 := [(0, .ref 669), (1, .int v1), (2, .int v2), (3, .int v3)]) rfl rfl rfl rfl
noncomputable def db_f183_b2 : Nat → db_S → Int32 → Int32 → Int32 → Option (Bool × db_S)
  | 0, _, _, _, _ => none
  | n + 1, s, v1, v2, v3 =>
    (cond (db_cnd .ge v3 (s.1 274 10)) (some (true, s)) ((db_rR 50 v1).bind fun y1 => ((db_rI s 59 v1).bind fun x2 => ((db_rI s 280 v3).bind fun x3 => (db_bd (db_f130 s y1 x2 x3) fun q4 s5 => ((db_rR 50 v2).bind fun y6 => ((db_rI s5 59 v2).bind fun x7 => ((db_rI s5 280 v3).bind fun x8 => (db_bd (db_f130 s5 y6 x7 x8) fun q9 s10 => (cond (db_cnd .eq q4 q9) (db_f183_b2 n s10 v1 v2 (v3 + (1 : Int32))) (some (false, s10))))))))))))
set_option maxRecDepth 100000 in
theorem db_f183_b2_ok {X : db_X} {d : Nat}  (n : Nat) : ∀ (s : db_S) (v1 : Int32) (v2 : Int32) (v3 : Int32), db_Rf X (d + 2) dbm_183 2 [(0, .ref 274), (1, .int v1), (2, .int v2), (3, .int v3)] [] s db_zB (db_f183_b2 n s v1 v2 v3) := by
  induction n with
  | zero => intros; exact db_Rnone
  | succ n ih =>
    intro s v1 v2 v3
    unfold db_f183_b2
    refine db_Rgo (pc' := 7) (lv' := [(0, .ref 274), (1, .int v1), (2, .int v2), (3, .int v3)]) (st' := [.int (s.1 274 10), .int v3]) 3 rfl ?_
    refine db_Ric (pc' := 10) (tg := 83) (lv1 := [(0, .ref 274), (1, .int v1), (2, .int v2), (3, .int v3)]) rfl rfl rfl rfl ?_ ?_
    · refine db_Rgo (pc' := 84) (lv' := []) (st' := [.int (1 : Int32)]) 1 rfl ?_
      exact db_Rret (lv1 := []) rfl rfl rfl rfl
    refine db_Rgo (pc' := 22) (lv' := [(0, .ref 274), (1, .int v1), (2, .int v2), (3, .int v3)]) (st' := [.int v1, .ref 50, .ref 271]) 6 rfl ?_
    refine db_RldR (pc' := 23) (lv1 := [(0, .ref 274), (1, .int v1), (2, .int v2), (3, .int v3)]) rfl rfl rfl fun y1 => ?_
    refine db_Rgo (pc' := 31) (lv' := [(0, .ref 274), (1, .int v1), (2, .int v2), (3, .int v3)]) (st' := [.int v1, .ref 59, .ref (y1 + 4), .ref 271]) 4 rfl ?_
    refine db_RldI (pc' := 32) (lv1 := [(0, .ref 274), (1, .int v1), (2, .int v2), (3, .int v3)]) rfl rfl rfl fun x2 => ?_
    refine db_Rgo (pc' := 37) (lv' := [(0, .ref 274), (1, .int v1), (2, .int v2), (3, .int v3)]) (st' := [.int v3, .ref 280, .int x2, .ref (y1 + 4), .ref 271]) 3 rfl ?_
    refine db_RldI (pc' := 38) (lv1 := [(0, .ref 274), (1, .int v1), (2, .int v2), (3, .int v3)]) rfl rfl rfl fun x3 => ?_
    refine db_RcdI (mr' := dbm_130) (as := [.ref 271, .ref (y1 + 4), .int x2, .int x3]) (rest := []) (pc' := 41) (lv1 := [(0, .ref 274), (1, .int v1), (2, .int v2), (3, .int v3)]) rfl rfl rfl rfl rfl (db_f130_ok) fun q4 s5 => ?_
    refine db_Rgo (pc' := 53) (lv' := [(0, .ref 274), (1, .int v1), (2, .int v2), (3, .int v3)]) (st' := [.int v2, .ref 50, .ref 271, .int q4]) 6 rfl ?_
    refine db_RldR (pc' := 54) (lv1 := [(0, .ref 274), (1, .int v1), (2, .int v2), (3, .int v3)]) rfl rfl rfl fun y6 => ?_
    refine db_Rgo (pc' := 62) (lv' := [(0, .ref 274), (1, .int v1), (2, .int v2), (3, .int v3)]) (st' := [.int v2, .ref 59, .ref (y6 + 4), .ref 271, .int q4]) 4 rfl ?_
    refine db_RldI (pc' := 63) (lv1 := [(0, .ref 274), (1, .int v1), (2, .int v2), (3, .int v3)]) rfl rfl rfl fun x7 => ?_
    refine db_Rgo (pc' := 68) (lv' := [(0, .ref 274), (1, .int v1), (2, .int v2), (3, .int v3)]) (st' := [.int v3, .ref 280, .int x7, .ref (y6 + 4), .ref 271, .int q4]) 3 rfl ?_
    refine db_RldI (pc' := 69) (lv1 := [(0, .ref 274), (1, .int v1), (2, .int v2), (3, .int v3)]) rfl rfl rfl fun x8 => ?_
    refine db_RcdI (mr' := dbm_130) (as := [.ref 271, .ref (y6 + 4), .int x7, .int x8]) (rest := [.int q4]) (pc' := 72) (lv1 := [(0, .ref 274), (1, .int v1), (2, .int v2), (3, .int v3)]) rfl rfl rfl rfl rfl (db_f130_ok) fun q9 s10 => ?_
    refine db_Ric (pc' := 75) (tg := 77) (lv1 := [(0, .ref 274), (1, .int v1), (2, .int v2), (3, .int v3)]) rfl rfl rfl rfl ?_ ?_
    · refine db_Rgo (pc' := 2) (lv' := [(3, .int (v3 + (1 : Int32))), (0, .ref 274), (1, .int v1), (2, .int v2)]) (st' := []) 2 rfl ?_
      refine db_Rn (lv1 := [(0, .ref 274), (1, .int v1), (2, .int v2), (3, .int (v3 + (1 : Int32)))]) rfl rfl rfl ?_
      exact ih _ _ _ _
    refine db_Rgo (pc' := 76) (lv' := [(0, .ref 274), (1, .int v1), (2, .int v2), (3, .int v3)]) (st' := [.int (0 : Int32)]) 1 rfl ?_
    exact db_Rret (lv1 := [(0, .ref 274), (1, .int v1), (2, .int v2), (3, .int v3)]) rfl rfl rfl rfl
/-- DreamBook$Finder.isTwin(II)Z -/
noncomputable def db_f183 (s : db_S) (v1 : Int32) (v2 : Int32) : Option (Bool × db_S) :=
  (db_f183_b2 db_FU s v1 v2 (0 : Int32))
set_option maxRecDepth 100000 in
theorem db_f183_ok {X : db_X} {d : Nat} {s : db_S} {v1 : Int32} {v2 : Int32} : db_Rf X (d + 2) dbm_183 0 (lv_args 0 [.ref 274, .int v1, .int v2]) [] s db_zB (db_f183 s v1 v2) := by
  show db_Rf _ _ _ 0 [(0, .ref 274), (1, .int v1), (2, .int v2)] [] _ _ _
  unfold db_f183
  refine db_Rgo (pc' := 2) (lv' := [(3, .int (0 : Int32)), (0, .ref 274), (1, .int v1), (2, .int v2)]) (st' := []) 2 rfl ?_
  refine db_Rn (lv1 := [(0, .ref 274), (1, .int v1), (2, .int v2), (3, .int (0 : Int32))]) rfl rfl rfl ?_
  exact db_f183_b2_ok db_FU _ _ _ _
noncomputable def db_f182_b35 (h6 : db_S → Int32 → Int32 → Option (Int32 × db_S)) (s : db_S) (v1 : Int32) (v2 : Int32) : Option (Int32 × db_S) :=
  (h6 s v1 (v2 + (1 : Int32)))
set_option maxRecDepth 100000 in
theorem db_f182_b35_ok {X : db_X} {d : Nat}  {h6 : db_S → Int32 → Int32 → Option (Int32 × db_S)} {s : db_S} {v1 : Int32} {v2 : Int32} (zh6 : ∀ (s' : db_S) (v1 : Int32) (v2 : Int32) , db_Rf X (d + 3) dbm_182 6 [(0, .ref 274), (1, .int v1), (2, .int v2)] [] s' db_zI (h6 s' v1 v2)) : db_Rf X (d + 3) dbm_182 35 [(0, .ref 274), (1, .int v1), (2, .int v2)] [] s db_zI (db_f182_b35 h6 s v1 v2) := by
  unfold db_f182_b35
  refine db_Rgo (pc' := 6) (lv' := [(2, .int (v2 + (1 : Int32))), (0, .ref 274), (1, .int v1)]) (st' := []) 2 rfl ?_
  refine db_Rn (lv1 := [(0, .ref 274), (1, .int v1), (2, .int (v2 + (1 : Int32)))]) rfl rfl rfl ?_
  exact zh6 _ _ _
noncomputable def db_f182_b6 : Nat → db_S → Int32 → Int32 → Option (Int32 × db_S)
  | 0, _, _, _ => none
  | n + 1, s, v1, v2 =>
    ((db_rI s 21 (5 : Int32)).bind fun x1 => (cond (db_cnd .ge v2 x1) (some ((-1 : Int32), s)) (cond (db_cnd .eq v2 v1) (db_f182_b35 (db_f182_b6 n) s v1 v2) (db_bd (db_f183 s v2 v1) fun q2 s3 => (cond q2 (some (v2, s3)) (db_f182_b35 (db_f182_b6 n) s3 v1 v2))))))
set_option maxRecDepth 100000 in
theorem db_f182_b6_ok {X : db_X} {d : Nat}  (n : Nat) : ∀ (s : db_S) (v1 : Int32) (v2 : Int32), db_Rf X (d + 3) dbm_182 6 [(0, .ref 274), (1, .int v1), (2, .int v2)] [] s db_zI (db_f182_b6 n s v1 v2) := by
  induction n with
  | zero => intros; exact db_Rnone
  | succ n ih =>
    intro s v1 v2
    unfold db_f182_b6
    refine db_Rgo (pc' := 15) (lv' := [(0, .ref 274), (1, .int v1), (2, .int v2)]) (st' := [.int (5 : Int32), .ref 21, .int v2]) 5 rfl ?_
    refine db_RldI (pc' := 16) (lv1 := [(0, .ref 274), (1, .int v1), (2, .int v2)]) rfl rfl rfl fun x1 => ?_
    refine db_Ric (pc' := 19) (tg := 41) (lv1 := [(0, .ref 274), (1, .int v1), (2, .int v2)]) rfl rfl rfl rfl ?_ ?_
    · refine db_Rgo (pc' := 42) (lv' := []) (st' := [.int (-1 : Int32)]) 1 rfl ?_
      exact db_Rret (lv1 := []) rfl rfl rfl rfl
    refine db_Rgo (pc' := 21) (lv' := [(0, .ref 274), (1, .int v1), (2, .int v2)]) (st' := [.int v1, .int v2]) 2 rfl ?_
    refine db_Ric (pc' := 24) (tg := 35) (lv1 := [(0, .ref 274), (1, .int v1), (2, .int v2)]) rfl rfl rfl rfl ?_ ?_
    · exact db_f182_b35_ok ih
    refine db_Rgo (pc' := 27) (lv' := [(0, .ref 274), (1, .int v1), (2, .int v2)]) (st' := [.int v1, .int v2, .ref 274]) 3 rfl ?_
    refine db_RcdB (mr' := dbm_183) (as := [.ref 274, .int v2, .int v1]) (rest := []) (pc' := 30) (lv1 := [(0, .ref 274), (1, .int v1), (2, .int v2)]) rfl rfl rfl rfl rfl (db_f183_ok) fun q2 s3 => ?_
    refine db_RifBe (pc' := 33) (tg := 35) (lv1 := [(0, .ref 274), (1, .int v1), (2, .int v2)]) rfl rfl rfl rfl ?_ ?_
    · exact db_f182_b35_ok ih
    refine db_Rgo (pc' := 34) (lv' := [(0, .ref 274), (1, .int v1), (2, .int v2)]) (st' := [.int v2]) 1 rfl ?_
    exact db_Rret (lv1 := [(0, .ref 274), (1, .int v1), (2, .int v2)]) rfl rfl rfl rfl
/-- DreamBook$Finder.findTwin(I)I -/
noncomputable def db_f182 (s : db_S) (v1 : Int32) : Option (Int32 × db_S) :=
  ((db_f171 s).bind fun s2 => (db_f182_b6 db_FU s2 v1 (0 : Int32)))
set_option maxRecDepth 100000 in
theorem db_f182_ok {X : db_X} {d : Nat} {s : db_S} {v1 : Int32} : db_Rf X (d + 3) dbm_182 0 (lv_args 0 [.ref 274, .int v1]) [] s db_zI (db_f182 s v1) := by
  show db_Rf _ _ _ 0 [(0, .ref 274), (1, .int v1)] [] _ _ _
  unfold db_f182
  refine db_Rgo (pc' := 1) (lv' := [(0, .ref 274), (1, .int v1)]) (st' := [.ref 274]) 1 rfl ?_
  refine db_RcV (mr' := dbm_171) (as := [.ref 274]) (rest := []) (pc' := 4) (lv1 := [(0, .ref 274), (1, .int v1)]) rfl rfl rfl rfl rfl (db_f171_ok) fun s2 => ?_
  refine db_Rgo (pc' := 6) (lv' := [(2, .int (0 : Int32)), (0, .ref 274), (1, .int v1)]) (st' := []) 2 rfl ?_
  refine db_Rn (lv1 := [(0, .ref 274), (1, .int v1), (2, .int (0 : Int32))]) rfl rfl rfl ?_
  exact db_f182_b6_ok db_FU _ _ _
/-- DreamBook.twin(I)I -/
noncomputable def db_f181 (s : db_S) (v1 : Int32) : Option (Int32 × db_S) :=
  ((db_f103 s (5 : Int32) v1).bind fun q1 => (cond q1 (db_bd (db_f182 s v1) fun q3 s4 => (cond (db_cnd .ne q3 (-1 : Int32)) (db_bd (db_f87 s4 q3) fun q5 s6 => (some (q5, s6))) (db_bd (db_f37 s4 (8 : Int32)) fun q7 s8 => (some (q7, s8))))) (db_bd (db_f37 s (2 : Int32)) fun q9 s10 => (some (q9, s10)))))
set_option maxRecDepth 100000 in
theorem db_f181_ok {X : db_X} {d : Nat} {s : db_S} {v1 : Int32} : db_Rf X (d + 4) dbm_181 0 (lv_args 0 [.ref 4, .int v1]) [] s db_zI (db_f181 s v1) := by
  show db_Rf _ _ _ 0 [(0, .ref 4), (1, .int v1)] [] _ _ _
  unfold db_f181
  refine db_Rgo (pc' := 3) (lv' := [(0, .ref 4), (1, .int v1)]) (st' := [.int v1, .int (5 : Int32), .ref 4]) 3 rfl ?_
  refine db_RcyB (mr' := dbm_103) (as := [.ref 4, .int (5 : Int32), .int v1]) (rest := []) (pc' := 6) (lv1 := [(0, .ref 4), (1, .int v1)]) rfl rfl rfl rfl rfl (db_f103_ok) fun q1 => ?_
  refine db_RifBn (pc' := 9) (tg := 15) (lv1 := [(0, .ref 4), (1, .int v1)]) rfl rfl rfl rfl ?_ ?_
  · refine db_Rgo (pc' := 20) (lv' := [(0, .ref 4), (1, .int v1)]) (st' := [.int v1, .ref 274]) 3 rfl ?_
    refine db_RcdI (mr' := dbm_182) (as := [.ref 274, .int v1]) (rest := []) (pc' := 23) (lv1 := [(0, .ref 4), (1, .int v1)]) rfl rfl rfl rfl rfl (db_f182_ok) fun q3 s4 => ?_
    refine db_Rgo (pc' := 26) (lv' := [(2, .int q3), (0, .ref 4), (1, .int v1)]) (st' := [.int (-1 : Int32), .int q3]) 3 rfl ?_
    refine db_Ric (pc' := 29) (tg := 38) (lv1 := [(2, .int q3), (0, .ref 4), (1, .int v1)]) rfl rfl rfl rfl ?_ ?_
    · refine db_Rgo (pc' := 40) (lv' := [(0, .ref 4), (2, .int q3)]) (st' := [.int q3, .ref 4]) 2 rfl ?_
      refine db_RcdI (mr' := dbm_87) (as := [.ref 4, .int q3]) (rest := []) (pc' := 43) (lv1 := [(0, .ref 4), (2, .int q3)]) rfl rfl rfl rfl rfl (db_f87_ok) fun q5 s6 => ?_
      exact db_Rret (lv1 := []) rfl rfl rfl rfl
    refine db_Rgo (pc' := 32) (lv' := [(2, .int q3), (0, .ref 4), (1, .int v1)]) (st' := [.int (8 : Int32), .ref 4]) 2 rfl ?_
    refine db_RcdI (mr' := dbm_37) (as := [.ref 4, .int (8 : Int32)]) (rest := []) (pc' := 35) (lv1 := [(2, .int q3), (0, .ref 4), (1, .int v1)]) rfl rfl rfl rfl rfl (db_f37_ok) fun q7 s8 => ?_
    refine db_Rgo (pc' := 43) (lv' := [(2, .int q3), (0, .ref 4), (1, .int v1)]) (st' := [.int q7]) 1 rfl ?_
    exact db_Rret (lv1 := []) rfl rfl rfl rfl
  refine db_Rgo (pc' := 11) (lv' := [(0, .ref 4), (1, .int v1)]) (st' := [.int (2 : Int32), .ref 4]) 2 rfl ?_
  refine db_RcdI (mr' := dbm_37) (as := [.ref 4, .int (2 : Int32)]) (rest := []) (pc' := 14) (lv1 := [(0, .ref 4), (1, .int v1)]) rfl rfl rfl rfl rfl (db_f37_ok) fun q9 s10 => ?_
  exact db_Rret (lv1 := [(0, .ref 4), (1, .int v1)]) rfl rfl rfl rfl
noncomputable def db_f361_b15 (h2 : db_S → Int32 → Int32 → Int32 → Option (Bool × db_S)) : Nat → db_S → Int32 → Int32 → Int32 → Int32 → Option (Bool × db_S)
  | 0, _, _, _, _, _ => none
  | n + 1, s, v1, v2, v3, v4 =>
    ((db_rI s 674 (2 : Int32)).bind fun x1 => (cond (db_cnd .ge v4 x1) (h2 s v1 v2 (v3 + (1 : Int32))) (db_bd (db_f316 s v1 v3 v4) fun q2 s3 => (db_bd (db_f316 s3 v2 v3 v4) fun q4 s5 => (cond (db_cnd .eq q2 q4) (db_f361_b15 h2 n s5 v1 v2 v3 (v4 + (1 : Int32))) (some (false, s5)))))))
set_option maxRecDepth 100000 in
theorem db_f361_b15_ok {X : db_X} {d : Nat}  {h2 : db_S → Int32 → Int32 → Int32 → Option (Bool × db_S)} (zh2 : ∀ (s' : db_S) (v1 : Int32) (v2 : Int32) (v3 : Int32) , db_Rf X (d + 5) dbm_361 2 [(0, .ref 669), (1, .int v1), (2, .int v2), (3, .int v3)] [] s' db_zB (h2 s' v1 v2 v3)) (n : Nat) : ∀ (s : db_S) (v1 : Int32) (v2 : Int32) (v3 : Int32) (v4 : Int32), db_Rf X (d + 5) dbm_361 15 [(0, .ref 669), (1, .int v1), (2, .int v2), (3, .int v3), (4, .int v4)] [] s db_zB (db_f361_b15 h2 n s v1 v2 v3 v4) := by
  induction n with
  | zero => intros; exact db_Rnone
  | succ n ih =>
    intro s v1 v2 v3 v4
    unfold db_f361_b15
    refine db_Rgo (pc' := 22) (lv' := [(0, .ref 669), (1, .int v1), (2, .int v2), (3, .int v3), (4, .int v4)]) (st' := [.int (2 : Int32), .ref 674, .int v4]) 4 rfl ?_
    refine db_RldI (pc' := 23) (lv1 := [(0, .ref 669), (1, .int v1), (2, .int v2), (3, .int v3), (4, .int v4)]) rfl rfl rfl fun x1 => ?_
    refine db_Ric (pc' := 26) (tg := 53) (lv1 := [(0, .ref 669), (1, .int v1), (2, .int v2), (3, .int v3), (4, .int v4)]) rfl rfl rfl rfl ?_ ?_
    · refine db_Rgo (pc' := 2) (lv' := [(3, .int (v3 + (1 : Int32))), (0, .ref 669), (1, .int v1), (2, .int v2)]) (st' := []) 2 rfl ?_
      refine db_Rn (lv1 := [(0, .ref 669), (1, .int v1), (2, .int v2), (3, .int (v3 + (1 : Int32)))]) rfl rfl rfl ?_
      exact zh2 _ _ _ _
    refine db_Rgo (pc' := 31) (lv' := [(0, .ref 669), (1, .int v1), (2, .int v2), (3, .int v3), (4, .int v4)]) (st' := [.int v4, .int v3, .int v1, .ref 669]) 4 rfl ?_
    refine db_RcdI (mr' := dbm_316) (as := [.ref 669, .int v1, .int v3, .int v4]) (rest := []) (pc' := 34) (lv1 := [(0, .ref 669), (1, .int v1), (2, .int v2), (3, .int v3), (4, .int v4)]) rfl rfl rfl rfl rfl (db_f316_ok) fun q2 s3 => ?_
    refine db_Rgo (pc' := 39) (lv' := [(0, .ref 669), (1, .int v1), (2, .int v2), (3, .int v3), (4, .int v4)]) (st' := [.int v4, .int v3, .int v2, .ref 669, .int q2]) 4 rfl ?_
    refine db_RcdI (mr' := dbm_316) (as := [.ref 669, .int v2, .int v3, .int v4]) (rest := [.int q2]) (pc' := 42) (lv1 := [(0, .ref 669), (1, .int v1), (2, .int v2), (3, .int v3), (4, .int v4)]) rfl rfl rfl rfl rfl (db_f316_ok) fun q4 s5 => ?_
    refine db_Ric (pc' := 45) (tg := 47) (lv1 := [(0, .ref 669), (1, .int v1), (2, .int v2), (3, .int v3), (4, .int v4)]) rfl rfl rfl rfl ?_ ?_
    · refine db_Rgo (pc' := 15) (lv' := [(4, .int (v4 + (1 : Int32))), (0, .ref 669), (1, .int v1), (2, .int v2), (3, .int v3)]) (st' := []) 2 rfl ?_
      refine db_Rn (lv1 := [(0, .ref 669), (1, .int v1), (2, .int v2), (3, .int v3), (4, .int (v4 + (1 : Int32)))]) rfl rfl rfl ?_
      exact ih _ _ _ _ _
    refine db_Rgo (pc' := 46) (lv' := [(0, .ref 669), (1, .int v1), (2, .int v2), (3, .int v3), (4, .int v4)]) (st' := [.int (0 : Int32)]) 1 rfl ?_
    exact db_Rret (lv1 := [(0, .ref 669), (1, .int v1), (2, .int v2), (3, .int v3), (4, .int v4)]) rfl rfl rfl rfl
noncomputable def db_f361_b2 : Nat → db_S → Int32 → Int32 → Int32 → Option (Bool × db_S)
  | 0, _, _, _, _ => none
  | n + 1, s, v1, v2, v3 =>
    ((db_rI s 674 (1 : Int32)).bind fun x1 => (cond (db_cnd .ge v3 x1) (some (true, s)) (db_f361_b15 (db_f361_b2 n) db_FU s v1 v2 v3 (-1 : Int32))))
set_option maxRecDepth 100000 in
theorem db_f361_b2_ok {X : db_X} {d : Nat}  (n : Nat) : ∀ (s : db_S) (v1 : Int32) (v2 : Int32) (v3 : Int32), db_Rf X (d + 5) dbm_361 2 [(0, .ref 669), (1, .int v1), (2, .int v2), (3, .int v3)] [] s db_zB (db_f361_b2 n s v1 v2 v3) := by
  induction n with
  | zero => intros; exact db_Rnone
  | succ n ih =>
    intro s v1 v2 v3
    unfold db_f361_b2
    refine db_Rgo (pc' := 8) (lv' := [(0, .ref 669), (1, .int v1), (2, .int v2), (3, .int v3)]) (st' := [.int (1 : Int32), .ref 674, .int v3]) 4 rfl ?_
    refine db_RldI (pc' := 9) (lv1 := [(0, .ref 669), (1, .int v1), (2, .int v2), (3, .int v3)]) rfl rfl rfl fun x1 => ?_
    refine db_Ric (pc' := 12) (tg := 59) (lv1 := [(0, .ref 669), (1, .int v1), (2, .int v2), (3, .int v3)]) rfl rfl rfl rfl ?_ ?_
    · refine db_Rgo (pc' := 60) (lv' := []) (st' := [.int (1 : Int32)]) 1 rfl ?_
      exact db_Rret (lv1 := []) rfl rfl rfl rfl
    refine db_Rgo (pc' := 15) (lv' := [(4, .int (-1 : Int32)), (0, .ref 669), (1, .int v1), (2, .int v2), (3, .int v3)]) (st' := []) 2 rfl ?_
    refine db_Rn (lv1 := [(0, .ref 669), (1, .int v1), (2, .int v2), (3, .int v3), (4, .int (-1 : Int32))]) rfl rfl rfl ?_
    exact db_f361_b15_ok ih db_FU _ _ _ _ _
/-- DreamBookModel.areTwins(II)Z -/
noncomputable def db_f361 (s : db_S) (v1 : Int32) (v2 : Int32) : Option (Bool × db_S) :=
  (db_f361_b2 db_FU s v1 v2 (-1 : Int32))
set_option maxRecDepth 100000 in
theorem db_f361_ok {X : db_X} {d : Nat} {s : db_S} {v1 : Int32} {v2 : Int32} : db_Rf X (d + 5) dbm_361 0 (lv_args 0 [.ref 669, .int v1, .int v2]) [] s db_zB (db_f361 s v1 v2) := by
  show db_Rf _ _ _ 0 [(0, .ref 669), (1, .int v1), (2, .int v2)] [] _ _ _
  unfold db_f361
  refine db_Rgo (pc' := 2) (lv' := [(3, .int (-1 : Int32)), (0, .ref 669), (1, .int v1), (2, .int v2)]) (st' := []) 2 rfl ?_
  refine db_Rn (lv1 := [(0, .ref 669), (1, .int v1), (2, .int v2), (3, .int (-1 : Int32))]) rfl rfl rfl ?_
  exact db_f361_b2_ok db_FU _ _ _ _
noncomputable def db_f360_b52 (h26 : db_S → Int32 → Int32 → Option (Int32 × db_S)) (s : db_S) (v1 : Int32) (v2 : Int32) : Option (Int32 × db_S) :=
  (h26 s v1 (v2 + (1 : Int32)))
set_option maxRecDepth 100000 in
theorem db_f360_b52_ok {X : db_X} {d : Nat}  {h26 : db_S → Int32 → Int32 → Option (Int32 × db_S)} {s : db_S} {v1 : Int32} {v2 : Int32} (zh26 : ∀ (s' : db_S) (v1 : Int32) (v2 : Int32) , db_Rf X (d + 6) dbm_360 26 [(0, .ref 669), (1, .int v1), (2, .int v2)] [] s' db_zI (h26 s' v1 v2)) : db_Rf X (d + 6) dbm_360 52 [(0, .ref 669), (1, .int v1), (2, .int v2)] [] s db_zI (db_f360_b52 h26 s v1 v2) := by
  unfold db_f360_b52
  refine db_Rgo (pc' := 26) (lv' := [(2, .int (v2 + (1 : Int32))), (0, .ref 669), (1, .int v1)]) (st' := []) 2 rfl ?_
  refine db_Rn (lv1 := [(0, .ref 669), (1, .int v1), (2, .int (v2 + (1 : Int32)))]) rfl rfl rfl ?_
  exact zh26 _ _ _
noncomputable def db_f360_b26 : Nat → db_S → Int32 → Int32 → Option (Int32 × db_S)
  | 0, _, _, _ => none
  | n + 1, s, v1, v2 =>
    ((db_rI s 674 (5 : Int32)).bind fun x1 => (cond (db_cnd .ge v2 x1) (db_bd (db_f281 s (8 : Int32)) fun q2 s3 => (some (q2, s3))) (cond (db_cnd .eq v2 v1) (db_f360_b52 (db_f360_b26 n) s v1 v2) (db_bd (db_f361 s v1 v2) fun q4 s5 => (cond q4 (some (v2, s5)) (db_f360_b52 (db_f360_b26 n) s5 v1 v2))))))
set_option maxRecDepth 100000 in
theorem db_f360_b26_ok {X : db_X} {d : Nat}  (n : Nat) : ∀ (s : db_S) (v1 : Int32) (v2 : Int32), db_Rf X (d + 6) dbm_360 26 [(0, .ref 669), (1, .int v1), (2, .int v2)] [] s db_zI (db_f360_b26 n s v1 v2) := by
  induction n with
  | zero => intros; exact db_Rnone
  | succ n ih =>
    intro s v1 v2
    unfold db_f360_b26
    refine db_Rgo (pc' := 32) (lv' := [(0, .ref 669), (1, .int v1), (2, .int v2)]) (st' := [.int (5 : Int32), .ref 674, .int v2]) 4 rfl ?_
    refine db_RldI (pc' := 33) (lv1 := [(0, .ref 669), (1, .int v1), (2, .int v2)]) rfl rfl rfl fun x1 => ?_
    refine db_Ric (pc' := 36) (tg := 58) (lv1 := [(0, .ref 669), (1, .int v1), (2, .int v2)]) rfl rfl rfl rfl ?_ ?_
    · refine db_Rgo (pc' := 61) (lv' := [(0, .ref 669)]) (st' := [.int (8 : Int32), .ref 669]) 2 rfl ?_
      refine db_RcdI (mr' := dbm_281) (as := [.ref 669, .int (8 : Int32)]) (rest := []) (pc' := 64) (lv1 := [(0, .ref 669)]) rfl rfl rfl rfl rfl (db_f281_ok) fun q2 s3 => ?_
      exact db_Rret (lv1 := [(0, .ref 669)]) rfl rfl rfl rfl
    refine db_Rgo (pc' := 38) (lv' := [(0, .ref 669), (1, .int v1), (2, .int v2)]) (st' := [.int v1, .int v2]) 2 rfl ?_
    refine db_Ric (pc' := 41) (tg := 52) (lv1 := [(0, .ref 669), (1, .int v1), (2, .int v2)]) rfl rfl rfl rfl ?_ ?_
    · exact db_f360_b52_ok ih
    refine db_Rgo (pc' := 44) (lv' := [(0, .ref 669), (1, .int v1), (2, .int v2)]) (st' := [.int v2, .int v1, .ref 669]) 3 rfl ?_
    refine db_RcdB (mr' := dbm_361) (as := [.ref 669, .int v1, .int v2]) (rest := []) (pc' := 47) (lv1 := [(0, .ref 669), (1, .int v1), (2, .int v2)]) rfl rfl rfl rfl rfl (db_f361_ok) fun q4 s5 => ?_
    refine db_RifBe (pc' := 50) (tg := 52) (lv1 := [(0, .ref 669), (1, .int v1), (2, .int v2)]) rfl rfl rfl rfl ?_ ?_
    · exact db_f360_b52_ok ih
    refine db_Rgo (pc' := 51) (lv' := [(0, .ref 669), (1, .int v1), (2, .int v2)]) (st' := [.int v2]) 1 rfl ?_
    exact db_Rret (lv1 := [(0, .ref 669), (1, .int v1), (2, .int v2)]) rfl rfl rfl rfl
/-- DreamBookModel.twin(I)I -/
noncomputable def db_f360 (s : db_S) (v1 : Int32) : Option (Int32 × db_S) :=
  ((db_pI s 669 1 (0 : Int32)).bind fun s1 => ((db_pI s1 669 0 (0 : Int32)).bind fun s2 => ((db_f297 s2 v1).bind fun q3 => (cond q3 (db_f360_b26 db_FU s2 v1 (0 : Int32)) (db_bd (db_f281 s2 (2 : Int32)) fun q5 s6 => (some (q5, s6)))))))
set_option maxRecDepth 100000 in
theorem db_f360_ok {X : db_X} {d : Nat} {s : db_S} {v1 : Int32} : db_Rf X (d + 6) dbm_360 0 (lv_args 0 [.ref 669, .int v1]) [] s db_zI (db_f360 s v1) := by
  show db_Rf _ _ _ 0 [(0, .ref 669), (1, .int v1)] [] _ _ _
  unfold db_f360
  refine db_Rgo (pc' := 2) (lv' := [(0, .ref 669), (1, .int v1)]) (st' := [.int (0 : Int32), .ref 669]) 2 rfl ?_
  refine db_RpuI (pc' := 5) (lv1 := [(0, .ref 669), (1, .int v1)]) rfl rfl rfl rfl rfl rfl (by decide) rfl rfl fun s1 => ?_
  refine db_Rgo (pc' := 7) (lv' := [(0, .ref 669), (1, .int v1)]) (st' := [.int (0 : Int32), .ref 669]) 2 rfl ?_
  refine db_RpuI (pc' := 10) (lv1 := [(0, .ref 669), (1, .int v1)]) rfl rfl rfl rfl rfl rfl (by decide) rfl rfl fun s2 => ?_
  refine db_Rgo (pc' := 12) (lv' := [(0, .ref 669), (1, .int v1)]) (st' := [.int v1, .ref 669]) 2 rfl ?_
  refine db_RcyB (mr' := dbm_297) (as := [.ref 669, .int v1]) (rest := []) (pc' := 15) (lv1 := [(0, .ref 669), (1, .int v1)]) rfl rfl rfl rfl rfl (db_f297_ok) fun q3 => ?_
  refine db_RifBn (pc' := 18) (tg := 24) (lv1 := [(0, .ref 669), (1, .int v1)]) rfl rfl rfl rfl ?_ ?_
  · refine db_Rgo (pc' := 26) (lv' := [(2, .int (0 : Int32)), (0, .ref 669), (1, .int v1)]) (st' := []) 2 rfl ?_
    refine db_Rn (lv1 := [(0, .ref 669), (1, .int v1), (2, .int (0 : Int32))]) rfl rfl rfl ?_
    exact db_f360_b26_ok db_FU _ _ _
  refine db_Rgo (pc' := 20) (lv' := [(0, .ref 669), (1, .int v1)]) (st' := [.int (2 : Int32), .ref 669]) 2 rfl ?_
  refine db_RcdI (mr' := dbm_281) (as := [.ref 669, .int (2 : Int32)]) (rest := []) (pc' := 23) (lv1 := [(0, .ref 669), (1, .int v1)]) rfl rfl rfl rfl rfl (db_f281_ok) fun q5 s6 => ?_
  exact db_Rret (lv1 := [(0, .ref 669), (1, .int v1)]) rfl rfl rfl rfl
noncomputable def db_f185_b79 (h8 : db_S → Int32 → Int32 → Int32 → Int32 → Int32 → Option (Int32 × db_S)) (s : db_S) (v1 : Int32) (v2 : Int32) (v3 : Int32) (v4 : Int32) (v5 : Int32) : Option (Int32 × db_S) :=
  (h8 s v1 v2 v3 v4 (v5 + (1 : Int32)))
set_option maxRecDepth 100000 in
theorem db_f185_b79_ok {X : db_X} {d : Nat}  {h8 : db_S → Int32 → Int32 → Int32 → Int32 → Int32 → Option (Int32 × db_S)} {s : db_S} {v1 : Int32} {v2 : Int32} {v3 : Int32} {v4 : Int32} {v5 : Int32} (zh8 : ∀ (s' : db_S) (v1 : Int32) (v2 : Int32) (v3 : Int32) (v4 : Int32) (v5 : Int32) , db_Rf X (d + 3) dbm_185 8 [(0, .ref 274), (1, .int v1), (2, .int v2), (3, .int v3), (4, .int v4), (5, .int v5)] [] s' db_zI (h8 s' v1 v2 v3 v4 v5)) : db_Rf X (d + 3) dbm_185 79 [(0, .ref 274), (1, .int v1), (2, .int v2), (3, .int v3), (4, .int v4), (5, .int v5)] [] s db_zI (db_f185_b79 h8 s v1 v2 v3 v4 v5) := by
  unfold db_f185_b79
  refine db_Rgo (pc' := 8) (lv' := [(5, .int (v5 + (1 : Int32))), (0, .ref 274), (1, .int v1), (2, .int v2), (3, .int v3), (4, .int v4)]) (st' := []) 2 rfl ?_
  refine db_Rn (lv1 := [(0, .ref 274), (1, .int v1), (2, .int v2), (3, .int v3), (4, .int v4), (5, .int (v5 + (1 : Int32)))]) rfl rfl rfl ?_
  exact zh8 _ _ _ _ _ _
noncomputable def db_f185_b72 (h8 : db_S → Int32 → Int32 → Int32 → Int32 → Int32 → Option (Int32 × db_S)) (s : db_S) (v1 : Int32) (v2 : Int32) (v5 : Int32) (v6 : Int32) : Option (Int32 × db_S) :=
  (db_f185_b79 h8 s v1 v2 v5 v6 v5)
set_option maxRecDepth 100000 in
theorem db_f185_b72_ok {X : db_X} {d : Nat}  {h8 : db_S → Int32 → Int32 → Int32 → Int32 → Int32 → Option (Int32 × db_S)} {s : db_S} {v1 : Int32} {v2 : Int32} {v5 : Int32} {v6 : Int32} (zh8 : ∀ (s' : db_S) (v1 : Int32) (v2 : Int32) (v3 : Int32) (v4 : Int32) (v5 : Int32) , db_Rf X (d + 3) dbm_185 8 [(0, .ref 274), (1, .int v1), (2, .int v2), (3, .int v3), (4, .int v4), (5, .int v5)] [] s' db_zI (h8 s' v1 v2 v3 v4 v5)) : db_Rf X (d + 3) dbm_185 72 [(0, .ref 274), (1, .int v1), (2, .int v2), (5, .int v5), (6, .int v6)] [] s db_zI (db_f185_b72 h8 s v1 v2 v5 v6) := by
  unfold db_f185_b72
  refine db_Rgo (pc' := 79) (lv' := [(4, .int v6), (3, .int v5), (0, .ref 274), (1, .int v1), (2, .int v2), (5, .int v5), (6, .int v6)]) (st' := []) 4 rfl ?_
  refine db_Rn (lv1 := [(0, .ref 274), (1, .int v1), (2, .int v2), (3, .int v5), (4, .int v6), (5, .int v5)]) rfl rfl rfl ?_
  exact db_f185_b79_ok zh8
noncomputable def db_f185_b8 : Nat → db_S → Int32 → Int32 → Int32 → Int32 → Int32 → Option (Int32 × db_S)
  | 0, _, _, _, _, _, _ => none
  | n + 1, s, v1, v2, v3, v4, v5 =>
    ((db_rI s 21 (5 : Int32)).bind fun x1 => (cond (db_cnd .ge v5 x1) (some (v3, s)) (db_bd (db_f127 s v5 v1 v2) fun q2 s3 => (cond (db_cnd .eq v3 (-1 : Int32)) (db_f185_b72 (db_f185_b8 n) s3 v1 v2 v5 q2) ((db_rI s3 60 v3).bind fun x4 => ((db_rI s3 60 v5).bind fun x5 => (cond (db_cnd .le (q2 * (x4 + (1 : Int32))) (v4 * (x5 + (1 : Int32)))) (db_f185_b79 (db_f185_b8 n) s3 v1 v2 v3 v4 v5) (db_f185_b72 (db_f185_b8 n) s3 v1 v2 v5 q2))))))))
set_option maxRecDepth 100000 in
theorem db_f185_b8_ok {X : db_X} {d : Nat}  (n : Nat) : ∀ (s : db_S) (v1 : Int32) (v2 : Int32) (v3 : Int32) (v4 : Int32) (v5 : Int32), db_Rf X (d + 3) dbm_185 8 [(0, .ref 274), (1, .int v1), (2, .int v2), (3, .int v3), (4, .int v4), (5, .int v5)] [] s db_zI (db_f185_b8 n s v1 v2 v3 v4 v5) := by
  induction n with
  | zero => intros; exact db_Rnone
  | succ n ih =>
    intro s v1 v2 v3 v4 v5
    unfold db_f185_b8
    refine db_Rgo (pc' := 18) (lv' := [(0, .ref 274), (1, .int v1), (2, .int v2), (3, .int v3), (4, .int v4), (5, .int v5)]) (st' := [.int (5 : Int32), .ref 21, .int v5]) 5 rfl ?_
    refine db_RldI (pc' := 19) (lv1 := [(0, .ref 274), (1, .int v1), (2, .int v2), (3, .int v3), (4, .int v4), (5, .int v5)]) rfl rfl rfl fun x1 => ?_
    refine db_Ric (pc' := 22) (tg := 85) (lv1 := [(0, .ref 274), (1, .int v1), (2, .int v2), (3, .int v3), (4, .int v4), (5, .int v5)]) rfl rfl rfl rfl ?_ ?_
    · refine db_Rgo (pc' := 86) (lv' := [(3, .int v3)]) (st' := [.int v3]) 1 rfl ?_
      exact db_Rret (lv1 := [(3, .int v3)]) rfl rfl rfl rfl
    refine db_Rgo (pc' := 30) (lv' := [(0, .ref 274), (1, .int v1), (2, .int v2), (3, .int v3), (4, .int v4), (5, .int v5)]) (st' := [.int v2, .int v1, .int v5, .ref 271]) 5 rfl ?_
    refine db_RcdI (mr' := dbm_127) (as := [.ref 271, .int v5, .int v1, .int v2]) (rest := []) (pc' := 33) (lv1 := [(0, .ref 274), (1, .int v1), (2, .int v2), (3, .int v3), (4, .int v4), (5, .int v5)]) rfl rfl rfl rfl rfl (db_f127_ok) fun q2 s3 => ?_
    refine db_Rgo (pc' := 37) (lv' := [(6, .int q2), (0, .ref 274), (1, .int v1), (2, .int v2), (3, .int v3), (4, .int v4), (5, .int v5)]) (st' := [.int (-1 : Int32), .int v3]) 3 rfl ?_
    refine db_Ric (pc' := 40) (tg := 72) (lv1 := [(6, .int q2), (0, .ref 274), (1, .int v1), (2, .int v2), (3, .int v3), (4, .int v4), (5, .int v5)]) rfl rfl rfl rfl ?_ ?_
    · refine db_Rn (lv1 := [(0, .ref 274), (1, .int v1), (2, .int v2), (5, .int v5), (6, .int q2)]) rfl rfl rfl ?_
      exact db_f185_b72_ok ih
    refine db_Rgo (pc' := 50) (lv' := [(6, .int q2), (0, .ref 274), (1, .int v1), (2, .int v2), (3, .int v3), (4, .int v4), (5, .int v5)]) (st' := [.int v3, .ref 60, .int q2]) 5 rfl ?_
    refine db_RldI (pc' := 51) (lv1 := [(6, .int q2), (0, .ref 274), (1, .int v1), (2, .int v2), (3, .int v3), (4, .int v4), (5, .int v5)]) rfl rfl rfl fun x4 => ?_
    refine db_Rgo (pc' := 65) (lv' := [(6, .int q2), (0, .ref 274), (1, .int v1), (2, .int v2), (3, .int v3), (4, .int v4), (5, .int v5)]) (st' := [.int v5, .ref 60, .int v4, .int (q2 * (x4 + (1 : Int32)))]) 8 rfl ?_
    refine db_RldI (pc' := 66) (lv1 := [(6, .int q2), (0, .ref 274), (1, .int v1), (2, .int v2), (3, .int v3), (4, .int v4), (5, .int v5)]) rfl rfl rfl fun x5 => ?_
    refine db_Rgo (pc' := 69) (lv' := [(6, .int q2), (0, .ref 274), (1, .int v1), (2, .int v2), (3, .int v3), (4, .int v4), (5, .int v5)]) (st' := [.int (v4 * (x5 + (1 : Int32))), .int (q2 * (x4 + (1 : Int32)))]) 3 rfl ?_
    refine db_Ric (pc' := 72) (tg := 79) (lv1 := [(6, .int q2), (0, .ref 274), (1, .int v1), (2, .int v2), (3, .int v3), (4, .int v4), (5, .int v5)]) rfl rfl rfl rfl ?_ ?_
    · refine db_Rn (lv1 := [(0, .ref 274), (1, .int v1), (2, .int v2), (3, .int v3), (4, .int v4), (5, .int v5)]) rfl rfl rfl ?_
      exact db_f185_b79_ok ih
    refine db_Rn (lv1 := [(0, .ref 274), (1, .int v1), (2, .int v2), (5, .int v5), (6, .int q2)]) rfl rfl rfl ?_
    exact db_f185_b72_ok ih
/-- DreamBook$Finder.findBargain(II)I -/
noncomputable def db_f185 (s : db_S) (v1 : Int32) (v2 : Int32) : Option (Int32 × db_S) :=
  (db_f185_b8 db_FU s v1 v2 (-1 : Int32) (0 : Int32) (0 : Int32))
set_option maxRecDepth 100000 in
theorem db_f185_ok {X : db_X} {d : Nat} {s : db_S} {v1 : Int32} {v2 : Int32} : db_Rf X (d + 3) dbm_185 0 (lv_args 0 [.ref 274, .int v1, .int v2]) [] s db_zI (db_f185 s v1 v2) := by
  show db_Rf _ _ _ 0 [(0, .ref 274), (1, .int v1), (2, .int v2)] [] _ _ _
  unfold db_f185
  refine db_Rgo (pc' := 8) (lv' := [(5, .int (0 : Int32)), (4, .int (0 : Int32)), (3, .int (-1 : Int32)), (0, .ref 274), (1, .int v1), (2, .int v2)]) (st' := []) 6 rfl ?_
  refine db_Rn (lv1 := [(0, .ref 274), (1, .int v1), (2, .int v2), (3, .int (-1 : Int32)), (4, .int (0 : Int32)), (5, .int (0 : Int32))]) rfl rfl rfl ?_
  exact db_f185_b8_ok db_FU _ _ _ _ _ _
/-- DreamBook.bargain(II)I -/
noncomputable def db_f184 (s : db_S) (v1 : Int32) (v2 : Int32) : Option (Int32 × db_S) :=
  ((db_f126 s v1 v2).bind fun q1 => (cond q1 (db_bd (db_f185 s v1 v2) fun q3 s4 => (cond (db_cnd .ne q3 (-1 : Int32)) (db_bd (db_f87 s4 q3) fun q5 s6 => (some (q5, s6))) (db_bd (db_f37 s4 (8 : Int32)) fun q7 s8 => (some (q7, s8))))) (db_bd (db_f37 s (2 : Int32)) fun q9 s10 => (some (q9, s10)))))
set_option maxRecDepth 100000 in
theorem db_f184_ok {X : db_X} {d : Nat} {s : db_S} {v1 : Int32} {v2 : Int32} : db_Rf X (d + 4) dbm_184 0 (lv_args 0 [.ref 4, .int v1, .int v2]) [] s db_zI (db_f184 s v1 v2) := by
  show db_Rf _ _ _ 0 [(0, .ref 4), (1, .int v1), (2, .int v2)] [] _ _ _
  unfold db_f184
  refine db_Rgo (pc' := 3) (lv' := [(0, .ref 4), (1, .int v1), (2, .int v2)]) (st' := [.int v2, .int v1, .ref 4]) 3 rfl ?_
  refine db_RcyB (mr' := dbm_126) (as := [.ref 4, .int v1, .int v2]) (rest := []) (pc' := 6) (lv1 := [(0, .ref 4), (1, .int v1), (2, .int v2)]) rfl rfl rfl rfl rfl (db_f126_ok) fun q1 => ?_
  refine db_RifBn (pc' := 9) (tg := 15) (lv1 := [(0, .ref 4), (1, .int v1), (2, .int v2)]) rfl rfl rfl rfl ?_ ?_
  · refine db_Rgo (pc' := 21) (lv' := [(0, .ref 4), (1, .int v1), (2, .int v2)]) (st' := [.int v2, .int v1, .ref 274]) 4 rfl ?_
    refine db_RcdI (mr' := dbm_185) (as := [.ref 274, .int v1, .int v2]) (rest := []) (pc' := 24) (lv1 := [(0, .ref 4), (1, .int v1), (2, .int v2)]) rfl rfl rfl rfl rfl (db_f185_ok) fun q3 s4 => ?_
    refine db_Rgo (pc' := 27) (lv' := [(3, .int q3), (0, .ref 4), (1, .int v1), (2, .int v2)]) (st' := [.int (-1 : Int32), .int q3]) 3 rfl ?_
    refine db_Ric (pc' := 30) (tg := 39) (lv1 := [(3, .int q3), (0, .ref 4), (1, .int v1), (2, .int v2)]) rfl rfl rfl rfl ?_ ?_
    · refine db_Rgo (pc' := 41) (lv' := [(0, .ref 4), (3, .int q3)]) (st' := [.int q3, .ref 4]) 2 rfl ?_
      refine db_RcdI (mr' := dbm_87) (as := [.ref 4, .int q3]) (rest := []) (pc' := 44) (lv1 := [(0, .ref 4), (3, .int q3)]) rfl rfl rfl rfl rfl (db_f87_ok) fun q5 s6 => ?_
      exact db_Rret (lv1 := []) rfl rfl rfl rfl
    refine db_Rgo (pc' := 33) (lv' := [(3, .int q3), (0, .ref 4), (1, .int v1), (2, .int v2)]) (st' := [.int (8 : Int32), .ref 4]) 2 rfl ?_
    refine db_RcdI (mr' := dbm_37) (as := [.ref 4, .int (8 : Int32)]) (rest := []) (pc' := 36) (lv1 := [(3, .int q3), (0, .ref 4), (1, .int v1), (2, .int v2)]) rfl rfl rfl rfl rfl (db_f37_ok) fun q7 s8 => ?_
    refine db_Rgo (pc' := 44) (lv' := [(3, .int q3), (0, .ref 4), (1, .int v1), (2, .int v2)]) (st' := [.int q7]) 1 rfl ?_
    exact db_Rret (lv1 := []) rfl rfl rfl rfl
  refine db_Rgo (pc' := 11) (lv' := [(0, .ref 4), (1, .int v1), (2, .int v2)]) (st' := [.int (2 : Int32), .ref 4]) 2 rfl ?_
  refine db_RcdI (mr' := dbm_37) (as := [.ref 4, .int (2 : Int32)]) (rest := []) (pc' := 14) (lv1 := [(0, .ref 4), (1, .int v1), (2, .int v2)]) rfl rfl rfl rfl rfl (db_f37_ok) fun q9 s10 => ?_
  exact db_Rret (lv1 := [(0, .ref 4), (1, .int v1), (2, .int v2)]) rfl rfl rfl rfl
noncomputable def db_f362_b93 (h30 : db_S → Int32 → Int32 → Int32 → Int32 → Option (Int32 × db_S)) (s : db_S) (v1 : Int32) (v2 : Int32) (v3 : Int32) (v4 : Int32) : Option (Int32 × db_S) :=
  (h30 s v1 v2 v3 (v4 + (1 : Int32)))
set_option maxRecDepth 100000 in
theorem db_f362_b93_ok {X : db_X} {d : Nat}  {h30 : db_S → Int32 → Int32 → Int32 → Int32 → Option (Int32 × db_S)} {s : db_S} {v1 : Int32} {v2 : Int32} {v3 : Int32} {v4 : Int32} (zh30 : ∀ (s' : db_S) (v1 : Int32) (v2 : Int32) (v3 : Int32) (v4 : Int32) , db_Rf X (d + 5) dbm_362 30 [(0, .ref 669), (1, .int v1), (2, .int v2), (3, .int v3), (4, .int v4)] [] s' db_zI (h30 s' v1 v2 v3 v4)) : db_Rf X (d + 5) dbm_362 93 [(0, .ref 669), (1, .int v1), (2, .int v2), (3, .int v3), (4, .int v4)] [] s db_zI (db_f362_b93 h30 s v1 v2 v3 v4) := by
  unfold db_f362_b93
  refine db_Rgo (pc' := 30) (lv' := [(4, .int (v4 + (1 : Int32))), (0, .ref 669), (1, .int v1), (2, .int v2), (3, .int v3)]) (st' := []) 2 rfl ?_
  refine db_Rn (lv1 := [(0, .ref 669), (1, .int v1), (2, .int v2), (3, .int v3), (4, .int (v4 + (1 : Int32)))]) rfl rfl rfl ?_
  exact zh30 _ _ _ _ _
noncomputable def db_f362_b90 (h30 : db_S → Int32 → Int32 → Int32 → Int32 → Option (Int32 × db_S)) (s : db_S) (v1 : Int32) (v2 : Int32) (v4 : Int32) : Option (Int32 × db_S) :=
  (db_f362_b93 h30 s v1 v2 v4 v4)
set_option maxRecDepth 100000 in
theorem db_f362_b90_ok {X : db_X} {d : Nat}  {h30 : db_S → Int32 → Int32 → Int32 → Int32 → Option (Int32 × db_S)} {s : db_S} {v1 : Int32} {v2 : Int32} {v4 : Int32} (zh30 : ∀ (s' : db_S) (v1 : Int32) (v2 : Int32) (v3 : Int32) (v4 : Int32) , db_Rf X (d + 5) dbm_362 30 [(0, .ref 669), (1, .int v1), (2, .int v2), (3, .int v3), (4, .int v4)] [] s' db_zI (h30 s' v1 v2 v3 v4)) : db_Rf X (d + 5) dbm_362 90 [(0, .ref 669), (1, .int v1), (2, .int v2), (4, .int v4)] [] s db_zI (db_f362_b90 h30 s v1 v2 v4) := by
  unfold db_f362_b90
  refine db_Rgo (pc' := 93) (lv' := [(3, .int v4), (0, .ref 669), (1, .int v1), (2, .int v2), (4, .int v4)]) (st' := []) 2 rfl ?_
  refine db_Rn (lv1 := [(0, .ref 669), (1, .int v1), (2, .int v2), (3, .int v4), (4, .int v4)]) rfl rfl rfl ?_
  exact db_f362_b93_ok zh30
noncomputable def db_f362_b30 : Nat → db_S → Int32 → Int32 → Int32 → Int32 → Option (Int32 × db_S)
  | 0, _, _, _, _, _ => none
  | n + 1, s, v1, v2, v3, v4 =>
    ((db_rI s 674 (5 : Int32)).bind fun x1 => (cond (db_cnd .ge v4 x1) (cond (db_cnd .ge v3 0) (some (v3, s)) (db_bd (db_f281 s (8 : Int32)) fun q2 s3 => (some (q2, s3)))) (cond (db_cnd .lt v3 0) (db_f362_b90 (db_f362_b30 n) s v1 v2 v4) (db_bd (db_f316 s v4 v1 v2) fun q4 s5 => ((db_rI s5 674 ((135 : Int32) + v3)).bind fun x6 => (db_bd (db_f316 s5 v3 v1 v2) fun q7 s8 => ((db_rI s8 674 ((135 : Int32) + v4)).bind fun x9 => (cond (db_cnd .le (q4 * (x6 + (1 : Int32))) (q7 * (x9 + (1 : Int32)))) (db_f362_b93 (db_f362_b30 n) s8 v1 v2 v3 v4) (db_f362_b90 (db_f362_b30 n) s8 v1 v2 v4)))))))))
set_option maxRecDepth 100000 in
theorem db_f362_b30_ok {X : db_X} {d : Nat}  (n : Nat) : ∀ (s : db_S) (v1 : Int32) (v2 : Int32) (v3 : Int32) (v4 : Int32), db_Rf X (d + 5) dbm_362 30 [(0, .ref 669), (1, .int v1), (2, .int v2), (3, .int v3), (4, .int v4)] [] s db_zI (db_f362_b30 n s v1 v2 v3 v4) := by
  induction n with
  | zero => intros; exact db_Rnone
  | succ n ih =>
    intro s v1 v2 v3 v4
    unfold db_f362_b30
    refine db_Rgo (pc' := 37) (lv' := [(0, .ref 669), (1, .int v1), (2, .int v2), (3, .int v3), (4, .int v4)]) (st' := [.int (5 : Int32), .ref 674, .int v4]) 4 rfl ?_
    refine db_RldI (pc' := 38) (lv1 := [(0, .ref 669), (1, .int v1), (2, .int v2), (3, .int v3), (4, .int v4)]) rfl rfl rfl fun x1 => ?_
    refine db_Ric (pc' := 41) (tg := 99) (lv1 := [(0, .ref 669), (1, .int v1), (2, .int v2), (3, .int v3), (4, .int v4)]) rfl rfl rfl rfl ?_ ?_
    · refine db_Rgo (pc' := 100) (lv' := [(0, .ref 669), (3, .int v3)]) (st' := [.int v3]) 1 rfl ?_
      refine db_Rif (pc' := 103) (tg := 112) (lv1 := [(0, .ref 669), (3, .int v3)]) rfl rfl rfl rfl ?_ ?_
      · refine db_Rgo (pc' := 113) (lv' := [(3, .int v3)]) (st' := [.int v3]) 1 rfl ?_
        exact db_Rret (lv1 := []) rfl rfl rfl rfl
      refine db_Rgo (pc' := 106) (lv' := [(0, .ref 669), (3, .int v3)]) (st' := [.int (8 : Int32), .ref 669]) 2 rfl ?_
      refine db_RcdI (mr' := dbm_281) (as := [.ref 669, .int (8 : Int32)]) (rest := []) (pc' := 109) (lv1 := [(0, .ref 669), (3, .int v3)]) rfl rfl rfl rfl rfl (db_f281_ok) fun q2 s3 => ?_
      refine db_Rgo (pc' := 113) (lv' := [(0, .ref 669), (3, .int v3)]) (st' := [.int q2]) 1 rfl ?_
      exact db_Rret (lv1 := []) rfl rfl rfl rfl
    refine db_Rgo (pc' := 42) (lv' := [(0, .ref 669), (1, .int v1), (2, .int v2), (3, .int v3), (4, .int v4)]) (st' := [.int v3]) 1 rfl ?_
    refine db_Rif (pc' := 45) (tg := 90) (lv1 := [(0, .ref 669), (1, .int v1), (2, .int v2), (3, .int v3), (4, .int v4)]) rfl rfl rfl rfl ?_ ?_
    · refine db_Rn (lv1 := [(0, .ref 669), (1, .int v1), (2, .int v2), (4, .int v4)]) rfl rfl rfl ?_
      exact db_f362_b90_ok ih
    refine db_Rgo (pc' := 50) (lv' := [(0, .ref 669), (1, .int v1), (2, .int v2), (3, .int v3), (4, .int v4)]) (st' := [.int v2, .int v1, .int v4, .ref 669]) 4 rfl ?_
    refine db_RcdI (mr' := dbm_316) (as := [.ref 669, .int v4, .int v1, .int v2]) (rest := []) (pc' := 53) (lv1 := [(0, .ref 669), (1, .int v1), (2, .int v2), (3, .int v3), (4, .int v4)]) rfl rfl rfl rfl rfl (db_f316_ok) fun q4 s5 => ?_
    refine db_Rgo (pc' := 62) (lv' := [(0, .ref 669), (1, .int v1), (2, .int v2), (3, .int v3), (4, .int v4)]) (st' := [.int ((135 : Int32) + v3), .ref 674, .int q4]) 5 rfl ?_
    refine db_RldI (pc' := 63) (lv1 := [(0, .ref 669), (1, .int v1), (2, .int v2), (3, .int v3), (4, .int v4)]) rfl rfl rfl fun x6 => ?_
    refine db_Rgo (pc' := 70) (lv' := [(0, .ref 669), (1, .int v1), (2, .int v2), (3, .int v3), (4, .int v4)]) (st' := [.int v2, .int v1, .int v3, .ref 669, .int (q4 * (x6 + (1 : Int32)))]) 7 rfl ?_
    refine db_RcdI (mr' := dbm_316) (as := [.ref 669, .int v3, .int v1, .int v2]) (rest := [.int (q4 * (x6 + (1 : Int32)))]) (pc' := 73) (lv1 := [(0, .ref 669), (1, .int v1), (2, .int v2), (3, .int v3), (4, .int v4)]) rfl rfl rfl rfl rfl (db_f316_ok) fun q7 s8 => ?_
    refine db_Rgo (pc' := 83) (lv' := [(0, .ref 669), (1, .int v1), (2, .int v2), (3, .int v3), (4, .int v4)]) (st' := [.int ((135 : Int32) + v4), .ref 674, .int q7, .int (q4 * (x6 + (1 : Int32)))]) 5 rfl ?_
    refine db_RldI (pc' := 84) (lv1 := [(0, .ref 669), (1, .int v1), (2, .int v2), (3, .int v3), (4, .int v4)]) rfl rfl rfl fun x9 => ?_
    refine db_Rgo (pc' := 87) (lv' := [(0, .ref 669), (1, .int v1), (2, .int v2), (3, .int v3), (4, .int v4)]) (st' := [.int (q7 * (x9 + (1 : Int32))), .int (q4 * (x6 + (1 : Int32)))]) 3 rfl ?_
    refine db_Ric (pc' := 90) (tg := 93) (lv1 := [(0, .ref 669), (1, .int v1), (2, .int v2), (3, .int v3), (4, .int v4)]) rfl rfl rfl rfl ?_ ?_
    · exact db_f362_b93_ok ih
    refine db_Rn (lv1 := [(0, .ref 669), (1, .int v1), (2, .int v2), (4, .int v4)]) rfl rfl rfl ?_
    exact db_f362_b90_ok ih
/-- DreamBookModel.bargain(II)I -/
noncomputable def db_f362 (s : db_S) (v1 : Int32) (v2 : Int32) : Option (Int32 × db_S) :=
  ((db_pI s 669 1 (0 : Int32)).bind fun s1 => ((db_pI s1 669 0 (0 : Int32)).bind fun s2 => ((db_f315 s2 v1 v2).bind fun q3 => (cond q3 (db_f362_b30 db_FU s2 v1 v2 (-1 : Int32) (0 : Int32)) (db_bd (db_f281 s2 (2 : Int32)) fun q5 s6 => (some (q5, s6)))))))
set_option maxRecDepth 100000 in
theorem db_f362_ok {X : db_X} {d : Nat} {s : db_S} {v1 : Int32} {v2 : Int32} : db_Rf X (d + 5) dbm_362 0 (lv_args 0 [.ref 669, .int v1, .int v2]) [] s db_zI (db_f362 s v1 v2) := by
  show db_Rf _ _ _ 0 [(0, .ref 669), (1, .int v1), (2, .int v2)] [] _ _ _
  unfold db_f362
  refine db_Rgo (pc' := 2) (lv' := [(0, .ref 669), (1, .int v1), (2, .int v2)]) (st' := [.int (0 : Int32), .ref 669]) 2 rfl ?_
  refine db_RpuI (pc' := 5) (lv1 := [(0, .ref 669), (1, .int v1), (2, .int v2)]) rfl rfl rfl rfl rfl rfl (by decide) rfl rfl fun s1 => ?_
  refine db_Rgo (pc' := 7) (lv' := [(0, .ref 669), (1, .int v1), (2, .int v2)]) (st' := [.int (0 : Int32), .ref 669]) 2 rfl ?_
  refine db_RpuI (pc' := 10) (lv1 := [(0, .ref 669), (1, .int v1), (2, .int v2)]) rfl rfl rfl rfl rfl rfl (by decide) rfl rfl fun s2 => ?_
  refine db_Rgo (pc' := 13) (lv' := [(0, .ref 669), (1, .int v1), (2, .int v2)]) (st' := [.int v2, .int v1, .ref 669]) 3 rfl ?_
  refine db_RcyB (mr' := dbm_315) (as := [.ref 669, .int v1, .int v2]) (rest := []) (pc' := 16) (lv1 := [(0, .ref 669), (1, .int v1), (2, .int v2)]) rfl rfl rfl rfl rfl (db_f315_ok) fun q3 => ?_
  refine db_RifBn (pc' := 19) (tg := 25) (lv1 := [(0, .ref 669), (1, .int v1), (2, .int v2)]) rfl rfl rfl rfl ?_ ?_
  · refine db_Rgo (pc' := 30) (lv' := [(4, .int (0 : Int32)), (3, .int (-1 : Int32)), (0, .ref 669), (1, .int v1), (2, .int v2)]) (st' := []) 4 rfl ?_
    refine db_Rn (lv1 := [(0, .ref 669), (1, .int v1), (2, .int v2), (3, .int (-1 : Int32)), (4, .int (0 : Int32))]) rfl rfl rfl ?_
    exact db_f362_b30_ok db_FU _ _ _ _ _
  refine db_Rgo (pc' := 21) (lv' := [(0, .ref 669), (1, .int v1), (2, .int v2)]) (st' := [.int (2 : Int32), .ref 669]) 2 rfl ?_
  refine db_RcdI (mr' := dbm_281) (as := [.ref 669, .int (2 : Int32)]) (rest := []) (pc' := 24) (lv1 := [(0, .ref 669), (1, .int v1), (2, .int v2)]) rfl rfl rfl rfl rfl (db_f281_ok) fun q5 s6 => ?_
  exact db_Rret (lv1 := [(0, .ref 669), (1, .int v1), (2, .int v2)]) rfl rfl rfl rfl
/-- DreamBook.checkWeek(IIII)I -/
noncomputable def db_f187 (s : db_S) (v1 : Int32) (v2 : Int32) (v3 : Int32) (v4 : Int32) : Option Int32 :=
  ((db_f126 s v3 v4).bind fun q1 => (cond q1 ((db_f27 s v1 (1 : Int32) (6 : Int32)).bind fun q3 => (cond q3 ((db_f162 s v2).bind fun q5 => (cond q5 ((db_rI s 21 (5 : Int32)).bind fun x7 => (cond (db_cnd .ne x7 0) (some (0 : Int32)) (some (8 : Int32)))) (some (5 : Int32)))) (some (5 : Int32)))) (some (2 : Int32))))
set_option maxRecDepth 100000 in
theorem db_f187_ok {X : db_X} {d : Nat} {s : db_S} {v1 : Int32} {v2 : Int32} {v3 : Int32} {v4 : Int32} : db_Rf X (d + 2) dbm_187 0 (lv_args 0 [.ref 4, .int v1, .int v2, .int v3, .int v4]) [] s (db_yI s) (db_f187 s v1 v2 v3 v4) := by
  show db_Rf _ _ _ 0 [(0, .ref 4), (1, .int v1), (2, .int v2), (3, .int v3), (4, .int v4)] [] _ _ _
  unfold db_f187
  refine db_Rgo (pc' := 4) (lv' := [(0, .ref 4), (1, .int v1), (2, .int v2), (3, .int v3), (4, .int v4)]) (st' := [.int v4, .int v3, .ref 4]) 3 rfl ?_
  refine db_RcyB (mr' := dbm_126) (as := [.ref 4, .int v3, .int v4]) (rest := []) (pc' := 7) (lv1 := [(0, .ref 4), (1, .int v1), (2, .int v2), (3, .int v3), (4, .int v4)]) rfl rfl rfl rfl rfl (db_f126_ok) fun q1 => ?_
  refine db_RifBn (pc' := 10) (tg := 12) (lv1 := [(0, .ref 4), (1, .int v1), (2, .int v2), (3, .int v3), (4, .int v4)]) rfl rfl rfl rfl ?_ ?_
  · refine db_Rgo (pc' := 16) (lv' := [(0, .ref 4), (1, .int v1), (2, .int v2)]) (st' := [.int (6 : Int32), .int (1 : Int32), .int v1]) 3 rfl ?_
    refine db_RcyB (mr' := dbm_27) (as := [.int v1, .int (1 : Int32), .int (6 : Int32)]) (rest := []) (pc' := 19) (lv1 := [(0, .ref 4), (1, .int v1), (2, .int v2)]) rfl rfl rfl rfl rfl (db_f27_ok) fun q3 => ?_
    refine db_RifBe (pc' := 22) (tg := 29) (lv1 := [(0, .ref 4), (1, .int v1), (2, .int v2)]) rfl rfl rfl rfl ?_ ?_
    · refine db_Rgo (pc' := 30) (lv' := []) (st' := [.int (5 : Int32)]) 1 rfl ?_
      exact db_Rret (lv1 := []) rfl rfl rfl rfl
    refine db_Rgo (pc' := 23) (lv' := [(0, .ref 4), (1, .int v1), (2, .int v2)]) (st' := [.int v2]) 1 rfl ?_
    refine db_RcyB (mr' := dbm_162) (as := [.int v2]) (rest := []) (pc' := 26) (lv1 := [(0, .ref 4), (1, .int v1), (2, .int v2)]) rfl rfl rfl rfl rfl (db_f162_ok) fun q5 => ?_
    refine db_RifBn (pc' := 29) (tg := 31) (lv1 := [(0, .ref 4), (1, .int v1), (2, .int v2)]) rfl rfl rfl rfl ?_ ?_
    · refine db_Rgo (pc' := 39) (lv' := [(0, .ref 4)]) (st' := [.int (5 : Int32), .ref 21]) 4 rfl ?_
      refine db_RldI (pc' := 40) (lv1 := [(0, .ref 4)]) rfl rfl rfl fun x7 => ?_
      refine db_Rif (pc' := 43) (tg := 48) (lv1 := [(0, .ref 4)]) rfl rfl rfl rfl ?_ ?_
      · refine db_Rgo (pc' := 49) (lv' := []) (st' := [.int (0 : Int32)]) 1 rfl ?_
        exact db_Rret (lv1 := []) rfl rfl rfl rfl
      refine db_Rgo (pc' := 49) (lv' := [(0, .ref 4)]) (st' := [.int (8 : Int32)]) 2 rfl ?_
      exact db_Rret (lv1 := []) rfl rfl rfl rfl
    refine db_Rgo (pc' := 30) (lv' := []) (st' := [.int (5 : Int32)]) 1 rfl ?_
    exact db_Rret (lv1 := []) rfl rfl rfl rfl
  refine db_Rgo (pc' := 11) (lv' := [(0, .ref 4), (1, .int v1), (2, .int v2), (3, .int v3), (4, .int v4)]) (st' := [.int (2 : Int32)]) 1 rfl ?_
  exact db_Rret (lv1 := [(0, .ref 4), (1, .int v1), (2, .int v2), (3, .int v3), (4, .int v4)]) rfl rfl rfl rfl
noncomputable def db_f189_b48 (s : db_S) (v1 : Int64) (v3 : Int64) (v5 : Int64) : Option db_S :=
  (cond (db_cnd .eq (lg_cmp v5 (0 : Int64)) 0) (some s) (if v5 = 0 then none else ((db_pL s 282 0 (v1 / v5)).bind fun s1 => (if v5 = 0 then none else ((db_pL s1 282 1 (v3 / v5)).bind fun s2 => (some s2))))))
set_option maxRecDepth 100000 in
theorem db_f189_b48_ok {X : db_X} {d : Nat}  {s : db_S} {v1 : Int64} {v3 : Int64} {v5 : Int64} : db_Rf X (d + 0) dbm_189 48 [(0, .ref 282), (1, .long v1), (3, .long v3), (5, .long v5)] [] s db_zV (db_f189_b48 s v1 v3 v5) := by
  unfold db_f189_b48
  refine db_Rgo (pc' := 52) (lv' := [(0, .ref 282), (1, .long v1), (3, .long v3), (5, .long v5)]) (st' := [.int (lg_cmp v5 (0 : Int64))]) 3 rfl ?_
  refine db_Rif (pc' := 55) (tg := 71) (lv1 := [(0, .ref 282), (1, .long v1), (3, .long v3), (5, .long v5)]) rfl rfl rfl rfl ?_ ?_
  · exact db_Rret (lv1 := []) rfl rfl rfl rfl
  refine db_Rgo (pc' := 59) (lv' := [(0, .ref 282), (1, .long v1), (3, .long v3), (5, .long v5)]) (st' := [.long v5, .long v1, .ref 282]) 3 rfl ?_
  refine db_RdivL (pc' := 60) (lv1 := [(0, .ref 282), (1, .long v1), (3, .long v3), (5, .long v5)]) rfl rfl rfl ?_
  refine db_RpuL (pc' := 63) (lv1 := [(0, .ref 282), (1, .long v1), (3, .long v3), (5, .long v5)]) rfl rfl rfl rfl rfl rfl (by decide) rfl rfl fun s1 => ?_
  refine db_Rgo (pc' := 67) (lv' := [(0, .ref 282), (1, .long v1), (3, .long v3), (5, .long v5)]) (st' := [.long v5, .long v3, .ref 282]) 3 rfl ?_
  refine db_RdivL (pc' := 68) (lv1 := [(0, .ref 282), (1, .long v1), (3, .long v3), (5, .long v5)]) rfl rfl rfl ?_
  refine db_RpuL (pc' := 71) (lv1 := [(0, .ref 282), (1, .long v1), (3, .long v3), (5, .long v5)]) rfl rfl rfl rfl rfl rfl (by decide) rfl rfl fun s2 => ?_
  exact db_Rret (lv1 := []) rfl rfl rfl rfl
noncomputable def db_f189_b12 : Nat → db_S → Int64 → Int64 → Int64 → Int64 → Int32 → Option db_S
  | 0, _, _, _, _, _, _ => none
  | n + 1, s, v1, v3, v5, v7, v9 =>
    (cond (db_cnd .ge v9 (200 : Int32)) (db_f189_b48 s v1 v3 v5) (cond (db_cnd .eq (lg_cmp v7 (0 : Int64)) 0) (db_f189_b48 s v1 v3 v5) (if v7 = 0 then none else (db_f189_b12 n s v1 v3 v7 (v5 - v5 / v7 * v7) (v9 + (1 : Int32))))))
set_option maxRecDepth 100000 in
theorem db_f189_b12_ok {X : db_X} {d : Nat}  (n : Nat) : ∀ (s : db_S) (v1 : Int64) (v3 : Int64) (v5 : Int64) (v7 : Int64) (v9 : Int32), db_Rf X (d + 0) dbm_189 12 [(0, .ref 282), (1, .long v1), (3, .long v3), (5, .long v5), (7, .long v7), (9, .int v9)] [] s db_zV (db_f189_b12 n s v1 v3 v5 v7 v9) := by
  induction n with
  | zero => intros; exact db_Rnone
  | succ n ih =>
    intro s v1 v3 v5 v7 v9
    unfold db_f189_b12
    refine db_Rgo (pc' := 17) (lv' := [(0, .ref 282), (1, .long v1), (3, .long v3), (5, .long v5), (7, .long v7), (9, .int v9)]) (st' := [.int (200 : Int32), .int v9]) 2 rfl ?_
    refine db_Ric (pc' := 20) (tg := 48) (lv1 := [(0, .ref 282), (1, .long v1), (3, .long v3), (5, .long v5), (7, .long v7), (9, .int v9)]) rfl rfl rfl rfl ?_ ?_
    · refine db_Rn (lv1 := [(0, .ref 282), (1, .long v1), (3, .long v3), (5, .long v5)]) rfl rfl rfl ?_
      exact db_f189_b48_ok
    refine db_Rgo (pc' := 24) (lv' := [(0, .ref 282), (1, .long v1), (3, .long v3), (5, .long v5), (7, .long v7), (9, .int v9)]) (st' := [.int (lg_cmp v7 (0 : Int64))]) 3 rfl ?_
    refine db_Rif (pc' := 27) (tg := 48) (lv1 := [(0, .ref 282), (1, .long v1), (3, .long v3), (5, .long v5), (7, .long v7), (9, .int v9)]) rfl rfl rfl rfl ?_ ?_
    · refine db_Rn (lv1 := [(0, .ref 282), (1, .long v1), (3, .long v3), (5, .long v5)]) rfl rfl rfl ?_
      exact db_f189_b48_ok
    refine db_Rgo (pc' := 31) (lv' := [(0, .ref 282), (1, .long v1), (3, .long v3), (5, .long v5), (7, .long v7), (9, .int v9)]) (st' := [.long v7, .long v5]) 2 rfl ?_
    refine db_RremL (pc' := 32) (lv1 := [(0, .ref 282), (1, .long v1), (3, .long v3), (5, .long v5), (7, .long v7), (9, .int v9)]) rfl rfl rfl ?_
    refine db_Rgo (pc' := 12) (lv' := [(9, .int (v9 + (1 : Int32))), (7, .long (v5 - v5 / v7 * v7)), (5, .long v7), (10, .long (v5 - v5 / v7 * v7)), (0, .ref 282), (1, .long v1), (3, .long v3)]) (st' := []) 7 rfl ?_
    refine db_Rn (lv1 := [(0, .ref 282), (1, .long v1), (3, .long v3), (5, .long v7), (7, .long (v5 - v5 / v7 * v7)), (9, .int (v9 + (1 : Int32)))]) rfl rfl rfl ?_
    exact ih _ _ _ _ _ _
/-- DreamBook$Odds.tell(JJ)V -/
noncomputable def db_f189 (s : db_S) (v1 : Int64) (v3 : Int64) : Option db_S :=
  (db_f189_b12 db_FU s v1 v3 (if 0 < v1 then v1 else -v1) v3 (0 : Int32))
set_option maxRecDepth 100000 in
theorem db_f189_ok {X : db_X} {d : Nat} {s : db_S} {v1 : Int64} {v3 : Int64} : db_Rf X (d + 0) dbm_189 0 (lv_args 0 [.ref 282, .long v1, .long v3]) [] s db_zV (db_f189 s v1 v3) := by
  show db_Rf _ _ _ 0 [(0, .ref 282), (1, .long v1), (3, .long v3)] [] _ _ _
  unfold db_f189
  refine db_Rgo (pc' := 12) (lv' := [(9, .int (0 : Int32)), (7, .long v3), (5, .long (if 0 < v1 then v1 else -v1)), (0, .ref 282), (1, .long v1), (3, .long v3)]) (st' := []) 7 rfl ?_
  refine db_Rn (lv1 := [(0, .ref 282), (1, .long v1), (3, .long v3), (5, .long (if 0 < v1 then v1 else -v1)), (7, .long v3), (9, .int (0 : Int32))]) rfl rfl rfl ?_
  exact db_f189_b12_ok db_FU _ _ _ _ _ _
noncomputable def db_f188_b6 : Nat → db_S → Int32 → Int32 → Int32 → Int64 → Int32 → Option db_S
  | 0, _, _, _, _, _, _ => none
  | n + 1, s, v1, v2, v3, v4, v6 =>
    ((db_rI s 21 (5 : Int32)).bind fun x1 => (cond (db_cnd .ge v6 x1) ((db_f100_20 s).bind fun q2 => ((db_f189 s ((Int32.toInt64 v1) * v4) (Int32.toInt64 q2)).bind fun s5 => (some s5))) ((db_rI s 61 v6).bind fun x6 => (db_bd (db_f127 s v6 v2 v3) fun q7 s8 => (db_f188_b6 n s8 v1 v2 v3 (v4 + ((Int32.toInt64 x6) * (Int32.toInt64 q7))) (v6 + (1 : Int32)))))))
set_option maxRecDepth 100000 in
theorem db_f188_b6_ok {X : db_X} {d : Nat}  (n : Nat) : ∀ (s : db_S) (v1 : Int32) (v2 : Int32) (v3 : Int32) (v4 : Int64) (v6 : Int32), db_Rf X (d + 3) dbm_188 6 [(0, .ref 282), (1, .int v1), (2, .int v2), (3, .int v3), (4, .long v4), (6, .int v6)] [] s db_zV (db_f188_b6 n s v1 v2 v3 v4 v6) := by
  induction n with
  | zero => intros; exact db_Rnone
  | succ n ih =>
    intro s v1 v2 v3 v4 v6
    unfold db_f188_b6
    refine db_Rgo (pc' := 16) (lv' := [(0, .ref 282), (1, .int v1), (2, .int v2), (3, .int v3), (4, .long v4), (6, .int v6)]) (st' := [.int (5 : Int32), .ref 21, .int v6]) 5 rfl ?_
    refine db_RldI (pc' := 17) (lv1 := [(0, .ref 282), (1, .int v1), (2, .int v2), (3, .int v3), (4, .long v4), (6, .int v6)]) rfl rfl rfl fun x1 => ?_
    refine db_Ric (pc' := 20) (tg := 55) (lv1 := [(0, .ref 282), (1, .int v1), (2, .int v2), (3, .int v3), (4, .long v4), (6, .int v6)]) rfl rfl rfl rfl ?_ ?_
    · refine db_Rgo (pc' := 65) (lv' := [(0, .ref 282), (1, .int v1), (4, .long v4)]) (st' := [.ref 20, .long ((Int32.toInt64 v1) * v4), .ref 282]) 7 rfl ?_
      refine db_RcyI (mr' := dbm_100) (as := [.ref 20]) (rest := [.long ((Int32.toInt64 v1) * v4), .ref 282]) (pc' := 68) (lv1 := [(0, .ref 282), (1, .int v1), (4, .long v4)]) rfl rfl rfl rfl rfl (db_f100_20_ok) fun q2 => ?_
      refine db_Rgo (pc' := 69) (lv' := [(0, .ref 282), (1, .int v1), (4, .long v4)]) (st' := [.long (Int32.toInt64 q2), .long ((Int32.toInt64 v1) * v4), .ref 282]) 1 rfl ?_
      refine db_RcV (mr' := dbm_189) (as := [.ref 282, .long ((Int32.toInt64 v1) * v4), .long (Int32.toInt64 q2)]) (rest := []) (pc' := 72) (lv1 := [(0, .ref 282), (1, .int v1), (4, .long v4)]) rfl rfl rfl rfl rfl (db_f189_ok) fun s5 => ?_
      exact db_Rret (lv1 := [(0, .ref 282), (1, .int v1), (4, .long v4)]) rfl rfl rfl rfl
    refine db_Rgo (pc' := 31) (lv' := [(0, .ref 282), (1, .int v1), (2, .int v2), (3, .int v3), (4, .long v4), (6, .int v6)]) (st' := [.int v6, .ref 61, .long v4]) 5 rfl ?_
    refine db_RldI (pc' := 32) (lv1 := [(0, .ref 282), (1, .int v1), (2, .int v2), (3, .int v3), (4, .long v4), (6, .int v6)]) rfl rfl rfl fun x6 => ?_
    refine db_Rgo (pc' := 41) (lv' := [(0, .ref 282), (1, .int v1), (2, .int v2), (3, .int v3), (4, .long v4), (6, .int v6)]) (st' := [.int v3, .int v2, .int v6, .ref 271, .long (Int32.toInt64 x6), .long v4]) 6 rfl ?_
    refine db_RcdI (mr' := dbm_127) (as := [.ref 271, .int v6, .int v2, .int v3]) (rest := [.long (Int32.toInt64 x6), .long v4]) (pc' := 44) (lv1 := [(0, .ref 282), (1, .int v1), (2, .int v2), (3, .int v3), (4, .long v4), (6, .int v6)]) rfl rfl rfl rfl rfl (db_f127_ok) fun q7 s8 => ?_
    refine db_Rgo (pc' := 6) (lv' := [(6, .int (v6 + (1 : Int32))), (4, .long (v4 + ((Int32.toInt64 x6) * (Int32.toInt64 q7)))), (0, .ref 282), (1, .int v1), (2, .int v2), (3, .int v3)]) (st' := []) 6 rfl ?_
    refine db_Rn (lv1 := [(0, .ref 282), (1, .int v1), (2, .int v2), (3, .int v3), (4, .long (v4 + ((Int32.toInt64 x6) * (Int32.toInt64 q7)))), (6, .int (v6 + (1 : Int32)))]) rfl rfl rfl ?_
    exact ih _ _ _ _ _ _
/-- DreamBook$Odds.tellMean(III)V -/
noncomputable def db_f188 (s : db_S) (v1 : Int32) (v2 : Int32) (v3 : Int32) : Option db_S :=
  (db_f188_b6 db_FU s v1 v2 v3 (0 : Int64) (0 : Int32))
set_option maxRecDepth 100000 in
theorem db_f188_ok {X : db_X} {d : Nat} {s : db_S} {v1 : Int32} {v2 : Int32} {v3 : Int32} : db_Rf X (d + 3) dbm_188 0 (lv_args 0 [.ref 282, .int v1, .int v2, .int v3]) [] s db_zV (db_f188 s v1 v2 v3) := by
  show db_Rf _ _ _ 0 [(0, .ref 282), (1, .int v1), (2, .int v2), (3, .int v3)] [] _ _ _
  unfold db_f188
  refine db_Rgo (pc' := 6) (lv' := [(6, .int (0 : Int32)), (4, .long (0 : Int64)), (0, .ref 282), (1, .int v1), (2, .int v2), (3, .int v3)]) (st' := []) 4 rfl ?_
  refine db_Rn (lv1 := [(0, .ref 282), (1, .int v1), (2, .int v2), (3, .int v3), (4, .long (0 : Int64)), (6, .int (0 : Int32))]) rfl rfl rfl ?_
  exact db_f188_b6_ok db_FU _ _ _ _ _ _
/-- DreamBook.week(III)Z -/
noncomputable def db_f186 (s : db_S) (v1 : Int32) (v2 : Int32) (v3 : Int32) : Option (Bool × db_S) :=
  ((db_f187 s v1 (0 : Int32) v2 v3).bind fun q1 => (cond (db_cnd .eq q1 0) ((db_f188 s v1 v2 v3).bind fun s4 => (db_bd (db_f31 s4) fun q5 s6 => (some (q5, s6)))) (db_bd (db_f28 s q1) fun q7 s8 => (some (q7, s8)))))
set_option maxRecDepth 100000 in
theorem db_f186_ok {X : db_X} {d : Nat} {s : db_S} {v1 : Int32} {v2 : Int32} {v3 : Int32} : db_Rf X (d + 4) dbm_186 0 (lv_args 0 [.ref 4, .int v1, .int v2, .int v3]) [] s db_zB (db_f186 s v1 v2 v3) := by
  show db_Rf _ _ _ 0 [(0, .ref 4), (1, .int v1), (2, .int v2), (3, .int v3)] [] _ _ _
  unfold db_f186
  refine db_Rgo (pc' := 5) (lv' := [(0, .ref 4), (1, .int v1), (2, .int v2), (3, .int v3)]) (st' := [.int v3, .int v2, .int (0 : Int32), .int v1, .ref 4]) 5 rfl ?_
  refine db_RcyI (mr' := dbm_187) (as := [.ref 4, .int v1, .int (0 : Int32), .int v2, .int v3]) (rest := []) (pc' := 8) (lv1 := [(0, .ref 4), (1, .int v1), (2, .int v2), (3, .int v3)]) rfl rfl rfl rfl rfl (db_f187_ok) fun q1 => ?_
  refine db_Rgo (pc' := 12) (lv' := [(4, .int q1), (0, .ref 4), (1, .int v1), (2, .int v2), (3, .int v3)]) (st' := [.int q1]) 2 rfl ?_
  refine db_Rif (pc' := 15) (tg := 22) (lv1 := [(4, .int q1), (0, .ref 4), (1, .int v1), (2, .int v2), (3, .int v3)]) rfl rfl rfl rfl ?_ ?_
  · refine db_Rgo (pc' := 29) (lv' := [(0, .ref 4), (1, .int v1), (2, .int v2), (3, .int v3)]) (st' := [.int v3, .int v2, .int v1, .ref 282]) 5 rfl ?_
    refine db_RcV (mr' := dbm_188) (as := [.ref 282, .int v1, .int v2, .int v3]) (rest := []) (pc' := 32) (lv1 := [(0, .ref 4), (1, .int v1), (2, .int v2), (3, .int v3)]) rfl rfl rfl rfl rfl (db_f188_ok) fun s4 => ?_
    refine db_Rgo (pc' := 33) (lv' := [(0, .ref 4), (1, .int v1), (2, .int v2), (3, .int v3)]) (st' := [.ref 4]) 1 rfl ?_
    refine db_RcdB (mr' := dbm_31) (as := [.ref 4]) (rest := []) (pc' := 36) (lv1 := [(0, .ref 4), (1, .int v1), (2, .int v2), (3, .int v3)]) rfl rfl rfl rfl rfl (db_f31_ok) fun q5 s6 => ?_
    exact db_RretB (lv1 := [(0, .ref 4), (1, .int v1), (2, .int v2), (3, .int v3)]) rfl rfl rfl rfl
  refine db_Rgo (pc' := 18) (lv' := [(4, .int q1), (0, .ref 4), (1, .int v1), (2, .int v2), (3, .int v3)]) (st' := [.int q1, .ref 4]) 2 rfl ?_
  refine db_RcdB (mr' := dbm_28) (as := [.ref 4, .int q1]) (rest := []) (pc' := 21) (lv1 := [(4, .int q1), (0, .ref 4), (1, .int v1), (2, .int v2), (3, .int v3)]) rfl rfl rfl rfl rfl (db_f28_ok) fun q7 s8 => ?_
  exact db_RretB (lv1 := [(4, .int q1), (0, .ref 4), (1, .int v1), (2, .int v2), (3, .int v3)]) rfl rfl rfl rfl
