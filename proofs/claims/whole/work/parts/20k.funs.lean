noncomputable def db_f197_b47 : Nat → db_S → Int32 → Int32 → Option (Int32 × db_S)
  | 0, _, _, _ => none
  | n + 1, s, v2, v3 =>
    ((db_rI s 21 (5 : Int32)).bind fun x1 => (cond (db_cnd .ge (v3 + (1 : Int32)) x1) (some (v3, s)) ((db_rI s 61 v3).bind fun x2 => (cond (db_cnd .lt v2 x2) (some (v3, s)) ((db_rI s 61 v3).bind fun x3 => (db_f197_b47 n s (v2 - x3) (v3 + (1 : Int32))))))))
theorem db_f197_b47_ok {X : db_X} {d : Nat}  (n : Nat) : ∀ (s : db_S) (v2 : Int32) (v3 : Int32), db_Rf X (d + 1) dbm_197 47 [(0, .ref 284), (2, .int v2), (3, .int v3)] [] s db_zI (db_f197_b47 n s v2 v3) := by
  induction n with
  | zero => intros; exact db_Rnone
  | succ n ih =>
    intro s v2 v3
    unfold db_f197_b47
    refine db_Rgo (pc' := 58) (lv' := [(0, .ref 284), (2, .int v2), (3, .int v3)]) (st' := [.int (5 : Int32), .ref 21, .int (v3 + (1 : Int32))]) 7 rfl ?_
    refine db_RldI (pc' := 59) (lv1 := [(0, .ref 284), (2, .int v2), (3, .int v3)]) rfl rfl rfl fun x1 => ?_
    refine db_Ric (pc' := 62) (tg := 93) (lv1 := [(0, .ref 284), (2, .int v2), (3, .int v3)]) rfl rfl rfl rfl ?_ ?_
    · refine db_Rgo (pc' := 94) (lv' := [(3, .int v3)]) (st' := [.int v3]) 1 rfl ?_
      exact db_Rret (lv1 := [(3, .int v3)]) rfl rfl rfl rfl
    refine db_Rgo (pc' := 71) (lv' := [(0, .ref 284), (2, .int v2), (3, .int v3)]) (st' := [.int v3, .ref 61, .int v2]) 5 rfl ?_
    refine db_RldI (pc' := 72) (lv1 := [(0, .ref 284), (2, .int v2), (3, .int v3)]) rfl rfl rfl fun x2 => ?_
    refine db_Ric (pc' := 75) (tg := 93) (lv1 := [(0, .ref 284), (2, .int v2), (3, .int v3)]) rfl rfl rfl rfl ?_ ?_
    · refine db_Rgo (pc' := 94) (lv' := [(3, .int v3)]) (st' := [.int v3]) 1 rfl ?_
      exact db_Rret (lv1 := [(3, .int v3)]) rfl rfl rfl rfl
    refine db_Rgo (pc' := 84) (lv' := [(0, .ref 284), (2, .int v2), (3, .int v3)]) (st' := [.int v3, .ref 61, .int v2]) 5 rfl ?_
    refine db_RldI (pc' := 85) (lv1 := [(0, .ref 284), (2, .int v2), (3, .int v3)]) rfl rfl rfl fun x3 => ?_
    refine db_Rgo (pc' := 47) (lv' := [(3, .int (v3 + (1 : Int32))), (2, .int (v2 - x3)), (0, .ref 284)]) (st' := []) 4 rfl ?_
    refine db_Rn (lv1 := [(0, .ref 284), (2, .int (v2 - x3)), (3, .int (v3 + (1 : Int32)))]) rfl rfl rfl ?_
    exact ih _ _ _
noncomputable def db_f197_b44 (s : db_S) (t0 : Int32) : Option (Int32 × db_S) :=
  (db_f197_b47 db_FU s t0 (0 : Int32))
theorem db_f197_b44_ok {X : db_X} {d : Nat}  {s : db_S} {t0 : Int32} : db_Rf X (d + 1) dbm_197 44 [(0, .ref 284)] [.int t0] s db_zI (db_f197_b44 s t0) := by
  unfold db_f197_b44
  refine db_Rgo (pc' := 47) (lv' := [(3, .int (0 : Int32)), (2, .int t0), (0, .ref 284)]) (st' := []) 3 rfl ?_
  refine db_Rn (lv1 := [(0, .ref 284), (2, .int t0), (3, .int (0 : Int32))]) rfl rfl rfl ?_
  exact db_f197_b47_ok db_FU _ _ _
/-- DreamBook$Runner.drawDream()I -/
noncomputable def db_f197 (s : db_S) : Option (Int32 × db_S) :=
  ((db_pI s 284 9 ((((s.1 284 9) * (2917 : Int32)) + (10613 : Int32)) - (((s.1 284 9) * (2917 : Int32)) + (10613 : Int32)) / (65536 : Int32) * (65536 : Int32))).bind fun s1 => ((db_f100_20 s1).bind fun q2 => (cond (db_cnd .le q2 0) (db_f197_b44 s1 (0 : Int32)) (if q2 = 0 then none else (db_f197_b44 s1 (((s1.1 284 9) / (8 : Int32)) - ((s1.1 284 9) / (8 : Int32)) / q2 * q2))))))
theorem db_f197_ok {X : db_X} {d : Nat} {s : db_S} : db_Rf X (d + 1) dbm_197 0 (lv_args 0 [.ref 284]) [] s db_zI (db_f197 s ) := by
  show db_Rf _ _ _ 0 [(0, .ref 284)] [] _ _ _
  unfold db_f197
  refine db_Rgo (pc' := 16) (lv' := [(0, .ref 284)]) (st' := [.int ((((s.1 284 9) * (2917 : Int32)) + (10613 : Int32)) - (((s.1 284 9) * (2917 : Int32)) + (10613 : Int32)) / (65536 : Int32) * (65536 : Int32)), .ref 284]) 9 rfl ?_
  refine db_RpuI (pc' := 19) (lv1 := [(0, .ref 284)]) rfl rfl rfl rfl rfl rfl (by decide) rfl rfl fun s1 => ?_
  refine db_Rgo (pc' := 23) (lv' := [(0, .ref 284)]) (st' := [.ref 20]) 2 rfl ?_
  refine db_RcyI (mr' := dbm_100) (as := [.ref 20]) (rest := []) (pc' := 26) (lv1 := [(0, .ref 284)]) rfl rfl rfl rfl rfl (db_f100_20_ok) fun q2 => ?_
  refine db_Rgo (pc' := 28) (lv' := [(1, .int q2), (0, .ref 284)]) (st' := [.int q2]) 2 rfl ?_
  refine db_Rif (pc' := 31) (tg := 43) (lv1 := [(1, .int q2), (0, .ref 284)]) rfl rfl rfl rfl ?_ ?_
  · refine db_Rgo (pc' := 44) (lv' := [(0, .ref 284)]) (st' := [.int (0 : Int32)]) 1 rfl ?_
    exact db_f197_b44_ok
  refine db_Rgo (pc' := 39) (lv' := [(1, .int q2), (0, .ref 284)]) (st' := [.int q2, .int ((s1.1 284 9) / (8 : Int32))]) 5 rfl ?_
  refine db_Rrem (pc' := 40) (lv1 := [(1, .int q2), (0, .ref 284)]) rfl rfl rfl ?_
  refine db_Rgo (pc' := 44) (lv' := [(1, .int q2), (0, .ref 284)]) (st' := [.int (((s1.1 284 9) / (8 : Int32)) - ((s1.1 284 9) / (8 : Int32)) / q2 * q2)]) 1 rfl ?_
  refine db_Rn (lv1 := [(0, .ref 284)]) rfl rfl rfl ?_
  exact db_f197_b44_ok
/-- java/lang/Integer.signum(I)I -/
noncomputable def db_f199 (s : db_S) (v0 : Int32) : Option Int32 :=
  (some ((v0 >>> ((31 : Int32) &&& 31)) ||| ((Int32.toUInt32 (-v0) >>> (Int32.toUInt32 (31 : Int32) &&& Int32.toUInt32 31)).toInt32)))
theorem db_f199_ok {X : db_X} {d : Nat} {s : db_S} {v0 : Int32} : db_Rf X (d + 0) dbm_199 0 (lv_args 0 [.int v0]) [] s (db_yI s) (db_f199 s v0) := by
  show db_Rf _ _ _ 0 [(0, .int v0)] [] _ _ _
  unfold db_f199
  refine db_Rgo (pc' := 10) (lv' := [(0, .int v0)]) (st' := [.int ((v0 >>> ((31 : Int32) &&& 31)) ||| ((Int32.toUInt32 (-v0) >>> (Int32.toUInt32 (31 : Int32) &&& Int32.toUInt32 31)).toInt32))]) 8 rfl ?_
  exact db_Rret (lv1 := [(0, .int v0)]) rfl rfl rfl rfl
/-- DreamBook$Runner.holds([I)Z -/
noncomputable def db_f198 (s : db_S) (a1 : Nat) : Option Bool :=
  ((db_rI s a1 (2 : Int32)).bind fun x1 => (cond (db_cnd .ne x1 (-1 : Int32)) ((db_rI s a1 (2 : Int32)).bind fun x2 => ((db_rI s 82 x2).bind fun x3 => ((db_rI s a1 (4 : Int32)).bind fun x4 => ((db_f199 s (x3 - x4)).bind fun q5 => ((db_rI s a1 (3 : Int32)).bind fun x7 => (cond (db_cnd .ne q5 x7) (some false) (some true))))))) ((db_rI s a1 (1 : Int32)).bind fun x8 => ((db_f104 s x8).bind fun q9 => (cond (db_cnd .ne q9 0) (some false) (some true))))))
theorem db_f198_ok {X : db_X} {d : Nat} {s : db_S} {a1 : Nat} : db_Rf X (d + 1) dbm_198 0 (lv_args 0 [.ref 284, .ref (a1 + 4)]) [] s (db_yB s) (db_f198 s (a1 + 4)) := by
  show db_Rf _ _ _ 0 [(0, .ref 284), (1, .ref (a1 + 4))] [] _ _ _
  unfold db_f198
  refine db_Rgo (pc' := 2) (lv' := [(0, .ref 284), (1, .ref (a1 + 4))]) (st' := [.int (2 : Int32), .ref (a1 + 4)]) 2 rfl ?_
  refine db_RldI (pc' := 3) (lv1 := [(0, .ref 284), (1, .ref (a1 + 4))]) rfl rfl rfl fun x1 => ?_
  refine db_Rgo (pc' := 4) (lv' := [(0, .ref 284), (1, .ref (a1 + 4))]) (st' := [.int (-1 : Int32), .int x1]) 1 rfl ?_
  refine db_Ric (pc' := 7) (tg := 26) (lv1 := [(0, .ref 284), (1, .ref (a1 + 4))]) rfl rfl rfl rfl ?_ ?_
  · refine db_Rgo (pc' := 35) (lv' := [(0, .ref 284), (1, .ref (a1 + 4))]) (st' := [.int (2 : Int32), .ref (a1 + 4), .ref 82]) 5 rfl ?_
    refine db_RldI (pc' := 36) (lv1 := [(0, .ref 284), (1, .ref (a1 + 4))]) rfl rfl rfl fun x2 => ?_
    refine db_RldI (pc' := 37) (lv1 := [(0, .ref 284), (1, .ref (a1 + 4))]) rfl rfl rfl fun x3 => ?_
    refine db_Rgo (pc' := 39) (lv' := [(0, .ref 284), (1, .ref (a1 + 4))]) (st' := [.int (4 : Int32), .ref (a1 + 4), .int x3]) 2 rfl ?_
    refine db_RldI (pc' := 40) (lv1 := [(0, .ref 284), (1, .ref (a1 + 4))]) rfl rfl rfl fun x4 => ?_
    refine db_Rgo (pc' := 41) (lv' := [(0, .ref 284), (1, .ref (a1 + 4))]) (st' := [.int (x3 - x4)]) 1 rfl ?_
    refine db_RcyI (mr' := dbm_199) (as := [.int (x3 - x4)]) (rest := []) (pc' := 44) (lv1 := [(0, .ref 284), (1, .ref (a1 + 4))]) rfl rfl rfl rfl rfl (db_f199_ok) fun q5 => ?_
    refine db_Rgo (pc' := 46) (lv' := [(0, .ref 284), (1, .ref (a1 + 4))]) (st' := [.int (3 : Int32), .ref (a1 + 4), .int q5]) 2 rfl ?_
    refine db_RldI (pc' := 47) (lv1 := [(0, .ref 284), (1, .ref (a1 + 4))]) rfl rfl rfl fun x7 => ?_
    refine db_Ric (pc' := 50) (tg := 54) (lv1 := [(0, .ref 284), (1, .ref (a1 + 4))]) rfl rfl rfl rfl ?_ ?_
    · refine db_Rgo (pc' := 55) (lv' := []) (st' := [.int (0 : Int32)]) 1 rfl ?_
      exact db_Rret (lv1 := []) rfl rfl rfl rfl
    refine db_Rgo (pc' := 55) (lv' := [(0, .ref 284), (1, .ref (a1 + 4))]) (st' := [.int (1 : Int32)]) 2 rfl ?_
    exact db_Rret (lv1 := []) rfl rfl rfl rfl
  refine db_Rgo (pc' := 13) (lv' := [(0, .ref 284), (1, .ref (a1 + 4))]) (st' := [.int (1 : Int32), .ref (a1 + 4), .ref 271]) 4 rfl ?_
  refine db_RldI (pc' := 14) (lv1 := [(0, .ref 284), (1, .ref (a1 + 4))]) rfl rfl rfl fun x8 => ?_
  refine db_RcyI (mr' := dbm_104) (as := [.ref 271, .int x8]) (rest := []) (pc' := 17) (lv1 := [(0, .ref 284), (1, .ref (a1 + 4))]) rfl rfl rfl rfl rfl (db_f104_ok) fun q9 => ?_
  refine db_Rif (pc' := 20) (tg := 24) (lv1 := [(0, .ref 284), (1, .ref (a1 + 4))]) rfl rfl rfl rfl ?_ ?_
  · refine db_Rgo (pc' := 25) (lv' := []) (st' := [.int (0 : Int32)]) 1 rfl ?_
    exact db_Rret (lv1 := []) rfl rfl rfl rfl
  refine db_Rgo (pc' := 25) (lv' := [(0, .ref 284), (1, .ref (a1 + 4))]) (st' := [.int (1 : Int32)]) 2 rfl ?_
  exact db_Rret (lv1 := []) rfl rfl rfl rfl
noncomputable def db_f196_b212 (s : db_S) (v1 : Int32) (t1 : Int32) (t2 : Int32) (t3 : Int32) : Option (Int32 × db_S) :=
  ((db_wI s 286 t1 (t2 + t3)).bind fun s1 => (some ((v1 + (1 : Int32)), s1)))
theorem db_f196_b212_ok {X : db_X} {d : Nat}  {s : db_S} {v1 : Int32} {t1 : Int32} {t2 : Int32} {t3 : Int32} : db_Rf X (d + 4) dbm_196 212 [(1, .int v1)] [.int t3, .int t2, .int t1, .ref 286] s db_zI (db_f196_b212 s v1 t1 t2 t3) := by
  unfold db_f196_b212
  refine db_Rgo (pc' := 213) (lv' := [(1, .int v1)]) (st' := [.int (t2 + t3), .int t1, .ref 286]) 1 rfl ?_
  refine db_RstI (pc' := 214) (lv1 := [(1, .int v1)]) rfl rfl rfl fun s1 => ?_
  refine db_Rgo (pc' := 217) (lv' := [(1, .int v1)]) (st' := [.int (v1 + (1 : Int32))]) 3 rfl ?_
  exact db_Rret (lv1 := [(1, .int v1)]) rfl rfl rfl rfl
noncomputable def db_f196_b196 (s : db_S) (v1 : Int32) (v3 : Int32) : Option (Int32 × db_S) :=
  ((db_rI s 286 (0 : Int32)).bind fun x1 => (cond (db_cnd .eq v3 0) (db_f196_b212 s v1 (0 : Int32) x1 (1 : Int32)) (db_f196_b212 s v1 (0 : Int32) x1 (0 : Int32))))
theorem db_f196_b196_ok {X : db_X} {d : Nat}  {s : db_S} {v1 : Int32} {v3 : Int32} : db_Rf X (d + 4) dbm_196 196 [(0, .ref 284), (1, .int v1), (3, .int v3)] [] s db_zI (db_f196_b196 s v1 v3) := by
  unfold db_f196_b196
  refine db_Rgo (pc' := 202) (lv' := [(0, .ref 284), (1, .int v1), (3, .int v3)]) (st' := [.int (0 : Int32), .ref 286, .int (0 : Int32), .ref 286]) 4 rfl ?_
  refine db_RldI (pc' := 203) (lv1 := [(0, .ref 284), (1, .int v1), (3, .int v3)]) rfl rfl rfl fun x1 => ?_
  refine db_Rgo (pc' := 204) (lv' := [(0, .ref 284), (1, .int v1), (3, .int v3)]) (st' := [.int v3, .int x1, .int (0 : Int32), .ref 286]) 1 rfl ?_
  refine db_Rif (pc' := 207) (tg := 211) (lv1 := [(0, .ref 284), (1, .int v1), (3, .int v3)]) rfl rfl rfl rfl ?_ ?_
  · refine db_Rgo (pc' := 212) (lv' := [(1, .int v1)]) (st' := [.int (1 : Int32), .int x1, .int (0 : Int32), .ref 286]) 1 rfl ?_
    exact db_f196_b212_ok
  refine db_Rgo (pc' := 212) (lv' := [(0, .ref 284), (1, .int v1), (3, .int v3)]) (st' := [.int (0 : Int32), .int x1, .int (0 : Int32), .ref 286]) 2 rfl ?_
  refine db_Rn (lv1 := [(1, .int v1)]) rfl rfl rfl ?_
  exact db_f196_b212_ok
noncomputable def db_f196_b103 (s : db_S) (v1 : Int32) (t0 : Int32) : Option (Int32 × db_S) :=
  (db_f196_b196 s v1 t0)
theorem db_f196_b103_ok {X : db_X} {d : Nat}  {s : db_S} {v1 : Int32} {t0 : Int32} : db_Rf X (d + 4) dbm_196 103 [(0, .ref 284), (1, .int v1)] [.int t0] s db_zI (db_f196_b103 s v1 t0) := by
  unfold db_f196_b103
  refine db_Rgo (pc' := 196) (lv' := [(3, .int t0), (0, .ref 284), (1, .int v1)]) (st' := []) 2 rfl ?_
  refine db_Rn (lv1 := [(0, .ref 284), (1, .int v1), (3, .int t0)]) rfl rfl rfl ?_
  exact db_f196_b196_ok
noncomputable def db_f196_b102 (s : db_S) (v1 : Int32) : Option (Int32 × db_S) :=
  (db_f196_b103 s v1 (0 : Int32))
theorem db_f196_b102_ok {X : db_X} {d : Nat}  {s : db_S} {v1 : Int32} : db_Rf X (d + 4) dbm_196 102 [(0, .ref 284), (1, .int v1)] [] s db_zI (db_f196_b102 s v1) := by
  unfold db_f196_b102
  refine db_Rgo (pc' := 103) (lv' := [(0, .ref 284), (1, .int v1)]) (st' := [.int (0 : Int32)]) 1 rfl ?_
  exact db_f196_b103_ok
noncomputable def db_f196_b140 (s : db_S) (v1 : Int32) (a2 : Nat) (t0 : Int32) : Option (Int32 × db_S) :=
  ((db_rI s a2 (1 : Int32)).bind fun x1 => ((db_wI s 81 x1 (0 : Int32)).bind fun s2 => (db_f196_b196 s2 v1 t0)))
theorem db_f196_b140_ok {X : db_X} {d : Nat}  {s : db_S} {v1 : Int32} {a2 : Nat} {t0 : Int32} : db_Rf X (d + 4) dbm_196 140 [(0, .ref 284), (1, .int v1), (2, .ref (a2 + 4))] [.int t0] s db_zI (db_f196_b140 s v1 (a2 + 4) t0) := by
  unfold db_f196_b140
  refine db_Rgo (pc' := 150) (lv' := [(3, .int t0), (0, .ref 284), (1, .int v1), (2, .ref (a2 + 4))]) (st' := [.int (1 : Int32), .ref (a2 + 4), .ref 81]) 6 rfl ?_
  refine db_RldI (pc' := 151) (lv1 := [(3, .int t0), (0, .ref 284), (1, .int v1), (2, .ref (a2 + 4))]) rfl rfl rfl fun x1 => ?_
  refine db_Rgo (pc' := 152) (lv' := [(3, .int t0), (0, .ref 284), (1, .int v1), (2, .ref (a2 + 4))]) (st' := [.int (0 : Int32), .int x1, .ref 81]) 1 rfl ?_
  refine db_RstI (pc' := 153) (lv1 := [(3, .int t0), (0, .ref 284), (1, .int v1), (2, .ref (a2 + 4))]) rfl rfl rfl fun s2 => ?_
  refine db_Rgo (pc' := 196) (lv' := [(3, .int t0), (0, .ref 284), (1, .int v1), (2, .ref (a2 + 4))]) (st' := []) 1 rfl ?_
  refine db_Rn (lv1 := [(0, .ref 284), (1, .int v1), (3, .int t0)]) rfl rfl rfl ?_
  exact db_f196_b196_ok
/-- DreamBook$Runner.doStep(I)I -/
noncomputable def db_f196 (s : db_S) (v1 : Int32) : Option (Int32 × db_S) :=
  ((db_rR 84 v1).bind fun a1 => ((db_rI s a1 (0 : Int32)).bind fun x2 => (if x2 = (18 : Int32) then ((db_rI s a1 (1 : Int32)).bind fun x3 => ((db_rI s a1 (2 : Int32)).bind fun x4 => ((db_rI s a1 (3 : Int32)).bind fun x5 => (db_bd (db_f137 s x3 x4 x5) fun q6 s7 => (db_f196_b196 s7 v1 (db_i q6)))))) else (if x2 = (19 : Int32) then ((db_rI s 21 (5 : Int32)).bind fun x8 => (cond (db_cnd .le x8 0) (db_f196_b102 s v1) (db_bd (db_f197 s) fun q9 s10 => ((db_rI s10 a1 (2 : Int32)).bind fun x11 => ((db_rI s10 a1 (3 : Int32)).bind fun x12 => (db_bd (db_f137 s10 q9 x11 x12) fun q13 s14 => (cond q13 (db_f196_b103 s14 v1 (1 : Int32)) (db_f196_b102 s14 v1)))))))) else (if x2 = (20 : Int32) then ((db_rI s a1 (1 : Int32)).bind fun x15 => (db_bd (db_f121_80 s x15) fun q16 s17 => (db_f196_b196 s17 v1 (db_i q16)))) else (if x2 = (21 : Int32) then ((db_rI s a1 (1 : Int32)).bind fun x18 => ((db_rI s 81 x18).bind fun x19 => (cond (db_cnd .le x19 0) (db_f196_b140 s v1 a1 (0 : Int32)) (db_f196_b140 s v1 a1 (1 : Int32))))) else (if x2 = (22 : Int32) then ((db_f198 s a1).bind fun q20 => (cond q20 (some ((v1 + (1 : Int32)), s)) ((db_rI s a1 (5 : Int32)).bind fun x22 => (some ((x22 + (1 : Int32)), s))))) else (if x2 = (23 : Int32) then ((db_rI s a1 (4 : Int32)).bind fun x23 => ((db_wI s 290 v1 x23).bind fun s24 => (db_f196_b196 s24 v1 (1 : Int32)))) else (some ((s.1 83 2), s))))))))))
theorem db_f196_ok {X : db_X} {d : Nat} {s : db_S} {v1 : Int32} : db_Rf X (d + 4) dbm_196 0 (lv_args 0 [.ref 284, .int v1]) [] s db_zI (db_f196 s v1) := by
  show db_Rf _ _ _ 0 [(0, .ref 284), (1, .int v1)] [] _ _ _
  unfold db_f196
  refine db_Rgo (pc' := 8) (lv' := [(0, .ref 284), (1, .int v1)]) (st' := [.int v1, .ref 84]) 4 rfl ?_
  refine db_RldR (pc' := 9) (lv1 := [(0, .ref 284), (1, .int v1)]) rfl rfl rfl fun a1 => ?_
  refine db_Rgo (pc' := 14) (lv' := [(3, .int (1 : Int32)), (2, .ref (a1 + 4)), (0, .ref 284), (1, .int v1)]) (st' := [.int (0 : Int32), .ref (a1 + 4)]) 5 rfl ?_
  refine db_RldI (pc' := 15) (lv1 := [(3, .int (1 : Int32)), (2, .ref (a1 + 4)), (0, .ref 284), (1, .int v1)]) rfl rfl rfl fun x2 => ?_
  refine db_Rsw (v := (18 : Int32)) (tg := 52) (lv1 := [(3, .int (1 : Int32)), (2, .ref (a1 + 4)), (0, .ref 284), (1, .int v1)]) rfl rfl rfl rfl rfl ?_ (fun h25 => ?_)
  · refine db_Rgo (pc' := 55) (lv' := [(0, .ref 284), (1, .int v1), (2, .ref (a1 + 4))]) (st' := [.int (1 : Int32), .ref (a1 + 4), .ref 284]) 3 rfl ?_
    refine db_RldI (pc' := 56) (lv1 := [(0, .ref 284), (1, .int v1), (2, .ref (a1 + 4))]) rfl rfl rfl fun x3 => ?_
    refine db_Rgo (pc' := 58) (lv' := [(0, .ref 284), (1, .int v1), (2, .ref (a1 + 4))]) (st' := [.int (2 : Int32), .ref (a1 + 4), .int x3, .ref 284]) 2 rfl ?_
    refine db_RldI (pc' := 59) (lv1 := [(0, .ref 284), (1, .int v1), (2, .ref (a1 + 4))]) rfl rfl rfl fun x4 => ?_
    refine db_Rgo (pc' := 61) (lv' := [(0, .ref 284), (1, .int v1), (2, .ref (a1 + 4))]) (st' := [.int (3 : Int32), .ref (a1 + 4), .int x4, .int x3, .ref 284]) 2 rfl ?_
    refine db_RldI (pc' := 62) (lv1 := [(0, .ref 284), (1, .int v1), (2, .ref (a1 + 4))]) rfl rfl rfl fun x5 => ?_
    refine db_RcdB (mr' := dbm_137) (as := [.ref 284, .int x3, .int x4, .int x5]) (rest := []) (pc' := 65) (lv1 := [(0, .ref 284), (1, .int v1), (2, .ref (a1 + 4))]) rfl rfl rfl rfl rfl (db_f137_ok) fun q6 s7 => ?_
    refine db_Rgo (pc' := 196) (lv' := [(3, .int (db_i q6)), (0, .ref 284), (1, .int v1), (2, .ref (a1 + 4))]) (st' := []) 2 rfl ?_
    refine db_Rn (lv1 := [(0, .ref 284), (1, .int v1), (3, .int (db_i q6))]) rfl rfl rfl ?_
    exact db_f196_b196_ok
  refine db_Rsw (v := (19 : Int32)) (tg := 69) (lv1 := [(3, .int (1 : Int32)), (2, .ref (a1 + 4)), (0, .ref 284), (1, .int v1)]) rfl rfl rfl rfl rfl ?_ (fun h26 => ?_)
  · refine db_Rgo (pc' := 77) (lv' := [(0, .ref 284), (1, .int v1), (2, .ref (a1 + 4))]) (st' := [.int (5 : Int32), .ref 21]) 4 rfl ?_
    refine db_RldI (pc' := 78) (lv1 := [(0, .ref 284), (1, .int v1), (2, .ref (a1 + 4))]) rfl rfl rfl fun x8 => ?_
    refine db_Rif (pc' := 81) (tg := 102) (lv1 := [(0, .ref 284), (1, .int v1), (2, .ref (a1 + 4))]) rfl rfl rfl rfl ?_ ?_
    · refine db_Rn (lv1 := [(0, .ref 284), (1, .int v1)]) rfl rfl rfl ?_
      exact db_f196_b102_ok
    refine db_Rgo (pc' := 83) (lv' := [(0, .ref 284), (1, .int v1), (2, .ref (a1 + 4))]) (st' := [.ref 284, .ref 284]) 2 rfl ?_
    refine db_RcdI (mr' := dbm_197) (as := [.ref 284]) (rest := [.ref 284]) (pc' := 86) (lv1 := [(0, .ref 284), (1, .int v1), (2, .ref (a1 + 4))]) rfl rfl rfl rfl rfl (db_f197_ok) fun q9 s10 => ?_
    refine db_Rgo (pc' := 88) (lv' := [(0, .ref 284), (1, .int v1), (2, .ref (a1 + 4))]) (st' := [.int (2 : Int32), .ref (a1 + 4), .int q9, .ref 284]) 2 rfl ?_
    refine db_RldI (pc' := 89) (lv1 := [(0, .ref 284), (1, .int v1), (2, .ref (a1 + 4))]) rfl rfl rfl fun x11 => ?_
    refine db_Rgo (pc' := 91) (lv' := [(0, .ref 284), (1, .int v1), (2, .ref (a1 + 4))]) (st' := [.int (3 : Int32), .ref (a1 + 4), .int x11, .int q9, .ref 284]) 2 rfl ?_
    refine db_RldI (pc' := 92) (lv1 := [(0, .ref 284), (1, .int v1), (2, .ref (a1 + 4))]) rfl rfl rfl fun x12 => ?_
    refine db_RcdB (mr' := dbm_137) (as := [.ref 284, .int q9, .int x11, .int x12]) (rest := []) (pc' := 95) (lv1 := [(0, .ref 284), (1, .int v1), (2, .ref (a1 + 4))]) rfl rfl rfl rfl rfl (db_f137_ok) fun q13 s14 => ?_
    refine db_RifBe (pc' := 98) (tg := 102) (lv1 := [(0, .ref 284), (1, .int v1), (2, .ref (a1 + 4))]) rfl rfl rfl rfl ?_ ?_
    · refine db_Rn (lv1 := [(0, .ref 284), (1, .int v1)]) rfl rfl rfl ?_
      exact db_f196_b102_ok
    refine db_Rgo (pc' := 103) (lv' := [(0, .ref 284), (1, .int v1), (2, .ref (a1 + 4))]) (st' := [.int (1 : Int32)]) 2 rfl ?_
    refine db_Rn (lv1 := [(0, .ref 284), (1, .int v1)]) rfl rfl rfl ?_
    exact db_f196_b103_ok
  refine db_Rsw (v := (20 : Int32)) (tg := 107) (lv1 := [(3, .int (1 : Int32)), (2, .ref (a1 + 4)), (0, .ref 284), (1, .int v1)]) rfl rfl rfl rfl rfl ?_ (fun h27 => ?_)
  · refine db_Rgo (pc' := 113) (lv' := [(0, .ref 284), (1, .int v1), (2, .ref (a1 + 4))]) (st' := [.int (1 : Int32), .ref (a1 + 4), .ref 80]) 4 rfl ?_
    refine db_RldI (pc' := 114) (lv1 := [(0, .ref 284), (1, .int v1), (2, .ref (a1 + 4))]) rfl rfl rfl fun x15 => ?_
    refine db_RcdB (mr' := dbm_121) (as := [.ref 80, .int x15]) (rest := []) (pc' := 117) (lv1 := [(0, .ref 284), (1, .int v1), (2, .ref (a1 + 4))]) rfl rfl rfl rfl rfl (db_f121_80_ok) fun q16 s17 => ?_
    refine db_Rgo (pc' := 196) (lv' := [(3, .int (db_i q16)), (0, .ref 284), (1, .int v1), (2, .ref (a1 + 4))]) (st' := []) 2 rfl ?_
    refine db_Rn (lv1 := [(0, .ref 284), (1, .int v1), (3, .int (db_i q16))]) rfl rfl rfl ?_
    exact db_f196_b196_ok
  refine db_Rsw (v := (21 : Int32)) (tg := 121) (lv1 := [(3, .int (1 : Int32)), (2, .ref (a1 + 4)), (0, .ref 284), (1, .int v1)]) rfl rfl rfl rfl rfl ?_ (fun h28 => ?_)
  · refine db_Rgo (pc' := 130) (lv' := [(0, .ref 284), (1, .int v1), (2, .ref (a1 + 4))]) (st' := [.int (1 : Int32), .ref (a1 + 4), .ref 81]) 5 rfl ?_
    refine db_RldI (pc' := 131) (lv1 := [(0, .ref 284), (1, .int v1), (2, .ref (a1 + 4))]) rfl rfl rfl fun x18 => ?_
    refine db_RldI (pc' := 132) (lv1 := [(0, .ref 284), (1, .int v1), (2, .ref (a1 + 4))]) rfl rfl rfl fun x19 => ?_
    refine db_Rif (pc' := 135) (tg := 139) (lv1 := [(0, .ref 284), (1, .int v1), (2, .ref (a1 + 4))]) rfl rfl rfl rfl ?_ ?_
    · refine db_Rgo (pc' := 140) (lv' := [(0, .ref 284), (1, .int v1), (2, .ref (a1 + 4))]) (st' := [.int (0 : Int32)]) 1 rfl ?_
      exact db_f196_b140_ok
    refine db_Rgo (pc' := 140) (lv' := [(0, .ref 284), (1, .int v1), (2, .ref (a1 + 4))]) (st' := [.int (1 : Int32)]) 2 rfl ?_
    exact db_f196_b140_ok
  refine db_Rsw (v := (22 : Int32)) (tg := 156) (lv1 := [(3, .int (1 : Int32)), (2, .ref (a1 + 4)), (0, .ref 284), (1, .int v1)]) rfl rfl rfl rfl rfl ?_ (fun h29 => ?_)
  · refine db_Rgo (pc' := 158) (lv' := [(0, .ref 284), (1, .int v1), (2, .ref (a1 + 4))]) (st' := [.ref (a1 + 4), .ref 284]) 2 rfl ?_
    refine db_RcyB (mr' := dbm_198) (as := [.ref 284, .ref (a1 + 4)]) (rest := []) (pc' := 161) (lv1 := [(0, .ref 284), (1, .int v1), (2, .ref (a1 + 4))]) rfl rfl rfl rfl rfl (db_f198_ok) fun q20 => ?_
    refine db_RifBe (pc' := 164) (tg := 170) (lv1 := [(0, .ref 284), (1, .int v1), (2, .ref (a1 + 4))]) rfl rfl rfl rfl ?_ ?_
    · refine db_Rgo (pc' := 172) (lv' := [(2, .ref (a1 + 4))]) (st' := [.int (5 : Int32), .ref (a1 + 4)]) 2 rfl ?_
      refine db_RldI (pc' := 173) (lv1 := [(2, .ref (a1 + 4))]) rfl rfl rfl fun x22 => ?_
      refine db_Rgo (pc' := 175) (lv' := [(2, .ref (a1 + 4))]) (st' := [.int (x22 + (1 : Int32))]) 2 rfl ?_
      exact db_Rret (lv1 := []) rfl rfl rfl rfl
    refine db_Rgo (pc' := 175) (lv' := [(0, .ref 284), (1, .int v1), (2, .ref (a1 + 4))]) (st' := [.int (v1 + (1 : Int32))]) 4 rfl ?_
    exact db_Rret (lv1 := []) rfl rfl rfl rfl
  refine db_Rsw (v := (23 : Int32)) (tg := 176) (lv1 := [(3, .int (1 : Int32)), (2, .ref (a1 + 4)), (0, .ref 284), (1, .int v1)]) rfl rfl rfl rfl rfl ?_ (fun h30 => ?_)
  · refine db_Rgo (pc' := 183) (lv' := [(0, .ref 284), (1, .int v1), (2, .ref (a1 + 4)), (3, .int (1 : Int32))]) (st' := [.int (4 : Int32), .ref (a1 + 4), .int v1, .ref 290]) 5 rfl ?_
    refine db_RldI (pc' := 184) (lv1 := [(0, .ref 284), (1, .int v1), (2, .ref (a1 + 4)), (3, .int (1 : Int32))]) rfl rfl rfl fun x23 => ?_
    refine db_RstI (pc' := 185) (lv1 := [(0, .ref 284), (1, .int v1), (2, .ref (a1 + 4)), (3, .int (1 : Int32))]) rfl rfl rfl fun s24 => ?_
    refine db_Rgo (pc' := 196) (lv' := [(0, .ref 284), (1, .int v1), (2, .ref (a1 + 4)), (3, .int (1 : Int32))]) (st' := []) 1 rfl ?_
    refine db_Rn (lv1 := [(0, .ref 284), (1, .int v1), (3, .int (1 : Int32))]) rfl rfl rfl ?_
    exact db_f196_b196_ok
  refine db_Rsd (tg := 188) (lv1 := [(3, .int (1 : Int32)), (2, .ref (a1 + 4)), (0, .ref 284), (1, .int v1)]) rfl rfl (db_swd 6 (by decide) (fun k hk => by match k, hk with | 0, _ => exact h25 | 1, _ => exact h26 | 2, _ => exact h27 | 3, _ => exact h28 | 4, _ => exact h29 | 5, _ => exact h30 | k + 6, hk => exact absurd hk (by omega))) rfl ?_
  refine db_Rgo (pc' := 195) (lv' := [(0, .ref 284)]) (st' := [.int (s.1 83 2)]) 3 rfl ?_
  exact db_Rret (lv1 := [(0, .ref 284)]) rfl rfl rfl rfl
/-- DreamBook$Runner.leave(I)I -/
noncomputable def db_f195 (s : db_S) (v1 : Int32) : Option (Int32 × db_S) :=
  ((db_rR 84 v1).bind fun a1 => ((db_rI s a1 (5 : Int32)).bind fun x2 => ((db_rR 84 x2).bind fun a3 => ((db_rI s a3 (0 : Int32)).bind fun x4 => (cond (db_cnd .ne x4 (23 : Int32)) (some ((v1 + (1 : Int32)), s)) ((db_rI s 290 x2).bind fun x5 => ((db_wI s 290 x2 (x5 - (1 : Int32))).bind fun s6 => ((db_rI s6 290 x2).bind fun x7 => (cond (db_cnd .le x7 0) (some ((v1 + (1 : Int32)), s6)) (some ((x2 + (1 : Int32)), s6)))))))))))
theorem db_f195_ok {X : db_X} {d : Nat} {s : db_S} {v1 : Int32} : db_Rf X (d + 0) dbm_195 0 (lv_args 0 [.ref 284, .int v1]) [] s db_zI (db_f195 s v1) := by
  show db_Rf _ _ _ 0 [(0, .ref 284), (1, .int v1)] [] _ _ _
  unfold db_f195
  refine db_Rgo (pc' := 8) (lv' := [(0, .ref 284), (1, .int v1)]) (st' := [.int v1, .ref 84]) 4 rfl ?_
  refine db_RldR (pc' := 9) (lv1 := [(0, .ref 284), (1, .int v1)]) rfl rfl rfl fun a1 => ?_
  refine db_Rgo (pc' := 10) (lv' := [(0, .ref 284), (1, .int v1)]) (st' := [.int (5 : Int32), .ref (a1 + 4)]) 1 rfl ?_
  refine db_RldI (pc' := 11) (lv1 := [(0, .ref 284), (1, .int v1)]) rfl rfl rfl fun x2 => ?_
  refine db_Rgo (pc' := 20) (lv' := [(2, .int x2), (0, .ref 284), (1, .int v1)]) (st' := [.int x2, .ref 84]) 5 rfl ?_
  refine db_RldR (pc' := 21) (lv1 := [(2, .int x2), (0, .ref 284), (1, .int v1)]) rfl rfl rfl fun a3 => ?_
  refine db_Rgo (pc' := 22) (lv' := [(2, .int x2), (0, .ref 284), (1, .int v1)]) (st' := [.int (0 : Int32), .ref (a3 + 4)]) 1 rfl ?_
  refine db_RldI (pc' := 23) (lv1 := [(2, .int x2), (0, .ref 284), (1, .int v1)]) rfl rfl rfl fun x4 => ?_
  refine db_Rgo (pc' := 25) (lv' := [(2, .int x2), (0, .ref 284), (1, .int v1)]) (st' := [.int (23 : Int32), .int x4]) 1 rfl ?_
  refine db_Ric (pc' := 28) (tg := 51) (lv1 := [(2, .int x2), (0, .ref 284), (1, .int v1)]) rfl rfl rfl rfl ?_ ?_
  · refine db_Rgo (pc' := 54) (lv' := [(1, .int v1)]) (st' := [.int (v1 + (1 : Int32))]) 3 rfl ?_
    exact db_Rret (lv1 := [(1, .int v1)]) rfl rfl rfl rfl
  refine db_Rgo (pc' := 34) (lv' := [(2, .int x2), (0, .ref 284), (1, .int v1)]) (st' := [.int x2, .ref 290, .int x2, .ref 290]) 4 rfl ?_
  refine db_RldI (pc' := 35) (lv1 := [(2, .int x2), (0, .ref 284), (1, .int v1)]) rfl rfl rfl fun x5 => ?_
  refine db_Rgo (pc' := 37) (lv' := [(2, .int x2), (0, .ref 284), (1, .int v1)]) (st' := [.int (x5 - (1 : Int32)), .int x2, .ref 290]) 2 rfl ?_
  refine db_RstI (pc' := 38) (lv1 := [(2, .int x2), (0, .ref 284), (1, .int v1)]) rfl rfl rfl fun s6 => ?_
  refine db_Rgo (pc' := 43) (lv' := [(2, .int x2), (0, .ref 284), (1, .int v1)]) (st' := [.int x2, .ref 290]) 3 rfl ?_
  refine db_RldI (pc' := 44) (lv1 := [(2, .int x2), (0, .ref 284), (1, .int v1)]) rfl rfl rfl fun x7 => ?_
  refine db_Rif (pc' := 47) (tg := 51) (lv1 := [(2, .int x2), (0, .ref 284), (1, .int v1)]) rfl rfl rfl rfl ?_ ?_
  · refine db_Rgo (pc' := 54) (lv' := [(1, .int v1)]) (st' := [.int (v1 + (1 : Int32))]) 3 rfl ?_
    exact db_Rret (lv1 := [(1, .int v1)]) rfl rfl rfl rfl
  refine db_Rgo (pc' := 50) (lv' := [(2, .int x2), (0, .ref 284), (1, .int v1)]) (st' := [.int (x2 + (1 : Int32))]) 3 rfl ?_
  exact db_Rret (lv1 := [(2, .int x2), (0, .ref 284), (1, .int v1)]) rfl rfl rfl rfl
noncomputable def db_f194_b88 (h20 : db_S → Int32 → Int32 → Int32 → Option (Int32 × db_S)) (s : db_S) (v2 : Int32) (v3 : Int32) (v4 : Int32) : Option (Int32 × db_S) :=
  (h20 s v2 v3 (v4 + (1 : Int32)))
theorem db_f194_b88_ok {X : db_X} {d : Nat}  {h20 : db_S → Int32 → Int32 → Int32 → Option (Int32 × db_S)} {s : db_S} {v2 : Int32} {v3 : Int32} {v4 : Int32} (zh20 : ∀ (s' : db_S) (v2 : Int32) (v3 : Int32) (v4 : Int32) , db_Rf X (d + 5) dbm_194 20 [(0, .ref 284), (2, .int v2), (3, .int v3), (4, .int v4)] [] s' db_zI (h20 s' v2 v3 v4)) : db_Rf X (d + 5) dbm_194 88 [(0, .ref 284), (2, .int v2), (3, .int v3), (4, .int v4)] [] s db_zI (db_f194_b88 h20 s v2 v3 v4) := by
  unfold db_f194_b88
  refine db_Rgo (pc' := 20) (lv' := [(4, .int (v4 + (1 : Int32))), (0, .ref 284), (2, .int v2), (3, .int v3)]) (st' := []) 2 rfl ?_
  refine db_Rn (lv1 := [(0, .ref 284), (2, .int v2), (3, .int v3), (4, .int (v4 + (1 : Int32)))]) rfl rfl rfl ?_
  exact zh20 _ _ _ _
noncomputable def db_f194_b20 : Nat → db_S → Int32 → Int32 → Int32 → Option (Int32 × db_S)
  | 0, _, _, _, _ => none
  | n + 1, s, v2, v3, v4 =>
    (cond (db_cnd .ge v4 (1000000 : Int32)) (some (v2, s)) (cond (db_cnd .ge v3 (s.1 83 2)) (some (v2, s)) ((db_rR 84 v3).bind fun a1 => ((db_rI s a1 (0 : Int32)).bind fun x2 => (cond (db_cnd .ne x2 (25 : Int32)) (cond (db_cnd .ne v2 (300 : Int32)) (db_bd (db_f196 s v3) fun q3 s4 => (db_f194_b88 (db_f194_b20 n) s4 (v2 + (1 : Int32)) q3 v4)) ((db_wI s 286 (4 : Int32) (1 : Int32)).bind fun s5 => (some (v2, s5)))) (db_bd (db_f195 s v3) fun q6 s7 => (db_f194_b88 (db_f194_b20 n) s7 v2 q6 v4)))))))
theorem db_f194_b20_ok {X : db_X} {d : Nat}  (n : Nat) : ∀ (s : db_S) (v2 : Int32) (v3 : Int32) (v4 : Int32), db_Rf X (d + 5) dbm_194 20 [(0, .ref 284), (2, .int v2), (3, .int v3), (4, .int v4)] [] s db_zI (db_f194_b20 n s v2 v3 v4) := by
  induction n with
  | zero => intros; exact db_Rnone
  | succ n ih =>
    intro s v2 v3 v4
    unfold db_f194_b20
    refine db_Rgo (pc' := 24) (lv' := [(0, .ref 284), (2, .int v2), (3, .int v3), (4, .int v4)]) (st' := [.int (1000000 : Int32), .int v4]) 2 rfl ?_
    refine db_Ric (pc' := 27) (tg := 94) (lv1 := [(0, .ref 284), (2, .int v2), (3, .int v3), (4, .int v4)]) rfl rfl rfl rfl ?_ ?_
    · refine db_Rgo (pc' := 95) (lv' := [(2, .int v2)]) (st' := [.int v2]) 1 rfl ?_
      exact db_Rret (lv1 := [(2, .int v2)]) rfl rfl rfl rfl
    refine db_Rgo (pc' := 35) (lv' := [(0, .ref 284), (2, .int v2), (3, .int v3), (4, .int v4)]) (st' := [.int (s.1 83 2), .int v3]) 4 rfl ?_
    refine db_Ric (pc' := 38) (tg := 94) (lv1 := [(0, .ref 284), (2, .int v2), (3, .int v3), (4, .int v4)]) rfl rfl rfl rfl ?_ ?_
    · refine db_Rgo (pc' := 95) (lv' := [(2, .int v2)]) (st' := [.int v2]) 1 rfl ?_
      exact db_Rret (lv1 := [(2, .int v2)]) rfl rfl rfl rfl
    refine db_Rgo (pc' := 46) (lv' := [(0, .ref 284), (2, .int v2), (3, .int v3), (4, .int v4)]) (st' := [.int v3, .ref 84]) 4 rfl ?_
    refine db_RldR (pc' := 47) (lv1 := [(0, .ref 284), (2, .int v2), (3, .int v3), (4, .int v4)]) rfl rfl rfl fun a1 => ?_
    refine db_Rgo (pc' := 48) (lv' := [(0, .ref 284), (2, .int v2), (3, .int v3), (4, .int v4)]) (st' := [.int (0 : Int32), .ref (a1 + 4)]) 1 rfl ?_
    refine db_RldI (pc' := 49) (lv1 := [(0, .ref 284), (2, .int v2), (3, .int v3), (4, .int v4)]) rfl rfl rfl fun x2 => ?_
    refine db_Rgo (pc' := 51) (lv' := [(0, .ref 284), (2, .int v2), (3, .int v3), (4, .int v4)]) (st' := [.int (25 : Int32), .int x2]) 1 rfl ?_
    refine db_Ric (pc' := 54) (tg := 63) (lv1 := [(0, .ref 284), (2, .int v2), (3, .int v3), (4, .int v4)]) rfl rfl rfl rfl ?_ ?_
    · refine db_Rgo (pc' := 67) (lv' := [(0, .ref 284), (2, .int v2), (3, .int v3), (4, .int v4)]) (st' := [.int (300 : Int32), .int v2]) 2 rfl ?_
      refine db_Ric (pc' := 70) (tg := 79) (lv1 := [(0, .ref 284), (2, .int v2), (3, .int v3), (4, .int v4)]) rfl rfl rfl rfl ?_ ?_
      · refine db_Rgo (pc' := 84) (lv' := [(2, .int (v2 + (1 : Int32))), (0, .ref 284), (3, .int v3), (4, .int v4)]) (st' := [.int v3, .ref 284]) 3 rfl ?_
        refine db_RcdI (mr' := dbm_196) (as := [.ref 284, .int v3]) (rest := []) (pc' := 87) (lv1 := [(2, .int (v2 + (1 : Int32))), (0, .ref 284), (3, .int v3), (4, .int v4)]) rfl rfl rfl rfl rfl (db_f196_ok) fun q3 s4 => ?_
        refine db_Rgo (pc' := 88) (lv' := [(3, .int q3), (2, .int (v2 + (1 : Int32))), (0, .ref 284), (4, .int v4)]) (st' := []) 1 rfl ?_
        refine db_Rn (lv1 := [(0, .ref 284), (2, .int (v2 + (1 : Int32))), (3, .int q3), (4, .int v4)]) rfl rfl rfl ?_
        exact db_f194_b88_ok ih
      refine db_Rgo (pc' := 76) (lv' := [(0, .ref 284), (2, .int v2), (3, .int v3), (4, .int v4)]) (st' := [.int (1 : Int32), .int (4 : Int32), .ref 286]) 4 rfl ?_
      refine db_RstI (pc' := 77) (lv1 := [(0, .ref 284), (2, .int v2), (3, .int v3), (4, .int v4)]) rfl rfl rfl fun s5 => ?_
      refine db_Rgo (pc' := 78) (lv' := [(0, .ref 284), (2, .int v2), (3, .int v3), (4, .int v4)]) (st' := [.int v2]) 1 rfl ?_
      exact db_Rret (lv1 := [(0, .ref 284), (2, .int v2), (3, .int v3), (4, .int v4)]) rfl rfl rfl rfl
    refine db_Rgo (pc' := 56) (lv' := [(0, .ref 284), (2, .int v2), (3, .int v3), (4, .int v4)]) (st' := [.int v3, .ref 284]) 2 rfl ?_
    refine db_RcdI (mr' := dbm_195) (as := [.ref 284, .int v3]) (rest := []) (pc' := 59) (lv1 := [(0, .ref 284), (2, .int v2), (3, .int v3), (4, .int v4)]) rfl rfl rfl rfl rfl (db_f195_ok) fun q6 s7 => ?_
    refine db_Rgo (pc' := 88) (lv' := [(3, .int q6), (0, .ref 284), (2, .int v2), (4, .int v4)]) (st' := []) 2 rfl ?_
    refine db_Rn (lv1 := [(0, .ref 284), (2, .int v2), (3, .int q6), (4, .int v4)]) rfl rfl rfl ?_
    exact db_f194_b88_ok ih
/-- DreamBook$Runner.run(I)I -/
noncomputable def db_f194 (s : db_S) (v1 : Int32) : Option (Int32 × db_S) :=
  ((db_f2 s 286 (0 : Int32)).bind fun s2 => ((db_pI s2 284 9 v1).bind fun s3 => (db_f194_b20 db_FU s3 (0 : Int32) (0 : Int32) (0 : Int32))))
theorem db_f194_ok {X : db_X} {d : Nat} {s : db_S} {v1 : Int32} : db_Rf X (d + 5) dbm_194 0 (lv_args 0 [.ref 284, .int v1]) [] s db_zI (db_f194 s v1) := by
  show db_Rf _ _ _ 0 [(0, .ref 284), (1, .int v1)] [] _ _ _
  unfold db_f194
  refine db_Rgo (pc' := 5) (lv' := [(0, .ref 284), (1, .int v1)]) (st' := [.int (0 : Int32), .ref 286]) 3 rfl ?_
  refine db_RcV (mr' := dbm_2) (as := [.ref 286, .int (0 : Int32)]) (rest := []) (pc' := 8) (lv1 := [(0, .ref 284), (1, .int v1)]) rfl rfl rfl rfl rfl (db_f2_ok) fun s2 => ?_
  refine db_Rgo (pc' := 10) (lv' := [(0, .ref 284), (1, .int v1)]) (st' := [.int v1, .ref 284]) 2 rfl ?_
  refine db_RpuI (pc' := 13) (lv1 := [(0, .ref 284), (1, .int v1)]) rfl rfl rfl rfl rfl rfl (by decide) rfl rfl fun s3 => ?_
  refine db_Rgo (pc' := 20) (lv' := [(4, .int (0 : Int32)), (3, .int (0 : Int32)), (2, .int (0 : Int32)), (0, .ref 284), (1, .int v1)]) (st' := []) 6 rfl ?_
  refine db_Rn (lv1 := [(0, .ref 284), (2, .int (0 : Int32)), (3, .int (0 : Int32)), (4, .int (0 : Int32))]) rfl rfl rfl ?_
  exact db_f194_b20_ok db_FU _ _ _ _
/-- DreamBook$Runner.keepTally()V -/
noncomputable def db_f200 (s : db_S) : Option db_S :=
  ((db_f83 s 286 285).bind fun s2 => ((db_pI s2 284 0 (1 : Int32)).bind fun s3 => (some s3)))
theorem db_f200_ok {X : db_X} {d : Nat} {s : db_S} : db_Rf X (d + 1) dbm_200 0 (lv_args 0 [.ref 284]) [] s db_zV (db_f200 s ) := by
  show db_Rf _ _ _ 0 [(0, .ref 284)] [] _ _ _
  unfold db_f200
  refine db_Rgo (pc' := 8) (lv' := [(0, .ref 284)]) (st' := [.ref 285, .ref 286]) 4 rfl ?_
  refine db_RcV (mr' := dbm_83) (as := [.ref 286, .ref 285]) (rest := []) (pc' := 11) (lv1 := [(0, .ref 284)]) rfl rfl rfl rfl rfl (db_f83_ok) fun s2 => ?_
  refine db_Rgo (pc' := 13) (lv' := [(0, .ref 284)]) (st' := [.int (1 : Int32), .ref 284]) 2 rfl ?_
  refine db_RpuI (pc' := 16) (lv1 := [(0, .ref 284)]) rfl rfl rfl rfl rfl rfl (by decide) rfl rfl fun s3 => ?_
  exact db_Rret (lv1 := [(0, .ref 284)]) rfl rfl rfl rfl
/-- DreamBook.live(I)I -/
noncomputable def db_f193 (s : db_S) (v1 : Int32) : Option (Int32 × db_S) :=
  ((db_f27 s v1 (0 : Int32) (9999 : Int32)).bind fun q1 => (cond q1 (cond (db_cnd .ne (s.1 83 0) 0) (db_bd (db_f194 s v1) fun q3 s4 => ((db_f200 s4).bind fun s6 => (db_bd (db_f87 s6 q3) fun q7 s8 => (some (q7, s8))))) (db_bd (db_f37 s (8 : Int32)) fun q9 s10 => (some (q9, s10)))) (db_bd (db_f37 s (5 : Int32)) fun q11 s12 => (some (q11, s12)))))
theorem db_f193_ok {X : db_X} {d : Nat} {s : db_S} {v1 : Int32} : db_Rf X (d + 6) dbm_193 0 (lv_args 0 [.ref 4, .int v1]) [] s db_zI (db_f193 s v1) := by
  show db_Rf _ _ _ 0 [(0, .ref 4), (1, .int v1)] [] _ _ _
  unfold db_f193
  refine db_Rgo (pc' := 5) (lv' := [(0, .ref 4), (1, .int v1)]) (st' := [.int (9999 : Int32), .int (0 : Int32), .int v1]) 3 rfl ?_
  refine db_RcyB (mr' := dbm_27) (as := [.int v1, .int (0 : Int32), .int (9999 : Int32)]) (rest := []) (pc' := 8) (lv1 := [(0, .ref 4), (1, .int v1)]) rfl rfl rfl rfl rfl (db_f27_ok) fun q1 => ?_
  refine db_RifBn (pc' := 11) (tg := 17) (lv1 := [(0, .ref 4), (1, .int v1)]) rfl rfl rfl rfl ?_ ?_
  · refine db_Rgo (pc' := 24) (lv' := [(0, .ref 4), (1, .int v1)]) (st' := [.int (s.1 83 0)]) 3 rfl ?_
    refine db_Rif (pc' := 27) (tg := 34) (lv1 := [(0, .ref 4), (1, .int v1)]) rfl rfl rfl rfl ?_ ?_
    · refine db_Rgo (pc' := 39) (lv' := [(0, .ref 4), (1, .int v1)]) (st' := [.int v1, .ref 284]) 3 rfl ?_
      refine db_RcdI (mr' := dbm_194) (as := [.ref 284, .int v1]) (rest := []) (pc' := 42) (lv1 := [(0, .ref 4), (1, .int v1)]) rfl rfl rfl rfl rfl (db_f194_ok) fun q3 s4 => ?_
      refine db_Rgo (pc' := 47) (lv' := [(2, .int q3), (0, .ref 4), (1, .int v1)]) (st' := [.ref 284]) 3 rfl ?_
      refine db_RcV (mr' := dbm_200) (as := [.ref 284]) (rest := []) (pc' := 50) (lv1 := [(2, .int q3), (0, .ref 4), (1, .int v1)]) rfl rfl rfl rfl rfl (db_f200_ok) fun s6 => ?_
      refine db_Rgo (pc' := 52) (lv' := [(2, .int q3), (0, .ref 4), (1, .int v1)]) (st' := [.int q3, .ref 4]) 2 rfl ?_
      refine db_RcdI (mr' := dbm_87) (as := [.ref 4, .int q3]) (rest := []) (pc' := 55) (lv1 := [(2, .int q3), (0, .ref 4), (1, .int v1)]) rfl rfl rfl rfl rfl (db_f87_ok) fun q7 s8 => ?_
      exact db_Rret (lv1 := [(2, .int q3), (0, .ref 4), (1, .int v1)]) rfl rfl rfl rfl
    refine db_Rgo (pc' := 30) (lv' := [(0, .ref 4), (1, .int v1)]) (st' := [.int (8 : Int32), .ref 4]) 2 rfl ?_
    refine db_RcdI (mr' := dbm_37) (as := [.ref 4, .int (8 : Int32)]) (rest := []) (pc' := 33) (lv1 := [(0, .ref 4), (1, .int v1)]) rfl rfl rfl rfl rfl (db_f37_ok) fun q9 s10 => ?_
    exact db_Rret (lv1 := [(0, .ref 4), (1, .int v1)]) rfl rfl rfl rfl
  refine db_Rgo (pc' := 13) (lv' := [(0, .ref 4), (1, .int v1)]) (st' := [.int (5 : Int32), .ref 4]) 2 rfl ?_
  refine db_RcdI (mr' := dbm_37) (as := [.ref 4, .int (5 : Int32)]) (rest := []) (pc' := 16) (lv1 := [(0, .ref 4), (1, .int v1)]) rfl rfl rfl rfl rfl (db_f37_ok) fun q11 s12 => ?_
  exact db_Rret (lv1 := [(0, .ref 4), (1, .int v1)]) rfl rfl rfl rfl
/-- DreamBookModel.isSo(I)Z -/
noncomputable def db_f373 (s : db_S) (v1 : Int32) : Option Bool :=
  ((db_rI s 674 (v1 + (6 : Int32))).bind fun x1 => (cond (db_cnd .ne x1 (1 : Int32)) ((db_rI s 674 (v1 + (1 : Int32))).bind fun x2 => ((db_rI s 674 ((12 : Int32) + x2)).bind fun x3 => ((db_rI s 674 (v1 + (7 : Int32))).bind fun x4 => (cond (db_cnd .ne x4 (60 : Int32)) ((db_rI s 674 (v1 + (7 : Int32))).bind fun x5 => (cond (db_cnd .ne x5 (62 : Int32)) ((db_rI s 674 (v1 + (2 : Int32))).bind fun x6 => (cond (db_cnd .ne x3 x6) (some false) (some true))) ((db_rI s 674 (v1 + (2 : Int32))).bind fun x7 => (cond (db_cnd .le x3 x7) (some false) (some true))))) ((db_rI s 674 (v1 + (2 : Int32))).bind fun x8 => (cond (db_cnd .ge x3 x8) (some false) (some true))))))) ((db_rI s 674 (v1 + (1 : Int32))).bind fun x9 => ((db_f290 s x9).bind fun q10 => (cond (db_cnd .ne q10 0) (some false) (some true))))))
theorem db_f373_ok {X : db_X} {d : Nat} {s : db_S} {v1 : Int32} : db_Rf X (d + 1) dbm_373 0 (lv_args 0 [.ref 669, .int v1]) [] s (db_yB s) (db_f373 s v1) := by
  show db_Rf _ _ _ 0 [(0, .ref 669), (1, .int v1)] [] _ _ _
  unfold db_f373
  refine db_Rgo (pc' := 8) (lv' := [(0, .ref 669), (1, .int v1)]) (st' := [.int (v1 + (6 : Int32)), .ref 674]) 5 rfl ?_
  refine db_RldI (pc' := 9) (lv1 := [(0, .ref 669), (1, .int v1)]) rfl rfl rfl fun x1 => ?_
  refine db_Rgo (pc' := 10) (lv' := [(0, .ref 669), (1, .int v1)]) (st' := [.int (1 : Int32), .int x1]) 1 rfl ?_
  refine db_Ric (pc' := 13) (tg := 34) (lv1 := [(0, .ref 669), (1, .int v1)]) rfl rfl rfl rfl ?_ ?_
  · refine db_Rgo (pc' := 47) (lv' := [(0, .ref 669), (1, .int v1)]) (st' := [.int (v1 + (1 : Int32)), .ref 674, .int (12 : Int32), .ref 674]) 8 rfl ?_
    refine db_RldI (pc' := 48) (lv1 := [(0, .ref 669), (1, .int v1)]) rfl rfl rfl fun x2 => ?_
    refine db_Rgo (pc' := 49) (lv' := [(0, .ref 669), (1, .int v1)]) (st' := [.int ((12 : Int32) + x2), .ref 674]) 1 rfl ?_
    refine db_RldI (pc' := 50) (lv1 := [(0, .ref 669), (1, .int v1)]) rfl rfl rfl fun x3 => ?_
    refine db_Rgo (pc' := 59) (lv' := [(2, .int x3), (0, .ref 669), (1, .int v1)]) (st' := [.int (v1 + (7 : Int32)), .ref 674]) 6 rfl ?_
    refine db_RldI (pc' := 60) (lv1 := [(2, .int x3), (0, .ref 669), (1, .int v1)]) rfl rfl rfl fun x4 => ?_
    refine db_Rgo (pc' := 62) (lv' := [(2, .int x3), (0, .ref 669), (1, .int v1)]) (st' := [.int (60 : Int32), .int x4]) 1 rfl ?_
    refine db_Ric (pc' := 65) (tg := 85) (lv1 := [(2, .int x3), (0, .ref 669), (1, .int v1)]) rfl rfl rfl rfl ?_ ?_
    · refine db_Rgo (pc' := 93) (lv' := [(0, .ref 669), (1, .int v1), (2, .int x3)]) (st' := [.int (v1 + (7 : Int32)), .ref 674]) 5 rfl ?_
      refine db_RldI (pc' := 94) (lv1 := [(0, .ref 669), (1, .int v1), (2, .int x3)]) rfl rfl rfl fun x5 => ?_
      refine db_Rgo (pc' := 96) (lv' := [(0, .ref 669), (1, .int v1), (2, .int x3)]) (st' := [.int (62 : Int32), .int x5]) 1 rfl ?_
      refine db_Ric (pc' := 99) (tg := 119) (lv1 := [(0, .ref 669), (1, .int v1), (2, .int x3)]) rfl rfl rfl rfl ?_ ?_
      · refine db_Rgo (pc' := 127) (lv' := [(0, .ref 669), (1, .int v1), (2, .int x3)]) (st' := [.int (v1 + (2 : Int32)), .ref 674, .int x3]) 6 rfl ?_
        refine db_RldI (pc' := 128) (lv1 := [(0, .ref 669), (1, .int v1), (2, .int x3)]) rfl rfl rfl fun x6 => ?_
        refine db_Ric (pc' := 131) (tg := 135) (lv1 := [(0, .ref 669), (1, .int v1), (2, .int x3)]) rfl rfl rfl rfl ?_ ?_
        · refine db_Rgo (pc' := 136) (lv' := []) (st' := [.int (0 : Int32)]) 1 rfl ?_
          exact db_Rret (lv1 := []) rfl rfl rfl rfl
        refine db_Rgo (pc' := 136) (lv' := [(0, .ref 669), (1, .int v1), (2, .int x3)]) (st' := [.int (1 : Int32)]) 2 rfl ?_
        exact db_Rret (lv1 := []) rfl rfl rfl rfl
      refine db_Rgo (pc' := 107) (lv' := [(0, .ref 669), (1, .int v1), (2, .int x3)]) (st' := [.int (v1 + (2 : Int32)), .ref 674, .int x3]) 6 rfl ?_
      refine db_RldI (pc' := 108) (lv1 := [(0, .ref 669), (1, .int v1), (2, .int x3)]) rfl rfl rfl fun x7 => ?_
      refine db_Ric (pc' := 111) (tg := 115) (lv1 := [(0, .ref 669), (1, .int v1), (2, .int x3)]) rfl rfl rfl rfl ?_ ?_
      · refine db_Rgo (pc' := 136) (lv' := []) (st' := [.int (0 : Int32)]) 2 rfl ?_
        exact db_Rret (lv1 := []) rfl rfl rfl rfl
      refine db_Rgo (pc' := 136) (lv' := [(0, .ref 669), (1, .int v1), (2, .int x3)]) (st' := [.int (1 : Int32)]) 2 rfl ?_
      exact db_Rret (lv1 := []) rfl rfl rfl rfl
    refine db_Rgo (pc' := 73) (lv' := [(2, .int x3), (0, .ref 669), (1, .int v1)]) (st' := [.int (v1 + (2 : Int32)), .ref 674, .int x3]) 6 rfl ?_
    refine db_RldI (pc' := 74) (lv1 := [(2, .int x3), (0, .ref 669), (1, .int v1)]) rfl rfl rfl fun x8 => ?_
    refine db_Ric (pc' := 77) (tg := 81) (lv1 := [(2, .int x3), (0, .ref 669), (1, .int v1)]) rfl rfl rfl rfl ?_ ?_
    · refine db_Rgo (pc' := 136) (lv' := []) (st' := [.int (0 : Int32)]) 2 rfl ?_
      exact db_Rret (lv1 := []) rfl rfl rfl rfl
    refine db_Rgo (pc' := 136) (lv' := [(2, .int x3), (0, .ref 669), (1, .int v1)]) (st' := [.int (1 : Int32)]) 2 rfl ?_
    exact db_Rret (lv1 := []) rfl rfl rfl rfl
  refine db_Rgo (pc' := 21) (lv' := [(0, .ref 669), (1, .int v1)]) (st' := [.int (v1 + (1 : Int32)), .ref 674, .ref 669]) 6 rfl ?_
  refine db_RldI (pc' := 22) (lv1 := [(0, .ref 669), (1, .int v1)]) rfl rfl rfl fun x9 => ?_
  refine db_RcyI (mr' := dbm_290) (as := [.ref 669, .int x9]) (rest := []) (pc' := 25) (lv1 := [(0, .ref 669), (1, .int v1)]) rfl rfl rfl rfl rfl (db_f290_ok) fun q10 => ?_
  refine db_Rif (pc' := 28) (tg := 32) (lv1 := [(0, .ref 669), (1, .int v1)]) rfl rfl rfl rfl ?_ ?_
  · refine db_Rgo (pc' := 33) (lv' := []) (st' := [.int (0 : Int32)]) 1 rfl ?_
    exact db_Rret (lv1 := []) rfl rfl rfl rfl
  refine db_Rgo (pc' := 33) (lv' := [(0, .ref 669), (1, .int v1)]) (st' := [.int (1 : Int32)]) 2 rfl ?_
  exact db_Rret (lv1 := []) rfl rfl rfl rfl
/-- DreamBookModel.draw(I)I -/
noncomputable def db_f372 (s : db_S) (v1 : Int32) : Option (Int32 × db_S) :=
  ((db_pI s 669 42 ((((s.1 669 42) * (2917 : Int32)) + (10613 : Int32)) - (((s.1 669 42) * (2917 : Int32)) + (10613 : Int32)) / (65536 : Int32) * (65536 : Int32))).bind fun s1 => (if v1 = 0 then none else (some ((((s1.1 669 42) / (8 : Int32)) - ((s1.1 669 42) / (8 : Int32)) / v1 * v1), s1))))
theorem db_f372_ok {X : db_X} {d : Nat} {s : db_S} {v1 : Int32} : db_Rf X (d + 0) dbm_372 0 (lv_args 0 [.ref 669, .int v1]) [] s db_zI (db_f372 s v1) := by
  show db_Rf _ _ _ 0 [(0, .ref 669), (1, .int v1)] [] _ _ _
  unfold db_f372
  refine db_Rgo (pc' := 17) (lv' := [(0, .ref 669), (1, .int v1)]) (st' := [.int ((((s.1 669 42) * (2917 : Int32)) + (10613 : Int32)) - (((s.1 669 42) * (2917 : Int32)) + (10613 : Int32)) / (65536 : Int32) * (65536 : Int32)), .ref 669]) 9 rfl ?_
  refine db_RpuI (pc' := 20) (lv1 := [(0, .ref 669), (1, .int v1)]) rfl rfl rfl rfl rfl rfl (by decide) rfl rfl fun s1 => ?_
  refine db_Rgo (pc' := 28) (lv' := [(0, .ref 669), (1, .int v1)]) (st' := [.int v1, .int ((s1.1 669 42) / (8 : Int32))]) 5 rfl ?_
  refine db_Rrem (pc' := 29) (lv1 := [(0, .ref 669), (1, .int v1)]) rfl rfl rfl ?_
  exact db_Rret (lv1 := [(0, .ref 669), (1, .int v1)]) rfl rfl rfl rfl
noncomputable def db_f371_b23 : Nat → db_S → Int32 → Int32 → Int32 → Int32 → Option (Bool × db_S)
  | 0, _, _, _, _, _ => none
  | n + 1, s, v1, v2, v3, v4 =>
    ((db_rI s 674 ((143 : Int32) + v4)).bind fun x1 => (cond (db_cnd .lt v3 x1) (db_bd (db_f333 s v4 v1 v2) fun q2 s3 => (some (q2, s3))) ((db_rI s 674 ((143 : Int32) + v4)).bind fun x4 => (db_f371_b23 n s v1 v2 (v3 - x4) (v4 + (1 : Int32))))))
theorem db_f371_b23_ok {X : db_X} {d : Nat}  (n : Nat) : ∀ (s : db_S) (v1 : Int32) (v2 : Int32) (v3 : Int32) (v4 : Int32), db_Rf X (d + 6) dbm_371 23 [(0, .ref 669), (1, .int v1), (2, .int v2), (3, .int v3), (4, .int v4)] [] s db_zB (db_f371_b23 n s v1 v2 v3 v4) := by
  induction n with
  | zero => intros; exact db_Rnone
  | succ n ih =>
    intro s v1 v2 v3 v4
    unfold db_f371_b23
    refine db_Rgo (pc' := 34) (lv' := [(0, .ref 669), (1, .int v1), (2, .int v2), (3, .int v3), (4, .int v4)]) (st' := [.int ((143 : Int32) + v4), .ref 674, .int v3]) 6 rfl ?_
    refine db_RldI (pc' := 35) (lv1 := [(0, .ref 669), (1, .int v1), (2, .int v2), (3, .int v3), (4, .int v4)]) rfl rfl rfl fun x1 => ?_
    refine db_Ric (pc' := 38) (tg := 58) (lv1 := [(0, .ref 669), (1, .int v1), (2, .int v2), (3, .int v3), (4, .int v4)]) rfl rfl rfl rfl ?_ ?_
    · refine db_Rgo (pc' := 63) (lv' := [(0, .ref 669), (1, .int v1), (2, .int v2), (4, .int v4)]) (st' := [.int v2, .int v1, .int v4, .ref 669]) 4 rfl ?_
      refine db_RcdB (mr' := dbm_333) (as := [.ref 669, .int v4, .int v1, .int v2]) (rest := []) (pc' := 66) (lv1 := [(0, .ref 669), (1, .int v1), (2, .int v2), (4, .int v4)]) rfl rfl rfl rfl rfl (db_f333_ok) fun q2 s3 => ?_
      exact db_RretB (lv1 := [(0, .ref 669), (1, .int v1), (2, .int v2), (4, .int v4)]) rfl rfl rfl rfl
    refine db_Rgo (pc' := 49) (lv' := [(0, .ref 669), (1, .int v1), (2, .int v2), (3, .int v3), (4, .int v4)]) (st' := [.int ((143 : Int32) + v4), .ref 674, .int v3]) 6 rfl ?_
    refine db_RldI (pc' := 50) (lv1 := [(0, .ref 669), (1, .int v1), (2, .int v2), (3, .int v3), (4, .int v4)]) rfl rfl rfl fun x4 => ?_
    refine db_Rgo (pc' := 23) (lv' := [(4, .int (v4 + (1 : Int32))), (3, .int (v3 - x4)), (0, .ref 669), (1, .int v1), (2, .int v2)]) (st' := []) 4 rfl ?_
    refine db_Rn (lv1 := [(0, .ref 669), (1, .int v1), (2, .int v2), (3, .int (v3 - x4)), (4, .int (v4 + (1 : Int32)))]) rfl rfl rfl ?_
    exact ih _ _ _ _ _
/-- DreamBookModel.anyDream(II)Z -/
noncomputable def db_f371 (s : db_S) (v1 : Int32) (v2 : Int32) : Option (Bool × db_S) :=
  ((db_rI s 674 (5 : Int32)).bind fun x1 => (cond (db_cnd .ne x1 0) ((db_f282 s).bind fun q2 => (db_bd (db_f372 s q2) fun q4 s5 => (db_f371_b23 db_FU s5 v1 v2 q4 (0 : Int32)))) (some (false, s))))
theorem db_f371_ok {X : db_X} {d : Nat} {s : db_S} {v1 : Int32} {v2 : Int32} : db_Rf X (d + 6) dbm_371 0 (lv_args 0 [.ref 669, .int v1, .int v2]) [] s db_zB (db_f371 s v1 v2) := by
  show db_Rf _ _ _ 0 [(0, .ref 669), (1, .int v1), (2, .int v2)] [] _ _ _
  unfold db_f371
  refine db_Rgo (pc' := 5) (lv' := [(0, .ref 669), (1, .int v1), (2, .int v2)]) (st' := [.int (5 : Int32), .ref 674]) 3 rfl ?_
  refine db_RldI (pc' := 6) (lv1 := [(0, .ref 669), (1, .int v1), (2, .int v2)]) rfl rfl rfl fun x1 => ?_
  refine db_Rif (pc' := 9) (tg := 11) (lv1 := [(0, .ref 669), (1, .int v1), (2, .int v2)]) rfl rfl rfl rfl ?_ ?_
  · refine db_Rgo (pc' := 13) (lv' := [(0, .ref 669), (1, .int v1), (2, .int v2)]) (st' := [.ref 669, .ref 669]) 2 rfl ?_
    refine db_RcyI (mr' := dbm_282) (as := [.ref 669]) (rest := [.ref 669]) (pc' := 16) (lv1 := [(0, .ref 669), (1, .int v1), (2, .int v2)]) rfl rfl rfl rfl rfl (db_f282_ok) fun q2 => ?_
    refine db_RcdI (mr' := dbm_372) (as := [.ref 669, .int q2]) (rest := []) (pc' := 19) (lv1 := [(0, .ref 669), (1, .int v1), (2, .int v2)]) rfl rfl rfl rfl rfl (db_f372_ok) fun q4 s5 => ?_
    refine db_Rgo (pc' := 23) (lv' := [(4, .int (0 : Int32)), (3, .int q4), (0, .ref 669), (1, .int v1), (2, .int v2)]) (st' := []) 3 rfl ?_
    refine db_Rn (lv1 := [(0, .ref 669), (1, .int v1), (2, .int v2), (3, .int q4), (4, .int (0 : Int32))]) rfl rfl rfl ?_
    exact db_f371_b23_ok db_FU _ _ _ _ _
  refine db_Rgo (pc' := 10) (lv' := [(0, .ref 669), (1, .int v1), (2, .int v2)]) (st' := [.int (0 : Int32)]) 1 rfl ?_
  exact db_Rret (lv1 := [(0, .ref 669), (1, .int v1), (2, .int v2)]) rfl rfl rfl rfl
noncomputable def db_f370_b108 (s : db_S) (v1 : Int32) (t0 : Int32) : Option (Bool × db_S) :=
  ((db_rI s 674 (v1 + (1 : Int32))).bind fun x1 => ((db_wI s 674 ((91 : Int32) + x1) (0 : Int32)).bind fun s2 => (cond (db_b01 t0) (some ((decide (t0 = 1)), s2)) none)))
theorem db_f370_b108_ok {X : db_X} {d : Nat}  {s : db_S} {v1 : Int32} {t0 : Int32} : db_Rf X (d + 7) dbm_370 108 [(0, .ref 669), (1, .int v1)] [.int t0] s db_zB (db_f370_b108 s v1 t0) := by
  unfold db_f370_b108
  refine db_Rgo (pc' := 122) (lv' := [(3, .int t0), (0, .ref 669), (1, .int v1)]) (st' := [.int (v1 + (1 : Int32)), .ref 674, .int (91 : Int32), .ref 674]) 9 rfl ?_
  refine db_RldI (pc' := 123) (lv1 := [(3, .int t0), (0, .ref 669), (1, .int v1)]) rfl rfl rfl fun x1 => ?_
  refine db_Rgo (pc' := 125) (lv' := [(3, .int t0), (0, .ref 669), (1, .int v1)]) (st' := [.int (0 : Int32), .int ((91 : Int32) + x1), .ref 674]) 2 rfl ?_
  refine db_RstI (pc' := 126) (lv1 := [(3, .int t0), (0, .ref 669), (1, .int v1)]) rfl rfl rfl fun s2 => ?_
  refine db_Rgo (pc' := 127) (lv' := [(3, .int t0), (0, .ref 669), (1, .int v1)]) (st' := [.int t0]) 1 rfl ?_
  exact db_RretX (v := fun b => (b, s2)) (lv1 := [(3, .int t0), (0, .ref 669), (1, .int v1)]) rfl rfl rfl (fun _ => rfl)
/-- DreamBookModel.does(I)Z -/
noncomputable def db_f370 (s : db_S) (v1 : Int32) : Option (Bool × db_S) :=
  ((db_rI s 674 v1).bind fun x1 => (cond (db_cnd .ne x1 0) (cond (db_cnd .ne x1 (1 : Int32)) (cond (db_cnd .ne x1 (2 : Int32)) ((db_rI s 674 (v1 + (1 : Int32))).bind fun x2 => ((db_rI s 674 ((91 : Int32) + x2)).bind fun x3 => (cond (db_cnd .le x3 0) (db_f370_b108 s v1 (0 : Int32)) (db_f370_b108 s v1 (1 : Int32))))) ((db_rI s 674 (v1 + (1 : Int32))).bind fun x4 => (db_bd (db_f310 s x4) fun q5 s6 => (some (q5, s6))))) ((db_rI s 674 (v1 + (2 : Int32))).bind fun x7 => ((db_rI s 674 (v1 + (3 : Int32))).bind fun x8 => (db_bd (db_f371 s x7 x8) fun q9 s10 => (some (q9, s10)))))) ((db_rI s 674 (v1 + (1 : Int32))).bind fun x11 => ((db_rI s 674 (v1 + (2 : Int32))).bind fun x12 => ((db_rI s 674 (v1 + (3 : Int32))).bind fun x13 => (db_bd (db_f333 s x11 x12 x13) fun q14 s15 => (some (q14, s15))))))))
theorem db_f370_ok {X : db_X} {d : Nat} {s : db_S} {v1 : Int32} : db_Rf X (d + 7) dbm_370 0 (lv_args 0 [.ref 669, .int v1]) [] s db_zB (db_f370 s v1) := by
  show db_Rf _ _ _ 0 [(0, .ref 669), (1, .int v1)] [] _ _ _
  unfold db_f370
  refine db_Rgo (pc' := 5) (lv' := [(0, .ref 669), (1, .int v1)]) (st' := [.int v1, .ref 674]) 3 rfl ?_
  refine db_RldI (pc' := 6) (lv1 := [(0, .ref 669), (1, .int v1)]) rfl rfl rfl fun x1 => ?_
  refine db_Rgo (pc' := 8) (lv' := [(2, .int x1), (0, .ref 669), (1, .int v1)]) (st' := [.int x1]) 2 rfl ?_
  refine db_Rif (pc' := 11) (tg := 40) (lv1 := [(2, .int x1), (0, .ref 669), (1, .int v1)]) rfl rfl rfl rfl ?_ ?_
  · refine db_Rgo (pc' := 42) (lv' := [(0, .ref 669), (1, .int v1), (2, .int x1)]) (st' := [.int (1 : Int32), .int x1]) 2 rfl ?_
    refine db_Ric (pc' := 45) (tg := 66) (lv1 := [(0, .ref 669), (1, .int v1), (2, .int x1)]) rfl rfl rfl rfl ?_ ?_
    · refine db_Rgo (pc' := 68) (lv' := [(0, .ref 669), (1, .int v1), (2, .int x1)]) (st' := [.int (2 : Int32), .int x1]) 2 rfl ?_
      refine db_Ric (pc' := 71) (tg := 84) (lv1 := [(0, .ref 669), (1, .int v1), (2, .int x1)]) rfl rfl rfl rfl ?_ ?_
      · refine db_Rgo (pc' := 97) (lv' := [(0, .ref 669), (1, .int v1)]) (st' := [.int (v1 + (1 : Int32)), .ref 674, .int (91 : Int32), .ref 674]) 8 rfl ?_
        refine db_RldI (pc' := 98) (lv1 := [(0, .ref 669), (1, .int v1)]) rfl rfl rfl fun x2 => ?_
        refine db_Rgo (pc' := 99) (lv' := [(0, .ref 669), (1, .int v1)]) (st' := [.int ((91 : Int32) + x2), .ref 674]) 1 rfl ?_
        refine db_RldI (pc' := 100) (lv1 := [(0, .ref 669), (1, .int v1)]) rfl rfl rfl fun x3 => ?_
        refine db_Rif (pc' := 103) (tg := 107) (lv1 := [(0, .ref 669), (1, .int v1)]) rfl rfl rfl rfl ?_ ?_
        · refine db_Rgo (pc' := 108) (lv' := [(0, .ref 669), (1, .int v1)]) (st' := [.int (0 : Int32)]) 1 rfl ?_
          exact db_f370_b108_ok
        refine db_Rgo (pc' := 108) (lv' := [(0, .ref 669), (1, .int v1)]) (st' := [.int (1 : Int32)]) 2 rfl ?_
        exact db_f370_b108_ok
      refine db_Rgo (pc' := 79) (lv' := [(0, .ref 669), (1, .int v1), (2, .int x1)]) (st' := [.int (v1 + (1 : Int32)), .ref 674, .ref 669]) 6 rfl ?_
      refine db_RldI (pc' := 80) (lv1 := [(0, .ref 669), (1, .int v1), (2, .int x1)]) rfl rfl rfl fun x4 => ?_
      refine db_RcdB (mr' := dbm_310) (as := [.ref 669, .int x4]) (rest := []) (pc' := 83) (lv1 := [(0, .ref 669), (1, .int v1), (2, .int x1)]) rfl rfl rfl rfl rfl (db_f310_ok) fun q5 s6 => ?_
      exact db_RretB (lv1 := [(0, .ref 669), (1, .int v1), (2, .int x1)]) rfl rfl rfl rfl
    refine db_Rgo (pc' := 53) (lv' := [(0, .ref 669), (1, .int v1), (2, .int x1)]) (st' := [.int (v1 + (2 : Int32)), .ref 674, .ref 669]) 6 rfl ?_
    refine db_RldI (pc' := 54) (lv1 := [(0, .ref 669), (1, .int v1), (2, .int x1)]) rfl rfl rfl fun x7 => ?_
    refine db_Rgo (pc' := 61) (lv' := [(0, .ref 669), (1, .int v1), (2, .int x1)]) (st' := [.int (v1 + (3 : Int32)), .ref 674, .int x7, .ref 669]) 5 rfl ?_
    refine db_RldI (pc' := 62) (lv1 := [(0, .ref 669), (1, .int v1), (2, .int x1)]) rfl rfl rfl fun x8 => ?_
    refine db_RcdB (mr' := dbm_371) (as := [.ref 669, .int x7, .int x8]) (rest := []) (pc' := 65) (lv1 := [(0, .ref 669), (1, .int v1), (2, .int x1)]) rfl rfl rfl rfl rfl (db_f371_ok) fun q9 s10 => ?_
    exact db_RretB (lv1 := [(0, .ref 669), (1, .int v1), (2, .int x1)]) rfl rfl rfl rfl
  refine db_Rgo (pc' := 19) (lv' := [(2, .int x1), (0, .ref 669), (1, .int v1)]) (st' := [.int (v1 + (1 : Int32)), .ref 674, .ref 669]) 6 rfl ?_
  refine db_RldI (pc' := 20) (lv1 := [(2, .int x1), (0, .ref 669), (1, .int v1)]) rfl rfl rfl fun x11 => ?_
  refine db_Rgo (pc' := 27) (lv' := [(2, .int x1), (0, .ref 669), (1, .int v1)]) (st' := [.int (v1 + (2 : Int32)), .ref 674, .int x11, .ref 669]) 5 rfl ?_
  refine db_RldI (pc' := 28) (lv1 := [(2, .int x1), (0, .ref 669), (1, .int v1)]) rfl rfl rfl fun x12 => ?_
  refine db_Rgo (pc' := 35) (lv' := [(2, .int x1), (0, .ref 669), (1, .int v1)]) (st' := [.int (v1 + (3 : Int32)), .ref 674, .int x12, .int x11, .ref 669]) 5 rfl ?_
  refine db_RldI (pc' := 36) (lv1 := [(2, .int x1), (0, .ref 669), (1, .int v1)]) rfl rfl rfl fun x13 => ?_
  refine db_RcdB (mr' := dbm_333) (as := [.ref 669, .int x11, .int x12, .int x13]) (rest := []) (pc' := 39) (lv1 := [(2, .int x1), (0, .ref 669), (1, .int v1)]) rfl rfl rfl rfl rfl (db_f333_ok) fun q14 s15 => ?_
  exact db_RretB (lv1 := [(2, .int x1), (0, .ref 669), (1, .int v1)]) rfl rfl rfl rfl
noncomputable def db_f369_b70 (r368 : db_S → Int32 → Int32 → Option db_S) (s : db_S) (t1 : Int32) (t2 : Int32) : Option db_S :=
  ((db_pI s 669 44 (t1 + t2)).bind fun s1 => (some s1))
theorem db_f369_b70_ok {X : db_X} {d : Nat}  {r368 : db_S → Int32 → Int32 → Option db_S} {s : db_S} {t1 : Int32} {t2 : Int32} (z368 : ∀ (s' : db_S) (v1 : Int32) (v2 : Int32) , db_Rf X (d + 7) dbm_368 0 (lv_args 0 [.ref 669, .int v1, .int v2]) [] s' db_zV (r368 s' v1 v2)) : db_Rf X (d + 8) dbm_369 70 [] [.int t2, .int t1, .ref 669] s db_zV (db_f369_b70 r368 s t1 t2) := by
  unfold db_f369_b70
  refine db_Rgo (pc' := 71) (lv' := []) (st' := [.int (t1 + t2), .ref 669]) 1 rfl ?_
  refine db_RpuI (pc' := 74) (lv1 := []) rfl rfl rfl rfl rfl rfl (by decide) rfl rfl fun s1 => ?_
  refine db_Rgo (pc' := 172) (lv' := []) (st' := []) 1 rfl ?_
  exact db_Rret (lv1 := []) rfl rfl rfl rfl
noncomputable def db_f369_b117 (r368 : db_S → Int32 → Int32 → Option db_S) : Nat → db_S → Int32 → Int32 → Int32 → Option db_S
  | 0, _, _, _, _ => none
  | n + 1, s, v1, v2, v4 =>
    ((db_rI s 674 (v2 + (1 : Int32))).bind fun x1 => (cond (db_cnd .ge v4 x1) (some s) (cond (db_cnd .ne (s.1 669 41) 0) (some s) ((db_rI s 674 (v2 + (8 : Int32))).bind fun x2 => ((r368 s (v1 + (1 : Int32)) x2).bind fun s4 => (db_f369_b117 r368 n s4 v1 v2 (v4 + (1 : Int32))))))))
theorem db_f369_b117_ok {X : db_X} {d : Nat}  {r368 : db_S → Int32 → Int32 → Option db_S} (z368 : ∀ (s' : db_S) (v1 : Int32) (v2 : Int32) , db_Rf X (d + 7) dbm_368 0 (lv_args 0 [.ref 669, .int v1, .int v2]) [] s' db_zV (r368 s' v1 v2)) (n : Nat) : ∀ (s : db_S) (v1 : Int32) (v2 : Int32) (v4 : Int32), db_Rf X (d + 8) dbm_369 117 [(0, .ref 669), (1, .int v1), (2, .int v2), (4, .int v4)] [] s db_zV (db_f369_b117 r368 n s v1 v2 v4) := by
  induction n with
  | zero => intros; exact db_Rnone
  | succ n ih =>
    intro s v1 v2 v4
    unfold db_f369_b117
    refine db_Rgo (pc' := 126) (lv' := [(0, .ref 669), (1, .int v1), (2, .int v2), (4, .int v4)]) (st' := [.int (v2 + (1 : Int32)), .ref 674, .int v4]) 6 rfl ?_
    refine db_RldI (pc' := 127) (lv1 := [(0, .ref 669), (1, .int v1), (2, .int v2), (4, .int v4)]) rfl rfl rfl fun x1 => ?_
    refine db_Ric (pc' := 130) (tg := 159) (lv1 := [(0, .ref 669), (1, .int v1), (2, .int v2), (4, .int v4)]) rfl rfl rfl rfl ?_ ?_
    · refine db_Rgo (pc' := 172) (lv' := []) (st' := []) 1 rfl ?_
      exact db_Rret (lv1 := []) rfl rfl rfl rfl
    refine db_Rgo (pc' := 134) (lv' := [(0, .ref 669), (1, .int v1), (2, .int v2), (4, .int v4)]) (st' := [.int (s.1 669 41)]) 2 rfl ?_
    refine db_Rif (pc' := 137) (tg := 159) (lv1 := [(0, .ref 669), (1, .int v1), (2, .int v2), (4, .int v4)]) rfl rfl rfl rfl ?_ ?_
    · refine db_Rgo (pc' := 172) (lv' := []) (st' := []) 1 rfl ?_
      exact db_Rret (lv1 := []) rfl rfl rfl rfl
    refine db_Rgo (pc' := 149) (lv' := [(0, .ref 669), (1, .int v1), (2, .int v2), (4, .int v4)]) (st' := [.int (v2 + (8 : Int32)), .ref 674, .int (v1 + (1 : Int32)), .ref 669]) 9 rfl ?_
    refine db_RldI (pc' := 150) (lv1 := [(0, .ref 669), (1, .int v1), (2, .int v2), (4, .int v4)]) rfl rfl rfl fun x2 => ?_
    refine db_RcV (mr' := dbm_368) (as := [.ref 669, .int (v1 + (1 : Int32)), .int x2]) (rest := []) (pc' := 153) (lv1 := [(0, .ref 669), (1, .int v1), (2, .int v2), (4, .int v4)]) rfl rfl rfl rfl rfl (z368 _ _ _) fun s4 => ?_
    refine db_Rgo (pc' := 117) (lv' := [(4, .int (v4 + (1 : Int32))), (0, .ref 669), (1, .int v1), (2, .int v2)]) (st' := []) 2 rfl ?_
    refine db_Rn (lv1 := [(0, .ref 669), (1, .int v1), (2, .int v2), (4, .int (v4 + (1 : Int32)))]) rfl rfl rfl ?_
    exact ih _ _ _ _
noncomputable def db_f369_b109 (r368 : db_S → Int32 → Int32 → Option db_S) (s : db_S) (v1 : Int32) (v2 : Int32) (v3 : Int32) : Option db_S :=
  (cond (db_cnd .ne v3 (5 : Int32)) (cond (db_cnd .le v3 (5 : Int32)) (some s) ((db_pI s 669 41 (1 : Int32)).bind fun s1 => (some s1))) (db_f369_b117 r368 db_FU s v1 v2 (0 : Int32)))
theorem db_f369_b109_ok {X : db_X} {d : Nat}  {r368 : db_S → Int32 → Int32 → Option db_S} {s : db_S} {v1 : Int32} {v2 : Int32} {v3 : Int32} (z368 : ∀ (s' : db_S) (v1 : Int32) (v2 : Int32) , db_Rf X (d + 7) dbm_368 0 (lv_args 0 [.ref 669, .int v1, .int v2]) [] s' db_zV (r368 s' v1 v2)) : db_Rf X (d + 8) dbm_369 109 [(0, .ref 669), (1, .int v1), (2, .int v2), (3, .int v3)] [] s db_zV (db_f369_b109 r368 s v1 v2 v3) := by
  unfold db_f369_b109
  refine db_Rgo (pc' := 111) (lv' := [(0, .ref 669), (1, .int v1), (2, .int v2), (3, .int v3)]) (st' := [.int (5 : Int32), .int v3]) 2 rfl ?_
  refine db_Ric (pc' := 114) (tg := 162) (lv1 := [(0, .ref 669), (1, .int v1), (2, .int v2), (3, .int v3)]) rfl rfl rfl rfl ?_ ?_
  · refine db_Rgo (pc' := 164) (lv' := [(0, .ref 669), (3, .int v3)]) (st' := [.int (5 : Int32), .int v3]) 2 rfl ?_
    refine db_Ric (pc' := 167) (tg := 172) (lv1 := [(0, .ref 669), (3, .int v3)]) rfl rfl rfl rfl ?_ ?_
    · exact db_Rret (lv1 := []) rfl rfl rfl rfl
    refine db_Rgo (pc' := 169) (lv' := [(0, .ref 669), (3, .int v3)]) (st' := [.int (1 : Int32), .ref 669]) 2 rfl ?_
    refine db_RpuI (pc' := 172) (lv1 := [(0, .ref 669), (3, .int v3)]) rfl rfl rfl rfl rfl rfl (by decide) rfl rfl fun s1 => ?_
    exact db_Rret (lv1 := []) rfl rfl rfl rfl
  refine db_Rgo (pc' := 117) (lv' := [(4, .int (0 : Int32)), (0, .ref 669), (1, .int v1), (2, .int v2), (3, .int v3)]) (st' := []) 2 rfl ?_
  refine db_Rn (lv1 := [(0, .ref 669), (1, .int v1), (2, .int v2), (4, .int (0 : Int32))]) rfl rfl rfl ?_
  exact db_f369_b117_ok z368 db_FU _ _ _ _
/-- DreamBookModel.doOne(I)V -/
noncomputable def db_f369 (r368 : db_S → Int32 → Int32 → Option db_S) (s : db_S) (v1 : Int32) : Option db_S :=
  (cond (db_cnd .ne (s.1 669 43) (300 : Int32)) ((db_pI s 669 43 ((s.1 669 43) + (1 : Int32))).bind fun s1 => ((db_rI s1 674 ((201 : Int32) + ((9 : Int32) * v1))).bind fun x2 => (cond (db_cnd .ge x2 (4 : Int32)) (cond (db_cnd .ne x2 (4 : Int32)) (db_f369_b109 r368 s1 v1 ((201 : Int32) + ((9 : Int32) * v1)) x2) ((db_f373 s1 ((201 : Int32) + ((9 : Int32) * v1))).bind fun q3 => (cond q3 ((db_rI s1 674 (((201 : Int32) + ((9 : Int32) * v1)) + (8 : Int32))).bind fun x5 => ((r368 s1 (v1 + (1 : Int32)) x5).bind fun s7 => (some s7))) (db_f369_b109 r368 s1 v1 ((201 : Int32) + ((9 : Int32) * v1)) x2)))) (db_bd (db_f370 s1 ((201 : Int32) + ((9 : Int32) * v1))) fun q8 s9 => (cond q8 (db_f369_b70 r368 s9 (s1.1 669 44) (0 : Int32)) (db_f369_b70 r368 s9 (s1.1 669 44) (1 : Int32))))))) ((db_pI s 669 41 (1 : Int32)).bind fun s10 => ((db_pI s10 669 45 (1 : Int32)).bind fun s11 => (some s11))))
theorem db_f369_ok {X : db_X} {d : Nat} {s : db_S} {v1 : Int32} {r368 : db_S → Int32 → Int32 → Option db_S} (z368 : ∀ (s' : db_S) (v1 : Int32) (v2 : Int32) , db_Rf X (d + 7) dbm_368 0 (lv_args 0 [.ref 669, .int v1, .int v2]) [] s' db_zV (r368 s' v1 v2)) : db_Rf X (d + 8) dbm_369 0 (lv_args 0 [.ref 669, .int v1]) [] s db_zV (db_f369 r368 s v1) := by
  show db_Rf _ _ _ 0 [(0, .ref 669), (1, .int v1)] [] _ _ _
  unfold db_f369
  refine db_Rgo (pc' := 7) (lv' := [(0, .ref 669), (1, .int v1)]) (st' := [.int (300 : Int32), .int (s.1 669 43)]) 3 rfl ?_
  refine db_Ric (pc' := 10) (tg := 21) (lv1 := [(0, .ref 669), (1, .int v1)]) rfl rfl rfl rfl ?_ ?_
  · refine db_Rgo (pc' := 28) (lv' := [(0, .ref 669), (1, .int v1)]) (st' := [.int ((s.1 669 43) + (1 : Int32)), .ref 669]) 5 rfl ?_
    refine db_RpuI (pc' := 31) (lv1 := [(0, .ref 669), (1, .int v1)]) rfl rfl rfl rfl rfl rfl (by decide) rfl rfl fun s1 => ?_
    refine db_Rgo (pc' := 45) (lv' := [(2, .int ((201 : Int32) + ((9 : Int32) * v1))), (0, .ref 669), (1, .int v1)]) (st' := [.int ((201 : Int32) + ((9 : Int32) * v1)), .ref 674]) 9 rfl ?_
    refine db_RldI (pc' := 46) (lv1 := [(2, .int ((201 : Int32) + ((9 : Int32) * v1))), (0, .ref 669), (1, .int v1)]) rfl rfl rfl fun x2 => ?_
    refine db_Rgo (pc' := 49) (lv' := [(3, .int x2), (2, .int ((201 : Int32) + ((9 : Int32) * v1))), (0, .ref 669), (1, .int v1)]) (st' := [.int (4 : Int32), .int x2]) 3 rfl ?_
    refine db_Ric (pc' := 52) (tg := 77) (lv1 := [(3, .int x2), (2, .int ((201 : Int32) + ((9 : Int32) * v1))), (0, .ref 669), (1, .int v1)]) rfl rfl rfl rfl ?_ ?_
    · refine db_Rgo (pc' := 79) (lv' := [(0, .ref 669), (1, .int v1), (2, .int ((201 : Int32) + ((9 : Int32) * v1))), (3, .int x2)]) (st' := [.int (4 : Int32), .int x2]) 2 rfl ?_
      refine db_Ric (pc' := 82) (tg := 109) (lv1 := [(0, .ref 669), (1, .int v1), (2, .int ((201 : Int32) + ((9 : Int32) * v1))), (3, .int x2)]) rfl rfl rfl rfl ?_ ?_
      · exact db_f369_b109_ok z368
      refine db_Rgo (pc' := 84) (lv' := [(0, .ref 669), (1, .int v1), (2, .int ((201 : Int32) + ((9 : Int32) * v1))), (3, .int x2)]) (st' := [.int ((201 : Int32) + ((9 : Int32) * v1)), .ref 669]) 2 rfl ?_
      refine db_RcyB (mr' := dbm_373) (as := [.ref 669, .int ((201 : Int32) + ((9 : Int32) * v1))]) (rest := []) (pc' := 87) (lv1 := [(0, .ref 669), (1, .int v1), (2, .int ((201 : Int32) + ((9 : Int32) * v1))), (3, .int x2)]) rfl rfl rfl rfl rfl (db_f373_ok) fun q3 => ?_
      refine db_RifBe (pc' := 90) (tg := 109) (lv1 := [(0, .ref 669), (1, .int v1), (2, .int ((201 : Int32) + ((9 : Int32) * v1))), (3, .int x2)]) rfl rfl rfl rfl ?_ ?_
      · exact db_f369_b109_ok z368
      refine db_Rgo (pc' := 102) (lv' := [(0, .ref 669), (1, .int v1), (2, .int ((201 : Int32) + ((9 : Int32) * v1))), (3, .int x2)]) (st' := [.int (((201 : Int32) + ((9 : Int32) * v1)) + (8 : Int32)), .ref 674, .int (v1 + (1 : Int32)), .ref 669]) 9 rfl ?_
      refine db_RldI (pc' := 103) (lv1 := [(0, .ref 669), (1, .int v1), (2, .int ((201 : Int32) + ((9 : Int32) * v1))), (3, .int x2)]) rfl rfl rfl fun x5 => ?_
      refine db_RcV (mr' := dbm_368) (as := [.ref 669, .int (v1 + (1 : Int32)), .int x5]) (rest := []) (pc' := 106) (lv1 := [(0, .ref 669), (1, .int v1), (2, .int ((201 : Int32) + ((9 : Int32) * v1))), (3, .int x2)]) rfl rfl rfl rfl rfl (z368 _ _ _) fun s7 => ?_
      refine db_Rgo (pc' := 172) (lv' := [(0, .ref 669), (1, .int v1), (2, .int ((201 : Int32) + ((9 : Int32) * v1))), (3, .int x2)]) (st' := []) 1 rfl ?_
      exact db_Rret (lv1 := []) rfl rfl rfl rfl
    refine db_Rgo (pc' := 59) (lv' := [(3, .int x2), (2, .int ((201 : Int32) + ((9 : Int32) * v1))), (0, .ref 669), (1, .int v1)]) (st' := [.int ((201 : Int32) + ((9 : Int32) * v1)), .ref 669, .int (s1.1 669 44), .ref 669]) 5 rfl ?_
    refine db_RcdB (mr' := dbm_370) (as := [.ref 669, .int ((201 : Int32) + ((9 : Int32) * v1))]) (rest := [.int (s1.1 669 44), .ref 669]) (pc' := 62) (lv1 := [(3, .int x2), (2, .int ((201 : Int32) + ((9 : Int32) * v1))), (0, .ref 669), (1, .int v1)]) rfl rfl rfl rfl rfl (db_f370_ok) fun q8 s9 => ?_
    refine db_RifBe (pc' := 65) (tg := 69) (lv1 := [(3, .int x2), (2, .int ((201 : Int32) + ((9 : Int32) * v1))), (0, .ref 669), (1, .int v1)]) rfl rfl rfl rfl ?_ ?_
    · refine db_Rgo (pc' := 70) (lv' := []) (st' := [.int (1 : Int32), .int (s1.1 669 44), .ref 669]) 1 rfl ?_
      exact db_f369_b70_ok z368
    refine db_Rgo (pc' := 70) (lv' := [(3, .int x2), (2, .int ((201 : Int32) + ((9 : Int32) * v1))), (0, .ref 669), (1, .int v1)]) (st' := [.int (0 : Int32), .int (s1.1 669 44), .ref 669]) 2 rfl ?_
    refine db_Rn (lv1 := []) rfl rfl rfl ?_
    exact db_f369_b70_ok z368
  refine db_Rgo (pc' := 12) (lv' := [(0, .ref 669), (1, .int v1)]) (st' := [.int (1 : Int32), .ref 669]) 2 rfl ?_
  refine db_RpuI (pc' := 15) (lv1 := [(0, .ref 669), (1, .int v1)]) rfl rfl rfl rfl rfl rfl (by decide) rfl rfl fun s10 => ?_
  refine db_Rgo (pc' := 17) (lv' := [(0, .ref 669), (1, .int v1)]) (st' := [.int (1 : Int32), .ref 669]) 2 rfl ?_
  refine db_RpuI (pc' := 20) (lv1 := [(0, .ref 669), (1, .int v1)]) rfl rfl rfl rfl rfl rfl (by decide) rfl rfl fun s11 => ?_
  exact db_Rret (lv1 := [(0, .ref 669), (1, .int v1)]) rfl rfl rfl rfl
noncomputable def db_f368_b2 (r368 : db_S → Int32 → Int32 → Option db_S) : Nat → db_S → Int32 → Int32 → Option db_S
  | 0, _, _, _ => none
  | n + 1, s, v2, v3 =>
    (cond (db_cnd .ge v3 v2) (some s) (cond (db_cnd .ne (s.1 669 41) 0) (some s) ((db_f369 r368 s v3).bind fun s2 => ((db_rI s2 674 (((201 : Int32) + ((9 : Int32) * v3)) + (8 : Int32))).bind fun x3 => (db_f368_b2 r368 n s2 v2 x3)))))
theorem db_f368_b2_ok {X : db_X} {d : Nat}  {r368 : db_S → Int32 → Int32 → Option db_S} (z368 : ∀ (s' : db_S) (v1 : Int32) (v2 : Int32) , db_Rf X (d + 7) dbm_368 0 (lv_args 0 [.ref 669, .int v1, .int v2]) [] s' db_zV (r368 s' v1 v2)) (n : Nat) : ∀ (s : db_S) (v2 : Int32) (v3 : Int32), db_Rf X (d + 9) dbm_368 2 [(0, .ref 669), (2, .int v2), (3, .int v3)] [] s db_zV (db_f368_b2 r368 n s v2 v3) := by
  induction n with
  | zero => intros; exact db_Rnone
  | succ n ih =>
    intro s v2 v3
    unfold db_f368_b2
    refine db_Rgo (pc' := 4) (lv' := [(0, .ref 669), (2, .int v2), (3, .int v3)]) (st' := [.int v2, .int v3]) 2 rfl ?_
    refine db_Ric (pc' := 7) (tg := 39) (lv1 := [(0, .ref 669), (2, .int v2), (3, .int v3)]) rfl rfl rfl rfl ?_ ?_
    · exact db_Rret (lv1 := []) rfl rfl rfl rfl
    refine db_Rgo (pc' := 11) (lv' := [(0, .ref 669), (2, .int v2), (3, .int v3)]) (st' := [.int (s.1 669 41)]) 2 rfl ?_
    refine db_Rif (pc' := 14) (tg := 39) (lv1 := [(0, .ref 669), (2, .int v2), (3, .int v3)]) rfl rfl rfl rfl ?_ ?_
    · exact db_Rret (lv1 := []) rfl rfl rfl rfl
    refine db_Rgo (pc' := 16) (lv' := [(0, .ref 669), (2, .int v2), (3, .int v3)]) (st' := [.int v3, .ref 669]) 2 rfl ?_
    refine db_RcV (mr' := dbm_369) (as := [.ref 669, .int v3]) (rest := []) (pc' := 19) (lv1 := [(0, .ref 669), (2, .int v2), (3, .int v3)]) rfl rfl rfl rfl rfl (db_f369_ok z368) fun s2 => ?_
    refine db_Rgo (pc' := 34) (lv' := [(0, .ref 669), (2, .int v2), (3, .int v3)]) (st' := [.int (((201 : Int32) + ((9 : Int32) * v3)) + (8 : Int32)), .ref 674]) 9 rfl ?_
    refine db_RldI (pc' := 35) (lv1 := [(0, .ref 669), (2, .int v2), (3, .int v3)]) rfl rfl rfl fun x3 => ?_
    refine db_Rgo (pc' := 2) (lv' := [(3, .int x3), (0, .ref 669), (2, .int v2)]) (st' := []) 2 rfl ?_
    refine db_Rn (lv1 := [(0, .ref 669), (2, .int v2), (3, .int x3)]) rfl rfl rfl ?_
    exact ih _ _ _
/-- DreamBookModel.doAll(II)V -/
noncomputable def db_f368_e (r368 : db_S → Int32 → Int32 → Option db_S) (s : db_S) (v1 : Int32) (v2 : Int32) : Option db_S :=
  (db_f368_b2 r368 db_FU s v2 v1)
theorem db_f368_e_ok {X : db_X} {d : Nat} {s : db_S} {v1 : Int32} {v2 : Int32} {r368 : db_S → Int32 → Int32 → Option db_S} (z368 : ∀ (s' : db_S) (v1 : Int32) (v2 : Int32) , db_Rf X (d + 7) dbm_368 0 (lv_args 0 [.ref 669, .int v1, .int v2]) [] s' db_zV (r368 s' v1 v2)) : db_Rf X (d + 9) dbm_368 0 (lv_args 0 [.ref 669, .int v1, .int v2]) [] s db_zV (db_f368_e r368 s v1 v2) := by
  show db_Rf _ _ _ 0 [(0, .ref 669), (1, .int v1), (2, .int v2)] [] _ _ _
  unfold db_f368_e
  refine db_Rgo (pc' := 2) (lv' := [(3, .int v1), (0, .ref 669), (1, .int v1), (2, .int v2)]) (st' := []) 2 rfl ?_
  refine db_Rn (lv1 := [(0, .ref 669), (2, .int v2), (3, .int v1)]) rfl rfl rfl ?_
  exact db_f368_b2_ok z368 db_FU _ _ _
noncomputable def db_f368 : Nat → db_S → Int32 → Int32 → Option db_S
  | 0, _, _, _ => none
  | n + 1, s, v1, v2 => db_f368_e (db_f368 n) s v1 v2
theorem db_f368_ok {X : db_X} : ∀ (n e : Nat), 9 + 2 * n ≤ e → ∀ (s : db_S) (v1 : Int32) (v2 : Int32) , db_Rf X e dbm_368 0 (lv_args 0 [.ref 669, .int v1, .int v2]) [] s db_zV (db_f368 n s v1 v2)
  | 0, _, _ => by
    intros
    exact db_Rnone
  | n + 1, e, he => by
    intro s v1 v2
    obtain ⟨d, rfl⟩ : ∃ d, e = d + 9 := ⟨e - 9, by omega⟩
    exact db_f368_e_ok (d := d) (fun _ _ _  => db_f368_ok n (d + 7) (by omega) _ _ _)
/-- DreamBookModel.runs(I)V -/
noncomputable def db_f367 (s : db_S) (v1 : Int32) : Option db_S :=
  ((db_pI s 669 42 v1).bind fun s1 => ((db_pI s1 669 43 (0 : Int32)).bind fun s2 => ((db_pI s2 669 44 (0 : Int32)).bind fun s3 => ((db_pI s3 669 31 (0 : Int32)).bind fun s4 => ((db_pI s4 669 32 (0 : Int32)).bind fun s5 => ((db_pI s5 669 45 (0 : Int32)).bind fun s6 => ((db_pI s6 669 41 (0 : Int32)).bind fun s7 => ((db_rI s7 674 (200 : Int32)).bind fun x8 => ((db_f368 s7 db_FR (0 : Int32) x8).bind fun s10 => (some s10))))))))))
theorem db_f367_ok {X : db_X} {d : Nat} {s : db_S} {v1 : Int32} : db_Rf X (d + 34) dbm_367 0 (lv_args 0 [.ref 669, .int v1]) [] s db_zV (db_f367 s v1) := by
  show db_Rf _ _ _ 0 [(0, .ref 669), (1, .int v1)] [] _ _ _
  unfold db_f367
  refine db_Rgo (pc' := 2) (lv' := [(0, .ref 669), (1, .int v1)]) (st' := [.int v1, .ref 669]) 2 rfl ?_
  refine db_RpuI (pc' := 5) (lv1 := [(0, .ref 669), (1, .int v1)]) rfl rfl rfl rfl rfl rfl (by decide) rfl rfl fun s1 => ?_
  refine db_Rgo (pc' := 7) (lv' := [(0, .ref 669), (1, .int v1)]) (st' := [.int (0 : Int32), .ref 669]) 2 rfl ?_
  refine db_RpuI (pc' := 10) (lv1 := [(0, .ref 669), (1, .int v1)]) rfl rfl rfl rfl rfl rfl (by decide) rfl rfl fun s2 => ?_
  refine db_Rgo (pc' := 12) (lv' := [(0, .ref 669), (1, .int v1)]) (st' := [.int (0 : Int32), .ref 669]) 2 rfl ?_
  refine db_RpuI (pc' := 15) (lv1 := [(0, .ref 669), (1, .int v1)]) rfl rfl rfl rfl rfl rfl (by decide) rfl rfl fun s3 => ?_
  refine db_Rgo (pc' := 17) (lv' := [(0, .ref 669), (1, .int v1)]) (st' := [.int (0 : Int32), .ref 669]) 2 rfl ?_
  refine db_RpuI (pc' := 20) (lv1 := [(0, .ref 669), (1, .int v1)]) rfl rfl rfl rfl rfl rfl (by decide) rfl rfl fun s4 => ?_
  refine db_Rgo (pc' := 22) (lv' := [(0, .ref 669), (1, .int v1)]) (st' := [.int (0 : Int32), .ref 669]) 2 rfl ?_
  refine db_RpuI (pc' := 25) (lv1 := [(0, .ref 669), (1, .int v1)]) rfl rfl rfl rfl rfl rfl (by decide) rfl rfl fun s5 => ?_
  refine db_Rgo (pc' := 27) (lv' := [(0, .ref 669), (1, .int v1)]) (st' := [.int (0 : Int32), .ref 669]) 2 rfl ?_
  refine db_RpuI (pc' := 30) (lv1 := [(0, .ref 669), (1, .int v1)]) rfl rfl rfl rfl rfl rfl (by decide) rfl rfl fun s6 => ?_
  refine db_Rgo (pc' := 32) (lv' := [(0, .ref 669), (1, .int v1)]) (st' := [.int (0 : Int32), .ref 669]) 2 rfl ?_
  refine db_RpuI (pc' := 35) (lv1 := [(0, .ref 669), (1, .int v1)]) rfl rfl rfl rfl rfl rfl (by decide) rfl rfl fun s7 => ?_
  refine db_Rgo (pc' := 44) (lv' := [(0, .ref 669), (1, .int v1)]) (st' := [.int (200 : Int32), .ref 674, .int (0 : Int32), .ref 669]) 5 rfl ?_
  refine db_RldI (pc' := 45) (lv1 := [(0, .ref 669), (1, .int v1)]) rfl rfl rfl fun x8 => ?_
  refine db_RcV (mr' := dbm_368) (as := [.ref 669, .int (0 : Int32), .int x8]) (rest := []) (pc' := 48) (lv1 := [(0, .ref 669), (1, .int v1)]) rfl rfl rfl rfl rfl (db_f368_ok db_FR _ (by unfold db_FR; omega) _ _ _) fun s10 => ?_
  exact db_Rret (lv1 := [(0, .ref 669), (1, .int v1)]) rfl rfl rfl rfl
/-- DreamBookModel.live(I)I -/
noncomputable def db_f366 (s : db_S) (v1 : Int32) : Option (Int32 × db_S) :=
  ((db_pI s 669 1 (0 : Int32)).bind fun s1 => ((db_pI s1 669 0 (0 : Int32)).bind fun s2 => ((db_f269 s2 (Int32.toInt64 v1) (0 : Int64) (9999 : Int64)).bind fun q3 => (cond q3 ((db_rI s2 674 (199 : Int32)).bind fun x5 => (cond (db_cnd .ne x5 0) ((db_rI s2 674 (6 : Int32)).bind fun x6 => ((db_f367 s2 v1).bind fun s8 => ((db_wI s8 683 (0 : Int32) (s8.1 669 44)).bind fun s9 => ((db_rI s9 674 (6 : Int32)).bind fun x10 => ((db_wI s9 683 (1 : Int32) (x10 - x6)).bind fun s11 => ((db_wI s11 683 (2 : Int32) (s11.1 669 31)).bind fun s12 => ((db_wI s12 683 (3 : Int32) (s12.1 669 32)).bind fun s13 => ((db_wI s13 683 (4 : Int32) (s13.1 669 45)).bind fun s14 => ((db_pI s14 669 40 (1 : Int32)).bind fun s15 => (some ((s15.1 669 43), s15))))))))))) (db_bd (db_f281 s2 (8 : Int32)) fun q16 s17 => (some (q16, s17))))) (db_bd (db_f281 s2 (5 : Int32)) fun q18 s19 => (some (q18, s19)))))))
theorem db_f366_ok {X : db_X} {d : Nat} {s : db_S} {v1 : Int32} : db_Rf X (d + 35) dbm_366 0 (lv_args 0 [.ref 669, .int v1]) [] s db_zI (db_f366 s v1) := by
  show db_Rf _ _ _ 0 [(0, .ref 669), (1, .int v1)] [] _ _ _
  unfold db_f366
  refine db_Rgo (pc' := 2) (lv' := [(0, .ref 669), (1, .int v1)]) (st' := [.int (0 : Int32), .ref 669]) 2 rfl ?_
  refine db_RpuI (pc' := 5) (lv1 := [(0, .ref 669), (1, .int v1)]) rfl rfl rfl rfl rfl rfl (by decide) rfl rfl fun s1 => ?_
  refine db_Rgo (pc' := 7) (lv' := [(0, .ref 669), (1, .int v1)]) (st' := [.int (0 : Int32), .ref 669]) 2 rfl ?_
  refine db_RpuI (pc' := 10) (lv1 := [(0, .ref 669), (1, .int v1)]) rfl rfl rfl rfl rfl rfl (by decide) rfl rfl fun s2 => ?_
  refine db_Rgo (pc' := 16) (lv' := [(0, .ref 669), (1, .int v1)]) (st' := [.long (9999 : Int64), .long (0 : Int64), .long (Int32.toInt64 v1)]) 4 rfl ?_
  refine db_RcyB (mr' := dbm_269) (as := [.long (Int32.toInt64 v1), .long (0 : Int64), .long (9999 : Int64)]) (rest := []) (pc' := 19) (lv1 := [(0, .ref 669), (1, .int v1)]) rfl rfl rfl rfl rfl (db_f269_ok) fun q3 => ?_
  refine db_RifBn (pc' := 22) (tg := 28) (lv1 := [(0, .ref 669), (1, .int v1)]) rfl rfl rfl rfl ?_ ?_
  · refine db_Rgo (pc' := 35) (lv' := [(0, .ref 669), (1, .int v1)]) (st' := [.int (199 : Int32), .ref 674]) 3 rfl ?_
    refine db_RldI (pc' := 36) (lv1 := [(0, .ref 669), (1, .int v1)]) rfl rfl rfl fun x5 => ?_
    refine db_Rif (pc' := 39) (tg := 46) (lv1 := [(0, .ref 669), (1, .int v1)]) rfl rfl rfl rfl ?_ ?_
    · refine db_Rgo (pc' := 52) (lv' := [(0, .ref 669), (1, .int v1)]) (st' := [.int (6 : Int32), .ref 674]) 3 rfl ?_
      refine db_RldI (pc' := 53) (lv1 := [(0, .ref 669), (1, .int v1)]) rfl rfl rfl fun x6 => ?_
      refine db_Rgo (pc' := 56) (lv' := [(2, .int x6), (0, .ref 669), (1, .int v1)]) (st' := [.int v1, .ref 669]) 3 rfl ?_
      refine db_RcV (mr' := dbm_367) (as := [.ref 669, .int v1]) (rest := []) (pc' := 59) (lv1 := [(2, .int x6), (0, .ref 669), (1, .int v1)]) rfl rfl rfl rfl rfl (db_f367_ok) fun s8 => ?_
      refine db_Rgo (pc' := 68) (lv' := [(2, .int x6), (0, .ref 669), (1, .int v1)]) (st' := [.int (s8.1 669 44), .int (0 : Int32), .ref 683]) 5 rfl ?_
      refine db_RstI (pc' := 69) (lv1 := [(2, .int x6), (0, .ref 669), (1, .int v1)]) rfl rfl rfl fun s9 => ?_
      refine db_Rgo (pc' := 80) (lv' := [(2, .int x6), (0, .ref 669), (1, .int v1)]) (st' := [.int (6 : Int32), .ref 674, .int (1 : Int32), .ref 683]) 6 rfl ?_
      refine db_RldI (pc' := 81) (lv1 := [(2, .int x6), (0, .ref 669), (1, .int v1)]) rfl rfl rfl fun x10 => ?_
      refine db_Rgo (pc' := 83) (lv' := [(2, .int x6), (0, .ref 669), (1, .int v1)]) (st' := [.int (x10 - x6), .int (1 : Int32), .ref 683]) 2 rfl ?_
      refine db_RstI (pc' := 84) (lv1 := [(2, .int x6), (0, .ref 669), (1, .int v1)]) rfl rfl rfl fun s11 => ?_
      refine db_Rgo (pc' := 93) (lv' := [(2, .int x6), (0, .ref 669), (1, .int v1)]) (st' := [.int (s11.1 669 31), .int (2 : Int32), .ref 683]) 5 rfl ?_
      refine db_RstI (pc' := 94) (lv1 := [(2, .int x6), (0, .ref 669), (1, .int v1)]) rfl rfl rfl fun s12 => ?_
      refine db_Rgo (pc' := 103) (lv' := [(2, .int x6), (0, .ref 669), (1, .int v1)]) (st' := [.int (s12.1 669 32), .int (3 : Int32), .ref 683]) 5 rfl ?_
      refine db_RstI (pc' := 104) (lv1 := [(2, .int x6), (0, .ref 669), (1, .int v1)]) rfl rfl rfl fun s13 => ?_
      refine db_Rgo (pc' := 113) (lv' := [(2, .int x6), (0, .ref 669), (1, .int v1)]) (st' := [.int (s13.1 669 45), .int (4 : Int32), .ref 683]) 5 rfl ?_
      refine db_RstI (pc' := 114) (lv1 := [(2, .int x6), (0, .ref 669), (1, .int v1)]) rfl rfl rfl fun s14 => ?_
      refine db_Rgo (pc' := 116) (lv' := [(2, .int x6), (0, .ref 669), (1, .int v1)]) (st' := [.int (1 : Int32), .ref 669]) 2 rfl ?_
      refine db_RpuI (pc' := 119) (lv1 := [(2, .int x6), (0, .ref 669), (1, .int v1)]) rfl rfl rfl rfl rfl rfl (by decide) rfl rfl fun s15 => ?_
      refine db_Rgo (pc' := 123) (lv' := [(2, .int x6), (0, .ref 669), (1, .int v1)]) (st' := [.int (s15.1 669 43)]) 2 rfl ?_
      exact db_Rret (lv1 := [(2, .int x6), (0, .ref 669), (1, .int v1)]) rfl rfl rfl rfl
    refine db_Rgo (pc' := 42) (lv' := [(0, .ref 669), (1, .int v1)]) (st' := [.int (8 : Int32), .ref 669]) 2 rfl ?_
    refine db_RcdI (mr' := dbm_281) (as := [.ref 669, .int (8 : Int32)]) (rest := []) (pc' := 45) (lv1 := [(0, .ref 669), (1, .int v1)]) rfl rfl rfl rfl rfl (db_f281_ok) fun q16 s17 => ?_
    exact db_Rret (lv1 := [(0, .ref 669), (1, .int v1)]) rfl rfl rfl rfl
  refine db_Rgo (pc' := 24) (lv' := [(0, .ref 669), (1, .int v1)]) (st' := [.int (5 : Int32), .ref 669]) 2 rfl ?_
  refine db_RcdI (mr' := dbm_281) (as := [.ref 669, .int (5 : Int32)]) (rest := []) (pc' := 27) (lv1 := [(0, .ref 669), (1, .int v1)]) rfl rfl rfl rfl rfl (db_f281_ok) fun q18 s19 => ?_
  exact db_Rret (lv1 := [(0, .ref 669), (1, .int v1)]) rfl rfl rfl rfl
/-- DreamBook.lived(I)I -/
noncomputable def db_f201 (s : db_S) (v1 : Int32) : Option (Int32 × db_S) :=
  ((db_f27 s v1 (0 : Int32) (4 : Int32)).bind fun q1 => (cond q1 (cond (db_cnd .eq (s.1 284 0) 0) (db_bd (db_f37 s (8 : Int32)) fun q3 s4 => (some (q3, s4))) ((db_rI s 285 v1).bind fun x5 => (db_bd (db_f87 s x5) fun q6 s7 => (some (q6, s7))))) (db_bd (db_f37 s (5 : Int32)) fun q8 s9 => (some (q8, s9)))))
theorem db_f201_ok {X : db_X} {d : Nat} {s : db_S} {v1 : Int32} : db_Rf X (d + 1) dbm_201 0 (lv_args 0 [.ref 4, .int v1]) [] s db_zI (db_f201 s v1) := by
  show db_Rf _ _ _ 0 [(0, .ref 4), (1, .int v1)] [] _ _ _
  unfold db_f201
  refine db_Rgo (pc' := 3) (lv' := [(0, .ref 4), (1, .int v1)]) (st' := [.int (4 : Int32), .int (0 : Int32), .int v1]) 3 rfl ?_
  refine db_RcyB (mr' := dbm_27) (as := [.int v1, .int (0 : Int32), .int (4 : Int32)]) (rest := []) (pc' := 6) (lv1 := [(0, .ref 4), (1, .int v1)]) rfl rfl rfl rfl rfl (db_f27_ok) fun q1 => ?_
  refine db_RifBn (pc' := 9) (tg := 15) (lv1 := [(0, .ref 4), (1, .int v1)]) rfl rfl rfl rfl ?_ ?_
  · refine db_Rgo (pc' := 22) (lv' := [(0, .ref 4), (1, .int v1)]) (st' := [.int (s.1 284 0)]) 3 rfl ?_
    refine db_Rif (pc' := 25) (tg := 41) (lv1 := [(0, .ref 4), (1, .int v1)]) rfl rfl rfl rfl ?_ ?_
    · refine db_Rgo (pc' := 44) (lv' := [(0, .ref 4)]) (st' := [.int (8 : Int32), .ref 4]) 2 rfl ?_
      refine db_RcdI (mr' := dbm_37) (as := [.ref 4, .int (8 : Int32)]) (rest := []) (pc' := 47) (lv1 := [(0, .ref 4)]) rfl rfl rfl rfl rfl (db_f37_ok) fun q3 s4 => ?_
      exact db_Rret (lv1 := []) rfl rfl rfl rfl
    refine db_Rgo (pc' := 34) (lv' := [(0, .ref 4), (1, .int v1)]) (st' := [.int v1, .ref 285, .ref 4]) 5 rfl ?_
    refine db_RldI (pc' := 35) (lv1 := [(0, .ref 4), (1, .int v1)]) rfl rfl rfl fun x5 => ?_
    refine db_RcdI (mr' := dbm_87) (as := [.ref 4, .int x5]) (rest := []) (pc' := 38) (lv1 := [(0, .ref 4), (1, .int v1)]) rfl rfl rfl rfl rfl (db_f87_ok) fun q6 s7 => ?_
    refine db_Rgo (pc' := 47) (lv' := [(0, .ref 4), (1, .int v1)]) (st' := [.int q6]) 1 rfl ?_
    exact db_Rret (lv1 := []) rfl rfl rfl rfl
  refine db_Rgo (pc' := 11) (lv' := [(0, .ref 4), (1, .int v1)]) (st' := [.int (5 : Int32), .ref 4]) 2 rfl ?_
  refine db_RcdI (mr' := dbm_37) (as := [.ref 4, .int (5 : Int32)]) (rest := []) (pc' := 14) (lv1 := [(0, .ref 4), (1, .int v1)]) rfl rfl rfl rfl rfl (db_f37_ok) fun q8 s9 => ?_
  exact db_Rret (lv1 := [(0, .ref 4), (1, .int v1)]) rfl rfl rfl rfl
/-- DreamBookModel.lived(I)I -/
noncomputable def db_f374 (s : db_S) (v1 : Int32) : Option (Int32 × db_S) :=
  ((db_pI s 669 1 (0 : Int32)).bind fun s1 => ((db_pI s1 669 0 (0 : Int32)).bind fun s2 => ((db_f269 s2 (Int32.toInt64 v1) (0 : Int64) (4 : Int64)).bind fun q3 => (cond q3 (cond (db_cnd .eq (s2.1 669 40) 0) (db_bd (db_f281 s2 (8 : Int32)) fun q5 s6 => (some (q5, s6))) ((db_rI s2 683 v1).bind fun x7 => (some (x7, s2)))) (db_bd (db_f281 s2 (5 : Int32)) fun q8 s9 => (some (q8, s9)))))))
theorem db_f374_ok {X : db_X} {d : Nat} {s : db_S} {v1 : Int32} : db_Rf X (d + 1) dbm_374 0 (lv_args 0 [.ref 669, .int v1]) [] s db_zI (db_f374 s v1) := by
  show db_Rf _ _ _ 0 [(0, .ref 669), (1, .int v1)] [] _ _ _
  unfold db_f374
  refine db_Rgo (pc' := 2) (lv' := [(0, .ref 669), (1, .int v1)]) (st' := [.int (0 : Int32), .ref 669]) 2 rfl ?_
  refine db_RpuI (pc' := 5) (lv1 := [(0, .ref 669), (1, .int v1)]) rfl rfl rfl rfl rfl rfl (by decide) rfl rfl fun s1 => ?_
  refine db_Rgo (pc' := 7) (lv' := [(0, .ref 669), (1, .int v1)]) (st' := [.int (0 : Int32), .ref 669]) 2 rfl ?_
  refine db_RpuI (pc' := 10) (lv1 := [(0, .ref 669), (1, .int v1)]) rfl rfl rfl rfl rfl rfl (by decide) rfl rfl fun s2 => ?_
  refine db_Rgo (pc' := 16) (lv' := [(0, .ref 669), (1, .int v1)]) (st' := [.long (4 : Int64), .long (0 : Int64), .long (Int32.toInt64 v1)]) 4 rfl ?_
  refine db_RcyB (mr' := dbm_269) (as := [.long (Int32.toInt64 v1), .long (0 : Int64), .long (4 : Int64)]) (rest := []) (pc' := 19) (lv1 := [(0, .ref 669), (1, .int v1)]) rfl rfl rfl rfl rfl (db_f269_ok) fun q3 => ?_
  refine db_RifBn (pc' := 22) (tg := 28) (lv1 := [(0, .ref 669), (1, .int v1)]) rfl rfl rfl rfl ?_ ?_
  · refine db_Rgo (pc' := 32) (lv' := [(0, .ref 669), (1, .int v1)]) (st' := [.int (s2.1 669 40)]) 2 rfl ?_
    refine db_Rif (pc' := 35) (tg := 44) (lv1 := [(0, .ref 669), (1, .int v1)]) rfl rfl rfl rfl ?_ ?_
    · refine db_Rgo (pc' := 47) (lv' := [(0, .ref 669)]) (st' := [.int (8 : Int32), .ref 669]) 2 rfl ?_
      refine db_RcdI (mr' := dbm_281) (as := [.ref 669, .int (8 : Int32)]) (rest := []) (pc' := 50) (lv1 := [(0, .ref 669)]) rfl rfl rfl rfl rfl (db_f281_ok) fun q5 s6 => ?_
      exact db_Rret (lv1 := []) rfl rfl rfl rfl
    refine db_Rgo (pc' := 40) (lv' := [(0, .ref 669), (1, .int v1)]) (st' := [.int v1, .ref 683]) 3 rfl ?_
    refine db_RldI (pc' := 41) (lv1 := [(0, .ref 669), (1, .int v1)]) rfl rfl rfl fun x7 => ?_
    refine db_Rgo (pc' := 50) (lv' := [(0, .ref 669), (1, .int v1)]) (st' := [.int x7]) 1 rfl ?_
    exact db_Rret (lv1 := []) rfl rfl rfl rfl
  refine db_Rgo (pc' := 24) (lv' := [(0, .ref 669), (1, .int v1)]) (st' := [.int (5 : Int32), .ref 669]) 2 rfl ?_
  refine db_RcdI (mr' := dbm_281) (as := [.ref 669, .int (5 : Int32)]) (rest := []) (pc' := 27) (lv1 := [(0, .ref 669), (1, .int v1)]) rfl rfl rfl rfl rfl (db_f281_ok) fun q8 s9 => ?_
  exact db_Rret (lv1 := [(0, .ref 669), (1, .int v1)]) rfl rfl rfl rfl
/-- DreamBook$Life.copyFrom(LDreamBook$Life;)V -/
noncomputable def db_f175_287_80 (s : db_S) : Option db_S :=
  ((db_f83 s 81 288).bind fun s2 => ((db_f83 s2 82 289).bind fun s4 => ((db_pI s4 287 2 (s4.1 80 2)).bind fun s5 => ((db_pI s5 287 3 (s5.1 80 3)).bind fun s6 => (some s6)))))
theorem db_f175_287_80_ok {X : db_X} {d : Nat} {s : db_S} : db_Rf X (d + 1) dbm_175 0 (lv_args 0 [.ref 287, .ref 80]) [] s db_zV (db_f175_287_80 s ) := by
  show db_Rf _ _ _ 0 [(0, .ref 287), (1, .ref 80)] [] _ _ _
  unfold db_f175_287_80
  refine db_Rgo (pc' := 8) (lv' := [(0, .ref 287), (1, .ref 80)]) (st' := [.ref 288, .ref 81]) 4 rfl ?_
  refine db_RcV (mr' := dbm_83) (as := [.ref 81, .ref 288]) (rest := []) (pc' := 11) (lv1 := [(0, .ref 287), (1, .ref 80)]) rfl rfl rfl rfl rfl (db_f83_ok) fun s2 => ?_
  refine db_Rgo (pc' := 19) (lv' := [(0, .ref 287), (1, .ref 80)]) (st' := [.ref 289, .ref 82]) 4 rfl ?_
  refine db_RcV (mr' := dbm_83) (as := [.ref 82, .ref 289]) (rest := []) (pc' := 22) (lv1 := [(0, .ref 287), (1, .ref 80)]) rfl rfl rfl rfl rfl (db_f83_ok) fun s4 => ?_
  refine db_Rgo (pc' := 27) (lv' := [(0, .ref 287), (1, .ref 80)]) (st' := [.int (s4.1 80 2), .ref 287]) 3 rfl ?_
  refine db_RpuI (pc' := 30) (lv1 := [(0, .ref 287), (1, .ref 80)]) rfl rfl rfl rfl rfl rfl (by decide) rfl rfl fun s5 => ?_
  refine db_Rgo (pc' := 35) (lv' := [(0, .ref 287), (1, .ref 80)]) (st' := [.int (s5.1 80 3), .ref 287]) 3 rfl ?_
  refine db_RpuI (pc' := 38) (lv1 := [(0, .ref 287), (1, .ref 80)]) rfl rfl rfl rfl rfl rfl (by decide) rfl rfl fun s6 => ?_
  exact db_Rret (lv1 := [(0, .ref 287), (1, .ref 80)]) rfl rfl rfl rfl
/-- DreamBook$Life.copyFrom(LDreamBook$Life;)V -/
noncomputable def db_f175_80_287 (s : db_S) : Option db_S :=
  ((db_f83 s 288 81).bind fun s2 => ((db_f83 s2 289 82).bind fun s4 => ((db_pI s4 80 2 (s4.1 287 2)).bind fun s5 => ((db_pI s5 80 3 (s5.1 287 3)).bind fun s6 => (some s6)))))
theorem db_f175_80_287_ok {X : db_X} {d : Nat} {s : db_S} : db_Rf X (d + 1) dbm_175 0 (lv_args 0 [.ref 80, .ref 287]) [] s db_zV (db_f175_80_287 s ) := by
  show db_Rf _ _ _ 0 [(0, .ref 80), (1, .ref 287)] [] _ _ _
  unfold db_f175_80_287
  refine db_Rgo (pc' := 8) (lv' := [(0, .ref 80), (1, .ref 287)]) (st' := [.ref 81, .ref 288]) 4 rfl ?_
  refine db_RcV (mr' := dbm_83) (as := [.ref 288, .ref 81]) (rest := []) (pc' := 11) (lv1 := [(0, .ref 80), (1, .ref 287)]) rfl rfl rfl rfl rfl (db_f83_ok) fun s2 => ?_
  refine db_Rgo (pc' := 19) (lv' := [(0, .ref 80), (1, .ref 287)]) (st' := [.ref 82, .ref 289]) 4 rfl ?_
  refine db_RcV (mr' := dbm_83) (as := [.ref 289, .ref 82]) (rest := []) (pc' := 22) (lv1 := [(0, .ref 80), (1, .ref 287)]) rfl rfl rfl rfl rfl (db_f83_ok) fun s4 => ?_
  refine db_Rgo (pc' := 27) (lv' := [(0, .ref 80), (1, .ref 287)]) (st' := [.int (s4.1 287 2), .ref 80]) 3 rfl ?_
  refine db_RpuI (pc' := 30) (lv1 := [(0, .ref 80), (1, .ref 287)]) rfl rfl rfl rfl rfl rfl (by decide) rfl rfl fun s5 => ?_
  refine db_Rgo (pc' := 35) (lv' := [(0, .ref 80), (1, .ref 287)]) (st' := [.int (s5.1 287 3), .ref 80]) 3 rfl ?_
  refine db_RpuI (pc' := 38) (lv1 := [(0, .ref 80), (1, .ref 287)]) rfl rfl rfl rfl rfl rfl (by decide) rfl rfl fun s6 => ?_
  exact db_Rret (lv1 := [(0, .ref 80), (1, .ref 287)]) rfl rfl rfl rfl
noncomputable def db_f203_b17 : Nat → db_S → Int32 → Int32 → Int32 → Int64 → Int32 → Option (Int64 × db_S)
  | 0, _, _, _, _, _, _ => none
  | n + 1, s, v1, v2, v3, v4, v6 =>
    (cond (db_cnd .ge v6 v3) (some (v4, s)) (db_bd (db_f194 s (v2 + v6)) fun q1 s2 => ((db_rI s2 82 v1).bind fun x3 => ((db_f175_80_287 s2).bind fun s5 => (db_f203_b17 n s5 v1 v2 v3 (v4 + (Int32.toInt64 x3)) (v6 + (1 : Int32)))))))
theorem db_f203_b17_ok {X : db_X} {d : Nat}  (n : Nat) : ∀ (s : db_S) (v1 : Int32) (v2 : Int32) (v3 : Int32) (v4 : Int64) (v6 : Int32), db_Rf X (d + 6) dbm_203 17 [(0, .ref 284), (1, .int v1), (2, .int v2), (3, .int v3), (4, .long v4), (6, .int v6)] [] s db_zL (db_f203_b17 n s v1 v2 v3 v4 v6) := by
  induction n with
  | zero => intros; exact db_Rnone
  | succ n ih =>
    intro s v1 v2 v3 v4 v6
    unfold db_f203_b17
    refine db_Rgo (pc' := 20) (lv' := [(0, .ref 284), (1, .int v1), (2, .int v2), (3, .int v3), (4, .long v4), (6, .int v6)]) (st' := [.int v3, .int v6]) 2 rfl ?_
    refine db_Ric (pc' := 23) (tg := 64) (lv1 := [(0, .ref 284), (1, .int v1), (2, .int v2), (3, .int v3), (4, .long v4), (6, .int v6)]) rfl rfl rfl rfl ?_ ?_
    · refine db_Rgo (pc' := 66) (lv' := [(4, .long v4)]) (st' := [.long v4]) 1 rfl ?_
      exact db_Rret (lv1 := [(4, .long v4)]) rfl rfl rfl rfl
    refine db_Rgo (pc' := 28) (lv' := [(0, .ref 284), (1, .int v1), (2, .int v2), (3, .int v3), (4, .long v4), (6, .int v6)]) (st' := [.int (v2 + v6), .ref 284]) 4 rfl ?_
    refine db_RcdI (mr' := dbm_194) (as := [.ref 284, .int (v2 + v6)]) (rest := []) (pc' := 31) (lv1 := [(0, .ref 284), (1, .int v1), (2, .int v2), (3, .int v3), (4, .long v4), (6, .int v6)]) rfl rfl rfl rfl rfl (db_f194_ok) fun q1 s2 => ?_
    refine db_Rgo (pc' := 42) (lv' := [(0, .ref 284), (1, .int v1), (2, .int v2), (3, .int v3), (4, .long v4), (6, .int v6)]) (st' := [.int v1, .ref 82, .long v4]) 6 rfl ?_
    refine db_RldI (pc' := 43) (lv1 := [(0, .ref 284), (1, .int v1), (2, .int v2), (3, .int v3), (4, .long v4), (6, .int v6)]) rfl rfl rfl fun x3 => ?_
    refine db_Rgo (pc' := 55) (lv' := [(4, .long (v4 + (Int32.toInt64 x3))), (0, .ref 284), (1, .int v1), (2, .int v2), (3, .int v3), (6, .int v6)]) (st' := [.ref 287, .ref 80]) 7 rfl ?_
    refine db_RcV (mr' := dbm_175) (as := [.ref 80, .ref 287]) (rest := []) (pc' := 58) (lv1 := [(4, .long (v4 + (Int32.toInt64 x3))), (0, .ref 284), (1, .int v1), (2, .int v2), (3, .int v3), (6, .int v6)]) rfl rfl rfl rfl rfl (db_f175_80_287_ok) fun s5 => ?_
    refine db_Rgo (pc' := 17) (lv' := [(6, .int (v6 + (1 : Int32))), (4, .long (v4 + (Int32.toInt64 x3))), (0, .ref 284), (1, .int v1), (2, .int v2), (3, .int v3)]) (st' := []) 2 rfl ?_
    refine db_Rn (lv1 := [(0, .ref 284), (1, .int v1), (2, .int v2), (3, .int v3), (4, .long (v4 + (Int32.toInt64 x3))), (6, .int (v6 + (1 : Int32)))]) rfl rfl rfl ?_
    exact ih _ _ _ _ _ _
/-- DreamBook$Runner.addSums(III)J -/
noncomputable def db_f203 (s : db_S) (v1 : Int32) (v2 : Int32) (v3 : Int32) : Option (Int64 × db_S) :=
  ((db_f175_287_80 s).bind fun s2 => (db_f203_b17 db_FU s2 v1 v2 v3 (0 : Int64) (0 : Int32)))
theorem db_f203_ok {X : db_X} {d : Nat} {s : db_S} {v1 : Int32} {v2 : Int32} {v3 : Int32} : db_Rf X (d + 6) dbm_203 0 (lv_args 0 [.ref 284, .int v1, .int v2, .int v3]) [] s db_zL (db_f203 s v1 v2 v3) := by
  show db_Rf _ _ _ 0 [(0, .ref 284), (1, .int v1), (2, .int v2), (3, .int v3)] [] _ _ _
  unfold db_f203
  refine db_Rgo (pc' := 11) (lv' := [(4, .long (0 : Int64)), (0, .ref 284), (1, .int v1), (2, .int v2), (3, .int v3)]) (st' := [.ref 80, .ref 287]) 6 rfl ?_
  refine db_RcV (mr' := dbm_175) (as := [.ref 287, .ref 80]) (rest := []) (pc' := 14) (lv1 := [(4, .long (0 : Int64)), (0, .ref 284), (1, .int v1), (2, .int v2), (3, .int v3)]) rfl rfl rfl rfl rfl (db_f175_287_80_ok) fun s2 => ?_
  refine db_Rgo (pc' := 17) (lv' := [(6, .int (0 : Int32)), (4, .long (0 : Int64)), (0, .ref 284), (1, .int v1), (2, .int v2), (3, .int v3)]) (st' := []) 2 rfl ?_
  refine db_Rn (lv1 := [(0, .ref 284), (1, .int v1), (2, .int v2), (3, .int v3), (4, .long (0 : Int64)), (6, .int (0 : Int32))]) rfl rfl rfl ?_
  exact db_f203_b17_ok db_FU _ _ _ _ _ _
noncomputable def db_f202_b40 (s : db_S) : Option (Bool × db_S) :=
  (db_bd (db_f28 s (5 : Int32)) fun q1 s2 => (some (q1, s2)))
theorem db_f202_b40_ok {X : db_X} {d : Nat}  {s : db_S} : db_Rf X (d + 7) dbm_202 40 [(0, .ref 4)] [] s db_zB (db_f202_b40 s ) := by
  unfold db_f202_b40
  refine db_Rgo (pc' := 42) (lv' := [(0, .ref 4)]) (st' := [.int (5 : Int32), .ref 4]) 2 rfl ?_
  refine db_RcdB (mr' := dbm_28) (as := [.ref 4, .int (5 : Int32)]) (rest := []) (pc' := 45) (lv1 := [(0, .ref 4)]) rfl rfl rfl rfl rfl (db_f28_ok) fun q1 s2 => ?_
  exact db_RretB (lv1 := [(0, .ref 4)]) rfl rfl rfl rfl
/-- DreamBook.mean(III)Z -/
noncomputable def db_f202 (s : db_S) (v1 : Int32) (v2 : Int32) (v3 : Int32) : Option (Bool × db_S) :=
  ((db_f103 s (1 : Int32) v1).bind fun q1 => (cond q1 ((db_f27 s v3 (1 : Int32) (20 : Int32)).bind fun q3 => (cond q3 ((db_f27 s v2 (0 : Int32) (((9999 : Int32) - v3) + (1 : Int32))).bind fun q5 => (cond q5 (cond (db_cnd .ne (s.1 83 0) 0) (db_bd (db_f203 s v1 v2 v3) fun q7 s8 => ((db_f189 s8 q7 (Int32.toInt64 v3)).bind fun s10 => (db_bd (db_f31 s10) fun q11 s12 => (some (q11, s12))))) (db_bd (db_f28 s (8 : Int32)) fun q13 s14 => (some (q13, s14)))) (db_f202_b40 s ))) (db_f202_b40 s ))) (db_bd (db_f28 s (2 : Int32)) fun q15 s16 => (some (q15, s16)))))
theorem db_f202_ok {X : db_X} {d : Nat} {s : db_S} {v1 : Int32} {v2 : Int32} {v3 : Int32} : db_Rf X (d + 7) dbm_202 0 (lv_args 0 [.ref 4, .int v1, .int v2, .int v3]) [] s db_zB (db_f202 s v1 v2 v3) := by
  show db_Rf _ _ _ 0 [(0, .ref 4), (1, .int v1), (2, .int v2), (3, .int v3)] [] _ _ _
  unfold db_f202
  refine db_Rgo (pc' := 3) (lv' := [(0, .ref 4), (1, .int v1), (2, .int v2), (3, .int v3)]) (st' := [.int v1, .int (1 : Int32), .ref 4]) 3 rfl ?_
  refine db_RcyB (mr' := dbm_103) (as := [.ref 4, .int (1 : Int32), .int v1]) (rest := []) (pc' := 6) (lv1 := [(0, .ref 4), (1, .int v1), (2, .int v2), (3, .int v3)]) rfl rfl rfl rfl rfl (db_f103_ok) fun q1 => ?_
  refine db_RifBn (pc' := 9) (tg := 15) (lv1 := [(0, .ref 4), (1, .int v1), (2, .int v2), (3, .int v3)]) rfl rfl rfl rfl ?_ ?_
  · refine db_Rgo (pc' := 19) (lv' := [(0, .ref 4), (1, .int v1), (2, .int v2), (3, .int v3)]) (st' := [.int (20 : Int32), .int (1 : Int32), .int v3]) 3 rfl ?_
    refine db_RcyB (mr' := dbm_27) (as := [.int v3, .int (1 : Int32), .int (20 : Int32)]) (rest := []) (pc' := 22) (lv1 := [(0, .ref 4), (1, .int v1), (2, .int v2), (3, .int v3)]) rfl rfl rfl rfl rfl (db_f27_ok) fun q3 => ?_
    refine db_RifBe (pc' := 25) (tg := 40) (lv1 := [(0, .ref 4), (1, .int v1), (2, .int v2), (3, .int v3)]) rfl rfl rfl rfl ?_ ?_
    · refine db_Rn (lv1 := [(0, .ref 4)]) rfl rfl rfl ?_
      exact db_f202_b40_ok
    refine db_Rgo (pc' := 34) (lv' := [(0, .ref 4), (1, .int v1), (2, .int v2), (3, .int v3)]) (st' := [.int (((9999 : Int32) - v3) + (1 : Int32)), .int (0 : Int32), .int v2]) 7 rfl ?_
    refine db_RcyB (mr' := dbm_27) (as := [.int v2, .int (0 : Int32), .int (((9999 : Int32) - v3) + (1 : Int32))]) (rest := []) (pc' := 37) (lv1 := [(0, .ref 4), (1, .int v1), (2, .int v2), (3, .int v3)]) rfl rfl rfl rfl rfl (db_f27_ok) fun q5 => ?_
    refine db_RifBn (pc' := 40) (tg := 46) (lv1 := [(0, .ref 4), (1, .int v1), (2, .int v2), (3, .int v3)]) rfl rfl rfl rfl ?_ ?_
    · refine db_Rgo (pc' := 53) (lv' := [(0, .ref 4), (1, .int v1), (2, .int v2), (3, .int v3)]) (st' := [.int (s.1 83 0)]) 3 rfl ?_
      refine db_Rif (pc' := 56) (tg := 63) (lv1 := [(0, .ref 4), (1, .int v1), (2, .int v2), (3, .int v3)]) rfl rfl rfl rfl ?_ ?_
      · refine db_Rgo (pc' := 74) (lv' := [(0, .ref 4), (1, .int v1), (2, .int v2), (3, .int v3)]) (st' := [.int v3, .int v2, .int v1, .ref 284, .ref 282]) 7 rfl ?_
        refine db_RcdL (mr' := dbm_203) (as := [.ref 284, .int v1, .int v2, .int v3]) (rest := [.ref 282]) (pc' := 77) (lv1 := [(0, .ref 4), (1, .int v1), (2, .int v2), (3, .int v3)]) rfl rfl rfl rfl rfl (db_f203_ok) fun q7 s8 => ?_
        refine db_Rgo (pc' := 79) (lv' := [(0, .ref 4), (1, .int v1), (2, .int v2), (3, .int v3)]) (st' := [.long (Int32.toInt64 v3), .long q7, .ref 282]) 2 rfl ?_
        refine db_RcV (mr' := dbm_189) (as := [.ref 282, .long q7, .long (Int32.toInt64 v3)]) (rest := []) (pc' := 82) (lv1 := [(0, .ref 4), (1, .int v1), (2, .int v2), (3, .int v3)]) rfl rfl rfl rfl rfl (db_f189_ok) fun s10 => ?_
        refine db_Rgo (pc' := 83) (lv' := [(0, .ref 4), (1, .int v1), (2, .int v2), (3, .int v3)]) (st' := [.ref 4]) 1 rfl ?_
        refine db_RcdB (mr' := dbm_31) (as := [.ref 4]) (rest := []) (pc' := 86) (lv1 := [(0, .ref 4), (1, .int v1), (2, .int v2), (3, .int v3)]) rfl rfl rfl rfl rfl (db_f31_ok) fun q11 s12 => ?_
        exact db_RretB (lv1 := [(0, .ref 4), (1, .int v1), (2, .int v2), (3, .int v3)]) rfl rfl rfl rfl
      refine db_Rgo (pc' := 59) (lv' := [(0, .ref 4), (1, .int v1), (2, .int v2), (3, .int v3)]) (st' := [.int (8 : Int32), .ref 4]) 2 rfl ?_
      refine db_RcdB (mr' := dbm_28) (as := [.ref 4, .int (8 : Int32)]) (rest := []) (pc' := 62) (lv1 := [(0, .ref 4), (1, .int v1), (2, .int v2), (3, .int v3)]) rfl rfl rfl rfl rfl (db_f28_ok) fun q13 s14 => ?_
      exact db_RretB (lv1 := [(0, .ref 4), (1, .int v1), (2, .int v2), (3, .int v3)]) rfl rfl rfl rfl
    refine db_Rn (lv1 := [(0, .ref 4)]) rfl rfl rfl ?_
    exact db_f202_b40_ok
  refine db_Rgo (pc' := 11) (lv' := [(0, .ref 4), (1, .int v1), (2, .int v2), (3, .int v3)]) (st' := [.int (2 : Int32), .ref 4]) 2 rfl ?_
  refine db_RcdB (mr' := dbm_28) (as := [.ref 4, .int (2 : Int32)]) (rest := []) (pc' := 14) (lv1 := [(0, .ref 4), (1, .int v1), (2, .int v2), (3, .int v3)]) rfl rfl rfl rfl rfl (db_f28_ok) fun q15 s16 => ?_
  exact db_RretB (lv1 := [(0, .ref 4), (1, .int v1), (2, .int v2), (3, .int v3)]) rfl rfl rfl rfl
noncomputable def db_f375_b51 (s : db_S) : Option (Bool × db_S) :=
  (db_bd (db_f211 s (5 : Int32)) fun q1 s2 => (some (q1, s2)))
theorem db_f375_b51_ok {X : db_X} {d : Nat}  {s : db_S} : db_Rf X (d + 35) dbm_375 51 [(0, .ref 669)] [] s db_zB (db_f375_b51 s ) := by
  unfold db_f375_b51
  refine db_Rgo (pc' := 53) (lv' := [(0, .ref 669)]) (st' := [.int (5 : Int32), .ref 669]) 2 rfl ?_
  refine db_RcdB (mr' := dbm_211) (as := [.ref 669, .int (5 : Int32)]) (rest := []) (pc' := 56) (lv1 := [(0, .ref 669)]) rfl rfl rfl rfl rfl (db_f211_ok) fun q1 s2 => ?_
  exact db_RretB (lv1 := [(0, .ref 669)]) rfl rfl rfl rfl
noncomputable def db_f375_b144 (h112 : db_S → Int32 → Int32 → Int32 → Int64 → Int32 → Option (Bool × db_S)) : Nat → db_S → Int32 → Int32 → Int32 → Int64 → Int32 → Int32 → Option (Bool × db_S)
  | 0, _, _, _, _, _, _, _ => none
  | n + 1, s, v1, v2, v3, v4, v6, v7 =>
    (cond (db_cnd .ge v7 (199 : Int32)) (h112 s v1 v2 v3 v4 (v6 + (1 : Int32))) ((db_rI s 684 v7).bind fun x1 => ((db_wI s 674 v7 x1).bind fun s2 => (db_f375_b144 h112 n s2 v1 v2 v3 v4 v6 (v7 + (1 : Int32))))))
theorem db_f375_b144_ok {X : db_X} {d : Nat}  {h112 : db_S → Int32 → Int32 → Int32 → Int64 → Int32 → Option (Bool × db_S)} (zh112 : ∀ (s' : db_S) (v1 : Int32) (v2 : Int32) (v3 : Int32) (v4 : Int64) (v6 : Int32) , db_Rf X (d + 35) dbm_375 112 [(0, .ref 669), (1, .int v1), (2, .int v2), (3, .int v3), (4, .long v4), (6, .int v6)] [] s' db_zB (h112 s' v1 v2 v3 v4 v6)) (n : Nat) : ∀ (s : db_S) (v1 : Int32) (v2 : Int32) (v3 : Int32) (v4 : Int64) (v6 : Int32) (v7 : Int32), db_Rf X (d + 35) dbm_375 144 [(0, .ref 669), (1, .int v1), (2, .int v2), (3, .int v3), (4, .long v4), (6, .int v6), (7, .int v7)] [] s db_zB (db_f375_b144 h112 n s v1 v2 v3 v4 v6 v7) := by
  induction n with
  | zero => intros; exact db_Rnone
  | succ n ih =>
    intro s v1 v2 v3 v4 v6 v7
    unfold db_f375_b144
    refine db_Rgo (pc' := 149) (lv' := [(0, .ref 669), (1, .int v1), (2, .int v2), (3, .int v3), (4, .long v4), (6, .int v6), (7, .int v7)]) (st' := [.int (199 : Int32), .int v7]) 2 rfl ?_
    refine db_Ric (pc' := 152) (tg := 172) (lv1 := [(0, .ref 669), (1, .int v1), (2, .int v2), (3, .int v3), (4, .long v4), (6, .int v6), (7, .int v7)]) rfl rfl rfl rfl ?_ ?_
    · refine db_Rgo (pc' := 112) (lv' := [(6, .int (v6 + (1 : Int32))), (0, .ref 669), (1, .int v1), (2, .int v2), (3, .int v3), (4, .long v4)]) (st' := []) 2 rfl ?_
      refine db_Rn (lv1 := [(0, .ref 669), (1, .int v1), (2, .int v2), (3, .int v3), (4, .long v4), (6, .int (v6 + (1 : Int32)))]) rfl rfl rfl ?_
      exact zh112 _ _ _ _ _ _
    refine db_Rgo (pc' := 164) (lv' := [(0, .ref 669), (1, .int v1), (2, .int v2), (3, .int v3), (4, .long v4), (6, .int v6), (7, .int v7)]) (st' := [.int v7, .ref 684, .int v7, .ref 674]) 6 rfl ?_
    refine db_RldI (pc' := 165) (lv1 := [(0, .ref 669), (1, .int v1), (2, .int v2), (3, .int v3), (4, .long v4), (6, .int v6), (7, .int v7)]) rfl rfl rfl fun x1 => ?_
    refine db_RstI (pc' := 166) (lv1 := [(0, .ref 669), (1, .int v1), (2, .int v2), (3, .int v3), (4, .long v4), (6, .int v6), (7, .int v7)]) rfl rfl rfl fun s2 => ?_
    refine db_Rgo (pc' := 144) (lv' := [(7, .int (v7 + (1 : Int32))), (0, .ref 669), (1, .int v1), (2, .int v2), (3, .int v3), (4, .long v4), (6, .int v6)]) (st' := []) 2 rfl ?_
    refine db_Rn (lv1 := [(0, .ref 669), (1, .int v1), (2, .int v2), (3, .int v3), (4, .long v4), (6, .int v6), (7, .int (v7 + (1 : Int32)))]) rfl rfl rfl ?_
    exact ih _ _ _ _ _ _ _
noncomputable def db_f375_b112 : Nat → db_S → Int32 → Int32 → Int32 → Int64 → Int32 → Option (Bool × db_S)
  | 0, _, _, _, _, _, _ => none
  | n + 1, s, v1, v2, v3, v4, v6 =>
    (cond (db_cnd .ge v6 v3) (db_bd (db_f364 s v4 (Int32.toInt64 v3)) fun q1 s2 => (some (q1, s2))) ((db_f367 s (v2 + v6)).bind fun s4 => ((db_rI s4 674 ((12 : Int32) + v1)).bind fun x5 => (db_f375_b144 (db_f375_b112 n) db_FU s4 v1 v2 v3 (v4 + (Int32.toInt64 x5)) v6 (0 : Int32)))))
theorem db_f375_b112_ok {X : db_X} {d : Nat}  (n : Nat) : ∀ (s : db_S) (v1 : Int32) (v2 : Int32) (v3 : Int32) (v4 : Int64) (v6 : Int32), db_Rf X (d + 35) dbm_375 112 [(0, .ref 669), (1, .int v1), (2, .int v2), (3, .int v3), (4, .long v4), (6, .int v6)] [] s db_zB (db_f375_b112 n s v1 v2 v3 v4 v6) := by
  induction n with
  | zero => intros; exact db_Rnone
  | succ n ih =>
    intro s v1 v2 v3 v4 v6
    unfold db_f375_b112
    refine db_Rgo (pc' := 115) (lv' := [(0, .ref 669), (1, .int v1), (2, .int v2), (3, .int v3), (4, .long v4), (6, .int v6)]) (st' := [.int v3, .int v6]) 2 rfl ?_
    refine db_Ric (pc' := 118) (tg := 178) (lv1 := [(0, .ref 669), (1, .int v1), (2, .int v2), (3, .int v3), (4, .long v4), (6, .int v6)]) rfl rfl rfl rfl ?_ ?_
    · refine db_Rgo (pc' := 183) (lv' := [(0, .ref 669), (3, .int v3), (4, .long v4)]) (st' := [.long (Int32.toInt64 v3), .long v4, .ref 669]) 4 rfl ?_
      refine db_RcdB (mr' := dbm_364) (as := [.ref 669, .long v4, .long (Int32.toInt64 v3)]) (rest := []) (pc' := 186) (lv1 := [(0, .ref 669), (3, .int v3), (4, .long v4)]) rfl rfl rfl rfl rfl (db_f364_ok) fun q1 s2 => ?_
      exact db_RretB (lv1 := [(0, .ref 669), (3, .int v3), (4, .long v4)]) rfl rfl rfl rfl
    refine db_Rgo (pc' := 123) (lv' := [(0, .ref 669), (1, .int v1), (2, .int v2), (3, .int v3), (4, .long v4), (6, .int v6)]) (st' := [.int (v2 + v6), .ref 669]) 4 rfl ?_
    refine db_RcV (mr' := dbm_367) (as := [.ref 669, .int (v2 + v6)]) (rest := []) (pc' := 126) (lv1 := [(0, .ref 669), (1, .int v1), (2, .int v2), (3, .int v3), (4, .long v4), (6, .int v6)]) rfl rfl rfl rfl rfl (db_f367_ok) fun s4 => ?_
    refine db_Rgo (pc' := 136) (lv' := [(0, .ref 669), (1, .int v1), (2, .int v2), (3, .int v3), (4, .long v4), (6, .int v6)]) (st' := [.int ((12 : Int32) + v1), .ref 674, .long v4]) 6 rfl ?_
    refine db_RldI (pc' := 137) (lv1 := [(0, .ref 669), (1, .int v1), (2, .int v2), (3, .int v3), (4, .long v4), (6, .int v6)]) rfl rfl rfl fun x5 => ?_
    refine db_Rgo (pc' := 144) (lv' := [(7, .int (0 : Int32)), (4, .long (v4 + (Int32.toInt64 x5))), (0, .ref 669), (1, .int v1), (2, .int v2), (3, .int v3), (6, .int v6)]) (st' := []) 5 rfl ?_
    refine db_Rn (lv1 := [(0, .ref 669), (1, .int v1), (2, .int v2), (3, .int v3), (4, .long (v4 + (Int32.toInt64 x5))), (6, .int v6), (7, .int (0 : Int32))]) rfl rfl rfl ?_
    exact db_f375_b144_ok ih db_FU _ _ _ _ _ _ _
noncomputable def db_f375_b78 : Nat → db_S → Int32 → Int32 → Int32 → Int32 → Option (Bool × db_S)
  | 0, _, _, _, _, _ => none
  | n + 1, s, v1, v2, v3, v4 =>
    (cond (db_cnd .ge v4 (199 : Int32)) (db_f375_b112 db_FU s v1 v2 v3 (0 : Int64) (0 : Int32)) ((db_rI s 674 v4).bind fun x1 => ((db_wI s 684 v4 x1).bind fun s2 => (db_f375_b78 n s2 v1 v2 v3 (v4 + (1 : Int32))))))
theorem db_f375_b78_ok {X : db_X} {d : Nat}  (n : Nat) : ∀ (s : db_S) (v1 : Int32) (v2 : Int32) (v3 : Int32) (v4 : Int32), db_Rf X (d + 35) dbm_375 78 [(0, .ref 669), (1, .int v1), (2, .int v2), (3, .int v3), (4, .int v4)] [] s db_zB (db_f375_b78 n s v1 v2 v3 v4) := by
  induction n with
  | zero => intros; exact db_Rnone
  | succ n ih =>
    intro s v1 v2 v3 v4
    unfold db_f375_b78
    refine db_Rgo (pc' := 83) (lv' := [(0, .ref 669), (1, .int v1), (2, .int v2), (3, .int v3), (4, .int v4)]) (st' := [.int (199 : Int32), .int v4]) 2 rfl ?_
    refine db_Ric (pc' := 86) (tg := 106) (lv1 := [(0, .ref 669), (1, .int v1), (2, .int v2), (3, .int v3), (4, .int v4)]) rfl rfl rfl rfl ?_ ?_
    · refine db_Rgo (pc' := 112) (lv' := [(6, .int (0 : Int32)), (4, .long (0 : Int64)), (0, .ref 669), (1, .int v1), (2, .int v2), (3, .int v3)]) (st' := []) 4 rfl ?_
      refine db_Rn (lv1 := [(0, .ref 669), (1, .int v1), (2, .int v2), (3, .int v3), (4, .long (0 : Int64)), (6, .int (0 : Int32))]) rfl rfl rfl ?_
      exact db_f375_b112_ok db_FU _ _ _ _ _ _
    refine db_Rgo (pc' := 98) (lv' := [(0, .ref 669), (1, .int v1), (2, .int v2), (3, .int v3), (4, .int v4)]) (st' := [.int v4, .ref 674, .int v4, .ref 684]) 6 rfl ?_
    refine db_RldI (pc' := 99) (lv1 := [(0, .ref 669), (1, .int v1), (2, .int v2), (3, .int v3), (4, .int v4)]) rfl rfl rfl fun x1 => ?_
    refine db_RstI (pc' := 100) (lv1 := [(0, .ref 669), (1, .int v1), (2, .int v2), (3, .int v3), (4, .int v4)]) rfl rfl rfl fun s2 => ?_
    refine db_Rgo (pc' := 78) (lv' := [(4, .int (v4 + (1 : Int32))), (0, .ref 669), (1, .int v1), (2, .int v2), (3, .int v3)]) (st' := []) 2 rfl ?_
    refine db_Rn (lv1 := [(0, .ref 669), (1, .int v1), (2, .int v2), (3, .int v3), (4, .int (v4 + (1 : Int32)))]) rfl rfl rfl ?_
    exact ih _ _ _ _ _
/-- DreamBookModel.mean(III)Z -/
noncomputable def db_f375 (s : db_S) (v1 : Int32) (v2 : Int32) (v3 : Int32) : Option (Bool × db_S) :=
  ((db_pI s 669 1 (0 : Int32)).bind fun s1 => ((db_pI s1 669 0 (0 : Int32)).bind fun s2 => ((db_f292 s2 v1).bind fun q3 => (cond q3 ((db_f269 s2 (Int32.toInt64 v3) (1 : Int64) (20 : Int64)).bind fun q5 => (cond q5 ((db_f269 s2 (Int32.toInt64 v2) (0 : Int64) (Int32.toInt64 ((10000 : Int32) - v3))).bind fun q7 => (cond q7 ((db_rI s2 674 (199 : Int32)).bind fun x9 => (cond (db_cnd .ne x9 0) (db_f375_b78 db_FU s2 v1 v2 v3 (0 : Int32)) (db_bd (db_f211 s2 (8 : Int32)) fun q10 s11 => (some (q10, s11))))) (db_f375_b51 s2 ))) (db_f375_b51 s2 ))) (db_bd (db_f211 s2 (2 : Int32)) fun q12 s13 => (some (q12, s13)))))))
theorem db_f375_ok {X : db_X} {d : Nat} {s : db_S} {v1 : Int32} {v2 : Int32} {v3 : Int32} : db_Rf X (d + 35) dbm_375 0 (lv_args 0 [.ref 669, .int v1, .int v2, .int v3]) [] s db_zB (db_f375 s v1 v2 v3) := by
  show db_Rf _ _ _ 0 [(0, .ref 669), (1, .int v1), (2, .int v2), (3, .int v3)] [] _ _ _
  unfold db_f375
  refine db_Rgo (pc' := 2) (lv' := [(0, .ref 669), (1, .int v1), (2, .int v2), (3, .int v3)]) (st' := [.int (0 : Int32), .ref 669]) 2 rfl ?_
  refine db_RpuI (pc' := 5) (lv1 := [(0, .ref 669), (1, .int v1), (2, .int v2), (3, .int v3)]) rfl rfl rfl rfl rfl rfl (by decide) rfl rfl fun s1 => ?_
  refine db_Rgo (pc' := 7) (lv' := [(0, .ref 669), (1, .int v1), (2, .int v2), (3, .int v3)]) (st' := [.int (0 : Int32), .ref 669]) 2 rfl ?_
  refine db_RpuI (pc' := 10) (lv1 := [(0, .ref 669), (1, .int v1), (2, .int v2), (3, .int v3)]) rfl rfl rfl rfl rfl rfl (by decide) rfl rfl fun s2 => ?_
  refine db_Rgo (pc' := 12) (lv' := [(0, .ref 669), (1, .int v1), (2, .int v2), (3, .int v3)]) (st' := [.int v1, .ref 669]) 2 rfl ?_
  refine db_RcyB (mr' := dbm_292) (as := [.ref 669, .int v1]) (rest := []) (pc' := 15) (lv1 := [(0, .ref 669), (1, .int v1), (2, .int v2), (3, .int v3)]) rfl rfl rfl rfl rfl (db_f292_ok) fun q3 => ?_
  refine db_RifBn (pc' := 18) (tg := 24) (lv1 := [(0, .ref 669), (1, .int v1), (2, .int v2), (3, .int v3)]) rfl rfl rfl rfl ?_ ?_
  · refine db_Rgo (pc' := 30) (lv' := [(0, .ref 669), (1, .int v1), (2, .int v2), (3, .int v3)]) (st' := [.long (20 : Int64), .long (1 : Int64), .long (Int32.toInt64 v3)]) 4 rfl ?_
    refine db_RcyB (mr' := dbm_269) (as := [.long (Int32.toInt64 v3), .long (1 : Int64), .long (20 : Int64)]) (rest := []) (pc' := 33) (lv1 := [(0, .ref 669), (1, .int v1), (2, .int v2), (3, .int v3)]) rfl rfl rfl rfl rfl (db_f269_ok) fun q5 => ?_
    refine db_RifBe (pc' := 36) (tg := 51) (lv1 := [(0, .ref 669), (1, .int v1), (2, .int v2), (3, .int v3)]) rfl rfl rfl rfl ?_ ?_
    · refine db_Rn (lv1 := [(0, .ref 669)]) rfl rfl rfl ?_
      exact db_f375_b51_ok
    refine db_Rgo (pc' := 45) (lv' := [(0, .ref 669), (1, .int v1), (2, .int v2), (3, .int v3)]) (st' := [.long (Int32.toInt64 ((10000 : Int32) - v3)), .long (0 : Int64), .long (Int32.toInt64 v2)]) 7 rfl ?_
    refine db_RcyB (mr' := dbm_269) (as := [.long (Int32.toInt64 v2), .long (0 : Int64), .long (Int32.toInt64 ((10000 : Int32) - v3))]) (rest := []) (pc' := 48) (lv1 := [(0, .ref 669), (1, .int v1), (2, .int v2), (3, .int v3)]) rfl rfl rfl rfl rfl (db_f269_ok) fun q7 => ?_
    refine db_RifBn (pc' := 51) (tg := 57) (lv1 := [(0, .ref 669), (1, .int v1), (2, .int v2), (3, .int v3)]) rfl rfl rfl rfl ?_ ?_
    · refine db_Rgo (pc' := 64) (lv' := [(0, .ref 669), (1, .int v1), (2, .int v2), (3, .int v3)]) (st' := [.int (199 : Int32), .ref 674]) 3 rfl ?_
      refine db_RldI (pc' := 65) (lv1 := [(0, .ref 669), (1, .int v1), (2, .int v2), (3, .int v3)]) rfl rfl rfl fun x9 => ?_
      refine db_Rif (pc' := 68) (tg := 75) (lv1 := [(0, .ref 669), (1, .int v1), (2, .int v2), (3, .int v3)]) rfl rfl rfl rfl ?_ ?_
      · refine db_Rgo (pc' := 78) (lv' := [(4, .int (0 : Int32)), (0, .ref 669), (1, .int v1), (2, .int v2), (3, .int v3)]) (st' := []) 2 rfl ?_
        refine db_Rn (lv1 := [(0, .ref 669), (1, .int v1), (2, .int v2), (3, .int v3), (4, .int (0 : Int32))]) rfl rfl rfl ?_
        exact db_f375_b78_ok db_FU _ _ _ _ _
      refine db_Rgo (pc' := 71) (lv' := [(0, .ref 669), (1, .int v1), (2, .int v2), (3, .int v3)]) (st' := [.int (8 : Int32), .ref 669]) 2 rfl ?_
      refine db_RcdB (mr' := dbm_211) (as := [.ref 669, .int (8 : Int32)]) (rest := []) (pc' := 74) (lv1 := [(0, .ref 669), (1, .int v1), (2, .int v2), (3, .int v3)]) rfl rfl rfl rfl rfl (db_f211_ok) fun q10 s11 => ?_
      exact db_RretB (lv1 := [(0, .ref 669), (1, .int v1), (2, .int v2), (3, .int v3)]) rfl rfl rfl rfl
    refine db_Rn (lv1 := [(0, .ref 669)]) rfl rfl rfl ?_
    exact db_f375_b51_ok
  refine db_Rgo (pc' := 20) (lv' := [(0, .ref 669), (1, .int v1), (2, .int v2), (3, .int v3)]) (st' := [.int (2 : Int32), .ref 669]) 2 rfl ?_
  refine db_RcdB (mr' := dbm_211) (as := [.ref 669, .int (2 : Int32)]) (rest := []) (pc' := 23) (lv1 := [(0, .ref 669), (1, .int v1), (2, .int v2), (3, .int v3)]) rfl rfl rfl rfl rfl (db_f211_ok) fun q12 s13 => ?_
  exact db_RretB (lv1 := [(0, .ref 669), (1, .int v1), (2, .int v2), (3, .int v3)]) rfl rfl rfl rfl
/-- DreamBook$Told.copyFrom(LDreamBook$Told;)V -/
noncomputable def db_f82_294_20 (s : db_S) : Option db_S :=
  ((db_f83 s 21 295).bind fun s2 => ((db_f83 s2 22 296).bind fun s4 => ((db_f83 s4 23 297).bind fun s6 => ((db_f84 s6 24 298).bind fun s8 => ((db_f84 s8 37 311).bind fun s10 => ((db_f84 s10 50 324).bind fun s12 => ((db_f83 s12 59 333).bind fun s14 => ((db_f83 s14 60 334).bind fun s16 => ((db_f83 s16 61 335).bind fun s18 => ((db_f83 s18 62 336).bind fun s20 => ((db_f83 s20 63 337).bind fun s22 => ((db_f84 s22 64 338).bind fun s24 => ((db_f83 s24 75 349).bind fun s26 => ((db_pI s26 294 13 (s26.1 20 13)).bind fun s27 => ((db_pI s27 294 14 (s27.1 20 14)).bind fun s28 => ((db_cL s28 76 (0 : Int32) 350 (0 : Int32) (37 : Int32)).bind fun s29 => ((db_f83 s29 77 351).bind fun s31 => ((db_f83 s31 78 352).bind fun s33 => ((db_pI s33 294 18 (s33.1 20 18)).bind fun s34 => (some s34))))))))))))))))))))
theorem db_f82_294_20_ok {X : db_X} {d : Nat} {s : db_S} : db_Rf X (d + 2) dbm_82 0 (lv_args 0 [.ref 294, .ref 20]) [] s db_zV (db_f82_294_20 s ) := by
  show db_Rf _ _ _ 0 [(0, .ref 294), (1, .ref 20)] [] _ _ _
  unfold db_f82_294_20
  refine db_Rgo (pc' := 8) (lv' := [(0, .ref 294), (1, .ref 20)]) (st' := [.ref 295, .ref 21]) 4 rfl ?_
  refine db_RcV (mr' := dbm_83) (as := [.ref 21, .ref 295]) (rest := []) (pc' := 11) (lv1 := [(0, .ref 294), (1, .ref 20)]) rfl rfl rfl rfl rfl (db_f83_ok) fun s2 => ?_
  refine db_Rgo (pc' := 19) (lv' := [(0, .ref 294), (1, .ref 20)]) (st' := [.ref 296, .ref 22]) 4 rfl ?_
  refine db_RcV (mr' := dbm_83) (as := [.ref 22, .ref 296]) (rest := []) (pc' := 22) (lv1 := [(0, .ref 294), (1, .ref 20)]) rfl rfl rfl rfl rfl (db_f83_ok) fun s4 => ?_
  refine db_Rgo (pc' := 30) (lv' := [(0, .ref 294), (1, .ref 20)]) (st' := [.ref 297, .ref 23]) 4 rfl ?_
  refine db_RcV (mr' := dbm_83) (as := [.ref 23, .ref 297]) (rest := []) (pc' := 33) (lv1 := [(0, .ref 294), (1, .ref 20)]) rfl rfl rfl rfl rfl (db_f83_ok) fun s6 => ?_
  refine db_Rgo (pc' := 41) (lv' := [(0, .ref 294), (1, .ref 20)]) (st' := [.ref 298, .ref 24]) 4 rfl ?_
  refine db_RcV (mr' := dbm_84) (as := [.ref 24, .ref 298]) (rest := []) (pc' := 44) (lv1 := [(0, .ref 294), (1, .ref 20)]) rfl rfl rfl rfl rfl (db_f84_ok) fun s8 => ?_
  refine db_Rgo (pc' := 52) (lv' := [(0, .ref 294), (1, .ref 20)]) (st' := [.ref 311, .ref 37]) 4 rfl ?_
  refine db_RcV (mr' := dbm_84) (as := [.ref 37, .ref 311]) (rest := []) (pc' := 55) (lv1 := [(0, .ref 294), (1, .ref 20)]) rfl rfl rfl rfl rfl (db_f84_ok) fun s10 => ?_
  refine db_Rgo (pc' := 63) (lv' := [(0, .ref 294), (1, .ref 20)]) (st' := [.ref 324, .ref 50]) 4 rfl ?_
  refine db_RcV (mr' := dbm_84) (as := [.ref 50, .ref 324]) (rest := []) (pc' := 66) (lv1 := [(0, .ref 294), (1, .ref 20)]) rfl rfl rfl rfl rfl (db_f84_ok) fun s12 => ?_
  refine db_Rgo (pc' := 74) (lv' := [(0, .ref 294), (1, .ref 20)]) (st' := [.ref 333, .ref 59]) 4 rfl ?_
  refine db_RcV (mr' := dbm_83) (as := [.ref 59, .ref 333]) (rest := []) (pc' := 77) (lv1 := [(0, .ref 294), (1, .ref 20)]) rfl rfl rfl rfl rfl (db_f83_ok) fun s14 => ?_
  refine db_Rgo (pc' := 85) (lv' := [(0, .ref 294), (1, .ref 20)]) (st' := [.ref 334, .ref 60]) 4 rfl ?_
  refine db_RcV (mr' := dbm_83) (as := [.ref 60, .ref 334]) (rest := []) (pc' := 88) (lv1 := [(0, .ref 294), (1, .ref 20)]) rfl rfl rfl rfl rfl (db_f83_ok) fun s16 => ?_
  refine db_Rgo (pc' := 96) (lv' := [(0, .ref 294), (1, .ref 20)]) (st' := [.ref 335, .ref 61]) 4 rfl ?_
  refine db_RcV (mr' := dbm_83) (as := [.ref 61, .ref 335]) (rest := []) (pc' := 99) (lv1 := [(0, .ref 294), (1, .ref 20)]) rfl rfl rfl rfl rfl (db_f83_ok) fun s18 => ?_
  refine db_Rgo (pc' := 107) (lv' := [(0, .ref 294), (1, .ref 20)]) (st' := [.ref 336, .ref 62]) 4 rfl ?_
  refine db_RcV (mr' := dbm_83) (as := [.ref 62, .ref 336]) (rest := []) (pc' := 110) (lv1 := [(0, .ref 294), (1, .ref 20)]) rfl rfl rfl rfl rfl (db_f83_ok) fun s20 => ?_
  refine db_Rgo (pc' := 118) (lv' := [(0, .ref 294), (1, .ref 20)]) (st' := [.ref 337, .ref 63]) 4 rfl ?_
  refine db_RcV (mr' := dbm_83) (as := [.ref 63, .ref 337]) (rest := []) (pc' := 121) (lv1 := [(0, .ref 294), (1, .ref 20)]) rfl rfl rfl rfl rfl (db_f83_ok) fun s22 => ?_
  refine db_Rgo (pc' := 129) (lv' := [(0, .ref 294), (1, .ref 20)]) (st' := [.ref 338, .ref 64]) 4 rfl ?_
  refine db_RcV (mr' := dbm_84) (as := [.ref 64, .ref 338]) (rest := []) (pc' := 132) (lv1 := [(0, .ref 294), (1, .ref 20)]) rfl rfl rfl rfl rfl (db_f84_ok) fun s24 => ?_
  refine db_Rgo (pc' := 140) (lv' := [(0, .ref 294), (1, .ref 20)]) (st' := [.ref 349, .ref 75]) 4 rfl ?_
  refine db_RcV (mr' := dbm_83) (as := [.ref 75, .ref 349]) (rest := []) (pc' := 143) (lv1 := [(0, .ref 294), (1, .ref 20)]) rfl rfl rfl rfl rfl (db_f83_ok) fun s26 => ?_
  refine db_Rgo (pc' := 148) (lv' := [(0, .ref 294), (1, .ref 20)]) (st' := [.int (s26.1 20 13), .ref 294]) 3 rfl ?_
  refine db_RpuI (pc' := 151) (lv1 := [(0, .ref 294), (1, .ref 20)]) rfl rfl rfl rfl rfl rfl (by decide) rfl rfl fun s27 => ?_
  refine db_Rgo (pc' := 156) (lv' := [(0, .ref 294), (1, .ref 20)]) (st' := [.int (s27.1 20 14), .ref 294]) 3 rfl ?_
  refine db_RpuI (pc' := 159) (lv1 := [(0, .ref 294), (1, .ref 20)]) rfl rfl rfl rfl rfl rfl (by decide) rfl rfl fun s28 => ?_
  refine db_Rgo (pc' := 171) (lv' := [(0, .ref 294), (1, .ref 20)]) (st' := [.int (37 : Int32), .int (0 : Int32), .ref 350, .int (0 : Int32), .ref 76]) 7 rfl ?_
  refine db_RcpL (pc' := 174) (lv1 := [(0, .ref 294), (1, .ref 20)]) rfl rfl rfl rfl rfl fun s29 => ?_
  refine db_Rgo (pc' := 182) (lv' := [(0, .ref 294), (1, .ref 20)]) (st' := [.ref 351, .ref 77]) 4 rfl ?_
  refine db_RcV (mr' := dbm_83) (as := [.ref 77, .ref 351]) (rest := []) (pc' := 185) (lv1 := [(0, .ref 294), (1, .ref 20)]) rfl rfl rfl rfl rfl (db_f83_ok) fun s31 => ?_
  refine db_Rgo (pc' := 193) (lv' := [(0, .ref 294), (1, .ref 20)]) (st' := [.ref 352, .ref 78]) 4 rfl ?_
  refine db_RcV (mr' := dbm_83) (as := [.ref 78, .ref 352]) (rest := []) (pc' := 196) (lv1 := [(0, .ref 294), (1, .ref 20)]) rfl rfl rfl rfl rfl (db_f83_ok) fun s33 => ?_
  refine db_Rgo (pc' := 201) (lv' := [(0, .ref 294), (1, .ref 20)]) (st' := [.int (s33.1 20 18), .ref 294]) 3 rfl ?_
  refine db_RpuI (pc' := 204) (lv1 := [(0, .ref 294), (1, .ref 20)]) rfl rfl rfl rfl rfl rfl (by decide) rfl rfl fun s34 => ?_
  exact db_Rret (lv1 := [(0, .ref 294), (1, .ref 20)]) rfl rfl rfl rfl
/-- DreamBook$Told.copyFrom(LDreamBook$Told;)V -/
noncomputable def db_f82_419_20 (s : db_S) : Option db_S :=
  ((db_f83 s 21 420).bind fun s2 => ((db_f83 s2 22 421).bind fun s4 => ((db_f83 s4 23 422).bind fun s6 => ((db_f84 s6 24 423).bind fun s8 => ((db_f84 s8 37 436).bind fun s10 => ((db_f84 s10 50 449).bind fun s12 => ((db_f83 s12 59 458).bind fun s14 => ((db_f83 s14 60 459).bind fun s16 => ((db_f83 s16 61 460).bind fun s18 => ((db_f83 s18 62 461).bind fun s20 => ((db_f83 s20 63 462).bind fun s22 => ((db_f84 s22 64 463).bind fun s24 => ((db_f83 s24 75 474).bind fun s26 => ((db_pI s26 419 13 (s26.1 20 13)).bind fun s27 => ((db_pI s27 419 14 (s27.1 20 14)).bind fun s28 => ((db_cL s28 76 (0 : Int32) 475 (0 : Int32) (37 : Int32)).bind fun s29 => ((db_f83 s29 77 476).bind fun s31 => ((db_f83 s31 78 477).bind fun s33 => ((db_pI s33 419 18 (s33.1 20 18)).bind fun s34 => (some s34))))))))))))))))))))
theorem db_f82_419_20_ok {X : db_X} {d : Nat} {s : db_S} : db_Rf X (d + 2) dbm_82 0 (lv_args 0 [.ref 419, .ref 20]) [] s db_zV (db_f82_419_20 s ) := by
  show db_Rf _ _ _ 0 [(0, .ref 419), (1, .ref 20)] [] _ _ _
  unfold db_f82_419_20
  refine db_Rgo (pc' := 8) (lv' := [(0, .ref 419), (1, .ref 20)]) (st' := [.ref 420, .ref 21]) 4 rfl ?_
  refine db_RcV (mr' := dbm_83) (as := [.ref 21, .ref 420]) (rest := []) (pc' := 11) (lv1 := [(0, .ref 419), (1, .ref 20)]) rfl rfl rfl rfl rfl (db_f83_ok) fun s2 => ?_
  refine db_Rgo (pc' := 19) (lv' := [(0, .ref 419), (1, .ref 20)]) (st' := [.ref 421, .ref 22]) 4 rfl ?_
  refine db_RcV (mr' := dbm_83) (as := [.ref 22, .ref 421]) (rest := []) (pc' := 22) (lv1 := [(0, .ref 419), (1, .ref 20)]) rfl rfl rfl rfl rfl (db_f83_ok) fun s4 => ?_
  refine db_Rgo (pc' := 30) (lv' := [(0, .ref 419), (1, .ref 20)]) (st' := [.ref 422, .ref 23]) 4 rfl ?_
  refine db_RcV (mr' := dbm_83) (as := [.ref 23, .ref 422]) (rest := []) (pc' := 33) (lv1 := [(0, .ref 419), (1, .ref 20)]) rfl rfl rfl rfl rfl (db_f83_ok) fun s6 => ?_
  refine db_Rgo (pc' := 41) (lv' := [(0, .ref 419), (1, .ref 20)]) (st' := [.ref 423, .ref 24]) 4 rfl ?_
  refine db_RcV (mr' := dbm_84) (as := [.ref 24, .ref 423]) (rest := []) (pc' := 44) (lv1 := [(0, .ref 419), (1, .ref 20)]) rfl rfl rfl rfl rfl (db_f84_ok) fun s8 => ?_
  refine db_Rgo (pc' := 52) (lv' := [(0, .ref 419), (1, .ref 20)]) (st' := [.ref 436, .ref 37]) 4 rfl ?_
  refine db_RcV (mr' := dbm_84) (as := [.ref 37, .ref 436]) (rest := []) (pc' := 55) (lv1 := [(0, .ref 419), (1, .ref 20)]) rfl rfl rfl rfl rfl (db_f84_ok) fun s10 => ?_
  refine db_Rgo (pc' := 63) (lv' := [(0, .ref 419), (1, .ref 20)]) (st' := [.ref 449, .ref 50]) 4 rfl ?_
  refine db_RcV (mr' := dbm_84) (as := [.ref 50, .ref 449]) (rest := []) (pc' := 66) (lv1 := [(0, .ref 419), (1, .ref 20)]) rfl rfl rfl rfl rfl (db_f84_ok) fun s12 => ?_
  refine db_Rgo (pc' := 74) (lv' := [(0, .ref 419), (1, .ref 20)]) (st' := [.ref 458, .ref 59]) 4 rfl ?_
  refine db_RcV (mr' := dbm_83) (as := [.ref 59, .ref 458]) (rest := []) (pc' := 77) (lv1 := [(0, .ref 419), (1, .ref 20)]) rfl rfl rfl rfl rfl (db_f83_ok) fun s14 => ?_
  refine db_Rgo (pc' := 85) (lv' := [(0, .ref 419), (1, .ref 20)]) (st' := [.ref 459, .ref 60]) 4 rfl ?_
  refine db_RcV (mr' := dbm_83) (as := [.ref 60, .ref 459]) (rest := []) (pc' := 88) (lv1 := [(0, .ref 419), (1, .ref 20)]) rfl rfl rfl rfl rfl (db_f83_ok) fun s16 => ?_
  refine db_Rgo (pc' := 96) (lv' := [(0, .ref 419), (1, .ref 20)]) (st' := [.ref 460, .ref 61]) 4 rfl ?_
  refine db_RcV (mr' := dbm_83) (as := [.ref 61, .ref 460]) (rest := []) (pc' := 99) (lv1 := [(0, .ref 419), (1, .ref 20)]) rfl rfl rfl rfl rfl (db_f83_ok) fun s18 => ?_
  refine db_Rgo (pc' := 107) (lv' := [(0, .ref 419), (1, .ref 20)]) (st' := [.ref 461, .ref 62]) 4 rfl ?_
  refine db_RcV (mr' := dbm_83) (as := [.ref 62, .ref 461]) (rest := []) (pc' := 110) (lv1 := [(0, .ref 419), (1, .ref 20)]) rfl rfl rfl rfl rfl (db_f83_ok) fun s20 => ?_
  refine db_Rgo (pc' := 118) (lv' := [(0, .ref 419), (1, .ref 20)]) (st' := [.ref 462, .ref 63]) 4 rfl ?_
  refine db_RcV (mr' := dbm_83) (as := [.ref 63, .ref 462]) (rest := []) (pc' := 121) (lv1 := [(0, .ref 419), (1, .ref 20)]) rfl rfl rfl rfl rfl (db_f83_ok) fun s22 => ?_
  refine db_Rgo (pc' := 129) (lv' := [(0, .ref 419), (1, .ref 20)]) (st' := [.ref 463, .ref 64]) 4 rfl ?_
  refine db_RcV (mr' := dbm_84) (as := [.ref 64, .ref 463]) (rest := []) (pc' := 132) (lv1 := [(0, .ref 419), (1, .ref 20)]) rfl rfl rfl rfl rfl (db_f84_ok) fun s24 => ?_
  refine db_Rgo (pc' := 140) (lv' := [(0, .ref 419), (1, .ref 20)]) (st' := [.ref 474, .ref 75]) 4 rfl ?_
  refine db_RcV (mr' := dbm_83) (as := [.ref 75, .ref 474]) (rest := []) (pc' := 143) (lv1 := [(0, .ref 419), (1, .ref 20)]) rfl rfl rfl rfl rfl (db_f83_ok) fun s26 => ?_
  refine db_Rgo (pc' := 148) (lv' := [(0, .ref 419), (1, .ref 20)]) (st' := [.int (s26.1 20 13), .ref 419]) 3 rfl ?_
  refine db_RpuI (pc' := 151) (lv1 := [(0, .ref 419), (1, .ref 20)]) rfl rfl rfl rfl rfl rfl (by decide) rfl rfl fun s27 => ?_
  refine db_Rgo (pc' := 156) (lv' := [(0, .ref 419), (1, .ref 20)]) (st' := [.int (s27.1 20 14), .ref 419]) 3 rfl ?_
  refine db_RpuI (pc' := 159) (lv1 := [(0, .ref 419), (1, .ref 20)]) rfl rfl rfl rfl rfl rfl (by decide) rfl rfl fun s28 => ?_
  refine db_Rgo (pc' := 171) (lv' := [(0, .ref 419), (1, .ref 20)]) (st' := [.int (37 : Int32), .int (0 : Int32), .ref 475, .int (0 : Int32), .ref 76]) 7 rfl ?_
  refine db_RcpL (pc' := 174) (lv1 := [(0, .ref 419), (1, .ref 20)]) rfl rfl rfl rfl rfl fun s29 => ?_
  refine db_Rgo (pc' := 182) (lv' := [(0, .ref 419), (1, .ref 20)]) (st' := [.ref 476, .ref 77]) 4 rfl ?_
  refine db_RcV (mr' := dbm_83) (as := [.ref 77, .ref 476]) (rest := []) (pc' := 185) (lv1 := [(0, .ref 419), (1, .ref 20)]) rfl rfl rfl rfl rfl (db_f83_ok) fun s31 => ?_
  refine db_Rgo (pc' := 193) (lv' := [(0, .ref 419), (1, .ref 20)]) (st' := [.ref 477, .ref 78]) 4 rfl ?_
  refine db_RcV (mr' := dbm_83) (as := [.ref 78, .ref 477]) (rest := []) (pc' := 196) (lv1 := [(0, .ref 419), (1, .ref 20)]) rfl rfl rfl rfl rfl (db_f83_ok) fun s33 => ?_
  refine db_Rgo (pc' := 201) (lv' := [(0, .ref 419), (1, .ref 20)]) (st' := [.int (s33.1 20 18), .ref 419]) 3 rfl ?_
  refine db_RpuI (pc' := 204) (lv1 := [(0, .ref 419), (1, .ref 20)]) rfl rfl rfl rfl rfl rfl (by decide) rfl rfl fun s34 => ?_
  exact db_Rret (lv1 := [(0, .ref 419), (1, .ref 20)]) rfl rfl rfl rfl
/-- DreamBook$Told.copyFrom(LDreamBook$Told;)V -/
noncomputable def db_f82_544_20 (s : db_S) : Option db_S :=
  ((db_f83 s 21 545).bind fun s2 => ((db_f83 s2 22 546).bind fun s4 => ((db_f83 s4 23 547).bind fun s6 => ((db_f84 s6 24 548).bind fun s8 => ((db_f84 s8 37 561).bind fun s10 => ((db_f84 s10 50 574).bind fun s12 => ((db_f83 s12 59 583).bind fun s14 => ((db_f83 s14 60 584).bind fun s16 => ((db_f83 s16 61 585).bind fun s18 => ((db_f83 s18 62 586).bind fun s20 => ((db_f83 s20 63 587).bind fun s22 => ((db_f84 s22 64 588).bind fun s24 => ((db_f83 s24 75 599).bind fun s26 => ((db_pI s26 544 13 (s26.1 20 13)).bind fun s27 => ((db_pI s27 544 14 (s27.1 20 14)).bind fun s28 => ((db_cL s28 76 (0 : Int32) 600 (0 : Int32) (37 : Int32)).bind fun s29 => ((db_f83 s29 77 601).bind fun s31 => ((db_f83 s31 78 602).bind fun s33 => ((db_pI s33 544 18 (s33.1 20 18)).bind fun s34 => (some s34))))))))))))))))))))
theorem db_f82_544_20_ok {X : db_X} {d : Nat} {s : db_S} : db_Rf X (d + 2) dbm_82 0 (lv_args 0 [.ref 544, .ref 20]) [] s db_zV (db_f82_544_20 s ) := by
  show db_Rf _ _ _ 0 [(0, .ref 544), (1, .ref 20)] [] _ _ _
  unfold db_f82_544_20
  refine db_Rgo (pc' := 8) (lv' := [(0, .ref 544), (1, .ref 20)]) (st' := [.ref 545, .ref 21]) 4 rfl ?_
  refine db_RcV (mr' := dbm_83) (as := [.ref 21, .ref 545]) (rest := []) (pc' := 11) (lv1 := [(0, .ref 544), (1, .ref 20)]) rfl rfl rfl rfl rfl (db_f83_ok) fun s2 => ?_
  refine db_Rgo (pc' := 19) (lv' := [(0, .ref 544), (1, .ref 20)]) (st' := [.ref 546, .ref 22]) 4 rfl ?_
  refine db_RcV (mr' := dbm_83) (as := [.ref 22, .ref 546]) (rest := []) (pc' := 22) (lv1 := [(0, .ref 544), (1, .ref 20)]) rfl rfl rfl rfl rfl (db_f83_ok) fun s4 => ?_
  refine db_Rgo (pc' := 30) (lv' := [(0, .ref 544), (1, .ref 20)]) (st' := [.ref 547, .ref 23]) 4 rfl ?_
  refine db_RcV (mr' := dbm_83) (as := [.ref 23, .ref 547]) (rest := []) (pc' := 33) (lv1 := [(0, .ref 544), (1, .ref 20)]) rfl rfl rfl rfl rfl (db_f83_ok) fun s6 => ?_
  refine db_Rgo (pc' := 41) (lv' := [(0, .ref 544), (1, .ref 20)]) (st' := [.ref 548, .ref 24]) 4 rfl ?_
  refine db_RcV (mr' := dbm_84) (as := [.ref 24, .ref 548]) (rest := []) (pc' := 44) (lv1 := [(0, .ref 544), (1, .ref 20)]) rfl rfl rfl rfl rfl (db_f84_ok) fun s8 => ?_
  refine db_Rgo (pc' := 52) (lv' := [(0, .ref 544), (1, .ref 20)]) (st' := [.ref 561, .ref 37]) 4 rfl ?_
  refine db_RcV (mr' := dbm_84) (as := [.ref 37, .ref 561]) (rest := []) (pc' := 55) (lv1 := [(0, .ref 544), (1, .ref 20)]) rfl rfl rfl rfl rfl (db_f84_ok) fun s10 => ?_
  refine db_Rgo (pc' := 63) (lv' := [(0, .ref 544), (1, .ref 20)]) (st' := [.ref 574, .ref 50]) 4 rfl ?_
  refine db_RcV (mr' := dbm_84) (as := [.ref 50, .ref 574]) (rest := []) (pc' := 66) (lv1 := [(0, .ref 544), (1, .ref 20)]) rfl rfl rfl rfl rfl (db_f84_ok) fun s12 => ?_
  refine db_Rgo (pc' := 74) (lv' := [(0, .ref 544), (1, .ref 20)]) (st' := [.ref 583, .ref 59]) 4 rfl ?_
  refine db_RcV (mr' := dbm_83) (as := [.ref 59, .ref 583]) (rest := []) (pc' := 77) (lv1 := [(0, .ref 544), (1, .ref 20)]) rfl rfl rfl rfl rfl (db_f83_ok) fun s14 => ?_
  refine db_Rgo (pc' := 85) (lv' := [(0, .ref 544), (1, .ref 20)]) (st' := [.ref 584, .ref 60]) 4 rfl ?_
  refine db_RcV (mr' := dbm_83) (as := [.ref 60, .ref 584]) (rest := []) (pc' := 88) (lv1 := [(0, .ref 544), (1, .ref 20)]) rfl rfl rfl rfl rfl (db_f83_ok) fun s16 => ?_
  refine db_Rgo (pc' := 96) (lv' := [(0, .ref 544), (1, .ref 20)]) (st' := [.ref 585, .ref 61]) 4 rfl ?_
  refine db_RcV (mr' := dbm_83) (as := [.ref 61, .ref 585]) (rest := []) (pc' := 99) (lv1 := [(0, .ref 544), (1, .ref 20)]) rfl rfl rfl rfl rfl (db_f83_ok) fun s18 => ?_
  refine db_Rgo (pc' := 107) (lv' := [(0, .ref 544), (1, .ref 20)]) (st' := [.ref 586, .ref 62]) 4 rfl ?_
  refine db_RcV (mr' := dbm_83) (as := [.ref 62, .ref 586]) (rest := []) (pc' := 110) (lv1 := [(0, .ref 544), (1, .ref 20)]) rfl rfl rfl rfl rfl (db_f83_ok) fun s20 => ?_
  refine db_Rgo (pc' := 118) (lv' := [(0, .ref 544), (1, .ref 20)]) (st' := [.ref 587, .ref 63]) 4 rfl ?_
  refine db_RcV (mr' := dbm_83) (as := [.ref 63, .ref 587]) (rest := []) (pc' := 121) (lv1 := [(0, .ref 544), (1, .ref 20)]) rfl rfl rfl rfl rfl (db_f83_ok) fun s22 => ?_
  refine db_Rgo (pc' := 129) (lv' := [(0, .ref 544), (1, .ref 20)]) (st' := [.ref 588, .ref 64]) 4 rfl ?_
  refine db_RcV (mr' := dbm_84) (as := [.ref 64, .ref 588]) (rest := []) (pc' := 132) (lv1 := [(0, .ref 544), (1, .ref 20)]) rfl rfl rfl rfl rfl (db_f84_ok) fun s24 => ?_
  refine db_Rgo (pc' := 140) (lv' := [(0, .ref 544), (1, .ref 20)]) (st' := [.ref 599, .ref 75]) 4 rfl ?_
  refine db_RcV (mr' := dbm_83) (as := [.ref 75, .ref 599]) (rest := []) (pc' := 143) (lv1 := [(0, .ref 544), (1, .ref 20)]) rfl rfl rfl rfl rfl (db_f83_ok) fun s26 => ?_
  refine db_Rgo (pc' := 148) (lv' := [(0, .ref 544), (1, .ref 20)]) (st' := [.int (s26.1 20 13), .ref 544]) 3 rfl ?_
  refine db_RpuI (pc' := 151) (lv1 := [(0, .ref 544), (1, .ref 20)]) rfl rfl rfl rfl rfl rfl (by decide) rfl rfl fun s27 => ?_
  refine db_Rgo (pc' := 156) (lv' := [(0, .ref 544), (1, .ref 20)]) (st' := [.int (s27.1 20 14), .ref 544]) 3 rfl ?_
  refine db_RpuI (pc' := 159) (lv1 := [(0, .ref 544), (1, .ref 20)]) rfl rfl rfl rfl rfl rfl (by decide) rfl rfl fun s28 => ?_
  refine db_Rgo (pc' := 171) (lv' := [(0, .ref 544), (1, .ref 20)]) (st' := [.int (37 : Int32), .int (0 : Int32), .ref 600, .int (0 : Int32), .ref 76]) 7 rfl ?_
  refine db_RcpL (pc' := 174) (lv1 := [(0, .ref 544), (1, .ref 20)]) rfl rfl rfl rfl rfl fun s29 => ?_
  refine db_Rgo (pc' := 182) (lv' := [(0, .ref 544), (1, .ref 20)]) (st' := [.ref 601, .ref 77]) 4 rfl ?_
  refine db_RcV (mr' := dbm_83) (as := [.ref 77, .ref 601]) (rest := []) (pc' := 185) (lv1 := [(0, .ref 544), (1, .ref 20)]) rfl rfl rfl rfl rfl (db_f83_ok) fun s31 => ?_
  refine db_Rgo (pc' := 193) (lv' := [(0, .ref 544), (1, .ref 20)]) (st' := [.ref 602, .ref 78]) 4 rfl ?_
  refine db_RcV (mr' := dbm_83) (as := [.ref 78, .ref 602]) (rest := []) (pc' := 196) (lv1 := [(0, .ref 544), (1, .ref 20)]) rfl rfl rfl rfl rfl (db_f83_ok) fun s33 => ?_
  refine db_Rgo (pc' := 201) (lv' := [(0, .ref 544), (1, .ref 20)]) (st' := [.int (s33.1 20 18), .ref 544]) 3 rfl ?_
  refine db_RpuI (pc' := 204) (lv1 := [(0, .ref 544), (1, .ref 20)]) rfl rfl rfl rfl rfl rfl (by decide) rfl rfl fun s34 => ?_
  exact db_Rret (lv1 := [(0, .ref 544), (1, .ref 20)]) rfl rfl rfl rfl
