noncomputable def db_f277_b190 (r277 : db_S → Int32 → Option db_S) (s : db_S) (v4 : Int32) : Option db_S :=
  ((db_wI s 674 (v4 + (8 : Int32)) (s.1 669 24)).bind fun s1 => (some s1))
set_option maxRecDepth 100000 in
theorem db_f277_b190_ok {X : db_X} {d : Nat}  {r277 : db_S → Int32 → Option db_S} {s : db_S} {v4 : Int32} (z277 : ∀ (s' : db_S) (v1 : Int32) , db_Rf X (d + 7) dbm_277 0 (lv_args 0 [.ref 669, .int v1]) [] s' db_zV (r277 s' v1)) : db_Rf X (d + 8) dbm_277 190 [(0, .ref 669), (4, .int v4)] [] s db_zV (db_f277_b190 r277 s v4) := by
  unfold db_f277_b190
  refine db_Rgo (pc' := 203) (lv' := [(0, .ref 669), (4, .int v4)]) (st' := [.int (s.1 669 24), .int (v4 + (8 : Int32)), .ref 674]) 7 rfl ?_
  refine db_RstI (pc' := 204) (lv1 := [(0, .ref 669), (4, .int v4)]) rfl rfl rfl fun s1 => ?_
  exact db_Rret (lv1 := [(0, .ref 669), (4, .int v4)]) rfl rfl rfl rfl
noncomputable def db_f277_b168 (r277 : db_S → Int32 → Option db_S) (s : db_S) (v3 : Int32) (v4 : Int32) : Option db_S :=
  (cond (db_cnd .eq v3 0) (db_f277_b190 r277 s v4) ((db_f256 s).bind fun q1 => ((db_f264 s (db_i q1)).bind fun s4 => ((db_f273 s4 (59 : Int32)).bind fun q5 => ((db_f264 s4 (db_i q5)).bind fun s8 => (db_f277_b190 r277 s8 v4))))))
set_option maxRecDepth 100000 in
theorem db_f277_b168_ok {X : db_X} {d : Nat}  {r277 : db_S → Int32 → Option db_S} {s : db_S} {v3 : Int32} {v4 : Int32} (z277 : ∀ (s' : db_S) (v1 : Int32) , db_Rf X (d + 7) dbm_277 0 (lv_args 0 [.ref 669, .int v1]) [] s' db_zV (r277 s' v1)) : db_Rf X (d + 8) dbm_277 168 [(0, .ref 669), (3, .int v3), (4, .int v4)] [] s db_zV (db_f277_b168 r277 s v3 v4) := by
  unfold db_f277_b168
  refine db_Rgo (pc' := 169) (lv' := [(0, .ref 669), (3, .int v3), (4, .int v4)]) (st' := [.int v3]) 1 rfl ?_
  refine db_Rif (pc' := 172) (tg := 190) (lv1 := [(0, .ref 669), (3, .int v3), (4, .int v4)]) rfl rfl rfl rfl ?_ ?_
  · refine db_Rn (lv1 := [(0, .ref 669), (4, .int v4)]) rfl rfl rfl ?_
    exact db_f277_b190_ok z277
  refine db_Rgo (pc' := 174) (lv' := [(0, .ref 669), (3, .int v3), (4, .int v4)]) (st' := [.ref 669, .ref 669]) 2 rfl ?_
  refine db_RcyB (mr' := dbm_256) (as := [.ref 669]) (rest := [.ref 669]) (pc' := 177) (lv1 := [(0, .ref 669), (3, .int v3), (4, .int v4)]) rfl rfl rfl rfl rfl (db_f256_ok) fun q1 => ?_
  refine db_RcV (mr' := dbm_264) (as := [.ref 669, .int (db_i q1)]) (rest := []) (pc' := 180) (lv1 := [(0, .ref 669), (3, .int v3), (4, .int v4)]) rfl rfl rfl rfl rfl (db_f264_ok) fun s4 => ?_
  refine db_Rgo (pc' := 184) (lv' := [(0, .ref 669), (3, .int v3), (4, .int v4)]) (st' := [.int (59 : Int32), .ref 669, .ref 669]) 3 rfl ?_
  refine db_RcyB (mr' := dbm_273) (as := [.ref 669, .int (59 : Int32)]) (rest := [.ref 669]) (pc' := 187) (lv1 := [(0, .ref 669), (3, .int v3), (4, .int v4)]) rfl rfl rfl rfl rfl (db_f273_ok) fun q5 => ?_
  refine db_RcV (mr' := dbm_264) (as := [.ref 669, .int (db_i q5)]) (rest := []) (pc' := 190) (lv1 := [(0, .ref 669), (3, .int v3), (4, .int v4)]) rfl rfl rfl rfl rfl (db_f264_ok) fun s8 => ?_
  refine db_Rn (lv1 := [(0, .ref 669), (4, .int v4)]) rfl rfl rfl ?_
  exact db_f277_b190_ok z277
noncomputable def db_f277_b140 (r277 : db_S → Int32 → Option db_S) : Nat → db_S → Int32 → Int32 → Int32 → Option db_S
  | 0, _, _, _, _ => none
  | n + 1, s, v1, v3, v4 =>
    (cond (db_cnd .eq v3 0) (db_f277_b168 r277 s v3 v4) (cond (db_cnd .ne (s.1 669 12) 0) (db_f277_b168 r277 s v3 v4) ((db_f256 s).bind fun q1 => (cond q1 (db_f277_b168 r277 s v3 v4) ((r277 s (v1 + (1 : Int32))).bind fun s4 => (db_f277_b140 r277 n s4 v1 v3 v4))))))
set_option maxRecDepth 100000 in
theorem db_f277_b140_ok {X : db_X} {d : Nat}  {r277 : db_S → Int32 → Option db_S} (z277 : ∀ (s' : db_S) (v1 : Int32) , db_Rf X (d + 7) dbm_277 0 (lv_args 0 [.ref 669, .int v1]) [] s' db_zV (r277 s' v1)) (n : Nat) : ∀ (s : db_S) (v1 : Int32) (v3 : Int32) (v4 : Int32), db_Rf X (d + 8) dbm_277 140 [(0, .ref 669), (1, .int v1), (3, .int v3), (4, .int v4)] [] s db_zV (db_f277_b140 r277 n s v1 v3 v4) := by
  induction n with
  | zero => intros; exact db_Rnone
  | succ n ih =>
    intro s v1 v3 v4
    unfold db_f277_b140
    refine db_Rgo (pc' := 141) (lv' := [(0, .ref 669), (1, .int v1), (3, .int v3), (4, .int v4)]) (st' := [.int v3]) 1 rfl ?_
    refine db_Rif (pc' := 144) (tg := 168) (lv1 := [(0, .ref 669), (1, .int v1), (3, .int v3), (4, .int v4)]) rfl rfl rfl rfl ?_ ?_
    · refine db_Rn (lv1 := [(0, .ref 669), (3, .int v3), (4, .int v4)]) rfl rfl rfl ?_
      exact db_f277_b168_ok z277
    refine db_Rgo (pc' := 148) (lv' := [(0, .ref 669), (1, .int v1), (3, .int v3), (4, .int v4)]) (st' := [.int (s.1 669 12)]) 2 rfl ?_
    refine db_Rif (pc' := 151) (tg := 168) (lv1 := [(0, .ref 669), (1, .int v1), (3, .int v3), (4, .int v4)]) rfl rfl rfl rfl ?_ ?_
    · refine db_Rn (lv1 := [(0, .ref 669), (3, .int v3), (4, .int v4)]) rfl rfl rfl ?_
      exact db_f277_b168_ok z277
    refine db_Rgo (pc' := 152) (lv' := [(0, .ref 669), (1, .int v1), (3, .int v3), (4, .int v4)]) (st' := [.ref 669]) 1 rfl ?_
    refine db_RcyB (mr' := dbm_256) (as := [.ref 669]) (rest := []) (pc' := 155) (lv1 := [(0, .ref 669), (1, .int v1), (3, .int v3), (4, .int v4)]) rfl rfl rfl rfl rfl (db_f256_ok) fun q1 => ?_
    refine db_RifBn (pc' := 158) (tg := 168) (lv1 := [(0, .ref 669), (1, .int v1), (3, .int v3), (4, .int v4)]) rfl rfl rfl rfl ?_ ?_
    · refine db_Rn (lv1 := [(0, .ref 669), (3, .int v3), (4, .int v4)]) rfl rfl rfl ?_
      exact db_f277_b168_ok z277
    refine db_Rgo (pc' := 162) (lv' := [(0, .ref 669), (1, .int v1), (3, .int v3), (4, .int v4)]) (st' := [.int (v1 + (1 : Int32)), .ref 669]) 4 rfl ?_
    refine db_RcV (mr' := dbm_277) (as := [.ref 669, .int (v1 + (1 : Int32))]) (rest := []) (pc' := 165) (lv1 := [(0, .ref 669), (1, .int v1), (3, .int v3), (4, .int v4)]) rfl rfl rfl rfl rfl (z277 _ _) fun s4 => ?_
    refine db_Rgo (pc' := 140) (lv' := [(0, .ref 669), (1, .int v1), (3, .int v3), (4, .int v4)]) (st' := []) 1 rfl ?_
    exact ih _ _ _ _
noncomputable def db_f277_b81 (r277 : db_S → Int32 → Option db_S) (s : db_S) (v1 : Int32) (v2 : Int32) (v3 : Int32) : Option db_S :=
  (cond (db_cnd .le (s.1 669 12) 0) ((db_pI s 669 24 ((s.1 669 24) + (1 : Int32))).bind fun s1 => ((db_f223 s1).bind fun s3 => ((db_wI s3 674 ((2121 : Int32) + ((9 : Int32) * (s.1 669 24))) v2).bind fun s4 => ((db_f278 s4 ((2121 : Int32) + ((9 : Int32) * (s.1 669 24)))).bind fun s6 => ((db_f273 s6 (59 : Int32)).bind fun q7 => ((db_f264 s6 (db_i q7)).bind fun s10 => (db_f277_b140 r277 db_FU s10 v1 v3 ((2121 : Int32) + ((9 : Int32) * (s.1 669 24)))))))))) (some s))
set_option maxRecDepth 100000 in
theorem db_f277_b81_ok {X : db_X} {d : Nat}  {r277 : db_S → Int32 → Option db_S} {s : db_S} {v1 : Int32} {v2 : Int32} {v3 : Int32} (z277 : ∀ (s' : db_S) (v1 : Int32) , db_Rf X (d + 7) dbm_277 0 (lv_args 0 [.ref 669, .int v1]) [] s' db_zV (r277 s' v1)) : db_Rf X (d + 8) dbm_277 81 [(0, .ref 669), (1, .int v1), (2, .int v2), (3, .int v3)] [] s db_zV (db_f277_b81 r277 s v1 v2 v3) := by
  unfold db_f277_b81
  refine db_Rgo (pc' := 85) (lv' := [(0, .ref 669), (1, .int v1), (2, .int v2), (3, .int v3)]) (st' := [.int (s.1 669 12)]) 2 rfl ?_
  refine db_Rif (pc' := 88) (tg := 89) (lv1 := [(0, .ref 669), (1, .int v1), (2, .int v2), (3, .int v3)]) rfl rfl rfl rfl ?_ ?_
  · refine db_Rgo (pc' := 109) (lv' := [(4, .int ((2121 : Int32) + ((9 : Int32) * (s.1 669 24)))), (0, .ref 669), (1, .int v1), (2, .int v2), (3, .int v3)]) (st' := [.int ((s.1 669 24) + (1 : Int32)), .ref 669]) 12 rfl ?_
    refine db_RpuI (pc' := 112) (lv1 := [(4, .int ((2121 : Int32) + ((9 : Int32) * (s.1 669 24)))), (0, .ref 669), (1, .int v1), (2, .int v2), (3, .int v3)]) rfl rfl rfl rfl rfl rfl (by decide) rfl rfl fun s1 => ?_
    refine db_Rgo (pc' := 113) (lv' := [(4, .int ((2121 : Int32) + ((9 : Int32) * (s.1 669 24)))), (0, .ref 669), (1, .int v1), (2, .int v2), (3, .int v3)]) (st' := [.ref 669]) 1 rfl ?_
    refine db_RcV (mr' := dbm_223) (as := [.ref 669]) (rest := []) (pc' := 116) (lv1 := [(4, .int ((2121 : Int32) + ((9 : Int32) * (s.1 669 24)))), (0, .ref 669), (1, .int v1), (2, .int v2), (3, .int v3)]) rfl rfl rfl rfl rfl (db_f223_ok) fun s3 => ?_
    refine db_Rgo (pc' := 123) (lv' := [(4, .int ((2121 : Int32) + ((9 : Int32) * (s.1 669 24)))), (0, .ref 669), (1, .int v1), (2, .int v2), (3, .int v3)]) (st' := [.int v2, .int ((2121 : Int32) + ((9 : Int32) * (s.1 669 24))), .ref 674]) 4 rfl ?_
    refine db_RstI (pc' := 124) (lv1 := [(4, .int ((2121 : Int32) + ((9 : Int32) * (s.1 669 24)))), (0, .ref 669), (1, .int v1), (2, .int v2), (3, .int v3)]) rfl rfl rfl fun s4 => ?_
    refine db_Rgo (pc' := 127) (lv' := [(4, .int ((2121 : Int32) + ((9 : Int32) * (s.1 669 24)))), (0, .ref 669), (1, .int v1), (2, .int v2), (3, .int v3)]) (st' := [.int ((2121 : Int32) + ((9 : Int32) * (s.1 669 24))), .ref 669]) 2 rfl ?_
    refine db_RcV (mr' := dbm_278) (as := [.ref 669, .int ((2121 : Int32) + ((9 : Int32) * (s.1 669 24)))]) (rest := []) (pc' := 130) (lv1 := [(4, .int ((2121 : Int32) + ((9 : Int32) * (s.1 669 24)))), (0, .ref 669), (1, .int v1), (2, .int v2), (3, .int v3)]) rfl rfl rfl rfl rfl (db_f278_ok) fun s6 => ?_
    refine db_Rgo (pc' := 134) (lv' := [(4, .int ((2121 : Int32) + ((9 : Int32) * (s.1 669 24)))), (0, .ref 669), (1, .int v1), (2, .int v2), (3, .int v3)]) (st' := [.int (59 : Int32), .ref 669, .ref 669]) 3 rfl ?_
    refine db_RcyB (mr' := dbm_273) (as := [.ref 669, .int (59 : Int32)]) (rest := [.ref 669]) (pc' := 137) (lv1 := [(4, .int ((2121 : Int32) + ((9 : Int32) * (s.1 669 24)))), (0, .ref 669), (1, .int v1), (2, .int v2), (3, .int v3)]) rfl rfl rfl rfl rfl (db_f273_ok) fun q7 => ?_
    refine db_RcV (mr' := dbm_264) (as := [.ref 669, .int (db_i q7)]) (rest := []) (pc' := 140) (lv1 := [(4, .int ((2121 : Int32) + ((9 : Int32) * (s.1 669 24)))), (0, .ref 669), (1, .int v1), (2, .int v2), (3, .int v3)]) rfl rfl rfl rfl rfl (db_f264_ok) fun s10 => ?_
    refine db_Rn (lv1 := [(0, .ref 669), (1, .int v1), (3, .int v3), (4, .int ((2121 : Int32) + ((9 : Int32) * (s.1 669 24))))]) rfl rfl rfl ?_
    exact db_f277_b140_ok z277 db_FU _ _ _ _
  exact db_Rret (lv1 := [(0, .ref 669), (1, .int v1), (2, .int v2), (3, .int v3)]) rfl rfl rfl rfl
noncomputable def db_f277_b55 (r277 : db_S → Int32 → Option db_S) (s : db_S) (v1 : Int32) (v2 : Int32) (v3 : Int32) : Option db_S :=
  (cond (db_cnd .ne (s.1 669 12) 0) (db_f277_b81 r277 s v1 v2 v3) (cond (db_cnd .eq v3 0) (db_f277_b81 r277 s v1 v2 v3) (cond (db_cnd .ne v1 (3 : Int32)) (db_f277_b81 r277 s v1 v2 v3) ((db_f234 s (7 : Int32) (s.1 669 15)).bind fun s2 => (db_f277_b81 r277 s2 v1 v2 v3)))))
set_option maxRecDepth 100000 in
theorem db_f277_b55_ok {X : db_X} {d : Nat}  {r277 : db_S → Int32 → Option db_S} {s : db_S} {v1 : Int32} {v2 : Int32} {v3 : Int32} (z277 : ∀ (s' : db_S) (v1 : Int32) , db_Rf X (d + 7) dbm_277 0 (lv_args 0 [.ref 669, .int v1]) [] s' db_zV (r277 s' v1)) : db_Rf X (d + 8) dbm_277 55 [(0, .ref 669), (1, .int v1), (2, .int v2), (3, .int v3)] [] s db_zV (db_f277_b55 r277 s v1 v2 v3) := by
  unfold db_f277_b55
  refine db_Rgo (pc' := 59) (lv' := [(0, .ref 669), (1, .int v1), (2, .int v2), (3, .int v3)]) (st' := [.int (s.1 669 12)]) 2 rfl ?_
  refine db_Rif (pc' := 62) (tg := 81) (lv1 := [(0, .ref 669), (1, .int v1), (2, .int v2), (3, .int v3)]) rfl rfl rfl rfl ?_ ?_
  · exact db_f277_b81_ok z277
  refine db_Rgo (pc' := 63) (lv' := [(0, .ref 669), (1, .int v1), (2, .int v2), (3, .int v3)]) (st' := [.int v3]) 1 rfl ?_
  refine db_Rif (pc' := 66) (tg := 81) (lv1 := [(0, .ref 669), (1, .int v1), (2, .int v2), (3, .int v3)]) rfl rfl rfl rfl ?_ ?_
  · exact db_f277_b81_ok z277
  refine db_Rgo (pc' := 68) (lv' := [(0, .ref 669), (1, .int v1), (2, .int v2), (3, .int v3)]) (st' := [.int (3 : Int32), .int v1]) 2 rfl ?_
  refine db_Ric (pc' := 71) (tg := 81) (lv1 := [(0, .ref 669), (1, .int v1), (2, .int v2), (3, .int v3)]) rfl rfl rfl rfl ?_ ?_
  · exact db_f277_b81_ok z277
  refine db_Rgo (pc' := 78) (lv' := [(0, .ref 669), (1, .int v1), (2, .int v2), (3, .int v3)]) (st' := [.int (s.1 669 15), .int (7 : Int32), .ref 669]) 4 rfl ?_
  refine db_RcV (mr' := dbm_234) (as := [.ref 669, .int (7 : Int32), .int (s.1 669 15)]) (rest := []) (pc' := 81) (lv1 := [(0, .ref 669), (1, .int v1), (2, .int v2), (3, .int v3)]) rfl rfl rfl rfl rfl (db_f234_ok) fun s2 => ?_
  exact db_f277_b81_ok z277
noncomputable def db_f277_b29 (r277 : db_S → Int32 → Option db_S) (s : db_S) (v1 : Int32) (v2 : Int32) (v3 : Int32) : Option db_S :=
  (cond (db_cnd .ne (s.1 669 12) 0) (db_f277_b55 r277 s v1 v2 v3) (cond (db_cnd .ne (s.1 669 24) (30 : Int32)) (db_f277_b55 r277 s v1 v2 v3) ((db_f234 s (6 : Int32) (s.1 669 15)).bind fun s2 => (db_f277_b55 r277 s2 v1 v2 v3))))
set_option maxRecDepth 100000 in
theorem db_f277_b29_ok {X : db_X} {d : Nat}  {r277 : db_S → Int32 → Option db_S} {s : db_S} {v1 : Int32} {v2 : Int32} {v3 : Int32} (z277 : ∀ (s' : db_S) (v1 : Int32) , db_Rf X (d + 7) dbm_277 0 (lv_args 0 [.ref 669, .int v1]) [] s' db_zV (r277 s' v1)) : db_Rf X (d + 8) dbm_277 29 [(0, .ref 669), (1, .int v1), (2, .int v2), (3, .int v3)] [] s db_zV (db_f277_b29 r277 s v1 v2 v3) := by
  unfold db_f277_b29
  refine db_Rgo (pc' := 33) (lv' := [(0, .ref 669), (1, .int v1), (2, .int v2), (3, .int v3)]) (st' := [.int (s.1 669 12)]) 2 rfl ?_
  refine db_Rif (pc' := 36) (tg := 55) (lv1 := [(0, .ref 669), (1, .int v1), (2, .int v2), (3, .int v3)]) rfl rfl rfl rfl ?_ ?_
  · exact db_f277_b55_ok z277
  refine db_Rgo (pc' := 42) (lv' := [(0, .ref 669), (1, .int v1), (2, .int v2), (3, .int v3)]) (st' := [.int (30 : Int32), .int (s.1 669 24)]) 3 rfl ?_
  refine db_Ric (pc' := 45) (tg := 55) (lv1 := [(0, .ref 669), (1, .int v1), (2, .int v2), (3, .int v3)]) rfl rfl rfl rfl ?_ ?_
  · exact db_f277_b55_ok z277
  refine db_Rgo (pc' := 52) (lv' := [(0, .ref 669), (1, .int v1), (2, .int v2), (3, .int v3)]) (st' := [.int (s.1 669 15), .int (6 : Int32), .ref 669]) 4 rfl ?_
  refine db_RcV (mr' := dbm_234) (as := [.ref 669, .int (6 : Int32), .int (s.1 669 15)]) (rest := []) (pc' := 55) (lv1 := [(0, .ref 669), (1, .int v1), (2, .int v2), (3, .int v3)]) rfl rfl rfl rfl rfl (db_f234_ok) fun s2 => ?_
  exact db_f277_b55_ok z277
noncomputable def db_f277_b20 (r277 : db_S → Int32 → Option db_S) (s : db_S) (v1 : Int32) (v2 : Int32) (t0 : Int32) : Option db_S :=
  (cond (db_cnd .ge v2 0) (db_f277_b29 r277 s v1 v2 t0) ((db_f257 s).bind fun s2 => (db_f277_b29 r277 s2 v1 v2 t0)))
set_option maxRecDepth 100000 in
theorem db_f277_b20_ok {X : db_X} {d : Nat}  {r277 : db_S → Int32 → Option db_S} {s : db_S} {v1 : Int32} {v2 : Int32} {t0 : Int32} (z277 : ∀ (s' : db_S) (v1 : Int32) , db_Rf X (d + 7) dbm_277 0 (lv_args 0 [.ref 669, .int v1]) [] s' db_zV (r277 s' v1)) : db_Rf X (d + 8) dbm_277 20 [(0, .ref 669), (1, .int v1), (2, .int v2)] [.int t0] s db_zV (db_f277_b20 r277 s v1 v2 t0) := by
  unfold db_f277_b20
  refine db_Rgo (pc' := 22) (lv' := [(3, .int t0), (0, .ref 669), (1, .int v1), (2, .int v2)]) (st' := [.int v2]) 2 rfl ?_
  refine db_Rif (pc' := 25) (tg := 29) (lv1 := [(3, .int t0), (0, .ref 669), (1, .int v1), (2, .int v2)]) rfl rfl rfl rfl ?_ ?_
  · refine db_Rn (lv1 := [(0, .ref 669), (1, .int v1), (2, .int v2), (3, .int t0)]) rfl rfl rfl ?_
    exact db_f277_b29_ok z277
  refine db_Rgo (pc' := 26) (lv' := [(3, .int t0), (0, .ref 669), (1, .int v1), (2, .int v2)]) (st' := [.ref 669]) 1 rfl ?_
  refine db_RcV (mr' := dbm_257) (as := [.ref 669]) (rest := []) (pc' := 29) (lv1 := [(3, .int t0), (0, .ref 669), (1, .int v1), (2, .int v2)]) rfl rfl rfl rfl rfl (db_f257_ok) fun s2 => ?_
  refine db_Rn (lv1 := [(0, .ref 669), (1, .int v1), (2, .int v2), (3, .int t0)]) rfl rfl rfl ?_
  exact db_f277_b29_ok z277
noncomputable def db_f277_b15 (r277 : db_S → Int32 → Option db_S) (s : db_S) (v1 : Int32) (v2 : Int32) : Option db_S :=
  (db_f277_b20 r277 s v1 v2 (1 : Int32))
set_option maxRecDepth 100000 in
theorem db_f277_b15_ok {X : db_X} {d : Nat}  {r277 : db_S → Int32 → Option db_S} {s : db_S} {v1 : Int32} {v2 : Int32} (z277 : ∀ (s' : db_S) (v1 : Int32) , db_Rf X (d + 7) dbm_277 0 (lv_args 0 [.ref 669, .int v1]) [] s' db_zV (r277 s' v1)) : db_Rf X (d + 8) dbm_277 15 [(0, .ref 669), (1, .int v1), (2, .int v2)] [] s db_zV (db_f277_b15 r277 s v1 v2) := by
  unfold db_f277_b15
  refine db_Rgo (pc' := 20) (lv' := [(0, .ref 669), (1, .int v1), (2, .int v2)]) (st' := [.int (1 : Int32)]) 2 rfl ?_
  exact db_f277_b20_ok z277
/-- DreamBookModel.readStep(I)V -/
noncomputable def db_f277_e (r277 : db_S → Int32 → Option db_S) (s : db_S) (v1 : Int32) : Option db_S :=
  ((db_f254 s).bind fun q1 => (cond (db_cnd .eq q1 (4 : Int32)) (db_f277_b15 r277 s v1 q1) (cond (db_cnd .ne q1 (5 : Int32)) (db_f277_b20 r277 s v1 q1 (0 : Int32)) (db_f277_b15 r277 s v1 q1))))
set_option maxRecDepth 100000 in
theorem db_f277_e_ok {X : db_X} {d : Nat} {s : db_S} {v1 : Int32} {r277 : db_S → Int32 → Option db_S} (z277 : ∀ (s' : db_S) (v1 : Int32) , db_Rf X (d + 7) dbm_277 0 (lv_args 0 [.ref 669, .int v1]) [] s' db_zV (r277 s' v1)) : db_Rf X (d + 8) dbm_277 0 (lv_args 0 [.ref 669, .int v1]) [] s db_zV (db_f277_e r277 s v1) := by
  show db_Rf _ _ _ 0 [(0, .ref 669), (1, .int v1)] [] _ _ _
  unfold db_f277_e
  refine db_Rgo (pc' := 1) (lv' := [(0, .ref 669), (1, .int v1)]) (st' := [.ref 669]) 1 rfl ?_
  refine db_RcyI (mr' := dbm_254) (as := [.ref 669]) (rest := []) (pc' := 4) (lv1 := [(0, .ref 669), (1, .int v1)]) rfl rfl rfl rfl rfl (db_f254_ok) fun q1 => ?_
  refine db_Rgo (pc' := 7) (lv' := [(2, .int q1), (0, .ref 669), (1, .int v1)]) (st' := [.int (4 : Int32), .int q1]) 3 rfl ?_
  refine db_Ric (pc' := 10) (tg := 15) (lv1 := [(2, .int q1), (0, .ref 669), (1, .int v1)]) rfl rfl rfl rfl ?_ ?_
  · refine db_Rn (lv1 := [(0, .ref 669), (1, .int v1), (2, .int q1)]) rfl rfl rfl ?_
    exact db_f277_b15_ok z277
  refine db_Rgo (pc' := 12) (lv' := [(2, .int q1), (0, .ref 669), (1, .int v1)]) (st' := [.int (5 : Int32), .int q1]) 2 rfl ?_
  refine db_Ric (pc' := 15) (tg := 19) (lv1 := [(2, .int q1), (0, .ref 669), (1, .int v1)]) rfl rfl rfl rfl ?_ ?_
  · refine db_Rgo (pc' := 20) (lv' := [(0, .ref 669), (1, .int v1), (2, .int q1)]) (st' := [.int (0 : Int32)]) 1 rfl ?_
    exact db_f277_b20_ok z277
  refine db_Rn (lv1 := [(0, .ref 669), (1, .int v1), (2, .int q1)]) rfl rfl rfl ?_
  exact db_f277_b15_ok z277
noncomputable def db_f277 : Nat → db_S → Int32 → Option db_S
  | 0, _, _ => none
  | n + 1, s, v1 => db_f277_e (db_f277 n) s v1
set_option maxRecDepth 100000 in
theorem db_f277_ok {X : db_X} : ∀ (n e : Nat), 8 + 1 * n ≤ e → ∀ (s : db_S) (v1 : Int32) , db_Rf X e dbm_277 0 (lv_args 0 [.ref 669, .int v1]) [] s db_zV (db_f277 n s v1)
  | 0, _, _ => by
    intros
    exact db_Rnone
  | n + 1, e, he => by
    intro s v1
    obtain ⟨d, rfl⟩ : ∃ d, e = d + 8 := ⟨e - 8, by omega⟩
    exact db_f277_e_ok (d := d) (fun _ _  => db_f277_ok n (d + 7) (by omega) _ _)
noncomputable def db_f276_b82 : Nat → db_S → Int32 → Option (Int32 × db_S)
  | 0, _, _ => none
  | n + 1, s, v2 =>
    (cond (db_cnd .ge v2 ((9 : Int32) * (s.1 669 24))) (some ((s.1 669 24), s)) ((db_rI s 674 ((2121 : Int32) + v2)).bind fun x1 => ((db_wI s 674 ((201 : Int32) + v2) x1).bind fun s2 => (db_f276_b82 n s2 (v2 + (1 : Int32))))))
set_option maxRecDepth 100000 in
theorem db_f276_b82_ok {X : db_X} {d : Nat}  (n : Nat) : ∀ (s : db_S) (v2 : Int32), db_Rf X (d + 21) dbm_276 82 [(0, .ref 669), (2, .int v2)] [] s db_zI (db_f276_b82 n s v2) := by
  induction n with
  | zero => intros; exact db_Rnone
  | succ n ih =>
    intro s v2
    unfold db_f276_b82
    refine db_Rgo (pc' := 90) (lv' := [(0, .ref 669), (2, .int v2)]) (st' := [.int ((9 : Int32) * (s.1 669 24)), .int v2]) 5 rfl ?_
    refine db_Ric (pc' := 93) (tg := 119) (lv1 := [(0, .ref 669), (2, .int v2)]) rfl rfl rfl rfl ?_ ?_
    · refine db_Rgo (pc' := 123) (lv' := [(0, .ref 669)]) (st' := [.int (s.1 669 24)]) 2 rfl ?_
      exact db_Rret (lv1 := [(0, .ref 669)]) rfl rfl rfl rfl
    refine db_Rgo (pc' := 111) (lv' := [(0, .ref 669), (2, .int v2)]) (st' := [.int ((2121 : Int32) + v2), .ref 674, .int ((201 : Int32) + v2), .ref 674]) 10 rfl ?_
    refine db_RldI (pc' := 112) (lv1 := [(0, .ref 669), (2, .int v2)]) rfl rfl rfl fun x1 => ?_
    refine db_RstI (pc' := 113) (lv1 := [(0, .ref 669), (2, .int v2)]) rfl rfl rfl fun s2 => ?_
    refine db_Rgo (pc' := 82) (lv' := [(2, .int (v2 + (1 : Int32))), (0, .ref 669)]) (st' := []) 2 rfl ?_
    refine db_Rn (lv1 := [(0, .ref 669), (2, .int (v2 + (1 : Int32)))]) rfl rfl rfl ?_
    exact ih _ _
noncomputable def db_f276_b50 (s : db_S) : Option (Int32 × db_S) :=
  (db_bd (db_f274 s) fun q1 s2 => (cond q1 ((db_wI s2 674 (199 : Int32) (1 : Int32)).bind fun s3 => ((db_wI s3 674 (200 : Int32) (s3.1 669 24)).bind fun s4 => (db_f276_b82 db_FU s4 (0 : Int32)))) (some ((-1 : Int32), s2))))
set_option maxRecDepth 100000 in
theorem db_f276_b50_ok {X : db_X} {d : Nat}  {s : db_S} : db_Rf X (d + 21) dbm_276 50 [(0, .ref 669)] [] s db_zI (db_f276_b50 s ) := by
  unfold db_f276_b50
  refine db_Rgo (pc' := 51) (lv' := [(0, .ref 669)]) (st' := [.ref 669]) 1 rfl ?_
  refine db_RcdB (mr' := dbm_274) (as := [.ref 669]) (rest := []) (pc' := 54) (lv1 := [(0, .ref 669)]) rfl rfl rfl rfl rfl (db_f274_ok) fun q1 s2 => ?_
  refine db_RifBn (pc' := 57) (tg := 59) (lv1 := [(0, .ref 669)]) rfl rfl rfl rfl ?_ ?_
  · refine db_Rgo (pc' := 67) (lv' := [(0, .ref 669)]) (st' := [.int (1 : Int32), .int (199 : Int32), .ref 674]) 4 rfl ?_
    refine db_RstI (pc' := 68) (lv1 := [(0, .ref 669)]) rfl rfl rfl fun s3 => ?_
    refine db_Rgo (pc' := 79) (lv' := [(0, .ref 669)]) (st' := [.int (s3.1 669 24), .int (200 : Int32), .ref 674]) 5 rfl ?_
    refine db_RstI (pc' := 80) (lv1 := [(0, .ref 669)]) rfl rfl rfl fun s4 => ?_
    refine db_Rgo (pc' := 82) (lv' := [(2, .int (0 : Int32)), (0, .ref 669)]) (st' := []) 2 rfl ?_
    refine db_Rn (lv1 := [(0, .ref 669), (2, .int (0 : Int32))]) rfl rfl rfl ?_
    exact db_f276_b82_ok db_FU _ _
  refine db_Rgo (pc' := 58) (lv' := [(0, .ref 669)]) (st' := [.int (-1 : Int32)]) 1 rfl ?_
  exact db_Rret (lv1 := [(0, .ref 669)]) rfl rfl rfl rfl
noncomputable def db_f276_b28 : Nat → db_S → Option (Int32 × db_S)
  | 0, _ => none
  | n + 1, s =>
    (cond (db_cnd .ne (s.1 669 12) 0) (db_f276_b50 s ) (cond (db_cnd .eq (s.1 669 14) 0) (db_f276_b50 s ) ((db_f277 db_FR s (0 : Int32)).bind fun s2 => (db_f276_b28 n s2 ))))
set_option maxRecDepth 100000 in
theorem db_f276_b28_ok {X : db_X} {d : Nat}  (n : Nat) : ∀ (s : db_S), db_Rf X (d + 21) dbm_276 28 [(0, .ref 669)] [] s db_zI (db_f276_b28 n s ) := by
  induction n with
  | zero => intros; exact db_Rnone
  | succ n ih =>
    intro s 
    unfold db_f276_b28
    refine db_Rgo (pc' := 32) (lv' := [(0, .ref 669)]) (st' := [.int (s.1 669 12)]) 2 rfl ?_
    refine db_Rif (pc' := 35) (tg := 50) (lv1 := [(0, .ref 669)]) rfl rfl rfl rfl ?_ ?_
    · exact db_f276_b50_ok
    refine db_Rgo (pc' := 39) (lv' := [(0, .ref 669)]) (st' := [.int (s.1 669 14)]) 2 rfl ?_
    refine db_Rif (pc' := 42) (tg := 50) (lv1 := [(0, .ref 669)]) rfl rfl rfl rfl ?_ ?_
    · exact db_f276_b50_ok
    refine db_Rgo (pc' := 44) (lv' := [(0, .ref 669)]) (st' := [.int (0 : Int32), .ref 669]) 2 rfl ?_
    refine db_RcV (d := d + 20) (mr' := dbm_277) (as := [.ref 669, .int (0 : Int32)]) (rest := []) (pc' := 47) (lv1 := [(0, .ref 669)]) rfl rfl rfl rfl rfl (db_f277_ok db_FR _ (by unfold db_FR; omega) _ _) fun s2 => ?_
    refine db_Rgo (pc' := 28) (lv' := [(0, .ref 669)]) (st' := []) 1 rfl ?_
    exact ih _
/-- DreamBookModel.nights(I)I -/
noncomputable def db_f276 (s : db_S) (v1 : Int32) : Option (Int32 × db_S) :=
  ((db_pI s 669 1 (0 : Int32)).bind fun s1 => ((db_pI s1 669 0 (0 : Int32)).bind fun s2 => (db_bd (db_f222 s2 v1 (300 : Int32)) fun q3 s4 => (cond q3 ((db_pI s4 669 24 (0 : Int32)).bind fun s5 => (db_f276_b28 db_FU s5 )) (some ((-1 : Int32), s4))))))
set_option maxRecDepth 100000 in
theorem db_f276_ok {X : db_X} {d : Nat} {s : db_S} {v1 : Int32} : db_Rf X (d + 21) dbm_276 0 (lv_args 0 [.ref 669, .int v1]) [] s db_zI (db_f276 s v1) := by
  show db_Rf _ _ _ 0 [(0, .ref 669), (1, .int v1)] [] _ _ _
  unfold db_f276
  refine db_Rgo (pc' := 2) (lv' := [(0, .ref 669), (1, .int v1)]) (st' := [.int (0 : Int32), .ref 669]) 2 rfl ?_
  refine db_RpuI (pc' := 5) (lv1 := [(0, .ref 669), (1, .int v1)]) rfl rfl rfl rfl rfl rfl (by decide) rfl rfl fun s1 => ?_
  refine db_Rgo (pc' := 7) (lv' := [(0, .ref 669), (1, .int v1)]) (st' := [.int (0 : Int32), .ref 669]) 2 rfl ?_
  refine db_RpuI (pc' := 10) (lv1 := [(0, .ref 669), (1, .int v1)]) rfl rfl rfl rfl rfl rfl (by decide) rfl rfl fun s2 => ?_
  refine db_Rgo (pc' := 15) (lv' := [(0, .ref 669), (1, .int v1)]) (st' := [.int (300 : Int32), .int v1, .ref 669]) 3 rfl ?_
  refine db_RcdB (mr' := dbm_222) (as := [.ref 669, .int v1, .int (300 : Int32)]) (rest := []) (pc' := 18) (lv1 := [(0, .ref 669), (1, .int v1)]) rfl rfl rfl rfl rfl (db_f222_ok) fun q3 s4 => ?_
  refine db_RifBn (pc' := 21) (tg := 23) (lv1 := [(0, .ref 669), (1, .int v1)]) rfl rfl rfl rfl ?_ ?_
  · refine db_Rgo (pc' := 25) (lv' := [(0, .ref 669)]) (st' := [.int (0 : Int32), .ref 669]) 2 rfl ?_
    refine db_RpuI (pc' := 28) (lv1 := [(0, .ref 669)]) rfl rfl rfl rfl rfl rfl (by decide) rfl rfl fun s5 => ?_
    exact db_f276_b28_ok db_FU _
  refine db_Rgo (pc' := 22) (lv' := [(0, .ref 669), (1, .int v1)]) (st' := [.int (-1 : Int32)]) 1 rfl ?_
  exact db_Rret (lv1 := [(0, .ref 669), (1, .int v1)]) rfl rfl rfl rfl
/-- DreamBook.fault(I)I -/
noncomputable def db_f98 (s : db_S) (v1 : Int32) : Option Int32 :=
  (cond (db_cnd .ne v1 0) (cond (db_cnd .ne v1 (1 : Int32)) (some (-1 : Int32)) (some (s.1 13 3))) (some (s.1 13 2)))
set_option maxRecDepth 100000 in
theorem db_f98_ok {X : db_X} {d : Nat} {s : db_S} {v1 : Int32} : db_Rf X (d + 0) dbm_98 0 (lv_args 0 [.ref 4, .int v1]) [] s (db_yI s) (db_f98 s v1) := by
  show db_Rf _ _ _ 0 [(0, .ref 4), (1, .int v1)] [] _ _ _
  unfold db_f98
  refine db_Rgo (pc' := 1) (lv' := [(0, .ref 4), (1, .int v1)]) (st' := [.int v1]) 1 rfl ?_
  refine db_Rif (pc' := 4) (tg := 12) (lv1 := [(0, .ref 4), (1, .int v1)]) rfl rfl rfl rfl ?_ ?_
  · refine db_Rgo (pc' := 14) (lv' := [(0, .ref 4), (1, .int v1)]) (st' := [.int (1 : Int32), .int v1]) 2 rfl ?_
    refine db_Ric (pc' := 17) (tg := 27) (lv1 := [(0, .ref 4), (1, .int v1)]) rfl rfl rfl rfl ?_ ?_
    · refine db_Rgo (pc' := 28) (lv' := []) (st' := [.int (-1 : Int32)]) 1 rfl ?_
      exact db_Rret (lv1 := []) rfl rfl rfl rfl
    refine db_Rgo (pc' := 28) (lv' := [(0, .ref 4), (1, .int v1)]) (st' := [.int (s.1 13 3)]) 4 rfl ?_
    exact db_Rret (lv1 := []) rfl rfl rfl rfl
  refine db_Rgo (pc' := 11) (lv' := [(0, .ref 4), (1, .int v1)]) (st' := [.int (s.1 13 2)]) 3 rfl ?_
  exact db_Rret (lv1 := [(0, .ref 4), (1, .int v1)]) rfl rfl rfl rfl
/-- DreamBookModel.fault(I)I -/
noncomputable def db_f220 (s : db_S) (v1 : Int32) : Option (Int32 × db_S) :=
  ((db_pI s 669 1 (0 : Int32)).bind fun s1 => (cond (db_cnd .ne v1 0) (cond (db_cnd .ne v1 (1 : Int32)) (some ((-1 : Int32), s1)) (some ((s1.1 669 11), s1))) (some ((s1.1 669 10), s1))))
set_option maxRecDepth 100000 in
theorem db_f220_ok {X : db_X} {d : Nat} {s : db_S} {v1 : Int32} : db_Rf X (d + 0) dbm_220 0 (lv_args 0 [.ref 669, .int v1]) [] s db_zI (db_f220 s v1) := by
  show db_Rf _ _ _ 0 [(0, .ref 669), (1, .int v1)] [] _ _ _
  unfold db_f220
  refine db_Rgo (pc' := 2) (lv' := [(0, .ref 669), (1, .int v1)]) (st' := [.int (0 : Int32), .ref 669]) 2 rfl ?_
  refine db_RpuI (pc' := 5) (lv1 := [(0, .ref 669), (1, .int v1)]) rfl rfl rfl rfl rfl rfl (by decide) rfl rfl fun s1 => ?_
  refine db_Rgo (pc' := 6) (lv' := [(0, .ref 669), (1, .int v1)]) (st' := [.int v1]) 1 rfl ?_
  refine db_Rif (pc' := 9) (tg := 16) (lv1 := [(0, .ref 669), (1, .int v1)]) rfl rfl rfl rfl ?_ ?_
  · refine db_Rgo (pc' := 18) (lv' := [(0, .ref 669), (1, .int v1)]) (st' := [.int (1 : Int32), .int v1]) 2 rfl ?_
    refine db_Ric (pc' := 21) (tg := 28) (lv1 := [(0, .ref 669), (1, .int v1)]) rfl rfl rfl rfl ?_ ?_
    · refine db_Rgo (pc' := 29) (lv' := []) (st' := [.int (-1 : Int32)]) 1 rfl ?_
      exact db_Rret (lv1 := []) rfl rfl rfl rfl
    refine db_Rgo (pc' := 29) (lv' := [(0, .ref 669), (1, .int v1)]) (st' := [.int (s1.1 669 11)]) 3 rfl ?_
    exact db_Rret (lv1 := []) rfl rfl rfl rfl
  refine db_Rgo (pc' := 29) (lv' := [(0, .ref 669), (1, .int v1)]) (st' := [.int (s1.1 669 10)]) 3 rfl ?_
  exact db_Rret (lv1 := []) rfl rfl rfl rfl
noncomputable def db_f100_20_b4 (s : db_S) : Nat → Int32 → Int32 → Option Int32
  | 0, _, _ => none
  | n + 1, v1, v2 =>
    ((db_rI s 21 (5 : Int32)).bind fun x1 => (cond (db_cnd .ge v2 x1) (some v1) ((db_rI s 61 v2).bind fun x2 => (db_f100_20_b4 s n (v1 + x2) (v2 + (1 : Int32))))))
set_option maxRecDepth 100000 in
theorem db_f100_20_b4_ok {X : db_X} {d : Nat} {s : db_S} (n : Nat) : ∀ (v1 : Int32) (v2 : Int32), db_Rf X (d + 0) dbm_100 4 [(0, .ref 20), (1, .int v1), (2, .int v2)] [] s (db_yI s) (db_f100_20_b4 s n v1 v2) := by
  induction n with
  | zero => intros; exact db_Rnone
  | succ n ih =>
    intro v1 v2
    unfold db_f100_20_b4
    refine db_Rgo (pc' := 10) (lv' := [(0, .ref 20), (1, .int v1), (2, .int v2)]) (st' := [.int (5 : Int32), .ref 21, .int v2]) 4 rfl ?_
    refine db_RldI (pc' := 11) (lv1 := [(0, .ref 20), (1, .int v1), (2, .int v2)]) rfl rfl rfl fun x1 => ?_
    refine db_Ric (pc' := 14) (tg := 29) (lv1 := [(0, .ref 20), (1, .int v1), (2, .int v2)]) rfl rfl rfl rfl ?_ ?_
    · refine db_Rgo (pc' := 30) (lv' := [(1, .int v1)]) (st' := [.int v1]) 1 rfl ?_
      exact db_Rret (lv1 := [(1, .int v1)]) rfl rfl rfl rfl
    refine db_Rgo (pc' := 20) (lv' := [(0, .ref 20), (1, .int v1), (2, .int v2)]) (st' := [.int v2, .ref 61, .int v1]) 4 rfl ?_
    refine db_RldI (pc' := 21) (lv1 := [(0, .ref 20), (1, .int v1), (2, .int v2)]) rfl rfl rfl fun x2 => ?_
    refine db_Rgo (pc' := 4) (lv' := [(2, .int (v2 + (1 : Int32))), (1, .int (v1 + x2)), (0, .ref 20)]) (st' := []) 4 rfl ?_
    refine db_Rn (lv1 := [(0, .ref 20), (1, .int (v1 + x2)), (2, .int (v2 + (1 : Int32)))]) rfl rfl rfl ?_
    exact ih _ _
/-- DreamBook$Told.allChances()I -/
noncomputable def db_f100_20 (s : db_S) : Option Int32 :=
  (db_f100_20_b4 s db_FU (0 : Int32) (0 : Int32))
set_option maxRecDepth 100000 in
theorem db_f100_20_ok {X : db_X} {d : Nat} {s : db_S} : db_Rf X (d + 0) dbm_100 0 (lv_args 0 [.ref 20]) [] s (db_yI s) (db_f100_20 s ) := by
  show db_Rf _ _ _ 0 [(0, .ref 20)] [] _ _ _
  unfold db_f100_20
  refine db_Rgo (pc' := 4) (lv' := [(2, .int (0 : Int32)), (1, .int (0 : Int32)), (0, .ref 20)]) (st' := []) 4 rfl ?_
  refine db_Rn (lv1 := [(0, .ref 20), (1, .int (0 : Int32)), (2, .int (0 : Int32))]) rfl rfl rfl ?_
  exact db_f100_20_b4_ok db_FU _ _
/-- DreamBook$Reader.inForce()I -/
noncomputable def db_f101 (s : db_S) : Option Int32 :=
  (some ((s.1 20 13) &&& ((s.1 80 2) ^^^ (-1 : Int32))))
set_option maxRecDepth 100000 in
theorem db_f101_ok {X : db_X} {d : Nat} {s : db_S} : db_Rf X (d + 0) dbm_101 0 (lv_args 0 [.ref 271]) [] s (db_yI s) (db_f101 s ) := by
  show db_Rf _ _ _ 0 [(0, .ref 271)] [] _ _ _
  unfold db_f101
  refine db_Rgo (pc' := 17) (lv' := [(0, .ref 271)]) (st' := [.int ((s.1 20 13) &&& ((s.1 80 2) ^^^ (-1 : Int32)))]) 9 rfl ?_
  exact db_Rret (lv1 := [(0, .ref 271)]) rfl rfl rfl rfl
/-- DreamBook.many(I)I -/
noncomputable def db_f99 (s : db_S) (v1 : Int32) : Option (Int32 × db_S) :=
  ((db_f27 s v1 (0 : Int32) (9 : Int32)).bind fun q1 => (cond q1 (if v1 = (6 : Int32) then ((db_f100_20 s).bind fun q3 => (db_bd (db_f87 s q3) fun q5 s6 => (some (q5, s6)))) else (if v1 = (7 : Int32) then (db_bd (db_f87 s (s.1 80 3)) fun q7 s8 => (some (q7, s8))) else (if v1 = (8 : Int32) then ((db_f101 s).bind fun q9 => (db_bd (db_f87 s q9) fun q11 s12 => (some (q11, s12)))) else (if v1 = (9 : Int32) then (db_bd (db_f87 s (s.1 80 2)) fun q13 s14 => (some (q13, s14))) else ((db_rI s 21 v1).bind fun x15 => (db_bd (db_f87 s x15) fun q16 s17 => (some (q16, s17)))))))) (db_bd (db_f37 s (5 : Int32)) fun q22 s23 => (some (q22, s23)))))
set_option maxRecDepth 100000 in
theorem db_f99_ok {X : db_X} {d : Nat} {s : db_S} {v1 : Int32} : db_Rf X (d + 1) dbm_99 0 (lv_args 0 [.ref 4, .int v1]) [] s db_zI (db_f99 s v1) := by
  show db_Rf _ _ _ 0 [(0, .ref 4), (1, .int v1)] [] _ _ _
  unfold db_f99
  refine db_Rgo (pc' := 4) (lv' := [(0, .ref 4), (1, .int v1)]) (st' := [.int (9 : Int32), .int (0 : Int32), .int v1]) 3 rfl ?_
  refine db_RcyB (mr' := dbm_27) (as := [.int v1, .int (0 : Int32), .int (9 : Int32)]) (rest := []) (pc' := 7) (lv1 := [(0, .ref 4), (1, .int v1)]) rfl rfl rfl rfl rfl (db_f27_ok) fun q1 => ?_
  refine db_RifBn (pc' := 10) (tg := 16) (lv1 := [(0, .ref 4), (1, .int v1)]) rfl rfl rfl rfl ?_ ?_
  · refine db_Rgo (pc' := 17) (lv' := [(0, .ref 4), (1, .int v1)]) (st' := [.int v1]) 1 rfl ?_
    refine db_Rsw (v := (6 : Int32)) (tg := 48) (lv1 := [(0, .ref 4), (1, .int v1)]) rfl rfl rfl rfl rfl ?_ (fun zc18 => ?_)
    · refine db_Rgo (pc' := 53) (lv' := [(0, .ref 4)]) (st' := [.ref 20, .ref 4]) 3 rfl ?_
      refine db_RcyI (mr' := dbm_100) (as := [.ref 20]) (rest := [.ref 4]) (pc' := 56) (lv1 := [(0, .ref 4)]) rfl rfl rfl rfl rfl (db_f100_20_ok) fun q3 => ?_
      refine db_RcdI (mr' := dbm_87) (as := [.ref 4, .int q3]) (rest := []) (pc' := 59) (lv1 := [(0, .ref 4)]) rfl rfl rfl rfl rfl (db_f87_ok) fun q5 s6 => ?_
      exact db_Rret (lv1 := [(0, .ref 4)]) rfl rfl rfl rfl
    refine db_Rsw (v := (7 : Int32)) (tg := 60) (lv1 := [(0, .ref 4), (1, .int v1)]) rfl rfl rfl rfl rfl ?_ (fun zc19 => ?_)
    · refine db_Rgo (pc' := 68) (lv' := [(0, .ref 4)]) (st' := [.int (s.1 80 3), .ref 4]) 4 rfl ?_
      refine db_RcdI (mr' := dbm_87) (as := [.ref 4, .int (s.1 80 3)]) (rest := []) (pc' := 71) (lv1 := [(0, .ref 4)]) rfl rfl rfl rfl rfl (db_f87_ok) fun q7 s8 => ?_
      exact db_Rret (lv1 := [(0, .ref 4)]) rfl rfl rfl rfl
    refine db_Rsw (v := (8 : Int32)) (tg := 72) (lv1 := [(0, .ref 4), (1, .int v1)]) rfl rfl rfl rfl rfl ?_ (fun zc20 => ?_)
    · refine db_Rgo (pc' := 77) (lv' := [(0, .ref 4)]) (st' := [.ref 271, .ref 4]) 3 rfl ?_
      refine db_RcyI (mr' := dbm_101) (as := [.ref 271]) (rest := [.ref 4]) (pc' := 80) (lv1 := [(0, .ref 4)]) rfl rfl rfl rfl rfl (db_f101_ok) fun q9 => ?_
      refine db_RcdI (mr' := dbm_87) (as := [.ref 4, .int q9]) (rest := []) (pc' := 83) (lv1 := [(0, .ref 4)]) rfl rfl rfl rfl rfl (db_f87_ok) fun q11 s12 => ?_
      exact db_Rret (lv1 := [(0, .ref 4)]) rfl rfl rfl rfl
    refine db_Rsw (v := (9 : Int32)) (tg := 84) (lv1 := [(0, .ref 4), (1, .int v1)]) rfl rfl rfl rfl rfl ?_ (fun zc21 => ?_)
    · refine db_Rgo (pc' := 92) (lv' := [(0, .ref 4)]) (st' := [.int (s.1 80 2), .ref 4]) 4 rfl ?_
      refine db_RcdI (mr' := dbm_87) (as := [.ref 4, .int (s.1 80 2)]) (rest := []) (pc' := 95) (lv1 := [(0, .ref 4)]) rfl rfl rfl rfl rfl (db_f87_ok) fun q13 s14 => ?_
      exact db_Rret (lv1 := [(0, .ref 4)]) rfl rfl rfl rfl
    refine db_Rsd (tg := 96) (lv1 := [(0, .ref 4), (1, .int v1)]) rfl rfl (db_swd 4 (by decide) (fun k hk => by match k, hk with | 0, _ => exact zc18 | 1, _ => exact zc19 | 2, _ => exact zc20 | 3, _ => exact zc21 | k + 4, hk => exact absurd hk (by omega))) rfl ?_
    refine db_Rgo (pc' := 105) (lv' := [(0, .ref 4), (1, .int v1)]) (st' := [.int v1, .ref 21, .ref 4]) 5 rfl ?_
    refine db_RldI (pc' := 106) (lv1 := [(0, .ref 4), (1, .int v1)]) rfl rfl rfl fun x15 => ?_
    refine db_RcdI (mr' := dbm_87) (as := [.ref 4, .int x15]) (rest := []) (pc' := 109) (lv1 := [(0, .ref 4), (1, .int v1)]) rfl rfl rfl rfl rfl (db_f87_ok) fun q16 s17 => ?_
    exact db_Rret (lv1 := [(0, .ref 4), (1, .int v1)]) rfl rfl rfl rfl
  refine db_Rgo (pc' := 12) (lv' := [(0, .ref 4), (1, .int v1)]) (st' := [.int (5 : Int32), .ref 4]) 2 rfl ?_
  refine db_RcdI (mr' := dbm_37) (as := [.ref 4, .int (5 : Int32)]) (rest := []) (pc' := 15) (lv1 := [(0, .ref 4), (1, .int v1)]) rfl rfl rfl rfl rfl (db_f37_ok) fun q22 s23 => ?_
  exact db_Rret (lv1 := [(0, .ref 4), (1, .int v1)]) rfl rfl rfl rfl
noncomputable def db_f286_b40 (h2 : Int32 → Int32 → Int32 → Option Bool) (s : db_S) (v1 : Int32) (v2 : Int32) (v3 : Int32) : Option Bool :=
  (h2 v1 v2 (v3 + (1 : Int32)))
set_option maxRecDepth 100000 in
theorem db_f286_b40_ok {X : db_X} {d : Nat}  {h2 : Int32 → Int32 → Int32 → Option Bool} {s : db_S} {v1 : Int32} {v2 : Int32} {v3 : Int32} (zh2 : ∀ (v1 : Int32) (v2 : Int32) (v3 : Int32) , db_Rf X (d + 0) dbm_286 2 [(0, .ref 669), (1, .int v1), (2, .int v2), (3, .int v3)] [] s (db_yB s) (h2 v1 v2 v3)) : db_Rf X (d + 0) dbm_286 40 [(0, .ref 669), (1, .int v1), (2, .int v2), (3, .int v3)] [] s (db_yB s) (db_f286_b40 h2 s v1 v2 v3) := by
  unfold db_f286_b40
  refine db_Rgo (pc' := 2) (lv' := [(3, .int (v3 + (1 : Int32))), (0, .ref 669), (1, .int v1), (2, .int v2)]) (st' := []) 2 rfl ?_
  refine db_Rn (lv1 := [(0, .ref 669), (1, .int v1), (2, .int v2), (3, .int (v3 + (1 : Int32)))]) rfl rfl rfl ?_
  exact zh2 _ _ _
noncomputable def db_f286_b2 (s : db_S) : Nat → Int32 → Int32 → Int32 → Option Bool
  | 0, _, _, _ => none
  | n + 1, v1, v2, v3 =>
    ((db_rI s 674 (4 : Int32)).bind fun x1 => (cond (db_cnd .ge v3 x1) (some false) ((db_rI s 674 ((103 : Int32) + v3)).bind fun x2 => (cond (db_cnd .ne x2 v1) (db_f286_b40 (db_f286_b2 s n) s v1 v2 v3) ((db_rI s 674 ((115 : Int32) + v3)).bind fun x3 => (cond (db_cnd .ne x3 v2) (db_f286_b40 (db_f286_b2 s n) s v1 v2 v3) (some true)))))))
set_option maxRecDepth 100000 in
theorem db_f286_b2_ok {X : db_X} {d : Nat} {s : db_S} (n : Nat) : ∀ (v1 : Int32) (v2 : Int32) (v3 : Int32), db_Rf X (d + 0) dbm_286 2 [(0, .ref 669), (1, .int v1), (2, .int v2), (3, .int v3)] [] s (db_yB s) (db_f286_b2 s n v1 v2 v3) := by
  induction n with
  | zero => intros; exact db_Rnone
  | succ n ih =>
    intro v1 v2 v3
    unfold db_f286_b2
    refine db_Rgo (pc' := 8) (lv' := [(0, .ref 669), (1, .int v1), (2, .int v2), (3, .int v3)]) (st' := [.int (4 : Int32), .ref 674, .int v3]) 4 rfl ?_
    refine db_RldI (pc' := 9) (lv1 := [(0, .ref 669), (1, .int v1), (2, .int v2), (3, .int v3)]) rfl rfl rfl fun x1 => ?_
    refine db_Ric (pc' := 12) (tg := 46) (lv1 := [(0, .ref 669), (1, .int v1), (2, .int v2), (3, .int v3)]) rfl rfl rfl rfl ?_ ?_
    · refine db_Rgo (pc' := 47) (lv' := []) (st' := [.int (0 : Int32)]) 1 rfl ?_
      exact db_Rret (lv1 := []) rfl rfl rfl rfl
    refine db_Rgo (pc' := 20) (lv' := [(0, .ref 669), (1, .int v1), (2, .int v2), (3, .int v3)]) (st' := [.int ((103 : Int32) + v3), .ref 674]) 5 rfl ?_
    refine db_RldI (pc' := 21) (lv1 := [(0, .ref 669), (1, .int v1), (2, .int v2), (3, .int v3)]) rfl rfl rfl fun x2 => ?_
    refine db_Rgo (pc' := 22) (lv' := [(0, .ref 669), (1, .int v1), (2, .int v2), (3, .int v3)]) (st' := [.int v1, .int x2]) 1 rfl ?_
    refine db_Ric (pc' := 25) (tg := 40) (lv1 := [(0, .ref 669), (1, .int v1), (2, .int v2), (3, .int v3)]) rfl rfl rfl rfl ?_ ?_
    · exact db_f286_b40_ok ih
    refine db_Rgo (pc' := 33) (lv' := [(0, .ref 669), (1, .int v1), (2, .int v2), (3, .int v3)]) (st' := [.int ((115 : Int32) + v3), .ref 674]) 5 rfl ?_
    refine db_RldI (pc' := 34) (lv1 := [(0, .ref 669), (1, .int v1), (2, .int v2), (3, .int v3)]) rfl rfl rfl fun x3 => ?_
    refine db_Rgo (pc' := 35) (lv' := [(0, .ref 669), (1, .int v1), (2, .int v2), (3, .int v3)]) (st' := [.int v2, .int x3]) 1 rfl ?_
    refine db_Ric (pc' := 38) (tg := 40) (lv1 := [(0, .ref 669), (1, .int v1), (2, .int v2), (3, .int v3)]) rfl rfl rfl rfl ?_ ?_
    · exact db_f286_b40_ok ih
    refine db_Rgo (pc' := 39) (lv' := [(0, .ref 669), (1, .int v1), (2, .int v2), (3, .int v3)]) (st' := [.int (1 : Int32)]) 1 rfl ?_
    exact db_Rret (lv1 := [(0, .ref 669), (1, .int v1), (2, .int v2), (3, .int v3)]) rfl rfl rfl rfl
/-- DreamBookModel.strikes2(II)Z -/
noncomputable def db_f286 (s : db_S) (v1 : Int32) (v2 : Int32) : Option Bool :=
  (db_f286_b2 s db_FU v1 v2 (0 : Int32))
set_option maxRecDepth 100000 in
theorem db_f286_ok {X : db_X} {d : Nat} {s : db_S} {v1 : Int32} {v2 : Int32} : db_Rf X (d + 0) dbm_286 0 (lv_args 0 [.ref 669, .int v1, .int v2]) [] s (db_yB s) (db_f286 s v1 v2) := by
  show db_Rf _ _ _ 0 [(0, .ref 669), (1, .int v1), (2, .int v2)] [] _ _ _
  unfold db_f286
  refine db_Rgo (pc' := 2) (lv' := [(3, .int (0 : Int32)), (0, .ref 669), (1, .int v1), (2, .int v2)]) (st' := []) 2 rfl ?_
  refine db_Rn (lv1 := [(0, .ref 669), (1, .int v1), (2, .int v2), (3, .int (0 : Int32))]) rfl rfl rfl ?_
  exact db_f286_b2_ok db_FU _ _ _
noncomputable def db_f285_b53 (h4 : Int32 → Int32 → Int32 → Option Int32) (s : db_S) (v1 : Int32) (v2 : Int32) (v3 : Int32) : Option Int32 :=
  (h4 v1 v2 (v3 + (1 : Int32)))
set_option maxRecDepth 100000 in
theorem db_f285_b53_ok {X : db_X} {d : Nat}  {h4 : Int32 → Int32 → Int32 → Option Int32} {s : db_S} {v1 : Int32} {v2 : Int32} {v3 : Int32} (zh4 : ∀ (v1 : Int32) (v2 : Int32) (v3 : Int32) , db_Rf X (d + 1) dbm_285 4 [(0, .ref 669), (1, .int v1), (2, .int v2), (3, .int v3)] [] s (db_yI s) (h4 v1 v2 v3)) : db_Rf X (d + 1) dbm_285 53 [(0, .ref 669), (1, .int v1), (2, .int v2), (3, .int v3)] [] s (db_yI s) (db_f285_b53 h4 s v1 v2 v3) := by
  unfold db_f285_b53
  refine db_Rgo (pc' := 4) (lv' := [(3, .int (v3 + (1 : Int32))), (0, .ref 669), (1, .int v1), (2, .int v2)]) (st' := []) 2 rfl ?_
  refine db_Rn (lv1 := [(0, .ref 669), (1, .int v1), (2, .int v2), (3, .int (v3 + (1 : Int32)))]) rfl rfl rfl ?_
  exact zh4 _ _ _
noncomputable def db_f285_b52 (h4 : Int32 → Int32 → Int32 → Option Int32) (s : db_S) (v1 : Int32) (v3 : Int32) (t0 : Int32) : Option Int32 :=
  (db_f285_b53 h4 s v1 t0 v3)
set_option maxRecDepth 100000 in
theorem db_f285_b52_ok {X : db_X} {d : Nat}  {h4 : Int32 → Int32 → Int32 → Option Int32} {s : db_S} {v1 : Int32} {v3 : Int32} {t0 : Int32} (zh4 : ∀ (v1 : Int32) (v2 : Int32) (v3 : Int32) , db_Rf X (d + 1) dbm_285 4 [(0, .ref 669), (1, .int v1), (2, .int v2), (3, .int v3)] [] s (db_yI s) (h4 v1 v2 v3)) : db_Rf X (d + 1) dbm_285 52 [(0, .ref 669), (1, .int v1), (3, .int v3)] [.int t0] s (db_yI s) (db_f285_b52 h4 s v1 v3 t0) := by
  unfold db_f285_b52
  refine db_Rgo (pc' := 53) (lv' := [(2, .int t0), (0, .ref 669), (1, .int v1), (3, .int v3)]) (st' := []) 1 rfl ?_
  refine db_Rn (lv1 := [(0, .ref 669), (1, .int v1), (2, .int t0), (3, .int v3)]) rfl rfl rfl ?_
  exact db_f285_b53_ok zh4
noncomputable def db_f285_b4 (s : db_S) : Nat → Int32 → Int32 → Int32 → Option Int32
  | 0, _, _, _ => none
  | n + 1, v1, v2, v3 =>
    ((db_rI s 674 (3 : Int32)).bind fun x1 => (cond (db_cnd .ge v3 x1) (some v2) ((db_f286 s v3 v1).bind fun q2 => (cond q2 ((db_rI s 677 v3).bind fun x4 => (cond (db_cnd .ne x4 0) ((db_rI s 677 v3).bind fun x5 => (cond (db_cnd .ne x5 (2 : Int32)) (db_f285_b52 (db_f285_b4 s n) s v1 v3 v2) (db_f285_b52 (db_f285_b4 s n) s v1 v3 (2 : Int32)))) (some (1 : Int32)))) (db_f285_b53 (db_f285_b4 s n) s v1 v2 v3)))))
set_option maxRecDepth 100000 in
theorem db_f285_b4_ok {X : db_X} {d : Nat} {s : db_S} (n : Nat) : ∀ (v1 : Int32) (v2 : Int32) (v3 : Int32), db_Rf X (d + 1) dbm_285 4 [(0, .ref 669), (1, .int v1), (2, .int v2), (3, .int v3)] [] s (db_yI s) (db_f285_b4 s n v1 v2 v3) := by
  induction n with
  | zero => intros; exact db_Rnone
  | succ n ih =>
    intro v1 v2 v3
    unfold db_f285_b4
    refine db_Rgo (pc' := 10) (lv' := [(0, .ref 669), (1, .int v1), (2, .int v2), (3, .int v3)]) (st' := [.int (3 : Int32), .ref 674, .int v3]) 4 rfl ?_
    refine db_RldI (pc' := 11) (lv1 := [(0, .ref 669), (1, .int v1), (2, .int v2), (3, .int v3)]) rfl rfl rfl fun x1 => ?_
    refine db_Ric (pc' := 14) (tg := 59) (lv1 := [(0, .ref 669), (1, .int v1), (2, .int v2), (3, .int v3)]) rfl rfl rfl rfl ?_ ?_
    · refine db_Rgo (pc' := 60) (lv' := [(2, .int v2)]) (st' := [.int v2]) 1 rfl ?_
      exact db_Rret (lv1 := [(2, .int v2)]) rfl rfl rfl rfl
    refine db_Rgo (pc' := 17) (lv' := [(0, .ref 669), (1, .int v1), (2, .int v2), (3, .int v3)]) (st' := [.int v1, .int v3, .ref 669]) 3 rfl ?_
    refine db_RcyB (mr' := dbm_286) (as := [.ref 669, .int v3, .int v1]) (rest := []) (pc' := 20) (lv1 := [(0, .ref 669), (1, .int v1), (2, .int v2), (3, .int v3)]) rfl rfl rfl rfl rfl (db_f286_ok) fun q2 => ?_
    refine db_RifBn (pc' := 23) (tg := 26) (lv1 := [(0, .ref 669), (1, .int v1), (2, .int v2), (3, .int v3)]) rfl rfl rfl rfl ?_ ?_
    · refine db_Rgo (pc' := 31) (lv' := [(0, .ref 669), (1, .int v1), (2, .int v2), (3, .int v3)]) (st' := [.int v3, .ref 677]) 3 rfl ?_
      refine db_RldI (pc' := 32) (lv1 := [(0, .ref 669), (1, .int v1), (2, .int v2), (3, .int v3)]) rfl rfl rfl fun x4 => ?_
      refine db_Rif (pc' := 35) (tg := 37) (lv1 := [(0, .ref 669), (1, .int v1), (2, .int v2), (3, .int v3)]) rfl rfl rfl rfl ?_ ?_
      · refine db_Rgo (pc' := 42) (lv' := [(0, .ref 669), (1, .int v1), (2, .int v2), (3, .int v3)]) (st' := [.int v3, .ref 677]) 3 rfl ?_
        refine db_RldI (pc' := 43) (lv1 := [(0, .ref 669), (1, .int v1), (2, .int v2), (3, .int v3)]) rfl rfl rfl fun x5 => ?_
        refine db_Rgo (pc' := 44) (lv' := [(0, .ref 669), (1, .int v1), (2, .int v2), (3, .int v3)]) (st' := [.int (2 : Int32), .int x5]) 1 rfl ?_
        refine db_Ric (pc' := 47) (tg := 51) (lv1 := [(0, .ref 669), (1, .int v1), (2, .int v2), (3, .int v3)]) rfl rfl rfl rfl ?_ ?_
        · refine db_Rgo (pc' := 52) (lv' := [(0, .ref 669), (1, .int v1), (2, .int v2), (3, .int v3)]) (st' := [.int v2]) 1 rfl ?_
          refine db_Rn (lv1 := [(0, .ref 669), (1, .int v1), (3, .int v3)]) rfl rfl rfl ?_
          exact db_f285_b52_ok ih
        refine db_Rgo (pc' := 52) (lv' := [(0, .ref 669), (1, .int v1), (2, .int v2), (3, .int v3)]) (st' := [.int (2 : Int32)]) 2 rfl ?_
        refine db_Rn (lv1 := [(0, .ref 669), (1, .int v1), (3, .int v3)]) rfl rfl rfl ?_
        exact db_f285_b52_ok ih
      refine db_Rgo (pc' := 36) (lv' := [(0, .ref 669), (1, .int v1), (2, .int v2), (3, .int v3)]) (st' := [.int (1 : Int32)]) 1 rfl ?_
      exact db_Rret (lv1 := [(0, .ref 669), (1, .int v1), (2, .int v2), (3, .int v3)]) rfl rfl rfl rfl
    refine db_Rgo (pc' := 53) (lv' := [(0, .ref 669), (1, .int v1), (2, .int v2), (3, .int v3)]) (st' := []) 1 rfl ?_
    exact db_f285_b53_ok ih
/-- DreamBookModel.stateOf(I)I -/
noncomputable def db_f285 (s : db_S) (v1 : Int32) : Option Int32 :=
  (db_f285_b4 s db_FU v1 (0 : Int32) (0 : Int32))
set_option maxRecDepth 100000 in
theorem db_f285_ok {X : db_X} {d : Nat} {s : db_S} {v1 : Int32} : db_Rf X (d + 1) dbm_285 0 (lv_args 0 [.ref 669, .int v1]) [] s (db_yI s) (db_f285 s v1) := by
  show db_Rf _ _ _ 0 [(0, .ref 669), (1, .int v1)] [] _ _ _
  unfold db_f285
  refine db_Rgo (pc' := 4) (lv' := [(3, .int (0 : Int32)), (2, .int (0 : Int32)), (0, .ref 669), (1, .int v1)]) (st' := []) 4 rfl ?_
  refine db_Rn (lv1 := [(0, .ref 669), (1, .int v1), (2, .int (0 : Int32)), (3, .int (0 : Int32))]) rfl rfl rfl ?_
  exact db_f285_b4_ok db_FU _ _ _
noncomputable def db_f284_b62 (h23 : db_S → Int32 → Option db_S) (h31 : db_S → Int32 → Int32 → Option db_S) (s : db_S) (v1 : Int32) (v2 : Int32) : Option db_S :=
  (h31 s v1 (v2 + (1 : Int32)))
set_option maxRecDepth 100000 in
theorem db_f284_b62_ok {X : db_X} {d : Nat}  {h23 : db_S → Int32 → Option db_S} {h31 : db_S → Int32 → Int32 → Option db_S} {s : db_S} {v1 : Int32} {v2 : Int32} (zh23 : ∀ (s' : db_S) (v1 : Int32) , db_Rf X (d + 2) dbm_284 23 [(0, .ref 669), (1, .int v1)] [] s' db_zV (h23 s' v1)) (zh31 : ∀ (s' : db_S) (v1 : Int32) (v2 : Int32) , db_Rf X (d + 2) dbm_284 31 [(0, .ref 669), (1, .int v1), (2, .int v2)] [] s' db_zV (h31 s' v1 v2)) : db_Rf X (d + 2) dbm_284 62 [(0, .ref 669), (1, .int v1), (2, .int v2)] [] s db_zV (db_f284_b62 h23 h31 s v1 v2) := by
  unfold db_f284_b62
  refine db_Rgo (pc' := 31) (lv' := [(2, .int (v2 + (1 : Int32))), (0, .ref 669), (1, .int v1)]) (st' := []) 2 rfl ?_
  refine db_Rn (lv1 := [(0, .ref 669), (1, .int v1), (2, .int (v2 + (1 : Int32)))]) rfl rfl rfl ?_
  exact zh31 _ _ _
noncomputable def db_f284_b31 (h23 : db_S → Int32 → Option db_S) : Nat → db_S → Int32 → Int32 → Option db_S
  | 0, _, _, _ => none
  | n + 1, s, v1, v2 =>
    ((db_rI s 674 (3 : Int32)).bind fun x1 => (cond (db_cnd .ge v2 x1) (h23 s (v1 + (1 : Int32))) ((db_rI s 677 v2).bind fun x2 => (cond (db_cnd .ne x2 (2 : Int32)) (db_f284_b62 h23 (db_f284_b31 h23 n) s v1 v2) ((db_f285 s v2).bind fun q3 => ((db_wI s 677 v2 q3).bind fun s5 => (db_f284_b62 h23 (db_f284_b31 h23 n) s5 v1 v2)))))))
set_option maxRecDepth 100000 in
theorem db_f284_b31_ok {X : db_X} {d : Nat}  {h23 : db_S → Int32 → Option db_S} (zh23 : ∀ (s' : db_S) (v1 : Int32) , db_Rf X (d + 2) dbm_284 23 [(0, .ref 669), (1, .int v1)] [] s' db_zV (h23 s' v1)) (n : Nat) : ∀ (s : db_S) (v1 : Int32) (v2 : Int32), db_Rf X (d + 2) dbm_284 31 [(0, .ref 669), (1, .int v1), (2, .int v2)] [] s db_zV (db_f284_b31 h23 n s v1 v2) := by
  induction n with
  | zero => intros; exact db_Rnone
  | succ n ih =>
    intro s v1 v2
    unfold db_f284_b31
    refine db_Rgo (pc' := 37) (lv' := [(0, .ref 669), (1, .int v1), (2, .int v2)]) (st' := [.int (3 : Int32), .ref 674, .int v2]) 4 rfl ?_
    refine db_RldI (pc' := 38) (lv1 := [(0, .ref 669), (1, .int v1), (2, .int v2)]) rfl rfl rfl fun x1 => ?_
    refine db_Ric (pc' := 41) (tg := 68) (lv1 := [(0, .ref 669), (1, .int v1), (2, .int v2)]) rfl rfl rfl rfl ?_ ?_
    · refine db_Rgo (pc' := 23) (lv' := [(1, .int (v1 + (1 : Int32))), (0, .ref 669)]) (st' := []) 2 rfl ?_
      refine db_Rn (lv1 := [(0, .ref 669), (1, .int (v1 + (1 : Int32)))]) rfl rfl rfl ?_
      exact zh23 _ _
    refine db_Rgo (pc' := 46) (lv' := [(0, .ref 669), (1, .int v1), (2, .int v2)]) (st' := [.int v2, .ref 677]) 3 rfl ?_
    refine db_RldI (pc' := 47) (lv1 := [(0, .ref 669), (1, .int v1), (2, .int v2)]) rfl rfl rfl fun x2 => ?_
    refine db_Rgo (pc' := 48) (lv' := [(0, .ref 669), (1, .int v1), (2, .int v2)]) (st' := [.int (2 : Int32), .int x2]) 1 rfl ?_
    refine db_Ric (pc' := 51) (tg := 62) (lv1 := [(0, .ref 669), (1, .int v1), (2, .int v2)]) rfl rfl rfl rfl ?_ ?_
    · exact db_f284_b62_ok zh23 ih
    refine db_Rgo (pc' := 58) (lv' := [(0, .ref 669), (1, .int v1), (2, .int v2)]) (st' := [.int v2, .ref 669, .int v2, .ref 677]) 5 rfl ?_
    refine db_RcyI (mr' := dbm_285) (as := [.ref 669, .int v2]) (rest := [.int v2, .ref 677]) (pc' := 61) (lv1 := [(0, .ref 669), (1, .int v1), (2, .int v2)]) rfl rfl rfl rfl rfl (db_f285_ok) fun q3 => ?_
    refine db_RstI (pc' := 62) (lv1 := [(0, .ref 669), (1, .int v1), (2, .int v2)]) rfl rfl rfl fun s5 => ?_
    exact db_f284_b62_ok zh23 ih
noncomputable def db_f284_b23 : Nat → db_S → Int32 → Option db_S
  | 0, _, _ => none
  | n + 1, s, v1 =>
    (cond (db_cnd .ge v1 (12 : Int32)) (some s) (db_f284_b31 (db_f284_b23 n) db_FU s v1 (0 : Int32)))
set_option maxRecDepth 100000 in
theorem db_f284_b23_ok {X : db_X} {d : Nat}  (n : Nat) : ∀ (s : db_S) (v1 : Int32), db_Rf X (d + 2) dbm_284 23 [(0, .ref 669), (1, .int v1)] [] s db_zV (db_f284_b23 n s v1) := by
  induction n with
  | zero => intros; exact db_Rnone
  | succ n ih =>
    intro s v1
    unfold db_f284_b23
    refine db_Rgo (pc' := 26) (lv' := [(0, .ref 669), (1, .int v1)]) (st' := [.int (12 : Int32), .int v1]) 2 rfl ?_
    refine db_Ric (pc' := 29) (tg := 74) (lv1 := [(0, .ref 669), (1, .int v1)]) rfl rfl rfl rfl ?_ ?_
    · exact db_Rret (lv1 := []) rfl rfl rfl rfl
    refine db_Rgo (pc' := 31) (lv' := [(2, .int (0 : Int32)), (0, .ref 669), (1, .int v1)]) (st' := []) 2 rfl ?_
    refine db_Rn (lv1 := [(0, .ref 669), (1, .int v1), (2, .int (0 : Int32))]) rfl rfl rfl ?_
    exact db_f284_b31_ok ih db_FU _ _ _
noncomputable def db_f284_b2 : Nat → db_S → Int32 → Option db_S
  | 0, _, _ => none
  | n + 1, s, v1 =>
    (cond (db_cnd .ge v1 (12 : Int32)) (db_f284_b23 db_FU s (0 : Int32)) ((db_wI s 677 v1 (2 : Int32)).bind fun s1 => (db_f284_b2 n s1 (v1 + (1 : Int32)))))
set_option maxRecDepth 100000 in
theorem db_f284_b2_ok {X : db_X} {d : Nat}  (n : Nat) : ∀ (s : db_S) (v1 : Int32), db_Rf X (d + 2) dbm_284 2 [(0, .ref 669), (1, .int v1)] [] s db_zV (db_f284_b2 n s v1) := by
  induction n with
  | zero => intros; exact db_Rnone
  | succ n ih =>
    intro s v1
    unfold db_f284_b2
    refine db_Rgo (pc' := 5) (lv' := [(0, .ref 669), (1, .int v1)]) (st' := [.int (12 : Int32), .int v1]) 2 rfl ?_
    refine db_Ric (pc' := 8) (tg := 21) (lv1 := [(0, .ref 669), (1, .int v1)]) rfl rfl rfl rfl ?_ ?_
    · refine db_Rgo (pc' := 23) (lv' := [(1, .int (0 : Int32)), (0, .ref 669)]) (st' := []) 2 rfl ?_
      refine db_Rn (lv1 := [(0, .ref 669), (1, .int (0 : Int32))]) rfl rfl rfl ?_
      exact db_f284_b23_ok db_FU _ _
    refine db_Rgo (pc' := 14) (lv' := [(0, .ref 669), (1, .int v1)]) (st' := [.int (2 : Int32), .int v1, .ref 677]) 4 rfl ?_
    refine db_RstI (pc' := 15) (lv1 := [(0, .ref 669), (1, .int v1)]) rfl rfl rfl fun s1 => ?_
    refine db_Rgo (pc' := 2) (lv' := [(1, .int (v1 + (1 : Int32))), (0, .ref 669)]) (st' := []) 2 rfl ?_
    refine db_Rn (lv1 := [(0, .ref 669), (1, .int (v1 + (1 : Int32)))]) rfl rfl rfl ?_
    exact ih _ _
/-- DreamBookModel.settle()V -/
noncomputable def db_f284 (s : db_S) : Option db_S :=
  (db_f284_b2 db_FU s (0 : Int32))
set_option maxRecDepth 100000 in
theorem db_f284_ok {X : db_X} {d : Nat} {s : db_S} : db_Rf X (d + 2) dbm_284 0 (lv_args 0 [.ref 669]) [] s db_zV (db_f284 s ) := by
  show db_Rf _ _ _ 0 [(0, .ref 669)] [] _ _ _
  unfold db_f284
  refine db_Rgo (pc' := 2) (lv' := [(1, .int (0 : Int32)), (0, .ref 669)]) (st' := []) 2 rfl ?_
  refine db_Rn (lv1 := [(0, .ref 669), (1, .int (0 : Int32))]) rfl rfl rfl ?_
  exact db_f284_b2_ok db_FU _ _
/-- DreamBookModel.has(II)Z -/
noncomputable def db_f287 (s : db_S) (v0 : Int32) (v1 : Int32) : Option Bool :=
  (cond (db_cnd .ne ((v0 >>> (v1 &&& 31)) &&& (1 : Int32)) (1 : Int32)) (some false) (some true))
set_option maxRecDepth 100000 in
theorem db_f287_ok {X : db_X} {d : Nat} {s : db_S} {v0 : Int32} {v1 : Int32} : db_Rf X (d + 0) dbm_287 0 (lv_args 0 [.int v0, .int v1]) [] s (db_yB s) (db_f287 s v0 v1) := by
  show db_Rf _ _ _ 0 [(0, .int v0), (1, .int v1)] [] _ _ _
  unfold db_f287
  refine db_Rgo (pc' := 6) (lv' := [(0, .int v0), (1, .int v1)]) (st' := [.int (1 : Int32), .int ((v0 >>> (v1 &&& 31)) &&& (1 : Int32))]) 6 rfl ?_
  refine db_Ric (pc' := 9) (tg := 13) (lv1 := [(0, .int v0), (1, .int v1)]) rfl rfl rfl rfl ?_ ?_
  · refine db_Rgo (pc' := 14) (lv' := []) (st' := [.int (0 : Int32)]) 1 rfl ?_
    exact db_Rret (lv1 := []) rfl rfl rfl rfl
  refine db_Rgo (pc' := 14) (lv' := [(0, .int v0), (1, .int v1)]) (st' := [.int (1 : Int32)]) 2 rfl ?_
  exact db_Rret (lv1 := []) rfl rfl rfl rfl
noncomputable def db_f283_b49 (h8 : db_S → Int32 → Int32 → Option (Int32 × db_S)) (s : db_S) (v2 : Int32) (t0 : Int32) (t1 : Int32) : Option (Int32 × db_S) :=
  (h8 s (t0 ||| t1) (v2 + (1 : Int32)))
set_option maxRecDepth 100000 in
theorem db_f283_b49_ok {X : db_X} {d : Nat}  {h8 : db_S → Int32 → Int32 → Option (Int32 × db_S)} {s : db_S} {v2 : Int32} {t0 : Int32} {t1 : Int32} (zh8 : ∀ (s' : db_S) (v1 : Int32) (v2 : Int32) , db_Rf X (d + 3) dbm_283 8 [(0, .ref 669), (1, .int v1), (2, .int v2)] [] s' db_zI (h8 s' v1 v2)) : db_Rf X (d + 3) dbm_283 49 [(0, .ref 669), (2, .int v2)] [.int t1, .int t0] s db_zI (db_f283_b49 h8 s v2 t0 t1) := by
  unfold db_f283_b49
  refine db_Rgo (pc' := 8) (lv' := [(2, .int (v2 + (1 : Int32))), (1, .int (t0 ||| t1)), (0, .ref 669)]) (st' := []) 4 rfl ?_
  refine db_Rn (lv1 := [(0, .ref 669), (1, .int (t0 ||| t1)), (2, .int (v2 + (1 : Int32)))]) rfl rfl rfl ?_
  exact zh8 _ _ _
noncomputable def db_f283_b48 (h8 : db_S → Int32 → Int32 → Option (Int32 × db_S)) (s : db_S) (v2 : Int32) (t0 : Int32) : Option (Int32 × db_S) :=
  (db_f283_b49 h8 s v2 t0 (0 : Int32))
set_option maxRecDepth 100000 in
theorem db_f283_b48_ok {X : db_X} {d : Nat}  {h8 : db_S → Int32 → Int32 → Option (Int32 × db_S)} {s : db_S} {v2 : Int32} {t0 : Int32} (zh8 : ∀ (s' : db_S) (v1 : Int32) (v2 : Int32) , db_Rf X (d + 3) dbm_283 8 [(0, .ref 669), (1, .int v1), (2, .int v2)] [] s' db_zI (h8 s' v1 v2)) : db_Rf X (d + 3) dbm_283 48 [(0, .ref 669), (2, .int v2)] [.int t0] s db_zI (db_f283_b48 h8 s v2 t0) := by
  unfold db_f283_b48
  refine db_Rgo (pc' := 49) (lv' := [(0, .ref 669), (2, .int v2)]) (st' := [.int (0 : Int32), .int t0]) 1 rfl ?_
  exact db_f283_b49_ok zh8
noncomputable def db_f283_b8 : Nat → db_S → Int32 → Int32 → Option (Int32 × db_S)
  | 0, _, _, _ => none
  | n + 1, s, v1, v2 =>
    ((db_rI s 674 (3 : Int32)).bind fun x1 => (cond (db_cnd .ge v2 x1) (some (v1, s)) ((db_rI s 677 v2).bind fun x2 => (cond (db_cnd .ne x2 0) (db_f283_b48 (db_f283_b8 n) s v2 v1) ((db_rI s 674 (7 : Int32)).bind fun x3 => ((db_f287 s x3 v2).bind fun q4 => (cond q4 (db_f283_b48 (db_f283_b8 n) s v2 v1) (db_f283_b49 (db_f283_b8 n) s v2 v1 ((1 : Int32) <<< (v2 &&& 31))))))))))
set_option maxRecDepth 100000 in
theorem db_f283_b8_ok {X : db_X} {d : Nat}  (n : Nat) : ∀ (s : db_S) (v1 : Int32) (v2 : Int32), db_Rf X (d + 3) dbm_283 8 [(0, .ref 669), (1, .int v1), (2, .int v2)] [] s db_zI (db_f283_b8 n s v1 v2) := by
  induction n with
  | zero => intros; exact db_Rnone
  | succ n ih =>
    intro s v1 v2
    unfold db_f283_b8
    refine db_Rgo (pc' := 14) (lv' := [(0, .ref 669), (1, .int v1), (2, .int v2)]) (st' := [.int (3 : Int32), .ref 674, .int v2]) 4 rfl ?_
    refine db_RldI (pc' := 15) (lv1 := [(0, .ref 669), (1, .int v1), (2, .int v2)]) rfl rfl rfl fun x1 => ?_
    refine db_Ric (pc' := 18) (tg := 57) (lv1 := [(0, .ref 669), (1, .int v1), (2, .int v2)]) rfl rfl rfl rfl ?_ ?_
    · refine db_Rgo (pc' := 58) (lv' := [(1, .int v1)]) (st' := [.int v1]) 1 rfl ?_
      exact db_Rret (lv1 := [(1, .int v1)]) rfl rfl rfl rfl
    refine db_Rgo (pc' := 24) (lv' := [(0, .ref 669), (1, .int v1), (2, .int v2)]) (st' := [.int v2, .ref 677, .int v1]) 4 rfl ?_
    refine db_RldI (pc' := 25) (lv1 := [(0, .ref 669), (1, .int v1), (2, .int v2)]) rfl rfl rfl fun x2 => ?_
    refine db_Rif (pc' := 28) (tg := 48) (lv1 := [(0, .ref 669), (1, .int v1), (2, .int v2)]) rfl rfl rfl rfl ?_ ?_
    · refine db_Rn (lv1 := [(0, .ref 669), (2, .int v2)]) rfl rfl rfl ?_
      exact db_f283_b48_ok ih
    refine db_Rgo (pc' := 34) (lv' := [(0, .ref 669), (1, .int v1), (2, .int v2)]) (st' := [.int (7 : Int32), .ref 674, .int v1]) 3 rfl ?_
    refine db_RldI (pc' := 35) (lv1 := [(0, .ref 669), (1, .int v1), (2, .int v2)]) rfl rfl rfl fun x3 => ?_
    refine db_Rgo (pc' := 36) (lv' := [(0, .ref 669), (1, .int v1), (2, .int v2)]) (st' := [.int v2, .int x3, .int v1]) 1 rfl ?_
    refine db_RcyB (mr' := dbm_287) (as := [.int x3, .int v2]) (rest := [.int v1]) (pc' := 39) (lv1 := [(0, .ref 669), (1, .int v1), (2, .int v2)]) rfl rfl rfl rfl rfl (db_f287_ok) fun q4 => ?_
    refine db_RifBn (pc' := 42) (tg := 48) (lv1 := [(0, .ref 669), (1, .int v1), (2, .int v2)]) rfl rfl rfl rfl ?_ ?_
    · refine db_Rn (lv1 := [(0, .ref 669), (2, .int v2)]) rfl rfl rfl ?_
      exact db_f283_b48_ok ih
    refine db_Rgo (pc' := 49) (lv' := [(0, .ref 669), (1, .int v1), (2, .int v2)]) (st' := [.int ((1 : Int32) <<< (v2 &&& 31)), .int v1]) 4 rfl ?_
    refine db_Rn (lv1 := [(0, .ref 669), (2, .int v2)]) rfl rfl rfl ?_
    exact db_f283_b49_ok ih
/-- DreamBookModel.force()I -/
noncomputable def db_f283 (s : db_S) : Option (Int32 × db_S) :=
  ((db_f284 s).bind fun s2 => (db_f283_b8 db_FU s2 (0 : Int32) (0 : Int32)))
set_option maxRecDepth 100000 in
theorem db_f283_ok {X : db_X} {d : Nat} {s : db_S} : db_Rf X (d + 3) dbm_283 0 (lv_args 0 [.ref 669]) [] s db_zI (db_f283 s ) := by
  show db_Rf _ _ _ 0 [(0, .ref 669)] [] _ _ _
  unfold db_f283
  refine db_Rgo (pc' := 1) (lv' := [(0, .ref 669)]) (st' := [.ref 669]) 1 rfl ?_
  refine db_RcV (mr' := dbm_284) (as := [.ref 669]) (rest := []) (pc' := 4) (lv1 := [(0, .ref 669)]) rfl rfl rfl rfl rfl (db_f284_ok) fun s2 => ?_
  refine db_Rgo (pc' := 8) (lv' := [(2, .int (0 : Int32)), (1, .int (0 : Int32)), (0, .ref 669)]) (st' := []) 4 rfl ?_
  refine db_Rn (lv1 := [(0, .ref 669), (1, .int (0 : Int32)), (2, .int (0 : Int32))]) rfl rfl rfl ?_
  exact db_f283_b8_ok db_FU _ _ _
noncomputable def db_f282_b4 (s : db_S) : Nat → Int32 → Int32 → Option Int32
  | 0, _, _ => none
  | n + 1, v1, v2 =>
    ((db_rI s 674 (5 : Int32)).bind fun x1 => (cond (db_cnd .ge v2 x1) (some v1) ((db_rI s 674 ((143 : Int32) + v2)).bind fun x2 => (db_f282_b4 s n (v1 + x2) (v2 + (1 : Int32))))))
set_option maxRecDepth 100000 in
theorem db_f282_b4_ok {X : db_X} {d : Nat} {s : db_S} (n : Nat) : ∀ (v1 : Int32) (v2 : Int32), db_Rf X (d + 0) dbm_282 4 [(0, .ref 669), (1, .int v1), (2, .int v2)] [] s (db_yI s) (db_f282_b4 s n v1 v2) := by
  induction n with
  | zero => intros; exact db_Rnone
  | succ n ih =>
    intro v1 v2
    unfold db_f282_b4
    refine db_Rgo (pc' := 10) (lv' := [(0, .ref 669), (1, .int v1), (2, .int v2)]) (st' := [.int (5 : Int32), .ref 674, .int v2]) 4 rfl ?_
    refine db_RldI (pc' := 11) (lv1 := [(0, .ref 669), (1, .int v1), (2, .int v2)]) rfl rfl rfl fun x1 => ?_
    refine db_Ric (pc' := 14) (tg := 33) (lv1 := [(0, .ref 669), (1, .int v1), (2, .int v2)]) rfl rfl rfl rfl ?_ ?_
    · refine db_Rgo (pc' := 34) (lv' := [(1, .int v1)]) (st' := [.int v1]) 1 rfl ?_
      exact db_Rret (lv1 := [(1, .int v1)]) rfl rfl rfl rfl
    refine db_Rgo (pc' := 24) (lv' := [(0, .ref 669), (1, .int v1), (2, .int v2)]) (st' := [.int ((143 : Int32) + v2), .ref 674, .int v1]) 6 rfl ?_
    refine db_RldI (pc' := 25) (lv1 := [(0, .ref 669), (1, .int v1), (2, .int v2)]) rfl rfl rfl fun x2 => ?_
    refine db_Rgo (pc' := 4) (lv' := [(2, .int (v2 + (1 : Int32))), (1, .int (v1 + x2)), (0, .ref 669)]) (st' := []) 4 rfl ?_
    refine db_Rn (lv1 := [(0, .ref 669), (1, .int (v1 + x2)), (2, .int (v2 + (1 : Int32)))]) rfl rfl rfl ?_
    exact ih _ _
/-- DreamBookModel.allChances()I -/
noncomputable def db_f282 (s : db_S) : Option Int32 :=
  (db_f282_b4 s db_FU (0 : Int32) (0 : Int32))
set_option maxRecDepth 100000 in
theorem db_f282_ok {X : db_X} {d : Nat} {s : db_S} : db_Rf X (d + 0) dbm_282 0 (lv_args 0 [.ref 669]) [] s (db_yI s) (db_f282 s ) := by
  show db_Rf _ _ _ 0 [(0, .ref 669)] [] _ _ _
  unfold db_f282
  refine db_Rgo (pc' := 4) (lv' := [(2, .int (0 : Int32)), (1, .int (0 : Int32)), (0, .ref 669)]) (st' := []) 4 rfl ?_
  refine db_Rn (lv1 := [(0, .ref 669), (1, .int (0 : Int32)), (2, .int (0 : Int32))]) rfl rfl rfl ?_
  exact db_f282_b4_ok db_FU _ _
/-- DreamBookModel.refuse(I)I -/
noncomputable def db_f281 (s : db_S) (v1 : Int32) : Option (Int32 × db_S) :=
  ((db_pI s 669 0 v1).bind fun s1 => (some ((-1 : Int32), s1)))
set_option maxRecDepth 100000 in
theorem db_f281_ok {X : db_X} {d : Nat} {s : db_S} {v1 : Int32} : db_Rf X (d + 0) dbm_281 0 (lv_args 0 [.ref 669, .int v1]) [] s db_zI (db_f281 s v1) := by
  show db_Rf _ _ _ 0 [(0, .ref 669), (1, .int v1)] [] _ _ _
  unfold db_f281
  refine db_Rgo (pc' := 2) (lv' := [(0, .ref 669), (1, .int v1)]) (st' := [.int v1, .ref 669]) 2 rfl ?_
  refine db_RpuI (pc' := 5) (lv1 := [(0, .ref 669), (1, .int v1)]) rfl rfl rfl rfl rfl rfl (by decide) rfl rfl fun s1 => ?_
  refine db_Rgo (pc' := 6) (lv' := [(0, .ref 669), (1, .int v1)]) (st' := [.int (-1 : Int32)]) 1 rfl ?_
  exact db_Rret (lv1 := [(0, .ref 669), (1, .int v1)]) rfl rfl rfl rfl
/-- DreamBookModel.many(I)I -/
noncomputable def db_f280 (s : db_S) (v1 : Int32) : Option (Int32 × db_S) :=
  ((db_pI s 669 1 (0 : Int32)).bind fun s1 => ((db_pI s1 669 0 (0 : Int32)).bind fun s2 => ((db_f269 s2 (Int32.toInt64 v1) (0 : Int64) (9 : Int64)).bind fun q3 => (cond q3 (cond (db_cnd .ge v1 (6 : Int32)) (cond (db_cnd .ne v1 (6 : Int32)) (cond (db_cnd .ne v1 (7 : Int32)) (cond (db_cnd .ne v1 (8 : Int32)) ((db_rI s2 674 (7 : Int32)).bind fun x5 => (some (x5, s2))) (db_bd (db_f283 s2) fun q6 s7 => (some (q6, s7)))) ((db_rI s2 674 (6 : Int32)).bind fun x8 => (some (x8, s2)))) ((db_f282 s2).bind fun q9 => (some (q9, s2)))) ((db_rI s2 674 v1).bind fun x11 => (some (x11, s2)))) (db_bd (db_f281 s2 (5 : Int32)) fun q12 s13 => (some (q12, s13)))))))
set_option maxRecDepth 100000 in
theorem db_f280_ok {X : db_X} {d : Nat} {s : db_S} {v1 : Int32} : db_Rf X (d + 4) dbm_280 0 (lv_args 0 [.ref 669, .int v1]) [] s db_zI (db_f280 s v1) := by
  show db_Rf _ _ _ 0 [(0, .ref 669), (1, .int v1)] [] _ _ _
  unfold db_f280
  refine db_Rgo (pc' := 2) (lv' := [(0, .ref 669), (1, .int v1)]) (st' := [.int (0 : Int32), .ref 669]) 2 rfl ?_
  refine db_RpuI (pc' := 5) (lv1 := [(0, .ref 669), (1, .int v1)]) rfl rfl rfl rfl rfl rfl (by decide) rfl rfl fun s1 => ?_
  refine db_Rgo (pc' := 7) (lv' := [(0, .ref 669), (1, .int v1)]) (st' := [.int (0 : Int32), .ref 669]) 2 rfl ?_
  refine db_RpuI (pc' := 10) (lv1 := [(0, .ref 669), (1, .int v1)]) rfl rfl rfl rfl rfl rfl (by decide) rfl rfl fun s2 => ?_
  refine db_Rgo (pc' := 16) (lv' := [(0, .ref 669), (1, .int v1)]) (st' := [.long (9 : Int64), .long (0 : Int64), .long (Int32.toInt64 v1)]) 4 rfl ?_
  refine db_RcyB (mr' := dbm_269) (as := [.long (Int32.toInt64 v1), .long (0 : Int64), .long (9 : Int64)]) (rest := []) (pc' := 19) (lv1 := [(0, .ref 669), (1, .int v1)]) rfl rfl rfl rfl rfl (db_f269_ok) fun q3 => ?_
  refine db_RifBn (pc' := 22) (tg := 28) (lv1 := [(0, .ref 669), (1, .int v1)]) rfl rfl rfl rfl ?_ ?_
  · refine db_Rgo (pc' := 31) (lv' := [(0, .ref 669), (1, .int v1)]) (st' := [.int (6 : Int32), .int v1]) 2 rfl ?_
    refine db_Ric (pc' := 34) (tg := 43) (lv1 := [(0, .ref 669), (1, .int v1)]) rfl rfl rfl rfl ?_ ?_
    · refine db_Rgo (pc' := 46) (lv' := [(0, .ref 669), (1, .int v1)]) (st' := [.int (6 : Int32), .int v1]) 2 rfl ?_
      refine db_Ric (pc' := 49) (tg := 56) (lv1 := [(0, .ref 669), (1, .int v1)]) rfl rfl rfl rfl ?_ ?_
      · refine db_Rgo (pc' := 59) (lv' := [(0, .ref 669), (1, .int v1)]) (st' := [.int (7 : Int32), .int v1]) 2 rfl ?_
        refine db_Ric (pc' := 62) (tg := 72) (lv1 := [(0, .ref 669), (1, .int v1)]) rfl rfl rfl rfl ?_ ?_
        · refine db_Rgo (pc' := 75) (lv' := [(0, .ref 669), (1, .int v1)]) (st' := [.int (8 : Int32), .int v1]) 2 rfl ?_
          refine db_Ric (pc' := 78) (tg := 85) (lv1 := [(0, .ref 669), (1, .int v1)]) rfl rfl rfl rfl ?_ ?_
          · refine db_Rgo (pc' := 91) (lv' := [(0, .ref 669)]) (st' := [.int (7 : Int32), .ref 674]) 3 rfl ?_
            refine db_RldI (pc' := 92) (lv1 := [(0, .ref 669)]) rfl rfl rfl fun x5 => ?_
            exact db_Rret (lv1 := []) rfl rfl rfl rfl
          refine db_Rgo (pc' := 79) (lv' := [(0, .ref 669), (1, .int v1)]) (st' := [.ref 669]) 1 rfl ?_
          refine db_RcdI (mr' := dbm_283) (as := [.ref 669]) (rest := []) (pc' := 82) (lv1 := [(0, .ref 669), (1, .int v1)]) rfl rfl rfl rfl rfl (db_f283_ok) fun q6 s7 => ?_
          refine db_Rgo (pc' := 92) (lv' := [(0, .ref 669), (1, .int v1)]) (st' := [.int q6]) 1 rfl ?_
          exact db_Rret (lv1 := []) rfl rfl rfl rfl
        refine db_Rgo (pc' := 68) (lv' := [(0, .ref 669), (1, .int v1)]) (st' := [.int (6 : Int32), .ref 674]) 3 rfl ?_
        refine db_RldI (pc' := 69) (lv1 := [(0, .ref 669), (1, .int v1)]) rfl rfl rfl fun x8 => ?_
        refine db_Rgo (pc' := 92) (lv' := [(0, .ref 669), (1, .int v1)]) (st' := [.int x8]) 1 rfl ?_
        exact db_Rret (lv1 := []) rfl rfl rfl rfl
      refine db_Rgo (pc' := 50) (lv' := [(0, .ref 669), (1, .int v1)]) (st' := [.ref 669]) 1 rfl ?_
      refine db_RcyI (mr' := dbm_282) (as := [.ref 669]) (rest := []) (pc' := 53) (lv1 := [(0, .ref 669), (1, .int v1)]) rfl rfl rfl rfl rfl (db_f282_ok) fun q9 => ?_
      refine db_Rgo (pc' := 92) (lv' := [(0, .ref 669), (1, .int v1)]) (st' := [.int q9]) 1 rfl ?_
      exact db_Rret (lv1 := []) rfl rfl rfl rfl
    refine db_Rgo (pc' := 39) (lv' := [(0, .ref 669), (1, .int v1)]) (st' := [.int v1, .ref 674]) 3 rfl ?_
    refine db_RldI (pc' := 40) (lv1 := [(0, .ref 669), (1, .int v1)]) rfl rfl rfl fun x11 => ?_
    refine db_Rgo (pc' := 92) (lv' := [(0, .ref 669), (1, .int v1)]) (st' := [.int x11]) 1 rfl ?_
    exact db_Rret (lv1 := []) rfl rfl rfl rfl
  refine db_Rgo (pc' := 24) (lv' := [(0, .ref 669), (1, .int v1)]) (st' := [.int (5 : Int32), .ref 669]) 2 rfl ?_
  refine db_RcdI (mr' := dbm_281) (as := [.ref 669, .int (5 : Int32)]) (rest := []) (pc' := 27) (lv1 := [(0, .ref 669), (1, .int v1)]) rfl rfl rfl rfl rfl (db_f281_ok) fun q12 s13 => ?_
  exact db_Rret (lv1 := [(0, .ref 669), (1, .int v1)]) rfl rfl rfl rfl
/-- DreamBook.has(II)Z -/
noncomputable def db_f103 (s : db_S) (v1 : Int32) (v2 : Int32) : Option Bool :=
  (cond (db_cnd .lt v2 0) (some false) ((db_rI s 21 v1).bind fun x1 => (cond (db_cnd .ge v2 x1) (some false) (some true))))
set_option maxRecDepth 100000 in
theorem db_f103_ok {X : db_X} {d : Nat} {s : db_S} {v1 : Int32} {v2 : Int32} : db_Rf X (d + 0) dbm_103 0 (lv_args 0 [.ref 4, .int v1, .int v2]) [] s (db_yB s) (db_f103 s v1 v2) := by
  show db_Rf _ _ _ 0 [(0, .ref 4), (1, .int v1), (2, .int v2)] [] _ _ _
  unfold db_f103
  refine db_Rgo (pc' := 1) (lv' := [(0, .ref 4), (1, .int v1), (2, .int v2)]) (st' := [.int v2]) 1 rfl ?_
  refine db_Rif (pc' := 4) (tg := 21) (lv1 := [(0, .ref 4), (1, .int v1), (2, .int v2)]) rfl rfl rfl rfl ?_ ?_
  · refine db_Rgo (pc' := 22) (lv' := []) (st' := [.int (0 : Int32)]) 1 rfl ?_
    exact db_Rret (lv1 := []) rfl rfl rfl rfl
  refine db_Rgo (pc' := 13) (lv' := [(0, .ref 4), (1, .int v1), (2, .int v2)]) (st' := [.int v1, .ref 21, .int v2]) 5 rfl ?_
  refine db_RldI (pc' := 14) (lv1 := [(0, .ref 4), (1, .int v1), (2, .int v2)]) rfl rfl rfl fun x1 => ?_
  refine db_Ric (pc' := 17) (tg := 21) (lv1 := [(0, .ref 4), (1, .int v1), (2, .int v2)]) rfl rfl rfl rfl ?_ ?_
  · refine db_Rgo (pc' := 22) (lv' := []) (st' := [.int (0 : Int32)]) 1 rfl ?_
    exact db_Rret (lv1 := []) rfl rfl rfl rfl
  refine db_Rgo (pc' := 22) (lv' := [(0, .ref 4), (1, .int v1), (2, .int v2)]) (st' := [.int (1 : Int32)]) 2 rfl ?_
  exact db_Rret (lv1 := []) rfl rfl rfl rfl
/-- DreamBook$Reader.worth(I)I -/
noncomputable def db_f104 (s : db_S) (v1 : Int32) : Option Int32 :=
  ((db_rR 24 v1).bind fun y1 => ((db_rI s y1 (1 : Int32)).bind fun x2 => ((db_rI s 81 v1).bind fun x3 => (cond (db_cnd .le x2 0) (cond (db_cnd .le (-x2) x3) (some (0 : Int32)) (some (x2 + x3))) (cond (db_cnd .le x2 x3) (some (0 : Int32)) (some (x2 - x3)))))))
set_option maxRecDepth 100000 in
theorem db_f104_ok {X : db_X} {d : Nat} {s : db_S} {v1 : Int32} : db_Rf X (d + 0) dbm_104 0 (lv_args 0 [.ref 271, .int v1]) [] s (db_yI s) (db_f104 s v1) := by
  show db_Rf _ _ _ 0 [(0, .ref 271), (1, .int v1)] [] _ _ _
  unfold db_f104
  refine db_Rgo (pc' := 8) (lv' := [(0, .ref 271), (1, .int v1)]) (st' := [.int v1, .ref 24]) 4 rfl ?_
  refine db_RldR (pc' := 9) (lv1 := [(0, .ref 271), (1, .int v1)]) rfl rfl rfl fun y1 => ?_
  refine db_Rgo (pc' := 10) (lv' := [(0, .ref 271), (1, .int v1)]) (st' := [.int (1 : Int32), .ref (y1 + 4)]) 1 rfl ?_
  refine db_RldI (pc' := 11) (lv1 := [(0, .ref 271), (1, .int v1)]) rfl rfl rfl fun x2 => ?_
  refine db_Rgo (pc' := 20) (lv' := [(2, .int x2), (0, .ref 271), (1, .int v1)]) (st' := [.int v1, .ref 81]) 5 rfl ?_
  refine db_RldI (pc' := 21) (lv1 := [(2, .int x2), (0, .ref 271), (1, .int v1)]) rfl rfl rfl fun x3 => ?_
  refine db_Rgo (pc' := 23) (lv' := [(3, .int x3), (2, .int x2), (0, .ref 271), (1, .int v1)]) (st' := [.int x2]) 2 rfl ?_
  refine db_Rif (pc' := 26) (tg := 39) (lv1 := [(3, .int x3), (2, .int x2), (0, .ref 271), (1, .int v1)]) rfl rfl rfl rfl ?_ ?_
  · refine db_Rgo (pc' := 42) (lv' := [(2, .int x2), (3, .int x3)]) (st' := [.int x3, .int (-x2)]) 3 rfl ?_
    refine db_Ric (pc' := 45) (tg := 51) (lv1 := [(2, .int x2), (3, .int x3)]) rfl rfl rfl rfl ?_ ?_
    · refine db_Rgo (pc' := 52) (lv' := []) (st' := [.int (0 : Int32)]) 1 rfl ?_
      exact db_Rret (lv1 := []) rfl rfl rfl rfl
    refine db_Rgo (pc' := 52) (lv' := [(2, .int x2), (3, .int x3)]) (st' := [.int (x2 + x3)]) 4 rfl ?_
    exact db_Rret (lv1 := []) rfl rfl rfl rfl
  refine db_Rgo (pc' := 28) (lv' := [(3, .int x3), (2, .int x2), (0, .ref 271), (1, .int v1)]) (st' := [.int x3, .int x2]) 2 rfl ?_
  refine db_Ric (pc' := 31) (tg := 37) (lv1 := [(3, .int x3), (2, .int x2), (0, .ref 271), (1, .int v1)]) rfl rfl rfl rfl ?_ ?_
  · refine db_Rgo (pc' := 38) (lv' := []) (st' := [.int (0 : Int32)]) 1 rfl ?_
    exact db_Rret (lv1 := []) rfl rfl rfl rfl
  refine db_Rgo (pc' := 38) (lv' := [(3, .int x3), (2, .int x2), (0, .ref 271), (1, .int v1)]) (st' := [.int (x2 - x3)]) 4 rfl ?_
  exact db_Rret (lv1 := []) rfl rfl rfl rfl
noncomputable def db_f102_b99 (s : db_S) (v3 : Int32) : Option (Int32 × db_S) :=
  (db_bd (db_f87 s v3) fun q1 s2 => (some (q1, s2)))
set_option maxRecDepth 100000 in
theorem db_f102_b99_ok {X : db_X} {d : Nat}  {s : db_S} {v3 : Int32} : db_Rf X (d + 1) dbm_102 99 [(0, .ref 4), (3, .int v3)] [] s db_zI (db_f102_b99 s v3) := by
  unfold db_f102_b99
  refine db_Rgo (pc' := 101) (lv' := [(0, .ref 4), (3, .int v3)]) (st' := [.int v3, .ref 4]) 2 rfl ?_
  refine db_RcdI (mr' := dbm_87) (as := [.ref 4, .int v3]) (rest := []) (pc' := 104) (lv1 := [(0, .ref 4), (3, .int v3)]) rfl rfl rfl rfl rfl (db_f87_ok) fun q1 s2 => ?_
  exact db_Rret (lv1 := [(0, .ref 4), (3, .int v3)]) rfl rfl rfl rfl
/-- DreamBook.rule(II)I -/
noncomputable def db_f102 (s : db_S) (v1 : Int32) (v2 : Int32) : Option (Int32 × db_S) :=
  ((db_f103 s (3 : Int32) v1).bind fun q1 => (cond q1 ((db_f27 s v2 (0 : Int32) (7 : Int32)).bind fun q3 => (cond q3 (cond (db_cnd .ne v2 (6 : Int32)) (cond (db_cnd .ne v2 (7 : Int32)) ((db_rR 24 v1).bind fun y5 => ((db_rI s y5 v2).bind fun x6 => (cond (db_cnd .lt v2 (2 : Int32)) (db_f102_b99 s x6) (cond (db_cnd .ne x6 (-1 : Int32)) (db_f102_b99 s x6) (db_bd (db_f37 s (8 : Int32)) fun q7 s8 => (some (q7, s8))))))) ((db_f104 s v1).bind fun q9 => (db_bd (db_f87 s q9) fun q11 s12 => (some (q11, s12))))) ((db_rI s 81 v1).bind fun x13 => (db_bd (db_f87 s x13) fun q14 s15 => (some (q14, s15))))) (db_bd (db_f37 s (5 : Int32)) fun q16 s17 => (some (q16, s17))))) (db_bd (db_f37 s (2 : Int32)) fun q18 s19 => (some (q18, s19)))))
set_option maxRecDepth 100000 in
theorem db_f102_ok {X : db_X} {d : Nat} {s : db_S} {v1 : Int32} {v2 : Int32} : db_Rf X (d + 1) dbm_102 0 (lv_args 0 [.ref 4, .int v1, .int v2]) [] s db_zI (db_f102 s v1 v2) := by
  show db_Rf _ _ _ 0 [(0, .ref 4), (1, .int v1), (2, .int v2)] [] _ _ _
  unfold db_f102
  refine db_Rgo (pc' := 3) (lv' := [(0, .ref 4), (1, .int v1), (2, .int v2)]) (st' := [.int v1, .int (3 : Int32), .ref 4]) 3 rfl ?_
  refine db_RcyB (mr' := dbm_103) (as := [.ref 4, .int (3 : Int32), .int v1]) (rest := []) (pc' := 6) (lv1 := [(0, .ref 4), (1, .int v1), (2, .int v2)]) rfl rfl rfl rfl rfl (db_f103_ok) fun q1 => ?_
  refine db_RifBn (pc' := 9) (tg := 15) (lv1 := [(0, .ref 4), (1, .int v1), (2, .int v2)]) rfl rfl rfl rfl ?_ ?_
  · refine db_Rgo (pc' := 19) (lv' := [(0, .ref 4), (1, .int v1), (2, .int v2)]) (st' := [.int (7 : Int32), .int (0 : Int32), .int v2]) 3 rfl ?_
    refine db_RcyB (mr' := dbm_27) (as := [.int v2, .int (0 : Int32), .int (7 : Int32)]) (rest := []) (pc' := 22) (lv1 := [(0, .ref 4), (1, .int v1), (2, .int v2)]) rfl rfl rfl rfl rfl (db_f27_ok) fun q3 => ?_
    refine db_RifBn (pc' := 25) (tg := 31) (lv1 := [(0, .ref 4), (1, .int v1), (2, .int v2)]) rfl rfl rfl rfl ?_ ?_
    · refine db_Rgo (pc' := 34) (lv' := [(0, .ref 4), (1, .int v1), (2, .int v2)]) (st' := [.int (6 : Int32), .int v2]) 2 rfl ?_
      refine db_Ric (pc' := 37) (tg := 51) (lv1 := [(0, .ref 4), (1, .int v1), (2, .int v2)]) rfl rfl rfl rfl ?_ ?_
      · refine db_Rgo (pc' := 54) (lv' := [(0, .ref 4), (1, .int v1), (2, .int v2)]) (st' := [.int (7 : Int32), .int v2]) 2 rfl ?_
        refine db_Ric (pc' := 57) (tg := 70) (lv1 := [(0, .ref 4), (1, .int v1), (2, .int v2)]) rfl rfl rfl rfl ?_ ?_
        · refine db_Rgo (pc' := 78) (lv' := [(0, .ref 4), (1, .int v1), (2, .int v2)]) (st' := [.int v1, .ref 24]) 4 rfl ?_
          refine db_RldR (pc' := 79) (lv1 := [(0, .ref 4), (1, .int v1), (2, .int v2)]) rfl rfl rfl fun y5 => ?_
          refine db_Rgo (pc' := 80) (lv' := [(0, .ref 4), (1, .int v1), (2, .int v2)]) (st' := [.int v2, .ref (y5 + 4)]) 1 rfl ?_
          refine db_RldI (pc' := 81) (lv1 := [(0, .ref 4), (1, .int v1), (2, .int v2)]) rfl rfl rfl fun x6 => ?_
          refine db_Rgo (pc' := 84) (lv' := [(3, .int x6), (0, .ref 4), (1, .int v1), (2, .int v2)]) (st' := [.int (2 : Int32), .int v2]) 3 rfl ?_
          refine db_Ric (pc' := 87) (tg := 99) (lv1 := [(3, .int x6), (0, .ref 4), (1, .int v1), (2, .int v2)]) rfl rfl rfl rfl ?_ ?_
          · refine db_Rn (lv1 := [(0, .ref 4), (3, .int x6)]) rfl rfl rfl ?_
            exact db_f102_b99_ok
          refine db_Rgo (pc' := 89) (lv' := [(3, .int x6), (0, .ref 4), (1, .int v1), (2, .int v2)]) (st' := [.int (-1 : Int32), .int x6]) 2 rfl ?_
          refine db_Ric (pc' := 92) (tg := 99) (lv1 := [(3, .int x6), (0, .ref 4), (1, .int v1), (2, .int v2)]) rfl rfl rfl rfl ?_ ?_
          · refine db_Rn (lv1 := [(0, .ref 4), (3, .int x6)]) rfl rfl rfl ?_
            exact db_f102_b99_ok
          refine db_Rgo (pc' := 95) (lv' := [(3, .int x6), (0, .ref 4), (1, .int v1), (2, .int v2)]) (st' := [.int (8 : Int32), .ref 4]) 2 rfl ?_
          refine db_RcdI (mr' := dbm_37) (as := [.ref 4, .int (8 : Int32)]) (rest := []) (pc' := 98) (lv1 := [(3, .int x6), (0, .ref 4), (1, .int v1), (2, .int v2)]) rfl rfl rfl rfl rfl (db_f37_ok) fun q7 s8 => ?_
          exact db_Rret (lv1 := [(3, .int x6), (0, .ref 4), (1, .int v1), (2, .int v2)]) rfl rfl rfl rfl
        refine db_Rgo (pc' := 63) (lv' := [(0, .ref 4), (1, .int v1), (2, .int v2)]) (st' := [.int v1, .ref 271, .ref 4]) 4 rfl ?_
        refine db_RcyI (mr' := dbm_104) (as := [.ref 271, .int v1]) (rest := [.ref 4]) (pc' := 66) (lv1 := [(0, .ref 4), (1, .int v1), (2, .int v2)]) rfl rfl rfl rfl rfl (db_f104_ok) fun q9 => ?_
        refine db_RcdI (mr' := dbm_87) (as := [.ref 4, .int q9]) (rest := []) (pc' := 69) (lv1 := [(0, .ref 4), (1, .int v1), (2, .int v2)]) rfl rfl rfl rfl rfl (db_f87_ok) fun q11 s12 => ?_
        exact db_Rret (lv1 := [(0, .ref 4), (1, .int v1), (2, .int v2)]) rfl rfl rfl rfl
      refine db_Rgo (pc' := 46) (lv' := [(0, .ref 4), (1, .int v1), (2, .int v2)]) (st' := [.int v1, .ref 81, .ref 4]) 5 rfl ?_
      refine db_RldI (pc' := 47) (lv1 := [(0, .ref 4), (1, .int v1), (2, .int v2)]) rfl rfl rfl fun x13 => ?_
      refine db_RcdI (mr' := dbm_87) (as := [.ref 4, .int x13]) (rest := []) (pc' := 50) (lv1 := [(0, .ref 4), (1, .int v1), (2, .int v2)]) rfl rfl rfl rfl rfl (db_f87_ok) fun q14 s15 => ?_
      exact db_Rret (lv1 := [(0, .ref 4), (1, .int v1), (2, .int v2)]) rfl rfl rfl rfl
    refine db_Rgo (pc' := 27) (lv' := [(0, .ref 4), (1, .int v1), (2, .int v2)]) (st' := [.int (5 : Int32), .ref 4]) 2 rfl ?_
    refine db_RcdI (mr' := dbm_37) (as := [.ref 4, .int (5 : Int32)]) (rest := []) (pc' := 30) (lv1 := [(0, .ref 4), (1, .int v1), (2, .int v2)]) rfl rfl rfl rfl rfl (db_f37_ok) fun q16 s17 => ?_
    exact db_Rret (lv1 := [(0, .ref 4), (1, .int v1), (2, .int v2)]) rfl rfl rfl rfl
  refine db_Rgo (pc' := 11) (lv' := [(0, .ref 4), (1, .int v1), (2, .int v2)]) (st' := [.int (2 : Int32), .ref 4]) 2 rfl ?_
  refine db_RcdI (mr' := dbm_37) (as := [.ref 4, .int (2 : Int32)]) (rest := []) (pc' := 14) (lv1 := [(0, .ref 4), (1, .int v1), (2, .int v2)]) rfl rfl rfl rfl rfl (db_f37_ok) fun q18 s19 => ?_
  exact db_Rret (lv1 := [(0, .ref 4), (1, .int v1), (2, .int v2)]) rfl rfl rfl rfl
/-- DreamBookModel.isRuleAt(I)Z -/
noncomputable def db_f289 (s : db_S) (v1 : Int32) : Option Bool :=
  ((db_rI s 674 (3 : Int32)).bind fun x1 => ((db_f269 s (Int32.toInt64 v1) (0 : Int64) (Int32.toInt64 (x1 - (1 : Int32)))).bind fun q2 => (some q2)))
set_option maxRecDepth 100000 in
theorem db_f289_ok {X : db_X} {d : Nat} {s : db_S} {v1 : Int32} : db_Rf X (d + 1) dbm_289 0 (lv_args 0 [.ref 669, .int v1]) [] s (db_yB s) (db_f289 s v1) := by
  show db_Rf _ _ _ 0 [(0, .ref 669), (1, .int v1)] [] _ _ _
  unfold db_f289
  refine db_Rgo (pc' := 8) (lv' := [(0, .ref 669), (1, .int v1)]) (st' := [.int (3 : Int32), .ref 674, .long (0 : Int64), .long (Int32.toInt64 v1)]) 6 rfl ?_
  refine db_RldI (pc' := 9) (lv1 := [(0, .ref 669), (1, .int v1)]) rfl rfl rfl fun x1 => ?_
  refine db_Rgo (pc' := 12) (lv' := [(0, .ref 669), (1, .int v1)]) (st' := [.long (Int32.toInt64 (x1 - (1 : Int32))), .long (0 : Int64), .long (Int32.toInt64 v1)]) 3 rfl ?_
  refine db_RcyB (mr' := dbm_269) (as := [.long (Int32.toInt64 v1), .long (0 : Int64), .long (Int32.toInt64 (x1 - (1 : Int32)))]) (rest := []) (pc' := 15) (lv1 := [(0, .ref 669), (1, .int v1)]) rfl rfl rfl rfl rfl (db_f269_ok) fun q2 => ?_
  exact db_RretB (lv1 := [(0, .ref 669), (1, .int v1)]) rfl rfl rfl rfl
/-- DreamBookModel.worthOf(I)I -/
noncomputable def db_f290 (s : db_S) (v1 : Int32) : Option Int32 :=
  ((db_rI s 674 ((31 : Int32) + v1)).bind fun x1 => (cond (db_cnd .ge x1 0) ((db_rI s 674 ((31 : Int32) + v1)).bind fun x2 => ((db_rI s 674 ((91 : Int32) + v1)).bind fun x3 => (some (if (0 : Int32) < (x2 - x3) then (x2 - x3) else (0 : Int32))))) ((db_rI s 674 ((31 : Int32) + v1)).bind fun x4 => ((db_rI s 674 ((91 : Int32) + v1)).bind fun x5 => (some (if (x4 + x5) < (0 : Int32) then (x4 + x5) else (0 : Int32)))))))
set_option maxRecDepth 100000 in
theorem db_f290_ok {X : db_X} {d : Nat} {s : db_S} {v1 : Int32} : db_Rf X (d + 0) dbm_290 0 (lv_args 0 [.ref 669, .int v1]) [] s (db_yI s) (db_f290 s v1) := by
  show db_Rf _ _ _ 0 [(0, .ref 669), (1, .int v1)] [] _ _ _
  unfold db_f290
  refine db_Rgo (pc' := 8) (lv' := [(0, .ref 669), (1, .int v1)]) (st' := [.int ((31 : Int32) + v1), .ref 674]) 5 rfl ?_
  refine db_RldI (pc' := 9) (lv1 := [(0, .ref 669), (1, .int v1)]) rfl rfl rfl fun x1 => ?_
  refine db_Rif (pc' := 12) (tg := 38) (lv1 := [(0, .ref 669), (1, .int v1)]) rfl rfl rfl rfl ?_ ?_
  · refine db_Rgo (pc' := 47) (lv' := [(0, .ref 669), (1, .int v1)]) (st' := [.int ((31 : Int32) + v1), .ref 674, .int (0 : Int32)]) 6 rfl ?_
    refine db_RldI (pc' := 48) (lv1 := [(0, .ref 669), (1, .int v1)]) rfl rfl rfl fun x2 => ?_
    refine db_Rgo (pc' := 56) (lv' := [(0, .ref 669), (1, .int v1)]) (st' := [.int ((91 : Int32) + v1), .ref 674, .int x2, .int (0 : Int32)]) 5 rfl ?_
    refine db_RldI (pc' := 57) (lv1 := [(0, .ref 669), (1, .int v1)]) rfl rfl rfl fun x3 => ?_
    refine db_Rgo (pc' := 61) (lv' := [(0, .ref 669), (1, .int v1)]) (st' := [.int (if (0 : Int32) < (x2 - x3) then (x2 - x3) else (0 : Int32))]) 2 rfl ?_
    exact db_Rret (lv1 := []) rfl rfl rfl rfl
  refine db_Rgo (pc' := 21) (lv' := [(0, .ref 669), (1, .int v1)]) (st' := [.int ((31 : Int32) + v1), .ref 674, .int (0 : Int32)]) 6 rfl ?_
  refine db_RldI (pc' := 22) (lv1 := [(0, .ref 669), (1, .int v1)]) rfl rfl rfl fun x4 => ?_
  refine db_Rgo (pc' := 30) (lv' := [(0, .ref 669), (1, .int v1)]) (st' := [.int ((91 : Int32) + v1), .ref 674, .int x4, .int (0 : Int32)]) 5 rfl ?_
  refine db_RldI (pc' := 31) (lv1 := [(0, .ref 669), (1, .int v1)]) rfl rfl rfl fun x5 => ?_
  refine db_Rgo (pc' := 61) (lv' := [(0, .ref 669), (1, .int v1)]) (st' := [.int (if (x4 + x5) < (0 : Int32) then (x4 + x5) else (0 : Int32))]) 3 rfl ?_
  exact db_Rret (lv1 := []) rfl rfl rfl rfl
noncomputable def db_f288_b70 (s : db_S) (v2 : Int32) (t0 : Int32) : Option (Int32 × db_S) :=
  ((db_f269 s (Int32.toInt64 v2) (2 : Int64) (5 : Int64)).bind fun q1 => (cond q1 (cond (db_cnd .ge t0 0) (some (t0, s)) (db_bd (db_f281 s (8 : Int32)) fun q3 s4 => (some (q3, s4)))) (some (t0, s))))
set_option maxRecDepth 100000 in
theorem db_f288_b70_ok {X : db_X} {d : Nat}  {s : db_S} {v2 : Int32} {t0 : Int32} : db_Rf X (d + 2) dbm_288 70 [(0, .ref 669), (2, .int v2)] [.int t0] s db_zI (db_f288_b70 s v2 t0) := by
  unfold db_f288_b70
  refine db_Rgo (pc' := 79) (lv' := [(3, .int t0), (0, .ref 669), (2, .int v2)]) (st' := [.long (5 : Int64), .long (2 : Int64), .long (Int32.toInt64 v2)]) 5 rfl ?_
  refine db_RcyB (mr' := dbm_269) (as := [.long (Int32.toInt64 v2), .long (2 : Int64), .long (5 : Int64)]) (rest := []) (pc' := 82) (lv1 := [(3, .int t0), (0, .ref 669), (2, .int v2)]) rfl rfl rfl rfl rfl (db_f269_ok) fun q1 => ?_
  refine db_RifBe (pc' := 85) (tg := 98) (lv1 := [(3, .int t0), (0, .ref 669), (2, .int v2)]) rfl rfl rfl rfl ?_ ?_
  · refine db_Rgo (pc' := 99) (lv' := [(3, .int t0)]) (st' := [.int t0]) 1 rfl ?_
    exact db_Rret (lv1 := []) rfl rfl rfl rfl
  refine db_Rgo (pc' := 86) (lv' := [(3, .int t0), (0, .ref 669), (2, .int v2)]) (st' := [.int t0]) 1 rfl ?_
  refine db_Rif (pc' := 89) (tg := 98) (lv1 := [(3, .int t0), (0, .ref 669), (2, .int v2)]) rfl rfl rfl rfl ?_ ?_
  · refine db_Rgo (pc' := 99) (lv' := [(3, .int t0)]) (st' := [.int t0]) 1 rfl ?_
    exact db_Rret (lv1 := []) rfl rfl rfl rfl
  refine db_Rgo (pc' := 92) (lv' := [(3, .int t0), (0, .ref 669), (2, .int v2)]) (st' := [.int (8 : Int32), .ref 669]) 2 rfl ?_
  refine db_RcdI (mr' := dbm_281) (as := [.ref 669, .int (8 : Int32)]) (rest := []) (pc' := 95) (lv1 := [(3, .int t0), (0, .ref 669), (2, .int v2)]) rfl rfl rfl rfl rfl (db_f281_ok) fun q3 s4 => ?_
  refine db_Rgo (pc' := 99) (lv' := [(3, .int t0), (0, .ref 669), (2, .int v2)]) (st' := [.int q3]) 1 rfl ?_
  exact db_Rret (lv1 := []) rfl rfl rfl rfl
/-- DreamBookModel.rule(II)I -/
noncomputable def db_f288 (s : db_S) (v1 : Int32) (v2 : Int32) : Option (Int32 × db_S) :=
  ((db_pI s 669 1 (0 : Int32)).bind fun s1 => ((db_pI s1 669 0 (0 : Int32)).bind fun s2 => ((db_f289 s2 v1).bind fun q3 => (cond q3 ((db_f269 s2 (Int32.toInt64 v2) (0 : Int64) (7 : Int64)).bind fun q5 => (cond q5 (cond (db_cnd .ne v2 (7 : Int32)) ((db_rI s2 674 (((19 : Int32) + ((12 : Int32) * v2)) + v1)).bind fun x7 => (db_f288_b70 s2 v2 x7)) ((db_f290 s2 v1).bind fun q8 => (db_f288_b70 s2 v2 q8))) (db_bd (db_f281 s2 (5 : Int32)) fun q10 s11 => (some (q10, s11))))) (db_bd (db_f281 s2 (2 : Int32)) fun q12 s13 => (some (q12, s13)))))))
set_option maxRecDepth 100000 in
theorem db_f288_ok {X : db_X} {d : Nat} {s : db_S} {v1 : Int32} {v2 : Int32} : db_Rf X (d + 2) dbm_288 0 (lv_args 0 [.ref 669, .int v1, .int v2]) [] s db_zI (db_f288 s v1 v2) := by
  show db_Rf _ _ _ 0 [(0, .ref 669), (1, .int v1), (2, .int v2)] [] _ _ _
  unfold db_f288
  refine db_Rgo (pc' := 2) (lv' := [(0, .ref 669), (1, .int v1), (2, .int v2)]) (st' := [.int (0 : Int32), .ref 669]) 2 rfl ?_
  refine db_RpuI (pc' := 5) (lv1 := [(0, .ref 669), (1, .int v1), (2, .int v2)]) rfl rfl rfl rfl rfl rfl (by decide) rfl rfl fun s1 => ?_
  refine db_Rgo (pc' := 7) (lv' := [(0, .ref 669), (1, .int v1), (2, .int v2)]) (st' := [.int (0 : Int32), .ref 669]) 2 rfl ?_
  refine db_RpuI (pc' := 10) (lv1 := [(0, .ref 669), (1, .int v1), (2, .int v2)]) rfl rfl rfl rfl rfl rfl (by decide) rfl rfl fun s2 => ?_
  refine db_Rgo (pc' := 12) (lv' := [(0, .ref 669), (1, .int v1), (2, .int v2)]) (st' := [.int v1, .ref 669]) 2 rfl ?_
  refine db_RcyB (mr' := dbm_289) (as := [.ref 669, .int v1]) (rest := []) (pc' := 15) (lv1 := [(0, .ref 669), (1, .int v1), (2, .int v2)]) rfl rfl rfl rfl rfl (db_f289_ok) fun q3 => ?_
  refine db_RifBn (pc' := 18) (tg := 24) (lv1 := [(0, .ref 669), (1, .int v1), (2, .int v2)]) rfl rfl rfl rfl ?_ ?_
  · refine db_Rgo (pc' := 30) (lv' := [(0, .ref 669), (1, .int v1), (2, .int v2)]) (st' := [.long (7 : Int64), .long (0 : Int64), .long (Int32.toInt64 v2)]) 4 rfl ?_
    refine db_RcyB (mr' := dbm_269) (as := [.long (Int32.toInt64 v2), .long (0 : Int64), .long (7 : Int64)]) (rest := []) (pc' := 33) (lv1 := [(0, .ref 669), (1, .int v1), (2, .int v2)]) rfl rfl rfl rfl rfl (db_f269_ok) fun q5 => ?_
    refine db_RifBn (pc' := 36) (tg := 42) (lv1 := [(0, .ref 669), (1, .int v1), (2, .int v2)]) rfl rfl rfl rfl ?_ ?_
    · refine db_Rgo (pc' := 45) (lv' := [(0, .ref 669), (1, .int v1), (2, .int v2)]) (st' := [.int (7 : Int32), .int v2]) 2 rfl ?_
      refine db_Ric (pc' := 48) (tg := 56) (lv1 := [(0, .ref 669), (1, .int v1), (2, .int v2)]) rfl rfl rfl rfl ?_ ?_
      · refine db_Rgo (pc' := 69) (lv' := [(0, .ref 669), (1, .int v1), (2, .int v2)]) (st' := [.int (((19 : Int32) + ((12 : Int32) * v2)) + v1), .ref 674]) 9 rfl ?_
        refine db_RldI (pc' := 70) (lv1 := [(0, .ref 669), (1, .int v1), (2, .int v2)]) rfl rfl rfl fun x7 => ?_
        refine db_Rn (lv1 := [(0, .ref 669), (2, .int v2)]) rfl rfl rfl ?_
        exact db_f288_b70_ok
      refine db_Rgo (pc' := 50) (lv' := [(0, .ref 669), (1, .int v1), (2, .int v2)]) (st' := [.int v1, .ref 669]) 2 rfl ?_
      refine db_RcyI (mr' := dbm_290) (as := [.ref 669, .int v1]) (rest := []) (pc' := 53) (lv1 := [(0, .ref 669), (1, .int v1), (2, .int v2)]) rfl rfl rfl rfl rfl (db_f290_ok) fun q8 => ?_
      refine db_Rgo (pc' := 70) (lv' := [(0, .ref 669), (1, .int v1), (2, .int v2)]) (st' := [.int q8]) 1 rfl ?_
      refine db_Rn (lv1 := [(0, .ref 669), (2, .int v2)]) rfl rfl rfl ?_
      exact db_f288_b70_ok
    refine db_Rgo (pc' := 38) (lv' := [(0, .ref 669), (1, .int v1), (2, .int v2)]) (st' := [.int (5 : Int32), .ref 669]) 2 rfl ?_
    refine db_RcdI (mr' := dbm_281) (as := [.ref 669, .int (5 : Int32)]) (rest := []) (pc' := 41) (lv1 := [(0, .ref 669), (1, .int v1), (2, .int v2)]) rfl rfl rfl rfl rfl (db_f281_ok) fun q10 s11 => ?_
    exact db_Rret (lv1 := [(0, .ref 669), (1, .int v1), (2, .int v2)]) rfl rfl rfl rfl
  refine db_Rgo (pc' := 20) (lv' := [(0, .ref 669), (1, .int v1), (2, .int v2)]) (st' := [.int (2 : Int32), .ref 669]) 2 rfl ?_
  refine db_RcdI (mr' := dbm_281) (as := [.ref 669, .int (2 : Int32)]) (rest := []) (pc' := 23) (lv1 := [(0, .ref 669), (1, .int v1), (2, .int v2)]) rfl rfl rfl rfl rfl (db_f281_ok) fun q12 s13 => ?_
  exact db_Rret (lv1 := [(0, .ref 669), (1, .int v1), (2, .int v2)]) rfl rfl rfl rfl
noncomputable def db_f105_b56 (s : db_S) (t1 : Int32) : Option (Int32 × db_S) :=
  (db_bd (db_f87 s t1) fun q1 s2 => (some (q1, s2)))
set_option maxRecDepth 100000 in
theorem db_f105_b56_ok {X : db_X} {d : Nat}  {s : db_S} {t1 : Int32} : db_Rf X (d + 1) dbm_105 56 [] [.int t1, .ref 4] s db_zI (db_f105_b56 s t1) := by
  unfold db_f105_b56
  refine db_RcdI (mr' := dbm_87) (as := [.ref 4, .int t1]) (rest := []) (pc' := 59) (lv1 := []) rfl rfl rfl rfl rfl (db_f87_ok) fun q1 s2 => ?_
  exact db_Rret (lv1 := []) rfl rfl rfl rfl
/-- DreamBook.person(II)I -/
noncomputable def db_f105 (s : db_S) (v1 : Int32) (v2 : Int32) : Option (Int32 × db_S) :=
  ((db_f103 s (1 : Int32) v1).bind fun q1 => (cond q1 ((db_f27 s v2 (0 : Int32) (1 : Int32)).bind fun q3 => (cond q3 (cond (db_cnd .ne v2 0) ((db_rI s 82 v1).bind fun x5 => (db_f105_b56 s x5)) ((db_rI s 22 v1).bind fun x6 => (db_f105_b56 s x6))) (db_bd (db_f37 s (5 : Int32)) fun q7 s8 => (some (q7, s8))))) (db_bd (db_f37 s (2 : Int32)) fun q9 s10 => (some (q9, s10)))))
set_option maxRecDepth 100000 in
theorem db_f105_ok {X : db_X} {d : Nat} {s : db_S} {v1 : Int32} {v2 : Int32} : db_Rf X (d + 1) dbm_105 0 (lv_args 0 [.ref 4, .int v1, .int v2]) [] s db_zI (db_f105 s v1 v2) := by
  show db_Rf _ _ _ 0 [(0, .ref 4), (1, .int v1), (2, .int v2)] [] _ _ _
  unfold db_f105
  refine db_Rgo (pc' := 3) (lv' := [(0, .ref 4), (1, .int v1), (2, .int v2)]) (st' := [.int v1, .int (1 : Int32), .ref 4]) 3 rfl ?_
  refine db_RcyB (mr' := dbm_103) (as := [.ref 4, .int (1 : Int32), .int v1]) (rest := []) (pc' := 6) (lv1 := [(0, .ref 4), (1, .int v1), (2, .int v2)]) rfl rfl rfl rfl rfl (db_f103_ok) fun q1 => ?_
  refine db_RifBn (pc' := 9) (tg := 15) (lv1 := [(0, .ref 4), (1, .int v1), (2, .int v2)]) rfl rfl rfl rfl ?_ ?_
  · refine db_Rgo (pc' := 18) (lv' := [(0, .ref 4), (1, .int v1), (2, .int v2)]) (st' := [.int (1 : Int32), .int (0 : Int32), .int v2]) 3 rfl ?_
    refine db_RcyB (mr' := dbm_27) (as := [.int v2, .int (0 : Int32), .int (1 : Int32)]) (rest := []) (pc' := 21) (lv1 := [(0, .ref 4), (1, .int v1), (2, .int v2)]) rfl rfl rfl rfl rfl (db_f27_ok) fun q3 => ?_
    refine db_RifBn (pc' := 24) (tg := 30) (lv1 := [(0, .ref 4), (1, .int v1), (2, .int v2)]) rfl rfl rfl rfl ?_ ?_
    · refine db_Rgo (pc' := 32) (lv' := [(0, .ref 4), (1, .int v1), (2, .int v2)]) (st' := [.int v2, .ref 4]) 2 rfl ?_
      refine db_Rif (pc' := 35) (tg := 47) (lv1 := [(0, .ref 4), (1, .int v1), (2, .int v2)]) rfl rfl rfl rfl ?_ ?_
      · refine db_Rgo (pc' := 55) (lv' := [(0, .ref 4), (1, .int v1)]) (st' := [.int v1, .ref 82, .ref 4]) 4 rfl ?_
        refine db_RldI (pc' := 56) (lv1 := [(0, .ref 4), (1, .int v1)]) rfl rfl rfl fun x5 => ?_
        refine db_Rn (lv1 := []) rfl rfl rfl ?_
        exact db_f105_b56_ok
      refine db_Rgo (pc' := 43) (lv' := [(0, .ref 4), (1, .int v1), (2, .int v2)]) (st' := [.int v1, .ref 22, .ref 4]) 4 rfl ?_
      refine db_RldI (pc' := 44) (lv1 := [(0, .ref 4), (1, .int v1), (2, .int v2)]) rfl rfl rfl fun x6 => ?_
      refine db_Rgo (pc' := 56) (lv' := [(0, .ref 4), (1, .int v1), (2, .int v2)]) (st' := [.int x6, .ref 4]) 1 rfl ?_
      refine db_Rn (lv1 := []) rfl rfl rfl ?_
      exact db_f105_b56_ok
    refine db_Rgo (pc' := 26) (lv' := [(0, .ref 4), (1, .int v1), (2, .int v2)]) (st' := [.int (5 : Int32), .ref 4]) 2 rfl ?_
    refine db_RcdI (mr' := dbm_37) (as := [.ref 4, .int (5 : Int32)]) (rest := []) (pc' := 29) (lv1 := [(0, .ref 4), (1, .int v1), (2, .int v2)]) rfl rfl rfl rfl rfl (db_f37_ok) fun q7 s8 => ?_
    exact db_Rret (lv1 := [(0, .ref 4), (1, .int v1), (2, .int v2)]) rfl rfl rfl rfl
  refine db_Rgo (pc' := 11) (lv' := [(0, .ref 4), (1, .int v1), (2, .int v2)]) (st' := [.int (2 : Int32), .ref 4]) 2 rfl ?_
  refine db_RcdI (mr' := dbm_37) (as := [.ref 4, .int (2 : Int32)]) (rest := []) (pc' := 14) (lv1 := [(0, .ref 4), (1, .int v1), (2, .int v2)]) rfl rfl rfl rfl rfl (db_f37_ok) fun q9 s10 => ?_
  exact db_Rret (lv1 := [(0, .ref 4), (1, .int v1), (2, .int v2)]) rfl rfl rfl rfl
/-- DreamBookModel.isPersonAt(I)Z -/
noncomputable def db_f292 (s : db_S) (v1 : Int32) : Option Bool :=
  ((db_rI s 674 (1 : Int32)).bind fun x1 => ((db_f269 s (Int32.toInt64 v1) (0 : Int64) (Int32.toInt64 (x1 - (1 : Int32)))).bind fun q2 => (some q2)))
set_option maxRecDepth 100000 in
theorem db_f292_ok {X : db_X} {d : Nat} {s : db_S} {v1 : Int32} : db_Rf X (d + 1) dbm_292 0 (lv_args 0 [.ref 669, .int v1]) [] s (db_yB s) (db_f292 s v1) := by
  show db_Rf _ _ _ 0 [(0, .ref 669), (1, .int v1)] [] _ _ _
  unfold db_f292
  refine db_Rgo (pc' := 8) (lv' := [(0, .ref 669), (1, .int v1)]) (st' := [.int (1 : Int32), .ref 674, .long (0 : Int64), .long (Int32.toInt64 v1)]) 6 rfl ?_
  refine db_RldI (pc' := 9) (lv1 := [(0, .ref 669), (1, .int v1)]) rfl rfl rfl fun x1 => ?_
  refine db_Rgo (pc' := 12) (lv' := [(0, .ref 669), (1, .int v1)]) (st' := [.long (Int32.toInt64 (x1 - (1 : Int32))), .long (0 : Int64), .long (Int32.toInt64 v1)]) 3 rfl ?_
  refine db_RcyB (mr' := dbm_269) (as := [.long (Int32.toInt64 v1), .long (0 : Int64), .long (Int32.toInt64 (x1 - (1 : Int32)))]) (rest := []) (pc' := 15) (lv1 := [(0, .ref 669), (1, .int v1)]) rfl rfl rfl rfl rfl (db_f269_ok) fun q2 => ?_
  exact db_RretB (lv1 := [(0, .ref 669), (1, .int v1)]) rfl rfl rfl rfl
/-- DreamBookModel.person(II)I -/
noncomputable def db_f291 (s : db_S) (v1 : Int32) (v2 : Int32) : Option (Int32 × db_S) :=
  ((db_pI s 669 1 (0 : Int32)).bind fun s1 => ((db_pI s1 669 0 (0 : Int32)).bind fun s2 => ((db_f292 s2 v1).bind fun q3 => (cond q3 ((db_f269 s2 (Int32.toInt64 v2) (0 : Int64) (1 : Int64)).bind fun q5 => (cond q5 ((db_rI s2 674 (((8 : Int32) + ((4 : Int32) * v2)) + v1)).bind fun x9 => (some (x9, s2))) (db_bd (db_f281 s2 (5 : Int32)) fun q7 s8 => (some (q7, s8))))) (db_bd (db_f281 s2 (2 : Int32)) fun q10 s11 => (some (q10, s11)))))))
set_option maxRecDepth 100000 in
theorem db_f291_ok {X : db_X} {d : Nat} {s : db_S} {v1 : Int32} {v2 : Int32} : db_Rf X (d + 2) dbm_291 0 (lv_args 0 [.ref 669, .int v1, .int v2]) [] s db_zI (db_f291 s v1 v2) := by
  show db_Rf _ _ _ 0 [(0, .ref 669), (1, .int v1), (2, .int v2)] [] _ _ _
  unfold db_f291
  refine db_Rgo (pc' := 2) (lv' := [(0, .ref 669), (1, .int v1), (2, .int v2)]) (st' := [.int (0 : Int32), .ref 669]) 2 rfl ?_
  refine db_RpuI (pc' := 5) (lv1 := [(0, .ref 669), (1, .int v1), (2, .int v2)]) rfl rfl rfl rfl rfl rfl (by decide) rfl rfl fun s1 => ?_
  refine db_Rgo (pc' := 7) (lv' := [(0, .ref 669), (1, .int v1), (2, .int v2)]) (st' := [.int (0 : Int32), .ref 669]) 2 rfl ?_
  refine db_RpuI (pc' := 10) (lv1 := [(0, .ref 669), (1, .int v1), (2, .int v2)]) rfl rfl rfl rfl rfl rfl (by decide) rfl rfl fun s2 => ?_
  refine db_Rgo (pc' := 12) (lv' := [(0, .ref 669), (1, .int v1), (2, .int v2)]) (st' := [.int v1, .ref 669]) 2 rfl ?_
  refine db_RcyB (mr' := dbm_292) (as := [.ref 669, .int v1]) (rest := []) (pc' := 15) (lv1 := [(0, .ref 669), (1, .int v1), (2, .int v2)]) rfl rfl rfl rfl rfl (db_f292_ok) fun q3 => ?_
  refine db_RifBn (pc' := 18) (tg := 24) (lv1 := [(0, .ref 669), (1, .int v1), (2, .int v2)]) rfl rfl rfl rfl ?_ ?_
  · refine db_Rgo (pc' := 28) (lv' := [(0, .ref 669), (1, .int v1), (2, .int v2)]) (st' := [.long (1 : Int64), .long (0 : Int64), .long (Int32.toInt64 v2)]) 4 rfl ?_
    refine db_RcyB (mr' := dbm_269) (as := [.long (Int32.toInt64 v2), .long (0 : Int64), .long (1 : Int64)]) (rest := []) (pc' := 31) (lv1 := [(0, .ref 669), (1, .int v1), (2, .int v2)]) rfl rfl rfl rfl rfl (db_f269_ok) fun q5 => ?_
    refine db_RifBe (pc' := 34) (tg := 50) (lv1 := [(0, .ref 669), (1, .int v1), (2, .int v2)]) rfl rfl rfl rfl ?_ ?_
    · refine db_Rgo (pc' := 52) (lv' := [(0, .ref 669)]) (st' := [.int (5 : Int32), .ref 669]) 2 rfl ?_
      refine db_RcdI (mr' := dbm_281) (as := [.ref 669, .int (5 : Int32)]) (rest := []) (pc' := 55) (lv1 := [(0, .ref 669)]) rfl rfl rfl rfl rfl (db_f281_ok) fun q7 s8 => ?_
      exact db_Rret (lv1 := []) rfl rfl rfl rfl
    refine db_Rgo (pc' := 46) (lv' := [(0, .ref 669), (1, .int v1), (2, .int v2)]) (st' := [.int (((8 : Int32) + ((4 : Int32) * v2)) + v1), .ref 674]) 9 rfl ?_
    refine db_RldI (pc' := 47) (lv1 := [(0, .ref 669), (1, .int v1), (2, .int v2)]) rfl rfl rfl fun x9 => ?_
    refine db_Rgo (pc' := 55) (lv' := [(0, .ref 669), (1, .int v1), (2, .int v2)]) (st' := [.int x9]) 1 rfl ?_
    exact db_Rret (lv1 := []) rfl rfl rfl rfl
  refine db_Rgo (pc' := 20) (lv' := [(0, .ref 669), (1, .int v1), (2, .int v2)]) (st' := [.int (2 : Int32), .ref 669]) 2 rfl ?_
  refine db_RcdI (mr' := dbm_281) (as := [.ref 669, .int (2 : Int32)]) (rest := []) (pc' := 23) (lv1 := [(0, .ref 669), (1, .int v1), (2, .int v2)]) rfl rfl rfl rfl rfl (db_f281_ok) fun q10 s11 => ?_
  exact db_Rret (lv1 := [(0, .ref 669), (1, .int v1), (2, .int v2)]) rfl rfl rfl rfl
/-- DreamBook.turns(I)I -/
noncomputable def db_f106 (s : db_S) (v1 : Int32) : Option (Int32 × db_S) :=
  ((db_f103 s (2 : Int32) v1).bind fun q1 => (cond q1 ((db_rI s 23 v1).bind fun x3 => (db_bd (db_f87 s x3) fun q4 s5 => (some (q4, s5)))) (db_bd (db_f37 s (2 : Int32)) fun q6 s7 => (some (q6, s7)))))
set_option maxRecDepth 100000 in
theorem db_f106_ok {X : db_X} {d : Nat} {s : db_S} {v1 : Int32} : db_Rf X (d + 1) dbm_106 0 (lv_args 0 [.ref 4, .int v1]) [] s db_zI (db_f106 s v1) := by
  show db_Rf _ _ _ 0 [(0, .ref 4), (1, .int v1)] [] _ _ _
  unfold db_f106
  refine db_Rgo (pc' := 3) (lv' := [(0, .ref 4), (1, .int v1)]) (st' := [.int v1, .int (2 : Int32), .ref 4]) 3 rfl ?_
  refine db_RcyB (mr' := dbm_103) (as := [.ref 4, .int (2 : Int32), .int v1]) (rest := []) (pc' := 6) (lv1 := [(0, .ref 4), (1, .int v1)]) rfl rfl rfl rfl rfl (db_f103_ok) fun q1 => ?_
  refine db_RifBn (pc' := 9) (tg := 15) (lv1 := [(0, .ref 4), (1, .int v1)]) rfl rfl rfl rfl ?_ ?_
  · refine db_Rgo (pc' := 24) (lv' := [(0, .ref 4), (1, .int v1)]) (st' := [.int v1, .ref 23, .ref 4]) 5 rfl ?_
    refine db_RldI (pc' := 25) (lv1 := [(0, .ref 4), (1, .int v1)]) rfl rfl rfl fun x3 => ?_
    refine db_RcdI (mr' := dbm_87) (as := [.ref 4, .int x3]) (rest := []) (pc' := 28) (lv1 := [(0, .ref 4), (1, .int v1)]) rfl rfl rfl rfl rfl (db_f87_ok) fun q4 s5 => ?_
    exact db_Rret (lv1 := [(0, .ref 4), (1, .int v1)]) rfl rfl rfl rfl
  refine db_Rgo (pc' := 11) (lv' := [(0, .ref 4), (1, .int v1)]) (st' := [.int (2 : Int32), .ref 4]) 2 rfl ?_
  refine db_RcdI (mr' := dbm_37) (as := [.ref 4, .int (2 : Int32)]) (rest := []) (pc' := 14) (lv1 := [(0, .ref 4), (1, .int v1)]) rfl rfl rfl rfl rfl (db_f37_ok) fun q6 s7 => ?_
  exact db_Rret (lv1 := [(0, .ref 4), (1, .int v1)]) rfl rfl rfl rfl
/-- DreamBookModel.isSeasonAt(I)Z -/
noncomputable def db_f294 (s : db_S) (v1 : Int32) : Option Bool :=
  ((db_rI s 674 (2 : Int32)).bind fun x1 => ((db_f269 s (Int32.toInt64 v1) (0 : Int64) (Int32.toInt64 (x1 - (1 : Int32)))).bind fun q2 => (some q2)))
set_option maxRecDepth 100000 in
theorem db_f294_ok {X : db_X} {d : Nat} {s : db_S} {v1 : Int32} : db_Rf X (d + 1) dbm_294 0 (lv_args 0 [.ref 669, .int v1]) [] s (db_yB s) (db_f294 s v1) := by
  show db_Rf _ _ _ 0 [(0, .ref 669), (1, .int v1)] [] _ _ _
  unfold db_f294
  refine db_Rgo (pc' := 8) (lv' := [(0, .ref 669), (1, .int v1)]) (st' := [.int (2 : Int32), .ref 674, .long (0 : Int64), .long (Int32.toInt64 v1)]) 6 rfl ?_
  refine db_RldI (pc' := 9) (lv1 := [(0, .ref 669), (1, .int v1)]) rfl rfl rfl fun x1 => ?_
  refine db_Rgo (pc' := 12) (lv' := [(0, .ref 669), (1, .int v1)]) (st' := [.long (Int32.toInt64 (x1 - (1 : Int32))), .long (0 : Int64), .long (Int32.toInt64 v1)]) 3 rfl ?_
  refine db_RcyB (mr' := dbm_269) (as := [.long (Int32.toInt64 v1), .long (0 : Int64), .long (Int32.toInt64 (x1 - (1 : Int32)))]) (rest := []) (pc' := 15) (lv1 := [(0, .ref 669), (1, .int v1)]) rfl rfl rfl rfl rfl (db_f269_ok) fun q2 => ?_
  exact db_RretB (lv1 := [(0, .ref 669), (1, .int v1)]) rfl rfl rfl rfl
/-- DreamBookModel.turns(I)I -/
noncomputable def db_f293 (s : db_S) (v1 : Int32) : Option (Int32 × db_S) :=
  ((db_pI s 669 1 (0 : Int32)).bind fun s1 => ((db_pI s1 669 0 (0 : Int32)).bind fun s2 => ((db_f294 s2 v1).bind fun q3 => (cond q3 ((db_rI s2 674 ((16 : Int32) + v1)).bind fun x7 => (some (x7, s2))) (db_bd (db_f281 s2 (2 : Int32)) fun q5 s6 => (some (q5, s6)))))))
set_option maxRecDepth 100000 in
theorem db_f293_ok {X : db_X} {d : Nat} {s : db_S} {v1 : Int32} : db_Rf X (d + 2) dbm_293 0 (lv_args 0 [.ref 669, .int v1]) [] s db_zI (db_f293 s v1) := by
  show db_Rf _ _ _ 0 [(0, .ref 669), (1, .int v1)] [] _ _ _
  unfold db_f293
  refine db_Rgo (pc' := 2) (lv' := [(0, .ref 669), (1, .int v1)]) (st' := [.int (0 : Int32), .ref 669]) 2 rfl ?_
  refine db_RpuI (pc' := 5) (lv1 := [(0, .ref 669), (1, .int v1)]) rfl rfl rfl rfl rfl rfl (by decide) rfl rfl fun s1 => ?_
  refine db_Rgo (pc' := 7) (lv' := [(0, .ref 669), (1, .int v1)]) (st' := [.int (0 : Int32), .ref 669]) 2 rfl ?_
  refine db_RpuI (pc' := 10) (lv1 := [(0, .ref 669), (1, .int v1)]) rfl rfl rfl rfl rfl rfl (by decide) rfl rfl fun s2 => ?_
  refine db_Rgo (pc' := 12) (lv' := [(0, .ref 669), (1, .int v1)]) (st' := [.int v1, .ref 669]) 2 rfl ?_
  refine db_RcyB (mr' := dbm_294) (as := [.ref 669, .int v1]) (rest := []) (pc' := 15) (lv1 := [(0, .ref 669), (1, .int v1)]) rfl rfl rfl rfl rfl (db_f294_ok) fun q3 => ?_
  refine db_RifBe (pc' := 18) (tg := 30) (lv1 := [(0, .ref 669), (1, .int v1)]) rfl rfl rfl rfl ?_ ?_
  · refine db_Rgo (pc' := 32) (lv' := [(0, .ref 669)]) (st' := [.int (2 : Int32), .ref 669]) 2 rfl ?_
    refine db_RcdI (mr' := dbm_281) (as := [.ref 669, .int (2 : Int32)]) (rest := []) (pc' := 35) (lv1 := [(0, .ref 669)]) rfl rfl rfl rfl rfl (db_f281_ok) fun q5 s6 => ?_
    exact db_Rret (lv1 := []) rfl rfl rfl rfl
  refine db_Rgo (pc' := 26) (lv' := [(0, .ref 669), (1, .int v1)]) (st' := [.int ((16 : Int32) + v1), .ref 674]) 5 rfl ?_
  refine db_RldI (pc' := 27) (lv1 := [(0, .ref 669), (1, .int v1)]) rfl rfl rfl fun x7 => ?_
  refine db_Rgo (pc' := 35) (lv' := [(0, .ref 669), (1, .int v1)]) (st' := [.int x7]) 1 rfl ?_
  exact db_Rret (lv1 := []) rfl rfl rfl rfl
/-- DreamBook.note(II)I -/
noncomputable def db_f107 (s : db_S) (v1 : Int32) (v2 : Int32) : Option (Int32 × db_S) :=
  ((db_f103 s (4 : Int32) v1).bind fun q1 => (cond q1 ((db_f27 s v2 (0 : Int32) (1 : Int32)).bind fun q3 => (cond q3 ((db_rR 37 v1).bind fun y5 => ((db_rI s y5 v2).bind fun x6 => (db_bd (db_f87 s x6) fun q7 s8 => (some (q7, s8))))) (db_bd (db_f37 s (5 : Int32)) fun q9 s10 => (some (q9, s10))))) (db_bd (db_f37 s (2 : Int32)) fun q11 s12 => (some (q11, s12)))))
set_option maxRecDepth 100000 in
theorem db_f107_ok {X : db_X} {d : Nat} {s : db_S} {v1 : Int32} {v2 : Int32} : db_Rf X (d + 1) dbm_107 0 (lv_args 0 [.ref 4, .int v1, .int v2]) [] s db_zI (db_f107 s v1 v2) := by
  show db_Rf _ _ _ 0 [(0, .ref 4), (1, .int v1), (2, .int v2)] [] _ _ _
  unfold db_f107
  refine db_Rgo (pc' := 3) (lv' := [(0, .ref 4), (1, .int v1), (2, .int v2)]) (st' := [.int v1, .int (4 : Int32), .ref 4]) 3 rfl ?_
  refine db_RcyB (mr' := dbm_103) (as := [.ref 4, .int (4 : Int32), .int v1]) (rest := []) (pc' := 6) (lv1 := [(0, .ref 4), (1, .int v1), (2, .int v2)]) rfl rfl rfl rfl rfl (db_f103_ok) fun q1 => ?_
  refine db_RifBn (pc' := 9) (tg := 15) (lv1 := [(0, .ref 4), (1, .int v1), (2, .int v2)]) rfl rfl rfl rfl ?_ ?_
  · refine db_Rgo (pc' := 18) (lv' := [(0, .ref 4), (1, .int v1), (2, .int v2)]) (st' := [.int (1 : Int32), .int (0 : Int32), .int v2]) 3 rfl ?_
    refine db_RcyB (mr' := dbm_27) (as := [.int v2, .int (0 : Int32), .int (1 : Int32)]) (rest := []) (pc' := 21) (lv1 := [(0, .ref 4), (1, .int v1), (2, .int v2)]) rfl rfl rfl rfl rfl (db_f27_ok) fun q3 => ?_
    refine db_RifBn (pc' := 24) (tg := 30) (lv1 := [(0, .ref 4), (1, .int v1), (2, .int v2)]) rfl rfl rfl rfl ?_ ?_
    · refine db_Rgo (pc' := 39) (lv' := [(0, .ref 4), (1, .int v1), (2, .int v2)]) (st' := [.int v1, .ref 37, .ref 4]) 5 rfl ?_
      refine db_RldR (pc' := 40) (lv1 := [(0, .ref 4), (1, .int v1), (2, .int v2)]) rfl rfl rfl fun y5 => ?_
      refine db_Rgo (pc' := 41) (lv' := [(0, .ref 4), (1, .int v1), (2, .int v2)]) (st' := [.int v2, .ref (y5 + 4), .ref 4]) 1 rfl ?_
      refine db_RldI (pc' := 42) (lv1 := [(0, .ref 4), (1, .int v1), (2, .int v2)]) rfl rfl rfl fun x6 => ?_
      refine db_RcdI (mr' := dbm_87) (as := [.ref 4, .int x6]) (rest := []) (pc' := 45) (lv1 := [(0, .ref 4), (1, .int v1), (2, .int v2)]) rfl rfl rfl rfl rfl (db_f87_ok) fun q7 s8 => ?_
      exact db_Rret (lv1 := [(0, .ref 4), (1, .int v1), (2, .int v2)]) rfl rfl rfl rfl
    refine db_Rgo (pc' := 26) (lv' := [(0, .ref 4), (1, .int v1), (2, .int v2)]) (st' := [.int (5 : Int32), .ref 4]) 2 rfl ?_
    refine db_RcdI (mr' := dbm_37) (as := [.ref 4, .int (5 : Int32)]) (rest := []) (pc' := 29) (lv1 := [(0, .ref 4), (1, .int v1), (2, .int v2)]) rfl rfl rfl rfl rfl (db_f37_ok) fun q9 s10 => ?_
    exact db_Rret (lv1 := [(0, .ref 4), (1, .int v1), (2, .int v2)]) rfl rfl rfl rfl
  refine db_Rgo (pc' := 11) (lv' := [(0, .ref 4), (1, .int v1), (2, .int v2)]) (st' := [.int (2 : Int32), .ref 4]) 2 rfl ?_
  refine db_RcdI (mr' := dbm_37) (as := [.ref 4, .int (2 : Int32)]) (rest := []) (pc' := 14) (lv1 := [(0, .ref 4), (1, .int v1), (2, .int v2)]) rfl rfl rfl rfl rfl (db_f37_ok) fun q11 s12 => ?_
  exact db_Rret (lv1 := [(0, .ref 4), (1, .int v1), (2, .int v2)]) rfl rfl rfl rfl
/-- DreamBookModel.note(II)I -/
noncomputable def db_f295 (s : db_S) (v1 : Int32) (v2 : Int32) : Option (Int32 × db_S) :=
  ((db_pI s 669 1 (0 : Int32)).bind fun s1 => ((db_pI s1 669 0 (0 : Int32)).bind fun s2 => ((db_rI s2 674 (4 : Int32)).bind fun x3 => ((db_f269 s2 (Int32.toInt64 v1) (0 : Int64) (Int32.toInt64 (x3 - (1 : Int32)))).bind fun q4 => (cond q4 ((db_f269 s2 (Int32.toInt64 v2) (0 : Int64) (1 : Int64)).bind fun q6 => (cond q6 ((db_rI s2 674 (((103 : Int32) + ((12 : Int32) * v2)) + v1)).bind fun x10 => (some (x10, s2))) (db_bd (db_f281 s2 (5 : Int32)) fun q8 s9 => (some (q8, s9))))) (db_bd (db_f281 s2 (2 : Int32)) fun q11 s12 => (some (q11, s12))))))))
set_option maxRecDepth 100000 in
theorem db_f295_ok {X : db_X} {d : Nat} {s : db_S} {v1 : Int32} {v2 : Int32} : db_Rf X (d + 1) dbm_295 0 (lv_args 0 [.ref 669, .int v1, .int v2]) [] s db_zI (db_f295 s v1 v2) := by
  show db_Rf _ _ _ 0 [(0, .ref 669), (1, .int v1), (2, .int v2)] [] _ _ _
  unfold db_f295
  refine db_Rgo (pc' := 2) (lv' := [(0, .ref 669), (1, .int v1), (2, .int v2)]) (st' := [.int (0 : Int32), .ref 669]) 2 rfl ?_
  refine db_RpuI (pc' := 5) (lv1 := [(0, .ref 669), (1, .int v1), (2, .int v2)]) rfl rfl rfl rfl rfl rfl (by decide) rfl rfl fun s1 => ?_
  refine db_Rgo (pc' := 7) (lv' := [(0, .ref 669), (1, .int v1), (2, .int v2)]) (st' := [.int (0 : Int32), .ref 669]) 2 rfl ?_
  refine db_RpuI (pc' := 10) (lv1 := [(0, .ref 669), (1, .int v1), (2, .int v2)]) rfl rfl rfl rfl rfl rfl (by decide) rfl rfl fun s2 => ?_
  refine db_Rgo (pc' := 18) (lv' := [(0, .ref 669), (1, .int v1), (2, .int v2)]) (st' := [.int (4 : Int32), .ref 674, .long (0 : Int64), .long (Int32.toInt64 v1)]) 6 rfl ?_
  refine db_RldI (pc' := 19) (lv1 := [(0, .ref 669), (1, .int v1), (2, .int v2)]) rfl rfl rfl fun x3 => ?_
  refine db_Rgo (pc' := 22) (lv' := [(0, .ref 669), (1, .int v1), (2, .int v2)]) (st' := [.long (Int32.toInt64 (x3 - (1 : Int32))), .long (0 : Int64), .long (Int32.toInt64 v1)]) 3 rfl ?_
  refine db_RcyB (mr' := dbm_269) (as := [.long (Int32.toInt64 v1), .long (0 : Int64), .long (Int32.toInt64 (x3 - (1 : Int32)))]) (rest := []) (pc' := 25) (lv1 := [(0, .ref 669), (1, .int v1), (2, .int v2)]) rfl rfl rfl rfl rfl (db_f269_ok) fun q4 => ?_
  refine db_RifBn (pc' := 28) (tg := 34) (lv1 := [(0, .ref 669), (1, .int v1), (2, .int v2)]) rfl rfl rfl rfl ?_ ?_
  · refine db_Rgo (pc' := 38) (lv' := [(0, .ref 669), (1, .int v1), (2, .int v2)]) (st' := [.long (1 : Int64), .long (0 : Int64), .long (Int32.toInt64 v2)]) 4 rfl ?_
    refine db_RcyB (mr' := dbm_269) (as := [.long (Int32.toInt64 v2), .long (0 : Int64), .long (1 : Int64)]) (rest := []) (pc' := 41) (lv1 := [(0, .ref 669), (1, .int v1), (2, .int v2)]) rfl rfl rfl rfl rfl (db_f269_ok) fun q6 => ?_
    refine db_RifBe (pc' := 44) (tg := 61) (lv1 := [(0, .ref 669), (1, .int v1), (2, .int v2)]) rfl rfl rfl rfl ?_ ?_
    · refine db_Rgo (pc' := 63) (lv' := [(0, .ref 669)]) (st' := [.int (5 : Int32), .ref 669]) 2 rfl ?_
      refine db_RcdI (mr' := dbm_281) (as := [.ref 669, .int (5 : Int32)]) (rest := []) (pc' := 66) (lv1 := [(0, .ref 669)]) rfl rfl rfl rfl rfl (db_f281_ok) fun q8 s9 => ?_
      exact db_Rret (lv1 := []) rfl rfl rfl rfl
    refine db_Rgo (pc' := 57) (lv' := [(0, .ref 669), (1, .int v1), (2, .int v2)]) (st' := [.int (((103 : Int32) + ((12 : Int32) * v2)) + v1), .ref 674]) 9 rfl ?_
    refine db_RldI (pc' := 58) (lv1 := [(0, .ref 669), (1, .int v1), (2, .int v2)]) rfl rfl rfl fun x10 => ?_
    refine db_Rgo (pc' := 66) (lv' := [(0, .ref 669), (1, .int v1), (2, .int v2)]) (st' := [.int x10]) 1 rfl ?_
    exact db_Rret (lv1 := []) rfl rfl rfl rfl
  refine db_Rgo (pc' := 30) (lv' := [(0, .ref 669), (1, .int v1), (2, .int v2)]) (st' := [.int (2 : Int32), .ref 669]) 2 rfl ?_
  refine db_RcdI (mr' := dbm_281) (as := [.ref 669, .int (2 : Int32)]) (rest := []) (pc' := 33) (lv1 := [(0, .ref 669), (1, .int v1), (2, .int v2)]) rfl rfl rfl rfl rfl (db_f281_ok) fun q11 s12 => ?_
  exact db_Rret (lv1 := [(0, .ref 669), (1, .int v1), (2, .int v2)]) rfl rfl rfl rfl
noncomputable def db_f108_b75 (s : db_S) (t1 : Int32) : Option (Int32 × db_S) :=
  (db_bd (db_f87 s t1) fun q1 s2 => (some (q1, s2)))
set_option maxRecDepth 100000 in
theorem db_f108_b75_ok {X : db_X} {d : Nat}  {s : db_S} {t1 : Int32} : db_Rf X (d + 1) dbm_108 75 [] [.int t1, .ref 4] s db_zI (db_f108_b75 s t1) := by
  unfold db_f108_b75
  refine db_RcdI (mr' := dbm_87) (as := [.ref 4, .int t1]) (rest := []) (pc' := 78) (lv1 := []) rfl rfl rfl rfl rfl (db_f87_ok) fun q1 s2 => ?_
  exact db_Rret (lv1 := []) rfl rfl rfl rfl
/-- DreamBook.dream(II)I -/
noncomputable def db_f108 (s : db_S) (v1 : Int32) (v2 : Int32) : Option (Int32 × db_S) :=
  ((db_f103 s (5 : Int32) v1).bind fun q1 => (cond q1 ((db_f27 s v2 (0 : Int32) (2 : Int32)).bind fun q3 => (cond q3 (cond (db_cnd .ne v2 0) (cond (db_cnd .ne v2 (1 : Int32)) ((db_rI s 61 v1).bind fun x5 => (db_f108_b75 s x5)) ((db_rI s 60 v1).bind fun x6 => (db_f108_b75 s x6))) ((db_rI s 59 v1).bind fun x7 => (db_bd (db_f87 s x7) fun q8 s9 => (some (q8, s9))))) (db_bd (db_f37 s (5 : Int32)) fun q10 s11 => (some (q10, s11))))) (db_bd (db_f37 s (2 : Int32)) fun q12 s13 => (some (q12, s13)))))
set_option maxRecDepth 100000 in
theorem db_f108_ok {X : db_X} {d : Nat} {s : db_S} {v1 : Int32} {v2 : Int32} : db_Rf X (d + 1) dbm_108 0 (lv_args 0 [.ref 4, .int v1, .int v2]) [] s db_zI (db_f108 s v1 v2) := by
  show db_Rf _ _ _ 0 [(0, .ref 4), (1, .int v1), (2, .int v2)] [] _ _ _
  unfold db_f108
  refine db_Rgo (pc' := 3) (lv' := [(0, .ref 4), (1, .int v1), (2, .int v2)]) (st' := [.int v1, .int (5 : Int32), .ref 4]) 3 rfl ?_
  refine db_RcyB (mr' := dbm_103) (as := [.ref 4, .int (5 : Int32), .int v1]) (rest := []) (pc' := 6) (lv1 := [(0, .ref 4), (1, .int v1), (2, .int v2)]) rfl rfl rfl rfl rfl (db_f103_ok) fun q1 => ?_
  refine db_RifBn (pc' := 9) (tg := 15) (lv1 := [(0, .ref 4), (1, .int v1), (2, .int v2)]) rfl rfl rfl rfl ?_ ?_
  · refine db_Rgo (pc' := 18) (lv' := [(0, .ref 4), (1, .int v1), (2, .int v2)]) (st' := [.int (2 : Int32), .int (0 : Int32), .int v2]) 3 rfl ?_
    refine db_RcyB (mr' := dbm_27) (as := [.int v2, .int (0 : Int32), .int (2 : Int32)]) (rest := []) (pc' := 21) (lv1 := [(0, .ref 4), (1, .int v1), (2, .int v2)]) rfl rfl rfl rfl rfl (db_f27_ok) fun q3 => ?_
    refine db_RifBn (pc' := 24) (tg := 30) (lv1 := [(0, .ref 4), (1, .int v1), (2, .int v2)]) rfl rfl rfl rfl ?_ ?_
    · refine db_Rgo (pc' := 31) (lv' := [(0, .ref 4), (1, .int v1), (2, .int v2)]) (st' := [.int v2]) 1 rfl ?_
      refine db_Rif (pc' := 34) (tg := 48) (lv1 := [(0, .ref 4), (1, .int v1), (2, .int v2)]) rfl rfl rfl rfl ?_ ?_
      · refine db_Rgo (pc' := 51) (lv' := [(0, .ref 4), (1, .int v1), (2, .int v2)]) (st' := [.int (1 : Int32), .int v2, .ref 4]) 3 rfl ?_
        refine db_Ric (pc' := 54) (tg := 66) (lv1 := [(0, .ref 4), (1, .int v1), (2, .int v2)]) rfl rfl rfl rfl ?_ ?_
        · refine db_Rgo (pc' := 74) (lv' := [(0, .ref 4), (1, .int v1)]) (st' := [.int v1, .ref 61, .ref 4]) 4 rfl ?_
          refine db_RldI (pc' := 75) (lv1 := [(0, .ref 4), (1, .int v1)]) rfl rfl rfl fun x5 => ?_
          refine db_Rn (lv1 := []) rfl rfl rfl ?_
          exact db_f108_b75_ok
        refine db_Rgo (pc' := 62) (lv' := [(0, .ref 4), (1, .int v1), (2, .int v2)]) (st' := [.int v1, .ref 60, .ref 4]) 4 rfl ?_
        refine db_RldI (pc' := 63) (lv1 := [(0, .ref 4), (1, .int v1), (2, .int v2)]) rfl rfl rfl fun x6 => ?_
        refine db_Rgo (pc' := 75) (lv' := [(0, .ref 4), (1, .int v1), (2, .int v2)]) (st' := [.int x6, .ref 4]) 1 rfl ?_
        refine db_Rn (lv1 := []) rfl rfl rfl ?_
        exact db_f108_b75_ok
      refine db_Rgo (pc' := 43) (lv' := [(0, .ref 4), (1, .int v1), (2, .int v2)]) (st' := [.int v1, .ref 59, .ref 4]) 5 rfl ?_
      refine db_RldI (pc' := 44) (lv1 := [(0, .ref 4), (1, .int v1), (2, .int v2)]) rfl rfl rfl fun x7 => ?_
      refine db_RcdI (mr' := dbm_87) (as := [.ref 4, .int x7]) (rest := []) (pc' := 47) (lv1 := [(0, .ref 4), (1, .int v1), (2, .int v2)]) rfl rfl rfl rfl rfl (db_f87_ok) fun q8 s9 => ?_
      exact db_Rret (lv1 := [(0, .ref 4), (1, .int v1), (2, .int v2)]) rfl rfl rfl rfl
    refine db_Rgo (pc' := 26) (lv' := [(0, .ref 4), (1, .int v1), (2, .int v2)]) (st' := [.int (5 : Int32), .ref 4]) 2 rfl ?_
    refine db_RcdI (mr' := dbm_37) (as := [.ref 4, .int (5 : Int32)]) (rest := []) (pc' := 29) (lv1 := [(0, .ref 4), (1, .int v1), (2, .int v2)]) rfl rfl rfl rfl rfl (db_f37_ok) fun q10 s11 => ?_
    exact db_Rret (lv1 := [(0, .ref 4), (1, .int v1), (2, .int v2)]) rfl rfl rfl rfl
  refine db_Rgo (pc' := 11) (lv' := [(0, .ref 4), (1, .int v1), (2, .int v2)]) (st' := [.int (2 : Int32), .ref 4]) 2 rfl ?_
  refine db_RcdI (mr' := dbm_37) (as := [.ref 4, .int (2 : Int32)]) (rest := []) (pc' := 14) (lv1 := [(0, .ref 4), (1, .int v1), (2, .int v2)]) rfl rfl rfl rfl rfl (db_f37_ok) fun q12 s13 => ?_
  exact db_Rret (lv1 := [(0, .ref 4), (1, .int v1), (2, .int v2)]) rfl rfl rfl rfl
/-- DreamBookModel.isDreamAt(I)Z -/
noncomputable def db_f297 (s : db_S) (v1 : Int32) : Option Bool :=
  ((db_rI s 674 (5 : Int32)).bind fun x1 => ((db_f269 s (Int32.toInt64 v1) (0 : Int64) (Int32.toInt64 (x1 - (1 : Int32)))).bind fun q2 => (some q2)))
set_option maxRecDepth 100000 in
theorem db_f297_ok {X : db_X} {d : Nat} {s : db_S} {v1 : Int32} : db_Rf X (d + 1) dbm_297 0 (lv_args 0 [.ref 669, .int v1]) [] s (db_yB s) (db_f297 s v1) := by
  show db_Rf _ _ _ 0 [(0, .ref 669), (1, .int v1)] [] _ _ _
  unfold db_f297
  refine db_Rgo (pc' := 8) (lv' := [(0, .ref 669), (1, .int v1)]) (st' := [.int (5 : Int32), .ref 674, .long (0 : Int64), .long (Int32.toInt64 v1)]) 6 rfl ?_
  refine db_RldI (pc' := 9) (lv1 := [(0, .ref 669), (1, .int v1)]) rfl rfl rfl fun x1 => ?_
  refine db_Rgo (pc' := 12) (lv' := [(0, .ref 669), (1, .int v1)]) (st' := [.long (Int32.toInt64 (x1 - (1 : Int32))), .long (0 : Int64), .long (Int32.toInt64 v1)]) 3 rfl ?_
  refine db_RcyB (mr' := dbm_269) (as := [.long (Int32.toInt64 v1), .long (0 : Int64), .long (Int32.toInt64 (x1 - (1 : Int32)))]) (rest := []) (pc' := 15) (lv1 := [(0, .ref 669), (1, .int v1)]) rfl rfl rfl rfl rfl (db_f269_ok) fun q2 => ?_
  exact db_RretB (lv1 := [(0, .ref 669), (1, .int v1)]) rfl rfl rfl rfl
/-- DreamBookModel.dream(II)I -/
noncomputable def db_f296 (s : db_S) (v1 : Int32) (v2 : Int32) : Option (Int32 × db_S) :=
  ((db_pI s 669 1 (0 : Int32)).bind fun s1 => ((db_pI s1 669 0 (0 : Int32)).bind fun s2 => ((db_f297 s2 v1).bind fun q3 => (cond q3 ((db_f269 s2 (Int32.toInt64 v2) (0 : Int64) (2 : Int64)).bind fun q5 => (cond q5 ((db_rI s2 674 (((127 : Int32) + ((8 : Int32) * v2)) + v1)).bind fun x9 => (some (x9, s2))) (db_bd (db_f281 s2 (5 : Int32)) fun q7 s8 => (some (q7, s8))))) (db_bd (db_f281 s2 (2 : Int32)) fun q10 s11 => (some (q10, s11)))))))
set_option maxRecDepth 100000 in
theorem db_f296_ok {X : db_X} {d : Nat} {s : db_S} {v1 : Int32} {v2 : Int32} : db_Rf X (d + 2) dbm_296 0 (lv_args 0 [.ref 669, .int v1, .int v2]) [] s db_zI (db_f296 s v1 v2) := by
  show db_Rf _ _ _ 0 [(0, .ref 669), (1, .int v1), (2, .int v2)] [] _ _ _
  unfold db_f296
  refine db_Rgo (pc' := 2) (lv' := [(0, .ref 669), (1, .int v1), (2, .int v2)]) (st' := [.int (0 : Int32), .ref 669]) 2 rfl ?_
  refine db_RpuI (pc' := 5) (lv1 := [(0, .ref 669), (1, .int v1), (2, .int v2)]) rfl rfl rfl rfl rfl rfl (by decide) rfl rfl fun s1 => ?_
  refine db_Rgo (pc' := 7) (lv' := [(0, .ref 669), (1, .int v1), (2, .int v2)]) (st' := [.int (0 : Int32), .ref 669]) 2 rfl ?_
  refine db_RpuI (pc' := 10) (lv1 := [(0, .ref 669), (1, .int v1), (2, .int v2)]) rfl rfl rfl rfl rfl rfl (by decide) rfl rfl fun s2 => ?_
  refine db_Rgo (pc' := 12) (lv' := [(0, .ref 669), (1, .int v1), (2, .int v2)]) (st' := [.int v1, .ref 669]) 2 rfl ?_
  refine db_RcyB (mr' := dbm_297) (as := [.ref 669, .int v1]) (rest := []) (pc' := 15) (lv1 := [(0, .ref 669), (1, .int v1), (2, .int v2)]) rfl rfl rfl rfl rfl (db_f297_ok) fun q3 => ?_
  refine db_RifBn (pc' := 18) (tg := 24) (lv1 := [(0, .ref 669), (1, .int v1), (2, .int v2)]) rfl rfl rfl rfl ?_ ?_
  · refine db_Rgo (pc' := 30) (lv' := [(0, .ref 669), (1, .int v1), (2, .int v2)]) (st' := [.long (2 : Int64), .long (0 : Int64), .long (Int32.toInt64 v2)]) 4 rfl ?_
    refine db_RcyB (mr' := dbm_269) (as := [.long (Int32.toInt64 v2), .long (0 : Int64), .long (2 : Int64)]) (rest := []) (pc' := 33) (lv1 := [(0, .ref 669), (1, .int v1), (2, .int v2)]) rfl rfl rfl rfl rfl (db_f269_ok) fun q5 => ?_
    refine db_RifBe (pc' := 36) (tg := 53) (lv1 := [(0, .ref 669), (1, .int v1), (2, .int v2)]) rfl rfl rfl rfl ?_ ?_
    · refine db_Rgo (pc' := 55) (lv' := [(0, .ref 669)]) (st' := [.int (5 : Int32), .ref 669]) 2 rfl ?_
      refine db_RcdI (mr' := dbm_281) (as := [.ref 669, .int (5 : Int32)]) (rest := []) (pc' := 58) (lv1 := [(0, .ref 669)]) rfl rfl rfl rfl rfl (db_f281_ok) fun q7 s8 => ?_
      exact db_Rret (lv1 := []) rfl rfl rfl rfl
    refine db_Rgo (pc' := 49) (lv' := [(0, .ref 669), (1, .int v1), (2, .int v2)]) (st' := [.int (((127 : Int32) + ((8 : Int32) * v2)) + v1), .ref 674]) 9 rfl ?_
    refine db_RldI (pc' := 50) (lv1 := [(0, .ref 669), (1, .int v1), (2, .int v2)]) rfl rfl rfl fun x9 => ?_
    refine db_Rgo (pc' := 58) (lv' := [(0, .ref 669), (1, .int v1), (2, .int v2)]) (st' := [.int x9]) 1 rfl ?_
    exact db_Rret (lv1 := []) rfl rfl rfl rfl
  refine db_Rgo (pc' := 20) (lv' := [(0, .ref 669), (1, .int v1), (2, .int v2)]) (st' := [.int (2 : Int32), .ref 669]) 2 rfl ?_
  refine db_RcdI (mr' := dbm_281) (as := [.ref 669, .int (2 : Int32)]) (rest := []) (pc' := 23) (lv1 := [(0, .ref 669), (1, .int v1), (2, .int v2)]) rfl rfl rfl rfl rfl (db_f281_ok) fun q10 s11 => ?_
  exact db_Rret (lv1 := [(0, .ref 669), (1, .int v1), (2, .int v2)]) rfl rfl rfl rfl
/-- DreamBook.dreamAt(II)I -/
noncomputable def db_f109 (s : db_S) (v1 : Int32) (v2 : Int32) : Option (Int32 × db_S) :=
  ((db_f103 s (5 : Int32) v1).bind fun q1 => (cond q1 ((db_rI s 59 v1).bind fun x3 => ((db_f27 s v2 (0 : Int32) (x3 - (1 : Int32))).bind fun q4 => (cond q4 ((db_rR 50 v1).bind fun y6 => ((db_rI s y6 v2).bind fun x7 => (db_bd (db_f87 s x7) fun q8 s9 => (some (q8, s9))))) (db_bd (db_f37 s (8 : Int32)) fun q10 s11 => (some (q10, s11)))))) (db_bd (db_f37 s (2 : Int32)) fun q12 s13 => (some (q12, s13)))))
set_option maxRecDepth 100000 in
theorem db_f109_ok {X : db_X} {d : Nat} {s : db_S} {v1 : Int32} {v2 : Int32} : db_Rf X (d + 1) dbm_109 0 (lv_args 0 [.ref 4, .int v1, .int v2]) [] s db_zI (db_f109 s v1 v2) := by
  show db_Rf _ _ _ 0 [(0, .ref 4), (1, .int v1), (2, .int v2)] [] _ _ _
  unfold db_f109
  refine db_Rgo (pc' := 3) (lv' := [(0, .ref 4), (1, .int v1), (2, .int v2)]) (st' := [.int v1, .int (5 : Int32), .ref 4]) 3 rfl ?_
  refine db_RcyB (mr' := dbm_103) (as := [.ref 4, .int (5 : Int32), .int v1]) (rest := []) (pc' := 6) (lv1 := [(0, .ref 4), (1, .int v1), (2, .int v2)]) rfl rfl rfl rfl rfl (db_f103_ok) fun q1 => ?_
  refine db_RifBn (pc' := 9) (tg := 15) (lv1 := [(0, .ref 4), (1, .int v1), (2, .int v2)]) rfl rfl rfl rfl ?_ ?_
  · refine db_Rgo (pc' := 25) (lv' := [(0, .ref 4), (1, .int v1), (2, .int v2)]) (st' := [.int v1, .ref 59, .int (0 : Int32), .int v2]) 6 rfl ?_
    refine db_RldI (pc' := 26) (lv1 := [(0, .ref 4), (1, .int v1), (2, .int v2)]) rfl rfl rfl fun x3 => ?_
    refine db_Rgo (pc' := 28) (lv' := [(0, .ref 4), (1, .int v1), (2, .int v2)]) (st' := [.int (x3 - (1 : Int32)), .int (0 : Int32), .int v2]) 2 rfl ?_
    refine db_RcyB (mr' := dbm_27) (as := [.int v2, .int (0 : Int32), .int (x3 - (1 : Int32))]) (rest := []) (pc' := 31) (lv1 := [(0, .ref 4), (1, .int v1), (2, .int v2)]) rfl rfl rfl rfl rfl (db_f27_ok) fun q4 => ?_
    refine db_RifBn (pc' := 34) (tg := 41) (lv1 := [(0, .ref 4), (1, .int v1), (2, .int v2)]) rfl rfl rfl rfl ?_ ?_
    · refine db_Rgo (pc' := 50) (lv' := [(0, .ref 4), (1, .int v1), (2, .int v2)]) (st' := [.int v1, .ref 50, .ref 4]) 5 rfl ?_
      refine db_RldR (pc' := 51) (lv1 := [(0, .ref 4), (1, .int v1), (2, .int v2)]) rfl rfl rfl fun y6 => ?_
      refine db_Rgo (pc' := 52) (lv' := [(0, .ref 4), (1, .int v1), (2, .int v2)]) (st' := [.int v2, .ref (y6 + 4), .ref 4]) 1 rfl ?_
      refine db_RldI (pc' := 53) (lv1 := [(0, .ref 4), (1, .int v1), (2, .int v2)]) rfl rfl rfl fun x7 => ?_
      refine db_RcdI (mr' := dbm_87) (as := [.ref 4, .int x7]) (rest := []) (pc' := 56) (lv1 := [(0, .ref 4), (1, .int v1), (2, .int v2)]) rfl rfl rfl rfl rfl (db_f87_ok) fun q8 s9 => ?_
      exact db_Rret (lv1 := [(0, .ref 4), (1, .int v1), (2, .int v2)]) rfl rfl rfl rfl
    refine db_Rgo (pc' := 37) (lv' := [(0, .ref 4), (1, .int v1), (2, .int v2)]) (st' := [.int (8 : Int32), .ref 4]) 2 rfl ?_
    refine db_RcdI (mr' := dbm_37) (as := [.ref 4, .int (8 : Int32)]) (rest := []) (pc' := 40) (lv1 := [(0, .ref 4), (1, .int v1), (2, .int v2)]) rfl rfl rfl rfl rfl (db_f37_ok) fun q10 s11 => ?_
    exact db_Rret (lv1 := [(0, .ref 4), (1, .int v1), (2, .int v2)]) rfl rfl rfl rfl
  refine db_Rgo (pc' := 11) (lv' := [(0, .ref 4), (1, .int v1), (2, .int v2)]) (st' := [.int (2 : Int32), .ref 4]) 2 rfl ?_
  refine db_RcdI (mr' := dbm_37) (as := [.ref 4, .int (2 : Int32)]) (rest := []) (pc' := 14) (lv1 := [(0, .ref 4), (1, .int v1), (2, .int v2)]) rfl rfl rfl rfl rfl (db_f37_ok) fun q12 s13 => ?_
  exact db_Rret (lv1 := [(0, .ref 4), (1, .int v1), (2, .int v2)]) rfl rfl rfl rfl
/-- DreamBookModel.thingOf(II)I -/
noncomputable def db_f299 (s : db_S) (v1 : Int32) (v2 : Int32) : Option Int32 :=
  ((db_rI s 674 (((151 : Int32) + ((6 : Int32) * v1)) + v2)).bind fun x1 => (some x1))
set_option maxRecDepth 100000 in
theorem db_f299_ok {X : db_X} {d : Nat} {s : db_S} {v1 : Int32} {v2 : Int32} : db_Rf X (d + 0) dbm_299 0 (lv_args 0 [.ref 669, .int v1, .int v2]) [] s (db_yI s) (db_f299 s v1 v2) := by
  show db_Rf _ _ _ 0 [(0, .ref 669), (1, .int v1), (2, .int v2)] [] _ _ _
  unfold db_f299
  refine db_Rgo (pc' := 14) (lv' := [(0, .ref 669), (1, .int v1), (2, .int v2)]) (st' := [.int (((151 : Int32) + ((6 : Int32) * v1)) + v2), .ref 674]) 9 rfl ?_
  refine db_RldI (pc' := 15) (lv1 := [(0, .ref 669), (1, .int v1), (2, .int v2)]) rfl rfl rfl fun x1 => ?_
  exact db_Rret (lv1 := [(0, .ref 669), (1, .int v1), (2, .int v2)]) rfl rfl rfl rfl
/-- DreamBookModel.dreamAt(II)I -/
noncomputable def db_f298 (s : db_S) (v1 : Int32) (v2 : Int32) : Option (Int32 × db_S) :=
  ((db_pI s 669 1 (0 : Int32)).bind fun s1 => ((db_pI s1 669 0 (0 : Int32)).bind fun s2 => ((db_f297 s2 v1).bind fun q3 => (cond q3 ((db_rI s2 674 ((127 : Int32) + v1)).bind fun x5 => ((db_f269 s2 (Int32.toInt64 v2) (0 : Int64) (Int32.toInt64 (x5 - (1 : Int32)))).bind fun q6 => (cond q6 ((db_f299 s2 v1 v2).bind fun q10 => (some (q10, s2))) (db_bd (db_f281 s2 (8 : Int32)) fun q8 s9 => (some (q8, s9)))))) (db_bd (db_f281 s2 (2 : Int32)) fun q12 s13 => (some (q12, s13)))))))
set_option maxRecDepth 100000 in
theorem db_f298_ok {X : db_X} {d : Nat} {s : db_S} {v1 : Int32} {v2 : Int32} : db_Rf X (d + 2) dbm_298 0 (lv_args 0 [.ref 669, .int v1, .int v2]) [] s db_zI (db_f298 s v1 v2) := by
  show db_Rf _ _ _ 0 [(0, .ref 669), (1, .int v1), (2, .int v2)] [] _ _ _
  unfold db_f298
  refine db_Rgo (pc' := 2) (lv' := [(0, .ref 669), (1, .int v1), (2, .int v2)]) (st' := [.int (0 : Int32), .ref 669]) 2 rfl ?_
  refine db_RpuI (pc' := 5) (lv1 := [(0, .ref 669), (1, .int v1), (2, .int v2)]) rfl rfl rfl rfl rfl rfl (by decide) rfl rfl fun s1 => ?_
  refine db_Rgo (pc' := 7) (lv' := [(0, .ref 669), (1, .int v1), (2, .int v2)]) (st' := [.int (0 : Int32), .ref 669]) 2 rfl ?_
  refine db_RpuI (pc' := 10) (lv1 := [(0, .ref 669), (1, .int v1), (2, .int v2)]) rfl rfl rfl rfl rfl rfl (by decide) rfl rfl fun s2 => ?_
  refine db_Rgo (pc' := 12) (lv' := [(0, .ref 669), (1, .int v1), (2, .int v2)]) (st' := [.int v1, .ref 669]) 2 rfl ?_
  refine db_RcyB (mr' := dbm_297) (as := [.ref 669, .int v1]) (rest := []) (pc' := 15) (lv1 := [(0, .ref 669), (1, .int v1), (2, .int v2)]) rfl rfl rfl rfl rfl (db_f297_ok) fun q3 => ?_
  refine db_RifBn (pc' := 18) (tg := 24) (lv1 := [(0, .ref 669), (1, .int v1), (2, .int v2)]) rfl rfl rfl rfl ?_ ?_
  · refine db_Rgo (pc' := 35) (lv' := [(0, .ref 669), (1, .int v1), (2, .int v2)]) (st' := [.int ((127 : Int32) + v1), .ref 674, .long (0 : Int64), .long (Int32.toInt64 v2)]) 8 rfl ?_
    refine db_RldI (pc' := 36) (lv1 := [(0, .ref 669), (1, .int v1), (2, .int v2)]) rfl rfl rfl fun x5 => ?_
    refine db_Rgo (pc' := 39) (lv' := [(0, .ref 669), (1, .int v1), (2, .int v2)]) (st' := [.long (Int32.toInt64 (x5 - (1 : Int32))), .long (0 : Int64), .long (Int32.toInt64 v2)]) 3 rfl ?_
    refine db_RcyB (mr' := dbm_269) (as := [.long (Int32.toInt64 v2), .long (0 : Int64), .long (Int32.toInt64 (x5 - (1 : Int32)))]) (rest := []) (pc' := 42) (lv1 := [(0, .ref 669), (1, .int v1), (2, .int v2)]) rfl rfl rfl rfl rfl (db_f269_ok) fun q6 => ?_
    refine db_RifBe (pc' := 45) (tg := 54) (lv1 := [(0, .ref 669), (1, .int v1), (2, .int v2)]) rfl rfl rfl rfl ?_ ?_
    · refine db_Rgo (pc' := 57) (lv' := [(0, .ref 669)]) (st' := [.int (8 : Int32), .ref 669]) 2 rfl ?_
      refine db_RcdI (mr' := dbm_281) (as := [.ref 669, .int (8 : Int32)]) (rest := []) (pc' := 60) (lv1 := [(0, .ref 669)]) rfl rfl rfl rfl rfl (db_f281_ok) fun q8 s9 => ?_
      exact db_Rret (lv1 := []) rfl rfl rfl rfl
    refine db_Rgo (pc' := 48) (lv' := [(0, .ref 669), (1, .int v1), (2, .int v2)]) (st' := [.int v2, .int v1, .ref 669]) 3 rfl ?_
    refine db_RcyI (mr' := dbm_299) (as := [.ref 669, .int v1, .int v2]) (rest := []) (pc' := 51) (lv1 := [(0, .ref 669), (1, .int v1), (2, .int v2)]) rfl rfl rfl rfl rfl (db_f299_ok) fun q10 => ?_
    refine db_Rgo (pc' := 60) (lv' := [(0, .ref 669), (1, .int v1), (2, .int v2)]) (st' := [.int q10]) 1 rfl ?_
    exact db_Rret (lv1 := []) rfl rfl rfl rfl
  refine db_Rgo (pc' := 20) (lv' := [(0, .ref 669), (1, .int v1), (2, .int v2)]) (st' := [.int (2 : Int32), .ref 669]) 2 rfl ?_
  refine db_RcdI (mr' := dbm_281) (as := [.ref 669, .int (2 : Int32)]) (rest := []) (pc' := 23) (lv1 := [(0, .ref 669), (1, .int v1), (2, .int v2)]) rfl rfl rfl rfl rfl (db_f281_ok) fun q12 s13 => ?_
  exact db_Rret (lv1 := [(0, .ref 669), (1, .int v1), (2, .int v2)]) rfl rfl rfl rfl
noncomputable def db_f110_b64 : Nat → db_S → Int32 → Int32 → Int32 → Option (Int32 × db_S)
  | 0, _, _, _, _ => none
  | n + 1, s, v1, v2, v4 =>
    ((db_rI s 59 v1).bind fun x1 => (cond (db_cnd .ge v4 x1) ((db_rI s 59 v1).bind fun x2 => (db_bd (db_f87 s x2) fun q3 s4 => (some (q3, s4)))) ((db_rR 50 v1).bind fun y5 => ((db_rI s y5 v4).bind fun x6 => ((db_f35 s v2 v4 (Int32.toInt64 x6)).bind fun s8 => (db_f110_b64 n s8 v1 v2 (v4 + (1 : Int32))))))))
set_option maxRecDepth 100000 in
theorem db_f110_b64_ok {X : db_X} {d : Nat}  (n : Nat) : ∀ (s : db_S) (v1 : Int32) (v2 : Int32) (v4 : Int32), db_Rf X (d + 3) dbm_110 64 [(0, .ref 4), (1, .int v1), (2, .int v2), (4, .int v4)] [] s db_zI (db_f110_b64 n s v1 v2 v4) := by
  induction n with
  | zero => intros; exact db_Rnone
  | succ n ih =>
    intro s v1 v2 v4
    unfold db_f110_b64
    refine db_Rgo (pc' := 74) (lv' := [(0, .ref 4), (1, .int v1), (2, .int v2), (4, .int v4)]) (st' := [.int v1, .ref 59, .int v4]) 5 rfl ?_
    refine db_RldI (pc' := 75) (lv1 := [(0, .ref 4), (1, .int v1), (2, .int v2), (4, .int v4)]) rfl rfl rfl fun x1 => ?_
    refine db_Ric (pc' := 78) (tg := 107) (lv1 := [(0, .ref 4), (1, .int v1), (2, .int v2), (4, .int v4)]) rfl rfl rfl rfl ?_ ?_
    · refine db_Rgo (pc' := 116) (lv' := [(0, .ref 4), (1, .int v1)]) (st' := [.int v1, .ref 59, .ref 4]) 5 rfl ?_
      refine db_RldI (pc' := 117) (lv1 := [(0, .ref 4), (1, .int v1)]) rfl rfl rfl fun x2 => ?_
      refine db_RcdI (mr' := dbm_87) (as := [.ref 4, .int x2]) (rest := []) (pc' := 120) (lv1 := [(0, .ref 4), (1, .int v1)]) rfl rfl rfl rfl rfl (db_f87_ok) fun q3 s4 => ?_
      exact db_Rret (lv1 := [(0, .ref 4), (1, .int v1)]) rfl rfl rfl rfl
    refine db_Rgo (pc' := 93) (lv' := [(0, .ref 4), (1, .int v1), (2, .int v2), (4, .int v4)]) (st' := [.int v1, .ref 50, .int v4, .int v2, .ref 5]) 8 rfl ?_
    refine db_RldR (pc' := 94) (lv1 := [(0, .ref 4), (1, .int v1), (2, .int v2), (4, .int v4)]) rfl rfl rfl fun y5 => ?_
    refine db_Rgo (pc' := 96) (lv' := [(0, .ref 4), (1, .int v1), (2, .int v2), (4, .int v4)]) (st' := [.int v4, .ref (y5 + 4), .int v4, .int v2, .ref 5]) 1 rfl ?_
    refine db_RldI (pc' := 97) (lv1 := [(0, .ref 4), (1, .int v1), (2, .int v2), (4, .int v4)]) rfl rfl rfl fun x6 => ?_
    refine db_Rgo (pc' := 98) (lv' := [(0, .ref 4), (1, .int v1), (2, .int v2), (4, .int v4)]) (st' := [.long (Int32.toInt64 x6), .int v4, .int v2, .ref 5]) 1 rfl ?_
    refine db_RcV (mr' := dbm_35) (as := [.ref 5, .int v2, .int v4, .long (Int32.toInt64 x6)]) (rest := []) (pc' := 101) (lv1 := [(0, .ref 4), (1, .int v1), (2, .int v2), (4, .int v4)]) rfl rfl rfl rfl rfl (db_f35_ok) fun s8 => ?_
    refine db_Rgo (pc' := 64) (lv' := [(4, .int (v4 + (1 : Int32))), (0, .ref 4), (1, .int v1), (2, .int v2)]) (st' := []) 2 rfl ?_
    refine db_Rn (lv1 := [(0, .ref 4), (1, .int v1), (2, .int v2), (4, .int (v4 + (1 : Int32)))]) rfl rfl rfl ?_
    exact ih _ _ _ _
noncomputable def db_f110_b51 (s : db_S) (v1 : Int32) (v2 : Int32) (v3 : Int32) : Option (Int32 × db_S) :=
  (cond (db_cnd .eq v3 0) (db_f110_b64 db_FU s v1 v2 (0 : Int32)) (db_bd (db_f37 s v3) fun q1 s2 => (some (q1, s2))))
set_option maxRecDepth 100000 in
theorem db_f110_b51_ok {X : db_X} {d : Nat}  {s : db_S} {v1 : Int32} {v2 : Int32} {v3 : Int32} : db_Rf X (d + 3) dbm_110 51 [(0, .ref 4), (1, .int v1), (2, .int v2), (3, .int v3)] [] s db_zI (db_f110_b51 s v1 v2 v3) := by
  unfold db_f110_b51
  refine db_Rgo (pc' := 52) (lv' := [(0, .ref 4), (1, .int v1), (2, .int v2), (3, .int v3)]) (st' := [.int v3]) 1 rfl ?_
  refine db_Rif (pc' := 55) (tg := 61) (lv1 := [(0, .ref 4), (1, .int v1), (2, .int v2), (3, .int v3)]) rfl rfl rfl rfl ?_ ?_
  · refine db_Rgo (pc' := 64) (lv' := [(4, .int (0 : Int32)), (0, .ref 4), (1, .int v1), (2, .int v2)]) (st' := []) 2 rfl ?_
    refine db_Rn (lv1 := [(0, .ref 4), (1, .int v1), (2, .int v2), (4, .int (0 : Int32))]) rfl rfl rfl ?_
    exact db_f110_b64_ok db_FU _ _ _ _
  refine db_Rgo (pc' := 57) (lv' := [(0, .ref 4), (1, .int v1), (2, .int v2), (3, .int v3)]) (st' := [.int v3, .ref 4]) 2 rfl ?_
  refine db_RcdI (mr' := dbm_37) (as := [.ref 4, .int v3]) (rest := []) (pc' := 60) (lv1 := [(0, .ref 4), (1, .int v1), (2, .int v2), (3, .int v3)]) rfl rfl rfl rfl rfl (db_f37_ok) fun q1 s2 => ?_
  exact db_Rret (lv1 := [(0, .ref 4), (1, .int v1), (2, .int v2), (3, .int v3)]) rfl rfl rfl rfl
noncomputable def db_f110_b24 (s : db_S) (v1 : Int32) (v2 : Int32) (v3 : Int32) : Option (Int32 × db_S) :=
  (cond (db_cnd .ne v3 0) (db_f110_b51 s v1 v2 v3) ((db_rI s 59 v1).bind fun x1 => ((db_rI s 12 v2).bind fun x2 => (cond (db_cnd .le x1 x2) (db_f110_b51 s v1 v2 v3) (db_f110_b51 s v1 v2 (4 : Int32))))))
set_option maxRecDepth 100000 in
theorem db_f110_b24_ok {X : db_X} {d : Nat}  {s : db_S} {v1 : Int32} {v2 : Int32} {v3 : Int32} : db_Rf X (d + 3) dbm_110 24 [(0, .ref 4), (1, .int v1), (2, .int v2), (3, .int v3)] [] s db_zI (db_f110_b24 s v1 v2 v3) := by
  unfold db_f110_b24
  refine db_Rgo (pc' := 25) (lv' := [(0, .ref 4), (1, .int v1), (2, .int v2), (3, .int v3)]) (st' := [.int v3]) 1 rfl ?_
  refine db_Rif (pc' := 28) (tg := 51) (lv1 := [(0, .ref 4), (1, .int v1), (2, .int v2), (3, .int v3)]) rfl rfl rfl rfl ?_ ?_
  · exact db_f110_b51_ok
  refine db_Rgo (pc' := 36) (lv' := [(0, .ref 4), (1, .int v1), (2, .int v2), (3, .int v3)]) (st' := [.int v1, .ref 59]) 4 rfl ?_
  refine db_RldI (pc' := 37) (lv1 := [(0, .ref 4), (1, .int v1), (2, .int v2), (3, .int v3)]) rfl rfl rfl fun x1 => ?_
  refine db_Rgo (pc' := 45) (lv' := [(0, .ref 4), (1, .int v1), (2, .int v2), (3, .int v3)]) (st' := [.int v2, .ref 12, .int x1]) 4 rfl ?_
  refine db_RldI (pc' := 46) (lv1 := [(0, .ref 4), (1, .int v1), (2, .int v2), (3, .int v3)]) rfl rfl rfl fun x2 => ?_
  refine db_Ric (pc' := 49) (tg := 51) (lv1 := [(0, .ref 4), (1, .int v1), (2, .int v2), (3, .int v3)]) rfl rfl rfl rfl ?_ ?_
  · exact db_f110_b51_ok
  refine db_Rgo (pc' := 51) (lv' := [(3, .int (4 : Int32)), (0, .ref 4), (1, .int v1), (2, .int v2)]) (st' := []) 2 rfl ?_
  refine db_Rn (lv1 := [(0, .ref 4), (1, .int v1), (2, .int v2), (3, .int (4 : Int32))]) rfl rfl rfl ?_
  exact db_f110_b51_ok
/-- DreamBook.copyDream(II)I -/
noncomputable def db_f110 (s : db_S) (v1 : Int32) (v2 : Int32) : Option (Int32 × db_S) :=
  ((db_f33 s v2).bind fun q1 => (cond (db_cnd .ne q1 0) (db_f110_b24 s v1 v2 q1) ((db_f103 s (5 : Int32) v1).bind fun q3 => (cond q3 (db_f110_b24 s v1 v2 q1) (db_f110_b24 s v1 v2 (2 : Int32))))))
set_option maxRecDepth 100000 in
theorem db_f110_ok {X : db_X} {d : Nat} {s : db_S} {v1 : Int32} {v2 : Int32} : db_Rf X (d + 3) dbm_110 0 (lv_args 0 [.ref 4, .int v1, .int v2]) [] s db_zI (db_f110 s v1 v2) := by
  show db_Rf _ _ _ 0 [(0, .ref 4), (1, .int v1), (2, .int v2)] [] _ _ _
  unfold db_f110
  refine db_Rgo (pc' := 5) (lv' := [(0, .ref 4), (1, .int v1), (2, .int v2)]) (st' := [.int v2, .ref 5]) 3 rfl ?_
  refine db_RcyI (mr' := dbm_33) (as := [.ref 5, .int v2]) (rest := []) (pc' := 8) (lv1 := [(0, .ref 4), (1, .int v1), (2, .int v2)]) rfl rfl rfl rfl rfl (db_f33_ok) fun q1 => ?_
  refine db_Rgo (pc' := 10) (lv' := [(3, .int q1), (0, .ref 4), (1, .int v1), (2, .int v2)]) (st' := [.int q1]) 2 rfl ?_
  refine db_Rif (pc' := 13) (tg := 24) (lv1 := [(3, .int q1), (0, .ref 4), (1, .int v1), (2, .int v2)]) rfl rfl rfl rfl ?_ ?_
  · refine db_Rn (lv1 := [(0, .ref 4), (1, .int v1), (2, .int v2), (3, .int q1)]) rfl rfl rfl ?_
    exact db_f110_b24_ok
  refine db_Rgo (pc' := 16) (lv' := [(3, .int q1), (0, .ref 4), (1, .int v1), (2, .int v2)]) (st' := [.int v1, .int (5 : Int32), .ref 4]) 3 rfl ?_
  refine db_RcyB (mr' := dbm_103) (as := [.ref 4, .int (5 : Int32), .int v1]) (rest := []) (pc' := 19) (lv1 := [(3, .int q1), (0, .ref 4), (1, .int v1), (2, .int v2)]) rfl rfl rfl rfl rfl (db_f103_ok) fun q3 => ?_
  refine db_RifBn (pc' := 22) (tg := 24) (lv1 := [(3, .int q1), (0, .ref 4), (1, .int v1), (2, .int v2)]) rfl rfl rfl rfl ?_ ?_
  · refine db_Rn (lv1 := [(0, .ref 4), (1, .int v1), (2, .int v2), (3, .int q1)]) rfl rfl rfl ?_
    exact db_f110_b24_ok
  refine db_Rgo (pc' := 24) (lv' := [(3, .int (2 : Int32)), (0, .ref 4), (1, .int v1), (2, .int v2)]) (st' := []) 2 rfl ?_
  refine db_Rn (lv1 := [(0, .ref 4), (1, .int v1), (2, .int v2), (3, .int (2 : Int32))]) rfl rfl rfl ?_
  exact db_f110_b24_ok
