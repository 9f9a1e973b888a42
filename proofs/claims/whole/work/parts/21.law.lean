noncomputable def db_law_b2023 (X : db_X) (h18 : db_S → Int32 → Option (Bool × db_S)) (s : db_S) (v3 : Int32) : Option (Bool × db_S) :=
  (h18 s (v3 + (6 : Int32)))
set_option maxRecDepth 100000 in
set_option maxHeartbeats 8000000 in
theorem db_law_b2023_ok {X : db_X} {d : Nat}  {h18 : db_S → Int32 → Option (Bool × db_S)} {s : db_S} {v3 : Int32} (zh18 : ∀ (s' : db_S) (v3 : Int32) , db_Rf X (d + 36) dbm_378 18 [(0, .ref 0), (1, .ref 4), (2, .ref 669), (3, .int v3)] [] s' db_zB (h18 s' v3)) : db_Rf X (d + 36) dbm_378 2023 [(0, .ref 0), (1, .ref 4), (2, .ref 669), (3, .int v3)] [] s db_zB (db_law_b2023 X h18 s v3) := by
  unfold db_law_b2023
  refine db_Rgo (pc' := 18) (lv' := [(3, .int (v3 + (6 : Int32))), (0, .ref 0), (1, .ref 4), (2, .ref 669)]) (st' := []) 2 rfl ?_
  refine db_Rn (lv1 := [(0, .ref 0), (1, .ref 4), (2, .ref 669), (3, .int (v3 + (6 : Int32)))]) rfl rfl rfl ?_
  exact zh18 _ _
noncomputable def db_law_b272 (X : db_X) (h18 : db_S → Int32 → Option (Bool × db_S)) (s : db_S) (v3 : Int32) : Option (Bool × db_S) :=
  ((db_f22 s).bind fun q1 => (db_bd (db_f207 s) fun q3 s4 => (cond (db_cnd .eq q1 q3) (db_law_b2023 X h18 s4 v3) (some (false, s4)))))
set_option maxRecDepth 100000 in
set_option maxHeartbeats 8000000 in
theorem db_law_b272_ok {X : db_X} {d : Nat}  {h18 : db_S → Int32 → Option (Bool × db_S)} {s : db_S} {v3 : Int32} (zh18 : ∀ (s' : db_S) (v3 : Int32) , db_Rf X (d + 36) dbm_378 18 [(0, .ref 0), (1, .ref 4), (2, .ref 669), (3, .int v3)] [] s' db_zB (h18 s' v3)) : db_Rf X (d + 36) dbm_378 272 [(0, .ref 0), (1, .ref 4), (2, .ref 669), (3, .int v3)] [] s db_zB (db_law_b272 X h18 s v3) := by
  unfold db_law_b272
  refine db_Rgo (pc' := 273) (lv' := [(0, .ref 0), (1, .ref 4), (2, .ref 669), (3, .int v3)]) (st' := [.ref 4]) 1 rfl ?_
  refine db_RcyI (mr' := dbm_22) (as := [.ref 4]) (rest := []) (pc' := 276) (lv1 := [(0, .ref 0), (1, .ref 4), (2, .ref 669), (3, .int v3)]) rfl rfl rfl rfl rfl (db_f22_ok) fun q1 => ?_
  refine db_Rgo (pc' := 277) (lv' := [(0, .ref 0), (1, .ref 4), (2, .ref 669), (3, .int v3)]) (st' := [.ref 669, .int q1]) 1 rfl ?_
  refine db_RcdI (mr' := dbm_207) (as := [.ref 669]) (rest := [.int q1]) (pc' := 280) (lv1 := [(0, .ref 0), (1, .ref 4), (2, .ref 669), (3, .int v3)]) rfl rfl rfl rfl rfl (db_f207_ok) fun q3 s4 => ?_
  refine db_Ric (pc' := 283) (tg := 2023) (lv1 := [(0, .ref 0), (1, .ref 4), (2, .ref 669), (3, .int v3)]) rfl rfl rfl rfl ?_ ?_
  · exact db_law_b2023_ok zh18
  refine db_Rgo (pc' := 284) (lv' := [(0, .ref 0), (1, .ref 4), (2, .ref 669), (3, .int v3)]) (st' := [.int (0 : Int32)]) 1 rfl ?_
  exact db_Rret (lv1 := [(0, .ref 0), (1, .ref 4), (2, .ref 669), (3, .int v3)]) rfl rfl rfl rfl
noncomputable def db_law_b285 (X : db_X) (h18 : db_S → Int32 → Option (Bool × db_S)) (s : db_S) (v3 : Int32) : Option (Bool × db_S) :=
  ((db_f23 s).bind fun q1 => (db_bd (db_f208 s) fun q3 s4 => (cond (db_cnd .eq (lg_cmp q1 q3) 0) (db_law_b2023 X h18 s4 v3) (some (false, s4)))))
set_option maxRecDepth 100000 in
set_option maxHeartbeats 8000000 in
theorem db_law_b285_ok {X : db_X} {d : Nat}  {h18 : db_S → Int32 → Option (Bool × db_S)} {s : db_S} {v3 : Int32} (zh18 : ∀ (s' : db_S) (v3 : Int32) , db_Rf X (d + 36) dbm_378 18 [(0, .ref 0), (1, .ref 4), (2, .ref 669), (3, .int v3)] [] s' db_zB (h18 s' v3)) : db_Rf X (d + 36) dbm_378 285 [(0, .ref 0), (1, .ref 4), (2, .ref 669), (3, .int v3)] [] s db_zB (db_law_b285 X h18 s v3) := by
  unfold db_law_b285
  refine db_Rgo (pc' := 286) (lv' := [(0, .ref 0), (1, .ref 4), (2, .ref 669), (3, .int v3)]) (st' := [.ref 4]) 1 rfl ?_
  refine db_RcyL (mr' := dbm_23) (as := [.ref 4]) (rest := []) (pc' := 289) (lv1 := [(0, .ref 0), (1, .ref 4), (2, .ref 669), (3, .int v3)]) rfl rfl rfl rfl rfl (db_f23_ok) fun q1 => ?_
  refine db_Rgo (pc' := 290) (lv' := [(0, .ref 0), (1, .ref 4), (2, .ref 669), (3, .int v3)]) (st' := [.ref 669, .long q1]) 1 rfl ?_
  refine db_RcdL (mr' := dbm_208) (as := [.ref 669]) (rest := [.long q1]) (pc' := 293) (lv1 := [(0, .ref 0), (1, .ref 4), (2, .ref 669), (3, .int v3)]) rfl rfl rfl rfl rfl (db_f208_ok) fun q3 s4 => ?_
  refine db_Rgo (pc' := 294) (lv' := [(0, .ref 0), (1, .ref 4), (2, .ref 669), (3, .int v3)]) (st' := [.int (lg_cmp q1 q3)]) 1 rfl ?_
  refine db_Rif (pc' := 297) (tg := 2023) (lv1 := [(0, .ref 0), (1, .ref 4), (2, .ref 669), (3, .int v3)]) rfl rfl rfl rfl ?_ ?_
  · exact db_law_b2023_ok zh18
  refine db_Rgo (pc' := 298) (lv' := [(0, .ref 0), (1, .ref 4), (2, .ref 669), (3, .int v3)]) (st' := [.int (0 : Int32)]) 1 rfl ?_
  exact db_Rret (lv1 := [(0, .ref 0), (1, .ref 4), (2, .ref 669), (3, .int v3)]) rfl rfl rfl rfl
noncomputable def db_law_b299 (X : db_X) (h18 : db_S → Int32 → Option (Bool × db_S)) (s : db_S) (v3 : Int32) : Option (Bool × db_S) :=
  ((db_f24 s).bind fun q1 => (db_bd (db_f209 s) fun q3 s4 => (cond (db_cnd .eq (lg_cmp q1 q3) 0) (db_law_b2023 X h18 s4 v3) (some (false, s4)))))
set_option maxRecDepth 100000 in
set_option maxHeartbeats 8000000 in
theorem db_law_b299_ok {X : db_X} {d : Nat}  {h18 : db_S → Int32 → Option (Bool × db_S)} {s : db_S} {v3 : Int32} (zh18 : ∀ (s' : db_S) (v3 : Int32) , db_Rf X (d + 36) dbm_378 18 [(0, .ref 0), (1, .ref 4), (2, .ref 669), (3, .int v3)] [] s' db_zB (h18 s' v3)) : db_Rf X (d + 36) dbm_378 299 [(0, .ref 0), (1, .ref 4), (2, .ref 669), (3, .int v3)] [] s db_zB (db_law_b299 X h18 s v3) := by
  unfold db_law_b299
  refine db_Rgo (pc' := 300) (lv' := [(0, .ref 0), (1, .ref 4), (2, .ref 669), (3, .int v3)]) (st' := [.ref 4]) 1 rfl ?_
  refine db_RcyL (mr' := dbm_24) (as := [.ref 4]) (rest := []) (pc' := 303) (lv1 := [(0, .ref 0), (1, .ref 4), (2, .ref 669), (3, .int v3)]) rfl rfl rfl rfl rfl (db_f24_ok) fun q1 => ?_
  refine db_Rgo (pc' := 304) (lv' := [(0, .ref 0), (1, .ref 4), (2, .ref 669), (3, .int v3)]) (st' := [.ref 669, .long q1]) 1 rfl ?_
  refine db_RcdL (mr' := dbm_209) (as := [.ref 669]) (rest := [.long q1]) (pc' := 307) (lv1 := [(0, .ref 0), (1, .ref 4), (2, .ref 669), (3, .int v3)]) rfl rfl rfl rfl rfl (db_f209_ok) fun q3 s4 => ?_
  refine db_Rgo (pc' := 308) (lv' := [(0, .ref 0), (1, .ref 4), (2, .ref 669), (3, .int v3)]) (st' := [.int (lg_cmp q1 q3)]) 1 rfl ?_
  refine db_Rif (pc' := 311) (tg := 2023) (lv1 := [(0, .ref 0), (1, .ref 4), (2, .ref 669), (3, .int v3)]) rfl rfl rfl rfl ?_ ?_
  · exact db_law_b2023_ok zh18
  refine db_Rgo (pc' := 312) (lv' := [(0, .ref 0), (1, .ref 4), (2, .ref 669), (3, .int v3)]) (st' := [.int (0 : Int32)]) 1 rfl ?_
  exact db_Rret (lv1 := [(0, .ref 0), (1, .ref 4), (2, .ref 669), (3, .int v3)]) rfl rfl rfl rfl
noncomputable def db_law_b313 (X : db_X) (h18 : db_S → Int32 → Option (Bool × db_S)) (s : db_S) (v3 : Int32) : Option (Bool × db_S) :=
  ((db_xX X (v3 + (1 : Int32))).bind fun x1 => ((db_xX X (v3 + (2 : Int32))).bind fun x2 => ((db_xX X (v3 + (3 : Int32))).bind fun x3 => (db_bd (db_f25 s x1 x2 x3) fun q4 s5 => ((db_xX X (v3 + (1 : Int32))).bind fun x6 => ((db_xX X (v3 + (2 : Int32))).bind fun x7 => ((db_xX X (v3 + (3 : Int32))).bind fun x8 => (db_bd (db_f210 s5 x6 x7 x8) fun q9 s10 => (cond (db_cnd .eq (db_i q4) (db_i q9)) (db_law_b2023 X h18 s10 v3) (some (false, s10)))))))))))
set_option maxRecDepth 100000 in
set_option maxHeartbeats 8000000 in
theorem db_law_b313_ok {X : db_X} {d : Nat}  {h18 : db_S → Int32 → Option (Bool × db_S)} {s : db_S} {v3 : Int32} (zh18 : ∀ (s' : db_S) (v3 : Int32) , db_Rf X (d + 36) dbm_378 18 [(0, .ref 0), (1, .ref 4), (2, .ref 669), (3, .int v3)] [] s' db_zB (h18 s' v3)) : db_Rf X (d + 36) dbm_378 313 [(0, .ref 0), (1, .ref 4), (2, .ref 669), (3, .int v3)] [] s db_zB (db_law_b313 X h18 s v3) := by
  unfold db_law_b313
  refine db_Rgo (pc' := 318) (lv' := [(0, .ref 0), (1, .ref 4), (2, .ref 669), (3, .int v3)]) (st' := [.int (v3 + (1 : Int32)), .ref 0, .ref 4]) 5 rfl ?_
  refine db_RldX (pc' := 319) (lv1 := [(0, .ref 0), (1, .ref 4), (2, .ref 669), (3, .int v3)]) rfl rfl rfl fun x1 => ?_
  refine db_Rgo (pc' := 323) (lv' := [(0, .ref 0), (1, .ref 4), (2, .ref 669), (3, .int v3)]) (st' := [.int (v3 + (2 : Int32)), .ref 0, .int x1, .ref 4]) 4 rfl ?_
  refine db_RldX (pc' := 324) (lv1 := [(0, .ref 0), (1, .ref 4), (2, .ref 669), (3, .int v3)]) rfl rfl rfl fun x2 => ?_
  refine db_Rgo (pc' := 328) (lv' := [(0, .ref 0), (1, .ref 4), (2, .ref 669), (3, .int v3)]) (st' := [.int (v3 + (3 : Int32)), .ref 0, .int x2, .int x1, .ref 4]) 4 rfl ?_
  refine db_RldX (pc' := 329) (lv1 := [(0, .ref 0), (1, .ref 4), (2, .ref 669), (3, .int v3)]) rfl rfl rfl fun x3 => ?_
  refine db_RcdB (mr' := dbm_25) (as := [.ref 4, .int x1, .int x2, .int x3]) (rest := []) (pc' := 332) (lv1 := [(0, .ref 0), (1, .ref 4), (2, .ref 669), (3, .int v3)]) rfl rfl rfl rfl rfl (db_f25_ok) fun q4 s5 => ?_
  refine db_Rgo (pc' := 337) (lv' := [(0, .ref 0), (1, .ref 4), (2, .ref 669), (3, .int v3)]) (st' := [.int (v3 + (1 : Int32)), .ref 0, .ref 669, .int (db_i q4)]) 5 rfl ?_
  refine db_RldX (pc' := 338) (lv1 := [(0, .ref 0), (1, .ref 4), (2, .ref 669), (3, .int v3)]) rfl rfl rfl fun x6 => ?_
  refine db_Rgo (pc' := 342) (lv' := [(0, .ref 0), (1, .ref 4), (2, .ref 669), (3, .int v3)]) (st' := [.int (v3 + (2 : Int32)), .ref 0, .int x6, .ref 669, .int (db_i q4)]) 4 rfl ?_
  refine db_RldX (pc' := 343) (lv1 := [(0, .ref 0), (1, .ref 4), (2, .ref 669), (3, .int v3)]) rfl rfl rfl fun x7 => ?_
  refine db_Rgo (pc' := 347) (lv' := [(0, .ref 0), (1, .ref 4), (2, .ref 669), (3, .int v3)]) (st' := [.int (v3 + (3 : Int32)), .ref 0, .int x7, .int x6, .ref 669, .int (db_i q4)]) 4 rfl ?_
  refine db_RldX (pc' := 348) (lv1 := [(0, .ref 0), (1, .ref 4), (2, .ref 669), (3, .int v3)]) rfl rfl rfl fun x8 => ?_
  refine db_RcdB (mr' := dbm_210) (as := [.ref 669, .int x6, .int x7, .int x8]) (rest := [.int (db_i q4)]) (pc' := 351) (lv1 := [(0, .ref 0), (1, .ref 4), (2, .ref 669), (3, .int v3)]) rfl rfl rfl rfl rfl (db_f210_ok) fun q9 s10 => ?_
  refine db_Ric (pc' := 354) (tg := 2023) (lv1 := [(0, .ref 0), (1, .ref 4), (2, .ref 669), (3, .int v3)]) rfl rfl rfl rfl ?_ ?_
  · exact db_law_b2023_ok zh18
  refine db_Rgo (pc' := 355) (lv' := [(0, .ref 0), (1, .ref 4), (2, .ref 669), (3, .int v3)]) (st' := [.int (0 : Int32)]) 1 rfl ?_
  exact db_Rret (lv1 := [(0, .ref 0), (1, .ref 4), (2, .ref 669), (3, .int v3)]) rfl rfl rfl rfl
noncomputable def db_law_b356 (X : db_X) (h18 : db_S → Int32 → Option (Bool × db_S)) (s : db_S) (v3 : Int32) : Option (Bool × db_S) :=
  ((db_xX X (v3 + (1 : Int32))).bind fun x1 => ((db_xX X (v3 + (2 : Int32))).bind fun x2 => ((db_xX X (v3 + (3 : Int32))).bind fun x3 => ((db_xX X (v3 + (4 : Int32))).bind fun x4 => (db_bd (db_f32 s x1 x2 (((Int32.toInt64 x3) <<< (Int32.toInt64 (32 : Int32) &&& 63)) ||| ((Int32.toInt64 x4) &&& (4294967295 : Int64)))) fun q5 s6 => ((db_xX X (v3 + (1 : Int32))).bind fun x7 => ((db_xX X (v3 + (2 : Int32))).bind fun x8 => ((db_xX X (v3 + (3 : Int32))).bind fun x9 => ((db_xX X (v3 + (4 : Int32))).bind fun x10 => (db_bd (db_f212 s6 x7 x8 (((Int32.toInt64 x9) <<< (Int32.toInt64 (32 : Int32) &&& 63)) ||| ((Int32.toInt64 x10) &&& (4294967295 : Int64)))) fun q11 s12 => (cond (db_cnd .eq (db_i q5) (db_i q11)) (db_law_b2023 X h18 s12 v3) (some (false, s12)))))))))))))
set_option maxRecDepth 100000 in
set_option maxHeartbeats 8000000 in
theorem db_law_b356_ok {X : db_X} {d : Nat}  {h18 : db_S → Int32 → Option (Bool × db_S)} {s : db_S} {v3 : Int32} (zh18 : ∀ (s' : db_S) (v3 : Int32) , db_Rf X (d + 36) dbm_378 18 [(0, .ref 0), (1, .ref 4), (2, .ref 669), (3, .int v3)] [] s' db_zB (h18 s' v3)) : db_Rf X (d + 36) dbm_378 356 [(0, .ref 0), (1, .ref 4), (2, .ref 669), (3, .int v3)] [] s db_zB (db_law_b356 X h18 s v3) := by
  unfold db_law_b356
  refine db_Rgo (pc' := 361) (lv' := [(0, .ref 0), (1, .ref 4), (2, .ref 669), (3, .int v3)]) (st' := [.int (v3 + (1 : Int32)), .ref 0, .ref 4]) 5 rfl ?_
  refine db_RldX (pc' := 362) (lv1 := [(0, .ref 0), (1, .ref 4), (2, .ref 669), (3, .int v3)]) rfl rfl rfl fun x1 => ?_
  refine db_Rgo (pc' := 366) (lv' := [(0, .ref 0), (1, .ref 4), (2, .ref 669), (3, .int v3)]) (st' := [.int (v3 + (2 : Int32)), .ref 0, .int x1, .ref 4]) 4 rfl ?_
  refine db_RldX (pc' := 367) (lv1 := [(0, .ref 0), (1, .ref 4), (2, .ref 669), (3, .int v3)]) rfl rfl rfl fun x2 => ?_
  refine db_Rgo (pc' := 371) (lv' := [(0, .ref 0), (1, .ref 4), (2, .ref 669), (3, .int v3)]) (st' := [.int (v3 + (3 : Int32)), .ref 0, .int x2, .int x1, .ref 4]) 4 rfl ?_
  refine db_RldX (pc' := 372) (lv1 := [(0, .ref 0), (1, .ref 4), (2, .ref 669), (3, .int v3)]) rfl rfl rfl fun x3 => ?_
  refine db_Rgo (pc' := 380) (lv' := [(0, .ref 0), (1, .ref 4), (2, .ref 669), (3, .int v3)]) (st' := [.int (v3 + (4 : Int32)), .ref 0, .long ((Int32.toInt64 x3) <<< (Int32.toInt64 (32 : Int32) &&& 63)), .int x2, .int x1, .ref 4]) 7 rfl ?_
  refine db_RldX (pc' := 381) (lv1 := [(0, .ref 0), (1, .ref 4), (2, .ref 669), (3, .int v3)]) rfl rfl rfl fun x4 => ?_
  refine db_Rgo (pc' := 387) (lv' := [(0, .ref 0), (1, .ref 4), (2, .ref 669), (3, .int v3)]) (st' := [.long (((Int32.toInt64 x3) <<< (Int32.toInt64 (32 : Int32) &&& 63)) ||| ((Int32.toInt64 x4) &&& (4294967295 : Int64))), .int x2, .int x1, .ref 4]) 4 rfl ?_
  refine db_RcdB (mr' := dbm_32) (as := [.ref 4, .int x1, .int x2, .long (((Int32.toInt64 x3) <<< (Int32.toInt64 (32 : Int32) &&& 63)) ||| ((Int32.toInt64 x4) &&& (4294967295 : Int64)))]) (rest := []) (pc' := 390) (lv1 := [(0, .ref 0), (1, .ref 4), (2, .ref 669), (3, .int v3)]) rfl rfl rfl rfl rfl (db_f32_ok) fun q5 s6 => ?_
  refine db_Rgo (pc' := 395) (lv' := [(0, .ref 0), (1, .ref 4), (2, .ref 669), (3, .int v3)]) (st' := [.int (v3 + (1 : Int32)), .ref 0, .ref 669, .int (db_i q5)]) 5 rfl ?_
  refine db_RldX (pc' := 396) (lv1 := [(0, .ref 0), (1, .ref 4), (2, .ref 669), (3, .int v3)]) rfl rfl rfl fun x7 => ?_
  refine db_Rgo (pc' := 400) (lv' := [(0, .ref 0), (1, .ref 4), (2, .ref 669), (3, .int v3)]) (st' := [.int (v3 + (2 : Int32)), .ref 0, .int x7, .ref 669, .int (db_i q5)]) 4 rfl ?_
  refine db_RldX (pc' := 401) (lv1 := [(0, .ref 0), (1, .ref 4), (2, .ref 669), (3, .int v3)]) rfl rfl rfl fun x8 => ?_
  refine db_Rgo (pc' := 405) (lv' := [(0, .ref 0), (1, .ref 4), (2, .ref 669), (3, .int v3)]) (st' := [.int (v3 + (3 : Int32)), .ref 0, .int x8, .int x7, .ref 669, .int (db_i q5)]) 4 rfl ?_
  refine db_RldX (pc' := 406) (lv1 := [(0, .ref 0), (1, .ref 4), (2, .ref 669), (3, .int v3)]) rfl rfl rfl fun x9 => ?_
  refine db_Rgo (pc' := 414) (lv' := [(0, .ref 0), (1, .ref 4), (2, .ref 669), (3, .int v3)]) (st' := [.int (v3 + (4 : Int32)), .ref 0, .long ((Int32.toInt64 x9) <<< (Int32.toInt64 (32 : Int32) &&& 63)), .int x8, .int x7, .ref 669, .int (db_i q5)]) 7 rfl ?_
  refine db_RldX (pc' := 415) (lv1 := [(0, .ref 0), (1, .ref 4), (2, .ref 669), (3, .int v3)]) rfl rfl rfl fun x10 => ?_
  refine db_Rgo (pc' := 421) (lv' := [(0, .ref 0), (1, .ref 4), (2, .ref 669), (3, .int v3)]) (st' := [.long (((Int32.toInt64 x9) <<< (Int32.toInt64 (32 : Int32) &&& 63)) ||| ((Int32.toInt64 x10) &&& (4294967295 : Int64))), .int x8, .int x7, .ref 669, .int (db_i q5)]) 4 rfl ?_
  refine db_RcdB (mr' := dbm_212) (as := [.ref 669, .int x7, .int x8, .long (((Int32.toInt64 x9) <<< (Int32.toInt64 (32 : Int32) &&& 63)) ||| ((Int32.toInt64 x10) &&& (4294967295 : Int64)))]) (rest := [.int (db_i q5)]) (pc' := 424) (lv1 := [(0, .ref 0), (1, .ref 4), (2, .ref 669), (3, .int v3)]) rfl rfl rfl rfl rfl (db_f212_ok) fun q11 s12 => ?_
  refine db_Ric (pc' := 427) (tg := 2023) (lv1 := [(0, .ref 0), (1, .ref 4), (2, .ref 669), (3, .int v3)]) rfl rfl rfl rfl ?_ ?_
  · exact db_law_b2023_ok zh18
  refine db_Rgo (pc' := 428) (lv' := [(0, .ref 0), (1, .ref 4), (2, .ref 669), (3, .int v3)]) (st' := [.int (0 : Int32)]) 1 rfl ?_
  exact db_Rret (lv1 := [(0, .ref 0), (1, .ref 4), (2, .ref 669), (3, .int v3)]) rfl rfl rfl rfl
noncomputable def db_law_b429 (X : db_X) (h18 : db_S → Int32 → Option (Bool × db_S)) (s : db_S) (v3 : Int32) : Option (Bool × db_S) :=
  ((db_xX X (v3 + (1 : Int32))).bind fun x1 => ((db_xX X (v3 + (2 : Int32))).bind fun x2 => (db_bd (db_f36 s x1 x2) fun q3 s4 => ((db_xX X (v3 + (1 : Int32))).bind fun x5 => ((db_xX X (v3 + (2 : Int32))).bind fun x6 => (db_bd (db_f216 s4 x5 x6) fun q7 s8 => (cond (db_cnd .eq (lg_cmp q3 q7) 0) (db_law_b2023 X h18 s8 v3) (some (false, s8)))))))))
set_option maxRecDepth 100000 in
set_option maxHeartbeats 8000000 in
theorem db_law_b429_ok {X : db_X} {d : Nat}  {h18 : db_S → Int32 → Option (Bool × db_S)} {s : db_S} {v3 : Int32} (zh18 : ∀ (s' : db_S) (v3 : Int32) , db_Rf X (d + 36) dbm_378 18 [(0, .ref 0), (1, .ref 4), (2, .ref 669), (3, .int v3)] [] s' db_zB (h18 s' v3)) : db_Rf X (d + 36) dbm_378 429 [(0, .ref 0), (1, .ref 4), (2, .ref 669), (3, .int v3)] [] s db_zB (db_law_b429 X h18 s v3) := by
  unfold db_law_b429
  refine db_Rgo (pc' := 434) (lv' := [(0, .ref 0), (1, .ref 4), (2, .ref 669), (3, .int v3)]) (st' := [.int (v3 + (1 : Int32)), .ref 0, .ref 4]) 5 rfl ?_
  refine db_RldX (pc' := 435) (lv1 := [(0, .ref 0), (1, .ref 4), (2, .ref 669), (3, .int v3)]) rfl rfl rfl fun x1 => ?_
  refine db_Rgo (pc' := 439) (lv' := [(0, .ref 0), (1, .ref 4), (2, .ref 669), (3, .int v3)]) (st' := [.int (v3 + (2 : Int32)), .ref 0, .int x1, .ref 4]) 4 rfl ?_
  refine db_RldX (pc' := 440) (lv1 := [(0, .ref 0), (1, .ref 4), (2, .ref 669), (3, .int v3)]) rfl rfl rfl fun x2 => ?_
  refine db_RcdL (mr' := dbm_36) (as := [.ref 4, .int x1, .int x2]) (rest := []) (pc' := 443) (lv1 := [(0, .ref 0), (1, .ref 4), (2, .ref 669), (3, .int v3)]) rfl rfl rfl rfl rfl (db_f36_ok) fun q3 s4 => ?_
  refine db_Rgo (pc' := 448) (lv' := [(0, .ref 0), (1, .ref 4), (2, .ref 669), (3, .int v3)]) (st' := [.int (v3 + (1 : Int32)), .ref 0, .ref 669, .long q3]) 5 rfl ?_
  refine db_RldX (pc' := 449) (lv1 := [(0, .ref 0), (1, .ref 4), (2, .ref 669), (3, .int v3)]) rfl rfl rfl fun x5 => ?_
  refine db_Rgo (pc' := 453) (lv' := [(0, .ref 0), (1, .ref 4), (2, .ref 669), (3, .int v3)]) (st' := [.int (v3 + (2 : Int32)), .ref 0, .int x5, .ref 669, .long q3]) 4 rfl ?_
  refine db_RldX (pc' := 454) (lv1 := [(0, .ref 0), (1, .ref 4), (2, .ref 669), (3, .int v3)]) rfl rfl rfl fun x6 => ?_
  refine db_RcdL (mr' := dbm_216) (as := [.ref 669, .int x5, .int x6]) (rest := [.long q3]) (pc' := 457) (lv1 := [(0, .ref 0), (1, .ref 4), (2, .ref 669), (3, .int v3)]) rfl rfl rfl rfl rfl (db_f216_ok) fun q7 s8 => ?_
  refine db_Rgo (pc' := 458) (lv' := [(0, .ref 0), (1, .ref 4), (2, .ref 669), (3, .int v3)]) (st' := [.int (lg_cmp q3 q7)]) 1 rfl ?_
  refine db_Rif (pc' := 461) (tg := 2023) (lv1 := [(0, .ref 0), (1, .ref 4), (2, .ref 669), (3, .int v3)]) rfl rfl rfl rfl ?_ ?_
  · exact db_law_b2023_ok zh18
  refine db_Rgo (pc' := 462) (lv' := [(0, .ref 0), (1, .ref 4), (2, .ref 669), (3, .int v3)]) (st' := [.int (0 : Int32)]) 1 rfl ?_
  exact db_Rret (lv1 := [(0, .ref 0), (1, .ref 4), (2, .ref 669), (3, .int v3)]) rfl rfl rfl rfl
noncomputable def db_law_b463 (X : db_X) (h18 : db_S → Int32 → Option (Bool × db_S)) (s : db_S) (v3 : Int32) : Option (Bool × db_S) :=
  ((db_xX X (v3 + (1 : Int32))).bind fun x1 => ((db_xX X (v3 + (2 : Int32))).bind fun x2 => ((db_xX X (v3 + (3 : Int32))).bind fun x3 => ((db_xX X (v3 + (4 : Int32))).bind fun x4 => ((db_xX X (v3 + (5 : Int32))).bind fun x5 => (db_bd (db_f38 s x1 x2 x3 x4 x5) fun q6 s7 => ((db_xX X (v3 + (1 : Int32))).bind fun x8 => ((db_xX X (v3 + (2 : Int32))).bind fun x9 => ((db_xX X (v3 + (3 : Int32))).bind fun x10 => ((db_xX X (v3 + (4 : Int32))).bind fun x11 => ((db_xX X (v3 + (5 : Int32))).bind fun x12 => (db_bd (db_f217 s7 x8 x9 x10 x11 x12) fun q13 s14 => (cond (db_cnd .eq (db_i q6) (db_i q13)) (db_law_b2023 X h18 s14 v3) (some (false, s14)))))))))))))))
set_option maxRecDepth 100000 in
set_option maxHeartbeats 8000000 in
theorem db_law_b463_ok {X : db_X} {d : Nat}  {h18 : db_S → Int32 → Option (Bool × db_S)} {s : db_S} {v3 : Int32} (zh18 : ∀ (s' : db_S) (v3 : Int32) , db_Rf X (d + 36) dbm_378 18 [(0, .ref 0), (1, .ref 4), (2, .ref 669), (3, .int v3)] [] s' db_zB (h18 s' v3)) : db_Rf X (d + 36) dbm_378 463 [(0, .ref 0), (1, .ref 4), (2, .ref 669), (3, .int v3)] [] s db_zB (db_law_b463 X h18 s v3) := by
  unfold db_law_b463
  refine db_Rgo (pc' := 468) (lv' := [(0, .ref 0), (1, .ref 4), (2, .ref 669), (3, .int v3)]) (st' := [.int (v3 + (1 : Int32)), .ref 0, .ref 4]) 5 rfl ?_
  refine db_RldX (pc' := 469) (lv1 := [(0, .ref 0), (1, .ref 4), (2, .ref 669), (3, .int v3)]) rfl rfl rfl fun x1 => ?_
  refine db_Rgo (pc' := 473) (lv' := [(0, .ref 0), (1, .ref 4), (2, .ref 669), (3, .int v3)]) (st' := [.int (v3 + (2 : Int32)), .ref 0, .int x1, .ref 4]) 4 rfl ?_
  refine db_RldX (pc' := 474) (lv1 := [(0, .ref 0), (1, .ref 4), (2, .ref 669), (3, .int v3)]) rfl rfl rfl fun x2 => ?_
  refine db_Rgo (pc' := 478) (lv' := [(0, .ref 0), (1, .ref 4), (2, .ref 669), (3, .int v3)]) (st' := [.int (v3 + (3 : Int32)), .ref 0, .int x2, .int x1, .ref 4]) 4 rfl ?_
  refine db_RldX (pc' := 479) (lv1 := [(0, .ref 0), (1, .ref 4), (2, .ref 669), (3, .int v3)]) rfl rfl rfl fun x3 => ?_
  refine db_Rgo (pc' := 483) (lv' := [(0, .ref 0), (1, .ref 4), (2, .ref 669), (3, .int v3)]) (st' := [.int (v3 + (4 : Int32)), .ref 0, .int x3, .int x2, .int x1, .ref 4]) 4 rfl ?_
  refine db_RldX (pc' := 484) (lv1 := [(0, .ref 0), (1, .ref 4), (2, .ref 669), (3, .int v3)]) rfl rfl rfl fun x4 => ?_
  refine db_Rgo (pc' := 488) (lv' := [(0, .ref 0), (1, .ref 4), (2, .ref 669), (3, .int v3)]) (st' := [.int (v3 + (5 : Int32)), .ref 0, .int x4, .int x3, .int x2, .int x1, .ref 4]) 4 rfl ?_
  refine db_RldX (pc' := 489) (lv1 := [(0, .ref 0), (1, .ref 4), (2, .ref 669), (3, .int v3)]) rfl rfl rfl fun x5 => ?_
  refine db_RcdB (mr' := dbm_38) (as := [.ref 4, .int x1, .int x2, .int x3, .int x4, .int x5]) (rest := []) (pc' := 492) (lv1 := [(0, .ref 0), (1, .ref 4), (2, .ref 669), (3, .int v3)]) rfl rfl rfl rfl rfl (db_f38_ok) fun q6 s7 => ?_
  refine db_Rgo (pc' := 497) (lv' := [(0, .ref 0), (1, .ref 4), (2, .ref 669), (3, .int v3)]) (st' := [.int (v3 + (1 : Int32)), .ref 0, .ref 669, .int (db_i q6)]) 5 rfl ?_
  refine db_RldX (pc' := 498) (lv1 := [(0, .ref 0), (1, .ref 4), (2, .ref 669), (3, .int v3)]) rfl rfl rfl fun x8 => ?_
  refine db_Rgo (pc' := 502) (lv' := [(0, .ref 0), (1, .ref 4), (2, .ref 669), (3, .int v3)]) (st' := [.int (v3 + (2 : Int32)), .ref 0, .int x8, .ref 669, .int (db_i q6)]) 4 rfl ?_
  refine db_RldX (pc' := 503) (lv1 := [(0, .ref 0), (1, .ref 4), (2, .ref 669), (3, .int v3)]) rfl rfl rfl fun x9 => ?_
  refine db_Rgo (pc' := 507) (lv' := [(0, .ref 0), (1, .ref 4), (2, .ref 669), (3, .int v3)]) (st' := [.int (v3 + (3 : Int32)), .ref 0, .int x9, .int x8, .ref 669, .int (db_i q6)]) 4 rfl ?_
  refine db_RldX (pc' := 508) (lv1 := [(0, .ref 0), (1, .ref 4), (2, .ref 669), (3, .int v3)]) rfl rfl rfl fun x10 => ?_
  refine db_Rgo (pc' := 512) (lv' := [(0, .ref 0), (1, .ref 4), (2, .ref 669), (3, .int v3)]) (st' := [.int (v3 + (4 : Int32)), .ref 0, .int x10, .int x9, .int x8, .ref 669, .int (db_i q6)]) 4 rfl ?_
  refine db_RldX (pc' := 513) (lv1 := [(0, .ref 0), (1, .ref 4), (2, .ref 669), (3, .int v3)]) rfl rfl rfl fun x11 => ?_
  refine db_Rgo (pc' := 517) (lv' := [(0, .ref 0), (1, .ref 4), (2, .ref 669), (3, .int v3)]) (st' := [.int (v3 + (5 : Int32)), .ref 0, .int x11, .int x10, .int x9, .int x8, .ref 669, .int (db_i q6)]) 4 rfl ?_
  refine db_RldX (pc' := 518) (lv1 := [(0, .ref 0), (1, .ref 4), (2, .ref 669), (3, .int v3)]) rfl rfl rfl fun x12 => ?_
  refine db_RcdB (mr' := dbm_217) (as := [.ref 669, .int x8, .int x9, .int x10, .int x11, .int x12]) (rest := [.int (db_i q6)]) (pc' := 521) (lv1 := [(0, .ref 0), (1, .ref 4), (2, .ref 669), (3, .int v3)]) rfl rfl rfl rfl rfl (db_f217_ok) fun q13 s14 => ?_
  refine db_Ric (pc' := 524) (tg := 2023) (lv1 := [(0, .ref 0), (1, .ref 4), (2, .ref 669), (3, .int v3)]) rfl rfl rfl rfl ?_ ?_
  · exact db_law_b2023_ok zh18
  refine db_Rgo (pc' := 525) (lv' := [(0, .ref 0), (1, .ref 4), (2, .ref 669), (3, .int v3)]) (st' := [.int (0 : Int32)]) 1 rfl ?_
  exact db_Rret (lv1 := [(0, .ref 0), (1, .ref 4), (2, .ref 669), (3, .int v3)]) rfl rfl rfl rfl
noncomputable def db_law_b526 (X : db_X) (h18 : db_S → Int32 → Option (Bool × db_S)) (s : db_S) (v3 : Int32) : Option (Bool × db_S) :=
  ((db_xX X (v3 + (1 : Int32))).bind fun x1 => ((db_xX X (v3 + (2 : Int32))).bind fun x2 => ((db_xX X (v3 + (3 : Int32))).bind fun x3 => ((db_xX X (v3 + (4 : Int32))).bind fun x4 => ((db_xX X (v3 + (5 : Int32))).bind fun x5 => (db_bd (db_f41 s x1 x2 x3 x4 x5) fun q6 s7 => ((db_xX X (v3 + (1 : Int32))).bind fun x8 => ((db_xX X (v3 + (2 : Int32))).bind fun x9 => ((db_xX X (v3 + (3 : Int32))).bind fun x10 => ((db_xX X (v3 + (4 : Int32))).bind fun x11 => ((db_xX X (v3 + (5 : Int32))).bind fun x12 => (db_bd (db_f218 s7 x8 x9 x10 x11 x12) fun q13 s14 => (cond (db_cnd .eq q6 q13) (db_law_b2023 X h18 s14 v3) (some (false, s14)))))))))))))))
set_option maxRecDepth 100000 in
set_option maxHeartbeats 8000000 in
theorem db_law_b526_ok {X : db_X} {d : Nat}  {h18 : db_S → Int32 → Option (Bool × db_S)} {s : db_S} {v3 : Int32} (zh18 : ∀ (s' : db_S) (v3 : Int32) , db_Rf X (d + 36) dbm_378 18 [(0, .ref 0), (1, .ref 4), (2, .ref 669), (3, .int v3)] [] s' db_zB (h18 s' v3)) : db_Rf X (d + 36) dbm_378 526 [(0, .ref 0), (1, .ref 4), (2, .ref 669), (3, .int v3)] [] s db_zB (db_law_b526 X h18 s v3) := by
  unfold db_law_b526
  refine db_Rgo (pc' := 531) (lv' := [(0, .ref 0), (1, .ref 4), (2, .ref 669), (3, .int v3)]) (st' := [.int (v3 + (1 : Int32)), .ref 0, .ref 4]) 5 rfl ?_
  refine db_RldX (pc' := 532) (lv1 := [(0, .ref 0), (1, .ref 4), (2, .ref 669), (3, .int v3)]) rfl rfl rfl fun x1 => ?_
  refine db_Rgo (pc' := 536) (lv' := [(0, .ref 0), (1, .ref 4), (2, .ref 669), (3, .int v3)]) (st' := [.int (v3 + (2 : Int32)), .ref 0, .int x1, .ref 4]) 4 rfl ?_
  refine db_RldX (pc' := 537) (lv1 := [(0, .ref 0), (1, .ref 4), (2, .ref 669), (3, .int v3)]) rfl rfl rfl fun x2 => ?_
  refine db_Rgo (pc' := 541) (lv' := [(0, .ref 0), (1, .ref 4), (2, .ref 669), (3, .int v3)]) (st' := [.int (v3 + (3 : Int32)), .ref 0, .int x2, .int x1, .ref 4]) 4 rfl ?_
  refine db_RldX (pc' := 542) (lv1 := [(0, .ref 0), (1, .ref 4), (2, .ref 669), (3, .int v3)]) rfl rfl rfl fun x3 => ?_
  refine db_Rgo (pc' := 546) (lv' := [(0, .ref 0), (1, .ref 4), (2, .ref 669), (3, .int v3)]) (st' := [.int (v3 + (4 : Int32)), .ref 0, .int x3, .int x2, .int x1, .ref 4]) 4 rfl ?_
  refine db_RldX (pc' := 547) (lv1 := [(0, .ref 0), (1, .ref 4), (2, .ref 669), (3, .int v3)]) rfl rfl rfl fun x4 => ?_
  refine db_Rgo (pc' := 551) (lv' := [(0, .ref 0), (1, .ref 4), (2, .ref 669), (3, .int v3)]) (st' := [.int (v3 + (5 : Int32)), .ref 0, .int x4, .int x3, .int x2, .int x1, .ref 4]) 4 rfl ?_
  refine db_RldX (pc' := 552) (lv1 := [(0, .ref 0), (1, .ref 4), (2, .ref 669), (3, .int v3)]) rfl rfl rfl fun x5 => ?_
  refine db_RcdI (mr' := dbm_41) (as := [.ref 4, .int x1, .int x2, .int x3, .int x4, .int x5]) (rest := []) (pc' := 555) (lv1 := [(0, .ref 0), (1, .ref 4), (2, .ref 669), (3, .int v3)]) rfl rfl rfl rfl rfl (db_f41_ok) fun q6 s7 => ?_
  refine db_Rgo (pc' := 560) (lv' := [(0, .ref 0), (1, .ref 4), (2, .ref 669), (3, .int v3)]) (st' := [.int (v3 + (1 : Int32)), .ref 0, .ref 669, .int q6]) 5 rfl ?_
  refine db_RldX (pc' := 561) (lv1 := [(0, .ref 0), (1, .ref 4), (2, .ref 669), (3, .int v3)]) rfl rfl rfl fun x8 => ?_
  refine db_Rgo (pc' := 565) (lv' := [(0, .ref 0), (1, .ref 4), (2, .ref 669), (3, .int v3)]) (st' := [.int (v3 + (2 : Int32)), .ref 0, .int x8, .ref 669, .int q6]) 4 rfl ?_
  refine db_RldX (pc' := 566) (lv1 := [(0, .ref 0), (1, .ref 4), (2, .ref 669), (3, .int v3)]) rfl rfl rfl fun x9 => ?_
  refine db_Rgo (pc' := 570) (lv' := [(0, .ref 0), (1, .ref 4), (2, .ref 669), (3, .int v3)]) (st' := [.int (v3 + (3 : Int32)), .ref 0, .int x9, .int x8, .ref 669, .int q6]) 4 rfl ?_
  refine db_RldX (pc' := 571) (lv1 := [(0, .ref 0), (1, .ref 4), (2, .ref 669), (3, .int v3)]) rfl rfl rfl fun x10 => ?_
  refine db_Rgo (pc' := 575) (lv' := [(0, .ref 0), (1, .ref 4), (2, .ref 669), (3, .int v3)]) (st' := [.int (v3 + (4 : Int32)), .ref 0, .int x10, .int x9, .int x8, .ref 669, .int q6]) 4 rfl ?_
  refine db_RldX (pc' := 576) (lv1 := [(0, .ref 0), (1, .ref 4), (2, .ref 669), (3, .int v3)]) rfl rfl rfl fun x11 => ?_
  refine db_Rgo (pc' := 580) (lv' := [(0, .ref 0), (1, .ref 4), (2, .ref 669), (3, .int v3)]) (st' := [.int (v3 + (5 : Int32)), .ref 0, .int x11, .int x10, .int x9, .int x8, .ref 669, .int q6]) 4 rfl ?_
  refine db_RldX (pc' := 581) (lv1 := [(0, .ref 0), (1, .ref 4), (2, .ref 669), (3, .int v3)]) rfl rfl rfl fun x12 => ?_
  refine db_RcdI (mr' := dbm_218) (as := [.ref 669, .int x8, .int x9, .int x10, .int x11, .int x12]) (rest := [.int q6]) (pc' := 584) (lv1 := [(0, .ref 0), (1, .ref 4), (2, .ref 669), (3, .int v3)]) rfl rfl rfl rfl rfl (db_f218_ok) fun q13 s14 => ?_
  refine db_Ric (pc' := 587) (tg := 2023) (lv1 := [(0, .ref 0), (1, .ref 4), (2, .ref 669), (3, .int v3)]) rfl rfl rfl rfl ?_ ?_
  · exact db_law_b2023_ok zh18
  refine db_Rgo (pc' := 588) (lv' := [(0, .ref 0), (1, .ref 4), (2, .ref 669), (3, .int v3)]) (st' := [.int (0 : Int32)]) 1 rfl ?_
  exact db_Rret (lv1 := [(0, .ref 0), (1, .ref 4), (2, .ref 669), (3, .int v3)]) rfl rfl rfl rfl
noncomputable def db_law_b589 (X : db_X) (h18 : db_S → Int32 → Option (Bool × db_S)) (s : db_S) (v3 : Int32) : Option (Bool × db_S) :=
  ((db_xX X (v3 + (1 : Int32))).bind fun x1 => (db_bd (db_f44 s x1) fun q2 s3 => ((db_xX X (v3 + (1 : Int32))).bind fun x4 => (db_bd (db_f221 s3 x4) fun q5 s6 => (cond (db_cnd .eq q2 q5) (db_law_b2023 X h18 s6 v3) (some (false, s6)))))))
set_option maxRecDepth 100000 in
set_option maxHeartbeats 8000000 in
theorem db_law_b589_ok {X : db_X} {d : Nat}  {h18 : db_S → Int32 → Option (Bool × db_S)} {s : db_S} {v3 : Int32} (zh18 : ∀ (s' : db_S) (v3 : Int32) , db_Rf X (d + 36) dbm_378 18 [(0, .ref 0), (1, .ref 4), (2, .ref 669), (3, .int v3)] [] s' db_zB (h18 s' v3)) : db_Rf X (d + 36) dbm_378 589 [(0, .ref 0), (1, .ref 4), (2, .ref 669), (3, .int v3)] [] s db_zB (db_law_b589 X h18 s v3) := by
  unfold db_law_b589
  refine db_Rgo (pc' := 594) (lv' := [(0, .ref 0), (1, .ref 4), (2, .ref 669), (3, .int v3)]) (st' := [.int (v3 + (1 : Int32)), .ref 0, .ref 4]) 5 rfl ?_
  refine db_RldX (pc' := 595) (lv1 := [(0, .ref 0), (1, .ref 4), (2, .ref 669), (3, .int v3)]) rfl rfl rfl fun x1 => ?_
  refine db_RcdI (mr' := dbm_44) (as := [.ref 4, .int x1]) (rest := []) (pc' := 598) (lv1 := [(0, .ref 0), (1, .ref 4), (2, .ref 669), (3, .int v3)]) rfl rfl rfl rfl rfl (db_f44_ok) fun q2 s3 => ?_
  refine db_Rgo (pc' := 603) (lv' := [(0, .ref 0), (1, .ref 4), (2, .ref 669), (3, .int v3)]) (st' := [.int (v3 + (1 : Int32)), .ref 0, .ref 669, .int q2]) 5 rfl ?_
  refine db_RldX (pc' := 604) (lv1 := [(0, .ref 0), (1, .ref 4), (2, .ref 669), (3, .int v3)]) rfl rfl rfl fun x4 => ?_
  refine db_RcdI (mr' := dbm_221) (as := [.ref 669, .int x4]) (rest := [.int q2]) (pc' := 607) (lv1 := [(0, .ref 0), (1, .ref 4), (2, .ref 669), (3, .int v3)]) rfl rfl rfl rfl rfl (db_f221_ok) fun q5 s6 => ?_
  refine db_Ric (pc' := 610) (tg := 2023) (lv1 := [(0, .ref 0), (1, .ref 4), (2, .ref 669), (3, .int v3)]) rfl rfl rfl rfl ?_ ?_
  · exact db_law_b2023_ok zh18
  refine db_Rgo (pc' := 611) (lv' := [(0, .ref 0), (1, .ref 4), (2, .ref 669), (3, .int v3)]) (st' := [.int (0 : Int32)]) 1 rfl ?_
  exact db_Rret (lv1 := [(0, .ref 0), (1, .ref 4), (2, .ref 669), (3, .int v3)]) rfl rfl rfl rfl
noncomputable def db_law_b612 (X : db_X) (h18 : db_S → Int32 → Option (Bool × db_S)) (s : db_S) (v3 : Int32) : Option (Bool × db_S) :=
  ((db_xX X (v3 + (1 : Int32))).bind fun x1 => (db_bd (db_f88 s x1) fun q2 s3 => ((db_xX X (v3 + (1 : Int32))).bind fun x4 => (db_bd (db_f276 s3 x4) fun q5 s6 => (cond (db_cnd .eq q2 q5) (db_law_b2023 X h18 s6 v3) (some (false, s6)))))))
set_option maxRecDepth 100000 in
set_option maxHeartbeats 8000000 in
theorem db_law_b612_ok {X : db_X} {d : Nat}  {h18 : db_S → Int32 → Option (Bool × db_S)} {s : db_S} {v3 : Int32} (zh18 : ∀ (s' : db_S) (v3 : Int32) , db_Rf X (d + 36) dbm_378 18 [(0, .ref 0), (1, .ref 4), (2, .ref 669), (3, .int v3)] [] s' db_zB (h18 s' v3)) : db_Rf X (d + 36) dbm_378 612 [(0, .ref 0), (1, .ref 4), (2, .ref 669), (3, .int v3)] [] s db_zB (db_law_b612 X h18 s v3) := by
  unfold db_law_b612
  refine db_Rgo (pc' := 617) (lv' := [(0, .ref 0), (1, .ref 4), (2, .ref 669), (3, .int v3)]) (st' := [.int (v3 + (1 : Int32)), .ref 0, .ref 4]) 5 rfl ?_
  refine db_RldX (pc' := 618) (lv1 := [(0, .ref 0), (1, .ref 4), (2, .ref 669), (3, .int v3)]) rfl rfl rfl fun x1 => ?_
  refine db_RcdI (mr' := dbm_88) (as := [.ref 4, .int x1]) (rest := []) (pc' := 621) (lv1 := [(0, .ref 0), (1, .ref 4), (2, .ref 669), (3, .int v3)]) rfl rfl rfl rfl rfl (db_f88_ok) fun q2 s3 => ?_
  refine db_Rgo (pc' := 626) (lv' := [(0, .ref 0), (1, .ref 4), (2, .ref 669), (3, .int v3)]) (st' := [.int (v3 + (1 : Int32)), .ref 0, .ref 669, .int q2]) 5 rfl ?_
  refine db_RldX (pc' := 627) (lv1 := [(0, .ref 0), (1, .ref 4), (2, .ref 669), (3, .int v3)]) rfl rfl rfl fun x4 => ?_
  refine db_RcdI (mr' := dbm_276) (as := [.ref 669, .int x4]) (rest := [.int q2]) (pc' := 630) (lv1 := [(0, .ref 0), (1, .ref 4), (2, .ref 669), (3, .int v3)]) rfl rfl rfl rfl rfl (db_f276_ok) fun q5 s6 => ?_
  refine db_Ric (pc' := 633) (tg := 2023) (lv1 := [(0, .ref 0), (1, .ref 4), (2, .ref 669), (3, .int v3)]) rfl rfl rfl rfl ?_ ?_
  · exact db_law_b2023_ok zh18
  refine db_Rgo (pc' := 634) (lv' := [(0, .ref 0), (1, .ref 4), (2, .ref 669), (3, .int v3)]) (st' := [.int (0 : Int32)]) 1 rfl ?_
  exact db_Rret (lv1 := [(0, .ref 0), (1, .ref 4), (2, .ref 669), (3, .int v3)]) rfl rfl rfl rfl
noncomputable def db_law_b635 (X : db_X) (h18 : db_S → Int32 → Option (Bool × db_S)) (s : db_S) (v3 : Int32) : Option (Bool × db_S) :=
  ((db_xX X (v3 + (1 : Int32))).bind fun x1 => ((db_f98 s x1).bind fun q2 => ((db_xX X (v3 + (1 : Int32))).bind fun x4 => (db_bd (db_f220 s x4) fun q5 s6 => (cond (db_cnd .eq q2 q5) (db_law_b2023 X h18 s6 v3) (some (false, s6)))))))
set_option maxRecDepth 100000 in
set_option maxHeartbeats 8000000 in
theorem db_law_b635_ok {X : db_X} {d : Nat}  {h18 : db_S → Int32 → Option (Bool × db_S)} {s : db_S} {v3 : Int32} (zh18 : ∀ (s' : db_S) (v3 : Int32) , db_Rf X (d + 36) dbm_378 18 [(0, .ref 0), (1, .ref 4), (2, .ref 669), (3, .int v3)] [] s' db_zB (h18 s' v3)) : db_Rf X (d + 36) dbm_378 635 [(0, .ref 0), (1, .ref 4), (2, .ref 669), (3, .int v3)] [] s db_zB (db_law_b635 X h18 s v3) := by
  unfold db_law_b635
  refine db_Rgo (pc' := 640) (lv' := [(0, .ref 0), (1, .ref 4), (2, .ref 669), (3, .int v3)]) (st' := [.int (v3 + (1 : Int32)), .ref 0, .ref 4]) 5 rfl ?_
  refine db_RldX (pc' := 641) (lv1 := [(0, .ref 0), (1, .ref 4), (2, .ref 669), (3, .int v3)]) rfl rfl rfl fun x1 => ?_
  refine db_RcyI (mr' := dbm_98) (as := [.ref 4, .int x1]) (rest := []) (pc' := 644) (lv1 := [(0, .ref 0), (1, .ref 4), (2, .ref 669), (3, .int v3)]) rfl rfl rfl rfl rfl (db_f98_ok) fun q2 => ?_
  refine db_Rgo (pc' := 649) (lv' := [(0, .ref 0), (1, .ref 4), (2, .ref 669), (3, .int v3)]) (st' := [.int (v3 + (1 : Int32)), .ref 0, .ref 669, .int q2]) 5 rfl ?_
  refine db_RldX (pc' := 650) (lv1 := [(0, .ref 0), (1, .ref 4), (2, .ref 669), (3, .int v3)]) rfl rfl rfl fun x4 => ?_
  refine db_RcdI (mr' := dbm_220) (as := [.ref 669, .int x4]) (rest := [.int q2]) (pc' := 653) (lv1 := [(0, .ref 0), (1, .ref 4), (2, .ref 669), (3, .int v3)]) rfl rfl rfl rfl rfl (db_f220_ok) fun q5 s6 => ?_
  refine db_Ric (pc' := 656) (tg := 2023) (lv1 := [(0, .ref 0), (1, .ref 4), (2, .ref 669), (3, .int v3)]) rfl rfl rfl rfl ?_ ?_
  · exact db_law_b2023_ok zh18
  refine db_Rgo (pc' := 657) (lv' := [(0, .ref 0), (1, .ref 4), (2, .ref 669), (3, .int v3)]) (st' := [.int (0 : Int32)]) 1 rfl ?_
  exact db_Rret (lv1 := [(0, .ref 0), (1, .ref 4), (2, .ref 669), (3, .int v3)]) rfl rfl rfl rfl
noncomputable def db_law_b658 (X : db_X) (h18 : db_S → Int32 → Option (Bool × db_S)) (s : db_S) (v3 : Int32) : Option (Bool × db_S) :=
  ((db_xX X (v3 + (1 : Int32))).bind fun x1 => (db_bd (db_f99 s x1) fun q2 s3 => ((db_xX X (v3 + (1 : Int32))).bind fun x4 => (db_bd (db_f280 s3 x4) fun q5 s6 => (cond (db_cnd .eq q2 q5) (db_law_b2023 X h18 s6 v3) (some (false, s6)))))))
set_option maxRecDepth 100000 in
set_option maxHeartbeats 8000000 in
theorem db_law_b658_ok {X : db_X} {d : Nat}  {h18 : db_S → Int32 → Option (Bool × db_S)} {s : db_S} {v3 : Int32} (zh18 : ∀ (s' : db_S) (v3 : Int32) , db_Rf X (d + 36) dbm_378 18 [(0, .ref 0), (1, .ref 4), (2, .ref 669), (3, .int v3)] [] s' db_zB (h18 s' v3)) : db_Rf X (d + 36) dbm_378 658 [(0, .ref 0), (1, .ref 4), (2, .ref 669), (3, .int v3)] [] s db_zB (db_law_b658 X h18 s v3) := by
  unfold db_law_b658
  refine db_Rgo (pc' := 663) (lv' := [(0, .ref 0), (1, .ref 4), (2, .ref 669), (3, .int v3)]) (st' := [.int (v3 + (1 : Int32)), .ref 0, .ref 4]) 5 rfl ?_
  refine db_RldX (pc' := 664) (lv1 := [(0, .ref 0), (1, .ref 4), (2, .ref 669), (3, .int v3)]) rfl rfl rfl fun x1 => ?_
  refine db_RcdI (mr' := dbm_99) (as := [.ref 4, .int x1]) (rest := []) (pc' := 667) (lv1 := [(0, .ref 0), (1, .ref 4), (2, .ref 669), (3, .int v3)]) rfl rfl rfl rfl rfl (db_f99_ok) fun q2 s3 => ?_
  refine db_Rgo (pc' := 672) (lv' := [(0, .ref 0), (1, .ref 4), (2, .ref 669), (3, .int v3)]) (st' := [.int (v3 + (1 : Int32)), .ref 0, .ref 669, .int q2]) 5 rfl ?_
  refine db_RldX (pc' := 673) (lv1 := [(0, .ref 0), (1, .ref 4), (2, .ref 669), (3, .int v3)]) rfl rfl rfl fun x4 => ?_
  refine db_RcdI (mr' := dbm_280) (as := [.ref 669, .int x4]) (rest := [.int q2]) (pc' := 676) (lv1 := [(0, .ref 0), (1, .ref 4), (2, .ref 669), (3, .int v3)]) rfl rfl rfl rfl rfl (db_f280_ok) fun q5 s6 => ?_
  refine db_Ric (pc' := 679) (tg := 2023) (lv1 := [(0, .ref 0), (1, .ref 4), (2, .ref 669), (3, .int v3)]) rfl rfl rfl rfl ?_ ?_
  · exact db_law_b2023_ok zh18
  refine db_Rgo (pc' := 680) (lv' := [(0, .ref 0), (1, .ref 4), (2, .ref 669), (3, .int v3)]) (st' := [.int (0 : Int32)]) 1 rfl ?_
  exact db_Rret (lv1 := [(0, .ref 0), (1, .ref 4), (2, .ref 669), (3, .int v3)]) rfl rfl rfl rfl
noncomputable def db_law_b681 (X : db_X) (h18 : db_S → Int32 → Option (Bool × db_S)) (s : db_S) (v3 : Int32) : Option (Bool × db_S) :=
  ((db_xX X (v3 + (1 : Int32))).bind fun x1 => ((db_xX X (v3 + (2 : Int32))).bind fun x2 => (db_bd (db_f102 s x1 x2) fun q3 s4 => ((db_xX X (v3 + (1 : Int32))).bind fun x5 => ((db_xX X (v3 + (2 : Int32))).bind fun x6 => (db_bd (db_f288 s4 x5 x6) fun q7 s8 => (cond (db_cnd .eq q3 q7) (db_law_b2023 X h18 s8 v3) (some (false, s8)))))))))
set_option maxRecDepth 100000 in
set_option maxHeartbeats 8000000 in
theorem db_law_b681_ok {X : db_X} {d : Nat}  {h18 : db_S → Int32 → Option (Bool × db_S)} {s : db_S} {v3 : Int32} (zh18 : ∀ (s' : db_S) (v3 : Int32) , db_Rf X (d + 36) dbm_378 18 [(0, .ref 0), (1, .ref 4), (2, .ref 669), (3, .int v3)] [] s' db_zB (h18 s' v3)) : db_Rf X (d + 36) dbm_378 681 [(0, .ref 0), (1, .ref 4), (2, .ref 669), (3, .int v3)] [] s db_zB (db_law_b681 X h18 s v3) := by
  unfold db_law_b681
  refine db_Rgo (pc' := 686) (lv' := [(0, .ref 0), (1, .ref 4), (2, .ref 669), (3, .int v3)]) (st' := [.int (v3 + (1 : Int32)), .ref 0, .ref 4]) 5 rfl ?_
  refine db_RldX (pc' := 687) (lv1 := [(0, .ref 0), (1, .ref 4), (2, .ref 669), (3, .int v3)]) rfl rfl rfl fun x1 => ?_
  refine db_Rgo (pc' := 691) (lv' := [(0, .ref 0), (1, .ref 4), (2, .ref 669), (3, .int v3)]) (st' := [.int (v3 + (2 : Int32)), .ref 0, .int x1, .ref 4]) 4 rfl ?_
  refine db_RldX (pc' := 692) (lv1 := [(0, .ref 0), (1, .ref 4), (2, .ref 669), (3, .int v3)]) rfl rfl rfl fun x2 => ?_
  refine db_RcdI (mr' := dbm_102) (as := [.ref 4, .int x1, .int x2]) (rest := []) (pc' := 695) (lv1 := [(0, .ref 0), (1, .ref 4), (2, .ref 669), (3, .int v3)]) rfl rfl rfl rfl rfl (db_f102_ok) fun q3 s4 => ?_
  refine db_Rgo (pc' := 700) (lv' := [(0, .ref 0), (1, .ref 4), (2, .ref 669), (3, .int v3)]) (st' := [.int (v3 + (1 : Int32)), .ref 0, .ref 669, .int q3]) 5 rfl ?_
  refine db_RldX (pc' := 701) (lv1 := [(0, .ref 0), (1, .ref 4), (2, .ref 669), (3, .int v3)]) rfl rfl rfl fun x5 => ?_
  refine db_Rgo (pc' := 705) (lv' := [(0, .ref 0), (1, .ref 4), (2, .ref 669), (3, .int v3)]) (st' := [.int (v3 + (2 : Int32)), .ref 0, .int x5, .ref 669, .int q3]) 4 rfl ?_
  refine db_RldX (pc' := 706) (lv1 := [(0, .ref 0), (1, .ref 4), (2, .ref 669), (3, .int v3)]) rfl rfl rfl fun x6 => ?_
  refine db_RcdI (mr' := dbm_288) (as := [.ref 669, .int x5, .int x6]) (rest := [.int q3]) (pc' := 709) (lv1 := [(0, .ref 0), (1, .ref 4), (2, .ref 669), (3, .int v3)]) rfl rfl rfl rfl rfl (db_f288_ok) fun q7 s8 => ?_
  refine db_Ric (pc' := 712) (tg := 2023) (lv1 := [(0, .ref 0), (1, .ref 4), (2, .ref 669), (3, .int v3)]) rfl rfl rfl rfl ?_ ?_
  · exact db_law_b2023_ok zh18
  refine db_Rgo (pc' := 713) (lv' := [(0, .ref 0), (1, .ref 4), (2, .ref 669), (3, .int v3)]) (st' := [.int (0 : Int32)]) 1 rfl ?_
  exact db_Rret (lv1 := [(0, .ref 0), (1, .ref 4), (2, .ref 669), (3, .int v3)]) rfl rfl rfl rfl
noncomputable def db_law_b714 (X : db_X) (h18 : db_S → Int32 → Option (Bool × db_S)) (s : db_S) (v3 : Int32) : Option (Bool × db_S) :=
  ((db_xX X (v3 + (1 : Int32))).bind fun x1 => ((db_xX X (v3 + (2 : Int32))).bind fun x2 => (db_bd (db_f105 s x1 x2) fun q3 s4 => ((db_xX X (v3 + (1 : Int32))).bind fun x5 => ((db_xX X (v3 + (2 : Int32))).bind fun x6 => (db_bd (db_f291 s4 x5 x6) fun q7 s8 => (cond (db_cnd .eq q3 q7) (db_law_b2023 X h18 s8 v3) (some (false, s8)))))))))
set_option maxRecDepth 100000 in
set_option maxHeartbeats 8000000 in
theorem db_law_b714_ok {X : db_X} {d : Nat}  {h18 : db_S → Int32 → Option (Bool × db_S)} {s : db_S} {v3 : Int32} (zh18 : ∀ (s' : db_S) (v3 : Int32) , db_Rf X (d + 36) dbm_378 18 [(0, .ref 0), (1, .ref 4), (2, .ref 669), (3, .int v3)] [] s' db_zB (h18 s' v3)) : db_Rf X (d + 36) dbm_378 714 [(0, .ref 0), (1, .ref 4), (2, .ref 669), (3, .int v3)] [] s db_zB (db_law_b714 X h18 s v3) := by
  unfold db_law_b714
  refine db_Rgo (pc' := 719) (lv' := [(0, .ref 0), (1, .ref 4), (2, .ref 669), (3, .int v3)]) (st' := [.int (v3 + (1 : Int32)), .ref 0, .ref 4]) 5 rfl ?_
  refine db_RldX (pc' := 720) (lv1 := [(0, .ref 0), (1, .ref 4), (2, .ref 669), (3, .int v3)]) rfl rfl rfl fun x1 => ?_
  refine db_Rgo (pc' := 724) (lv' := [(0, .ref 0), (1, .ref 4), (2, .ref 669), (3, .int v3)]) (st' := [.int (v3 + (2 : Int32)), .ref 0, .int x1, .ref 4]) 4 rfl ?_
  refine db_RldX (pc' := 725) (lv1 := [(0, .ref 0), (1, .ref 4), (2, .ref 669), (3, .int v3)]) rfl rfl rfl fun x2 => ?_
  refine db_RcdI (mr' := dbm_105) (as := [.ref 4, .int x1, .int x2]) (rest := []) (pc' := 728) (lv1 := [(0, .ref 0), (1, .ref 4), (2, .ref 669), (3, .int v3)]) rfl rfl rfl rfl rfl (db_f105_ok) fun q3 s4 => ?_
  refine db_Rgo (pc' := 733) (lv' := [(0, .ref 0), (1, .ref 4), (2, .ref 669), (3, .int v3)]) (st' := [.int (v3 + (1 : Int32)), .ref 0, .ref 669, .int q3]) 5 rfl ?_
  refine db_RldX (pc' := 734) (lv1 := [(0, .ref 0), (1, .ref 4), (2, .ref 669), (3, .int v3)]) rfl rfl rfl fun x5 => ?_
  refine db_Rgo (pc' := 738) (lv' := [(0, .ref 0), (1, .ref 4), (2, .ref 669), (3, .int v3)]) (st' := [.int (v3 + (2 : Int32)), .ref 0, .int x5, .ref 669, .int q3]) 4 rfl ?_
  refine db_RldX (pc' := 739) (lv1 := [(0, .ref 0), (1, .ref 4), (2, .ref 669), (3, .int v3)]) rfl rfl rfl fun x6 => ?_
  refine db_RcdI (mr' := dbm_291) (as := [.ref 669, .int x5, .int x6]) (rest := [.int q3]) (pc' := 742) (lv1 := [(0, .ref 0), (1, .ref 4), (2, .ref 669), (3, .int v3)]) rfl rfl rfl rfl rfl (db_f291_ok) fun q7 s8 => ?_
  refine db_Ric (pc' := 745) (tg := 2023) (lv1 := [(0, .ref 0), (1, .ref 4), (2, .ref 669), (3, .int v3)]) rfl rfl rfl rfl ?_ ?_
  · exact db_law_b2023_ok zh18
  refine db_Rgo (pc' := 746) (lv' := [(0, .ref 0), (1, .ref 4), (2, .ref 669), (3, .int v3)]) (st' := [.int (0 : Int32)]) 1 rfl ?_
  exact db_Rret (lv1 := [(0, .ref 0), (1, .ref 4), (2, .ref 669), (3, .int v3)]) rfl rfl rfl rfl
noncomputable def db_law_b747 (X : db_X) (h18 : db_S → Int32 → Option (Bool × db_S)) (s : db_S) (v3 : Int32) : Option (Bool × db_S) :=
  ((db_xX X (v3 + (1 : Int32))).bind fun x1 => (db_bd (db_f106 s x1) fun q2 s3 => ((db_xX X (v3 + (1 : Int32))).bind fun x4 => (db_bd (db_f293 s3 x4) fun q5 s6 => (cond (db_cnd .eq q2 q5) (db_law_b2023 X h18 s6 v3) (some (false, s6)))))))
set_option maxRecDepth 100000 in
set_option maxHeartbeats 8000000 in
theorem db_law_b747_ok {X : db_X} {d : Nat}  {h18 : db_S → Int32 → Option (Bool × db_S)} {s : db_S} {v3 : Int32} (zh18 : ∀ (s' : db_S) (v3 : Int32) , db_Rf X (d + 36) dbm_378 18 [(0, .ref 0), (1, .ref 4), (2, .ref 669), (3, .int v3)] [] s' db_zB (h18 s' v3)) : db_Rf X (d + 36) dbm_378 747 [(0, .ref 0), (1, .ref 4), (2, .ref 669), (3, .int v3)] [] s db_zB (db_law_b747 X h18 s v3) := by
  unfold db_law_b747
  refine db_Rgo (pc' := 752) (lv' := [(0, .ref 0), (1, .ref 4), (2, .ref 669), (3, .int v3)]) (st' := [.int (v3 + (1 : Int32)), .ref 0, .ref 4]) 5 rfl ?_
  refine db_RldX (pc' := 753) (lv1 := [(0, .ref 0), (1, .ref 4), (2, .ref 669), (3, .int v3)]) rfl rfl rfl fun x1 => ?_
  refine db_RcdI (mr' := dbm_106) (as := [.ref 4, .int x1]) (rest := []) (pc' := 756) (lv1 := [(0, .ref 0), (1, .ref 4), (2, .ref 669), (3, .int v3)]) rfl rfl rfl rfl rfl (db_f106_ok) fun q2 s3 => ?_
  refine db_Rgo (pc' := 761) (lv' := [(0, .ref 0), (1, .ref 4), (2, .ref 669), (3, .int v3)]) (st' := [.int (v3 + (1 : Int32)), .ref 0, .ref 669, .int q2]) 5 rfl ?_
  refine db_RldX (pc' := 762) (lv1 := [(0, .ref 0), (1, .ref 4), (2, .ref 669), (3, .int v3)]) rfl rfl rfl fun x4 => ?_
  refine db_RcdI (mr' := dbm_293) (as := [.ref 669, .int x4]) (rest := [.int q2]) (pc' := 765) (lv1 := [(0, .ref 0), (1, .ref 4), (2, .ref 669), (3, .int v3)]) rfl rfl rfl rfl rfl (db_f293_ok) fun q5 s6 => ?_
  refine db_Ric (pc' := 768) (tg := 2023) (lv1 := [(0, .ref 0), (1, .ref 4), (2, .ref 669), (3, .int v3)]) rfl rfl rfl rfl ?_ ?_
  · exact db_law_b2023_ok zh18
  refine db_Rgo (pc' := 769) (lv' := [(0, .ref 0), (1, .ref 4), (2, .ref 669), (3, .int v3)]) (st' := [.int (0 : Int32)]) 1 rfl ?_
  exact db_Rret (lv1 := [(0, .ref 0), (1, .ref 4), (2, .ref 669), (3, .int v3)]) rfl rfl rfl rfl
noncomputable def db_law_b770 (X : db_X) (h18 : db_S → Int32 → Option (Bool × db_S)) (s : db_S) (v3 : Int32) : Option (Bool × db_S) :=
  ((db_xX X (v3 + (1 : Int32))).bind fun x1 => ((db_xX X (v3 + (2 : Int32))).bind fun x2 => (db_bd (db_f107 s x1 x2) fun q3 s4 => ((db_xX X (v3 + (1 : Int32))).bind fun x5 => ((db_xX X (v3 + (2 : Int32))).bind fun x6 => (db_bd (db_f295 s4 x5 x6) fun q7 s8 => (cond (db_cnd .eq q3 q7) (db_law_b2023 X h18 s8 v3) (some (false, s8)))))))))
set_option maxRecDepth 100000 in
set_option maxHeartbeats 8000000 in
theorem db_law_b770_ok {X : db_X} {d : Nat}  {h18 : db_S → Int32 → Option (Bool × db_S)} {s : db_S} {v3 : Int32} (zh18 : ∀ (s' : db_S) (v3 : Int32) , db_Rf X (d + 36) dbm_378 18 [(0, .ref 0), (1, .ref 4), (2, .ref 669), (3, .int v3)] [] s' db_zB (h18 s' v3)) : db_Rf X (d + 36) dbm_378 770 [(0, .ref 0), (1, .ref 4), (2, .ref 669), (3, .int v3)] [] s db_zB (db_law_b770 X h18 s v3) := by
  unfold db_law_b770
  refine db_Rgo (pc' := 775) (lv' := [(0, .ref 0), (1, .ref 4), (2, .ref 669), (3, .int v3)]) (st' := [.int (v3 + (1 : Int32)), .ref 0, .ref 4]) 5 rfl ?_
  refine db_RldX (pc' := 776) (lv1 := [(0, .ref 0), (1, .ref 4), (2, .ref 669), (3, .int v3)]) rfl rfl rfl fun x1 => ?_
  refine db_Rgo (pc' := 780) (lv' := [(0, .ref 0), (1, .ref 4), (2, .ref 669), (3, .int v3)]) (st' := [.int (v3 + (2 : Int32)), .ref 0, .int x1, .ref 4]) 4 rfl ?_
  refine db_RldX (pc' := 781) (lv1 := [(0, .ref 0), (1, .ref 4), (2, .ref 669), (3, .int v3)]) rfl rfl rfl fun x2 => ?_
  refine db_RcdI (mr' := dbm_107) (as := [.ref 4, .int x1, .int x2]) (rest := []) (pc' := 784) (lv1 := [(0, .ref 0), (1, .ref 4), (2, .ref 669), (3, .int v3)]) rfl rfl rfl rfl rfl (db_f107_ok) fun q3 s4 => ?_
  refine db_Rgo (pc' := 789) (lv' := [(0, .ref 0), (1, .ref 4), (2, .ref 669), (3, .int v3)]) (st' := [.int (v3 + (1 : Int32)), .ref 0, .ref 669, .int q3]) 5 rfl ?_
  refine db_RldX (pc' := 790) (lv1 := [(0, .ref 0), (1, .ref 4), (2, .ref 669), (3, .int v3)]) rfl rfl rfl fun x5 => ?_
  refine db_Rgo (pc' := 794) (lv' := [(0, .ref 0), (1, .ref 4), (2, .ref 669), (3, .int v3)]) (st' := [.int (v3 + (2 : Int32)), .ref 0, .int x5, .ref 669, .int q3]) 4 rfl ?_
  refine db_RldX (pc' := 795) (lv1 := [(0, .ref 0), (1, .ref 4), (2, .ref 669), (3, .int v3)]) rfl rfl rfl fun x6 => ?_
  refine db_RcdI (mr' := dbm_295) (as := [.ref 669, .int x5, .int x6]) (rest := [.int q3]) (pc' := 798) (lv1 := [(0, .ref 0), (1, .ref 4), (2, .ref 669), (3, .int v3)]) rfl rfl rfl rfl rfl (db_f295_ok) fun q7 s8 => ?_
  refine db_Ric (pc' := 801) (tg := 2023) (lv1 := [(0, .ref 0), (1, .ref 4), (2, .ref 669), (3, .int v3)]) rfl rfl rfl rfl ?_ ?_
  · exact db_law_b2023_ok zh18
  refine db_Rgo (pc' := 802) (lv' := [(0, .ref 0), (1, .ref 4), (2, .ref 669), (3, .int v3)]) (st' := [.int (0 : Int32)]) 1 rfl ?_
  exact db_Rret (lv1 := [(0, .ref 0), (1, .ref 4), (2, .ref 669), (3, .int v3)]) rfl rfl rfl rfl
noncomputable def db_law_b803 (X : db_X) (h18 : db_S → Int32 → Option (Bool × db_S)) (s : db_S) (v3 : Int32) : Option (Bool × db_S) :=
  ((db_xX X (v3 + (1 : Int32))).bind fun x1 => ((db_xX X (v3 + (2 : Int32))).bind fun x2 => (db_bd (db_f108 s x1 x2) fun q3 s4 => ((db_xX X (v3 + (1 : Int32))).bind fun x5 => ((db_xX X (v3 + (2 : Int32))).bind fun x6 => (db_bd (db_f296 s4 x5 x6) fun q7 s8 => (cond (db_cnd .eq q3 q7) (db_law_b2023 X h18 s8 v3) (some (false, s8)))))))))
set_option maxRecDepth 100000 in
set_option maxHeartbeats 8000000 in
theorem db_law_b803_ok {X : db_X} {d : Nat}  {h18 : db_S → Int32 → Option (Bool × db_S)} {s : db_S} {v3 : Int32} (zh18 : ∀ (s' : db_S) (v3 : Int32) , db_Rf X (d + 36) dbm_378 18 [(0, .ref 0), (1, .ref 4), (2, .ref 669), (3, .int v3)] [] s' db_zB (h18 s' v3)) : db_Rf X (d + 36) dbm_378 803 [(0, .ref 0), (1, .ref 4), (2, .ref 669), (3, .int v3)] [] s db_zB (db_law_b803 X h18 s v3) := by
  unfold db_law_b803
  refine db_Rgo (pc' := 808) (lv' := [(0, .ref 0), (1, .ref 4), (2, .ref 669), (3, .int v3)]) (st' := [.int (v3 + (1 : Int32)), .ref 0, .ref 4]) 5 rfl ?_
  refine db_RldX (pc' := 809) (lv1 := [(0, .ref 0), (1, .ref 4), (2, .ref 669), (3, .int v3)]) rfl rfl rfl fun x1 => ?_
  refine db_Rgo (pc' := 813) (lv' := [(0, .ref 0), (1, .ref 4), (2, .ref 669), (3, .int v3)]) (st' := [.int (v3 + (2 : Int32)), .ref 0, .int x1, .ref 4]) 4 rfl ?_
  refine db_RldX (pc' := 814) (lv1 := [(0, .ref 0), (1, .ref 4), (2, .ref 669), (3, .int v3)]) rfl rfl rfl fun x2 => ?_
  refine db_RcdI (mr' := dbm_108) (as := [.ref 4, .int x1, .int x2]) (rest := []) (pc' := 817) (lv1 := [(0, .ref 0), (1, .ref 4), (2, .ref 669), (3, .int v3)]) rfl rfl rfl rfl rfl (db_f108_ok) fun q3 s4 => ?_
  refine db_Rgo (pc' := 822) (lv' := [(0, .ref 0), (1, .ref 4), (2, .ref 669), (3, .int v3)]) (st' := [.int (v3 + (1 : Int32)), .ref 0, .ref 669, .int q3]) 5 rfl ?_
  refine db_RldX (pc' := 823) (lv1 := [(0, .ref 0), (1, .ref 4), (2, .ref 669), (3, .int v3)]) rfl rfl rfl fun x5 => ?_
  refine db_Rgo (pc' := 827) (lv' := [(0, .ref 0), (1, .ref 4), (2, .ref 669), (3, .int v3)]) (st' := [.int (v3 + (2 : Int32)), .ref 0, .int x5, .ref 669, .int q3]) 4 rfl ?_
  refine db_RldX (pc' := 828) (lv1 := [(0, .ref 0), (1, .ref 4), (2, .ref 669), (3, .int v3)]) rfl rfl rfl fun x6 => ?_
  refine db_RcdI (mr' := dbm_296) (as := [.ref 669, .int x5, .int x6]) (rest := [.int q3]) (pc' := 831) (lv1 := [(0, .ref 0), (1, .ref 4), (2, .ref 669), (3, .int v3)]) rfl rfl rfl rfl rfl (db_f296_ok) fun q7 s8 => ?_
  refine db_Ric (pc' := 834) (tg := 2023) (lv1 := [(0, .ref 0), (1, .ref 4), (2, .ref 669), (3, .int v3)]) rfl rfl rfl rfl ?_ ?_
  · exact db_law_b2023_ok zh18
  refine db_Rgo (pc' := 835) (lv' := [(0, .ref 0), (1, .ref 4), (2, .ref 669), (3, .int v3)]) (st' := [.int (0 : Int32)]) 1 rfl ?_
  exact db_Rret (lv1 := [(0, .ref 0), (1, .ref 4), (2, .ref 669), (3, .int v3)]) rfl rfl rfl rfl
noncomputable def db_law_b836 (X : db_X) (h18 : db_S → Int32 → Option (Bool × db_S)) (s : db_S) (v3 : Int32) : Option (Bool × db_S) :=
  ((db_xX X (v3 + (1 : Int32))).bind fun x1 => ((db_xX X (v3 + (2 : Int32))).bind fun x2 => (db_bd (db_f109 s x1 x2) fun q3 s4 => ((db_xX X (v3 + (1 : Int32))).bind fun x5 => ((db_xX X (v3 + (2 : Int32))).bind fun x6 => (db_bd (db_f298 s4 x5 x6) fun q7 s8 => (cond (db_cnd .eq q3 q7) (db_law_b2023 X h18 s8 v3) (some (false, s8)))))))))
set_option maxRecDepth 100000 in
set_option maxHeartbeats 8000000 in
theorem db_law_b836_ok {X : db_X} {d : Nat}  {h18 : db_S → Int32 → Option (Bool × db_S)} {s : db_S} {v3 : Int32} (zh18 : ∀ (s' : db_S) (v3 : Int32) , db_Rf X (d + 36) dbm_378 18 [(0, .ref 0), (1, .ref 4), (2, .ref 669), (3, .int v3)] [] s' db_zB (h18 s' v3)) : db_Rf X (d + 36) dbm_378 836 [(0, .ref 0), (1, .ref 4), (2, .ref 669), (3, .int v3)] [] s db_zB (db_law_b836 X h18 s v3) := by
  unfold db_law_b836
  refine db_Rgo (pc' := 841) (lv' := [(0, .ref 0), (1, .ref 4), (2, .ref 669), (3, .int v3)]) (st' := [.int (v3 + (1 : Int32)), .ref 0, .ref 4]) 5 rfl ?_
  refine db_RldX (pc' := 842) (lv1 := [(0, .ref 0), (1, .ref 4), (2, .ref 669), (3, .int v3)]) rfl rfl rfl fun x1 => ?_
  refine db_Rgo (pc' := 846) (lv' := [(0, .ref 0), (1, .ref 4), (2, .ref 669), (3, .int v3)]) (st' := [.int (v3 + (2 : Int32)), .ref 0, .int x1, .ref 4]) 4 rfl ?_
  refine db_RldX (pc' := 847) (lv1 := [(0, .ref 0), (1, .ref 4), (2, .ref 669), (3, .int v3)]) rfl rfl rfl fun x2 => ?_
  refine db_RcdI (mr' := dbm_109) (as := [.ref 4, .int x1, .int x2]) (rest := []) (pc' := 850) (lv1 := [(0, .ref 0), (1, .ref 4), (2, .ref 669), (3, .int v3)]) rfl rfl rfl rfl rfl (db_f109_ok) fun q3 s4 => ?_
  refine db_Rgo (pc' := 855) (lv' := [(0, .ref 0), (1, .ref 4), (2, .ref 669), (3, .int v3)]) (st' := [.int (v3 + (1 : Int32)), .ref 0, .ref 669, .int q3]) 5 rfl ?_
  refine db_RldX (pc' := 856) (lv1 := [(0, .ref 0), (1, .ref 4), (2, .ref 669), (3, .int v3)]) rfl rfl rfl fun x5 => ?_
  refine db_Rgo (pc' := 860) (lv' := [(0, .ref 0), (1, .ref 4), (2, .ref 669), (3, .int v3)]) (st' := [.int (v3 + (2 : Int32)), .ref 0, .int x5, .ref 669, .int q3]) 4 rfl ?_
  refine db_RldX (pc' := 861) (lv1 := [(0, .ref 0), (1, .ref 4), (2, .ref 669), (3, .int v3)]) rfl rfl rfl fun x6 => ?_
  refine db_RcdI (mr' := dbm_298) (as := [.ref 669, .int x5, .int x6]) (rest := [.int q3]) (pc' := 864) (lv1 := [(0, .ref 0), (1, .ref 4), (2, .ref 669), (3, .int v3)]) rfl rfl rfl rfl rfl (db_f298_ok) fun q7 s8 => ?_
  refine db_Ric (pc' := 867) (tg := 2023) (lv1 := [(0, .ref 0), (1, .ref 4), (2, .ref 669), (3, .int v3)]) rfl rfl rfl rfl ?_ ?_
  · exact db_law_b2023_ok zh18
  refine db_Rgo (pc' := 868) (lv' := [(0, .ref 0), (1, .ref 4), (2, .ref 669), (3, .int v3)]) (st' := [.int (0 : Int32)]) 1 rfl ?_
  exact db_Rret (lv1 := [(0, .ref 0), (1, .ref 4), (2, .ref 669), (3, .int v3)]) rfl rfl rfl rfl
noncomputable def db_law_b869 (X : db_X) (h18 : db_S → Int32 → Option (Bool × db_S)) (s : db_S) (v3 : Int32) : Option (Bool × db_S) :=
  ((db_xX X (v3 + (1 : Int32))).bind fun x1 => ((db_xX X (v3 + (2 : Int32))).bind fun x2 => (db_bd (db_f110 s x1 x2) fun q3 s4 => ((db_xX X (v3 + (1 : Int32))).bind fun x5 => ((db_xX X (v3 + (2 : Int32))).bind fun x6 => (db_bd (db_f300 s4 x5 x6) fun q7 s8 => (cond (db_cnd .eq q3 q7) (db_law_b2023 X h18 s8 v3) (some (false, s8)))))))))
set_option maxRecDepth 100000 in
set_option maxHeartbeats 8000000 in
theorem db_law_b869_ok {X : db_X} {d : Nat}  {h18 : db_S → Int32 → Option (Bool × db_S)} {s : db_S} {v3 : Int32} (zh18 : ∀ (s' : db_S) (v3 : Int32) , db_Rf X (d + 36) dbm_378 18 [(0, .ref 0), (1, .ref 4), (2, .ref 669), (3, .int v3)] [] s' db_zB (h18 s' v3)) : db_Rf X (d + 36) dbm_378 869 [(0, .ref 0), (1, .ref 4), (2, .ref 669), (3, .int v3)] [] s db_zB (db_law_b869 X h18 s v3) := by
  unfold db_law_b869
  refine db_Rgo (pc' := 874) (lv' := [(0, .ref 0), (1, .ref 4), (2, .ref 669), (3, .int v3)]) (st' := [.int (v3 + (1 : Int32)), .ref 0, .ref 4]) 5 rfl ?_
  refine db_RldX (pc' := 875) (lv1 := [(0, .ref 0), (1, .ref 4), (2, .ref 669), (3, .int v3)]) rfl rfl rfl fun x1 => ?_
  refine db_Rgo (pc' := 879) (lv' := [(0, .ref 0), (1, .ref 4), (2, .ref 669), (3, .int v3)]) (st' := [.int (v3 + (2 : Int32)), .ref 0, .int x1, .ref 4]) 4 rfl ?_
  refine db_RldX (pc' := 880) (lv1 := [(0, .ref 0), (1, .ref 4), (2, .ref 669), (3, .int v3)]) rfl rfl rfl fun x2 => ?_
  refine db_RcdI (mr' := dbm_110) (as := [.ref 4, .int x1, .int x2]) (rest := []) (pc' := 883) (lv1 := [(0, .ref 0), (1, .ref 4), (2, .ref 669), (3, .int v3)]) rfl rfl rfl rfl rfl (db_f110_ok) fun q3 s4 => ?_
  refine db_Rgo (pc' := 888) (lv' := [(0, .ref 0), (1, .ref 4), (2, .ref 669), (3, .int v3)]) (st' := [.int (v3 + (1 : Int32)), .ref 0, .ref 669, .int q3]) 5 rfl ?_
  refine db_RldX (pc' := 889) (lv1 := [(0, .ref 0), (1, .ref 4), (2, .ref 669), (3, .int v3)]) rfl rfl rfl fun x5 => ?_
  refine db_Rgo (pc' := 893) (lv' := [(0, .ref 0), (1, .ref 4), (2, .ref 669), (3, .int v3)]) (st' := [.int (v3 + (2 : Int32)), .ref 0, .int x5, .ref 669, .int q3]) 4 rfl ?_
  refine db_RldX (pc' := 894) (lv1 := [(0, .ref 0), (1, .ref 4), (2, .ref 669), (3, .int v3)]) rfl rfl rfl fun x6 => ?_
  refine db_RcdI (mr' := dbm_300) (as := [.ref 669, .int x5, .int x6]) (rest := [.int q3]) (pc' := 897) (lv1 := [(0, .ref 0), (1, .ref 4), (2, .ref 669), (3, .int v3)]) rfl rfl rfl rfl rfl (db_f300_ok) fun q7 s8 => ?_
  refine db_Ric (pc' := 900) (tg := 2023) (lv1 := [(0, .ref 0), (1, .ref 4), (2, .ref 669), (3, .int v3)]) rfl rfl rfl rfl ?_ ?_
  · exact db_law_b2023_ok zh18
  refine db_Rgo (pc' := 901) (lv' := [(0, .ref 0), (1, .ref 4), (2, .ref 669), (3, .int v3)]) (st' := [.int (0 : Int32)]) 1 rfl ?_
  exact db_Rret (lv1 := [(0, .ref 0), (1, .ref 4), (2, .ref 669), (3, .int v3)]) rfl rfl rfl rfl
noncomputable def db_law_b902 (X : db_X) (h18 : db_S → Int32 → Option (Bool × db_S)) (s : db_S) (v3 : Int32) : Option (Bool × db_S) :=
  ((db_xX X (v3 + (1 : Int32))).bind fun x1 => (db_bd (db_f111 s x1) fun q2 s3 => ((db_xX X (v3 + (1 : Int32))).bind fun x4 => (db_bd (db_f302 s3 x4) fun q5 s6 => (cond (db_cnd .eq q2 q5) (db_law_b2023 X h18 s6 v3) (some (false, s6)))))))
set_option maxRecDepth 100000 in
set_option maxHeartbeats 8000000 in
theorem db_law_b902_ok {X : db_X} {d : Nat}  {h18 : db_S → Int32 → Option (Bool × db_S)} {s : db_S} {v3 : Int32} (zh18 : ∀ (s' : db_S) (v3 : Int32) , db_Rf X (d + 36) dbm_378 18 [(0, .ref 0), (1, .ref 4), (2, .ref 669), (3, .int v3)] [] s' db_zB (h18 s' v3)) : db_Rf X (d + 36) dbm_378 902 [(0, .ref 0), (1, .ref 4), (2, .ref 669), (3, .int v3)] [] s db_zB (db_law_b902 X h18 s v3) := by
  unfold db_law_b902
  refine db_Rgo (pc' := 907) (lv' := [(0, .ref 0), (1, .ref 4), (2, .ref 669), (3, .int v3)]) (st' := [.int (v3 + (1 : Int32)), .ref 0, .ref 4]) 5 rfl ?_
  refine db_RldX (pc' := 908) (lv1 := [(0, .ref 0), (1, .ref 4), (2, .ref 669), (3, .int v3)]) rfl rfl rfl fun x1 => ?_
  refine db_RcdI (mr' := dbm_111) (as := [.ref 4, .int x1]) (rest := []) (pc' := 911) (lv1 := [(0, .ref 0), (1, .ref 4), (2, .ref 669), (3, .int v3)]) rfl rfl rfl rfl rfl (db_f111_ok) fun q2 s3 => ?_
  refine db_Rgo (pc' := 916) (lv' := [(0, .ref 0), (1, .ref 4), (2, .ref 669), (3, .int v3)]) (st' := [.int (v3 + (1 : Int32)), .ref 0, .ref 669, .int q2]) 5 rfl ?_
  refine db_RldX (pc' := 917) (lv1 := [(0, .ref 0), (1, .ref 4), (2, .ref 669), (3, .int v3)]) rfl rfl rfl fun x4 => ?_
  refine db_RcdI (mr' := dbm_302) (as := [.ref 669, .int x4]) (rest := [.int q2]) (pc' := 920) (lv1 := [(0, .ref 0), (1, .ref 4), (2, .ref 669), (3, .int v3)]) rfl rfl rfl rfl rfl (db_f302_ok) fun q5 s6 => ?_
  refine db_Ric (pc' := 923) (tg := 2023) (lv1 := [(0, .ref 0), (1, .ref 4), (2, .ref 669), (3, .int v3)]) rfl rfl rfl rfl ?_ ?_
  · exact db_law_b2023_ok zh18
  refine db_Rgo (pc' := 924) (lv' := [(0, .ref 0), (1, .ref 4), (2, .ref 669), (3, .int v3)]) (st' := [.int (0 : Int32)]) 1 rfl ?_
  exact db_Rret (lv1 := [(0, .ref 0), (1, .ref 4), (2, .ref 669), (3, .int v3)]) rfl rfl rfl rfl
noncomputable def db_law_b925 (X : db_X) (h18 : db_S → Int32 → Option (Bool × db_S)) (s : db_S) (v3 : Int32) : Option (Bool × db_S) :=
  (db_bd (db_f113 s) fun q1 s2 => (db_bd (db_f303 s2) fun q3 s4 => (cond (db_cnd .eq q1 q3) (db_law_b2023 X h18 s4 v3) (some (false, s4)))))
set_option maxRecDepth 100000 in
set_option maxHeartbeats 8000000 in
theorem db_law_b925_ok {X : db_X} {d : Nat}  {h18 : db_S → Int32 → Option (Bool × db_S)} {s : db_S} {v3 : Int32} (zh18 : ∀ (s' : db_S) (v3 : Int32) , db_Rf X (d + 36) dbm_378 18 [(0, .ref 0), (1, .ref 4), (2, .ref 669), (3, .int v3)] [] s' db_zB (h18 s' v3)) : db_Rf X (d + 36) dbm_378 925 [(0, .ref 0), (1, .ref 4), (2, .ref 669), (3, .int v3)] [] s db_zB (db_law_b925 X h18 s v3) := by
  unfold db_law_b925
  refine db_Rgo (pc' := 926) (lv' := [(0, .ref 0), (1, .ref 4), (2, .ref 669), (3, .int v3)]) (st' := [.ref 4]) 1 rfl ?_
  refine db_RcdI (mr' := dbm_113) (as := [.ref 4]) (rest := []) (pc' := 929) (lv1 := [(0, .ref 0), (1, .ref 4), (2, .ref 669), (3, .int v3)]) rfl rfl rfl rfl rfl (db_f113_ok) fun q1 s2 => ?_
  refine db_Rgo (pc' := 930) (lv' := [(0, .ref 0), (1, .ref 4), (2, .ref 669), (3, .int v3)]) (st' := [.ref 669, .int q1]) 1 rfl ?_
  refine db_RcdI (mr' := dbm_303) (as := [.ref 669]) (rest := [.int q1]) (pc' := 933) (lv1 := [(0, .ref 0), (1, .ref 4), (2, .ref 669), (3, .int v3)]) rfl rfl rfl rfl rfl (db_f303_ok) fun q3 s4 => ?_
  refine db_Ric (pc' := 936) (tg := 2023) (lv1 := [(0, .ref 0), (1, .ref 4), (2, .ref 669), (3, .int v3)]) rfl rfl rfl rfl ?_ ?_
  · exact db_law_b2023_ok zh18
  refine db_Rgo (pc' := 937) (lv' := [(0, .ref 0), (1, .ref 4), (2, .ref 669), (3, .int v3)]) (st' := [.int (0 : Int32)]) 1 rfl ?_
  exact db_Rret (lv1 := [(0, .ref 0), (1, .ref 4), (2, .ref 669), (3, .int v3)]) rfl rfl rfl rfl
noncomputable def db_law_b938 (X : db_X) (h18 : db_S → Int32 → Option (Bool × db_S)) (s : db_S) (v3 : Int32) : Option (Bool × db_S) :=
  ((db_xX X (v3 + (1 : Int32))).bind fun x1 => (db_bd (db_f117 s x1) fun q2 s3 => ((db_xX X (v3 + (1 : Int32))).bind fun x4 => (db_bd (db_f307 s3 x4) fun q5 s6 => (cond (db_cnd .eq q2 q5) (db_law_b2023 X h18 s6 v3) (some (false, s6)))))))
set_option maxRecDepth 100000 in
set_option maxHeartbeats 8000000 in
theorem db_law_b938_ok {X : db_X} {d : Nat}  {h18 : db_S → Int32 → Option (Bool × db_S)} {s : db_S} {v3 : Int32} (zh18 : ∀ (s' : db_S) (v3 : Int32) , db_Rf X (d + 36) dbm_378 18 [(0, .ref 0), (1, .ref 4), (2, .ref 669), (3, .int v3)] [] s' db_zB (h18 s' v3)) : db_Rf X (d + 36) dbm_378 938 [(0, .ref 0), (1, .ref 4), (2, .ref 669), (3, .int v3)] [] s db_zB (db_law_b938 X h18 s v3) := by
  unfold db_law_b938
  refine db_Rgo (pc' := 943) (lv' := [(0, .ref 0), (1, .ref 4), (2, .ref 669), (3, .int v3)]) (st' := [.int (v3 + (1 : Int32)), .ref 0, .ref 4]) 5 rfl ?_
  refine db_RldX (pc' := 944) (lv1 := [(0, .ref 0), (1, .ref 4), (2, .ref 669), (3, .int v3)]) rfl rfl rfl fun x1 => ?_
  refine db_RcdI (mr' := dbm_117) (as := [.ref 4, .int x1]) (rest := []) (pc' := 947) (lv1 := [(0, .ref 0), (1, .ref 4), (2, .ref 669), (3, .int v3)]) rfl rfl rfl rfl rfl (db_f117_ok) fun q2 s3 => ?_
  refine db_Rgo (pc' := 952) (lv' := [(0, .ref 0), (1, .ref 4), (2, .ref 669), (3, .int v3)]) (st' := [.int (v3 + (1 : Int32)), .ref 0, .ref 669, .int q2]) 5 rfl ?_
  refine db_RldX (pc' := 953) (lv1 := [(0, .ref 0), (1, .ref 4), (2, .ref 669), (3, .int v3)]) rfl rfl rfl fun x4 => ?_
  refine db_RcdI (mr' := dbm_307) (as := [.ref 669, .int x4]) (rest := [.int q2]) (pc' := 956) (lv1 := [(0, .ref 0), (1, .ref 4), (2, .ref 669), (3, .int v3)]) rfl rfl rfl rfl rfl (db_f307_ok) fun q5 s6 => ?_
  refine db_Ric (pc' := 959) (tg := 2023) (lv1 := [(0, .ref 0), (1, .ref 4), (2, .ref 669), (3, .int v3)]) rfl rfl rfl rfl ?_ ?_
  · exact db_law_b2023_ok zh18
  refine db_Rgo (pc' := 960) (lv' := [(0, .ref 0), (1, .ref 4), (2, .ref 669), (3, .int v3)]) (st' := [.int (0 : Int32)]) 1 rfl ?_
  exact db_Rret (lv1 := [(0, .ref 0), (1, .ref 4), (2, .ref 669), (3, .int v3)]) rfl rfl rfl rfl
noncomputable def db_law_b961 (X : db_X) (h18 : db_S → Int32 → Option (Bool × db_S)) (s : db_S) (v3 : Int32) : Option (Bool × db_S) :=
  ((db_xX X (v3 + (1 : Int32))).bind fun x1 => ((db_xX X (v3 + (2 : Int32))).bind fun x2 => (db_bd (db_f119 s x1 x2) fun q3 s4 => ((db_xX X (v3 + (1 : Int32))).bind fun x5 => ((db_xX X (v3 + (2 : Int32))).bind fun x6 => (db_bd (db_f308 s4 x5 x6) fun q7 s8 => (cond (db_cnd .eq q3 q7) (db_law_b2023 X h18 s8 v3) (some (false, s8)))))))))
set_option maxRecDepth 100000 in
set_option maxHeartbeats 8000000 in
theorem db_law_b961_ok {X : db_X} {d : Nat}  {h18 : db_S → Int32 → Option (Bool × db_S)} {s : db_S} {v3 : Int32} (zh18 : ∀ (s' : db_S) (v3 : Int32) , db_Rf X (d + 36) dbm_378 18 [(0, .ref 0), (1, .ref 4), (2, .ref 669), (3, .int v3)] [] s' db_zB (h18 s' v3)) : db_Rf X (d + 36) dbm_378 961 [(0, .ref 0), (1, .ref 4), (2, .ref 669), (3, .int v3)] [] s db_zB (db_law_b961 X h18 s v3) := by
  unfold db_law_b961
  refine db_Rgo (pc' := 966) (lv' := [(0, .ref 0), (1, .ref 4), (2, .ref 669), (3, .int v3)]) (st' := [.int (v3 + (1 : Int32)), .ref 0, .ref 4]) 5 rfl ?_
  refine db_RldX (pc' := 967) (lv1 := [(0, .ref 0), (1, .ref 4), (2, .ref 669), (3, .int v3)]) rfl rfl rfl fun x1 => ?_
  refine db_Rgo (pc' := 971) (lv' := [(0, .ref 0), (1, .ref 4), (2, .ref 669), (3, .int v3)]) (st' := [.int (v3 + (2 : Int32)), .ref 0, .int x1, .ref 4]) 4 rfl ?_
  refine db_RldX (pc' := 972) (lv1 := [(0, .ref 0), (1, .ref 4), (2, .ref 669), (3, .int v3)]) rfl rfl rfl fun x2 => ?_
  refine db_RcdI (mr' := dbm_119) (as := [.ref 4, .int x1, .int x2]) (rest := []) (pc' := 975) (lv1 := [(0, .ref 0), (1, .ref 4), (2, .ref 669), (3, .int v3)]) rfl rfl rfl rfl rfl (db_f119_ok) fun q3 s4 => ?_
  refine db_Rgo (pc' := 980) (lv' := [(0, .ref 0), (1, .ref 4), (2, .ref 669), (3, .int v3)]) (st' := [.int (v3 + (1 : Int32)), .ref 0, .ref 669, .int q3]) 5 rfl ?_
  refine db_RldX (pc' := 981) (lv1 := [(0, .ref 0), (1, .ref 4), (2, .ref 669), (3, .int v3)]) rfl rfl rfl fun x5 => ?_
  refine db_Rgo (pc' := 985) (lv' := [(0, .ref 0), (1, .ref 4), (2, .ref 669), (3, .int v3)]) (st' := [.int (v3 + (2 : Int32)), .ref 0, .int x5, .ref 669, .int q3]) 4 rfl ?_
  refine db_RldX (pc' := 986) (lv1 := [(0, .ref 0), (1, .ref 4), (2, .ref 669), (3, .int v3)]) rfl rfl rfl fun x6 => ?_
  refine db_RcdI (mr' := dbm_308) (as := [.ref 669, .int x5, .int x6]) (rest := [.int q3]) (pc' := 989) (lv1 := [(0, .ref 0), (1, .ref 4), (2, .ref 669), (3, .int v3)]) rfl rfl rfl rfl rfl (db_f308_ok) fun q7 s8 => ?_
  refine db_Ric (pc' := 992) (tg := 2023) (lv1 := [(0, .ref 0), (1, .ref 4), (2, .ref 669), (3, .int v3)]) rfl rfl rfl rfl ?_ ?_
  · exact db_law_b2023_ok zh18
  refine db_Rgo (pc' := 993) (lv' := [(0, .ref 0), (1, .ref 4), (2, .ref 669), (3, .int v3)]) (st' := [.int (0 : Int32)]) 1 rfl ?_
  exact db_Rret (lv1 := [(0, .ref 0), (1, .ref 4), (2, .ref 669), (3, .int v3)]) rfl rfl rfl rfl
noncomputable def db_law_b994 (X : db_X) (h18 : db_S → Int32 → Option (Bool × db_S)) (s : db_S) (v3 : Int32) : Option (Bool × db_S) :=
  ((db_xX X (v3 + (1 : Int32))).bind fun x1 => (db_bd (db_f120 s x1) fun q2 s3 => ((db_xX X (v3 + (1 : Int32))).bind fun x4 => (db_bd (db_f309 s3 x4) fun q5 s6 => (cond (db_cnd .eq (db_i q2) (db_i q5)) (db_law_b2023 X h18 s6 v3) (some (false, s6)))))))
set_option maxRecDepth 100000 in
set_option maxHeartbeats 8000000 in
theorem db_law_b994_ok {X : db_X} {d : Nat}  {h18 : db_S → Int32 → Option (Bool × db_S)} {s : db_S} {v3 : Int32} (zh18 : ∀ (s' : db_S) (v3 : Int32) , db_Rf X (d + 36) dbm_378 18 [(0, .ref 0), (1, .ref 4), (2, .ref 669), (3, .int v3)] [] s' db_zB (h18 s' v3)) : db_Rf X (d + 36) dbm_378 994 [(0, .ref 0), (1, .ref 4), (2, .ref 669), (3, .int v3)] [] s db_zB (db_law_b994 X h18 s v3) := by
  unfold db_law_b994
  refine db_Rgo (pc' := 999) (lv' := [(0, .ref 0), (1, .ref 4), (2, .ref 669), (3, .int v3)]) (st' := [.int (v3 + (1 : Int32)), .ref 0, .ref 4]) 5 rfl ?_
  refine db_RldX (pc' := 1000) (lv1 := [(0, .ref 0), (1, .ref 4), (2, .ref 669), (3, .int v3)]) rfl rfl rfl fun x1 => ?_
  refine db_RcdB (mr' := dbm_120) (as := [.ref 4, .int x1]) (rest := []) (pc' := 1003) (lv1 := [(0, .ref 0), (1, .ref 4), (2, .ref 669), (3, .int v3)]) rfl rfl rfl rfl rfl (db_f120_ok) fun q2 s3 => ?_
  refine db_Rgo (pc' := 1008) (lv' := [(0, .ref 0), (1, .ref 4), (2, .ref 669), (3, .int v3)]) (st' := [.int (v3 + (1 : Int32)), .ref 0, .ref 669, .int (db_i q2)]) 5 rfl ?_
  refine db_RldX (pc' := 1009) (lv1 := [(0, .ref 0), (1, .ref 4), (2, .ref 669), (3, .int v3)]) rfl rfl rfl fun x4 => ?_
  refine db_RcdB (mr' := dbm_309) (as := [.ref 669, .int x4]) (rest := [.int (db_i q2)]) (pc' := 1012) (lv1 := [(0, .ref 0), (1, .ref 4), (2, .ref 669), (3, .int v3)]) rfl rfl rfl rfl rfl (db_f309_ok) fun q5 s6 => ?_
  refine db_Ric (pc' := 1015) (tg := 2023) (lv1 := [(0, .ref 0), (1, .ref 4), (2, .ref 669), (3, .int v3)]) rfl rfl rfl rfl ?_ ?_
  · exact db_law_b2023_ok zh18
  refine db_Rgo (pc' := 1016) (lv' := [(0, .ref 0), (1, .ref 4), (2, .ref 669), (3, .int v3)]) (st' := [.int (0 : Int32)]) 1 rfl ?_
  exact db_Rret (lv1 := [(0, .ref 0), (1, .ref 4), (2, .ref 669), (3, .int v3)]) rfl rfl rfl rfl
noncomputable def db_law_b1017 (X : db_X) (h18 : db_S → Int32 → Option (Bool × db_S)) (s : db_S) (v3 : Int32) : Option (Bool × db_S) :=
  ((db_xX X (v3 + (1 : Int32))).bind fun x1 => (db_bd (db_f122 s x1) fun q2 s3 => ((db_xX X (v3 + (1 : Int32))).bind fun x4 => (db_bd (db_f311 s3 x4) fun q5 s6 => (cond (db_cnd .eq (db_i q2) (db_i q5)) (db_law_b2023 X h18 s6 v3) (some (false, s6)))))))
set_option maxRecDepth 100000 in
set_option maxHeartbeats 8000000 in
theorem db_law_b1017_ok {X : db_X} {d : Nat}  {h18 : db_S → Int32 → Option (Bool × db_S)} {s : db_S} {v3 : Int32} (zh18 : ∀ (s' : db_S) (v3 : Int32) , db_Rf X (d + 36) dbm_378 18 [(0, .ref 0), (1, .ref 4), (2, .ref 669), (3, .int v3)] [] s' db_zB (h18 s' v3)) : db_Rf X (d + 36) dbm_378 1017 [(0, .ref 0), (1, .ref 4), (2, .ref 669), (3, .int v3)] [] s db_zB (db_law_b1017 X h18 s v3) := by
  unfold db_law_b1017
  refine db_Rgo (pc' := 1022) (lv' := [(0, .ref 0), (1, .ref 4), (2, .ref 669), (3, .int v3)]) (st' := [.int (v3 + (1 : Int32)), .ref 0, .ref 4]) 5 rfl ?_
  refine db_RldX (pc' := 1023) (lv1 := [(0, .ref 0), (1, .ref 4), (2, .ref 669), (3, .int v3)]) rfl rfl rfl fun x1 => ?_
  refine db_RcdB (mr' := dbm_122) (as := [.ref 4, .int x1]) (rest := []) (pc' := 1026) (lv1 := [(0, .ref 0), (1, .ref 4), (2, .ref 669), (3, .int v3)]) rfl rfl rfl rfl rfl (db_f122_ok) fun q2 s3 => ?_
  refine db_Rgo (pc' := 1031) (lv' := [(0, .ref 0), (1, .ref 4), (2, .ref 669), (3, .int v3)]) (st' := [.int (v3 + (1 : Int32)), .ref 0, .ref 669, .int (db_i q2)]) 5 rfl ?_
  refine db_RldX (pc' := 1032) (lv1 := [(0, .ref 0), (1, .ref 4), (2, .ref 669), (3, .int v3)]) rfl rfl rfl fun x4 => ?_
  refine db_RcdB (mr' := dbm_311) (as := [.ref 669, .int x4]) (rest := [.int (db_i q2)]) (pc' := 1035) (lv1 := [(0, .ref 0), (1, .ref 4), (2, .ref 669), (3, .int v3)]) rfl rfl rfl rfl rfl (db_f311_ok) fun q5 s6 => ?_
  refine db_Ric (pc' := 1038) (tg := 2023) (lv1 := [(0, .ref 0), (1, .ref 4), (2, .ref 669), (3, .int v3)]) rfl rfl rfl rfl ?_ ?_
  · exact db_law_b2023_ok zh18
  refine db_Rgo (pc' := 1039) (lv' := [(0, .ref 0), (1, .ref 4), (2, .ref 669), (3, .int v3)]) (st' := [.int (0 : Int32)]) 1 rfl ?_
  exact db_Rret (lv1 := [(0, .ref 0), (1, .ref 4), (2, .ref 669), (3, .int v3)]) rfl rfl rfl rfl
noncomputable def db_law_b1040 (X : db_X) (h18 : db_S → Int32 → Option (Bool × db_S)) (s : db_S) (v3 : Int32) : Option (Bool × db_S) :=
  ((db_xX X (v3 + (1 : Int32))).bind fun x1 => (db_bd (db_f123 s x1) fun q2 s3 => ((db_xX X (v3 + (1 : Int32))).bind fun x4 => (db_bd (db_f312 s3 x4) fun q5 s6 => (cond (db_cnd .eq q2 q5) (db_law_b2023 X h18 s6 v3) (some (false, s6)))))))
set_option maxRecDepth 100000 in
set_option maxHeartbeats 8000000 in
theorem db_law_b1040_ok {X : db_X} {d : Nat}  {h18 : db_S → Int32 → Option (Bool × db_S)} {s : db_S} {v3 : Int32} (zh18 : ∀ (s' : db_S) (v3 : Int32) , db_Rf X (d + 36) dbm_378 18 [(0, .ref 0), (1, .ref 4), (2, .ref 669), (3, .int v3)] [] s' db_zB (h18 s' v3)) : db_Rf X (d + 36) dbm_378 1040 [(0, .ref 0), (1, .ref 4), (2, .ref 669), (3, .int v3)] [] s db_zB (db_law_b1040 X h18 s v3) := by
  unfold db_law_b1040
  refine db_Rgo (pc' := 1045) (lv' := [(0, .ref 0), (1, .ref 4), (2, .ref 669), (3, .int v3)]) (st' := [.int (v3 + (1 : Int32)), .ref 0, .ref 4]) 5 rfl ?_
  refine db_RldX (pc' := 1046) (lv1 := [(0, .ref 0), (1, .ref 4), (2, .ref 669), (3, .int v3)]) rfl rfl rfl fun x1 => ?_
  refine db_RcdI (mr' := dbm_123) (as := [.ref 4, .int x1]) (rest := []) (pc' := 1049) (lv1 := [(0, .ref 0), (1, .ref 4), (2, .ref 669), (3, .int v3)]) rfl rfl rfl rfl rfl (db_f123_ok) fun q2 s3 => ?_
  refine db_Rgo (pc' := 1054) (lv' := [(0, .ref 0), (1, .ref 4), (2, .ref 669), (3, .int v3)]) (st' := [.int (v3 + (1 : Int32)), .ref 0, .ref 669, .int q2]) 5 rfl ?_
  refine db_RldX (pc' := 1055) (lv1 := [(0, .ref 0), (1, .ref 4), (2, .ref 669), (3, .int v3)]) rfl rfl rfl fun x4 => ?_
  refine db_RcdI (mr' := dbm_312) (as := [.ref 669, .int x4]) (rest := [.int q2]) (pc' := 1058) (lv1 := [(0, .ref 0), (1, .ref 4), (2, .ref 669), (3, .int v3)]) rfl rfl rfl rfl rfl (db_f312_ok) fun q5 s6 => ?_
  refine db_Ric (pc' := 1061) (tg := 2023) (lv1 := [(0, .ref 0), (1, .ref 4), (2, .ref 669), (3, .int v3)]) rfl rfl rfl rfl ?_ ?_
  · exact db_law_b2023_ok zh18
  refine db_Rgo (pc' := 1062) (lv' := [(0, .ref 0), (1, .ref 4), (2, .ref 669), (3, .int v3)]) (st' := [.int (0 : Int32)]) 1 rfl ?_
  exact db_Rret (lv1 := [(0, .ref 0), (1, .ref 4), (2, .ref 669), (3, .int v3)]) rfl rfl rfl rfl
noncomputable def db_law_b1063 (X : db_X) (h18 : db_S → Int32 → Option (Bool × db_S)) (s : db_S) (v3 : Int32) : Option (Bool × db_S) :=
  ((db_xX X (v3 + (1 : Int32))).bind fun x1 => ((db_xX X (v3 + (2 : Int32))).bind fun x2 => ((db_xX X (v3 + (3 : Int32))).bind fun x3 => (db_bd (db_f124 s x1 x2 x3) fun q4 s5 => ((db_xX X (v3 + (1 : Int32))).bind fun x6 => ((db_xX X (v3 + (2 : Int32))).bind fun x7 => ((db_xX X (v3 + (3 : Int32))).bind fun x8 => (db_bd (db_f313 s5 x6 x7 x8) fun q9 s10 => (cond (db_cnd .eq q4 q9) (db_law_b2023 X h18 s10 v3) (some (false, s10)))))))))))
set_option maxRecDepth 100000 in
set_option maxHeartbeats 8000000 in
theorem db_law_b1063_ok {X : db_X} {d : Nat}  {h18 : db_S → Int32 → Option (Bool × db_S)} {s : db_S} {v3 : Int32} (zh18 : ∀ (s' : db_S) (v3 : Int32) , db_Rf X (d + 36) dbm_378 18 [(0, .ref 0), (1, .ref 4), (2, .ref 669), (3, .int v3)] [] s' db_zB (h18 s' v3)) : db_Rf X (d + 36) dbm_378 1063 [(0, .ref 0), (1, .ref 4), (2, .ref 669), (3, .int v3)] [] s db_zB (db_law_b1063 X h18 s v3) := by
  unfold db_law_b1063
  refine db_Rgo (pc' := 1068) (lv' := [(0, .ref 0), (1, .ref 4), (2, .ref 669), (3, .int v3)]) (st' := [.int (v3 + (1 : Int32)), .ref 0, .ref 4]) 5 rfl ?_
  refine db_RldX (pc' := 1069) (lv1 := [(0, .ref 0), (1, .ref 4), (2, .ref 669), (3, .int v3)]) rfl rfl rfl fun x1 => ?_
  refine db_Rgo (pc' := 1073) (lv' := [(0, .ref 0), (1, .ref 4), (2, .ref 669), (3, .int v3)]) (st' := [.int (v3 + (2 : Int32)), .ref 0, .int x1, .ref 4]) 4 rfl ?_
  refine db_RldX (pc' := 1074) (lv1 := [(0, .ref 0), (1, .ref 4), (2, .ref 669), (3, .int v3)]) rfl rfl rfl fun x2 => ?_
  refine db_Rgo (pc' := 1078) (lv' := [(0, .ref 0), (1, .ref 4), (2, .ref 669), (3, .int v3)]) (st' := [.int (v3 + (3 : Int32)), .ref 0, .int x2, .int x1, .ref 4]) 4 rfl ?_
  refine db_RldX (pc' := 1079) (lv1 := [(0, .ref 0), (1, .ref 4), (2, .ref 669), (3, .int v3)]) rfl rfl rfl fun x3 => ?_
  refine db_RcdI (mr' := dbm_124) (as := [.ref 4, .int x1, .int x2, .int x3]) (rest := []) (pc' := 1082) (lv1 := [(0, .ref 0), (1, .ref 4), (2, .ref 669), (3, .int v3)]) rfl rfl rfl rfl rfl (db_f124_ok) fun q4 s5 => ?_
  refine db_Rgo (pc' := 1087) (lv' := [(0, .ref 0), (1, .ref 4), (2, .ref 669), (3, .int v3)]) (st' := [.int (v3 + (1 : Int32)), .ref 0, .ref 669, .int q4]) 5 rfl ?_
  refine db_RldX (pc' := 1088) (lv1 := [(0, .ref 0), (1, .ref 4), (2, .ref 669), (3, .int v3)]) rfl rfl rfl fun x6 => ?_
  refine db_Rgo (pc' := 1092) (lv' := [(0, .ref 0), (1, .ref 4), (2, .ref 669), (3, .int v3)]) (st' := [.int (v3 + (2 : Int32)), .ref 0, .int x6, .ref 669, .int q4]) 4 rfl ?_
  refine db_RldX (pc' := 1093) (lv1 := [(0, .ref 0), (1, .ref 4), (2, .ref 669), (3, .int v3)]) rfl rfl rfl fun x7 => ?_
  refine db_Rgo (pc' := 1097) (lv' := [(0, .ref 0), (1, .ref 4), (2, .ref 669), (3, .int v3)]) (st' := [.int (v3 + (3 : Int32)), .ref 0, .int x7, .int x6, .ref 669, .int q4]) 4 rfl ?_
  refine db_RldX (pc' := 1098) (lv1 := [(0, .ref 0), (1, .ref 4), (2, .ref 669), (3, .int v3)]) rfl rfl rfl fun x8 => ?_
  refine db_RcdI (mr' := dbm_313) (as := [.ref 669, .int x6, .int x7, .int x8]) (rest := [.int q4]) (pc' := 1101) (lv1 := [(0, .ref 0), (1, .ref 4), (2, .ref 669), (3, .int v3)]) rfl rfl rfl rfl rfl (db_f313_ok) fun q9 s10 => ?_
  refine db_Ric (pc' := 1104) (tg := 2023) (lv1 := [(0, .ref 0), (1, .ref 4), (2, .ref 669), (3, .int v3)]) rfl rfl rfl rfl ?_ ?_
  · exact db_law_b2023_ok zh18
  refine db_Rgo (pc' := 1105) (lv' := [(0, .ref 0), (1, .ref 4), (2, .ref 669), (3, .int v3)]) (st' := [.int (0 : Int32)]) 1 rfl ?_
  exact db_Rret (lv1 := [(0, .ref 0), (1, .ref 4), (2, .ref 669), (3, .int v3)]) rfl rfl rfl rfl
noncomputable def db_law_b1106 (X : db_X) (h18 : db_S → Int32 → Option (Bool × db_S)) (s : db_S) (v3 : Int32) : Option (Bool × db_S) :=
  ((db_xX X (v3 + (1 : Int32))).bind fun x1 => ((db_xX X (v3 + (2 : Int32))).bind fun x2 => ((db_xX X (v3 + (3 : Int32))).bind fun x3 => ((db_xX X (v3 + (4 : Int32))).bind fun x4 => (db_bd (db_f132 s x1 x2 x3 x4) fun q5 s6 => ((db_xX X (v3 + (1 : Int32))).bind fun x7 => ((db_xX X (v3 + (2 : Int32))).bind fun x8 => ((db_xX X (v3 + (3 : Int32))).bind fun x9 => ((db_xX X (v3 + (4 : Int32))).bind fun x10 => (db_bd (db_f323 s6 x7 x8 x9 x10) fun q11 s12 => (cond (db_cnd .eq q5 q11) (db_law_b2023 X h18 s12 v3) (some (false, s12)))))))))))))
set_option maxRecDepth 100000 in
set_option maxHeartbeats 8000000 in
theorem db_law_b1106_ok {X : db_X} {d : Nat}  {h18 : db_S → Int32 → Option (Bool × db_S)} {s : db_S} {v3 : Int32} (zh18 : ∀ (s' : db_S) (v3 : Int32) , db_Rf X (d + 36) dbm_378 18 [(0, .ref 0), (1, .ref 4), (2, .ref 669), (3, .int v3)] [] s' db_zB (h18 s' v3)) : db_Rf X (d + 36) dbm_378 1106 [(0, .ref 0), (1, .ref 4), (2, .ref 669), (3, .int v3)] [] s db_zB (db_law_b1106 X h18 s v3) := by
  unfold db_law_b1106
  refine db_Rgo (pc' := 1111) (lv' := [(0, .ref 0), (1, .ref 4), (2, .ref 669), (3, .int v3)]) (st' := [.int (v3 + (1 : Int32)), .ref 0, .ref 4]) 5 rfl ?_
  refine db_RldX (pc' := 1112) (lv1 := [(0, .ref 0), (1, .ref 4), (2, .ref 669), (3, .int v3)]) rfl rfl rfl fun x1 => ?_
  refine db_Rgo (pc' := 1116) (lv' := [(0, .ref 0), (1, .ref 4), (2, .ref 669), (3, .int v3)]) (st' := [.int (v3 + (2 : Int32)), .ref 0, .int x1, .ref 4]) 4 rfl ?_
  refine db_RldX (pc' := 1117) (lv1 := [(0, .ref 0), (1, .ref 4), (2, .ref 669), (3, .int v3)]) rfl rfl rfl fun x2 => ?_
  refine db_Rgo (pc' := 1121) (lv' := [(0, .ref 0), (1, .ref 4), (2, .ref 669), (3, .int v3)]) (st' := [.int (v3 + (3 : Int32)), .ref 0, .int x2, .int x1, .ref 4]) 4 rfl ?_
  refine db_RldX (pc' := 1122) (lv1 := [(0, .ref 0), (1, .ref 4), (2, .ref 669), (3, .int v3)]) rfl rfl rfl fun x3 => ?_
  refine db_Rgo (pc' := 1126) (lv' := [(0, .ref 0), (1, .ref 4), (2, .ref 669), (3, .int v3)]) (st' := [.int (v3 + (4 : Int32)), .ref 0, .int x3, .int x2, .int x1, .ref 4]) 4 rfl ?_
  refine db_RldX (pc' := 1127) (lv1 := [(0, .ref 0), (1, .ref 4), (2, .ref 669), (3, .int v3)]) rfl rfl rfl fun x4 => ?_
  refine db_RcdI (mr' := dbm_132) (as := [.ref 4, .int x1, .int x2, .int x3, .int x4]) (rest := []) (pc' := 1130) (lv1 := [(0, .ref 0), (1, .ref 4), (2, .ref 669), (3, .int v3)]) rfl rfl rfl rfl rfl (db_f132_ok) fun q5 s6 => ?_
  refine db_Rgo (pc' := 1135) (lv' := [(0, .ref 0), (1, .ref 4), (2, .ref 669), (3, .int v3)]) (st' := [.int (v3 + (1 : Int32)), .ref 0, .ref 669, .int q5]) 5 rfl ?_
  refine db_RldX (pc' := 1136) (lv1 := [(0, .ref 0), (1, .ref 4), (2, .ref 669), (3, .int v3)]) rfl rfl rfl fun x7 => ?_
  refine db_Rgo (pc' := 1140) (lv' := [(0, .ref 0), (1, .ref 4), (2, .ref 669), (3, .int v3)]) (st' := [.int (v3 + (2 : Int32)), .ref 0, .int x7, .ref 669, .int q5]) 4 rfl ?_
  refine db_RldX (pc' := 1141) (lv1 := [(0, .ref 0), (1, .ref 4), (2, .ref 669), (3, .int v3)]) rfl rfl rfl fun x8 => ?_
  refine db_Rgo (pc' := 1145) (lv' := [(0, .ref 0), (1, .ref 4), (2, .ref 669), (3, .int v3)]) (st' := [.int (v3 + (3 : Int32)), .ref 0, .int x8, .int x7, .ref 669, .int q5]) 4 rfl ?_
  refine db_RldX (pc' := 1146) (lv1 := [(0, .ref 0), (1, .ref 4), (2, .ref 669), (3, .int v3)]) rfl rfl rfl fun x9 => ?_
  refine db_Rgo (pc' := 1150) (lv' := [(0, .ref 0), (1, .ref 4), (2, .ref 669), (3, .int v3)]) (st' := [.int (v3 + (4 : Int32)), .ref 0, .int x9, .int x8, .int x7, .ref 669, .int q5]) 4 rfl ?_
  refine db_RldX (pc' := 1151) (lv1 := [(0, .ref 0), (1, .ref 4), (2, .ref 669), (3, .int v3)]) rfl rfl rfl fun x10 => ?_
  refine db_RcdI (mr' := dbm_323) (as := [.ref 669, .int x7, .int x8, .int x9, .int x10]) (rest := [.int q5]) (pc' := 1154) (lv1 := [(0, .ref 0), (1, .ref 4), (2, .ref 669), (3, .int v3)]) rfl rfl rfl rfl rfl (db_f323_ok) fun q11 s12 => ?_
  refine db_Ric (pc' := 1157) (tg := 2023) (lv1 := [(0, .ref 0), (1, .ref 4), (2, .ref 669), (3, .int v3)]) rfl rfl rfl rfl ?_ ?_
  · exact db_law_b2023_ok zh18
  refine db_Rgo (pc' := 1158) (lv' := [(0, .ref 0), (1, .ref 4), (2, .ref 669), (3, .int v3)]) (st' := [.int (0 : Int32)]) 1 rfl ?_
  exact db_Rret (lv1 := [(0, .ref 0), (1, .ref 4), (2, .ref 669), (3, .int v3)]) rfl rfl rfl rfl
noncomputable def db_law_b1159 (X : db_X) (h18 : db_S → Int32 → Option (Bool × db_S)) (s : db_S) (v3 : Int32) : Option (Bool × db_S) :=
  ((db_xX X (v3 + (1 : Int32))).bind fun x1 => ((db_xX X (v3 + (2 : Int32))).bind fun x2 => ((db_xX X (v3 + (3 : Int32))).bind fun x3 => ((db_xX X (v3 + (4 : Int32))).bind fun x4 => (db_bd (db_f134 s x1 x2 x3 x4) fun q5 s6 => ((db_xX X (v3 + (1 : Int32))).bind fun x7 => ((db_xX X (v3 + (2 : Int32))).bind fun x8 => ((db_xX X (v3 + (3 : Int32))).bind fun x9 => ((db_xX X (v3 + (4 : Int32))).bind fun x10 => (db_bd (db_f326 s6 x7 x8 x9 x10) fun q11 s12 => (cond (db_cnd .eq q5 q11) (db_law_b2023 X h18 s12 v3) (some (false, s12)))))))))))))
set_option maxRecDepth 100000 in
set_option maxHeartbeats 8000000 in
theorem db_law_b1159_ok {X : db_X} {d : Nat}  {h18 : db_S → Int32 → Option (Bool × db_S)} {s : db_S} {v3 : Int32} (zh18 : ∀ (s' : db_S) (v3 : Int32) , db_Rf X (d + 36) dbm_378 18 [(0, .ref 0), (1, .ref 4), (2, .ref 669), (3, .int v3)] [] s' db_zB (h18 s' v3)) : db_Rf X (d + 36) dbm_378 1159 [(0, .ref 0), (1, .ref 4), (2, .ref 669), (3, .int v3)] [] s db_zB (db_law_b1159 X h18 s v3) := by
  unfold db_law_b1159
  refine db_Rgo (pc' := 1164) (lv' := [(0, .ref 0), (1, .ref 4), (2, .ref 669), (3, .int v3)]) (st' := [.int (v3 + (1 : Int32)), .ref 0, .ref 4]) 5 rfl ?_
  refine db_RldX (pc' := 1165) (lv1 := [(0, .ref 0), (1, .ref 4), (2, .ref 669), (3, .int v3)]) rfl rfl rfl fun x1 => ?_
  refine db_Rgo (pc' := 1169) (lv' := [(0, .ref 0), (1, .ref 4), (2, .ref 669), (3, .int v3)]) (st' := [.int (v3 + (2 : Int32)), .ref 0, .int x1, .ref 4]) 4 rfl ?_
  refine db_RldX (pc' := 1170) (lv1 := [(0, .ref 0), (1, .ref 4), (2, .ref 669), (3, .int v3)]) rfl rfl rfl fun x2 => ?_
  refine db_Rgo (pc' := 1174) (lv' := [(0, .ref 0), (1, .ref 4), (2, .ref 669), (3, .int v3)]) (st' := [.int (v3 + (3 : Int32)), .ref 0, .int x2, .int x1, .ref 4]) 4 rfl ?_
  refine db_RldX (pc' := 1175) (lv1 := [(0, .ref 0), (1, .ref 4), (2, .ref 669), (3, .int v3)]) rfl rfl rfl fun x3 => ?_
  refine db_Rgo (pc' := 1179) (lv' := [(0, .ref 0), (1, .ref 4), (2, .ref 669), (3, .int v3)]) (st' := [.int (v3 + (4 : Int32)), .ref 0, .int x3, .int x2, .int x1, .ref 4]) 4 rfl ?_
  refine db_RldX (pc' := 1180) (lv1 := [(0, .ref 0), (1, .ref 4), (2, .ref 669), (3, .int v3)]) rfl rfl rfl fun x4 => ?_
  refine db_RcdI (mr' := dbm_134) (as := [.ref 4, .int x1, .int x2, .int x3, .int x4]) (rest := []) (pc' := 1183) (lv1 := [(0, .ref 0), (1, .ref 4), (2, .ref 669), (3, .int v3)]) rfl rfl rfl rfl rfl (db_f134_ok) fun q5 s6 => ?_
  refine db_Rgo (pc' := 1188) (lv' := [(0, .ref 0), (1, .ref 4), (2, .ref 669), (3, .int v3)]) (st' := [.int (v3 + (1 : Int32)), .ref 0, .ref 669, .int q5]) 5 rfl ?_
  refine db_RldX (pc' := 1189) (lv1 := [(0, .ref 0), (1, .ref 4), (2, .ref 669), (3, .int v3)]) rfl rfl rfl fun x7 => ?_
  refine db_Rgo (pc' := 1193) (lv' := [(0, .ref 0), (1, .ref 4), (2, .ref 669), (3, .int v3)]) (st' := [.int (v3 + (2 : Int32)), .ref 0, .int x7, .ref 669, .int q5]) 4 rfl ?_
  refine db_RldX (pc' := 1194) (lv1 := [(0, .ref 0), (1, .ref 4), (2, .ref 669), (3, .int v3)]) rfl rfl rfl fun x8 => ?_
  refine db_Rgo (pc' := 1198) (lv' := [(0, .ref 0), (1, .ref 4), (2, .ref 669), (3, .int v3)]) (st' := [.int (v3 + (3 : Int32)), .ref 0, .int x8, .int x7, .ref 669, .int q5]) 4 rfl ?_
  refine db_RldX (pc' := 1199) (lv1 := [(0, .ref 0), (1, .ref 4), (2, .ref 669), (3, .int v3)]) rfl rfl rfl fun x9 => ?_
  refine db_Rgo (pc' := 1203) (lv' := [(0, .ref 0), (1, .ref 4), (2, .ref 669), (3, .int v3)]) (st' := [.int (v3 + (4 : Int32)), .ref 0, .int x9, .int x8, .int x7, .ref 669, .int q5]) 4 rfl ?_
  refine db_RldX (pc' := 1204) (lv1 := [(0, .ref 0), (1, .ref 4), (2, .ref 669), (3, .int v3)]) rfl rfl rfl fun x10 => ?_
  refine db_RcdI (mr' := dbm_326) (as := [.ref 669, .int x7, .int x8, .int x9, .int x10]) (rest := [.int q5]) (pc' := 1207) (lv1 := [(0, .ref 0), (1, .ref 4), (2, .ref 669), (3, .int v3)]) rfl rfl rfl rfl rfl (db_f326_ok) fun q11 s12 => ?_
  refine db_Ric (pc' := 1210) (tg := 2023) (lv1 := [(0, .ref 0), (1, .ref 4), (2, .ref 669), (3, .int v3)]) rfl rfl rfl rfl ?_ ?_
  · exact db_law_b2023_ok zh18
  refine db_Rgo (pc' := 1211) (lv' := [(0, .ref 0), (1, .ref 4), (2, .ref 669), (3, .int v3)]) (st' := [.int (0 : Int32)]) 1 rfl ?_
  exact db_Rret (lv1 := [(0, .ref 0), (1, .ref 4), (2, .ref 669), (3, .int v3)]) rfl rfl rfl rfl
noncomputable def db_law_b1212 (X : db_X) (h18 : db_S → Int32 → Option (Bool × db_S)) (s : db_S) (v3 : Int32) : Option (Bool × db_S) :=
  ((db_xX X (v3 + (1 : Int32))).bind fun x1 => ((db_xX X (v3 + (2 : Int32))).bind fun x2 => ((db_xX X (v3 + (3 : Int32))).bind fun x3 => ((db_xX X (v3 + (4 : Int32))).bind fun x4 => (db_bd (db_f135 s x1 x2 x3 x4) fun q5 s6 => ((db_xX X (v3 + (1 : Int32))).bind fun x7 => ((db_xX X (v3 + (2 : Int32))).bind fun x8 => ((db_xX X (v3 + (3 : Int32))).bind fun x9 => ((db_xX X (v3 + (4 : Int32))).bind fun x10 => (db_bd (db_f327 s6 x7 x8 x9 x10) fun q11 s12 => (cond (db_cnd .eq q5 q11) (db_law_b2023 X h18 s12 v3) (some (false, s12)))))))))))))
set_option maxRecDepth 100000 in
set_option maxHeartbeats 8000000 in
theorem db_law_b1212_ok {X : db_X} {d : Nat}  {h18 : db_S → Int32 → Option (Bool × db_S)} {s : db_S} {v3 : Int32} (zh18 : ∀ (s' : db_S) (v3 : Int32) , db_Rf X (d + 36) dbm_378 18 [(0, .ref 0), (1, .ref 4), (2, .ref 669), (3, .int v3)] [] s' db_zB (h18 s' v3)) : db_Rf X (d + 36) dbm_378 1212 [(0, .ref 0), (1, .ref 4), (2, .ref 669), (3, .int v3)] [] s db_zB (db_law_b1212 X h18 s v3) := by
  unfold db_law_b1212
  refine db_Rgo (pc' := 1217) (lv' := [(0, .ref 0), (1, .ref 4), (2, .ref 669), (3, .int v3)]) (st' := [.int (v3 + (1 : Int32)), .ref 0, .ref 4]) 5 rfl ?_
  refine db_RldX (pc' := 1218) (lv1 := [(0, .ref 0), (1, .ref 4), (2, .ref 669), (3, .int v3)]) rfl rfl rfl fun x1 => ?_
  refine db_Rgo (pc' := 1222) (lv' := [(0, .ref 0), (1, .ref 4), (2, .ref 669), (3, .int v3)]) (st' := [.int (v3 + (2 : Int32)), .ref 0, .int x1, .ref 4]) 4 rfl ?_
  refine db_RldX (pc' := 1223) (lv1 := [(0, .ref 0), (1, .ref 4), (2, .ref 669), (3, .int v3)]) rfl rfl rfl fun x2 => ?_
  refine db_Rgo (pc' := 1227) (lv' := [(0, .ref 0), (1, .ref 4), (2, .ref 669), (3, .int v3)]) (st' := [.int (v3 + (3 : Int32)), .ref 0, .int x2, .int x1, .ref 4]) 4 rfl ?_
  refine db_RldX (pc' := 1228) (lv1 := [(0, .ref 0), (1, .ref 4), (2, .ref 669), (3, .int v3)]) rfl rfl rfl fun x3 => ?_
  refine db_Rgo (pc' := 1232) (lv' := [(0, .ref 0), (1, .ref 4), (2, .ref 669), (3, .int v3)]) (st' := [.int (v3 + (4 : Int32)), .ref 0, .int x3, .int x2, .int x1, .ref 4]) 4 rfl ?_
  refine db_RldX (pc' := 1233) (lv1 := [(0, .ref 0), (1, .ref 4), (2, .ref 669), (3, .int v3)]) rfl rfl rfl fun x4 => ?_
  refine db_RcdI (mr' := dbm_135) (as := [.ref 4, .int x1, .int x2, .int x3, .int x4]) (rest := []) (pc' := 1236) (lv1 := [(0, .ref 0), (1, .ref 4), (2, .ref 669), (3, .int v3)]) rfl rfl rfl rfl rfl (db_f135_ok) fun q5 s6 => ?_
  refine db_Rgo (pc' := 1241) (lv' := [(0, .ref 0), (1, .ref 4), (2, .ref 669), (3, .int v3)]) (st' := [.int (v3 + (1 : Int32)), .ref 0, .ref 669, .int q5]) 5 rfl ?_
  refine db_RldX (pc' := 1242) (lv1 := [(0, .ref 0), (1, .ref 4), (2, .ref 669), (3, .int v3)]) rfl rfl rfl fun x7 => ?_
  refine db_Rgo (pc' := 1246) (lv' := [(0, .ref 0), (1, .ref 4), (2, .ref 669), (3, .int v3)]) (st' := [.int (v3 + (2 : Int32)), .ref 0, .int x7, .ref 669, .int q5]) 4 rfl ?_
  refine db_RldX (pc' := 1247) (lv1 := [(0, .ref 0), (1, .ref 4), (2, .ref 669), (3, .int v3)]) rfl rfl rfl fun x8 => ?_
  refine db_Rgo (pc' := 1251) (lv' := [(0, .ref 0), (1, .ref 4), (2, .ref 669), (3, .int v3)]) (st' := [.int (v3 + (3 : Int32)), .ref 0, .int x8, .int x7, .ref 669, .int q5]) 4 rfl ?_
  refine db_RldX (pc' := 1252) (lv1 := [(0, .ref 0), (1, .ref 4), (2, .ref 669), (3, .int v3)]) rfl rfl rfl fun x9 => ?_
  refine db_Rgo (pc' := 1256) (lv' := [(0, .ref 0), (1, .ref 4), (2, .ref 669), (3, .int v3)]) (st' := [.int (v3 + (4 : Int32)), .ref 0, .int x9, .int x8, .int x7, .ref 669, .int q5]) 4 rfl ?_
  refine db_RldX (pc' := 1257) (lv1 := [(0, .ref 0), (1, .ref 4), (2, .ref 669), (3, .int v3)]) rfl rfl rfl fun x10 => ?_
  refine db_RcdI (mr' := dbm_327) (as := [.ref 669, .int x7, .int x8, .int x9, .int x10]) (rest := [.int q5]) (pc' := 1260) (lv1 := [(0, .ref 0), (1, .ref 4), (2, .ref 669), (3, .int v3)]) rfl rfl rfl rfl rfl (db_f327_ok) fun q11 s12 => ?_
  refine db_Ric (pc' := 1263) (tg := 2023) (lv1 := [(0, .ref 0), (1, .ref 4), (2, .ref 669), (3, .int v3)]) rfl rfl rfl rfl ?_ ?_
  · exact db_law_b2023_ok zh18
  refine db_Rgo (pc' := 1264) (lv' := [(0, .ref 0), (1, .ref 4), (2, .ref 669), (3, .int v3)]) (st' := [.int (0 : Int32)]) 1 rfl ?_
  exact db_Rret (lv1 := [(0, .ref 0), (1, .ref 4), (2, .ref 669), (3, .int v3)]) rfl rfl rfl rfl
noncomputable def db_law_b1265 (X : db_X) (h18 : db_S → Int32 → Option (Bool × db_S)) (s : db_S) (v3 : Int32) : Option (Bool × db_S) :=
  ((db_xX X (v3 + (1 : Int32))).bind fun x1 => ((db_xX X (v3 + (2 : Int32))).bind fun x2 => ((db_xX X (v3 + (3 : Int32))).bind fun x3 => (db_bd (db_f136 s x1 x2 x3) fun q4 s5 => ((db_xX X (v3 + (1 : Int32))).bind fun x6 => ((db_xX X (v3 + (2 : Int32))).bind fun x7 => ((db_xX X (v3 + (3 : Int32))).bind fun x8 => (db_bd (db_f332 s5 x6 x7 x8) fun q9 s10 => (cond (db_cnd .eq q4 q9) (db_law_b2023 X h18 s10 v3) (some (false, s10)))))))))))
set_option maxRecDepth 100000 in
set_option maxHeartbeats 8000000 in
theorem db_law_b1265_ok {X : db_X} {d : Nat}  {h18 : db_S → Int32 → Option (Bool × db_S)} {s : db_S} {v3 : Int32} (zh18 : ∀ (s' : db_S) (v3 : Int32) , db_Rf X (d + 36) dbm_378 18 [(0, .ref 0), (1, .ref 4), (2, .ref 669), (3, .int v3)] [] s' db_zB (h18 s' v3)) : db_Rf X (d + 36) dbm_378 1265 [(0, .ref 0), (1, .ref 4), (2, .ref 669), (3, .int v3)] [] s db_zB (db_law_b1265 X h18 s v3) := by
  unfold db_law_b1265
  refine db_Rgo (pc' := 1270) (lv' := [(0, .ref 0), (1, .ref 4), (2, .ref 669), (3, .int v3)]) (st' := [.int (v3 + (1 : Int32)), .ref 0, .ref 4]) 5 rfl ?_
  refine db_RldX (pc' := 1271) (lv1 := [(0, .ref 0), (1, .ref 4), (2, .ref 669), (3, .int v3)]) rfl rfl rfl fun x1 => ?_
  refine db_Rgo (pc' := 1275) (lv' := [(0, .ref 0), (1, .ref 4), (2, .ref 669), (3, .int v3)]) (st' := [.int (v3 + (2 : Int32)), .ref 0, .int x1, .ref 4]) 4 rfl ?_
  refine db_RldX (pc' := 1276) (lv1 := [(0, .ref 0), (1, .ref 4), (2, .ref 669), (3, .int v3)]) rfl rfl rfl fun x2 => ?_
  refine db_Rgo (pc' := 1280) (lv' := [(0, .ref 0), (1, .ref 4), (2, .ref 669), (3, .int v3)]) (st' := [.int (v3 + (3 : Int32)), .ref 0, .int x2, .int x1, .ref 4]) 4 rfl ?_
  refine db_RldX (pc' := 1281) (lv1 := [(0, .ref 0), (1, .ref 4), (2, .ref 669), (3, .int v3)]) rfl rfl rfl fun x3 => ?_
  refine db_RcdI (mr' := dbm_136) (as := [.ref 4, .int x1, .int x2, .int x3]) (rest := []) (pc' := 1284) (lv1 := [(0, .ref 0), (1, .ref 4), (2, .ref 669), (3, .int v3)]) rfl rfl rfl rfl rfl (db_f136_ok) fun q4 s5 => ?_
  refine db_Rgo (pc' := 1289) (lv' := [(0, .ref 0), (1, .ref 4), (2, .ref 669), (3, .int v3)]) (st' := [.int (v3 + (1 : Int32)), .ref 0, .ref 669, .int q4]) 5 rfl ?_
  refine db_RldX (pc' := 1290) (lv1 := [(0, .ref 0), (1, .ref 4), (2, .ref 669), (3, .int v3)]) rfl rfl rfl fun x6 => ?_
  refine db_Rgo (pc' := 1294) (lv' := [(0, .ref 0), (1, .ref 4), (2, .ref 669), (3, .int v3)]) (st' := [.int (v3 + (2 : Int32)), .ref 0, .int x6, .ref 669, .int q4]) 4 rfl ?_
  refine db_RldX (pc' := 1295) (lv1 := [(0, .ref 0), (1, .ref 4), (2, .ref 669), (3, .int v3)]) rfl rfl rfl fun x7 => ?_
  refine db_Rgo (pc' := 1299) (lv' := [(0, .ref 0), (1, .ref 4), (2, .ref 669), (3, .int v3)]) (st' := [.int (v3 + (3 : Int32)), .ref 0, .int x7, .int x6, .ref 669, .int q4]) 4 rfl ?_
  refine db_RldX (pc' := 1300) (lv1 := [(0, .ref 0), (1, .ref 4), (2, .ref 669), (3, .int v3)]) rfl rfl rfl fun x8 => ?_
  refine db_RcdI (mr' := dbm_332) (as := [.ref 669, .int x6, .int x7, .int x8]) (rest := [.int q4]) (pc' := 1303) (lv1 := [(0, .ref 0), (1, .ref 4), (2, .ref 669), (3, .int v3)]) rfl rfl rfl rfl rfl (db_f332_ok) fun q9 s10 => ?_
  refine db_Ric (pc' := 1306) (tg := 2023) (lv1 := [(0, .ref 0), (1, .ref 4), (2, .ref 669), (3, .int v3)]) rfl rfl rfl rfl ?_ ?_
  · exact db_law_b2023_ok zh18
  refine db_Rgo (pc' := 1307) (lv' := [(0, .ref 0), (1, .ref 4), (2, .ref 669), (3, .int v3)]) (st' := [.int (0 : Int32)]) 1 rfl ?_
  exact db_Rret (lv1 := [(0, .ref 0), (1, .ref 4), (2, .ref 669), (3, .int v3)]) rfl rfl rfl rfl
noncomputable def db_law_b1308 (X : db_X) (h18 : db_S → Int32 → Option (Bool × db_S)) (s : db_S) (v3 : Int32) : Option (Bool × db_S) :=
  ((db_xX X (v3 + (1 : Int32))).bind fun x1 => ((db_xX X (v3 + (2 : Int32))).bind fun x2 => ((db_xX X (v3 + (3 : Int32))).bind fun x3 => (db_bd (db_f139 s x1 x2 x3) fun q4 s5 => ((db_xX X (v3 + (1 : Int32))).bind fun x6 => ((db_xX X (v3 + (2 : Int32))).bind fun x7 => ((db_xX X (v3 + (3 : Int32))).bind fun x8 => (db_bd (db_f328 s5 x6 x7 x8) fun q9 s10 => (cond (db_cnd .eq q4 q9) (db_law_b2023 X h18 s10 v3) (some (false, s10)))))))))))
set_option maxRecDepth 100000 in
set_option maxHeartbeats 8000000 in
theorem db_law_b1308_ok {X : db_X} {d : Nat}  {h18 : db_S → Int32 → Option (Bool × db_S)} {s : db_S} {v3 : Int32} (zh18 : ∀ (s' : db_S) (v3 : Int32) , db_Rf X (d + 36) dbm_378 18 [(0, .ref 0), (1, .ref 4), (2, .ref 669), (3, .int v3)] [] s' db_zB (h18 s' v3)) : db_Rf X (d + 36) dbm_378 1308 [(0, .ref 0), (1, .ref 4), (2, .ref 669), (3, .int v3)] [] s db_zB (db_law_b1308 X h18 s v3) := by
  unfold db_law_b1308
  refine db_Rgo (pc' := 1313) (lv' := [(0, .ref 0), (1, .ref 4), (2, .ref 669), (3, .int v3)]) (st' := [.int (v3 + (1 : Int32)), .ref 0, .ref 4]) 5 rfl ?_
  refine db_RldX (pc' := 1314) (lv1 := [(0, .ref 0), (1, .ref 4), (2, .ref 669), (3, .int v3)]) rfl rfl rfl fun x1 => ?_
  refine db_Rgo (pc' := 1318) (lv' := [(0, .ref 0), (1, .ref 4), (2, .ref 669), (3, .int v3)]) (st' := [.int (v3 + (2 : Int32)), .ref 0, .int x1, .ref 4]) 4 rfl ?_
  refine db_RldX (pc' := 1319) (lv1 := [(0, .ref 0), (1, .ref 4), (2, .ref 669), (3, .int v3)]) rfl rfl rfl fun x2 => ?_
  refine db_Rgo (pc' := 1323) (lv' := [(0, .ref 0), (1, .ref 4), (2, .ref 669), (3, .int v3)]) (st' := [.int (v3 + (3 : Int32)), .ref 0, .int x2, .int x1, .ref 4]) 4 rfl ?_
  refine db_RldX (pc' := 1324) (lv1 := [(0, .ref 0), (1, .ref 4), (2, .ref 669), (3, .int v3)]) rfl rfl rfl fun x3 => ?_
  refine db_RcdI (mr' := dbm_139) (as := [.ref 4, .int x1, .int x2, .int x3]) (rest := []) (pc' := 1327) (lv1 := [(0, .ref 0), (1, .ref 4), (2, .ref 669), (3, .int v3)]) rfl rfl rfl rfl rfl (db_f139_ok) fun q4 s5 => ?_
  refine db_Rgo (pc' := 1332) (lv' := [(0, .ref 0), (1, .ref 4), (2, .ref 669), (3, .int v3)]) (st' := [.int (v3 + (1 : Int32)), .ref 0, .ref 669, .int q4]) 5 rfl ?_
  refine db_RldX (pc' := 1333) (lv1 := [(0, .ref 0), (1, .ref 4), (2, .ref 669), (3, .int v3)]) rfl rfl rfl fun x6 => ?_
  refine db_Rgo (pc' := 1337) (lv' := [(0, .ref 0), (1, .ref 4), (2, .ref 669), (3, .int v3)]) (st' := [.int (v3 + (2 : Int32)), .ref 0, .int x6, .ref 669, .int q4]) 4 rfl ?_
  refine db_RldX (pc' := 1338) (lv1 := [(0, .ref 0), (1, .ref 4), (2, .ref 669), (3, .int v3)]) rfl rfl rfl fun x7 => ?_
  refine db_Rgo (pc' := 1342) (lv' := [(0, .ref 0), (1, .ref 4), (2, .ref 669), (3, .int v3)]) (st' := [.int (v3 + (3 : Int32)), .ref 0, .int x7, .int x6, .ref 669, .int q4]) 4 rfl ?_
  refine db_RldX (pc' := 1343) (lv1 := [(0, .ref 0), (1, .ref 4), (2, .ref 669), (3, .int v3)]) rfl rfl rfl fun x8 => ?_
  refine db_RcdI (mr' := dbm_328) (as := [.ref 669, .int x6, .int x7, .int x8]) (rest := [.int q4]) (pc' := 1346) (lv1 := [(0, .ref 0), (1, .ref 4), (2, .ref 669), (3, .int v3)]) rfl rfl rfl rfl rfl (db_f328_ok) fun q9 s10 => ?_
  refine db_Ric (pc' := 1349) (tg := 2023) (lv1 := [(0, .ref 0), (1, .ref 4), (2, .ref 669), (3, .int v3)]) rfl rfl rfl rfl ?_ ?_
  · exact db_law_b2023_ok zh18
  refine db_Rgo (pc' := 1350) (lv' := [(0, .ref 0), (1, .ref 4), (2, .ref 669), (3, .int v3)]) (st' := [.int (0 : Int32)]) 1 rfl ?_
  exact db_Rret (lv1 := [(0, .ref 0), (1, .ref 4), (2, .ref 669), (3, .int v3)]) rfl rfl rfl rfl
noncomputable def db_law_b1351 (X : db_X) (h18 : db_S → Int32 → Option (Bool × db_S)) (s : db_S) (v3 : Int32) : Option (Bool × db_S) :=
  (db_bd (db_f141 s) fun q1 s2 => (db_bd (db_f330 s2) fun q3 s4 => (cond (db_cnd .eq q1 q3) (db_law_b2023 X h18 s4 v3) (some (false, s4)))))
set_option maxRecDepth 100000 in
set_option maxHeartbeats 8000000 in
theorem db_law_b1351_ok {X : db_X} {d : Nat}  {h18 : db_S → Int32 → Option (Bool × db_S)} {s : db_S} {v3 : Int32} (zh18 : ∀ (s' : db_S) (v3 : Int32) , db_Rf X (d + 36) dbm_378 18 [(0, .ref 0), (1, .ref 4), (2, .ref 669), (3, .int v3)] [] s' db_zB (h18 s' v3)) : db_Rf X (d + 36) dbm_378 1351 [(0, .ref 0), (1, .ref 4), (2, .ref 669), (3, .int v3)] [] s db_zB (db_law_b1351 X h18 s v3) := by
  unfold db_law_b1351
  refine db_Rgo (pc' := 1352) (lv' := [(0, .ref 0), (1, .ref 4), (2, .ref 669), (3, .int v3)]) (st' := [.ref 4]) 1 rfl ?_
  refine db_RcdI (mr' := dbm_141) (as := [.ref 4]) (rest := []) (pc' := 1355) (lv1 := [(0, .ref 0), (1, .ref 4), (2, .ref 669), (3, .int v3)]) rfl rfl rfl rfl rfl (db_f141_ok) fun q1 s2 => ?_
  refine db_Rgo (pc' := 1356) (lv' := [(0, .ref 0), (1, .ref 4), (2, .ref 669), (3, .int v3)]) (st' := [.ref 669, .int q1]) 1 rfl ?_
  refine db_RcdI (mr' := dbm_330) (as := [.ref 669]) (rest := [.int q1]) (pc' := 1359) (lv1 := [(0, .ref 0), (1, .ref 4), (2, .ref 669), (3, .int v3)]) rfl rfl rfl rfl rfl (db_f330_ok) fun q3 s4 => ?_
  refine db_Ric (pc' := 1362) (tg := 2023) (lv1 := [(0, .ref 0), (1, .ref 4), (2, .ref 669), (3, .int v3)]) rfl rfl rfl rfl ?_ ?_
  · exact db_law_b2023_ok zh18
  refine db_Rgo (pc' := 1363) (lv' := [(0, .ref 0), (1, .ref 4), (2, .ref 669), (3, .int v3)]) (st' := [.int (0 : Int32)]) 1 rfl ?_
  exact db_Rret (lv1 := [(0, .ref 0), (1, .ref 4), (2, .ref 669), (3, .int v3)]) rfl rfl rfl rfl
noncomputable def db_law_b1364 (X : db_X) (h18 : db_S → Int32 → Option (Bool × db_S)) (s : db_S) (v3 : Int32) : Option (Bool × db_S) :=
  (db_bd (db_f143 s) fun q1 s2 => (db_bd (db_f331 s2) fun q3 s4 => (cond (db_cnd .eq q1 q3) (db_law_b2023 X h18 s4 v3) (some (false, s4)))))
set_option maxRecDepth 100000 in
set_option maxHeartbeats 8000000 in
theorem db_law_b1364_ok {X : db_X} {d : Nat}  {h18 : db_S → Int32 → Option (Bool × db_S)} {s : db_S} {v3 : Int32} (zh18 : ∀ (s' : db_S) (v3 : Int32) , db_Rf X (d + 36) dbm_378 18 [(0, .ref 0), (1, .ref 4), (2, .ref 669), (3, .int v3)] [] s' db_zB (h18 s' v3)) : db_Rf X (d + 36) dbm_378 1364 [(0, .ref 0), (1, .ref 4), (2, .ref 669), (3, .int v3)] [] s db_zB (db_law_b1364 X h18 s v3) := by
  unfold db_law_b1364
  refine db_Rgo (pc' := 1365) (lv' := [(0, .ref 0), (1, .ref 4), (2, .ref 669), (3, .int v3)]) (st' := [.ref 4]) 1 rfl ?_
  refine db_RcdI (mr' := dbm_143) (as := [.ref 4]) (rest := []) (pc' := 1368) (lv1 := [(0, .ref 0), (1, .ref 4), (2, .ref 669), (3, .int v3)]) rfl rfl rfl rfl rfl (db_f143_ok) fun q1 s2 => ?_
  refine db_Rgo (pc' := 1369) (lv' := [(0, .ref 0), (1, .ref 4), (2, .ref 669), (3, .int v3)]) (st' := [.ref 669, .int q1]) 1 rfl ?_
  refine db_RcdI (mr' := dbm_331) (as := [.ref 669]) (rest := [.int q1]) (pc' := 1372) (lv1 := [(0, .ref 0), (1, .ref 4), (2, .ref 669), (3, .int v3)]) rfl rfl rfl rfl rfl (db_f331_ok) fun q3 s4 => ?_
  refine db_Ric (pc' := 1375) (tg := 2023) (lv1 := [(0, .ref 0), (1, .ref 4), (2, .ref 669), (3, .int v3)]) rfl rfl rfl rfl ?_ ?_
  · exact db_law_b2023_ok zh18
  refine db_Rgo (pc' := 1376) (lv' := [(0, .ref 0), (1, .ref 4), (2, .ref 669), (3, .int v3)]) (st' := [.int (0 : Int32)]) 1 rfl ?_
  exact db_Rret (lv1 := [(0, .ref 0), (1, .ref 4), (2, .ref 669), (3, .int v3)]) rfl rfl rfl rfl
noncomputable def db_law_b1377 (X : db_X) (h18 : db_S → Int32 → Option (Bool × db_S)) (s : db_S) (v3 : Int32) : Option (Bool × db_S) :=
  ((db_xX X (v3 + (1 : Int32))).bind fun x1 => ((db_xX X (v3 + (2 : Int32))).bind fun x2 => (db_bd (db_f144 s x1 x2) fun q3 s4 => ((db_xX X (v3 + (1 : Int32))).bind fun x5 => ((db_xX X (v3 + (2 : Int32))).bind fun x6 => (db_bd (db_f335 s4 x5 x6) fun q7 s8 => (cond (db_cnd .eq q3 q7) (db_law_b2023 X h18 s8 v3) (some (false, s8)))))))))
set_option maxRecDepth 100000 in
set_option maxHeartbeats 8000000 in
theorem db_law_b1377_ok {X : db_X} {d : Nat}  {h18 : db_S → Int32 → Option (Bool × db_S)} {s : db_S} {v3 : Int32} (zh18 : ∀ (s' : db_S) (v3 : Int32) , db_Rf X (d + 36) dbm_378 18 [(0, .ref 0), (1, .ref 4), (2, .ref 669), (3, .int v3)] [] s' db_zB (h18 s' v3)) : db_Rf X (d + 36) dbm_378 1377 [(0, .ref 0), (1, .ref 4), (2, .ref 669), (3, .int v3)] [] s db_zB (db_law_b1377 X h18 s v3) := by
  unfold db_law_b1377
  refine db_Rgo (pc' := 1382) (lv' := [(0, .ref 0), (1, .ref 4), (2, .ref 669), (3, .int v3)]) (st' := [.int (v3 + (1 : Int32)), .ref 0, .ref 4]) 5 rfl ?_
  refine db_RldX (pc' := 1383) (lv1 := [(0, .ref 0), (1, .ref 4), (2, .ref 669), (3, .int v3)]) rfl rfl rfl fun x1 => ?_
  refine db_Rgo (pc' := 1387) (lv' := [(0, .ref 0), (1, .ref 4), (2, .ref 669), (3, .int v3)]) (st' := [.int (v3 + (2 : Int32)), .ref 0, .int x1, .ref 4]) 4 rfl ?_
  refine db_RldX (pc' := 1388) (lv1 := [(0, .ref 0), (1, .ref 4), (2, .ref 669), (3, .int v3)]) rfl rfl rfl fun x2 => ?_
  refine db_RcdI (mr' := dbm_144) (as := [.ref 4, .int x1, .int x2]) (rest := []) (pc' := 1391) (lv1 := [(0, .ref 0), (1, .ref 4), (2, .ref 669), (3, .int v3)]) rfl rfl rfl rfl rfl (db_f144_ok) fun q3 s4 => ?_
  refine db_Rgo (pc' := 1396) (lv' := [(0, .ref 0), (1, .ref 4), (2, .ref 669), (3, .int v3)]) (st' := [.int (v3 + (1 : Int32)), .ref 0, .ref 669, .int q3]) 5 rfl ?_
  refine db_RldX (pc' := 1397) (lv1 := [(0, .ref 0), (1, .ref 4), (2, .ref 669), (3, .int v3)]) rfl rfl rfl fun x5 => ?_
  refine db_Rgo (pc' := 1401) (lv' := [(0, .ref 0), (1, .ref 4), (2, .ref 669), (3, .int v3)]) (st' := [.int (v3 + (2 : Int32)), .ref 0, .int x5, .ref 669, .int q3]) 4 rfl ?_
  refine db_RldX (pc' := 1402) (lv1 := [(0, .ref 0), (1, .ref 4), (2, .ref 669), (3, .int v3)]) rfl rfl rfl fun x6 => ?_
  refine db_RcdI (mr' := dbm_335) (as := [.ref 669, .int x5, .int x6]) (rest := [.int q3]) (pc' := 1405) (lv1 := [(0, .ref 0), (1, .ref 4), (2, .ref 669), (3, .int v3)]) rfl rfl rfl rfl rfl (db_f335_ok) fun q7 s8 => ?_
  refine db_Ric (pc' := 1408) (tg := 2023) (lv1 := [(0, .ref 0), (1, .ref 4), (2, .ref 669), (3, .int v3)]) rfl rfl rfl rfl ?_ ?_
  · exact db_law_b2023_ok zh18
  refine db_Rgo (pc' := 1409) (lv' := [(0, .ref 0), (1, .ref 4), (2, .ref 669), (3, .int v3)]) (st' := [.int (0 : Int32)]) 1 rfl ?_
  exact db_Rret (lv1 := [(0, .ref 0), (1, .ref 4), (2, .ref 669), (3, .int v3)]) rfl rfl rfl rfl
noncomputable def db_law_b1410 (X : db_X) (h18 : db_S → Int32 → Option (Bool × db_S)) (s : db_S) (v3 : Int32) : Option (Bool × db_S) :=
  (db_bd (db_f149 s) fun q1 s2 => (db_bd (db_f339 s2) fun q3 s4 => (cond (db_cnd .eq q1 q3) (db_law_b2023 X h18 s4 v3) (some (false, s4)))))
set_option maxRecDepth 100000 in
set_option maxHeartbeats 8000000 in
theorem db_law_b1410_ok {X : db_X} {d : Nat}  {h18 : db_S → Int32 → Option (Bool × db_S)} {s : db_S} {v3 : Int32} (zh18 : ∀ (s' : db_S) (v3 : Int32) , db_Rf X (d + 36) dbm_378 18 [(0, .ref 0), (1, .ref 4), (2, .ref 669), (3, .int v3)] [] s' db_zB (h18 s' v3)) : db_Rf X (d + 36) dbm_378 1410 [(0, .ref 0), (1, .ref 4), (2, .ref 669), (3, .int v3)] [] s db_zB (db_law_b1410 X h18 s v3) := by
  unfold db_law_b1410
  refine db_Rgo (pc' := 1411) (lv' := [(0, .ref 0), (1, .ref 4), (2, .ref 669), (3, .int v3)]) (st' := [.ref 4]) 1 rfl ?_
  refine db_RcdI (mr' := dbm_149) (as := [.ref 4]) (rest := []) (pc' := 1414) (lv1 := [(0, .ref 0), (1, .ref 4), (2, .ref 669), (3, .int v3)]) rfl rfl rfl rfl rfl (db_f149_ok) fun q1 s2 => ?_
  refine db_Rgo (pc' := 1415) (lv' := [(0, .ref 0), (1, .ref 4), (2, .ref 669), (3, .int v3)]) (st' := [.ref 669, .int q1]) 1 rfl ?_
  refine db_RcdI (mr' := dbm_339) (as := [.ref 669]) (rest := [.int q1]) (pc' := 1418) (lv1 := [(0, .ref 0), (1, .ref 4), (2, .ref 669), (3, .int v3)]) rfl rfl rfl rfl rfl (db_f339_ok) fun q3 s4 => ?_
  refine db_Ric (pc' := 1421) (tg := 2023) (lv1 := [(0, .ref 0), (1, .ref 4), (2, .ref 669), (3, .int v3)]) rfl rfl rfl rfl ?_ ?_
  · exact db_law_b2023_ok zh18
  refine db_Rgo (pc' := 1422) (lv' := [(0, .ref 0), (1, .ref 4), (2, .ref 669), (3, .int v3)]) (st' := [.int (0 : Int32)]) 1 rfl ?_
  exact db_Rret (lv1 := [(0, .ref 0), (1, .ref 4), (2, .ref 669), (3, .int v3)]) rfl rfl rfl rfl
noncomputable def db_law_b1423 (X : db_X) (h18 : db_S → Int32 → Option (Bool × db_S)) (s : db_S) (v3 : Int32) : Option (Bool × db_S) :=
  ((db_xX X (v3 + (1 : Int32))).bind fun x1 => ((db_xX X (v3 + (2 : Int32))).bind fun x2 => (db_bd (db_f153 s x1 x2) fun q3 s4 => ((db_xX X (v3 + (1 : Int32))).bind fun x5 => ((db_xX X (v3 + (2 : Int32))).bind fun x6 => (db_bd (db_f340 s4 x5 x6) fun q7 s8 => (cond (db_cnd .eq q3 q7) (db_law_b2023 X h18 s8 v3) (some (false, s8)))))))))
set_option maxRecDepth 100000 in
set_option maxHeartbeats 8000000 in
theorem db_law_b1423_ok {X : db_X} {d : Nat}  {h18 : db_S → Int32 → Option (Bool × db_S)} {s : db_S} {v3 : Int32} (zh18 : ∀ (s' : db_S) (v3 : Int32) , db_Rf X (d + 36) dbm_378 18 [(0, .ref 0), (1, .ref 4), (2, .ref 669), (3, .int v3)] [] s' db_zB (h18 s' v3)) : db_Rf X (d + 36) dbm_378 1423 [(0, .ref 0), (1, .ref 4), (2, .ref 669), (3, .int v3)] [] s db_zB (db_law_b1423 X h18 s v3) := by
  unfold db_law_b1423
  refine db_Rgo (pc' := 1428) (lv' := [(0, .ref 0), (1, .ref 4), (2, .ref 669), (3, .int v3)]) (st' := [.int (v3 + (1 : Int32)), .ref 0, .ref 4]) 5 rfl ?_
  refine db_RldX (pc' := 1429) (lv1 := [(0, .ref 0), (1, .ref 4), (2, .ref 669), (3, .int v3)]) rfl rfl rfl fun x1 => ?_
  refine db_Rgo (pc' := 1433) (lv' := [(0, .ref 0), (1, .ref 4), (2, .ref 669), (3, .int v3)]) (st' := [.int (v3 + (2 : Int32)), .ref 0, .int x1, .ref 4]) 4 rfl ?_
  refine db_RldX (pc' := 1434) (lv1 := [(0, .ref 0), (1, .ref 4), (2, .ref 669), (3, .int v3)]) rfl rfl rfl fun x2 => ?_
  refine db_RcdI (mr' := dbm_153) (as := [.ref 4, .int x1, .int x2]) (rest := []) (pc' := 1437) (lv1 := [(0, .ref 0), (1, .ref 4), (2, .ref 669), (3, .int v3)]) rfl rfl rfl rfl rfl (db_f153_ok) fun q3 s4 => ?_
  refine db_Rgo (pc' := 1442) (lv' := [(0, .ref 0), (1, .ref 4), (2, .ref 669), (3, .int v3)]) (st' := [.int (v3 + (1 : Int32)), .ref 0, .ref 669, .int q3]) 5 rfl ?_
  refine db_RldX (pc' := 1443) (lv1 := [(0, .ref 0), (1, .ref 4), (2, .ref 669), (3, .int v3)]) rfl rfl rfl fun x5 => ?_
  refine db_Rgo (pc' := 1447) (lv' := [(0, .ref 0), (1, .ref 4), (2, .ref 669), (3, .int v3)]) (st' := [.int (v3 + (2 : Int32)), .ref 0, .int x5, .ref 669, .int q3]) 4 rfl ?_
  refine db_RldX (pc' := 1448) (lv1 := [(0, .ref 0), (1, .ref 4), (2, .ref 669), (3, .int v3)]) rfl rfl rfl fun x6 => ?_
  refine db_RcdI (mr' := dbm_340) (as := [.ref 669, .int x5, .int x6]) (rest := [.int q3]) (pc' := 1451) (lv1 := [(0, .ref 0), (1, .ref 4), (2, .ref 669), (3, .int v3)]) rfl rfl rfl rfl rfl (db_f340_ok) fun q7 s8 => ?_
  refine db_Ric (pc' := 1454) (tg := 2023) (lv1 := [(0, .ref 0), (1, .ref 4), (2, .ref 669), (3, .int v3)]) rfl rfl rfl rfl ?_ ?_
  · exact db_law_b2023_ok zh18
  refine db_Rgo (pc' := 1455) (lv' := [(0, .ref 0), (1, .ref 4), (2, .ref 669), (3, .int v3)]) (st' := [.int (0 : Int32)]) 1 rfl ?_
  exact db_Rret (lv1 := [(0, .ref 0), (1, .ref 4), (2, .ref 669), (3, .int v3)]) rfl rfl rfl rfl
noncomputable def db_law_b1456 (X : db_X) (h18 : db_S → Int32 → Option (Bool × db_S)) (s : db_S) (v3 : Int32) : Option (Bool × db_S) :=
  ((db_xX X (v3 + (1 : Int32))).bind fun x1 => (db_bd (db_f156 s x1) fun q2 s3 => ((db_xX X (v3 + (1 : Int32))).bind fun x4 => (db_bd (db_f342 s3 x4) fun q5 s6 => (cond (db_cnd .eq q2 q5) (db_law_b2023 X h18 s6 v3) (some (false, s6)))))))
set_option maxRecDepth 100000 in
set_option maxHeartbeats 8000000 in
theorem db_law_b1456_ok {X : db_X} {d : Nat}  {h18 : db_S → Int32 → Option (Bool × db_S)} {s : db_S} {v3 : Int32} (zh18 : ∀ (s' : db_S) (v3 : Int32) , db_Rf X (d + 36) dbm_378 18 [(0, .ref 0), (1, .ref 4), (2, .ref 669), (3, .int v3)] [] s' db_zB (h18 s' v3)) : db_Rf X (d + 36) dbm_378 1456 [(0, .ref 0), (1, .ref 4), (2, .ref 669), (3, .int v3)] [] s db_zB (db_law_b1456 X h18 s v3) := by
  unfold db_law_b1456
  refine db_Rgo (pc' := 1461) (lv' := [(0, .ref 0), (1, .ref 4), (2, .ref 669), (3, .int v3)]) (st' := [.int (v3 + (1 : Int32)), .ref 0, .ref 4]) 5 rfl ?_
  refine db_RldX (pc' := 1462) (lv1 := [(0, .ref 0), (1, .ref 4), (2, .ref 669), (3, .int v3)]) rfl rfl rfl fun x1 => ?_
  refine db_RcdI (mr' := dbm_156) (as := [.ref 4, .int x1]) (rest := []) (pc' := 1465) (lv1 := [(0, .ref 0), (1, .ref 4), (2, .ref 669), (3, .int v3)]) rfl rfl rfl rfl rfl (db_f156_ok) fun q2 s3 => ?_
  refine db_Rgo (pc' := 1470) (lv' := [(0, .ref 0), (1, .ref 4), (2, .ref 669), (3, .int v3)]) (st' := [.int (v3 + (1 : Int32)), .ref 0, .ref 669, .int q2]) 5 rfl ?_
  refine db_RldX (pc' := 1471) (lv1 := [(0, .ref 0), (1, .ref 4), (2, .ref 669), (3, .int v3)]) rfl rfl rfl fun x4 => ?_
  refine db_RcdI (mr' := dbm_342) (as := [.ref 669, .int x4]) (rest := [.int q2]) (pc' := 1474) (lv1 := [(0, .ref 0), (1, .ref 4), (2, .ref 669), (3, .int v3)]) rfl rfl rfl rfl rfl (db_f342_ok) fun q5 s6 => ?_
  refine db_Ric (pc' := 1477) (tg := 2023) (lv1 := [(0, .ref 0), (1, .ref 4), (2, .ref 669), (3, .int v3)]) rfl rfl rfl rfl ?_ ?_
  · exact db_law_b2023_ok zh18
  refine db_Rgo (pc' := 1478) (lv' := [(0, .ref 0), (1, .ref 4), (2, .ref 669), (3, .int v3)]) (st' := [.int (0 : Int32)]) 1 rfl ?_
  exact db_Rret (lv1 := [(0, .ref 0), (1, .ref 4), (2, .ref 669), (3, .int v3)]) rfl rfl rfl rfl
noncomputable def db_law_b1479 (X : db_X) (h18 : db_S → Int32 → Option (Bool × db_S)) (s : db_S) (v3 : Int32) : Option (Bool × db_S) :=
  (db_bd (db_f157 s) fun q1 s2 => (db_bd (db_f343 s2) fun q3 s4 => (cond (db_cnd .eq q1 q3) (db_law_b2023 X h18 s4 v3) (some (false, s4)))))
set_option maxRecDepth 100000 in
set_option maxHeartbeats 8000000 in
theorem db_law_b1479_ok {X : db_X} {d : Nat}  {h18 : db_S → Int32 → Option (Bool × db_S)} {s : db_S} {v3 : Int32} (zh18 : ∀ (s' : db_S) (v3 : Int32) , db_Rf X (d + 36) dbm_378 18 [(0, .ref 0), (1, .ref 4), (2, .ref 669), (3, .int v3)] [] s' db_zB (h18 s' v3)) : db_Rf X (d + 36) dbm_378 1479 [(0, .ref 0), (1, .ref 4), (2, .ref 669), (3, .int v3)] [] s db_zB (db_law_b1479 X h18 s v3) := by
  unfold db_law_b1479
  refine db_Rgo (pc' := 1480) (lv' := [(0, .ref 0), (1, .ref 4), (2, .ref 669), (3, .int v3)]) (st' := [.ref 4]) 1 rfl ?_
  refine db_RcdI (mr' := dbm_157) (as := [.ref 4]) (rest := []) (pc' := 1483) (lv1 := [(0, .ref 0), (1, .ref 4), (2, .ref 669), (3, .int v3)]) rfl rfl rfl rfl rfl (db_f157_ok) fun q1 s2 => ?_
  refine db_Rgo (pc' := 1484) (lv' := [(0, .ref 0), (1, .ref 4), (2, .ref 669), (3, .int v3)]) (st' := [.ref 669, .int q1]) 1 rfl ?_
  refine db_RcdI (mr' := dbm_343) (as := [.ref 669]) (rest := [.int q1]) (pc' := 1487) (lv1 := [(0, .ref 0), (1, .ref 4), (2, .ref 669), (3, .int v3)]) rfl rfl rfl rfl rfl (db_f343_ok) fun q3 s4 => ?_
  refine db_Ric (pc' := 1490) (tg := 2023) (lv1 := [(0, .ref 0), (1, .ref 4), (2, .ref 669), (3, .int v3)]) rfl rfl rfl rfl ?_ ?_
  · exact db_law_b2023_ok zh18
  refine db_Rgo (pc' := 1491) (lv' := [(0, .ref 0), (1, .ref 4), (2, .ref 669), (3, .int v3)]) (st' := [.int (0 : Int32)]) 1 rfl ?_
  exact db_Rret (lv1 := [(0, .ref 0), (1, .ref 4), (2, .ref 669), (3, .int v3)]) rfl rfl rfl rfl
noncomputable def db_law_b1492 (X : db_X) (h18 : db_S → Int32 → Option (Bool × db_S)) (s : db_S) (v3 : Int32) : Option (Bool × db_S) :=
  (db_bd (db_f160 s) fun q1 s2 => (db_bd (db_f346 s2) fun q3 s4 => (cond (db_cnd .eq q1 q3) (db_law_b2023 X h18 s4 v3) (some (false, s4)))))
set_option maxRecDepth 100000 in
set_option maxHeartbeats 8000000 in
theorem db_law_b1492_ok {X : db_X} {d : Nat}  {h18 : db_S → Int32 → Option (Bool × db_S)} {s : db_S} {v3 : Int32} (zh18 : ∀ (s' : db_S) (v3 : Int32) , db_Rf X (d + 36) dbm_378 18 [(0, .ref 0), (1, .ref 4), (2, .ref 669), (3, .int v3)] [] s' db_zB (h18 s' v3)) : db_Rf X (d + 36) dbm_378 1492 [(0, .ref 0), (1, .ref 4), (2, .ref 669), (3, .int v3)] [] s db_zB (db_law_b1492 X h18 s v3) := by
  unfold db_law_b1492
  refine db_Rgo (pc' := 1493) (lv' := [(0, .ref 0), (1, .ref 4), (2, .ref 669), (3, .int v3)]) (st' := [.ref 4]) 1 rfl ?_
  refine db_RcdI (mr' := dbm_160) (as := [.ref 4]) (rest := []) (pc' := 1496) (lv1 := [(0, .ref 0), (1, .ref 4), (2, .ref 669), (3, .int v3)]) rfl rfl rfl rfl rfl (db_f160_ok) fun q1 s2 => ?_
  refine db_Rgo (pc' := 1497) (lv' := [(0, .ref 0), (1, .ref 4), (2, .ref 669), (3, .int v3)]) (st' := [.ref 669, .int q1]) 1 rfl ?_
  refine db_RcdI (mr' := dbm_346) (as := [.ref 669]) (rest := [.int q1]) (pc' := 1500) (lv1 := [(0, .ref 0), (1, .ref 4), (2, .ref 669), (3, .int v3)]) rfl rfl rfl rfl rfl (db_f346_ok) fun q3 s4 => ?_
  refine db_Ric (pc' := 1503) (tg := 2023) (lv1 := [(0, .ref 0), (1, .ref 4), (2, .ref 669), (3, .int v3)]) rfl rfl rfl rfl ?_ ?_
  · exact db_law_b2023_ok zh18
  refine db_Rgo (pc' := 1504) (lv' := [(0, .ref 0), (1, .ref 4), (2, .ref 669), (3, .int v3)]) (st' := [.int (0 : Int32)]) 1 rfl ?_
  exact db_Rret (lv1 := [(0, .ref 0), (1, .ref 4), (2, .ref 669), (3, .int v3)]) rfl rfl rfl rfl
noncomputable def db_law_b1505 (X : db_X) (h18 : db_S → Int32 → Option (Bool × db_S)) (s : db_S) (v3 : Int32) : Option (Bool × db_S) :=
  ((db_xX X (v3 + (1 : Int32))).bind fun x1 => ((db_xX X (v3 + (2 : Int32))).bind fun x2 => ((db_xX X (v3 + (3 : Int32))).bind fun x3 => (db_bd (db_f161 s x1 x2 x3) fun q4 s5 => ((db_xX X (v3 + (1 : Int32))).bind fun x6 => ((db_xX X (v3 + (2 : Int32))).bind fun x7 => ((db_xX X (v3 + (3 : Int32))).bind fun x8 => (db_bd (db_f347 s5 x6 x7 x8) fun q9 s10 => (cond (db_cnd .eq q4 q9) (db_law_b2023 X h18 s10 v3) (some (false, s10)))))))))))
set_option maxRecDepth 100000 in
set_option maxHeartbeats 8000000 in
theorem db_law_b1505_ok {X : db_X} {d : Nat}  {h18 : db_S → Int32 → Option (Bool × db_S)} {s : db_S} {v3 : Int32} (zh18 : ∀ (s' : db_S) (v3 : Int32) , db_Rf X (d + 36) dbm_378 18 [(0, .ref 0), (1, .ref 4), (2, .ref 669), (3, .int v3)] [] s' db_zB (h18 s' v3)) : db_Rf X (d + 36) dbm_378 1505 [(0, .ref 0), (1, .ref 4), (2, .ref 669), (3, .int v3)] [] s db_zB (db_law_b1505 X h18 s v3) := by
  unfold db_law_b1505
  refine db_Rgo (pc' := 1510) (lv' := [(0, .ref 0), (1, .ref 4), (2, .ref 669), (3, .int v3)]) (st' := [.int (v3 + (1 : Int32)), .ref 0, .ref 4]) 5 rfl ?_
  refine db_RldX (pc' := 1511) (lv1 := [(0, .ref 0), (1, .ref 4), (2, .ref 669), (3, .int v3)]) rfl rfl rfl fun x1 => ?_
  refine db_Rgo (pc' := 1515) (lv' := [(0, .ref 0), (1, .ref 4), (2, .ref 669), (3, .int v3)]) (st' := [.int (v3 + (2 : Int32)), .ref 0, .int x1, .ref 4]) 4 rfl ?_
  refine db_RldX (pc' := 1516) (lv1 := [(0, .ref 0), (1, .ref 4), (2, .ref 669), (3, .int v3)]) rfl rfl rfl fun x2 => ?_
  refine db_Rgo (pc' := 1520) (lv' := [(0, .ref 0), (1, .ref 4), (2, .ref 669), (3, .int v3)]) (st' := [.int (v3 + (3 : Int32)), .ref 0, .int x2, .int x1, .ref 4]) 4 rfl ?_
  refine db_RldX (pc' := 1521) (lv1 := [(0, .ref 0), (1, .ref 4), (2, .ref 669), (3, .int v3)]) rfl rfl rfl fun x3 => ?_
  refine db_RcdI (mr' := dbm_161) (as := [.ref 4, .int x1, .int x2, .int x3]) (rest := []) (pc' := 1524) (lv1 := [(0, .ref 0), (1, .ref 4), (2, .ref 669), (3, .int v3)]) rfl rfl rfl rfl rfl (db_f161_ok) fun q4 s5 => ?_
  refine db_Rgo (pc' := 1529) (lv' := [(0, .ref 0), (1, .ref 4), (2, .ref 669), (3, .int v3)]) (st' := [.int (v3 + (1 : Int32)), .ref 0, .ref 669, .int q4]) 5 rfl ?_
  refine db_RldX (pc' := 1530) (lv1 := [(0, .ref 0), (1, .ref 4), (2, .ref 669), (3, .int v3)]) rfl rfl rfl fun x6 => ?_
  refine db_Rgo (pc' := 1534) (lv' := [(0, .ref 0), (1, .ref 4), (2, .ref 669), (3, .int v3)]) (st' := [.int (v3 + (2 : Int32)), .ref 0, .int x6, .ref 669, .int q4]) 4 rfl ?_
  refine db_RldX (pc' := 1535) (lv1 := [(0, .ref 0), (1, .ref 4), (2, .ref 669), (3, .int v3)]) rfl rfl rfl fun x7 => ?_
  refine db_Rgo (pc' := 1539) (lv' := [(0, .ref 0), (1, .ref 4), (2, .ref 669), (3, .int v3)]) (st' := [.int (v3 + (3 : Int32)), .ref 0, .int x7, .int x6, .ref 669, .int q4]) 4 rfl ?_
  refine db_RldX (pc' := 1540) (lv1 := [(0, .ref 0), (1, .ref 4), (2, .ref 669), (3, .int v3)]) rfl rfl rfl fun x8 => ?_
  refine db_RcdI (mr' := dbm_347) (as := [.ref 669, .int x6, .int x7, .int x8]) (rest := [.int q4]) (pc' := 1543) (lv1 := [(0, .ref 0), (1, .ref 4), (2, .ref 669), (3, .int v3)]) rfl rfl rfl rfl rfl (db_f347_ok) fun q9 s10 => ?_
  refine db_Ric (pc' := 1546) (tg := 2023) (lv1 := [(0, .ref 0), (1, .ref 4), (2, .ref 669), (3, .int v3)]) rfl rfl rfl rfl ?_ ?_
  · exact db_law_b2023_ok zh18
  refine db_Rgo (pc' := 1547) (lv' := [(0, .ref 0), (1, .ref 4), (2, .ref 669), (3, .int v3)]) (st' := [.int (0 : Int32)]) 1 rfl ?_
  exact db_Rret (lv1 := [(0, .ref 0), (1, .ref 4), (2, .ref 669), (3, .int v3)]) rfl rfl rfl rfl
noncomputable def db_law_b1548 (X : db_X) (h18 : db_S → Int32 → Option (Bool × db_S)) (s : db_S) (v3 : Int32) : Option (Bool × db_S) :=
  ((db_xX X (v3 + (1 : Int32))).bind fun x1 => ((db_xX X (v3 + (2 : Int32))).bind fun x2 => ((db_xX X (v3 + (3 : Int32))).bind fun x3 => ((db_xX X (v3 + (4 : Int32))).bind fun x4 => (db_bd (db_f167 s x1 x2 x3 x4) fun q5 s6 => ((db_xX X (v3 + (1 : Int32))).bind fun x7 => ((db_xX X (v3 + (2 : Int32))).bind fun x8 => ((db_xX X (v3 + (3 : Int32))).bind fun x9 => ((db_xX X (v3 + (4 : Int32))).bind fun x10 => (db_bd (db_f351 s6 x7 x8 x9 x10) fun q11 s12 => (cond (db_cnd .eq q5 q11) (db_law_b2023 X h18 s12 v3) (some (false, s12)))))))))))))
set_option maxRecDepth 100000 in
set_option maxHeartbeats 8000000 in
theorem db_law_b1548_ok {X : db_X} {d : Nat}  {h18 : db_S → Int32 → Option (Bool × db_S)} {s : db_S} {v3 : Int32} (zh18 : ∀ (s' : db_S) (v3 : Int32) , db_Rf X (d + 36) dbm_378 18 [(0, .ref 0), (1, .ref 4), (2, .ref 669), (3, .int v3)] [] s' db_zB (h18 s' v3)) : db_Rf X (d + 36) dbm_378 1548 [(0, .ref 0), (1, .ref 4), (2, .ref 669), (3, .int v3)] [] s db_zB (db_law_b1548 X h18 s v3) := by
  unfold db_law_b1548
  refine db_Rgo (pc' := 1553) (lv' := [(0, .ref 0), (1, .ref 4), (2, .ref 669), (3, .int v3)]) (st' := [.int (v3 + (1 : Int32)), .ref 0, .ref 4]) 5 rfl ?_
  refine db_RldX (pc' := 1554) (lv1 := [(0, .ref 0), (1, .ref 4), (2, .ref 669), (3, .int v3)]) rfl rfl rfl fun x1 => ?_
  refine db_Rgo (pc' := 1558) (lv' := [(0, .ref 0), (1, .ref 4), (2, .ref 669), (3, .int v3)]) (st' := [.int (v3 + (2 : Int32)), .ref 0, .int x1, .ref 4]) 4 rfl ?_
  refine db_RldX (pc' := 1559) (lv1 := [(0, .ref 0), (1, .ref 4), (2, .ref 669), (3, .int v3)]) rfl rfl rfl fun x2 => ?_
  refine db_Rgo (pc' := 1563) (lv' := [(0, .ref 0), (1, .ref 4), (2, .ref 669), (3, .int v3)]) (st' := [.int (v3 + (3 : Int32)), .ref 0, .int x2, .int x1, .ref 4]) 4 rfl ?_
  refine db_RldX (pc' := 1564) (lv1 := [(0, .ref 0), (1, .ref 4), (2, .ref 669), (3, .int v3)]) rfl rfl rfl fun x3 => ?_
  refine db_Rgo (pc' := 1568) (lv' := [(0, .ref 0), (1, .ref 4), (2, .ref 669), (3, .int v3)]) (st' := [.int (v3 + (4 : Int32)), .ref 0, .int x3, .int x2, .int x1, .ref 4]) 4 rfl ?_
  refine db_RldX (pc' := 1569) (lv1 := [(0, .ref 0), (1, .ref 4), (2, .ref 669), (3, .int v3)]) rfl rfl rfl fun x4 => ?_
  refine db_RcdI (mr' := dbm_167) (as := [.ref 4, .int x1, .int x2, .int x3, .int x4]) (rest := []) (pc' := 1572) (lv1 := [(0, .ref 0), (1, .ref 4), (2, .ref 669), (3, .int v3)]) rfl rfl rfl rfl rfl (db_f167_ok) fun q5 s6 => ?_
  refine db_Rgo (pc' := 1577) (lv' := [(0, .ref 0), (1, .ref 4), (2, .ref 669), (3, .int v3)]) (st' := [.int (v3 + (1 : Int32)), .ref 0, .ref 669, .int q5]) 5 rfl ?_
  refine db_RldX (pc' := 1578) (lv1 := [(0, .ref 0), (1, .ref 4), (2, .ref 669), (3, .int v3)]) rfl rfl rfl fun x7 => ?_
  refine db_Rgo (pc' := 1582) (lv' := [(0, .ref 0), (1, .ref 4), (2, .ref 669), (3, .int v3)]) (st' := [.int (v3 + (2 : Int32)), .ref 0, .int x7, .ref 669, .int q5]) 4 rfl ?_
  refine db_RldX (pc' := 1583) (lv1 := [(0, .ref 0), (1, .ref 4), (2, .ref 669), (3, .int v3)]) rfl rfl rfl fun x8 => ?_
  refine db_Rgo (pc' := 1587) (lv' := [(0, .ref 0), (1, .ref 4), (2, .ref 669), (3, .int v3)]) (st' := [.int (v3 + (3 : Int32)), .ref 0, .int x8, .int x7, .ref 669, .int q5]) 4 rfl ?_
  refine db_RldX (pc' := 1588) (lv1 := [(0, .ref 0), (1, .ref 4), (2, .ref 669), (3, .int v3)]) rfl rfl rfl fun x9 => ?_
  refine db_Rgo (pc' := 1592) (lv' := [(0, .ref 0), (1, .ref 4), (2, .ref 669), (3, .int v3)]) (st' := [.int (v3 + (4 : Int32)), .ref 0, .int x9, .int x8, .int x7, .ref 669, .int q5]) 4 rfl ?_
  refine db_RldX (pc' := 1593) (lv1 := [(0, .ref 0), (1, .ref 4), (2, .ref 669), (3, .int v3)]) rfl rfl rfl fun x10 => ?_
  refine db_RcdI (mr' := dbm_351) (as := [.ref 669, .int x7, .int x8, .int x9, .int x10]) (rest := [.int q5]) (pc' := 1596) (lv1 := [(0, .ref 0), (1, .ref 4), (2, .ref 669), (3, .int v3)]) rfl rfl rfl rfl rfl (db_f351_ok) fun q11 s12 => ?_
  refine db_Ric (pc' := 1599) (tg := 2023) (lv1 := [(0, .ref 0), (1, .ref 4), (2, .ref 669), (3, .int v3)]) rfl rfl rfl rfl ?_ ?_
  · exact db_law_b2023_ok zh18
  refine db_Rgo (pc' := 1600) (lv' := [(0, .ref 0), (1, .ref 4), (2, .ref 669), (3, .int v3)]) (st' := [.int (0 : Int32)]) 1 rfl ?_
  exact db_Rret (lv1 := [(0, .ref 0), (1, .ref 4), (2, .ref 669), (3, .int v3)]) rfl rfl rfl rfl
noncomputable def db_law_b1601 (X : db_X) (h18 : db_S → Int32 → Option (Bool × db_S)) (s : db_S) (v3 : Int32) : Option (Bool × db_S) :=
  (db_bd (db_f169 s) fun q1 s2 => (db_bd (db_f352 s2) fun q3 s4 => (cond (db_cnd .eq q1 q3) (db_law_b2023 X h18 s4 v3) (some (false, s4)))))
set_option maxRecDepth 100000 in
set_option maxHeartbeats 8000000 in
theorem db_law_b1601_ok {X : db_X} {d : Nat}  {h18 : db_S → Int32 → Option (Bool × db_S)} {s : db_S} {v3 : Int32} (zh18 : ∀ (s' : db_S) (v3 : Int32) , db_Rf X (d + 36) dbm_378 18 [(0, .ref 0), (1, .ref 4), (2, .ref 669), (3, .int v3)] [] s' db_zB (h18 s' v3)) : db_Rf X (d + 36) dbm_378 1601 [(0, .ref 0), (1, .ref 4), (2, .ref 669), (3, .int v3)] [] s db_zB (db_law_b1601 X h18 s v3) := by
  unfold db_law_b1601
  refine db_Rgo (pc' := 1602) (lv' := [(0, .ref 0), (1, .ref 4), (2, .ref 669), (3, .int v3)]) (st' := [.ref 4]) 1 rfl ?_
  refine db_RcdI (mr' := dbm_169) (as := [.ref 4]) (rest := []) (pc' := 1605) (lv1 := [(0, .ref 0), (1, .ref 4), (2, .ref 669), (3, .int v3)]) rfl rfl rfl rfl rfl (db_f169_ok) fun q1 s2 => ?_
  refine db_Rgo (pc' := 1606) (lv' := [(0, .ref 0), (1, .ref 4), (2, .ref 669), (3, .int v3)]) (st' := [.ref 669, .int q1]) 1 rfl ?_
  refine db_RcdI (mr' := dbm_352) (as := [.ref 669]) (rest := [.int q1]) (pc' := 1609) (lv1 := [(0, .ref 0), (1, .ref 4), (2, .ref 669), (3, .int v3)]) rfl rfl rfl rfl rfl (db_f352_ok) fun q3 s4 => ?_
  refine db_Ric (pc' := 1612) (tg := 2023) (lv1 := [(0, .ref 0), (1, .ref 4), (2, .ref 669), (3, .int v3)]) rfl rfl rfl rfl ?_ ?_
  · exact db_law_b2023_ok zh18
  refine db_Rgo (pc' := 1613) (lv' := [(0, .ref 0), (1, .ref 4), (2, .ref 669), (3, .int v3)]) (st' := [.int (0 : Int32)]) 1 rfl ?_
  exact db_Rret (lv1 := [(0, .ref 0), (1, .ref 4), (2, .ref 669), (3, .int v3)]) rfl rfl rfl rfl
noncomputable def db_law_b1614 (X : db_X) (h18 : db_S → Int32 → Option (Bool × db_S)) (s : db_S) (v3 : Int32) : Option (Bool × db_S) :=
  ((db_xX X (v3 + (1 : Int32))).bind fun x1 => ((db_xX X (v3 + (2 : Int32))).bind fun x2 => ((db_xX X (v3 + (3 : Int32))).bind fun x3 => (db_bd (db_f173 s x1 x2 x3) fun q4 s5 => ((db_xX X (v3 + (1 : Int32))).bind fun x6 => ((db_xX X (v3 + (2 : Int32))).bind fun x7 => ((db_xX X (v3 + (3 : Int32))).bind fun x8 => (db_bd (db_f354 s5 x6 x7 x8) fun q9 s10 => (cond (db_cnd .eq q4 q9) (db_law_b2023 X h18 s10 v3) (some (false, s10)))))))))))
set_option maxRecDepth 100000 in
set_option maxHeartbeats 8000000 in
theorem db_law_b1614_ok {X : db_X} {d : Nat}  {h18 : db_S → Int32 → Option (Bool × db_S)} {s : db_S} {v3 : Int32} (zh18 : ∀ (s' : db_S) (v3 : Int32) , db_Rf X (d + 36) dbm_378 18 [(0, .ref 0), (1, .ref 4), (2, .ref 669), (3, .int v3)] [] s' db_zB (h18 s' v3)) : db_Rf X (d + 36) dbm_378 1614 [(0, .ref 0), (1, .ref 4), (2, .ref 669), (3, .int v3)] [] s db_zB (db_law_b1614 X h18 s v3) := by
  unfold db_law_b1614
  refine db_Rgo (pc' := 1619) (lv' := [(0, .ref 0), (1, .ref 4), (2, .ref 669), (3, .int v3)]) (st' := [.int (v3 + (1 : Int32)), .ref 0, .ref 4]) 5 rfl ?_
  refine db_RldX (pc' := 1620) (lv1 := [(0, .ref 0), (1, .ref 4), (2, .ref 669), (3, .int v3)]) rfl rfl rfl fun x1 => ?_
  refine db_Rgo (pc' := 1624) (lv' := [(0, .ref 0), (1, .ref 4), (2, .ref 669), (3, .int v3)]) (st' := [.int (v3 + (2 : Int32)), .ref 0, .int x1, .ref 4]) 4 rfl ?_
  refine db_RldX (pc' := 1625) (lv1 := [(0, .ref 0), (1, .ref 4), (2, .ref 669), (3, .int v3)]) rfl rfl rfl fun x2 => ?_
  refine db_Rgo (pc' := 1629) (lv' := [(0, .ref 0), (1, .ref 4), (2, .ref 669), (3, .int v3)]) (st' := [.int (v3 + (3 : Int32)), .ref 0, .int x2, .int x1, .ref 4]) 4 rfl ?_
  refine db_RldX (pc' := 1630) (lv1 := [(0, .ref 0), (1, .ref 4), (2, .ref 669), (3, .int v3)]) rfl rfl rfl fun x3 => ?_
  refine db_RcdI (mr' := dbm_173) (as := [.ref 4, .int x1, .int x2, .int x3]) (rest := []) (pc' := 1633) (lv1 := [(0, .ref 0), (1, .ref 4), (2, .ref 669), (3, .int v3)]) rfl rfl rfl rfl rfl (db_f173_ok) fun q4 s5 => ?_
  refine db_Rgo (pc' := 1638) (lv' := [(0, .ref 0), (1, .ref 4), (2, .ref 669), (3, .int v3)]) (st' := [.int (v3 + (1 : Int32)), .ref 0, .ref 669, .int q4]) 5 rfl ?_
  refine db_RldX (pc' := 1639) (lv1 := [(0, .ref 0), (1, .ref 4), (2, .ref 669), (3, .int v3)]) rfl rfl rfl fun x6 => ?_
  refine db_Rgo (pc' := 1643) (lv' := [(0, .ref 0), (1, .ref 4), (2, .ref 669), (3, .int v3)]) (st' := [.int (v3 + (2 : Int32)), .ref 0, .int x6, .ref 669, .int q4]) 4 rfl ?_
  refine db_RldX (pc' := 1644) (lv1 := [(0, .ref 0), (1, .ref 4), (2, .ref 669), (3, .int v3)]) rfl rfl rfl fun x7 => ?_
  refine db_Rgo (pc' := 1648) (lv' := [(0, .ref 0), (1, .ref 4), (2, .ref 669), (3, .int v3)]) (st' := [.int (v3 + (3 : Int32)), .ref 0, .int x7, .int x6, .ref 669, .int q4]) 4 rfl ?_
  refine db_RldX (pc' := 1649) (lv1 := [(0, .ref 0), (1, .ref 4), (2, .ref 669), (3, .int v3)]) rfl rfl rfl fun x8 => ?_
  refine db_RcdI (mr' := dbm_354) (as := [.ref 669, .int x6, .int x7, .int x8]) (rest := [.int q4]) (pc' := 1652) (lv1 := [(0, .ref 0), (1, .ref 4), (2, .ref 669), (3, .int v3)]) rfl rfl rfl rfl rfl (db_f354_ok) fun q9 s10 => ?_
  refine db_Ric (pc' := 1655) (tg := 2023) (lv1 := [(0, .ref 0), (1, .ref 4), (2, .ref 669), (3, .int v3)]) rfl rfl rfl rfl ?_ ?_
  · exact db_law_b2023_ok zh18
  refine db_Rgo (pc' := 1656) (lv' := [(0, .ref 0), (1, .ref 4), (2, .ref 669), (3, .int v3)]) (st' := [.int (0 : Int32)]) 1 rfl ?_
  exact db_Rret (lv1 := [(0, .ref 0), (1, .ref 4), (2, .ref 669), (3, .int v3)]) rfl rfl rfl rfl
noncomputable def db_law_b1657 (X : db_X) (h18 : db_S → Int32 → Option (Bool × db_S)) (s : db_S) (v3 : Int32) : Option (Bool × db_S) :=
  (db_bd (db_f178 s) fun q1 s2 => (db_bd (db_f357 s2) fun q3 s4 => (cond (db_cnd .eq q1 q3) (db_law_b2023 X h18 s4 v3) (some (false, s4)))))
set_option maxRecDepth 100000 in
set_option maxHeartbeats 8000000 in
theorem db_law_b1657_ok {X : db_X} {d : Nat}  {h18 : db_S → Int32 → Option (Bool × db_S)} {s : db_S} {v3 : Int32} (zh18 : ∀ (s' : db_S) (v3 : Int32) , db_Rf X (d + 36) dbm_378 18 [(0, .ref 0), (1, .ref 4), (2, .ref 669), (3, .int v3)] [] s' db_zB (h18 s' v3)) : db_Rf X (d + 36) dbm_378 1657 [(0, .ref 0), (1, .ref 4), (2, .ref 669), (3, .int v3)] [] s db_zB (db_law_b1657 X h18 s v3) := by
  unfold db_law_b1657
  refine db_Rgo (pc' := 1658) (lv' := [(0, .ref 0), (1, .ref 4), (2, .ref 669), (3, .int v3)]) (st' := [.ref 4]) 1 rfl ?_
  refine db_RcdI (mr' := dbm_178) (as := [.ref 4]) (rest := []) (pc' := 1661) (lv1 := [(0, .ref 0), (1, .ref 4), (2, .ref 669), (3, .int v3)]) rfl rfl rfl rfl rfl (db_f178_ok) fun q1 s2 => ?_
  refine db_Rgo (pc' := 1662) (lv' := [(0, .ref 0), (1, .ref 4), (2, .ref 669), (3, .int v3)]) (st' := [.ref 669, .int q1]) 1 rfl ?_
  refine db_RcdI (mr' := dbm_357) (as := [.ref 669]) (rest := [.int q1]) (pc' := 1665) (lv1 := [(0, .ref 0), (1, .ref 4), (2, .ref 669), (3, .int v3)]) rfl rfl rfl rfl rfl (db_f357_ok) fun q3 s4 => ?_
  refine db_Ric (pc' := 1668) (tg := 2023) (lv1 := [(0, .ref 0), (1, .ref 4), (2, .ref 669), (3, .int v3)]) rfl rfl rfl rfl ?_ ?_
  · exact db_law_b2023_ok zh18
  refine db_Rgo (pc' := 1669) (lv' := [(0, .ref 0), (1, .ref 4), (2, .ref 669), (3, .int v3)]) (st' := [.int (0 : Int32)]) 1 rfl ?_
  exact db_Rret (lv1 := [(0, .ref 0), (1, .ref 4), (2, .ref 669), (3, .int v3)]) rfl rfl rfl rfl
noncomputable def db_law_b1670 (X : db_X) (h18 : db_S → Int32 → Option (Bool × db_S)) (s : db_S) (v3 : Int32) : Option (Bool × db_S) :=
  ((db_xX X (v3 + (1 : Int32))).bind fun x1 => ((db_xX X (v3 + (2 : Int32))).bind fun x2 => ((db_xX X (v3 + (3 : Int32))).bind fun x3 => (db_bd (db_f179 s x1 x2 x3) fun q4 s5 => ((db_xX X (v3 + (1 : Int32))).bind fun x6 => ((db_xX X (v3 + (2 : Int32))).bind fun x7 => ((db_xX X (v3 + (3 : Int32))).bind fun x8 => (db_bd (db_f358 s5 x6 x7 x8) fun q9 s10 => (cond (db_cnd .eq q4 q9) (db_law_b2023 X h18 s10 v3) (some (false, s10)))))))))))
set_option maxRecDepth 100000 in
set_option maxHeartbeats 8000000 in
theorem db_law_b1670_ok {X : db_X} {d : Nat}  {h18 : db_S → Int32 → Option (Bool × db_S)} {s : db_S} {v3 : Int32} (zh18 : ∀ (s' : db_S) (v3 : Int32) , db_Rf X (d + 36) dbm_378 18 [(0, .ref 0), (1, .ref 4), (2, .ref 669), (3, .int v3)] [] s' db_zB (h18 s' v3)) : db_Rf X (d + 36) dbm_378 1670 [(0, .ref 0), (1, .ref 4), (2, .ref 669), (3, .int v3)] [] s db_zB (db_law_b1670 X h18 s v3) := by
  unfold db_law_b1670
  refine db_Rgo (pc' := 1675) (lv' := [(0, .ref 0), (1, .ref 4), (2, .ref 669), (3, .int v3)]) (st' := [.int (v3 + (1 : Int32)), .ref 0, .ref 4]) 5 rfl ?_
  refine db_RldX (pc' := 1676) (lv1 := [(0, .ref 0), (1, .ref 4), (2, .ref 669), (3, .int v3)]) rfl rfl rfl fun x1 => ?_
  refine db_Rgo (pc' := 1680) (lv' := [(0, .ref 0), (1, .ref 4), (2, .ref 669), (3, .int v3)]) (st' := [.int (v3 + (2 : Int32)), .ref 0, .int x1, .ref 4]) 4 rfl ?_
  refine db_RldX (pc' := 1681) (lv1 := [(0, .ref 0), (1, .ref 4), (2, .ref 669), (3, .int v3)]) rfl rfl rfl fun x2 => ?_
  refine db_Rgo (pc' := 1685) (lv' := [(0, .ref 0), (1, .ref 4), (2, .ref 669), (3, .int v3)]) (st' := [.int (v3 + (3 : Int32)), .ref 0, .int x2, .int x1, .ref 4]) 4 rfl ?_
  refine db_RldX (pc' := 1686) (lv1 := [(0, .ref 0), (1, .ref 4), (2, .ref 669), (3, .int v3)]) rfl rfl rfl fun x3 => ?_
  refine db_RcdI (mr' := dbm_179) (as := [.ref 4, .int x1, .int x2, .int x3]) (rest := []) (pc' := 1689) (lv1 := [(0, .ref 0), (1, .ref 4), (2, .ref 669), (3, .int v3)]) rfl rfl rfl rfl rfl (db_f179_ok) fun q4 s5 => ?_
  refine db_Rgo (pc' := 1694) (lv' := [(0, .ref 0), (1, .ref 4), (2, .ref 669), (3, .int v3)]) (st' := [.int (v3 + (1 : Int32)), .ref 0, .ref 669, .int q4]) 5 rfl ?_
  refine db_RldX (pc' := 1695) (lv1 := [(0, .ref 0), (1, .ref 4), (2, .ref 669), (3, .int v3)]) rfl rfl rfl fun x6 => ?_
  refine db_Rgo (pc' := 1699) (lv' := [(0, .ref 0), (1, .ref 4), (2, .ref 669), (3, .int v3)]) (st' := [.int (v3 + (2 : Int32)), .ref 0, .int x6, .ref 669, .int q4]) 4 rfl ?_
  refine db_RldX (pc' := 1700) (lv1 := [(0, .ref 0), (1, .ref 4), (2, .ref 669), (3, .int v3)]) rfl rfl rfl fun x7 => ?_
  refine db_Rgo (pc' := 1704) (lv' := [(0, .ref 0), (1, .ref 4), (2, .ref 669), (3, .int v3)]) (st' := [.int (v3 + (3 : Int32)), .ref 0, .int x7, .int x6, .ref 669, .int q4]) 4 rfl ?_
  refine db_RldX (pc' := 1705) (lv1 := [(0, .ref 0), (1, .ref 4), (2, .ref 669), (3, .int v3)]) rfl rfl rfl fun x8 => ?_
  refine db_RcdI (mr' := dbm_358) (as := [.ref 669, .int x6, .int x7, .int x8]) (rest := [.int q4]) (pc' := 1708) (lv1 := [(0, .ref 0), (1, .ref 4), (2, .ref 669), (3, .int v3)]) rfl rfl rfl rfl rfl (db_f358_ok) fun q9 s10 => ?_
  refine db_Ric (pc' := 1711) (tg := 2023) (lv1 := [(0, .ref 0), (1, .ref 4), (2, .ref 669), (3, .int v3)]) rfl rfl rfl rfl ?_ ?_
  · exact db_law_b2023_ok zh18
  refine db_Rgo (pc' := 1712) (lv' := [(0, .ref 0), (1, .ref 4), (2, .ref 669), (3, .int v3)]) (st' := [.int (0 : Int32)]) 1 rfl ?_
  exact db_Rret (lv1 := [(0, .ref 0), (1, .ref 4), (2, .ref 669), (3, .int v3)]) rfl rfl rfl rfl
noncomputable def db_law_b1713 (X : db_X) (h18 : db_S → Int32 → Option (Bool × db_S)) (s : db_S) (v3 : Int32) : Option (Bool × db_S) :=
  ((db_xX X (v3 + (1 : Int32))).bind fun x1 => ((db_xX X (v3 + (2 : Int32))).bind fun x2 => ((db_xX X (v3 + (3 : Int32))).bind fun x3 => (db_bd (db_f180 s x1 x2 x3) fun q4 s5 => ((db_xX X (v3 + (1 : Int32))).bind fun x6 => ((db_xX X (v3 + (2 : Int32))).bind fun x7 => ((db_xX X (v3 + (3 : Int32))).bind fun x8 => (db_bd (db_f359 s5 x6 x7 x8) fun q9 s10 => (cond (db_cnd .eq q4 q9) (db_law_b2023 X h18 s10 v3) (some (false, s10)))))))))))
set_option maxRecDepth 100000 in
set_option maxHeartbeats 8000000 in
theorem db_law_b1713_ok {X : db_X} {d : Nat}  {h18 : db_S → Int32 → Option (Bool × db_S)} {s : db_S} {v3 : Int32} (zh18 : ∀ (s' : db_S) (v3 : Int32) , db_Rf X (d + 36) dbm_378 18 [(0, .ref 0), (1, .ref 4), (2, .ref 669), (3, .int v3)] [] s' db_zB (h18 s' v3)) : db_Rf X (d + 36) dbm_378 1713 [(0, .ref 0), (1, .ref 4), (2, .ref 669), (3, .int v3)] [] s db_zB (db_law_b1713 X h18 s v3) := by
  unfold db_law_b1713
  refine db_Rgo (pc' := 1718) (lv' := [(0, .ref 0), (1, .ref 4), (2, .ref 669), (3, .int v3)]) (st' := [.int (v3 + (1 : Int32)), .ref 0, .ref 4]) 5 rfl ?_
  refine db_RldX (pc' := 1719) (lv1 := [(0, .ref 0), (1, .ref 4), (2, .ref 669), (3, .int v3)]) rfl rfl rfl fun x1 => ?_
  refine db_Rgo (pc' := 1723) (lv' := [(0, .ref 0), (1, .ref 4), (2, .ref 669), (3, .int v3)]) (st' := [.int (v3 + (2 : Int32)), .ref 0, .int x1, .ref 4]) 4 rfl ?_
  refine db_RldX (pc' := 1724) (lv1 := [(0, .ref 0), (1, .ref 4), (2, .ref 669), (3, .int v3)]) rfl rfl rfl fun x2 => ?_
  refine db_Rgo (pc' := 1728) (lv' := [(0, .ref 0), (1, .ref 4), (2, .ref 669), (3, .int v3)]) (st' := [.int (v3 + (3 : Int32)), .ref 0, .int x2, .int x1, .ref 4]) 4 rfl ?_
  refine db_RldX (pc' := 1729) (lv1 := [(0, .ref 0), (1, .ref 4), (2, .ref 669), (3, .int v3)]) rfl rfl rfl fun x3 => ?_
  refine db_RcdI (mr' := dbm_180) (as := [.ref 4, .int x1, .int x2, .int x3]) (rest := []) (pc' := 1732) (lv1 := [(0, .ref 0), (1, .ref 4), (2, .ref 669), (3, .int v3)]) rfl rfl rfl rfl rfl (db_f180_ok) fun q4 s5 => ?_
  refine db_Rgo (pc' := 1737) (lv' := [(0, .ref 0), (1, .ref 4), (2, .ref 669), (3, .int v3)]) (st' := [.int (v3 + (1 : Int32)), .ref 0, .ref 669, .int q4]) 5 rfl ?_
  refine db_RldX (pc' := 1738) (lv1 := [(0, .ref 0), (1, .ref 4), (2, .ref 669), (3, .int v3)]) rfl rfl rfl fun x6 => ?_
  refine db_Rgo (pc' := 1742) (lv' := [(0, .ref 0), (1, .ref 4), (2, .ref 669), (3, .int v3)]) (st' := [.int (v3 + (2 : Int32)), .ref 0, .int x6, .ref 669, .int q4]) 4 rfl ?_
  refine db_RldX (pc' := 1743) (lv1 := [(0, .ref 0), (1, .ref 4), (2, .ref 669), (3, .int v3)]) rfl rfl rfl fun x7 => ?_
  refine db_Rgo (pc' := 1747) (lv' := [(0, .ref 0), (1, .ref 4), (2, .ref 669), (3, .int v3)]) (st' := [.int (v3 + (3 : Int32)), .ref 0, .int x7, .int x6, .ref 669, .int q4]) 4 rfl ?_
  refine db_RldX (pc' := 1748) (lv1 := [(0, .ref 0), (1, .ref 4), (2, .ref 669), (3, .int v3)]) rfl rfl rfl fun x8 => ?_
  refine db_RcdI (mr' := dbm_359) (as := [.ref 669, .int x6, .int x7, .int x8]) (rest := [.int q4]) (pc' := 1751) (lv1 := [(0, .ref 0), (1, .ref 4), (2, .ref 669), (3, .int v3)]) rfl rfl rfl rfl rfl (db_f359_ok) fun q9 s10 => ?_
  refine db_Ric (pc' := 1754) (tg := 2023) (lv1 := [(0, .ref 0), (1, .ref 4), (2, .ref 669), (3, .int v3)]) rfl rfl rfl rfl ?_ ?_
  · exact db_law_b2023_ok zh18
  refine db_Rgo (pc' := 1755) (lv' := [(0, .ref 0), (1, .ref 4), (2, .ref 669), (3, .int v3)]) (st' := [.int (0 : Int32)]) 1 rfl ?_
  exact db_Rret (lv1 := [(0, .ref 0), (1, .ref 4), (2, .ref 669), (3, .int v3)]) rfl rfl rfl rfl
noncomputable def db_law_b1756 (X : db_X) (h18 : db_S → Int32 → Option (Bool × db_S)) (s : db_S) (v3 : Int32) : Option (Bool × db_S) :=
  ((db_xX X (v3 + (1 : Int32))).bind fun x1 => (db_bd (db_f181 s x1) fun q2 s3 => ((db_xX X (v3 + (1 : Int32))).bind fun x4 => (db_bd (db_f360 s3 x4) fun q5 s6 => (cond (db_cnd .eq q2 q5) (db_law_b2023 X h18 s6 v3) (some (false, s6)))))))
set_option maxRecDepth 100000 in
set_option maxHeartbeats 8000000 in
theorem db_law_b1756_ok {X : db_X} {d : Nat}  {h18 : db_S → Int32 → Option (Bool × db_S)} {s : db_S} {v3 : Int32} (zh18 : ∀ (s' : db_S) (v3 : Int32) , db_Rf X (d + 36) dbm_378 18 [(0, .ref 0), (1, .ref 4), (2, .ref 669), (3, .int v3)] [] s' db_zB (h18 s' v3)) : db_Rf X (d + 36) dbm_378 1756 [(0, .ref 0), (1, .ref 4), (2, .ref 669), (3, .int v3)] [] s db_zB (db_law_b1756 X h18 s v3) := by
  unfold db_law_b1756
  refine db_Rgo (pc' := 1761) (lv' := [(0, .ref 0), (1, .ref 4), (2, .ref 669), (3, .int v3)]) (st' := [.int (v3 + (1 : Int32)), .ref 0, .ref 4]) 5 rfl ?_
  refine db_RldX (pc' := 1762) (lv1 := [(0, .ref 0), (1, .ref 4), (2, .ref 669), (3, .int v3)]) rfl rfl rfl fun x1 => ?_
  refine db_RcdI (mr' := dbm_181) (as := [.ref 4, .int x1]) (rest := []) (pc' := 1765) (lv1 := [(0, .ref 0), (1, .ref 4), (2, .ref 669), (3, .int v3)]) rfl rfl rfl rfl rfl (db_f181_ok) fun q2 s3 => ?_
  refine db_Rgo (pc' := 1770) (lv' := [(0, .ref 0), (1, .ref 4), (2, .ref 669), (3, .int v3)]) (st' := [.int (v3 + (1 : Int32)), .ref 0, .ref 669, .int q2]) 5 rfl ?_
  refine db_RldX (pc' := 1771) (lv1 := [(0, .ref 0), (1, .ref 4), (2, .ref 669), (3, .int v3)]) rfl rfl rfl fun x4 => ?_
  refine db_RcdI (mr' := dbm_360) (as := [.ref 669, .int x4]) (rest := [.int q2]) (pc' := 1774) (lv1 := [(0, .ref 0), (1, .ref 4), (2, .ref 669), (3, .int v3)]) rfl rfl rfl rfl rfl (db_f360_ok) fun q5 s6 => ?_
  refine db_Ric (pc' := 1777) (tg := 2023) (lv1 := [(0, .ref 0), (1, .ref 4), (2, .ref 669), (3, .int v3)]) rfl rfl rfl rfl ?_ ?_
  · exact db_law_b2023_ok zh18
  refine db_Rgo (pc' := 1778) (lv' := [(0, .ref 0), (1, .ref 4), (2, .ref 669), (3, .int v3)]) (st' := [.int (0 : Int32)]) 1 rfl ?_
  exact db_Rret (lv1 := [(0, .ref 0), (1, .ref 4), (2, .ref 669), (3, .int v3)]) rfl rfl rfl rfl
noncomputable def db_law_b1779 (X : db_X) (h18 : db_S → Int32 → Option (Bool × db_S)) (s : db_S) (v3 : Int32) : Option (Bool × db_S) :=
  ((db_xX X (v3 + (1 : Int32))).bind fun x1 => ((db_xX X (v3 + (2 : Int32))).bind fun x2 => (db_bd (db_f184 s x1 x2) fun q3 s4 => ((db_xX X (v3 + (1 : Int32))).bind fun x5 => ((db_xX X (v3 + (2 : Int32))).bind fun x6 => (db_bd (db_f362 s4 x5 x6) fun q7 s8 => (cond (db_cnd .eq q3 q7) (db_law_b2023 X h18 s8 v3) (some (false, s8)))))))))
set_option maxRecDepth 100000 in
set_option maxHeartbeats 8000000 in
theorem db_law_b1779_ok {X : db_X} {d : Nat}  {h18 : db_S → Int32 → Option (Bool × db_S)} {s : db_S} {v3 : Int32} (zh18 : ∀ (s' : db_S) (v3 : Int32) , db_Rf X (d + 36) dbm_378 18 [(0, .ref 0), (1, .ref 4), (2, .ref 669), (3, .int v3)] [] s' db_zB (h18 s' v3)) : db_Rf X (d + 36) dbm_378 1779 [(0, .ref 0), (1, .ref 4), (2, .ref 669), (3, .int v3)] [] s db_zB (db_law_b1779 X h18 s v3) := by
  unfold db_law_b1779
  refine db_Rgo (pc' := 1784) (lv' := [(0, .ref 0), (1, .ref 4), (2, .ref 669), (3, .int v3)]) (st' := [.int (v3 + (1 : Int32)), .ref 0, .ref 4]) 5 rfl ?_
  refine db_RldX (pc' := 1785) (lv1 := [(0, .ref 0), (1, .ref 4), (2, .ref 669), (3, .int v3)]) rfl rfl rfl fun x1 => ?_
  refine db_Rgo (pc' := 1789) (lv' := [(0, .ref 0), (1, .ref 4), (2, .ref 669), (3, .int v3)]) (st' := [.int (v3 + (2 : Int32)), .ref 0, .int x1, .ref 4]) 4 rfl ?_
  refine db_RldX (pc' := 1790) (lv1 := [(0, .ref 0), (1, .ref 4), (2, .ref 669), (3, .int v3)]) rfl rfl rfl fun x2 => ?_
  refine db_RcdI (mr' := dbm_184) (as := [.ref 4, .int x1, .int x2]) (rest := []) (pc' := 1793) (lv1 := [(0, .ref 0), (1, .ref 4), (2, .ref 669), (3, .int v3)]) rfl rfl rfl rfl rfl (db_f184_ok) fun q3 s4 => ?_
  refine db_Rgo (pc' := 1798) (lv' := [(0, .ref 0), (1, .ref 4), (2, .ref 669), (3, .int v3)]) (st' := [.int (v3 + (1 : Int32)), .ref 0, .ref 669, .int q3]) 5 rfl ?_
  refine db_RldX (pc' := 1799) (lv1 := [(0, .ref 0), (1, .ref 4), (2, .ref 669), (3, .int v3)]) rfl rfl rfl fun x5 => ?_
  refine db_Rgo (pc' := 1803) (lv' := [(0, .ref 0), (1, .ref 4), (2, .ref 669), (3, .int v3)]) (st' := [.int (v3 + (2 : Int32)), .ref 0, .int x5, .ref 669, .int q3]) 4 rfl ?_
  refine db_RldX (pc' := 1804) (lv1 := [(0, .ref 0), (1, .ref 4), (2, .ref 669), (3, .int v3)]) rfl rfl rfl fun x6 => ?_
  refine db_RcdI (mr' := dbm_362) (as := [.ref 669, .int x5, .int x6]) (rest := [.int q3]) (pc' := 1807) (lv1 := [(0, .ref 0), (1, .ref 4), (2, .ref 669), (3, .int v3)]) rfl rfl rfl rfl rfl (db_f362_ok) fun q7 s8 => ?_
  refine db_Ric (pc' := 1810) (tg := 2023) (lv1 := [(0, .ref 0), (1, .ref 4), (2, .ref 669), (3, .int v3)]) rfl rfl rfl rfl ?_ ?_
  · exact db_law_b2023_ok zh18
  refine db_Rgo (pc' := 1811) (lv' := [(0, .ref 0), (1, .ref 4), (2, .ref 669), (3, .int v3)]) (st' := [.int (0 : Int32)]) 1 rfl ?_
  exact db_Rret (lv1 := [(0, .ref 0), (1, .ref 4), (2, .ref 669), (3, .int v3)]) rfl rfl rfl rfl
noncomputable def db_law_b1812 (X : db_X) (h18 : db_S → Int32 → Option (Bool × db_S)) (s : db_S) (v3 : Int32) : Option (Bool × db_S) :=
  ((db_xX X (v3 + (1 : Int32))).bind fun x1 => ((db_xX X (v3 + (2 : Int32))).bind fun x2 => ((db_xX X (v3 + (3 : Int32))).bind fun x3 => (db_bd (db_f186 s x1 x2 x3) fun q4 s5 => ((db_xX X (v3 + (1 : Int32))).bind fun x6 => ((db_xX X (v3 + (2 : Int32))).bind fun x7 => ((db_xX X (v3 + (3 : Int32))).bind fun x8 => (db_bd (db_f363 s5 x6 x7 x8) fun q9 s10 => (cond (db_cnd .eq (db_i q4) (db_i q9)) (db_law_b2023 X h18 s10 v3) (some (false, s10)))))))))))
set_option maxRecDepth 100000 in
set_option maxHeartbeats 8000000 in
theorem db_law_b1812_ok {X : db_X} {d : Nat}  {h18 : db_S → Int32 → Option (Bool × db_S)} {s : db_S} {v3 : Int32} (zh18 : ∀ (s' : db_S) (v3 : Int32) , db_Rf X (d + 36) dbm_378 18 [(0, .ref 0), (1, .ref 4), (2, .ref 669), (3, .int v3)] [] s' db_zB (h18 s' v3)) : db_Rf X (d + 36) dbm_378 1812 [(0, .ref 0), (1, .ref 4), (2, .ref 669), (3, .int v3)] [] s db_zB (db_law_b1812 X h18 s v3) := by
  unfold db_law_b1812
  refine db_Rgo (pc' := 1817) (lv' := [(0, .ref 0), (1, .ref 4), (2, .ref 669), (3, .int v3)]) (st' := [.int (v3 + (1 : Int32)), .ref 0, .ref 4]) 5 rfl ?_
  refine db_RldX (pc' := 1818) (lv1 := [(0, .ref 0), (1, .ref 4), (2, .ref 669), (3, .int v3)]) rfl rfl rfl fun x1 => ?_
  refine db_Rgo (pc' := 1822) (lv' := [(0, .ref 0), (1, .ref 4), (2, .ref 669), (3, .int v3)]) (st' := [.int (v3 + (2 : Int32)), .ref 0, .int x1, .ref 4]) 4 rfl ?_
  refine db_RldX (pc' := 1823) (lv1 := [(0, .ref 0), (1, .ref 4), (2, .ref 669), (3, .int v3)]) rfl rfl rfl fun x2 => ?_
  refine db_Rgo (pc' := 1827) (lv' := [(0, .ref 0), (1, .ref 4), (2, .ref 669), (3, .int v3)]) (st' := [.int (v3 + (3 : Int32)), .ref 0, .int x2, .int x1, .ref 4]) 4 rfl ?_
  refine db_RldX (pc' := 1828) (lv1 := [(0, .ref 0), (1, .ref 4), (2, .ref 669), (3, .int v3)]) rfl rfl rfl fun x3 => ?_
  refine db_RcdB (mr' := dbm_186) (as := [.ref 4, .int x1, .int x2, .int x3]) (rest := []) (pc' := 1831) (lv1 := [(0, .ref 0), (1, .ref 4), (2, .ref 669), (3, .int v3)]) rfl rfl rfl rfl rfl (db_f186_ok) fun q4 s5 => ?_
  refine db_Rgo (pc' := 1836) (lv' := [(0, .ref 0), (1, .ref 4), (2, .ref 669), (3, .int v3)]) (st' := [.int (v3 + (1 : Int32)), .ref 0, .ref 669, .int (db_i q4)]) 5 rfl ?_
  refine db_RldX (pc' := 1837) (lv1 := [(0, .ref 0), (1, .ref 4), (2, .ref 669), (3, .int v3)]) rfl rfl rfl fun x6 => ?_
  refine db_Rgo (pc' := 1841) (lv' := [(0, .ref 0), (1, .ref 4), (2, .ref 669), (3, .int v3)]) (st' := [.int (v3 + (2 : Int32)), .ref 0, .int x6, .ref 669, .int (db_i q4)]) 4 rfl ?_
  refine db_RldX (pc' := 1842) (lv1 := [(0, .ref 0), (1, .ref 4), (2, .ref 669), (3, .int v3)]) rfl rfl rfl fun x7 => ?_
  refine db_Rgo (pc' := 1846) (lv' := [(0, .ref 0), (1, .ref 4), (2, .ref 669), (3, .int v3)]) (st' := [.int (v3 + (3 : Int32)), .ref 0, .int x7, .int x6, .ref 669, .int (db_i q4)]) 4 rfl ?_
  refine db_RldX (pc' := 1847) (lv1 := [(0, .ref 0), (1, .ref 4), (2, .ref 669), (3, .int v3)]) rfl rfl rfl fun x8 => ?_
  refine db_RcdB (mr' := dbm_363) (as := [.ref 669, .int x6, .int x7, .int x8]) (rest := [.int (db_i q4)]) (pc' := 1850) (lv1 := [(0, .ref 0), (1, .ref 4), (2, .ref 669), (3, .int v3)]) rfl rfl rfl rfl rfl (db_f363_ok) fun q9 s10 => ?_
  refine db_Ric (pc' := 1853) (tg := 2023) (lv1 := [(0, .ref 0), (1, .ref 4), (2, .ref 669), (3, .int v3)]) rfl rfl rfl rfl ?_ ?_
  · exact db_law_b2023_ok zh18
  refine db_Rgo (pc' := 1854) (lv' := [(0, .ref 0), (1, .ref 4), (2, .ref 669), (3, .int v3)]) (st' := [.int (0 : Int32)]) 1 rfl ?_
  exact db_Rret (lv1 := [(0, .ref 0), (1, .ref 4), (2, .ref 669), (3, .int v3)]) rfl rfl rfl rfl
noncomputable def db_law_b1855 (X : db_X) (h18 : db_S → Int32 → Option (Bool × db_S)) (s : db_S) (v3 : Int32) : Option (Bool × db_S) :=
  ((db_xX X (v3 + (1 : Int32))).bind fun x1 => ((db_xX X (v3 + (2 : Int32))).bind fun x2 => ((db_xX X (v3 + (3 : Int32))).bind fun x3 => ((db_xX X (v3 + (4 : Int32))).bind fun x4 => (db_bd (db_f190 s x1 x2 x3 x4) fun q5 s6 => ((db_xX X (v3 + (1 : Int32))).bind fun x7 => ((db_xX X (v3 + (2 : Int32))).bind fun x8 => ((db_xX X (v3 + (3 : Int32))).bind fun x9 => ((db_xX X (v3 + (4 : Int32))).bind fun x10 => (db_bd (db_f365 s6 x7 x8 x9 x10) fun q11 s12 => (cond (db_cnd .eq (db_i q5) (db_i q11)) (db_law_b2023 X h18 s12 v3) (some (false, s12)))))))))))))
set_option maxRecDepth 100000 in
set_option maxHeartbeats 8000000 in
theorem db_law_b1855_ok {X : db_X} {d : Nat}  {h18 : db_S → Int32 → Option (Bool × db_S)} {s : db_S} {v3 : Int32} (zh18 : ∀ (s' : db_S) (v3 : Int32) , db_Rf X (d + 36) dbm_378 18 [(0, .ref 0), (1, .ref 4), (2, .ref 669), (3, .int v3)] [] s' db_zB (h18 s' v3)) : db_Rf X (d + 36) dbm_378 1855 [(0, .ref 0), (1, .ref 4), (2, .ref 669), (3, .int v3)] [] s db_zB (db_law_b1855 X h18 s v3) := by
  unfold db_law_b1855
  refine db_Rgo (pc' := 1860) (lv' := [(0, .ref 0), (1, .ref 4), (2, .ref 669), (3, .int v3)]) (st' := [.int (v3 + (1 : Int32)), .ref 0, .ref 4]) 5 rfl ?_
  refine db_RldX (pc' := 1861) (lv1 := [(0, .ref 0), (1, .ref 4), (2, .ref 669), (3, .int v3)]) rfl rfl rfl fun x1 => ?_
  refine db_Rgo (pc' := 1865) (lv' := [(0, .ref 0), (1, .ref 4), (2, .ref 669), (3, .int v3)]) (st' := [.int (v3 + (2 : Int32)), .ref 0, .int x1, .ref 4]) 4 rfl ?_
  refine db_RldX (pc' := 1866) (lv1 := [(0, .ref 0), (1, .ref 4), (2, .ref 669), (3, .int v3)]) rfl rfl rfl fun x2 => ?_
  refine db_Rgo (pc' := 1870) (lv' := [(0, .ref 0), (1, .ref 4), (2, .ref 669), (3, .int v3)]) (st' := [.int (v3 + (3 : Int32)), .ref 0, .int x2, .int x1, .ref 4]) 4 rfl ?_
  refine db_RldX (pc' := 1871) (lv1 := [(0, .ref 0), (1, .ref 4), (2, .ref 669), (3, .int v3)]) rfl rfl rfl fun x3 => ?_
  refine db_Rgo (pc' := 1875) (lv' := [(0, .ref 0), (1, .ref 4), (2, .ref 669), (3, .int v3)]) (st' := [.int (v3 + (4 : Int32)), .ref 0, .int x3, .int x2, .int x1, .ref 4]) 4 rfl ?_
  refine db_RldX (pc' := 1876) (lv1 := [(0, .ref 0), (1, .ref 4), (2, .ref 669), (3, .int v3)]) rfl rfl rfl fun x4 => ?_
  refine db_RcdB (mr' := dbm_190) (as := [.ref 4, .int x1, .int x2, .int x3, .int x4]) (rest := []) (pc' := 1879) (lv1 := [(0, .ref 0), (1, .ref 4), (2, .ref 669), (3, .int v3)]) rfl rfl rfl rfl rfl (db_f190_ok) fun q5 s6 => ?_
  refine db_Rgo (pc' := 1884) (lv' := [(0, .ref 0), (1, .ref 4), (2, .ref 669), (3, .int v3)]) (st' := [.int (v3 + (1 : Int32)), .ref 0, .ref 669, .int (db_i q5)]) 5 rfl ?_
  refine db_RldX (pc' := 1885) (lv1 := [(0, .ref 0), (1, .ref 4), (2, .ref 669), (3, .int v3)]) rfl rfl rfl fun x7 => ?_
  refine db_Rgo (pc' := 1889) (lv' := [(0, .ref 0), (1, .ref 4), (2, .ref 669), (3, .int v3)]) (st' := [.int (v3 + (2 : Int32)), .ref 0, .int x7, .ref 669, .int (db_i q5)]) 4 rfl ?_
  refine db_RldX (pc' := 1890) (lv1 := [(0, .ref 0), (1, .ref 4), (2, .ref 669), (3, .int v3)]) rfl rfl rfl fun x8 => ?_
  refine db_Rgo (pc' := 1894) (lv' := [(0, .ref 0), (1, .ref 4), (2, .ref 669), (3, .int v3)]) (st' := [.int (v3 + (3 : Int32)), .ref 0, .int x8, .int x7, .ref 669, .int (db_i q5)]) 4 rfl ?_
  refine db_RldX (pc' := 1895) (lv1 := [(0, .ref 0), (1, .ref 4), (2, .ref 669), (3, .int v3)]) rfl rfl rfl fun x9 => ?_
  refine db_Rgo (pc' := 1899) (lv' := [(0, .ref 0), (1, .ref 4), (2, .ref 669), (3, .int v3)]) (st' := [.int (v3 + (4 : Int32)), .ref 0, .int x9, .int x8, .int x7, .ref 669, .int (db_i q5)]) 4 rfl ?_
  refine db_RldX (pc' := 1900) (lv1 := [(0, .ref 0), (1, .ref 4), (2, .ref 669), (3, .int v3)]) rfl rfl rfl fun x10 => ?_
  refine db_RcdB (mr' := dbm_365) (as := [.ref 669, .int x7, .int x8, .int x9, .int x10]) (rest := [.int (db_i q5)]) (pc' := 1903) (lv1 := [(0, .ref 0), (1, .ref 4), (2, .ref 669), (3, .int v3)]) rfl rfl rfl rfl rfl (db_f365_ok) fun q11 s12 => ?_
  refine db_Ric (pc' := 1906) (tg := 2023) (lv1 := [(0, .ref 0), (1, .ref 4), (2, .ref 669), (3, .int v3)]) rfl rfl rfl rfl ?_ ?_
  · exact db_law_b2023_ok zh18
  refine db_Rgo (pc' := 1907) (lv' := [(0, .ref 0), (1, .ref 4), (2, .ref 669), (3, .int v3)]) (st' := [.int (0 : Int32)]) 1 rfl ?_
  exact db_Rret (lv1 := [(0, .ref 0), (1, .ref 4), (2, .ref 669), (3, .int v3)]) rfl rfl rfl rfl
noncomputable def db_law_b1908 (X : db_X) (h18 : db_S → Int32 → Option (Bool × db_S)) (s : db_S) (v3 : Int32) : Option (Bool × db_S) :=
  ((db_xX X (v3 + (1 : Int32))).bind fun x1 => (db_bd (db_f193 s x1) fun q2 s3 => ((db_xX X (v3 + (1 : Int32))).bind fun x4 => (db_bd (db_f366 s3 x4) fun q5 s6 => (cond (db_cnd .eq q2 q5) (db_law_b2023 X h18 s6 v3) (some (false, s6)))))))
set_option maxRecDepth 100000 in
set_option maxHeartbeats 8000000 in
theorem db_law_b1908_ok {X : db_X} {d : Nat}  {h18 : db_S → Int32 → Option (Bool × db_S)} {s : db_S} {v3 : Int32} (zh18 : ∀ (s' : db_S) (v3 : Int32) , db_Rf X (d + 36) dbm_378 18 [(0, .ref 0), (1, .ref 4), (2, .ref 669), (3, .int v3)] [] s' db_zB (h18 s' v3)) : db_Rf X (d + 36) dbm_378 1908 [(0, .ref 0), (1, .ref 4), (2, .ref 669), (3, .int v3)] [] s db_zB (db_law_b1908 X h18 s v3) := by
  unfold db_law_b1908
  refine db_Rgo (pc' := 1913) (lv' := [(0, .ref 0), (1, .ref 4), (2, .ref 669), (3, .int v3)]) (st' := [.int (v3 + (1 : Int32)), .ref 0, .ref 4]) 5 rfl ?_
  refine db_RldX (pc' := 1914) (lv1 := [(0, .ref 0), (1, .ref 4), (2, .ref 669), (3, .int v3)]) rfl rfl rfl fun x1 => ?_
  refine db_RcdI (mr' := dbm_193) (as := [.ref 4, .int x1]) (rest := []) (pc' := 1917) (lv1 := [(0, .ref 0), (1, .ref 4), (2, .ref 669), (3, .int v3)]) rfl rfl rfl rfl rfl (db_f193_ok) fun q2 s3 => ?_
  refine db_Rgo (pc' := 1922) (lv' := [(0, .ref 0), (1, .ref 4), (2, .ref 669), (3, .int v3)]) (st' := [.int (v3 + (1 : Int32)), .ref 0, .ref 669, .int q2]) 5 rfl ?_
  refine db_RldX (pc' := 1923) (lv1 := [(0, .ref 0), (1, .ref 4), (2, .ref 669), (3, .int v3)]) rfl rfl rfl fun x4 => ?_
  refine db_RcdI (mr' := dbm_366) (as := [.ref 669, .int x4]) (rest := [.int q2]) (pc' := 1926) (lv1 := [(0, .ref 0), (1, .ref 4), (2, .ref 669), (3, .int v3)]) rfl rfl rfl rfl rfl (db_f366_ok) fun q5 s6 => ?_
  refine db_Ric (pc' := 1929) (tg := 2023) (lv1 := [(0, .ref 0), (1, .ref 4), (2, .ref 669), (3, .int v3)]) rfl rfl rfl rfl ?_ ?_
  · exact db_law_b2023_ok zh18
  refine db_Rgo (pc' := 1930) (lv' := [(0, .ref 0), (1, .ref 4), (2, .ref 669), (3, .int v3)]) (st' := [.int (0 : Int32)]) 1 rfl ?_
  exact db_Rret (lv1 := [(0, .ref 0), (1, .ref 4), (2, .ref 669), (3, .int v3)]) rfl rfl rfl rfl
noncomputable def db_law_b1931 (X : db_X) (h18 : db_S → Int32 → Option (Bool × db_S)) (s : db_S) (v3 : Int32) : Option (Bool × db_S) :=
  ((db_xX X (v3 + (1 : Int32))).bind fun x1 => (db_bd (db_f201 s x1) fun q2 s3 => ((db_xX X (v3 + (1 : Int32))).bind fun x4 => (db_bd (db_f374 s3 x4) fun q5 s6 => (cond (db_cnd .eq q2 q5) (db_law_b2023 X h18 s6 v3) (some (false, s6)))))))
set_option maxRecDepth 100000 in
set_option maxHeartbeats 8000000 in
theorem db_law_b1931_ok {X : db_X} {d : Nat}  {h18 : db_S → Int32 → Option (Bool × db_S)} {s : db_S} {v3 : Int32} (zh18 : ∀ (s' : db_S) (v3 : Int32) , db_Rf X (d + 36) dbm_378 18 [(0, .ref 0), (1, .ref 4), (2, .ref 669), (3, .int v3)] [] s' db_zB (h18 s' v3)) : db_Rf X (d + 36) dbm_378 1931 [(0, .ref 0), (1, .ref 4), (2, .ref 669), (3, .int v3)] [] s db_zB (db_law_b1931 X h18 s v3) := by
  unfold db_law_b1931
  refine db_Rgo (pc' := 1936) (lv' := [(0, .ref 0), (1, .ref 4), (2, .ref 669), (3, .int v3)]) (st' := [.int (v3 + (1 : Int32)), .ref 0, .ref 4]) 5 rfl ?_
  refine db_RldX (pc' := 1937) (lv1 := [(0, .ref 0), (1, .ref 4), (2, .ref 669), (3, .int v3)]) rfl rfl rfl fun x1 => ?_
  refine db_RcdI (mr' := dbm_201) (as := [.ref 4, .int x1]) (rest := []) (pc' := 1940) (lv1 := [(0, .ref 0), (1, .ref 4), (2, .ref 669), (3, .int v3)]) rfl rfl rfl rfl rfl (db_f201_ok) fun q2 s3 => ?_
  refine db_Rgo (pc' := 1945) (lv' := [(0, .ref 0), (1, .ref 4), (2, .ref 669), (3, .int v3)]) (st' := [.int (v3 + (1 : Int32)), .ref 0, .ref 669, .int q2]) 5 rfl ?_
  refine db_RldX (pc' := 1946) (lv1 := [(0, .ref 0), (1, .ref 4), (2, .ref 669), (3, .int v3)]) rfl rfl rfl fun x4 => ?_
  refine db_RcdI (mr' := dbm_374) (as := [.ref 669, .int x4]) (rest := [.int q2]) (pc' := 1949) (lv1 := [(0, .ref 0), (1, .ref 4), (2, .ref 669), (3, .int v3)]) rfl rfl rfl rfl rfl (db_f374_ok) fun q5 s6 => ?_
  refine db_Ric (pc' := 1952) (tg := 2023) (lv1 := [(0, .ref 0), (1, .ref 4), (2, .ref 669), (3, .int v3)]) rfl rfl rfl rfl ?_ ?_
  · exact db_law_b2023_ok zh18
  refine db_Rgo (pc' := 1953) (lv' := [(0, .ref 0), (1, .ref 4), (2, .ref 669), (3, .int v3)]) (st' := [.int (0 : Int32)]) 1 rfl ?_
  exact db_Rret (lv1 := [(0, .ref 0), (1, .ref 4), (2, .ref 669), (3, .int v3)]) rfl rfl rfl rfl
noncomputable def db_law_b1954 (X : db_X) (h18 : db_S → Int32 → Option (Bool × db_S)) (s : db_S) (v3 : Int32) : Option (Bool × db_S) :=
  ((db_xX X (v3 + (1 : Int32))).bind fun x1 => ((db_xX X (v3 + (2 : Int32))).bind fun x2 => ((db_xX X (v3 + (3 : Int32))).bind fun x3 => (db_bd (db_f202 s x1 x2 x3) fun q4 s5 => ((db_xX X (v3 + (1 : Int32))).bind fun x6 => ((db_xX X (v3 + (2 : Int32))).bind fun x7 => ((db_xX X (v3 + (3 : Int32))).bind fun x8 => (db_bd (db_f375 s5 x6 x7 x8) fun q9 s10 => (cond (db_cnd .eq (db_i q4) (db_i q9)) (db_law_b2023 X h18 s10 v3) (some (false, s10)))))))))))
set_option maxRecDepth 100000 in
set_option maxHeartbeats 8000000 in
theorem db_law_b1954_ok {X : db_X} {d : Nat}  {h18 : db_S → Int32 → Option (Bool × db_S)} {s : db_S} {v3 : Int32} (zh18 : ∀ (s' : db_S) (v3 : Int32) , db_Rf X (d + 36) dbm_378 18 [(0, .ref 0), (1, .ref 4), (2, .ref 669), (3, .int v3)] [] s' db_zB (h18 s' v3)) : db_Rf X (d + 36) dbm_378 1954 [(0, .ref 0), (1, .ref 4), (2, .ref 669), (3, .int v3)] [] s db_zB (db_law_b1954 X h18 s v3) := by
  unfold db_law_b1954
  refine db_Rgo (pc' := 1959) (lv' := [(0, .ref 0), (1, .ref 4), (2, .ref 669), (3, .int v3)]) (st' := [.int (v3 + (1 : Int32)), .ref 0, .ref 4]) 5 rfl ?_
  refine db_RldX (pc' := 1960) (lv1 := [(0, .ref 0), (1, .ref 4), (2, .ref 669), (3, .int v3)]) rfl rfl rfl fun x1 => ?_
  refine db_Rgo (pc' := 1964) (lv' := [(0, .ref 0), (1, .ref 4), (2, .ref 669), (3, .int v3)]) (st' := [.int (v3 + (2 : Int32)), .ref 0, .int x1, .ref 4]) 4 rfl ?_
  refine db_RldX (pc' := 1965) (lv1 := [(0, .ref 0), (1, .ref 4), (2, .ref 669), (3, .int v3)]) rfl rfl rfl fun x2 => ?_
  refine db_Rgo (pc' := 1969) (lv' := [(0, .ref 0), (1, .ref 4), (2, .ref 669), (3, .int v3)]) (st' := [.int (v3 + (3 : Int32)), .ref 0, .int x2, .int x1, .ref 4]) 4 rfl ?_
  refine db_RldX (pc' := 1970) (lv1 := [(0, .ref 0), (1, .ref 4), (2, .ref 669), (3, .int v3)]) rfl rfl rfl fun x3 => ?_
  refine db_RcdB (mr' := dbm_202) (as := [.ref 4, .int x1, .int x2, .int x3]) (rest := []) (pc' := 1973) (lv1 := [(0, .ref 0), (1, .ref 4), (2, .ref 669), (3, .int v3)]) rfl rfl rfl rfl rfl (db_f202_ok) fun q4 s5 => ?_
  refine db_Rgo (pc' := 1978) (lv' := [(0, .ref 0), (1, .ref 4), (2, .ref 669), (3, .int v3)]) (st' := [.int (v3 + (1 : Int32)), .ref 0, .ref 669, .int (db_i q4)]) 5 rfl ?_
  refine db_RldX (pc' := 1979) (lv1 := [(0, .ref 0), (1, .ref 4), (2, .ref 669), (3, .int v3)]) rfl rfl rfl fun x6 => ?_
  refine db_Rgo (pc' := 1983) (lv' := [(0, .ref 0), (1, .ref 4), (2, .ref 669), (3, .int v3)]) (st' := [.int (v3 + (2 : Int32)), .ref 0, .int x6, .ref 669, .int (db_i q4)]) 4 rfl ?_
  refine db_RldX (pc' := 1984) (lv1 := [(0, .ref 0), (1, .ref 4), (2, .ref 669), (3, .int v3)]) rfl rfl rfl fun x7 => ?_
  refine db_Rgo (pc' := 1988) (lv' := [(0, .ref 0), (1, .ref 4), (2, .ref 669), (3, .int v3)]) (st' := [.int (v3 + (3 : Int32)), .ref 0, .int x7, .int x6, .ref 669, .int (db_i q4)]) 4 rfl ?_
  refine db_RldX (pc' := 1989) (lv1 := [(0, .ref 0), (1, .ref 4), (2, .ref 669), (3, .int v3)]) rfl rfl rfl fun x8 => ?_
  refine db_RcdB (mr' := dbm_375) (as := [.ref 669, .int x6, .int x7, .int x8]) (rest := [.int (db_i q4)]) (pc' := 1992) (lv1 := [(0, .ref 0), (1, .ref 4), (2, .ref 669), (3, .int v3)]) rfl rfl rfl rfl rfl (db_f375_ok) fun q9 s10 => ?_
  refine db_Ric (pc' := 1995) (tg := 2023) (lv1 := [(0, .ref 0), (1, .ref 4), (2, .ref 669), (3, .int v3)]) rfl rfl rfl rfl ?_ ?_
  · exact db_law_b2023_ok zh18
  refine db_Rgo (pc' := 1996) (lv' := [(0, .ref 0), (1, .ref 4), (2, .ref 669), (3, .int v3)]) (st' := [.int (0 : Int32)]) 1 rfl ?_
  exact db_Rret (lv1 := [(0, .ref 0), (1, .ref 4), (2, .ref 669), (3, .int v3)]) rfl rfl rfl rfl
noncomputable def db_law_b1997 (X : db_X) (h18 : db_S → Int32 → Option (Bool × db_S)) (s : db_S) (v3 : Int32) : Option (Bool × db_S) :=
  (db_bd (db_f204 s) fun q1 s2 => (db_bd (db_f376 s2) fun q3 s4 => (cond (db_cnd .eq q1 q3) (db_law_b2023 X h18 s4 v3) (some (false, s4)))))
set_option maxRecDepth 100000 in
set_option maxHeartbeats 8000000 in
theorem db_law_b1997_ok {X : db_X} {d : Nat}  {h18 : db_S → Int32 → Option (Bool × db_S)} {s : db_S} {v3 : Int32} (zh18 : ∀ (s' : db_S) (v3 : Int32) , db_Rf X (d + 36) dbm_378 18 [(0, .ref 0), (1, .ref 4), (2, .ref 669), (3, .int v3)] [] s' db_zB (h18 s' v3)) : db_Rf X (d + 36) dbm_378 1997 [(0, .ref 0), (1, .ref 4), (2, .ref 669), (3, .int v3)] [] s db_zB (db_law_b1997 X h18 s v3) := by
  unfold db_law_b1997
  refine db_Rgo (pc' := 1998) (lv' := [(0, .ref 0), (1, .ref 4), (2, .ref 669), (3, .int v3)]) (st' := [.ref 4]) 1 rfl ?_
  refine db_RcdI (mr' := dbm_204) (as := [.ref 4]) (rest := []) (pc' := 2001) (lv1 := [(0, .ref 0), (1, .ref 4), (2, .ref 669), (3, .int v3)]) rfl rfl rfl rfl rfl (db_f204_ok) fun q1 s2 => ?_
  refine db_Rgo (pc' := 2002) (lv' := [(0, .ref 0), (1, .ref 4), (2, .ref 669), (3, .int v3)]) (st' := [.ref 669, .int q1]) 1 rfl ?_
  refine db_RcdI (mr' := dbm_376) (as := [.ref 669]) (rest := [.int q1]) (pc' := 2005) (lv1 := [(0, .ref 0), (1, .ref 4), (2, .ref 669), (3, .int v3)]) rfl rfl rfl rfl rfl (db_f376_ok) fun q3 s4 => ?_
  refine db_Ric (pc' := 2008) (tg := 2023) (lv1 := [(0, .ref 0), (1, .ref 4), (2, .ref 669), (3, .int v3)]) rfl rfl rfl rfl ?_ ?_
  · exact db_law_b2023_ok zh18
  refine db_Rgo (pc' := 2009) (lv' := [(0, .ref 0), (1, .ref 4), (2, .ref 669), (3, .int v3)]) (st' := [.int (0 : Int32)]) 1 rfl ?_
  exact db_Rret (lv1 := [(0, .ref 0), (1, .ref 4), (2, .ref 669), (3, .int v3)]) rfl rfl rfl rfl
noncomputable def db_law_b2010 (X : db_X) (h18 : db_S → Int32 → Option (Bool × db_S)) (s : db_S) (v3 : Int32) : Option (Bool × db_S) :=
  (db_bd (db_f205 s) fun q1 s2 => (db_bd (db_f377 s2) fun q3 s4 => (cond (db_cnd .eq q1 q3) (db_law_b2023 X h18 s4 v3) (some (false, s4)))))
set_option maxRecDepth 100000 in
set_option maxHeartbeats 8000000 in
theorem db_law_b2010_ok {X : db_X} {d : Nat}  {h18 : db_S → Int32 → Option (Bool × db_S)} {s : db_S} {v3 : Int32} (zh18 : ∀ (s' : db_S) (v3 : Int32) , db_Rf X (d + 36) dbm_378 18 [(0, .ref 0), (1, .ref 4), (2, .ref 669), (3, .int v3)] [] s' db_zB (h18 s' v3)) : db_Rf X (d + 36) dbm_378 2010 [(0, .ref 0), (1, .ref 4), (2, .ref 669), (3, .int v3)] [] s db_zB (db_law_b2010 X h18 s v3) := by
  unfold db_law_b2010
  refine db_Rgo (pc' := 2011) (lv' := [(0, .ref 0), (1, .ref 4), (2, .ref 669), (3, .int v3)]) (st' := [.ref 4]) 1 rfl ?_
  refine db_RcdI (mr' := dbm_205) (as := [.ref 4]) (rest := []) (pc' := 2014) (lv1 := [(0, .ref 0), (1, .ref 4), (2, .ref 669), (3, .int v3)]) rfl rfl rfl rfl rfl (db_f205_ok) fun q1 s2 => ?_
  refine db_Rgo (pc' := 2015) (lv' := [(0, .ref 0), (1, .ref 4), (2, .ref 669), (3, .int v3)]) (st' := [.ref 669, .int q1]) 1 rfl ?_
  refine db_RcdI (mr' := dbm_377) (as := [.ref 669]) (rest := [.int q1]) (pc' := 2018) (lv1 := [(0, .ref 0), (1, .ref 4), (2, .ref 669), (3, .int v3)]) rfl rfl rfl rfl rfl (db_f377_ok) fun q3 s4 => ?_
  refine db_Ric (pc' := 2021) (tg := 2023) (lv1 := [(0, .ref 0), (1, .ref 4), (2, .ref 669), (3, .int v3)]) rfl rfl rfl rfl ?_ ?_
  · exact db_law_b2023_ok zh18
  refine db_Rgo (pc' := 2022) (lv' := [(0, .ref 0), (1, .ref 4), (2, .ref 669), (3, .int v3)]) (st' := [.int (0 : Int32)]) 1 rfl ?_
  exact db_Rret (lv1 := [(0, .ref 0), (1, .ref 4), (2, .ref 669), (3, .int v3)]) rfl rfl rfl rfl
noncomputable def db_law_b18 (X : db_X) : Nat → db_S → Int32 → Option (Bool × db_S)
  | 0, _, _ => none
  | n + 1, s, v3 =>
    ((db_xN X).bind fun x1 => (cond (db_cnd .gt v3 (x1 - (6 : Int32))) (some (true, s)) ((db_xX X v3).bind fun x2 => (if (x2 &&& (63 : Int32)) = (0 : Int32) then (db_law_b272 X (db_law_b18 X n) s v3) else (if (x2 &&& (63 : Int32)) = (1 : Int32) then (db_law_b285 X (db_law_b18 X n) s v3) else (if (x2 &&& (63 : Int32)) = (2 : Int32) then (db_law_b299 X (db_law_b18 X n) s v3) else (if (x2 &&& (63 : Int32)) = (3 : Int32) then (db_law_b313 X (db_law_b18 X n) s v3) else (if (x2 &&& (63 : Int32)) = (4 : Int32) then (db_law_b356 X (db_law_b18 X n) s v3) else (if (x2 &&& (63 : Int32)) = (5 : Int32) then (db_law_b429 X (db_law_b18 X n) s v3) else (if (x2 &&& (63 : Int32)) = (6 : Int32) then (db_law_b463 X (db_law_b18 X n) s v3) else (if (x2 &&& (63 : Int32)) = (7 : Int32) then (db_law_b526 X (db_law_b18 X n) s v3) else (if (x2 &&& (63 : Int32)) = (8 : Int32) then (db_law_b589 X (db_law_b18 X n) s v3) else (if (x2 &&& (63 : Int32)) = (9 : Int32) then (db_law_b612 X (db_law_b18 X n) s v3) else (if (x2 &&& (63 : Int32)) = (10 : Int32) then (db_law_b635 X (db_law_b18 X n) s v3) else (if (x2 &&& (63 : Int32)) = (11 : Int32) then (db_law_b658 X (db_law_b18 X n) s v3) else (if (x2 &&& (63 : Int32)) = (12 : Int32) then (db_law_b681 X (db_law_b18 X n) s v3) else (if (x2 &&& (63 : Int32)) = (13 : Int32) then (db_law_b714 X (db_law_b18 X n) s v3) else (if (x2 &&& (63 : Int32)) = (14 : Int32) then (db_law_b747 X (db_law_b18 X n) s v3) else (if (x2 &&& (63 : Int32)) = (15 : Int32) then (db_law_b770 X (db_law_b18 X n) s v3) else (if (x2 &&& (63 : Int32)) = (16 : Int32) then (db_law_b803 X (db_law_b18 X n) s v3) else (if (x2 &&& (63 : Int32)) = (17 : Int32) then (db_law_b836 X (db_law_b18 X n) s v3) else (if (x2 &&& (63 : Int32)) = (18 : Int32) then (db_law_b869 X (db_law_b18 X n) s v3) else (if (x2 &&& (63 : Int32)) = (19 : Int32) then (db_law_b902 X (db_law_b18 X n) s v3) else (if (x2 &&& (63 : Int32)) = (20 : Int32) then (db_law_b925 X (db_law_b18 X n) s v3) else (if (x2 &&& (63 : Int32)) = (21 : Int32) then (db_law_b938 X (db_law_b18 X n) s v3) else (if (x2 &&& (63 : Int32)) = (22 : Int32) then (db_law_b961 X (db_law_b18 X n) s v3) else (if (x2 &&& (63 : Int32)) = (23 : Int32) then (db_law_b994 X (db_law_b18 X n) s v3) else (if (x2 &&& (63 : Int32)) = (24 : Int32) then (db_law_b1017 X (db_law_b18 X n) s v3) else (if (x2 &&& (63 : Int32)) = (25 : Int32) then (db_law_b1040 X (db_law_b18 X n) s v3) else (if (x2 &&& (63 : Int32)) = (26 : Int32) then (db_law_b1063 X (db_law_b18 X n) s v3) else (if (x2 &&& (63 : Int32)) = (27 : Int32) then (db_law_b1106 X (db_law_b18 X n) s v3) else (if (x2 &&& (63 : Int32)) = (28 : Int32) then (db_law_b1159 X (db_law_b18 X n) s v3) else (if (x2 &&& (63 : Int32)) = (29 : Int32) then (db_law_b1212 X (db_law_b18 X n) s v3) else (if (x2 &&& (63 : Int32)) = (30 : Int32) then (db_law_b1265 X (db_law_b18 X n) s v3) else (if (x2 &&& (63 : Int32)) = (31 : Int32) then (db_law_b1308 X (db_law_b18 X n) s v3) else (if (x2 &&& (63 : Int32)) = (32 : Int32) then (db_law_b1351 X (db_law_b18 X n) s v3) else (if (x2 &&& (63 : Int32)) = (33 : Int32) then (db_law_b1364 X (db_law_b18 X n) s v3) else (if (x2 &&& (63 : Int32)) = (34 : Int32) then (db_law_b1377 X (db_law_b18 X n) s v3) else (if (x2 &&& (63 : Int32)) = (35 : Int32) then (db_law_b1410 X (db_law_b18 X n) s v3) else (if (x2 &&& (63 : Int32)) = (36 : Int32) then (db_law_b1423 X (db_law_b18 X n) s v3) else (if (x2 &&& (63 : Int32)) = (37 : Int32) then (db_law_b1456 X (db_law_b18 X n) s v3) else (if (x2 &&& (63 : Int32)) = (38 : Int32) then (db_law_b1479 X (db_law_b18 X n) s v3) else (if (x2 &&& (63 : Int32)) = (39 : Int32) then (db_law_b1492 X (db_law_b18 X n) s v3) else (if (x2 &&& (63 : Int32)) = (40 : Int32) then (db_law_b1505 X (db_law_b18 X n) s v3) else (if (x2 &&& (63 : Int32)) = (41 : Int32) then (db_law_b1548 X (db_law_b18 X n) s v3) else (if (x2 &&& (63 : Int32)) = (42 : Int32) then (db_law_b1601 X (db_law_b18 X n) s v3) else (if (x2 &&& (63 : Int32)) = (43 : Int32) then (db_law_b1614 X (db_law_b18 X n) s v3) else (if (x2 &&& (63 : Int32)) = (44 : Int32) then (db_law_b1657 X (db_law_b18 X n) s v3) else (if (x2 &&& (63 : Int32)) = (45 : Int32) then (db_law_b1670 X (db_law_b18 X n) s v3) else (if (x2 &&& (63 : Int32)) = (46 : Int32) then (db_law_b1713 X (db_law_b18 X n) s v3) else (if (x2 &&& (63 : Int32)) = (47 : Int32) then (db_law_b1756 X (db_law_b18 X n) s v3) else (if (x2 &&& (63 : Int32)) = (48 : Int32) then (db_law_b1779 X (db_law_b18 X n) s v3) else (if (x2 &&& (63 : Int32)) = (49 : Int32) then (db_law_b1812 X (db_law_b18 X n) s v3) else (if (x2 &&& (63 : Int32)) = (50 : Int32) then (db_law_b1855 X (db_law_b18 X n) s v3) else (if (x2 &&& (63 : Int32)) = (51 : Int32) then (db_law_b1908 X (db_law_b18 X n) s v3) else (if (x2 &&& (63 : Int32)) = (52 : Int32) then (db_law_b1931 X (db_law_b18 X n) s v3) else (if (x2 &&& (63 : Int32)) = (53 : Int32) then (db_law_b1954 X (db_law_b18 X n) s v3) else (if (x2 &&& (63 : Int32)) = (54 : Int32) then (db_law_b1997 X (db_law_b18 X n) s v3) else (if (x2 &&& (63 : Int32)) = (55 : Int32) then (db_law_b2010 X (db_law_b18 X n) s v3) else (db_law_b2023 X (db_law_b18 X n) s v3))))))))))))))))))))))))))))))))))))))))))))))))))))))))))))
set_option maxRecDepth 100000 in
set_option maxHeartbeats 8000000 in
theorem db_law_b18_ok {X : db_X} {d : Nat}  (n : Nat) : ∀ (s : db_S) (v3 : Int32), db_Rf X (d + 36) dbm_378 18 [(0, .ref 0), (1, .ref 4), (2, .ref 669), (3, .int v3)] [] s db_zB (db_law_b18 X n s v3) := by
  induction n with
  | zero => intros; exact db_Rnone
  | succ n ih =>
    intro s v3
    unfold db_law_b18
    refine db_Rgo (pc' := 20) (lv' := [(0, .ref 0), (1, .ref 4), (2, .ref 669), (3, .int v3)]) (st' := [.ref 0, .int v3]) 2 rfl ?_
    refine db_RlenX (pc' := 21) (lv1 := [(0, .ref 0), (1, .ref 4), (2, .ref 669), (3, .int v3)]) rfl rfl rfl fun x1 => ?_
    refine db_Rgo (pc' := 24) (lv' := [(0, .ref 0), (1, .ref 4), (2, .ref 669), (3, .int v3)]) (st' := [.int (x1 - (6 : Int32)), .int v3]) 2 rfl ?_
    refine db_Ric (pc' := 27) (tg := 2029) (lv1 := [(0, .ref 0), (1, .ref 4), (2, .ref 669), (3, .int v3)]) rfl rfl rfl rfl ?_ ?_
    · refine db_Rgo (pc' := 2030) (lv' := []) (st' := [.int (1 : Int32)]) 1 rfl ?_
      exact db_Rret (lv1 := []) rfl rfl rfl rfl
    refine db_Rgo (pc' := 29) (lv' := [(0, .ref 0), (1, .ref 4), (2, .ref 669), (3, .int v3)]) (st' := [.int v3, .ref 0]) 2 rfl ?_
    refine db_RldX (pc' := 30) (lv1 := [(0, .ref 0), (1, .ref 4), (2, .ref 669), (3, .int v3)]) rfl rfl rfl fun x2 => ?_
    refine db_Rgo (pc' := 33) (lv' := [(0, .ref 0), (1, .ref 4), (2, .ref 669), (3, .int v3)]) (st' := [.int (x2 &&& (63 : Int32))]) 2 rfl ?_
    refine db_Rsw (v := (0 : Int32)) (tg := 272) (lv1 := [(0, .ref 0), (1, .ref 4), (2, .ref 669), (3, .int v3)]) rfl rfl rfl rfl rfl ?_ (fun zc3 => ?_)
    · exact db_law_b272_ok ih
    refine db_Rsw (v := (1 : Int32)) (tg := 285) (lv1 := [(0, .ref 0), (1, .ref 4), (2, .ref 669), (3, .int v3)]) rfl rfl rfl rfl rfl ?_ (fun zc4 => ?_)
    · exact db_law_b285_ok ih
    refine db_Rsw (v := (2 : Int32)) (tg := 299) (lv1 := [(0, .ref 0), (1, .ref 4), (2, .ref 669), (3, .int v3)]) rfl rfl rfl rfl rfl ?_ (fun zc5 => ?_)
    · exact db_law_b299_ok ih
    refine db_Rsw (v := (3 : Int32)) (tg := 313) (lv1 := [(0, .ref 0), (1, .ref 4), (2, .ref 669), (3, .int v3)]) rfl rfl rfl rfl rfl ?_ (fun zc6 => ?_)
    · exact db_law_b313_ok ih
    refine db_Rsw (v := (4 : Int32)) (tg := 356) (lv1 := [(0, .ref 0), (1, .ref 4), (2, .ref 669), (3, .int v3)]) rfl rfl rfl rfl rfl ?_ (fun zc7 => ?_)
    · exact db_law_b356_ok ih
    refine db_Rsw (v := (5 : Int32)) (tg := 429) (lv1 := [(0, .ref 0), (1, .ref 4), (2, .ref 669), (3, .int v3)]) rfl rfl rfl rfl rfl ?_ (fun zc8 => ?_)
    · exact db_law_b429_ok ih
    refine db_Rsw (v := (6 : Int32)) (tg := 463) (lv1 := [(0, .ref 0), (1, .ref 4), (2, .ref 669), (3, .int v3)]) rfl rfl rfl rfl rfl ?_ (fun zc9 => ?_)
    · exact db_law_b463_ok ih
    refine db_Rsw (v := (7 : Int32)) (tg := 526) (lv1 := [(0, .ref 0), (1, .ref 4), (2, .ref 669), (3, .int v3)]) rfl rfl rfl rfl rfl ?_ (fun zc10 => ?_)
    · exact db_law_b526_ok ih
    refine db_Rsw (v := (8 : Int32)) (tg := 589) (lv1 := [(0, .ref 0), (1, .ref 4), (2, .ref 669), (3, .int v3)]) rfl rfl rfl rfl rfl ?_ (fun zc11 => ?_)
    · exact db_law_b589_ok ih
    refine db_Rsw (v := (9 : Int32)) (tg := 612) (lv1 := [(0, .ref 0), (1, .ref 4), (2, .ref 669), (3, .int v3)]) rfl rfl rfl rfl rfl ?_ (fun zc12 => ?_)
    · exact db_law_b612_ok ih
    refine db_Rsw (v := (10 : Int32)) (tg := 635) (lv1 := [(0, .ref 0), (1, .ref 4), (2, .ref 669), (3, .int v3)]) rfl rfl rfl rfl rfl ?_ (fun zc13 => ?_)
    · exact db_law_b635_ok ih
    refine db_Rsw (v := (11 : Int32)) (tg := 658) (lv1 := [(0, .ref 0), (1, .ref 4), (2, .ref 669), (3, .int v3)]) rfl rfl rfl rfl rfl ?_ (fun zc14 => ?_)
    · exact db_law_b658_ok ih
    refine db_Rsw (v := (12 : Int32)) (tg := 681) (lv1 := [(0, .ref 0), (1, .ref 4), (2, .ref 669), (3, .int v3)]) rfl rfl rfl rfl rfl ?_ (fun zc15 => ?_)
    · exact db_law_b681_ok ih
    refine db_Rsw (v := (13 : Int32)) (tg := 714) (lv1 := [(0, .ref 0), (1, .ref 4), (2, .ref 669), (3, .int v3)]) rfl rfl rfl rfl rfl ?_ (fun zc16 => ?_)
    · exact db_law_b714_ok ih
    refine db_Rsw (v := (14 : Int32)) (tg := 747) (lv1 := [(0, .ref 0), (1, .ref 4), (2, .ref 669), (3, .int v3)]) rfl rfl rfl rfl rfl ?_ (fun zc17 => ?_)
    · exact db_law_b747_ok ih
    refine db_Rsw (v := (15 : Int32)) (tg := 770) (lv1 := [(0, .ref 0), (1, .ref 4), (2, .ref 669), (3, .int v3)]) rfl rfl rfl rfl rfl ?_ (fun zc18 => ?_)
    · exact db_law_b770_ok ih
    refine db_Rsw (v := (16 : Int32)) (tg := 803) (lv1 := [(0, .ref 0), (1, .ref 4), (2, .ref 669), (3, .int v3)]) rfl rfl rfl rfl rfl ?_ (fun zc19 => ?_)
    · exact db_law_b803_ok ih
    refine db_Rsw (v := (17 : Int32)) (tg := 836) (lv1 := [(0, .ref 0), (1, .ref 4), (2, .ref 669), (3, .int v3)]) rfl rfl rfl rfl rfl ?_ (fun zc20 => ?_)
    · exact db_law_b836_ok ih
    refine db_Rsw (v := (18 : Int32)) (tg := 869) (lv1 := [(0, .ref 0), (1, .ref 4), (2, .ref 669), (3, .int v3)]) rfl rfl rfl rfl rfl ?_ (fun zc21 => ?_)
    · exact db_law_b869_ok ih
    refine db_Rsw (v := (19 : Int32)) (tg := 902) (lv1 := [(0, .ref 0), (1, .ref 4), (2, .ref 669), (3, .int v3)]) rfl rfl rfl rfl rfl ?_ (fun zc22 => ?_)
    · exact db_law_b902_ok ih
    refine db_Rsw (v := (20 : Int32)) (tg := 925) (lv1 := [(0, .ref 0), (1, .ref 4), (2, .ref 669), (3, .int v3)]) rfl rfl rfl rfl rfl ?_ (fun zc23 => ?_)
    · exact db_law_b925_ok ih
    refine db_Rsw (v := (21 : Int32)) (tg := 938) (lv1 := [(0, .ref 0), (1, .ref 4), (2, .ref 669), (3, .int v3)]) rfl rfl rfl rfl rfl ?_ (fun zc24 => ?_)
    · exact db_law_b938_ok ih
    refine db_Rsw (v := (22 : Int32)) (tg := 961) (lv1 := [(0, .ref 0), (1, .ref 4), (2, .ref 669), (3, .int v3)]) rfl rfl rfl rfl rfl ?_ (fun zc25 => ?_)
    · exact db_law_b961_ok ih
    refine db_Rsw (v := (23 : Int32)) (tg := 994) (lv1 := [(0, .ref 0), (1, .ref 4), (2, .ref 669), (3, .int v3)]) rfl rfl rfl rfl rfl ?_ (fun zc26 => ?_)
    · exact db_law_b994_ok ih
    refine db_Rsw (v := (24 : Int32)) (tg := 1017) (lv1 := [(0, .ref 0), (1, .ref 4), (2, .ref 669), (3, .int v3)]) rfl rfl rfl rfl rfl ?_ (fun zc27 => ?_)
    · exact db_law_b1017_ok ih
    refine db_Rsw (v := (25 : Int32)) (tg := 1040) (lv1 := [(0, .ref 0), (1, .ref 4), (2, .ref 669), (3, .int v3)]) rfl rfl rfl rfl rfl ?_ (fun zc28 => ?_)
    · exact db_law_b1040_ok ih
    refine db_Rsw (v := (26 : Int32)) (tg := 1063) (lv1 := [(0, .ref 0), (1, .ref 4), (2, .ref 669), (3, .int v3)]) rfl rfl rfl rfl rfl ?_ (fun zc29 => ?_)
    · exact db_law_b1063_ok ih
    refine db_Rsw (v := (27 : Int32)) (tg := 1106) (lv1 := [(0, .ref 0), (1, .ref 4), (2, .ref 669), (3, .int v3)]) rfl rfl rfl rfl rfl ?_ (fun zc30 => ?_)
    · exact db_law_b1106_ok ih
    refine db_Rsw (v := (28 : Int32)) (tg := 1159) (lv1 := [(0, .ref 0), (1, .ref 4), (2, .ref 669), (3, .int v3)]) rfl rfl rfl rfl rfl ?_ (fun zc31 => ?_)
    · exact db_law_b1159_ok ih
    refine db_Rsw (v := (29 : Int32)) (tg := 1212) (lv1 := [(0, .ref 0), (1, .ref 4), (2, .ref 669), (3, .int v3)]) rfl rfl rfl rfl rfl ?_ (fun zc32 => ?_)
    · exact db_law_b1212_ok ih
    refine db_Rsw (v := (30 : Int32)) (tg := 1265) (lv1 := [(0, .ref 0), (1, .ref 4), (2, .ref 669), (3, .int v3)]) rfl rfl rfl rfl rfl ?_ (fun zc33 => ?_)
    · exact db_law_b1265_ok ih
    refine db_Rsw (v := (31 : Int32)) (tg := 1308) (lv1 := [(0, .ref 0), (1, .ref 4), (2, .ref 669), (3, .int v3)]) rfl rfl rfl rfl rfl ?_ (fun zc34 => ?_)
    · exact db_law_b1308_ok ih
    refine db_Rsw (v := (32 : Int32)) (tg := 1351) (lv1 := [(0, .ref 0), (1, .ref 4), (2, .ref 669), (3, .int v3)]) rfl rfl rfl rfl rfl ?_ (fun zc35 => ?_)
    · exact db_law_b1351_ok ih
    refine db_Rsw (v := (33 : Int32)) (tg := 1364) (lv1 := [(0, .ref 0), (1, .ref 4), (2, .ref 669), (3, .int v3)]) rfl rfl rfl rfl rfl ?_ (fun zc36 => ?_)
    · exact db_law_b1364_ok ih
    refine db_Rsw (v := (34 : Int32)) (tg := 1377) (lv1 := [(0, .ref 0), (1, .ref 4), (2, .ref 669), (3, .int v3)]) rfl rfl rfl rfl rfl ?_ (fun zc37 => ?_)
    · exact db_law_b1377_ok ih
    refine db_Rsw (v := (35 : Int32)) (tg := 1410) (lv1 := [(0, .ref 0), (1, .ref 4), (2, .ref 669), (3, .int v3)]) rfl rfl rfl rfl rfl ?_ (fun zc38 => ?_)
    · exact db_law_b1410_ok ih
    refine db_Rsw (v := (36 : Int32)) (tg := 1423) (lv1 := [(0, .ref 0), (1, .ref 4), (2, .ref 669), (3, .int v3)]) rfl rfl rfl rfl rfl ?_ (fun zc39 => ?_)
    · exact db_law_b1423_ok ih
    refine db_Rsw (v := (37 : Int32)) (tg := 1456) (lv1 := [(0, .ref 0), (1, .ref 4), (2, .ref 669), (3, .int v3)]) rfl rfl rfl rfl rfl ?_ (fun zc40 => ?_)
    · exact db_law_b1456_ok ih
    refine db_Rsw (v := (38 : Int32)) (tg := 1479) (lv1 := [(0, .ref 0), (1, .ref 4), (2, .ref 669), (3, .int v3)]) rfl rfl rfl rfl rfl ?_ (fun zc41 => ?_)
    · exact db_law_b1479_ok ih
    refine db_Rsw (v := (39 : Int32)) (tg := 1492) (lv1 := [(0, .ref 0), (1, .ref 4), (2, .ref 669), (3, .int v3)]) rfl rfl rfl rfl rfl ?_ (fun zc42 => ?_)
    · exact db_law_b1492_ok ih
    refine db_Rsw (v := (40 : Int32)) (tg := 1505) (lv1 := [(0, .ref 0), (1, .ref 4), (2, .ref 669), (3, .int v3)]) rfl rfl rfl rfl rfl ?_ (fun zc43 => ?_)
    · exact db_law_b1505_ok ih
    refine db_Rsw (v := (41 : Int32)) (tg := 1548) (lv1 := [(0, .ref 0), (1, .ref 4), (2, .ref 669), (3, .int v3)]) rfl rfl rfl rfl rfl ?_ (fun zc44 => ?_)
    · exact db_law_b1548_ok ih
    refine db_Rsw (v := (42 : Int32)) (tg := 1601) (lv1 := [(0, .ref 0), (1, .ref 4), (2, .ref 669), (3, .int v3)]) rfl rfl rfl rfl rfl ?_ (fun zc45 => ?_)
    · exact db_law_b1601_ok ih
    refine db_Rsw (v := (43 : Int32)) (tg := 1614) (lv1 := [(0, .ref 0), (1, .ref 4), (2, .ref 669), (3, .int v3)]) rfl rfl rfl rfl rfl ?_ (fun zc46 => ?_)
    · exact db_law_b1614_ok ih
    refine db_Rsw (v := (44 : Int32)) (tg := 1657) (lv1 := [(0, .ref 0), (1, .ref 4), (2, .ref 669), (3, .int v3)]) rfl rfl rfl rfl rfl ?_ (fun zc47 => ?_)
    · exact db_law_b1657_ok ih
    refine db_Rsw (v := (45 : Int32)) (tg := 1670) (lv1 := [(0, .ref 0), (1, .ref 4), (2, .ref 669), (3, .int v3)]) rfl rfl rfl rfl rfl ?_ (fun zc48 => ?_)
    · exact db_law_b1670_ok ih
    refine db_Rsw (v := (46 : Int32)) (tg := 1713) (lv1 := [(0, .ref 0), (1, .ref 4), (2, .ref 669), (3, .int v3)]) rfl rfl rfl rfl rfl ?_ (fun zc49 => ?_)
    · exact db_law_b1713_ok ih
    refine db_Rsw (v := (47 : Int32)) (tg := 1756) (lv1 := [(0, .ref 0), (1, .ref 4), (2, .ref 669), (3, .int v3)]) rfl rfl rfl rfl rfl ?_ (fun zc50 => ?_)
    · exact db_law_b1756_ok ih
    refine db_Rsw (v := (48 : Int32)) (tg := 1779) (lv1 := [(0, .ref 0), (1, .ref 4), (2, .ref 669), (3, .int v3)]) rfl rfl rfl rfl rfl ?_ (fun zc51 => ?_)
    · exact db_law_b1779_ok ih
    refine db_Rsw (v := (49 : Int32)) (tg := 1812) (lv1 := [(0, .ref 0), (1, .ref 4), (2, .ref 669), (3, .int v3)]) rfl rfl rfl rfl rfl ?_ (fun zc52 => ?_)
    · exact db_law_b1812_ok ih
    refine db_Rsw (v := (50 : Int32)) (tg := 1855) (lv1 := [(0, .ref 0), (1, .ref 4), (2, .ref 669), (3, .int v3)]) rfl rfl rfl rfl rfl ?_ (fun zc53 => ?_)
    · exact db_law_b1855_ok ih
    refine db_Rsw (v := (51 : Int32)) (tg := 1908) (lv1 := [(0, .ref 0), (1, .ref 4), (2, .ref 669), (3, .int v3)]) rfl rfl rfl rfl rfl ?_ (fun zc54 => ?_)
    · exact db_law_b1908_ok ih
    refine db_Rsw (v := (52 : Int32)) (tg := 1931) (lv1 := [(0, .ref 0), (1, .ref 4), (2, .ref 669), (3, .int v3)]) rfl rfl rfl rfl rfl ?_ (fun zc55 => ?_)
    · exact db_law_b1931_ok ih
    refine db_Rsw (v := (53 : Int32)) (tg := 1954) (lv1 := [(0, .ref 0), (1, .ref 4), (2, .ref 669), (3, .int v3)]) rfl rfl rfl rfl rfl ?_ (fun zc56 => ?_)
    · exact db_law_b1954_ok ih
    refine db_Rsw (v := (54 : Int32)) (tg := 1997) (lv1 := [(0, .ref 0), (1, .ref 4), (2, .ref 669), (3, .int v3)]) rfl rfl rfl rfl rfl ?_ (fun zc57 => ?_)
    · exact db_law_b1997_ok ih
    refine db_Rsw (v := (55 : Int32)) (tg := 2010) (lv1 := [(0, .ref 0), (1, .ref 4), (2, .ref 669), (3, .int v3)]) rfl rfl rfl rfl rfl ?_ (fun zc58 => ?_)
    · exact db_law_b2010_ok ih
    refine db_Rsd (tg := 2023) (lv1 := [(0, .ref 0), (1, .ref 4), (2, .ref 669), (3, .int v3)]) rfl rfl (db_swd 56 (by decide) (fun k hk => by match k, hk with | 0, _ => exact zc3 | 1, _ => exact zc4 | 2, _ => exact zc5 | 3, _ => exact zc6 | 4, _ => exact zc7 | 5, _ => exact zc8 | 6, _ => exact zc9 | 7, _ => exact zc10 | 8, _ => exact zc11 | 9, _ => exact zc12 | 10, _ => exact zc13 | 11, _ => exact zc14 | 12, _ => exact zc15 | 13, _ => exact zc16 | 14, _ => exact zc17 | 15, _ => exact zc18 | 16, _ => exact zc19 | 17, _ => exact zc20 | 18, _ => exact zc21 | 19, _ => exact zc22 | 20, _ => exact zc23 | 21, _ => exact zc24 | 22, _ => exact zc25 | 23, _ => exact zc26 | 24, _ => exact zc27 | 25, _ => exact zc28 | 26, _ => exact zc29 | 27, _ => exact zc30 | 28, _ => exact zc31 | 29, _ => exact zc32 | 30, _ => exact zc33 | 31, _ => exact zc34 | 32, _ => exact zc35 | 33, _ => exact zc36 | 34, _ => exact zc37 | 35, _ => exact zc38 | 36, _ => exact zc39 | 37, _ => exact zc40 | 38, _ => exact zc41 | 39, _ => exact zc42 | 40, _ => exact zc43 | 41, _ => exact zc44 | 42, _ => exact zc45 | 43, _ => exact zc46 | 44, _ => exact zc47 | 45, _ => exact zc48 | 46, _ => exact zc49 | 47, _ => exact zc50 | 48, _ => exact zc51 | 49, _ => exact zc52 | 50, _ => exact zc53 | 51, _ => exact zc54 | 52, _ => exact zc55 | 53, _ => exact zc56 | 54, _ => exact zc57 | 55, _ => exact zc58 | k + 56, hk => exact absurd hk (by omega))) rfl ?_
    exact db_law_b2023_ok ih
