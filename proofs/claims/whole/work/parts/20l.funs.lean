noncomputable def db_f368_b2 (r368 : db_S → Int32 → Int32 → Option db_S) : Nat → db_S → Int32 → Int32 → Option db_S
  | 0, _, _, _ => none
  | n + 1, s, v2, v3 =>
    (cond (db_cnd .ge v3 v2) (some s) (cond (db_cnd .ne (s.1 669 41) 0) (some s) ((db_f369 r368 s v3).bind fun s2 => ((db_rI s2 674 (((201 : Int32) + ((9 : Int32) * v3)) + (8 : Int32))).bind fun x3 => (db_f368_b2 r368 n s2 v2 x3)))))
set_option maxRecDepth 100000 in
theorem db_f368_b2_ok {X : db_X} {d : Nat}  {r368 : db_S → Int32 → Int32 → Option db_S} (z368 : ∀ (s' : db_S) (v1 : Int32) (v2 : Int32) , db_Rf X (d + 7) dbm_368 0 (lv_args 0 [.ref 669, .int v1, .int v2]) [] s' db_zV (r368 s' v1 v2)) (n : Nat) : ∀ (s : db_S) (v2 : Int32) (v3 : Int32), db_Rf X (d + 9) dbm_368 2 [(0, .ref 669), (2, .int v2), (3, .int v3)] [] s db_zV (db_f368_b2 r368 n s v2 v3) := by
  induction n with
  | zero => intros; exact db_Rnone
  | succ n ih =>
    intro s v2 v3
    unfold db_f368_b2
    refine db_Rgo (pc' := 4) (lv' := [(0, .ref 669), (2, .int v2), (3, .int v3)]) (st' := [.int v2, .int v3]) 2 rfl ?_
    refine db_Ric (pc' := 7) (tg := 39) (lv1 := [(0, .ref 669), (2, .int v2), (3, .int v3)]) rfl rfl rfl rfl ?_ ?_
    · exact db_Rret (lv1 := []) rfl rfl rfl rfl
    refine db_Rgo (pc' := 11) (lv' := [(0, .ref 669), (2, .int v2), (3, .int v3)]) (st' := [.int (s.1 669 41)]) 2 rfl ?_
    refine db_Rif (pc' := 14) (tg := 39) (lv1 := [(0, .ref 669), (2, .int v2), (3, .int v3)]) rfl rfl rfl rfl ?_ ?_
    · exact db_Rret (lv1 := []) rfl rfl rfl rfl
    refine db_Rgo (pc' := 16) (lv' := [(0, .ref 669), (2, .int v2), (3, .int v3)]) (st' := [.int v3, .ref 669]) 2 rfl ?_
    refine db_RcV (mr' := dbm_369) (as := [.ref 669, .int v3]) (rest := []) (pc' := 19) (lv1 := [(0, .ref 669), (2, .int v2), (3, .int v3)]) rfl rfl rfl rfl rfl (db_f369_ok z368) fun s2 => ?_
    refine db_Rgo (pc' := 34) (lv' := [(0, .ref 669), (2, .int v2), (3, .int v3)]) (st' := [.int (((201 : Int32) + ((9 : Int32) * v3)) + (8 : Int32)), .ref 674]) 9 rfl ?_
    refine db_RldI (pc' := 35) (lv1 := [(0, .ref 669), (2, .int v2), (3, .int v3)]) rfl rfl rfl fun x3 => ?_
    refine db_Rgo (pc' := 2) (lv' := [(3, .int x3), (0, .ref 669), (2, .int v2)]) (st' := []) 2 rfl ?_
    refine db_Rn (lv1 := [(0, .ref 669), (2, .int v2), (3, .int x3)]) rfl rfl rfl ?_
    exact ih _ _ _
/-- DreamBookModel.doAll(II)V -/
noncomputable def db_f368_e (r368 : db_S → Int32 → Int32 → Option db_S) (s : db_S) (v1 : Int32) (v2 : Int32) : Option db_S :=
  (db_f368_b2 r368 db_FU s v2 v1)
set_option maxRecDepth 100000 in
theorem db_f368_e_ok {X : db_X} {d : Nat} {s : db_S} {v1 : Int32} {v2 : Int32} {r368 : db_S → Int32 → Int32 → Option db_S} (z368 : ∀ (s' : db_S) (v1 : Int32) (v2 : Int32) , db_Rf X (d + 7) dbm_368 0 (lv_args 0 [.ref 669, .int v1, .int v2]) [] s' db_zV (r368 s' v1 v2)) : db_Rf X (d + 9) dbm_368 0 (lv_args 0 [.ref 669, .int v1, .int v2]) [] s db_zV (db_f368_e r368 s v1 v2) := by
  show db_Rf _ _ _ 0 [(0, .ref 669), (1, .int v1), (2, .int v2)] [] _ _ _
  unfold db_f368_e
  refine db_Rgo (pc' := 2) (lv' := [(3, .int v1), (0, .ref 669), (1, .int v1), (2, .int v2)]) (st' := []) 2 rfl ?_
  refine db_Rn (lv1 := [(0, .ref 669), (2, .int v2), (3, .int v1)]) rfl rfl rfl ?_
  exact db_f368_b2_ok z368 db_FU _ _ _
noncomputable def db_f368 : Nat → db_S → Int32 → Int32 → Option db_S
  | 0, _, _, _ => none
  | n + 1, s, v1, v2 => db_f368_e (db_f368 n) s v1 v2
set_option maxRecDepth 100000 in
theorem db_f368_ok {X : db_X} : ∀ (n e : Nat), 9 + 2 * n ≤ e → ∀ (s : db_S) (v1 : Int32) (v2 : Int32) , db_Rf X e dbm_368 0 (lv_args 0 [.ref 669, .int v1, .int v2]) [] s db_zV (db_f368 n s v1 v2)
  | 0, _, _ => by
    intros
    exact db_Rnone
  | n + 1, e, he => by
    intro s v1 v2
    obtain ⟨d, rfl⟩ : ∃ d, e = d + 9 := ⟨e - 9, by omega⟩
    exact db_f368_e_ok (d := d) (fun _ _ _  => db_f368_ok n (d + 7) (by omega) _ _ _)
/-- DreamBookModel.runs(I)V -/
noncomputable def db_f367 (s : db_S) (v1 : Int32) : Option db_S :=
  ((db_pI s 669 42 v1).bind fun s1 => ((db_pI s1 669 43 (0 : Int32)).bind fun s2 => ((db_pI s2 669 44 (0 : Int32)).bind fun s3 => ((db_pI s3 669 31 (0 : Int32)).bind fun s4 => ((db_pI s4 669 32 (0 : Int32)).bind fun s5 => ((db_pI s5 669 45 (0 : Int32)).bind fun s6 => ((db_pI s6 669 41 (0 : Int32)).bind fun s7 => ((db_rI s7 674 (200 : Int32)).bind fun x8 => ((db_f368 db_FR s7 (0 : Int32) x8).bind fun s10 => (some s10))))))))))
set_option maxRecDepth 100000 in
theorem db_f367_ok {X : db_X} {d : Nat} {s : db_S} {v1 : Int32} : db_Rf X (d + 34) dbm_367 0 (lv_args 0 [.ref 669, .int v1]) [] s db_zV (db_f367 s v1) := by
  show db_Rf _ _ _ 0 [(0, .ref 669), (1, .int v1)] [] _ _ _
  unfold db_f367
  refine db_Rgo (pc' := 2) (lv' := [(0, .ref 669), (1, .int v1)]) (st' := [.int v1, .ref 669]) 2 rfl ?_
  refine db_RpuI (pc' := 5) (lv1 := [(0, .ref 669), (1, .int v1)]) rfl rfl rfl rfl rfl rfl (by decide) rfl rfl fun s1 => ?_
  refine db_Rgo (pc' := 7) (lv' := [(0, .ref 669), (1, .int v1)]) (st' := [.int (0 : Int32), .ref 669]) 2 rfl ?_
  refine db_RpuI (pc' := 10) (lv1 := [(0, .ref 669), (1, .int v1)]) rfl rfl rfl rfl rfl rfl (by decide) rfl rfl fun s2 => ?_
  refine db_Rgo (pc' := 12) (lv' := [(0, .ref 669), (1, .int v1)]) (st' := [.int (0 : Int32), .ref 669]) 2 rfl ?_
  refine db_RpuI (pc' := 15) (lv1 := [(0, .ref 669), (1, .int v1)]) rfl rfl rfl rfl rfl rfl (by decide) rfl rfl fun s3 => ?_
  refine db_Rgo (pc' := 17) (lv' := [(0, .ref 669), (1, .int v1)]) (st' := [.int (0 : Int32), .ref 669]) 2 rfl ?_
  refine db_RpuI (pc' := 20) (lv1 := [(0, .ref 669), (1, .int v1)]) rfl rfl rfl rfl rfl rfl (by decide) rfl rfl fun s4 => ?_
  refine db_Rgo (pc' := 22) (lv' := [(0, .ref 669), (1, .int v1)]) (st' := [.int (0 : Int32), .ref 669]) 2 rfl ?_
  refine db_RpuI (pc' := 25) (lv1 := [(0, .ref 669), (1, .int v1)]) rfl rfl rfl rfl rfl rfl (by decide) rfl rfl fun s5 => ?_
  refine db_Rgo (pc' := 27) (lv' := [(0, .ref 669), (1, .int v1)]) (st' := [.int (0 : Int32), .ref 669]) 2 rfl ?_
  refine db_RpuI (pc' := 30) (lv1 := [(0, .ref 669), (1, .int v1)]) rfl rfl rfl rfl rfl rfl (by decide) rfl rfl fun s6 => ?_
  refine db_Rgo (pc' := 32) (lv' := [(0, .ref 669), (1, .int v1)]) (st' := [.int (0 : Int32), .ref 669]) 2 rfl ?_
  refine db_RpuI (pc' := 35) (lv1 := [(0, .ref 669), (1, .int v1)]) rfl rfl rfl rfl rfl rfl (by decide) rfl rfl fun s7 => ?_
  refine db_Rgo (pc' := 44) (lv' := [(0, .ref 669), (1, .int v1)]) (st' := [.int (200 : Int32), .ref 674, .int (0 : Int32), .ref 669]) 5 rfl ?_
  refine db_RldI (pc' := 45) (lv1 := [(0, .ref 669), (1, .int v1)]) rfl rfl rfl fun x8 => ?_
  refine db_RcV (d := d + 33) (mr' := dbm_368) (as := [.ref 669, .int (0 : Int32), .int x8]) (rest := []) (pc' := 48) (lv1 := [(0, .ref 669), (1, .int v1)]) rfl rfl rfl rfl rfl (db_f368_ok db_FR _ (by unfold db_FR; omega) _ _ _) fun s10 => ?_
  exact db_Rret (lv1 := [(0, .ref 669), (1, .int v1)]) rfl rfl rfl rfl
/-- DreamBookModel.live(I)I -/
noncomputable def db_f366 (s : db_S) (v1 : Int32) : Option (Int32 × db_S) :=
  ((db_pI s 669 1 (0 : Int32)).bind fun s1 => ((db_pI s1 669 0 (0 : Int32)).bind fun s2 => ((db_f269 s2 (Int32.toInt64 v1) (0 : Int64) (9999 : Int64)).bind fun q3 => (cond q3 ((db_rI s2 674 (199 : Int32)).bind fun x5 => (cond (db_cnd .ne x5 0) ((db_rI s2 674 (6 : Int32)).bind fun x6 => ((db_f367 s2 v1).bind fun s8 => ((db_wI s8 683 (0 : Int32) (s8.1 669 44)).bind fun s9 => ((db_rI s9 674 (6 : Int32)).bind fun x10 => ((db_wI s9 683 (1 : Int32) (x10 - x6)).bind fun s11 => ((db_wI s11 683 (2 : Int32) (s11.1 669 31)).bind fun s12 => ((db_wI s12 683 (3 : Int32) (s12.1 669 32)).bind fun s13 => ((db_wI s13 683 (4 : Int32) (s13.1 669 45)).bind fun s14 => ((db_pI s14 669 40 (1 : Int32)).bind fun s15 => (some ((s15.1 669 43), s15))))))))))) (db_bd (db_f281 s2 (8 : Int32)) fun q16 s17 => (some (q16, s17))))) (db_bd (db_f281 s2 (5 : Int32)) fun q18 s19 => (some (q18, s19)))))))
set_option maxRecDepth 100000 in
theorem db_f366_ok {X : db_X} {d : Nat} {s : db_S} {v1 : Int32} : db_Rf X (d + 35) dbm_366 0 (lv_args 0 [.ref 669, .int v1]) [] s db_zI (db_f366 s v1) := by
  show db_Rf _ _ _ 0 [(0, .ref 669), (1, .int v1)] [] _ _ _
  unfold db_f366
  refine db_Rgo (pc' := 2) (lv' := [(0, .ref 669), (1, .int v1)]) (st' := [.int (0 : Int32), .ref 669]) 2 rfl ?_
  refine db_RpuI (pc' := 5) (lv1 := [(0, .ref 669), (1, .int v1)]) rfl rfl rfl rfl rfl rfl (by decide) rfl rfl fun s1 => ?_
  refine db_Rgo (pc' := 7) (lv' := [(0, .ref 669), (1, .int v1)]) (st' := [.int (0 : Int32), .ref 669]) 2 rfl ?_
  refine db_RpuI (pc' := 10) (lv1 := [(0, .ref 669), (1, .int v1)]) rfl rfl rfl rfl rfl rfl (by decide) rfl rfl fun s2 => ?_
  refine db_Rgo (pc' := 16) (lv' := [(0, .ref 669), (1, .int v1)]) (st' := [.long (9999 : Int64), .long (0 : Int64), .long (Int32.toInt64 v1)]) 4 rfl ?_
  refine db_RcyB (mr' := dbm_269) (as := [.long (Int32.toInt64 v1), .long (0 : Int64), .long (9999 : Int64)]) (rest := []) (pc' := 19) (lv1 := [(0, .ref 669), (1, .int v1)]) rfl rfl rfl rfl rfl (db_f269_ok) fun q3 => ?_
  refine db_RifBn (pc' := 22) (tg := 28) (lv1 := [(0, .ref 669), (1, .int v1)]) rfl rfl rfl rfl ?_ ?_
  · refine db_Rgo (pc' := 35) (lv' := [(0, .ref 669), (1, .int v1)]) (st' := [.int (199 : Int32), .ref 674]) 3 rfl ?_
    refine db_RldI (pc' := 36) (lv1 := [(0, .ref 669), (1, .int v1)]) rfl rfl rfl fun x5 => ?_
    refine db_Rif (pc' := 39) (tg := 46) (lv1 := [(0, .ref 669), (1, .int v1)]) rfl rfl rfl rfl ?_ ?_
    · refine db_Rgo (pc' := 52) (lv' := [(0, .ref 669), (1, .int v1)]) (st' := [.int (6 : Int32), .ref 674]) 3 rfl ?_
      refine db_RldI (pc' := 53) (lv1 := [(0, .ref 669), (1, .int v1)]) rfl rfl rfl fun x6 => ?_
      refine db_Rgo (pc' := 56) (lv' := [(2, .int x6), (0, .ref 669), (1, .int v1)]) (st' := [.int v1, .ref 669]) 3 rfl ?_
      refine db_RcV (mr' := dbm_367) (as := [.ref 669, .int v1]) (rest := []) (pc' := 59) (lv1 := [(2, .int x6), (0, .ref 669), (1, .int v1)]) rfl rfl rfl rfl rfl (db_f367_ok) fun s8 => ?_
      refine db_Rgo (pc' := 68) (lv' := [(2, .int x6), (0, .ref 669), (1, .int v1)]) (st' := [.int (s8.1 669 44), .int (0 : Int32), .ref 683]) 5 rfl ?_
      refine db_RstI (pc' := 69) (lv1 := [(2, .int x6), (0, .ref 669), (1, .int v1)]) rfl rfl rfl fun s9 => ?_
      refine db_Rgo (pc' := 80) (lv' := [(2, .int x6), (0, .ref 669), (1, .int v1)]) (st' := [.int (6 : Int32), .ref 674, .int (1 : Int32), .ref 683]) 6 rfl ?_
      refine db_RldI (pc' := 81) (lv1 := [(2, .int x6), (0, .ref 669), (1, .int v1)]) rfl rfl rfl fun x10 => ?_
      refine db_Rgo (pc' := 83) (lv' := [(2, .int x6), (0, .ref 669), (1, .int v1)]) (st' := [.int (x10 - x6), .int (1 : Int32), .ref 683]) 2 rfl ?_
      refine db_RstI (pc' := 84) (lv1 := [(2, .int x6), (0, .ref 669), (1, .int v1)]) rfl rfl rfl fun s11 => ?_
      refine db_Rgo (pc' := 93) (lv' := [(2, .int x6), (0, .ref 669), (1, .int v1)]) (st' := [.int (s11.1 669 31), .int (2 : Int32), .ref 683]) 5 rfl ?_
      refine db_RstI (pc' := 94) (lv1 := [(2, .int x6), (0, .ref 669), (1, .int v1)]) rfl rfl rfl fun s12 => ?_
      refine db_Rgo (pc' := 103) (lv' := [(2, .int x6), (0, .ref 669), (1, .int v1)]) (st' := [.int (s12.1 669 32), .int (3 : Int32), .ref 683]) 5 rfl ?_
      refine db_RstI (pc' := 104) (lv1 := [(2, .int x6), (0, .ref 669), (1, .int v1)]) rfl rfl rfl fun s13 => ?_
      refine db_Rgo (pc' := 113) (lv' := [(2, .int x6), (0, .ref 669), (1, .int v1)]) (st' := [.int (s13.1 669 45), .int (4 : Int32), .ref 683]) 5 rfl ?_
      refine db_RstI (pc' := 114) (lv1 := [(2, .int x6), (0, .ref 669), (1, .int v1)]) rfl rfl rfl fun s14 => ?_
      refine db_Rgo (pc' := 116) (lv' := [(2, .int x6), (0, .ref 669), (1, .int v1)]) (st' := [.int (1 : Int32), .ref 669]) 2 rfl ?_
      refine db_RpuI (pc' := 119) (lv1 := [(2, .int x6), (0, .ref 669), (1, .int v1)]) rfl rfl rfl rfl rfl rfl (by decide) rfl rfl fun s15 => ?_
      refine db_Rgo (pc' := 123) (lv' := [(2, .int x6), (0, .ref 669), (1, .int v1)]) (st' := [.int (s15.1 669 43)]) 2 rfl ?_
      exact db_Rret (lv1 := [(2, .int x6), (0, .ref 669), (1, .int v1)]) rfl rfl rfl rfl
    refine db_Rgo (pc' := 42) (lv' := [(0, .ref 669), (1, .int v1)]) (st' := [.int (8 : Int32), .ref 669]) 2 rfl ?_
    refine db_RcdI (mr' := dbm_281) (as := [.ref 669, .int (8 : Int32)]) (rest := []) (pc' := 45) (lv1 := [(0, .ref 669), (1, .int v1)]) rfl rfl rfl rfl rfl (db_f281_ok) fun q16 s17 => ?_
    exact db_Rret (lv1 := [(0, .ref 669), (1, .int v1)]) rfl rfl rfl rfl
  refine db_Rgo (pc' := 24) (lv' := [(0, .ref 669), (1, .int v1)]) (st' := [.int (5 : Int32), .ref 669]) 2 rfl ?_
  refine db_RcdI (mr' := dbm_281) (as := [.ref 669, .int (5 : Int32)]) (rest := []) (pc' := 27) (lv1 := [(0, .ref 669), (1, .int v1)]) rfl rfl rfl rfl rfl (db_f281_ok) fun q18 s19 => ?_
  exact db_Rret (lv1 := [(0, .ref 669), (1, .int v1)]) rfl rfl rfl rfl
/-- DreamBook.lived(I)I -/
noncomputable def db_f201 (s : db_S) (v1 : Int32) : Option (Int32 × db_S) :=
  ((db_f27 s v1 (0 : Int32) (4 : Int32)).bind fun q1 => (cond q1 (cond (db_cnd .eq (s.1 284 0) 0) (db_bd (db_f37 s (8 : Int32)) fun q3 s4 => (some (q3, s4))) ((db_rI s 285 v1).bind fun x5 => (db_bd (db_f87 s x5) fun q6 s7 => (some (q6, s7))))) (db_bd (db_f37 s (5 : Int32)) fun q8 s9 => (some (q8, s9)))))
set_option maxRecDepth 100000 in
theorem db_f201_ok {X : db_X} {d : Nat} {s : db_S} {v1 : Int32} : db_Rf X (d + 1) dbm_201 0 (lv_args 0 [.ref 4, .int v1]) [] s db_zI (db_f201 s v1) := by
  show db_Rf _ _ _ 0 [(0, .ref 4), (1, .int v1)] [] _ _ _
  unfold db_f201
  refine db_Rgo (pc' := 3) (lv' := [(0, .ref 4), (1, .int v1)]) (st' := [.int (4 : Int32), .int (0 : Int32), .int v1]) 3 rfl ?_
  refine db_RcyB (mr' := dbm_27) (as := [.int v1, .int (0 : Int32), .int (4 : Int32)]) (rest := []) (pc' := 6) (lv1 := [(0, .ref 4), (1, .int v1)]) rfl rfl rfl rfl rfl (db_f27_ok) fun q1 => ?_
  refine db_RifBn (pc' := 9) (tg := 15) (lv1 := [(0, .ref 4), (1, .int v1)]) rfl rfl rfl rfl ?_ ?_
  · refine db_Rgo (pc' := 22) (lv' := [(0, .ref 4), (1, .int v1)]) (st' := [.int (s.1 284 0)]) 3 rfl ?_
    refine db_Rif (pc' := 25) (tg := 41) (lv1 := [(0, .ref 4), (1, .int v1)]) rfl rfl rfl rfl ?_ ?_
    · refine db_Rgo (pc' := 44) (lv' := [(0, .ref 4)]) (st' := [.int (8 : Int32), .ref 4]) 2 rfl ?_
      refine db_RcdI (mr' := dbm_37) (as := [.ref 4, .int (8 : Int32)]) (rest := []) (pc' := 47) (lv1 := [(0, .ref 4)]) rfl rfl rfl rfl rfl (db_f37_ok) fun q3 s4 => ?_
      exact db_Rret (lv1 := []) rfl rfl rfl rfl
    refine db_Rgo (pc' := 34) (lv' := [(0, .ref 4), (1, .int v1)]) (st' := [.int v1, .ref 285, .ref 4]) 5 rfl ?_
    refine db_RldI (pc' := 35) (lv1 := [(0, .ref 4), (1, .int v1)]) rfl rfl rfl fun x5 => ?_
    refine db_RcdI (mr' := dbm_87) (as := [.ref 4, .int x5]) (rest := []) (pc' := 38) (lv1 := [(0, .ref 4), (1, .int v1)]) rfl rfl rfl rfl rfl (db_f87_ok) fun q6 s7 => ?_
    refine db_Rgo (pc' := 47) (lv' := [(0, .ref 4), (1, .int v1)]) (st' := [.int q6]) 1 rfl ?_
    exact db_Rret (lv1 := []) rfl rfl rfl rfl
  refine db_Rgo (pc' := 11) (lv' := [(0, .ref 4), (1, .int v1)]) (st' := [.int (5 : Int32), .ref 4]) 2 rfl ?_
  refine db_RcdI (mr' := dbm_37) (as := [.ref 4, .int (5 : Int32)]) (rest := []) (pc' := 14) (lv1 := [(0, .ref 4), (1, .int v1)]) rfl rfl rfl rfl rfl (db_f37_ok) fun q8 s9 => ?_
  exact db_Rret (lv1 := [(0, .ref 4), (1, .int v1)]) rfl rfl rfl rfl
/-- DreamBookModel.lived(I)I -/
noncomputable def db_f374 (s : db_S) (v1 : Int32) : Option (Int32 × db_S) :=
  ((db_pI s 669 1 (0 : Int32)).bind fun s1 => ((db_pI s1 669 0 (0 : Int32)).bind fun s2 => ((db_f269 s2 (Int32.toInt64 v1) (0 : Int64) (4 : Int64)).bind fun q3 => (cond q3 (cond (db_cnd .eq (s2.1 669 40) 0) (db_bd (db_f281 s2 (8 : Int32)) fun q5 s6 => (some (q5, s6))) ((db_rI s2 683 v1).bind fun x7 => (some (x7, s2)))) (db_bd (db_f281 s2 (5 : Int32)) fun q8 s9 => (some (q8, s9)))))))
set_option maxRecDepth 100000 in
theorem db_f374_ok {X : db_X} {d : Nat} {s : db_S} {v1 : Int32} : db_Rf X (d + 1) dbm_374 0 (lv_args 0 [.ref 669, .int v1]) [] s db_zI (db_f374 s v1) := by
  show db_Rf _ _ _ 0 [(0, .ref 669), (1, .int v1)] [] _ _ _
  unfold db_f374
  refine db_Rgo (pc' := 2) (lv' := [(0, .ref 669), (1, .int v1)]) (st' := [.int (0 : Int32), .ref 669]) 2 rfl ?_
  refine db_RpuI (pc' := 5) (lv1 := [(0, .ref 669), (1, .int v1)]) rfl rfl rfl rfl rfl rfl (by decide) rfl rfl fun s1 => ?_
  refine db_Rgo (pc' := 7) (lv' := [(0, .ref 669), (1, .int v1)]) (st' := [.int (0 : Int32), .ref 669]) 2 rfl ?_
  refine db_RpuI (pc' := 10) (lv1 := [(0, .ref 669), (1, .int v1)]) rfl rfl rfl rfl rfl rfl (by decide) rfl rfl fun s2 => ?_
  refine db_Rgo (pc' := 16) (lv' := [(0, .ref 669), (1, .int v1)]) (st' := [.long (4 : Int64), .long (0 : Int64), .long (Int32.toInt64 v1)]) 4 rfl ?_
  refine db_RcyB (mr' := dbm_269) (as := [.long (Int32.toInt64 v1), .long (0 : Int64), .long (4 : Int64)]) (rest := []) (pc' := 19) (lv1 := [(0, .ref 669), (1, .int v1)]) rfl rfl rfl rfl rfl (db_f269_ok) fun q3 => ?_
  refine db_RifBn (pc' := 22) (tg := 28) (lv1 := [(0, .ref 669), (1, .int v1)]) rfl rfl rfl rfl ?_ ?_
  · refine db_Rgo (pc' := 32) (lv' := [(0, .ref 669), (1, .int v1)]) (st' := [.int (s2.1 669 40)]) 2 rfl ?_
    refine db_Rif (pc' := 35) (tg := 44) (lv1 := [(0, .ref 669), (1, .int v1)]) rfl rfl rfl rfl ?_ ?_
    · refine db_Rgo (pc' := 47) (lv' := [(0, .ref 669)]) (st' := [.int (8 : Int32), .ref 669]) 2 rfl ?_
      refine db_RcdI (mr' := dbm_281) (as := [.ref 669, .int (8 : Int32)]) (rest := []) (pc' := 50) (lv1 := [(0, .ref 669)]) rfl rfl rfl rfl rfl (db_f281_ok) fun q5 s6 => ?_
      exact db_Rret (lv1 := []) rfl rfl rfl rfl
    refine db_Rgo (pc' := 40) (lv' := [(0, .ref 669), (1, .int v1)]) (st' := [.int v1, .ref 683]) 3 rfl ?_
    refine db_RldI (pc' := 41) (lv1 := [(0, .ref 669), (1, .int v1)]) rfl rfl rfl fun x7 => ?_
    refine db_Rgo (pc' := 50) (lv' := [(0, .ref 669), (1, .int v1)]) (st' := [.int x7]) 1 rfl ?_
    exact db_Rret (lv1 := []) rfl rfl rfl rfl
  refine db_Rgo (pc' := 24) (lv' := [(0, .ref 669), (1, .int v1)]) (st' := [.int (5 : Int32), .ref 669]) 2 rfl ?_
  refine db_RcdI (mr' := dbm_281) (as := [.ref 669, .int (5 : Int32)]) (rest := []) (pc' := 27) (lv1 := [(0, .ref 669), (1, .int v1)]) rfl rfl rfl rfl rfl (db_f281_ok) fun q8 s9 => ?_
  exact db_Rret (lv1 := [(0, .ref 669), (1, .int v1)]) rfl rfl rfl rfl
/-- DreamBook$Life.copyFrom(LDreamBook$Life;)V -/
noncomputable def db_f175_287_80 (s : db_S) : Option db_S :=
  ((db_f83 s 81 288).bind fun s2 => ((db_f83 s2 82 289).bind fun s4 => ((db_pI s4 287 2 (s4.1 80 2)).bind fun s5 => ((db_pI s5 287 3 (s5.1 80 3)).bind fun s6 => (some s6)))))
set_option maxRecDepth 100000 in
theorem db_f175_287_80_ok {X : db_X} {d : Nat} {s : db_S} : db_Rf X (d + 1) dbm_175 0 (lv_args 0 [.ref 287, .ref 80]) [] s db_zV (db_f175_287_80 s ) := by
  show db_Rf _ _ _ 0 [(0, .ref 287), (1, .ref 80)] [] _ _ _
  unfold db_f175_287_80
  refine db_Rgo (pc' := 8) (lv' := [(0, .ref 287), (1, .ref 80)]) (st' := [.ref 288, .ref 81]) 4 rfl ?_
  refine db_RcV (mr' := dbm_83) (as := [.ref 81, .ref 288]) (rest := []) (pc' := 11) (lv1 := [(0, .ref 287), (1, .ref 80)]) rfl rfl rfl rfl rfl (db_f83_ok) fun s2 => ?_
  refine db_Rgo (pc' := 19) (lv' := [(0, .ref 287), (1, .ref 80)]) (st' := [.ref 289, .ref 82]) 4 rfl ?_
  refine db_RcV (mr' := dbm_83) (as := [.ref 82, .ref 289]) (rest := []) (pc' := 22) (lv1 := [(0, .ref 287), (1, .ref 80)]) rfl rfl rfl rfl rfl (db_f83_ok) fun s4 => ?_
  refine db_Rgo (pc' := 27) (lv' := [(0, .ref 287), (1, .ref 80)]) (st' := [.int (s4.1 80 2), .ref 287]) 3 rfl ?_
  refine db_RpuI (pc' := 30) (lv1 := [(0, .ref 287), (1, .ref 80)]) rfl rfl rfl rfl rfl rfl (by decide) rfl rfl fun s5 => ?_
  refine db_Rgo (pc' := 35) (lv' := [(0, .ref 287), (1, .ref 80)]) (st' := [.int (s5.1 80 3), .ref 287]) 3 rfl ?_
  refine db_RpuI (pc' := 38) (lv1 := [(0, .ref 287), (1, .ref 80)]) rfl rfl rfl rfl rfl rfl (by decide) rfl rfl fun s6 => ?_
  exact db_Rret (lv1 := [(0, .ref 287), (1, .ref 80)]) rfl rfl rfl rfl
/-- DreamBook$Life.copyFrom(LDreamBook$Life;)V -/
noncomputable def db_f175_80_287 (s : db_S) : Option db_S :=
  ((db_f83 s 288 81).bind fun s2 => ((db_f83 s2 289 82).bind fun s4 => ((db_pI s4 80 2 (s4.1 287 2)).bind fun s5 => ((db_pI s5 80 3 (s5.1 287 3)).bind fun s6 => (some s6)))))
set_option maxRecDepth 100000 in
theorem db_f175_80_287_ok {X : db_X} {d : Nat} {s : db_S} : db_Rf X (d + 1) dbm_175 0 (lv_args 0 [.ref 80, .ref 287]) [] s db_zV (db_f175_80_287 s ) := by
  show db_Rf _ _ _ 0 [(0, .ref 80), (1, .ref 287)] [] _ _ _
  unfold db_f175_80_287
  refine db_Rgo (pc' := 8) (lv' := [(0, .ref 80), (1, .ref 287)]) (st' := [.ref 81, .ref 288]) 4 rfl ?_
  refine db_RcV (mr' := dbm_83) (as := [.ref 288, .ref 81]) (rest := []) (pc' := 11) (lv1 := [(0, .ref 80), (1, .ref 287)]) rfl rfl rfl rfl rfl (db_f83_ok) fun s2 => ?_
  refine db_Rgo (pc' := 19) (lv' := [(0, .ref 80), (1, .ref 287)]) (st' := [.ref 82, .ref 289]) 4 rfl ?_
  refine db_RcV (mr' := dbm_83) (as := [.ref 289, .ref 82]) (rest := []) (pc' := 22) (lv1 := [(0, .ref 80), (1, .ref 287)]) rfl rfl rfl rfl rfl (db_f83_ok) fun s4 => ?_
  refine db_Rgo (pc' := 27) (lv' := [(0, .ref 80), (1, .ref 287)]) (st' := [.int (s4.1 287 2), .ref 80]) 3 rfl ?_
  refine db_RpuI (pc' := 30) (lv1 := [(0, .ref 80), (1, .ref 287)]) rfl rfl rfl rfl rfl rfl (by decide) rfl rfl fun s5 => ?_
  refine db_Rgo (pc' := 35) (lv' := [(0, .ref 80), (1, .ref 287)]) (st' := [.int (s5.1 287 3), .ref 80]) 3 rfl ?_
  refine db_RpuI (pc' := 38) (lv1 := [(0, .ref 80), (1, .ref 287)]) rfl rfl rfl rfl rfl rfl (by decide) rfl rfl fun s6 => ?_
  exact db_Rret (lv1 := [(0, .ref 80), (1, .ref 287)]) rfl rfl rfl rfl
noncomputable def db_f203_b17 : Nat → db_S → Int32 → Int32 → Int32 → Int64 → Int32 → Option (Int64 × db_S)
  | 0, _, _, _, _, _, _ => none
  | n + 1, s, v1, v2, v3, v4, v6 =>
    (cond (db_cnd .ge v6 v3) (some (v4, s)) (db_bd (db_f194 s (v2 + v6)) fun q1 s2 => ((db_rI s2 82 v1).bind fun x3 => ((db_f175_80_287 s2).bind fun s5 => (db_f203_b17 n s5 v1 v2 v3 (v4 + (Int32.toInt64 x3)) (v6 + (1 : Int32)))))))
set_option maxRecDepth 100000 in
theorem db_f203_b17_ok {X : db_X} {d : Nat}  (n : Nat) : ∀ (s : db_S) (v1 : Int32) (v2 : Int32) (v3 : Int32) (v4 : Int64) (v6 : Int32), db_Rf X (d + 6) dbm_203 17 [(0, .ref 284), (1, .int v1), (2, .int v2), (3, .int v3), (4, .long v4), (6, .int v6)] [] s db_zL (db_f203_b17 n s v1 v2 v3 v4 v6) := by
  induction n with
  | zero => intros; exact db_Rnone
  | succ n ih =>
    intro s v1 v2 v3 v4 v6
    unfold db_f203_b17
    refine db_Rgo (pc' := 20) (lv' := [(0, .ref 284), (1, .int v1), (2, .int v2), (3, .int v3), (4, .long v4), (6, .int v6)]) (st' := [.int v3, .int v6]) 2 rfl ?_
    refine db_Ric (pc' := 23) (tg := 64) (lv1 := [(0, .ref 284), (1, .int v1), (2, .int v2), (3, .int v3), (4, .long v4), (6, .int v6)]) rfl rfl rfl rfl ?_ ?_
    · refine db_Rgo (pc' := 66) (lv' := [(4, .long v4)]) (st' := [.long v4]) 1 rfl ?_
      exact db_Rret (lv1 := [(4, .long v4)]) rfl rfl rfl rfl
    refine db_Rgo (pc' := 28) (lv' := [(0, .ref 284), (1, .int v1), (2, .int v2), (3, .int v3), (4, .long v4), (6, .int v6)]) (st' := [.int (v2 + v6), .ref 284]) 4 rfl ?_
    refine db_RcdI (mr' := dbm_194) (as := [.ref 284, .int (v2 + v6)]) (rest := []) (pc' := 31) (lv1 := [(0, .ref 284), (1, .int v1), (2, .int v2), (3, .int v3), (4, .long v4), (6, .int v6)]) rfl rfl rfl rfl rfl (db_f194_ok) fun q1 s2 => ?_
    refine db_Rgo (pc' := 42) (lv' := [(0, .ref 284), (1, .int v1), (2, .int v2), (3, .int v3), (4, .long v4), (6, .int v6)]) (st' := [.int v1, .ref 82, .long v4]) 6 rfl ?_
    refine db_RldI (pc' := 43) (lv1 := [(0, .ref 284), (1, .int v1), (2, .int v2), (3, .int v3), (4, .long v4), (6, .int v6)]) rfl rfl rfl fun x3 => ?_
    refine db_Rgo (pc' := 55) (lv' := [(4, .long (v4 + (Int32.toInt64 x3))), (0, .ref 284), (1, .int v1), (2, .int v2), (3, .int v3), (6, .int v6)]) (st' := [.ref 287, .ref 80]) 7 rfl ?_
    refine db_RcV (mr' := dbm_175) (as := [.ref 80, .ref 287]) (rest := []) (pc' := 58) (lv1 := [(4, .long (v4 + (Int32.toInt64 x3))), (0, .ref 284), (1, .int v1), (2, .int v2), (3, .int v3), (6, .int v6)]) rfl rfl rfl rfl rfl (db_f175_80_287_ok) fun s5 => ?_
    refine db_Rgo (pc' := 17) (lv' := [(6, .int (v6 + (1 : Int32))), (4, .long (v4 + (Int32.toInt64 x3))), (0, .ref 284), (1, .int v1), (2, .int v2), (3, .int v3)]) (st' := []) 2 rfl ?_
    refine db_Rn (lv1 := [(0, .ref 284), (1, .int v1), (2, .int v2), (3, .int v3), (4, .long (v4 + (Int32.toInt64 x3))), (6, .int (v6 + (1 : Int32)))]) rfl rfl rfl ?_
    exact ih _ _ _ _ _ _
/-- DreamBook$Runner.addSums(III)J -/
noncomputable def db_f203 (s : db_S) (v1 : Int32) (v2 : Int32) (v3 : Int32) : Option (Int64 × db_S) :=
  ((db_f175_287_80 s).bind fun s2 => (db_f203_b17 db_FU s2 v1 v2 v3 (0 : Int64) (0 : Int32)))
set_option maxRecDepth 100000 in
theorem db_f203_ok {X : db_X} {d : Nat} {s : db_S} {v1 : Int32} {v2 : Int32} {v3 : Int32} : db_Rf X (d + 6) dbm_203 0 (lv_args 0 [.ref 284, .int v1, .int v2, .int v3]) [] s db_zL (db_f203 s v1 v2 v3) := by
  show db_Rf _ _ _ 0 [(0, .ref 284), (1, .int v1), (2, .int v2), (3, .int v3)] [] _ _ _
  unfold db_f203
  refine db_Rgo (pc' := 11) (lv' := [(4, .long (0 : Int64)), (0, .ref 284), (1, .int v1), (2, .int v2), (3, .int v3)]) (st' := [.ref 80, .ref 287]) 6 rfl ?_
  refine db_RcV (mr' := dbm_175) (as := [.ref 287, .ref 80]) (rest := []) (pc' := 14) (lv1 := [(4, .long (0 : Int64)), (0, .ref 284), (1, .int v1), (2, .int v2), (3, .int v3)]) rfl rfl rfl rfl rfl (db_f175_287_80_ok) fun s2 => ?_
  refine db_Rgo (pc' := 17) (lv' := [(6, .int (0 : Int32)), (4, .long (0 : Int64)), (0, .ref 284), (1, .int v1), (2, .int v2), (3, .int v3)]) (st' := []) 2 rfl ?_
  refine db_Rn (lv1 := [(0, .ref 284), (1, .int v1), (2, .int v2), (3, .int v3), (4, .long (0 : Int64)), (6, .int (0 : Int32))]) rfl rfl rfl ?_
  exact db_f203_b17_ok db_FU _ _ _ _ _ _
noncomputable def db_f202_b40 (s : db_S) : Option (Bool × db_S) :=
  (db_bd (db_f28 s (5 : Int32)) fun q1 s2 => (some (q1, s2)))
set_option maxRecDepth 100000 in
theorem db_f202_b40_ok {X : db_X} {d : Nat}  {s : db_S} : db_Rf X (d + 7) dbm_202 40 [(0, .ref 4)] [] s db_zB (db_f202_b40 s ) := by
  unfold db_f202_b40
  refine db_Rgo (pc' := 42) (lv' := [(0, .ref 4)]) (st' := [.int (5 : Int32), .ref 4]) 2 rfl ?_
  refine db_RcdB (mr' := dbm_28) (as := [.ref 4, .int (5 : Int32)]) (rest := []) (pc' := 45) (lv1 := [(0, .ref 4)]) rfl rfl rfl rfl rfl (db_f28_ok) fun q1 s2 => ?_
  exact db_RretB (lv1 := [(0, .ref 4)]) rfl rfl rfl rfl
/-- DreamBook.mean(III)Z -/
noncomputable def db_f202 (s : db_S) (v1 : Int32) (v2 : Int32) (v3 : Int32) : Option (Bool × db_S) :=
  ((db_f103 s (1 : Int32) v1).bind fun q1 => (cond q1 ((db_f27 s v3 (1 : Int32) (20 : Int32)).bind fun q3 => (cond q3 ((db_f27 s v2 (0 : Int32) (((9999 : Int32) - v3) + (1 : Int32))).bind fun q5 => (cond q5 (cond (db_cnd .ne (s.1 83 0) 0) (db_bd (db_f203 s v1 v2 v3) fun q7 s8 => ((db_f189 s8 q7 (Int32.toInt64 v3)).bind fun s10 => (db_bd (db_f31 s10) fun q11 s12 => (some (q11, s12))))) (db_bd (db_f28 s (8 : Int32)) fun q13 s14 => (some (q13, s14)))) (db_f202_b40 s ))) (db_f202_b40 s ))) (db_bd (db_f28 s (2 : Int32)) fun q15 s16 => (some (q15, s16)))))
set_option maxRecDepth 100000 in
theorem db_f202_ok {X : db_X} {d : Nat} {s : db_S} {v1 : Int32} {v2 : Int32} {v3 : Int32} : db_Rf X (d + 7) dbm_202 0 (lv_args 0 [.ref 4, .int v1, .int v2, .int v3]) [] s db_zB (db_f202 s v1 v2 v3) := by
  show db_Rf _ _ _ 0 [(0, .ref 4), (1, .int v1), (2, .int v2), (3, .int v3)] [] _ _ _
  unfold db_f202
  refine db_Rgo (pc' := 3) (lv' := [(0, .ref 4), (1, .int v1), (2, .int v2), (3, .int v3)]) (st' := [.int v1, .int (1 : Int32), .ref 4]) 3 rfl ?_
  refine db_RcyB (mr' := dbm_103) (as := [.ref 4, .int (1 : Int32), .int v1]) (rest := []) (pc' := 6) (lv1 := [(0, .ref 4), (1, .int v1), (2, .int v2), (3, .int v3)]) rfl rfl rfl rfl rfl (db_f103_ok) fun q1 => ?_
  refine db_RifBn (pc' := 9) (tg := 15) (lv1 := [(0, .ref 4), (1, .int v1), (2, .int v2), (3, .int v3)]) rfl rfl rfl rfl ?_ ?_
  · refine db_Rgo (pc' := 19) (lv' := [(0, .ref 4), (1, .int v1), (2, .int v2), (3, .int v3)]) (st' := [.int (20 : Int32), .int (1 : Int32), .int v3]) 3 rfl ?_
    refine db_RcyB (mr' := dbm_27) (as := [.int v3, .int (1 : Int32), .int (20 : Int32)]) (rest := []) (pc' := 22) (lv1 := [(0, .ref 4), (1, .int v1), (2, .int v2), (3, .int v3)]) rfl rfl rfl rfl rfl (db_f27_ok) fun q3 => ?_
    refine db_RifBe (pc' := 25) (tg := 40) (lv1 := [(0, .ref 4), (1, .int v1), (2, .int v2), (3, .int v3)]) rfl rfl rfl rfl ?_ ?_
    · refine db_Rn (lv1 := [(0, .ref 4)]) rfl rfl rfl ?_
      exact db_f202_b40_ok
    refine db_Rgo (pc' := 34) (lv' := [(0, .ref 4), (1, .int v1), (2, .int v2), (3, .int v3)]) (st' := [.int (((9999 : Int32) - v3) + (1 : Int32)), .int (0 : Int32), .int v2]) 7 rfl ?_
    refine db_RcyB (mr' := dbm_27) (as := [.int v2, .int (0 : Int32), .int (((9999 : Int32) - v3) + (1 : Int32))]) (rest := []) (pc' := 37) (lv1 := [(0, .ref 4), (1, .int v1), (2, .int v2), (3, .int v3)]) rfl rfl rfl rfl rfl (db_f27_ok) fun q5 => ?_
    refine db_RifBn (pc' := 40) (tg := 46) (lv1 := [(0, .ref 4), (1, .int v1), (2, .int v2), (3, .int v3)]) rfl rfl rfl rfl ?_ ?_
    · refine db_Rgo (pc' := 53) (lv' := [(0, .ref 4), (1, .int v1), (2, .int v2), (3, .int v3)]) (st' := [.int (s.1 83 0)]) 3 rfl ?_
      refine db_Rif (pc' := 56) (tg := 63) (lv1 := [(0, .ref 4), (1, .int v1), (2, .int v2), (3, .int v3)]) rfl rfl rfl rfl ?_ ?_
      · refine db_Rgo (pc' := 74) (lv' := [(0, .ref 4), (1, .int v1), (2, .int v2), (3, .int v3)]) (st' := [.int v3, .int v2, .int v1, .ref 284, .ref 282]) 7 rfl ?_
        refine db_RcdL (mr' := dbm_203) (as := [.ref 284, .int v1, .int v2, .int v3]) (rest := [.ref 282]) (pc' := 77) (lv1 := [(0, .ref 4), (1, .int v1), (2, .int v2), (3, .int v3)]) rfl rfl rfl rfl rfl (db_f203_ok) fun q7 s8 => ?_
        refine db_Rgo (pc' := 79) (lv' := [(0, .ref 4), (1, .int v1), (2, .int v2), (3, .int v3)]) (st' := [.long (Int32.toInt64 v3), .long q7, .ref 282]) 2 rfl ?_
        refine db_RcV (mr' := dbm_189) (as := [.ref 282, .long q7, .long (Int32.toInt64 v3)]) (rest := []) (pc' := 82) (lv1 := [(0, .ref 4), (1, .int v1), (2, .int v2), (3, .int v3)]) rfl rfl rfl rfl rfl (db_f189_ok) fun s10 => ?_
        refine db_Rgo (pc' := 83) (lv' := [(0, .ref 4), (1, .int v1), (2, .int v2), (3, .int v3)]) (st' := [.ref 4]) 1 rfl ?_
        refine db_RcdB (mr' := dbm_31) (as := [.ref 4]) (rest := []) (pc' := 86) (lv1 := [(0, .ref 4), (1, .int v1), (2, .int v2), (3, .int v3)]) rfl rfl rfl rfl rfl (db_f31_ok) fun q11 s12 => ?_
        exact db_RretB (lv1 := [(0, .ref 4), (1, .int v1), (2, .int v2), (3, .int v3)]) rfl rfl rfl rfl
      refine db_Rgo (pc' := 59) (lv' := [(0, .ref 4), (1, .int v1), (2, .int v2), (3, .int v3)]) (st' := [.int (8 : Int32), .ref 4]) 2 rfl ?_
      refine db_RcdB (mr' := dbm_28) (as := [.ref 4, .int (8 : Int32)]) (rest := []) (pc' := 62) (lv1 := [(0, .ref 4), (1, .int v1), (2, .int v2), (3, .int v3)]) rfl rfl rfl rfl rfl (db_f28_ok) fun q13 s14 => ?_
      exact db_RretB (lv1 := [(0, .ref 4), (1, .int v1), (2, .int v2), (3, .int v3)]) rfl rfl rfl rfl
    refine db_Rn (lv1 := [(0, .ref 4)]) rfl rfl rfl ?_
    exact db_f202_b40_ok
  refine db_Rgo (pc' := 11) (lv' := [(0, .ref 4), (1, .int v1), (2, .int v2), (3, .int v3)]) (st' := [.int (2 : Int32), .ref 4]) 2 rfl ?_
  refine db_RcdB (mr' := dbm_28) (as := [.ref 4, .int (2 : Int32)]) (rest := []) (pc' := 14) (lv1 := [(0, .ref 4), (1, .int v1), (2, .int v2), (3, .int v3)]) rfl rfl rfl rfl rfl (db_f28_ok) fun q15 s16 => ?_
  exact db_RretB (lv1 := [(0, .ref 4), (1, .int v1), (2, .int v2), (3, .int v3)]) rfl rfl rfl rfl
noncomputable def db_f375_b51 (s : db_S) : Option (Bool × db_S) :=
  (db_bd (db_f211 s (5 : Int32)) fun q1 s2 => (some (q1, s2)))
set_option maxRecDepth 100000 in
theorem db_f375_b51_ok {X : db_X} {d : Nat}  {s : db_S} : db_Rf X (d + 35) dbm_375 51 [(0, .ref 669)] [] s db_zB (db_f375_b51 s ) := by
  unfold db_f375_b51
  refine db_Rgo (pc' := 53) (lv' := [(0, .ref 669)]) (st' := [.int (5 : Int32), .ref 669]) 2 rfl ?_
  refine db_RcdB (mr' := dbm_211) (as := [.ref 669, .int (5 : Int32)]) (rest := []) (pc' := 56) (lv1 := [(0, .ref 669)]) rfl rfl rfl rfl rfl (db_f211_ok) fun q1 s2 => ?_
  exact db_RretB (lv1 := [(0, .ref 669)]) rfl rfl rfl rfl
noncomputable def db_f375_b144 (h112 : db_S → Int32 → Int32 → Int32 → Int64 → Int32 → Option (Bool × db_S)) : Nat → db_S → Int32 → Int32 → Int32 → Int64 → Int32 → Int32 → Option (Bool × db_S)
  | 0, _, _, _, _, _, _, _ => none
  | n + 1, s, v1, v2, v3, v4, v6, v7 =>
    (cond (db_cnd .ge v7 (199 : Int32)) (h112 s v1 v2 v3 v4 (v6 + (1 : Int32))) ((db_rI s 684 v7).bind fun x1 => ((db_wI s 674 v7 x1).bind fun s2 => (db_f375_b144 h112 n s2 v1 v2 v3 v4 v6 (v7 + (1 : Int32))))))
set_option maxRecDepth 100000 in
theorem db_f375_b144_ok {X : db_X} {d : Nat}  {h112 : db_S → Int32 → Int32 → Int32 → Int64 → Int32 → Option (Bool × db_S)} (zh112 : ∀ (s' : db_S) (v1 : Int32) (v2 : Int32) (v3 : Int32) (v4 : Int64) (v6 : Int32) , db_Rf X (d + 35) dbm_375 112 [(0, .ref 669), (1, .int v1), (2, .int v2), (3, .int v3), (4, .long v4), (6, .int v6)] [] s' db_zB (h112 s' v1 v2 v3 v4 v6)) (n : Nat) : ∀ (s : db_S) (v1 : Int32) (v2 : Int32) (v3 : Int32) (v4 : Int64) (v6 : Int32) (v7 : Int32), db_Rf X (d + 35) dbm_375 144 [(0, .ref 669), (1, .int v1), (2, .int v2), (3, .int v3), (4, .long v4), (6, .int v6), (7, .int v7)] [] s db_zB (db_f375_b144 h112 n s v1 v2 v3 v4 v6 v7) := by
  induction n with
  | zero => intros; exact db_Rnone
  | succ n ih =>
    intro s v1 v2 v3 v4 v6 v7
    unfold db_f375_b144
    refine db_Rgo (pc' := 149) (lv' := [(0, .ref 669), (1, .int v1), (2, .int v2), (3, .int v3), (4, .long v4), (6, .int v6), (7, .int v7)]) (st' := [.int (199 : Int32), .int v7]) 2 rfl ?_
    refine db_Ric (pc' := 152) (tg := 172) (lv1 := [(0, .ref 669), (1, .int v1), (2, .int v2), (3, .int v3), (4, .long v4), (6, .int v6), (7, .int v7)]) rfl rfl rfl rfl ?_ ?_
    · refine db_Rgo (pc' := 112) (lv' := [(6, .int (v6 + (1 : Int32))), (0, .ref 669), (1, .int v1), (2, .int v2), (3, .int v3), (4, .long v4)]) (st' := []) 2 rfl ?_
      refine db_Rn (lv1 := [(0, .ref 669), (1, .int v1), (2, .int v2), (3, .int v3), (4, .long v4), (6, .int (v6 + (1 : Int32)))]) rfl rfl rfl ?_
      exact zh112 _ _ _ _ _ _
    refine db_Rgo (pc' := 164) (lv' := [(0, .ref 669), (1, .int v1), (2, .int v2), (3, .int v3), (4, .long v4), (6, .int v6), (7, .int v7)]) (st' := [.int v7, .ref 684, .int v7, .ref 674]) 6 rfl ?_
    refine db_RldI (pc' := 165) (lv1 := [(0, .ref 669), (1, .int v1), (2, .int v2), (3, .int v3), (4, .long v4), (6, .int v6), (7, .int v7)]) rfl rfl rfl fun x1 => ?_
    refine db_RstI (pc' := 166) (lv1 := [(0, .ref 669), (1, .int v1), (2, .int v2), (3, .int v3), (4, .long v4), (6, .int v6), (7, .int v7)]) rfl rfl rfl fun s2 => ?_
    refine db_Rgo (pc' := 144) (lv' := [(7, .int (v7 + (1 : Int32))), (0, .ref 669), (1, .int v1), (2, .int v2), (3, .int v3), (4, .long v4), (6, .int v6)]) (st' := []) 2 rfl ?_
    refine db_Rn (lv1 := [(0, .ref 669), (1, .int v1), (2, .int v2), (3, .int v3), (4, .long v4), (6, .int v6), (7, .int (v7 + (1 : Int32)))]) rfl rfl rfl ?_
    exact ih _ _ _ _ _ _ _
noncomputable def db_f375_b112 : Nat → db_S → Int32 → Int32 → Int32 → Int64 → Int32 → Option (Bool × db_S)
  | 0, _, _, _, _, _, _ => none
  | n + 1, s, v1, v2, v3, v4, v6 =>
    (cond (db_cnd .ge v6 v3) (db_bd (db_f364 s v4 (Int32.toInt64 v3)) fun q1 s2 => (some (q1, s2))) ((db_f367 s (v2 + v6)).bind fun s4 => ((db_rI s4 674 ((12 : Int32) + v1)).bind fun x5 => (db_f375_b144 (db_f375_b112 n) db_FU s4 v1 v2 v3 (v4 + (Int32.toInt64 x5)) v6 (0 : Int32)))))
set_option maxRecDepth 100000 in
theorem db_f375_b112_ok {X : db_X} {d : Nat}  (n : Nat) : ∀ (s : db_S) (v1 : Int32) (v2 : Int32) (v3 : Int32) (v4 : Int64) (v6 : Int32), db_Rf X (d + 35) dbm_375 112 [(0, .ref 669), (1, .int v1), (2, .int v2), (3, .int v3), (4, .long v4), (6, .int v6)] [] s db_zB (db_f375_b112 n s v1 v2 v3 v4 v6) := by
  induction n with
  | zero => intros; exact db_Rnone
  | succ n ih =>
    intro s v1 v2 v3 v4 v6
    unfold db_f375_b112
    refine db_Rgo (pc' := 115) (lv' := [(0, .ref 669), (1, .int v1), (2, .int v2), (3, .int v3), (4, .long v4), (6, .int v6)]) (st' := [.int v3, .int v6]) 2 rfl ?_
    refine db_Ric (pc' := 118) (tg := 178) (lv1 := [(0, .ref 669), (1, .int v1), (2, .int v2), (3, .int v3), (4, .long v4), (6, .int v6)]) rfl rfl rfl rfl ?_ ?_
    · refine db_Rgo (pc' := 183) (lv' := [(0, .ref 669), (3, .int v3), (4, .long v4)]) (st' := [.long (Int32.toInt64 v3), .long v4, .ref 669]) 4 rfl ?_
      refine db_RcdB (mr' := dbm_364) (as := [.ref 669, .long v4, .long (Int32.toInt64 v3)]) (rest := []) (pc' := 186) (lv1 := [(0, .ref 669), (3, .int v3), (4, .long v4)]) rfl rfl rfl rfl rfl (db_f364_ok) fun q1 s2 => ?_
      exact db_RretB (lv1 := [(0, .ref 669), (3, .int v3), (4, .long v4)]) rfl rfl rfl rfl
    refine db_Rgo (pc' := 123) (lv' := [(0, .ref 669), (1, .int v1), (2, .int v2), (3, .int v3), (4, .long v4), (6, .int v6)]) (st' := [.int (v2 + v6), .ref 669]) 4 rfl ?_
    refine db_RcV (mr' := dbm_367) (as := [.ref 669, .int (v2 + v6)]) (rest := []) (pc' := 126) (lv1 := [(0, .ref 669), (1, .int v1), (2, .int v2), (3, .int v3), (4, .long v4), (6, .int v6)]) rfl rfl rfl rfl rfl (db_f367_ok) fun s4 => ?_
    refine db_Rgo (pc' := 136) (lv' := [(0, .ref 669), (1, .int v1), (2, .int v2), (3, .int v3), (4, .long v4), (6, .int v6)]) (st' := [.int ((12 : Int32) + v1), .ref 674, .long v4]) 6 rfl ?_
    refine db_RldI (pc' := 137) (lv1 := [(0, .ref 669), (1, .int v1), (2, .int v2), (3, .int v3), (4, .long v4), (6, .int v6)]) rfl rfl rfl fun x5 => ?_
    refine db_Rgo (pc' := 144) (lv' := [(7, .int (0 : Int32)), (4, .long (v4 + (Int32.toInt64 x5))), (0, .ref 669), (1, .int v1), (2, .int v2), (3, .int v3), (6, .int v6)]) (st' := []) 5 rfl ?_
    refine db_Rn (lv1 := [(0, .ref 669), (1, .int v1), (2, .int v2), (3, .int v3), (4, .long (v4 + (Int32.toInt64 x5))), (6, .int v6), (7, .int (0 : Int32))]) rfl rfl rfl ?_
    exact db_f375_b144_ok ih db_FU _ _ _ _ _ _ _
noncomputable def db_f375_b78 : Nat → db_S → Int32 → Int32 → Int32 → Int32 → Option (Bool × db_S)
  | 0, _, _, _, _, _ => none
  | n + 1, s, v1, v2, v3, v4 =>
    (cond (db_cnd .ge v4 (199 : Int32)) (db_f375_b112 db_FU s v1 v2 v3 (0 : Int64) (0 : Int32)) ((db_rI s 674 v4).bind fun x1 => ((db_wI s 684 v4 x1).bind fun s2 => (db_f375_b78 n s2 v1 v2 v3 (v4 + (1 : Int32))))))
set_option maxRecDepth 100000 in
theorem db_f375_b78_ok {X : db_X} {d : Nat}  (n : Nat) : ∀ (s : db_S) (v1 : Int32) (v2 : Int32) (v3 : Int32) (v4 : Int32), db_Rf X (d + 35) dbm_375 78 [(0, .ref 669), (1, .int v1), (2, .int v2), (3, .int v3), (4, .int v4)] [] s db_zB (db_f375_b78 n s v1 v2 v3 v4) := by
  induction n with
  | zero => intros; exact db_Rnone
  | succ n ih =>
    intro s v1 v2 v3 v4
    unfold db_f375_b78
    refine db_Rgo (pc' := 83) (lv' := [(0, .ref 669), (1, .int v1), (2, .int v2), (3, .int v3), (4, .int v4)]) (st' := [.int (199 : Int32), .int v4]) 2 rfl ?_
    refine db_Ric (pc' := 86) (tg := 106) (lv1 := [(0, .ref 669), (1, .int v1), (2, .int v2), (3, .int v3), (4, .int v4)]) rfl rfl rfl rfl ?_ ?_
    · refine db_Rgo (pc' := 112) (lv' := [(6, .int (0 : Int32)), (4, .long (0 : Int64)), (0, .ref 669), (1, .int v1), (2, .int v2), (3, .int v3)]) (st' := []) 4 rfl ?_
      refine db_Rn (lv1 := [(0, .ref 669), (1, .int v1), (2, .int v2), (3, .int v3), (4, .long (0 : Int64)), (6, .int (0 : Int32))]) rfl rfl rfl ?_
      exact db_f375_b112_ok db_FU _ _ _ _ _ _
    refine db_Rgo (pc' := 98) (lv' := [(0, .ref 669), (1, .int v1), (2, .int v2), (3, .int v3), (4, .int v4)]) (st' := [.int v4, .ref 674, .int v4, .ref 684]) 6 rfl ?_
    refine db_RldI (pc' := 99) (lv1 := [(0, .ref 669), (1, .int v1), (2, .int v2), (3, .int v3), (4, .int v4)]) rfl rfl rfl fun x1 => ?_
    refine db_RstI (pc' := 100) (lv1 := [(0, .ref 669), (1, .int v1), (2, .int v2), (3, .int v3), (4, .int v4)]) rfl rfl rfl fun s2 => ?_
    refine db_Rgo (pc' := 78) (lv' := [(4, .int (v4 + (1 : Int32))), (0, .ref 669), (1, .int v1), (2, .int v2), (3, .int v3)]) (st' := []) 2 rfl ?_
    refine db_Rn (lv1 := [(0, .ref 669), (1, .int v1), (2, .int v2), (3, .int v3), (4, .int (v4 + (1 : Int32)))]) rfl rfl rfl ?_
    exact ih _ _ _ _ _
/-- DreamBookModel.mean(III)Z -/
noncomputable def db_f375 (s : db_S) (v1 : Int32) (v2 : Int32) (v3 : Int32) : Option (Bool × db_S) :=
  ((db_pI s 669 1 (0 : Int32)).bind fun s1 => ((db_pI s1 669 0 (0 : Int32)).bind fun s2 => ((db_f292 s2 v1).bind fun q3 => (cond q3 ((db_f269 s2 (Int32.toInt64 v3) (1 : Int64) (20 : Int64)).bind fun q5 => (cond q5 ((db_f269 s2 (Int32.toInt64 v2) (0 : Int64) (Int32.toInt64 ((10000 : Int32) - v3))).bind fun q7 => (cond q7 ((db_rI s2 674 (199 : Int32)).bind fun x9 => (cond (db_cnd .ne x9 0) (db_f375_b78 db_FU s2 v1 v2 v3 (0 : Int32)) (db_bd (db_f211 s2 (8 : Int32)) fun q10 s11 => (some (q10, s11))))) (db_f375_b51 s2 ))) (db_f375_b51 s2 ))) (db_bd (db_f211 s2 (2 : Int32)) fun q12 s13 => (some (q12, s13)))))))
set_option maxRecDepth 100000 in
theorem db_f375_ok {X : db_X} {d : Nat} {s : db_S} {v1 : Int32} {v2 : Int32} {v3 : Int32} : db_Rf X (d + 35) dbm_375 0 (lv_args 0 [.ref 669, .int v1, .int v2, .int v3]) [] s db_zB (db_f375 s v1 v2 v3) := by
  show db_Rf _ _ _ 0 [(0, .ref 669), (1, .int v1), (2, .int v2), (3, .int v3)] [] _ _ _
  unfold db_f375
  refine db_Rgo (pc' := 2) (lv' := [(0, .ref 669), (1, .int v1), (2, .int v2), (3, .int v3)]) (st' := [.int (0 : Int32), .ref 669]) 2 rfl ?_
  refine db_RpuI (pc' := 5) (lv1 := [(0, .ref 669), (1, .int v1), (2, .int v2), (3, .int v3)]) rfl rfl rfl rfl rfl rfl (by decide) rfl rfl fun s1 => ?_
  refine db_Rgo (pc' := 7) (lv' := [(0, .ref 669), (1, .int v1), (2, .int v2), (3, .int v3)]) (st' := [.int (0 : Int32), .ref 669]) 2 rfl ?_
  refine db_RpuI (pc' := 10) (lv1 := [(0, .ref 669), (1, .int v1), (2, .int v2), (3, .int v3)]) rfl rfl rfl rfl rfl rfl (by decide) rfl rfl fun s2 => ?_
  refine db_Rgo (pc' := 12) (lv' := [(0, .ref 669), (1, .int v1), (2, .int v2), (3, .int v3)]) (st' := [.int v1, .ref 669]) 2 rfl ?_
  refine db_RcyB (mr' := dbm_292) (as := [.ref 669, .int v1]) (rest := []) (pc' := 15) (lv1 := [(0, .ref 669), (1, .int v1), (2, .int v2), (3, .int v3)]) rfl rfl rfl rfl rfl (db_f292_ok) fun q3 => ?_
  refine db_RifBn (pc' := 18) (tg := 24) (lv1 := [(0, .ref 669), (1, .int v1), (2, .int v2), (3, .int v3)]) rfl rfl rfl rfl ?_ ?_
  · refine db_Rgo (pc' := 30) (lv' := [(0, .ref 669), (1, .int v1), (2, .int v2), (3, .int v3)]) (st' := [.long (20 : Int64), .long (1 : Int64), .long (Int32.toInt64 v3)]) 4 rfl ?_
    refine db_RcyB (mr' := dbm_269) (as := [.long (Int32.toInt64 v3), .long (1 : Int64), .long (20 : Int64)]) (rest := []) (pc' := 33) (lv1 := [(0, .ref 669), (1, .int v1), (2, .int v2), (3, .int v3)]) rfl rfl rfl rfl rfl (db_f269_ok) fun q5 => ?_
    refine db_RifBe (pc' := 36) (tg := 51) (lv1 := [(0, .ref 669), (1, .int v1), (2, .int v2), (3, .int v3)]) rfl rfl rfl rfl ?_ ?_
    · refine db_Rn (lv1 := [(0, .ref 669)]) rfl rfl rfl ?_
      exact db_f375_b51_ok
    refine db_Rgo (pc' := 45) (lv' := [(0, .ref 669), (1, .int v1), (2, .int v2), (3, .int v3)]) (st' := [.long (Int32.toInt64 ((10000 : Int32) - v3)), .long (0 : Int64), .long (Int32.toInt64 v2)]) 7 rfl ?_
    refine db_RcyB (mr' := dbm_269) (as := [.long (Int32.toInt64 v2), .long (0 : Int64), .long (Int32.toInt64 ((10000 : Int32) - v3))]) (rest := []) (pc' := 48) (lv1 := [(0, .ref 669), (1, .int v1), (2, .int v2), (3, .int v3)]) rfl rfl rfl rfl rfl (db_f269_ok) fun q7 => ?_
    refine db_RifBn (pc' := 51) (tg := 57) (lv1 := [(0, .ref 669), (1, .int v1), (2, .int v2), (3, .int v3)]) rfl rfl rfl rfl ?_ ?_
    · refine db_Rgo (pc' := 64) (lv' := [(0, .ref 669), (1, .int v1), (2, .int v2), (3, .int v3)]) (st' := [.int (199 : Int32), .ref 674]) 3 rfl ?_
      refine db_RldI (pc' := 65) (lv1 := [(0, .ref 669), (1, .int v1), (2, .int v2), (3, .int v3)]) rfl rfl rfl fun x9 => ?_
      refine db_Rif (pc' := 68) (tg := 75) (lv1 := [(0, .ref 669), (1, .int v1), (2, .int v2), (3, .int v3)]) rfl rfl rfl rfl ?_ ?_
      · refine db_Rgo (pc' := 78) (lv' := [(4, .int (0 : Int32)), (0, .ref 669), (1, .int v1), (2, .int v2), (3, .int v3)]) (st' := []) 2 rfl ?_
        refine db_Rn (lv1 := [(0, .ref 669), (1, .int v1), (2, .int v2), (3, .int v3), (4, .int (0 : Int32))]) rfl rfl rfl ?_
        exact db_f375_b78_ok db_FU _ _ _ _ _
      refine db_Rgo (pc' := 71) (lv' := [(0, .ref 669), (1, .int v1), (2, .int v2), (3, .int v3)]) (st' := [.int (8 : Int32), .ref 669]) 2 rfl ?_
      refine db_RcdB (mr' := dbm_211) (as := [.ref 669, .int (8 : Int32)]) (rest := []) (pc' := 74) (lv1 := [(0, .ref 669), (1, .int v1), (2, .int v2), (3, .int v3)]) rfl rfl rfl rfl rfl (db_f211_ok) fun q10 s11 => ?_
      exact db_RretB (lv1 := [(0, .ref 669), (1, .int v1), (2, .int v2), (3, .int v3)]) rfl rfl rfl rfl
    refine db_Rn (lv1 := [(0, .ref 669)]) rfl rfl rfl ?_
    exact db_f375_b51_ok
  refine db_Rgo (pc' := 20) (lv' := [(0, .ref 669), (1, .int v1), (2, .int v2), (3, .int v3)]) (st' := [.int (2 : Int32), .ref 669]) 2 rfl ?_
  refine db_RcdB (mr' := dbm_211) (as := [.ref 669, .int (2 : Int32)]) (rest := []) (pc' := 23) (lv1 := [(0, .ref 669), (1, .int v1), (2, .int v2), (3, .int v3)]) rfl rfl rfl rfl rfl (db_f211_ok) fun q12 s13 => ?_
  exact db_RretB (lv1 := [(0, .ref 669), (1, .int v1), (2, .int v2), (3, .int v3)]) rfl rfl rfl rfl
/-- DreamBook$Told.copyFrom(LDreamBook$Told;)V -/
noncomputable def db_f82_294_20 (s : db_S) : Option db_S :=
  ((db_f83 s 21 295).bind fun s2 => ((db_f83 s2 22 296).bind fun s4 => ((db_f83 s4 23 297).bind fun s6 => ((db_f84 s6 24 298).bind fun s8 => ((db_f84 s8 37 311).bind fun s10 => ((db_f84 s10 50 324).bind fun s12 => ((db_f83 s12 59 333).bind fun s14 => ((db_f83 s14 60 334).bind fun s16 => ((db_f83 s16 61 335).bind fun s18 => ((db_f83 s18 62 336).bind fun s20 => ((db_f83 s20 63 337).bind fun s22 => ((db_f84 s22 64 338).bind fun s24 => ((db_f83 s24 75 349).bind fun s26 => ((db_pI s26 294 13 (s26.1 20 13)).bind fun s27 => ((db_pI s27 294 14 (s27.1 20 14)).bind fun s28 => ((db_cL s28 76 (0 : Int32) 350 (0 : Int32) (37 : Int32)).bind fun s29 => ((db_f83 s29 77 351).bind fun s31 => ((db_f83 s31 78 352).bind fun s33 => ((db_pI s33 294 18 (s33.1 20 18)).bind fun s34 => (some s34))))))))))))))))))))
set_option maxRecDepth 100000 in
theorem db_f82_294_20_ok {X : db_X} {d : Nat} {s : db_S} : db_Rf X (d + 2) dbm_82 0 (lv_args 0 [.ref 294, .ref 20]) [] s db_zV (db_f82_294_20 s ) := by
  show db_Rf _ _ _ 0 [(0, .ref 294), (1, .ref 20)] [] _ _ _
  unfold db_f82_294_20
  refine db_Rgo (pc' := 8) (lv' := [(0, .ref 294), (1, .ref 20)]) (st' := [.ref 295, .ref 21]) 4 rfl ?_
  refine db_RcV (mr' := dbm_83) (as := [.ref 21, .ref 295]) (rest := []) (pc' := 11) (lv1 := [(0, .ref 294), (1, .ref 20)]) rfl rfl rfl rfl rfl (db_f83_ok) fun s2 => ?_
  refine db_Rgo (pc' := 19) (lv' := [(0, .ref 294), (1, .ref 20)]) (st' := [.ref 296, .ref 22]) 4 rfl ?_
  refine db_RcV (mr' := dbm_83) (as := [.ref 22, .ref 296]) (rest := []) (pc' := 22) (lv1 := [(0, .ref 294), (1, .ref 20)]) rfl rfl rfl rfl rfl (db_f83_ok) fun s4 => ?_
  refine db_Rgo (pc' := 30) (lv' := [(0, .ref 294), (1, .ref 20)]) (st' := [.ref 297, .ref 23]) 4 rfl ?_
  refine db_RcV (mr' := dbm_83) (as := [.ref 23, .ref 297]) (rest := []) (pc' := 33) (lv1 := [(0, .ref 294), (1, .ref 20)]) rfl rfl rfl rfl rfl (db_f83_ok) fun s6 => ?_
  refine db_Rgo (pc' := 41) (lv' := [(0, .ref 294), (1, .ref 20)]) (st' := [.ref 298, .ref 24]) 4 rfl ?_
  refine db_RcV (mr' := dbm_84) (as := [.ref 24, .ref 298]) (rest := []) (pc' := 44) (lv1 := [(0, .ref 294), (1, .ref 20)]) rfl rfl rfl rfl rfl (db_f84_ok) fun s8 => ?_
  refine db_Rgo (pc' := 52) (lv' := [(0, .ref 294), (1, .ref 20)]) (st' := [.ref 311, .ref 37]) 4 rfl ?_
  refine db_RcV (mr' := dbm_84) (as := [.ref 37, .ref 311]) (rest := []) (pc' := 55) (lv1 := [(0, .ref 294), (1, .ref 20)]) rfl rfl rfl rfl rfl (db_f84_ok) fun s10 => ?_
  refine db_Rgo (pc' := 63) (lv' := [(0, .ref 294), (1, .ref 20)]) (st' := [.ref 324, .ref 50]) 4 rfl ?_
  refine db_RcV (mr' := dbm_84) (as := [.ref 50, .ref 324]) (rest := []) (pc' := 66) (lv1 := [(0, .ref 294), (1, .ref 20)]) rfl rfl rfl rfl rfl (db_f84_ok) fun s12 => ?_
  refine db_Rgo (pc' := 74) (lv' := [(0, .ref 294), (1, .ref 20)]) (st' := [.ref 333, .ref 59]) 4 rfl ?_
  refine db_RcV (mr' := dbm_83) (as := [.ref 59, .ref 333]) (rest := []) (pc' := 77) (lv1 := [(0, .ref 294), (1, .ref 20)]) rfl rfl rfl rfl rfl (db_f83_ok) fun s14 => ?_
  refine db_Rgo (pc' := 85) (lv' := [(0, .ref 294), (1, .ref 20)]) (st' := [.ref 334, .ref 60]) 4 rfl ?_
  refine db_RcV (mr' := dbm_83) (as := [.ref 60, .ref 334]) (rest := []) (pc' := 88) (lv1 := [(0, .ref 294), (1, .ref 20)]) rfl rfl rfl rfl rfl (db_f83_ok) fun s16 => ?_
  refine db_Rgo (pc' := 96) (lv' := [(0, .ref 294), (1, .ref 20)]) (st' := [.ref 335, .ref 61]) 4 rfl ?_
  refine db_RcV (mr' := dbm_83) (as := [.ref 61, .ref 335]) (rest := []) (pc' := 99) (lv1 := [(0, .ref 294), (1, .ref 20)]) rfl rfl rfl rfl rfl (db_f83_ok) fun s18 => ?_
  refine db_Rgo (pc' := 107) (lv' := [(0, .ref 294), (1, .ref 20)]) (st' := [.ref 336, .ref 62]) 4 rfl ?_
  refine db_RcV (mr' := dbm_83) (as := [.ref 62, .ref 336]) (rest := []) (pc' := 110) (lv1 := [(0, .ref 294), (1, .ref 20)]) rfl rfl rfl rfl rfl (db_f83_ok) fun s20 => ?_
  refine db_Rgo (pc' := 118) (lv' := [(0, .ref 294), (1, .ref 20)]) (st' := [.ref 337, .ref 63]) 4 rfl ?_
  refine db_RcV (mr' := dbm_83) (as := [.ref 63, .ref 337]) (rest := []) (pc' := 121) (lv1 := [(0, .ref 294), (1, .ref 20)]) rfl rfl rfl rfl rfl (db_f83_ok) fun s22 => ?_
  refine db_Rgo (pc' := 129) (lv' := [(0, .ref 294), (1, .ref 20)]) (st' := [.ref 338, .ref 64]) 4 rfl ?_
  refine db_RcV (mr' := dbm_84) (as := [.ref 64, .ref 338]) (rest := []) (pc' := 132) (lv1 := [(0, .ref 294), (1, .ref 20)]) rfl rfl rfl rfl rfl (db_f84_ok) fun s24 => ?_
  refine db_Rgo (pc' := 140) (lv' := [(0, .ref 294), (1, .ref 20)]) (st' := [.ref 349, .ref 75]) 4 rfl ?_
  refine db_RcV (mr' := dbm_83) (as := [.ref 75, .ref 349]) (rest := []) (pc' := 143) (lv1 := [(0, .ref 294), (1, .ref 20)]) rfl rfl rfl rfl rfl (db_f83_ok) fun s26 => ?_
  refine db_Rgo (pc' := 148) (lv' := [(0, .ref 294), (1, .ref 20)]) (st' := [.int (s26.1 20 13), .ref 294]) 3 rfl ?_
  refine db_RpuI (pc' := 151) (lv1 := [(0, .ref 294), (1, .ref 20)]) rfl rfl rfl rfl rfl rfl (by decide) rfl rfl fun s27 => ?_
  refine db_Rgo (pc' := 156) (lv' := [(0, .ref 294), (1, .ref 20)]) (st' := [.int (s27.1 20 14), .ref 294]) 3 rfl ?_
  refine db_RpuI (pc' := 159) (lv1 := [(0, .ref 294), (1, .ref 20)]) rfl rfl rfl rfl rfl rfl (by decide) rfl rfl fun s28 => ?_
  refine db_Rgo (pc' := 171) (lv' := [(0, .ref 294), (1, .ref 20)]) (st' := [.int (37 : Int32), .int (0 : Int32), .ref 350, .int (0 : Int32), .ref 76]) 7 rfl ?_
  refine db_RcpL (pc' := 174) (lv1 := [(0, .ref 294), (1, .ref 20)]) rfl rfl rfl rfl rfl fun s29 => ?_
  refine db_Rgo (pc' := 182) (lv' := [(0, .ref 294), (1, .ref 20)]) (st' := [.ref 351, .ref 77]) 4 rfl ?_
  refine db_RcV (mr' := dbm_83) (as := [.ref 77, .ref 351]) (rest := []) (pc' := 185) (lv1 := [(0, .ref 294), (1, .ref 20)]) rfl rfl rfl rfl rfl (db_f83_ok) fun s31 => ?_
  refine db_Rgo (pc' := 193) (lv' := [(0, .ref 294), (1, .ref 20)]) (st' := [.ref 352, .ref 78]) 4 rfl ?_
  refine db_RcV (mr' := dbm_83) (as := [.ref 78, .ref 352]) (rest := []) (pc' := 196) (lv1 := [(0, .ref 294), (1, .ref 20)]) rfl rfl rfl rfl rfl (db_f83_ok) fun s33 => ?_
  refine db_Rgo (pc' := 201) (lv' := [(0, .ref 294), (1, .ref 20)]) (st' := [.int (s33.1 20 18), .ref 294]) 3 rfl ?_
  refine db_RpuI (pc' := 204) (lv1 := [(0, .ref 294), (1, .ref 20)]) rfl rfl rfl rfl rfl rfl (by decide) rfl rfl fun s34 => ?_
  exact db_Rret (lv1 := [(0, .ref 294), (1, .ref 20)]) rfl rfl rfl rfl
/-- DreamBook$Told.copyFrom(LDreamBook$Told;)V -/
noncomputable def db_f82_419_20 (s : db_S) : Option db_S :=
  ((db_f83 s 21 420).bind fun s2 => ((db_f83 s2 22 421).bind fun s4 => ((db_f83 s4 23 422).bind fun s6 => ((db_f84 s6 24 423).bind fun s8 => ((db_f84 s8 37 436).bind fun s10 => ((db_f84 s10 50 449).bind fun s12 => ((db_f83 s12 59 458).bind fun s14 => ((db_f83 s14 60 459).bind fun s16 => ((db_f83 s16 61 460).bind fun s18 => ((db_f83 s18 62 461).bind fun s20 => ((db_f83 s20 63 462).bind fun s22 => ((db_f84 s22 64 463).bind fun s24 => ((db_f83 s24 75 474).bind fun s26 => ((db_pI s26 419 13 (s26.1 20 13)).bind fun s27 => ((db_pI s27 419 14 (s27.1 20 14)).bind fun s28 => ((db_cL s28 76 (0 : Int32) 475 (0 : Int32) (37 : Int32)).bind fun s29 => ((db_f83 s29 77 476).bind fun s31 => ((db_f83 s31 78 477).bind fun s33 => ((db_pI s33 419 18 (s33.1 20 18)).bind fun s34 => (some s34))))))))))))))))))))
set_option maxRecDepth 100000 in
theorem db_f82_419_20_ok {X : db_X} {d : Nat} {s : db_S} : db_Rf X (d + 2) dbm_82 0 (lv_args 0 [.ref 419, .ref 20]) [] s db_zV (db_f82_419_20 s ) := by
  show db_Rf _ _ _ 0 [(0, .ref 419), (1, .ref 20)] [] _ _ _
  unfold db_f82_419_20
  refine db_Rgo (pc' := 8) (lv' := [(0, .ref 419), (1, .ref 20)]) (st' := [.ref 420, .ref 21]) 4 rfl ?_
  refine db_RcV (mr' := dbm_83) (as := [.ref 21, .ref 420]) (rest := []) (pc' := 11) (lv1 := [(0, .ref 419), (1, .ref 20)]) rfl rfl rfl rfl rfl (db_f83_ok) fun s2 => ?_
  refine db_Rgo (pc' := 19) (lv' := [(0, .ref 419), (1, .ref 20)]) (st' := [.ref 421, .ref 22]) 4 rfl ?_
  refine db_RcV (mr' := dbm_83) (as := [.ref 22, .ref 421]) (rest := []) (pc' := 22) (lv1 := [(0, .ref 419), (1, .ref 20)]) rfl rfl rfl rfl rfl (db_f83_ok) fun s4 => ?_
  refine db_Rgo (pc' := 30) (lv' := [(0, .ref 419), (1, .ref 20)]) (st' := [.ref 422, .ref 23]) 4 rfl ?_
  refine db_RcV (mr' := dbm_83) (as := [.ref 23, .ref 422]) (rest := []) (pc' := 33) (lv1 := [(0, .ref 419), (1, .ref 20)]) rfl rfl rfl rfl rfl (db_f83_ok) fun s6 => ?_
  refine db_Rgo (pc' := 41) (lv' := [(0, .ref 419), (1, .ref 20)]) (st' := [.ref 423, .ref 24]) 4 rfl ?_
  refine db_RcV (mr' := dbm_84) (as := [.ref 24, .ref 423]) (rest := []) (pc' := 44) (lv1 := [(0, .ref 419), (1, .ref 20)]) rfl rfl rfl rfl rfl (db_f84_ok) fun s8 => ?_
  refine db_Rgo (pc' := 52) (lv' := [(0, .ref 419), (1, .ref 20)]) (st' := [.ref 436, .ref 37]) 4 rfl ?_
  refine db_RcV (mr' := dbm_84) (as := [.ref 37, .ref 436]) (rest := []) (pc' := 55) (lv1 := [(0, .ref 419), (1, .ref 20)]) rfl rfl rfl rfl rfl (db_f84_ok) fun s10 => ?_
  refine db_Rgo (pc' := 63) (lv' := [(0, .ref 419), (1, .ref 20)]) (st' := [.ref 449, .ref 50]) 4 rfl ?_
  refine db_RcV (mr' := dbm_84) (as := [.ref 50, .ref 449]) (rest := []) (pc' := 66) (lv1 := [(0, .ref 419), (1, .ref 20)]) rfl rfl rfl rfl rfl (db_f84_ok) fun s12 => ?_
  refine db_Rgo (pc' := 74) (lv' := [(0, .ref 419), (1, .ref 20)]) (st' := [.ref 458, .ref 59]) 4 rfl ?_
  refine db_RcV (mr' := dbm_83) (as := [.ref 59, .ref 458]) (rest := []) (pc' := 77) (lv1 := [(0, .ref 419), (1, .ref 20)]) rfl rfl rfl rfl rfl (db_f83_ok) fun s14 => ?_
  refine db_Rgo (pc' := 85) (lv' := [(0, .ref 419), (1, .ref 20)]) (st' := [.ref 459, .ref 60]) 4 rfl ?_
  refine db_RcV (mr' := dbm_83) (as := [.ref 60, .ref 459]) (rest := []) (pc' := 88) (lv1 := [(0, .ref 419), (1, .ref 20)]) rfl rfl rfl rfl rfl (db_f83_ok) fun s16 => ?_
  refine db_Rgo (pc' := 96) (lv' := [(0, .ref 419), (1, .ref 20)]) (st' := [.ref 460, .ref 61]) 4 rfl ?_
  refine db_RcV (mr' := dbm_83) (as := [.ref 61, .ref 460]) (rest := []) (pc' := 99) (lv1 := [(0, .ref 419), (1, .ref 20)]) rfl rfl rfl rfl rfl (db_f83_ok) fun s18 => ?_
  refine db_Rgo (pc' := 107) (lv' := [(0, .ref 419), (1, .ref 20)]) (st' := [.ref 461, .ref 62]) 4 rfl ?_
  refine db_RcV (mr' := dbm_83) (as := [.ref 62, .ref 461]) (rest := []) (pc' := 110) (lv1 := [(0, .ref 419), (1, .ref 20)]) rfl rfl rfl rfl rfl (db_f83_ok) fun s20 => ?_
  refine db_Rgo (pc' := 118) (lv' := [(0, .ref 419), (1, .ref 20)]) (st' := [.ref 462, .ref 63]) 4 rfl ?_
  refine db_RcV (mr' := dbm_83) (as := [.ref 63, .ref 462]) (rest := []) (pc' := 121) (lv1 := [(0, .ref 419), (1, .ref 20)]) rfl rfl rfl rfl rfl (db_f83_ok) fun s22 => ?_
  refine db_Rgo (pc' := 129) (lv' := [(0, .ref 419), (1, .ref 20)]) (st' := [.ref 463, .ref 64]) 4 rfl ?_
  refine db_RcV (mr' := dbm_84) (as := [.ref 64, .ref 463]) (rest := []) (pc' := 132) (lv1 := [(0, .ref 419), (1, .ref 20)]) rfl rfl rfl rfl rfl (db_f84_ok) fun s24 => ?_
  refine db_Rgo (pc' := 140) (lv' := [(0, .ref 419), (1, .ref 20)]) (st' := [.ref 474, .ref 75]) 4 rfl ?_
  refine db_RcV (mr' := dbm_83) (as := [.ref 75, .ref 474]) (rest := []) (pc' := 143) (lv1 := [(0, .ref 419), (1, .ref 20)]) rfl rfl rfl rfl rfl (db_f83_ok) fun s26 => ?_
  refine db_Rgo (pc' := 148) (lv' := [(0, .ref 419), (1, .ref 20)]) (st' := [.int (s26.1 20 13), .ref 419]) 3 rfl ?_
  refine db_RpuI (pc' := 151) (lv1 := [(0, .ref 419), (1, .ref 20)]) rfl rfl rfl rfl rfl rfl (by decide) rfl rfl fun s27 => ?_
  refine db_Rgo (pc' := 156) (lv' := [(0, .ref 419), (1, .ref 20)]) (st' := [.int (s27.1 20 14), .ref 419]) 3 rfl ?_
  refine db_RpuI (pc' := 159) (lv1 := [(0, .ref 419), (1, .ref 20)]) rfl rfl rfl rfl rfl rfl (by decide) rfl rfl fun s28 => ?_
  refine db_Rgo (pc' := 171) (lv' := [(0, .ref 419), (1, .ref 20)]) (st' := [.int (37 : Int32), .int (0 : Int32), .ref 475, .int (0 : Int32), .ref 76]) 7 rfl ?_
  refine db_RcpL (pc' := 174) (lv1 := [(0, .ref 419), (1, .ref 20)]) rfl rfl rfl rfl rfl fun s29 => ?_
  refine db_Rgo (pc' := 182) (lv' := [(0, .ref 419), (1, .ref 20)]) (st' := [.ref 476, .ref 77]) 4 rfl ?_
  refine db_RcV (mr' := dbm_83) (as := [.ref 77, .ref 476]) (rest := []) (pc' := 185) (lv1 := [(0, .ref 419), (1, .ref 20)]) rfl rfl rfl rfl rfl (db_f83_ok) fun s31 => ?_
  refine db_Rgo (pc' := 193) (lv' := [(0, .ref 419), (1, .ref 20)]) (st' := [.ref 477, .ref 78]) 4 rfl ?_
  refine db_RcV (mr' := dbm_83) (as := [.ref 78, .ref 477]) (rest := []) (pc' := 196) (lv1 := [(0, .ref 419), (1, .ref 20)]) rfl rfl rfl rfl rfl (db_f83_ok) fun s33 => ?_
  refine db_Rgo (pc' := 201) (lv' := [(0, .ref 419), (1, .ref 20)]) (st' := [.int (s33.1 20 18), .ref 419]) 3 rfl ?_
  refine db_RpuI (pc' := 204) (lv1 := [(0, .ref 419), (1, .ref 20)]) rfl rfl rfl rfl rfl rfl (by decide) rfl rfl fun s34 => ?_
  exact db_Rret (lv1 := [(0, .ref 419), (1, .ref 20)]) rfl rfl rfl rfl
/-- DreamBook$Told.copyFrom(LDreamBook$Told;)V -/
noncomputable def db_f82_544_20 (s : db_S) : Option db_S :=
  ((db_f83 s 21 545).bind fun s2 => ((db_f83 s2 22 546).bind fun s4 => ((db_f83 s4 23 547).bind fun s6 => ((db_f84 s6 24 548).bind fun s8 => ((db_f84 s8 37 561).bind fun s10 => ((db_f84 s10 50 574).bind fun s12 => ((db_f83 s12 59 583).bind fun s14 => ((db_f83 s14 60 584).bind fun s16 => ((db_f83 s16 61 585).bind fun s18 => ((db_f83 s18 62 586).bind fun s20 => ((db_f83 s20 63 587).bind fun s22 => ((db_f84 s22 64 588).bind fun s24 => ((db_f83 s24 75 599).bind fun s26 => ((db_pI s26 544 13 (s26.1 20 13)).bind fun s27 => ((db_pI s27 544 14 (s27.1 20 14)).bind fun s28 => ((db_cL s28 76 (0 : Int32) 600 (0 : Int32) (37 : Int32)).bind fun s29 => ((db_f83 s29 77 601).bind fun s31 => ((db_f83 s31 78 602).bind fun s33 => ((db_pI s33 544 18 (s33.1 20 18)).bind fun s34 => (some s34))))))))))))))))))))
set_option maxRecDepth 100000 in
theorem db_f82_544_20_ok {X : db_X} {d : Nat} {s : db_S} : db_Rf X (d + 2) dbm_82 0 (lv_args 0 [.ref 544, .ref 20]) [] s db_zV (db_f82_544_20 s ) := by
  show db_Rf _ _ _ 0 [(0, .ref 544), (1, .ref 20)] [] _ _ _
  unfold db_f82_544_20
  refine db_Rgo (pc' := 8) (lv' := [(0, .ref 544), (1, .ref 20)]) (st' := [.ref 545, .ref 21]) 4 rfl ?_
  refine db_RcV (mr' := dbm_83) (as := [.ref 21, .ref 545]) (rest := []) (pc' := 11) (lv1 := [(0, .ref 544), (1, .ref 20)]) rfl rfl rfl rfl rfl (db_f83_ok) fun s2 => ?_
  refine db_Rgo (pc' := 19) (lv' := [(0, .ref 544), (1, .ref 20)]) (st' := [.ref 546, .ref 22]) 4 rfl ?_
  refine db_RcV (mr' := dbm_83) (as := [.ref 22, .ref 546]) (rest := []) (pc' := 22) (lv1 := [(0, .ref 544), (1, .ref 20)]) rfl rfl rfl rfl rfl (db_f83_ok) fun s4 => ?_
  refine db_Rgo (pc' := 30) (lv' := [(0, .ref 544), (1, .ref 20)]) (st' := [.ref 547, .ref 23]) 4 rfl ?_
  refine db_RcV (mr' := dbm_83) (as := [.ref 23, .ref 547]) (rest := []) (pc' := 33) (lv1 := [(0, .ref 544), (1, .ref 20)]) rfl rfl rfl rfl rfl (db_f83_ok) fun s6 => ?_
  refine db_Rgo (pc' := 41) (lv' := [(0, .ref 544), (1, .ref 20)]) (st' := [.ref 548, .ref 24]) 4 rfl ?_
  refine db_RcV (mr' := dbm_84) (as := [.ref 24, .ref 548]) (rest := []) (pc' := 44) (lv1 := [(0, .ref 544), (1, .ref 20)]) rfl rfl rfl rfl rfl (db_f84_ok) fun s8 => ?_
  refine db_Rgo (pc' := 52) (lv' := [(0, .ref 544), (1, .ref 20)]) (st' := [.ref 561, .ref 37]) 4 rfl ?_
  refine db_RcV (mr' := dbm_84) (as := [.ref 37, .ref 561]) (rest := []) (pc' := 55) (lv1 := [(0, .ref 544), (1, .ref 20)]) rfl rfl rfl rfl rfl (db_f84_ok) fun s10 => ?_
  refine db_Rgo (pc' := 63) (lv' := [(0, .ref 544), (1, .ref 20)]) (st' := [.ref 574, .ref 50]) 4 rfl ?_
  refine db_RcV (mr' := dbm_84) (as := [.ref 50, .ref 574]) (rest := []) (pc' := 66) (lv1 := [(0, .ref 544), (1, .ref 20)]) rfl rfl rfl rfl rfl (db_f84_ok) fun s12 => ?_
  refine db_Rgo (pc' := 74) (lv' := [(0, .ref 544), (1, .ref 20)]) (st' := [.ref 583, .ref 59]) 4 rfl ?_
  refine db_RcV (mr' := dbm_83) (as := [.ref 59, .ref 583]) (rest := []) (pc' := 77) (lv1 := [(0, .ref 544), (1, .ref 20)]) rfl rfl rfl rfl rfl (db_f83_ok) fun s14 => ?_
  refine db_Rgo (pc' := 85) (lv' := [(0, .ref 544), (1, .ref 20)]) (st' := [.ref 584, .ref 60]) 4 rfl ?_
  refine db_RcV (mr' := dbm_83) (as := [.ref 60, .ref 584]) (rest := []) (pc' := 88) (lv1 := [(0, .ref 544), (1, .ref 20)]) rfl rfl rfl rfl rfl (db_f83_ok) fun s16 => ?_
  refine db_Rgo (pc' := 96) (lv' := [(0, .ref 544), (1, .ref 20)]) (st' := [.ref 585, .ref 61]) 4 rfl ?_
  refine db_RcV (mr' := dbm_83) (as := [.ref 61, .ref 585]) (rest := []) (pc' := 99) (lv1 := [(0, .ref 544), (1, .ref 20)]) rfl rfl rfl rfl rfl (db_f83_ok) fun s18 => ?_
  refine db_Rgo (pc' := 107) (lv' := [(0, .ref 544), (1, .ref 20)]) (st' := [.ref 586, .ref 62]) 4 rfl ?_
  refine db_RcV (mr' := dbm_83) (as := [.ref 62, .ref 586]) (rest := []) (pc' := 110) (lv1 := [(0, .ref 544), (1, .ref 20)]) rfl rfl rfl rfl rfl (db_f83_ok) fun s20 => ?_
  refine db_Rgo (pc' := 118) (lv' := [(0, .ref 544), (1, .ref 20)]) (st' := [.ref 587, .ref 63]) 4 rfl ?_
  refine db_RcV (mr' := dbm_83) (as := [.ref 63, .ref 587]) (rest := []) (pc' := 121) (lv1 := [(0, .ref 544), (1, .ref 20)]) rfl rfl rfl rfl rfl (db_f83_ok) fun s22 => ?_
  refine db_Rgo (pc' := 129) (lv' := [(0, .ref 544), (1, .ref 20)]) (st' := [.ref 588, .ref 64]) 4 rfl ?_
  refine db_RcV (mr' := dbm_84) (as := [.ref 64, .ref 588]) (rest := []) (pc' := 132) (lv1 := [(0, .ref 544), (1, .ref 20)]) rfl rfl rfl rfl rfl (db_f84_ok) fun s24 => ?_
  refine db_Rgo (pc' := 140) (lv' := [(0, .ref 544), (1, .ref 20)]) (st' := [.ref 599, .ref 75]) 4 rfl ?_
  refine db_RcV (mr' := dbm_83) (as := [.ref 75, .ref 599]) (rest := []) (pc' := 143) (lv1 := [(0, .ref 544), (1, .ref 20)]) rfl rfl rfl rfl rfl (db_f83_ok) fun s26 => ?_
  refine db_Rgo (pc' := 148) (lv' := [(0, .ref 544), (1, .ref 20)]) (st' := [.int (s26.1 20 13), .ref 544]) 3 rfl ?_
  refine db_RpuI (pc' := 151) (lv1 := [(0, .ref 544), (1, .ref 20)]) rfl rfl rfl rfl rfl rfl (by decide) rfl rfl fun s27 => ?_
  refine db_Rgo (pc' := 156) (lv' := [(0, .ref 544), (1, .ref 20)]) (st' := [.int (s27.1 20 14), .ref 544]) 3 rfl ?_
  refine db_RpuI (pc' := 159) (lv1 := [(0, .ref 544), (1, .ref 20)]) rfl rfl rfl rfl rfl rfl (by decide) rfl rfl fun s28 => ?_
  refine db_Rgo (pc' := 171) (lv' := [(0, .ref 544), (1, .ref 20)]) (st' := [.int (37 : Int32), .int (0 : Int32), .ref 600, .int (0 : Int32), .ref 76]) 7 rfl ?_
  refine db_RcpL (pc' := 174) (lv1 := [(0, .ref 544), (1, .ref 20)]) rfl rfl rfl rfl rfl fun s29 => ?_
  refine db_Rgo (pc' := 182) (lv' := [(0, .ref 544), (1, .ref 20)]) (st' := [.ref 601, .ref 77]) 4 rfl ?_
  refine db_RcV (mr' := dbm_83) (as := [.ref 77, .ref 601]) (rest := []) (pc' := 185) (lv1 := [(0, .ref 544), (1, .ref 20)]) rfl rfl rfl rfl rfl (db_f83_ok) fun s31 => ?_
  refine db_Rgo (pc' := 193) (lv' := [(0, .ref 544), (1, .ref 20)]) (st' := [.ref 602, .ref 78]) 4 rfl ?_
  refine db_RcV (mr' := dbm_83) (as := [.ref 78, .ref 602]) (rest := []) (pc' := 196) (lv1 := [(0, .ref 544), (1, .ref 20)]) rfl rfl rfl rfl rfl (db_f83_ok) fun s33 => ?_
  refine db_Rgo (pc' := 201) (lv' := [(0, .ref 544), (1, .ref 20)]) (st' := [.int (s33.1 20 18), .ref 544]) 3 rfl ?_
  refine db_RpuI (pc' := 204) (lv1 := [(0, .ref 544), (1, .ref 20)]) rfl rfl rfl rfl rfl rfl (by decide) rfl rfl fun s34 => ?_
  exact db_Rret (lv1 := [(0, .ref 544), (1, .ref 20)]) rfl rfl rfl rfl
/-- DreamBook$Life.copyFrom(LDreamBook$Life;)V -/
noncomputable def db_f175_354_80 (s : db_S) : Option db_S :=
  ((db_f83 s 81 355).bind fun s2 => ((db_f83 s2 82 356).bind fun s4 => ((db_pI s4 354 2 (s4.1 80 2)).bind fun s5 => ((db_pI s5 354 3 (s5.1 80 3)).bind fun s6 => (some s6)))))
set_option maxRecDepth 100000 in
theorem db_f175_354_80_ok {X : db_X} {d : Nat} {s : db_S} : db_Rf X (d + 1) dbm_175 0 (lv_args 0 [.ref 354, .ref 80]) [] s db_zV (db_f175_354_80 s ) := by
  show db_Rf _ _ _ 0 [(0, .ref 354), (1, .ref 80)] [] _ _ _
  unfold db_f175_354_80
  refine db_Rgo (pc' := 8) (lv' := [(0, .ref 354), (1, .ref 80)]) (st' := [.ref 355, .ref 81]) 4 rfl ?_
  refine db_RcV (mr' := dbm_83) (as := [.ref 81, .ref 355]) (rest := []) (pc' := 11) (lv1 := [(0, .ref 354), (1, .ref 80)]) rfl rfl rfl rfl rfl (db_f83_ok) fun s2 => ?_
  refine db_Rgo (pc' := 19) (lv' := [(0, .ref 354), (1, .ref 80)]) (st' := [.ref 356, .ref 82]) 4 rfl ?_
  refine db_RcV (mr' := dbm_83) (as := [.ref 82, .ref 356]) (rest := []) (pc' := 22) (lv1 := [(0, .ref 354), (1, .ref 80)]) rfl rfl rfl rfl rfl (db_f83_ok) fun s4 => ?_
  refine db_Rgo (pc' := 27) (lv' := [(0, .ref 354), (1, .ref 80)]) (st' := [.int (s4.1 80 2), .ref 354]) 3 rfl ?_
  refine db_RpuI (pc' := 30) (lv1 := [(0, .ref 354), (1, .ref 80)]) rfl rfl rfl rfl rfl rfl (by decide) rfl rfl fun s5 => ?_
  refine db_Rgo (pc' := 35) (lv' := [(0, .ref 354), (1, .ref 80)]) (st' := [.int (s5.1 80 3), .ref 354]) 3 rfl ?_
  refine db_RpuI (pc' := 38) (lv1 := [(0, .ref 354), (1, .ref 80)]) rfl rfl rfl rfl rfl rfl (by decide) rfl rfl fun s6 => ?_
  exact db_Rret (lv1 := [(0, .ref 354), (1, .ref 80)]) rfl rfl rfl rfl
/-- DreamBook$Life.copyFrom(LDreamBook$Life;)V -/
noncomputable def db_f175_479_80 (s : db_S) : Option db_S :=
  ((db_f83 s 81 480).bind fun s2 => ((db_f83 s2 82 481).bind fun s4 => ((db_pI s4 479 2 (s4.1 80 2)).bind fun s5 => ((db_pI s5 479 3 (s5.1 80 3)).bind fun s6 => (some s6)))))
set_option maxRecDepth 100000 in
theorem db_f175_479_80_ok {X : db_X} {d : Nat} {s : db_S} : db_Rf X (d + 1) dbm_175 0 (lv_args 0 [.ref 479, .ref 80]) [] s db_zV (db_f175_479_80 s ) := by
  show db_Rf _ _ _ 0 [(0, .ref 479), (1, .ref 80)] [] _ _ _
  unfold db_f175_479_80
  refine db_Rgo (pc' := 8) (lv' := [(0, .ref 479), (1, .ref 80)]) (st' := [.ref 480, .ref 81]) 4 rfl ?_
  refine db_RcV (mr' := dbm_83) (as := [.ref 81, .ref 480]) (rest := []) (pc' := 11) (lv1 := [(0, .ref 479), (1, .ref 80)]) rfl rfl rfl rfl rfl (db_f83_ok) fun s2 => ?_
  refine db_Rgo (pc' := 19) (lv' := [(0, .ref 479), (1, .ref 80)]) (st' := [.ref 481, .ref 82]) 4 rfl ?_
  refine db_RcV (mr' := dbm_83) (as := [.ref 82, .ref 481]) (rest := []) (pc' := 22) (lv1 := [(0, .ref 479), (1, .ref 80)]) rfl rfl rfl rfl rfl (db_f83_ok) fun s4 => ?_
  refine db_Rgo (pc' := 27) (lv' := [(0, .ref 479), (1, .ref 80)]) (st' := [.int (s4.1 80 2), .ref 479]) 3 rfl ?_
  refine db_RpuI (pc' := 30) (lv1 := [(0, .ref 479), (1, .ref 80)]) rfl rfl rfl rfl rfl rfl (by decide) rfl rfl fun s5 => ?_
  refine db_Rgo (pc' := 35) (lv' := [(0, .ref 479), (1, .ref 80)]) (st' := [.int (s5.1 80 3), .ref 479]) 3 rfl ?_
  refine db_RpuI (pc' := 38) (lv1 := [(0, .ref 479), (1, .ref 80)]) rfl rfl rfl rfl rfl rfl (by decide) rfl rfl fun s6 => ?_
  exact db_Rret (lv1 := [(0, .ref 479), (1, .ref 80)]) rfl rfl rfl rfl
/-- DreamBook$Life.copyFrom(LDreamBook$Life;)V -/
noncomputable def db_f175_604_80 (s : db_S) : Option db_S :=
  ((db_f83 s 81 605).bind fun s2 => ((db_f83 s2 82 606).bind fun s4 => ((db_pI s4 604 2 (s4.1 80 2)).bind fun s5 => ((db_pI s5 604 3 (s5.1 80 3)).bind fun s6 => (some s6)))))
set_option maxRecDepth 100000 in
theorem db_f175_604_80_ok {X : db_X} {d : Nat} {s : db_S} : db_Rf X (d + 1) dbm_175 0 (lv_args 0 [.ref 604, .ref 80]) [] s db_zV (db_f175_604_80 s ) := by
  show db_Rf _ _ _ 0 [(0, .ref 604), (1, .ref 80)] [] _ _ _
  unfold db_f175_604_80
  refine db_Rgo (pc' := 8) (lv' := [(0, .ref 604), (1, .ref 80)]) (st' := [.ref 605, .ref 81]) 4 rfl ?_
  refine db_RcV (mr' := dbm_83) (as := [.ref 81, .ref 605]) (rest := []) (pc' := 11) (lv1 := [(0, .ref 604), (1, .ref 80)]) rfl rfl rfl rfl rfl (db_f83_ok) fun s2 => ?_
  refine db_Rgo (pc' := 19) (lv' := [(0, .ref 604), (1, .ref 80)]) (st' := [.ref 606, .ref 82]) 4 rfl ?_
  refine db_RcV (mr' := dbm_83) (as := [.ref 82, .ref 606]) (rest := []) (pc' := 22) (lv1 := [(0, .ref 604), (1, .ref 80)]) rfl rfl rfl rfl rfl (db_f83_ok) fun s4 => ?_
  refine db_Rgo (pc' := 27) (lv' := [(0, .ref 604), (1, .ref 80)]) (st' := [.int (s4.1 80 2), .ref 604]) 3 rfl ?_
  refine db_RpuI (pc' := 30) (lv1 := [(0, .ref 604), (1, .ref 80)]) rfl rfl rfl rfl rfl rfl (by decide) rfl rfl fun s5 => ?_
  refine db_Rgo (pc' := 35) (lv' := [(0, .ref 604), (1, .ref 80)]) (st' := [.int (s5.1 80 3), .ref 604]) 3 rfl ?_
  refine db_RpuI (pc' := 38) (lv1 := [(0, .ref 604), (1, .ref 80)]) rfl rfl rfl rfl rfl rfl (by decide) rfl rfl fun s6 => ?_
  exact db_Rret (lv1 := [(0, .ref 604), (1, .ref 80)]) rfl rfl rfl rfl
/-- DreamBook$Plan.copyFrom(LDreamBook$Plan;)V -/
noncomputable def db_f97_357_83 (s : db_S) : Option db_S :=
  (cond (db_b01 (s.1 83 0)) ((db_pI s 357 0 (s.1 83 0)).bind fun s1 => ((db_pI s1 357 1 (s1.1 83 1)).bind fun s2 => ((db_pI s2 357 2 (s2.1 83 2)).bind fun s3 => ((db_f84 s3 84 358).bind fun s5 => (some s5))))) none)
set_option maxRecDepth 100000 in
theorem db_f97_357_83_ok {X : db_X} {d : Nat} {s : db_S} : db_Rf X (d + 2) dbm_97 0 (lv_args 0 [.ref 357, .ref 83]) [] s db_zV (db_f97_357_83 s ) := by
  show db_Rf _ _ _ 0 [(0, .ref 357), (1, .ref 83)] [] _ _ _
  unfold db_f97_357_83
  refine db_Rgo (pc' := 5) (lv' := [(0, .ref 357), (1, .ref 83)]) (st' := [.int (s.1 83 0), .ref 357]) 3 rfl ?_
  refine db_Rb01 fun hb => ?_
  refine db_RpuI (pc' := 8) (lv1 := [(0, .ref 357), (1, .ref 83)]) rfl rfl rfl rfl rfl rfl (by decide) rfl (show (db_b01 (s.1 83 0) && true) = true by rw [hb]; rfl) fun s1 => ?_
  refine db_Rgo (pc' := 13) (lv' := [(0, .ref 357), (1, .ref 83)]) (st' := [.int (s1.1 83 1), .ref 357]) 3 rfl ?_
  refine db_RpuI (pc' := 16) (lv1 := [(0, .ref 357), (1, .ref 83)]) rfl rfl rfl rfl rfl rfl (by decide) rfl rfl fun s2 => ?_
  refine db_Rgo (pc' := 21) (lv' := [(0, .ref 357), (1, .ref 83)]) (st' := [.int (s2.1 83 2), .ref 357]) 3 rfl ?_
  refine db_RpuI (pc' := 24) (lv1 := [(0, .ref 357), (1, .ref 83)]) rfl rfl rfl rfl rfl rfl (by decide) rfl rfl fun s3 => ?_
  refine db_Rgo (pc' := 32) (lv' := [(0, .ref 357), (1, .ref 83)]) (st' := [.ref 358, .ref 84]) 4 rfl ?_
  refine db_RcV (mr' := dbm_84) (as := [.ref 84, .ref 358]) (rest := []) (pc' := 35) (lv1 := [(0, .ref 357), (1, .ref 83)]) rfl rfl rfl rfl rfl (db_f84_ok) fun s5 => ?_
  exact db_Rret (lv1 := [(0, .ref 357), (1, .ref 83)]) rfl rfl rfl rfl
/-- DreamBook$Plan.copyFrom(LDreamBook$Plan;)V -/
noncomputable def db_f97_482_83 (s : db_S) : Option db_S :=
  (cond (db_b01 (s.1 83 0)) ((db_pI s 482 0 (s.1 83 0)).bind fun s1 => ((db_pI s1 482 1 (s1.1 83 1)).bind fun s2 => ((db_pI s2 482 2 (s2.1 83 2)).bind fun s3 => ((db_f84 s3 84 483).bind fun s5 => (some s5))))) none)
set_option maxRecDepth 100000 in
theorem db_f97_482_83_ok {X : db_X} {d : Nat} {s : db_S} : db_Rf X (d + 2) dbm_97 0 (lv_args 0 [.ref 482, .ref 83]) [] s db_zV (db_f97_482_83 s ) := by
  show db_Rf _ _ _ 0 [(0, .ref 482), (1, .ref 83)] [] _ _ _
  unfold db_f97_482_83
  refine db_Rgo (pc' := 5) (lv' := [(0, .ref 482), (1, .ref 83)]) (st' := [.int (s.1 83 0), .ref 482]) 3 rfl ?_
  refine db_Rb01 fun hb => ?_
  refine db_RpuI (pc' := 8) (lv1 := [(0, .ref 482), (1, .ref 83)]) rfl rfl rfl rfl rfl rfl (by decide) rfl (show (db_b01 (s.1 83 0) && true) = true by rw [hb]; rfl) fun s1 => ?_
  refine db_Rgo (pc' := 13) (lv' := [(0, .ref 482), (1, .ref 83)]) (st' := [.int (s1.1 83 1), .ref 482]) 3 rfl ?_
  refine db_RpuI (pc' := 16) (lv1 := [(0, .ref 482), (1, .ref 83)]) rfl rfl rfl rfl rfl rfl (by decide) rfl rfl fun s2 => ?_
  refine db_Rgo (pc' := 21) (lv' := [(0, .ref 482), (1, .ref 83)]) (st' := [.int (s2.1 83 2), .ref 482]) 3 rfl ?_
  refine db_RpuI (pc' := 24) (lv1 := [(0, .ref 482), (1, .ref 83)]) rfl rfl rfl rfl rfl rfl (by decide) rfl rfl fun s3 => ?_
  refine db_Rgo (pc' := 32) (lv' := [(0, .ref 482), (1, .ref 83)]) (st' := [.ref 483, .ref 84]) 4 rfl ?_
  refine db_RcV (mr' := dbm_84) (as := [.ref 84, .ref 483]) (rest := []) (pc' := 35) (lv1 := [(0, .ref 482), (1, .ref 83)]) rfl rfl rfl rfl rfl (db_f84_ok) fun s5 => ?_
  exact db_Rret (lv1 := [(0, .ref 482), (1, .ref 83)]) rfl rfl rfl rfl
/-- DreamBook$Plan.copyFrom(LDreamBook$Plan;)V -/
noncomputable def db_f97_607_83 (s : db_S) : Option db_S :=
  (cond (db_b01 (s.1 83 0)) ((db_pI s 607 0 (s.1 83 0)).bind fun s1 => ((db_pI s1 607 1 (s1.1 83 1)).bind fun s2 => ((db_pI s2 607 2 (s2.1 83 2)).bind fun s3 => ((db_f84 s3 84 608).bind fun s5 => (some s5))))) none)
set_option maxRecDepth 100000 in
theorem db_f97_607_83_ok {X : db_X} {d : Nat} {s : db_S} : db_Rf X (d + 2) dbm_97 0 (lv_args 0 [.ref 607, .ref 83]) [] s db_zV (db_f97_607_83 s ) := by
  show db_Rf _ _ _ 0 [(0, .ref 607), (1, .ref 83)] [] _ _ _
  unfold db_f97_607_83
  refine db_Rgo (pc' := 5) (lv' := [(0, .ref 607), (1, .ref 83)]) (st' := [.int (s.1 83 0), .ref 607]) 3 rfl ?_
  refine db_Rb01 fun hb => ?_
  refine db_RpuI (pc' := 8) (lv1 := [(0, .ref 607), (1, .ref 83)]) rfl rfl rfl rfl rfl rfl (by decide) rfl (show (db_b01 (s.1 83 0) && true) = true by rw [hb]; rfl) fun s1 => ?_
  refine db_Rgo (pc' := 13) (lv' := [(0, .ref 607), (1, .ref 83)]) (st' := [.int (s1.1 83 1), .ref 607]) 3 rfl ?_
  refine db_RpuI (pc' := 16) (lv1 := [(0, .ref 607), (1, .ref 83)]) rfl rfl rfl rfl rfl rfl (by decide) rfl rfl fun s2 => ?_
  refine db_Rgo (pc' := 21) (lv' := [(0, .ref 607), (1, .ref 83)]) (st' := [.int (s2.1 83 2), .ref 607]) 3 rfl ?_
  refine db_RpuI (pc' := 24) (lv1 := [(0, .ref 607), (1, .ref 83)]) rfl rfl rfl rfl rfl rfl (by decide) rfl rfl fun s3 => ?_
  refine db_Rgo (pc' := 32) (lv' := [(0, .ref 607), (1, .ref 83)]) (st' := [.ref 608, .ref 84]) 4 rfl ?_
  refine db_RcV (mr' := dbm_84) (as := [.ref 84, .ref 608]) (rest := []) (pc' := 35) (lv1 := [(0, .ref 607), (1, .ref 83)]) rfl rfl rfl rfl rfl (db_f84_ok) fun s5 => ?_
  exact db_Rret (lv1 := [(0, .ref 607), (1, .ref 83)]) rfl rfl rfl rfl
noncomputable def db_f204_b63 (s : db_S) : Option (Int32 × db_S) :=
  ((db_pI s 4 15 ((s.1 4 15) + (1 : Int32))).bind fun s1 => (db_bd (db_f87 s1 (s1.1 4 15)) fun q2 s3 => (some (q2, s3))))
set_option maxRecDepth 100000 in
theorem db_f204_b63_ok {X : db_X} {d : Nat}  {s : db_S} : db_Rf X (d + 3) dbm_204 63 [(0, .ref 4)] [] s db_zI (db_f204_b63 s ) := by
  unfold db_f204_b63
  refine db_Rgo (pc' := 70) (lv' := [(0, .ref 4)]) (st' := [.int ((s.1 4 15) + (1 : Int32)), .ref 4]) 5 rfl ?_
  refine db_RpuI (pc' := 73) (lv1 := [(0, .ref 4)]) rfl rfl rfl rfl rfl rfl (by decide) rfl rfl fun s1 => ?_
  refine db_Rgo (pc' := 78) (lv' := [(0, .ref 4)]) (st' := [.int (s1.1 4 15), .ref 4]) 3 rfl ?_
  refine db_RcdI (mr' := dbm_87) (as := [.ref 4, .int (s1.1 4 15)]) (rest := []) (pc' := 81) (lv1 := [(0, .ref 4)]) rfl rfl rfl rfl rfl (db_f87_ok) fun q2 s3 => ?_
  exact db_Rret (lv1 := [(0, .ref 4)]) rfl rfl rfl rfl
noncomputable def db_f204_b47 (s : db_S) : Option (Int32 × db_S) :=
  (if (s.1 4 15) = 0 then ((db_f97_357_83 s).bind fun s2 => (db_f204_b63 s2 )) else if (s.1 4 15) = 1 then ((db_f97_482_83 s).bind fun s4 => (db_f204_b63 s4 )) else if (s.1 4 15) = 2 then ((db_f97_607_83 s).bind fun s6 => (db_f204_b63 s6 )) else none)
set_option maxRecDepth 100000 in
theorem db_f204_b47_ok {X : db_X} {d : Nat}  {s : db_S} : db_Rf X (d + 3) dbm_204 47 [(0, .ref 4)] [] s db_zI (db_f204_b47 s ) := by
  unfold db_f204_b47
  refine db_Rgo (pc' := 55) (lv' := [(0, .ref 4)]) (st' := [.int (s.1 4 15), .ref 293]) 4 rfl ?_
  refine db_RldO (t3 := none) (c0 := 0) (k := 357) (m := 482) (n := 607) (pc' := 56) (lv1 := [(0, .ref 4)]) rfl rfl rfl rfl rfl rfl ?_ ?_ ?_
  · refine db_Rgo (pc' := 60) (lv' := [(0, .ref 4)]) (st' := [.ref 83, .ref 357]) 2 rfl ?_
    refine db_RcV (mr' := dbm_97) (as := [.ref 357, .ref 83]) (rest := []) (pc' := 63) (lv1 := [(0, .ref 4)]) rfl rfl rfl rfl rfl (db_f97_357_83_ok) fun s2 => ?_
    exact db_f204_b63_ok
  · refine db_Rgo (pc' := 60) (lv' := [(0, .ref 4)]) (st' := [.ref 83, .ref 482]) 2 rfl ?_
    refine db_RcV (mr' := dbm_97) (as := [.ref 482, .ref 83]) (rest := []) (pc' := 63) (lv1 := [(0, .ref 4)]) rfl rfl rfl rfl rfl (db_f97_482_83_ok) fun s4 => ?_
    exact db_f204_b63_ok
  · refine db_Rgo (pc' := 60) (lv' := [(0, .ref 4)]) (st' := [.ref 83, .ref 607]) 2 rfl ?_
    refine db_RcV (mr' := dbm_97) (as := [.ref 607, .ref 83]) (rest := []) (pc' := 63) (lv1 := [(0, .ref 4)]) rfl rfl rfl rfl rfl (db_f97_607_83_ok) fun s6 => ?_
    exact db_f204_b63_ok
noncomputable def db_f204_b31 (s : db_S) : Option (Int32 × db_S) :=
  (if (s.1 4 15) = 0 then ((db_f175_354_80 s).bind fun s2 => (db_f204_b47 s2 )) else if (s.1 4 15) = 1 then ((db_f175_479_80 s).bind fun s4 => (db_f204_b47 s4 )) else if (s.1 4 15) = 2 then ((db_f175_604_80 s).bind fun s6 => (db_f204_b47 s6 )) else none)
set_option maxRecDepth 100000 in
theorem db_f204_b31_ok {X : db_X} {d : Nat}  {s : db_S} : db_Rf X (d + 3) dbm_204 31 [(0, .ref 4)] [] s db_zI (db_f204_b31 s ) := by
  unfold db_f204_b31
  refine db_Rgo (pc' := 39) (lv' := [(0, .ref 4)]) (st' := [.int (s.1 4 15), .ref 292]) 4 rfl ?_
  refine db_RldO (t3 := none) (c0 := 0) (k := 354) (m := 479) (n := 604) (pc' := 40) (lv1 := [(0, .ref 4)]) rfl rfl rfl rfl rfl rfl ?_ ?_ ?_
  · refine db_Rgo (pc' := 44) (lv' := [(0, .ref 4)]) (st' := [.ref 80, .ref 354]) 2 rfl ?_
    refine db_RcV (mr' := dbm_175) (as := [.ref 354, .ref 80]) (rest := []) (pc' := 47) (lv1 := [(0, .ref 4)]) rfl rfl rfl rfl rfl (db_f175_354_80_ok) fun s2 => ?_
    exact db_f204_b47_ok
  · refine db_Rgo (pc' := 44) (lv' := [(0, .ref 4)]) (st' := [.ref 80, .ref 479]) 2 rfl ?_
    refine db_RcV (mr' := dbm_175) (as := [.ref 479, .ref 80]) (rest := []) (pc' := 47) (lv1 := [(0, .ref 4)]) rfl rfl rfl rfl rfl (db_f175_479_80_ok) fun s4 => ?_
    exact db_f204_b47_ok
  · refine db_Rgo (pc' := 44) (lv' := [(0, .ref 4)]) (st' := [.ref 80, .ref 604]) 2 rfl ?_
    refine db_RcV (mr' := dbm_175) (as := [.ref 604, .ref 80]) (rest := []) (pc' := 47) (lv1 := [(0, .ref 4)]) rfl rfl rfl rfl rfl (db_f175_604_80_ok) fun s6 => ?_
    exact db_f204_b47_ok
/-- DreamBook.mark()I -/
noncomputable def db_f204 (s : db_S) : Option (Int32 × db_S) :=
  (cond (db_cnd .lt (s.1 4 15) (3 : Int32)) (if (s.1 4 15) = 0 then ((db_f82_294_20 s).bind fun s2 => (db_f204_b31 s2 )) else if (s.1 4 15) = 1 then ((db_f82_419_20 s).bind fun s4 => (db_f204_b31 s4 )) else if (s.1 4 15) = 2 then ((db_f82_544_20 s).bind fun s6 => (db_f204_b31 s6 )) else none) (db_bd (db_f37 s (7 : Int32)) fun q7 s8 => (some (q7, s8))))
set_option maxRecDepth 100000 in
theorem db_f204_ok {X : db_X} {d : Nat} {s : db_S} : db_Rf X (d + 3) dbm_204 0 (lv_args 0 [.ref 4]) [] s db_zI (db_f204 s ) := by
  show db_Rf _ _ _ 0 [(0, .ref 4)] [] _ _ _
  unfold db_f204
  refine db_Rgo (pc' := 5) (lv' := [(0, .ref 4)]) (st' := [.int (3 : Int32), .int (s.1 4 15)]) 3 rfl ?_
  refine db_Ric (pc' := 8) (tg := 15) (lv1 := [(0, .ref 4)]) rfl rfl rfl rfl ?_ ?_
  · refine db_Rgo (pc' := 23) (lv' := [(0, .ref 4)]) (st' := [.int (s.1 4 15), .ref 291]) 4 rfl ?_
    refine db_RldO (t3 := none) (c0 := 0) (k := 294) (m := 419) (n := 544) (pc' := 24) (lv1 := [(0, .ref 4)]) rfl rfl rfl rfl rfl rfl ?_ ?_ ?_
    · refine db_Rgo (pc' := 28) (lv' := [(0, .ref 4)]) (st' := [.ref 20, .ref 294]) 2 rfl ?_
      refine db_RcV (mr' := dbm_82) (as := [.ref 294, .ref 20]) (rest := []) (pc' := 31) (lv1 := [(0, .ref 4)]) rfl rfl rfl rfl rfl (db_f82_294_20_ok) fun s2 => ?_
      exact db_f204_b31_ok
    · refine db_Rgo (pc' := 28) (lv' := [(0, .ref 4)]) (st' := [.ref 20, .ref 419]) 2 rfl ?_
      refine db_RcV (mr' := dbm_82) (as := [.ref 419, .ref 20]) (rest := []) (pc' := 31) (lv1 := [(0, .ref 4)]) rfl rfl rfl rfl rfl (db_f82_419_20_ok) fun s4 => ?_
      exact db_f204_b31_ok
    · refine db_Rgo (pc' := 28) (lv' := [(0, .ref 4)]) (st' := [.ref 20, .ref 544]) 2 rfl ?_
      refine db_RcV (mr' := dbm_82) (as := [.ref 544, .ref 20]) (rest := []) (pc' := 31) (lv1 := [(0, .ref 4)]) rfl rfl rfl rfl rfl (db_f82_544_20_ok) fun s6 => ?_
      exact db_f204_b31_ok
  refine db_Rgo (pc' := 11) (lv' := [(0, .ref 4)]) (st' := [.int (7 : Int32), .ref 4]) 2 rfl ?_
  refine db_RcdI (mr' := dbm_37) (as := [.ref 4, .int (7 : Int32)]) (rest := []) (pc' := 14) (lv1 := [(0, .ref 4)]) rfl rfl rfl rfl rfl (db_f37_ok) fun q7 s8 => ?_
  exact db_Rret (lv1 := [(0, .ref 4)]) rfl rfl rfl rfl
/-- DreamBookModel.mark()I -/
noncomputable def db_f376 (s : db_S) : Option (Int32 × db_S) :=
  ((db_pI s 669 1 (0 : Int32)).bind fun s1 => ((db_pI s1 669 0 (0 : Int32)).bind fun s2 => (cond (db_cnd .ne (s2.1 669 23) (3 : Int32)) ((db_pI s2 669 23 ((s2.1 669 23) + (1 : Int32))).bind fun s3 => ((db_f275 s3 (0 : Int32) (s3.1 669 23)).bind fun s5 => (some ((s5.1 669 23), s5)))) (db_bd (db_f281 s2 (7 : Int32)) fun q6 s7 => (some (q6, s7))))))
set_option maxRecDepth 100000 in
theorem db_f376_ok {X : db_X} {d : Nat} {s : db_S} : db_Rf X (d + 1) dbm_376 0 (lv_args 0 [.ref 669]) [] s db_zI (db_f376 s ) := by
  show db_Rf _ _ _ 0 [(0, .ref 669)] [] _ _ _
  unfold db_f376
  refine db_Rgo (pc' := 2) (lv' := [(0, .ref 669)]) (st' := [.int (0 : Int32), .ref 669]) 2 rfl ?_
  refine db_RpuI (pc' := 5) (lv1 := [(0, .ref 669)]) rfl rfl rfl rfl rfl rfl (by decide) rfl rfl fun s1 => ?_
  refine db_Rgo (pc' := 7) (lv' := [(0, .ref 669)]) (st' := [.int (0 : Int32), .ref 669]) 2 rfl ?_
  refine db_RpuI (pc' := 10) (lv1 := [(0, .ref 669)]) rfl rfl rfl rfl rfl rfl (by decide) rfl rfl fun s2 => ?_
  refine db_Rgo (pc' := 15) (lv' := [(0, .ref 669)]) (st' := [.int (3 : Int32), .int (s2.1 669 23)]) 3 rfl ?_
  refine db_Ric (pc' := 18) (tg := 25) (lv1 := [(0, .ref 669)]) rfl rfl rfl rfl ?_ ?_
  · refine db_Rgo (pc' := 32) (lv' := [(0, .ref 669)]) (st' := [.int ((s2.1 669 23) + (1 : Int32)), .ref 669]) 5 rfl ?_
    refine db_RpuI (pc' := 35) (lv1 := [(0, .ref 669)]) rfl rfl rfl rfl rfl rfl (by decide) rfl rfl fun s3 => ?_
    refine db_Rgo (pc' := 41) (lv' := [(0, .ref 669)]) (st' := [.int (s3.1 669 23), .int (0 : Int32), .ref 669]) 4 rfl ?_
    refine db_RcV (mr' := dbm_275) (as := [.ref 669, .int (0 : Int32), .int (s3.1 669 23)]) (rest := []) (pc' := 44) (lv1 := [(0, .ref 669)]) rfl rfl rfl rfl rfl (db_f275_ok) fun s5 => ?_
    refine db_Rgo (pc' := 48) (lv' := [(0, .ref 669)]) (st' := [.int (s5.1 669 23)]) 2 rfl ?_
    exact db_Rret (lv1 := [(0, .ref 669)]) rfl rfl rfl rfl
  refine db_Rgo (pc' := 21) (lv' := [(0, .ref 669)]) (st' := [.int (7 : Int32), .ref 669]) 2 rfl ?_
  refine db_RcdI (mr' := dbm_281) (as := [.ref 669, .int (7 : Int32)]) (rest := []) (pc' := 24) (lv1 := [(0, .ref 669)]) rfl rfl rfl rfl rfl (db_f281_ok) fun q6 s7 => ?_
  exact db_Rret (lv1 := [(0, .ref 669)]) rfl rfl rfl rfl
/-- DreamBook$Told.copyFrom(LDreamBook$Told;)V -/
noncomputable def db_f82_20_294 (s : db_S) : Option db_S :=
  ((db_f83 s 295 21).bind fun s2 => ((db_f83 s2 296 22).bind fun s4 => ((db_f83 s4 297 23).bind fun s6 => ((db_f84 s6 298 24).bind fun s8 => ((db_f84 s8 311 37).bind fun s10 => ((db_f84 s10 324 50).bind fun s12 => ((db_f83 s12 333 59).bind fun s14 => ((db_f83 s14 334 60).bind fun s16 => ((db_f83 s16 335 61).bind fun s18 => ((db_f83 s18 336 62).bind fun s20 => ((db_f83 s20 337 63).bind fun s22 => ((db_f84 s22 338 64).bind fun s24 => ((db_f83 s24 349 75).bind fun s26 => ((db_pI s26 20 13 (s26.1 294 13)).bind fun s27 => ((db_pI s27 20 14 (s27.1 294 14)).bind fun s28 => ((db_cL s28 350 (0 : Int32) 76 (0 : Int32) (37 : Int32)).bind fun s29 => ((db_f83 s29 351 77).bind fun s31 => ((db_f83 s31 352 78).bind fun s33 => ((db_pI s33 20 18 (s33.1 294 18)).bind fun s34 => (some s34))))))))))))))))))))
set_option maxRecDepth 100000 in
theorem db_f82_20_294_ok {X : db_X} {d : Nat} {s : db_S} : db_Rf X (d + 2) dbm_82 0 (lv_args 0 [.ref 20, .ref 294]) [] s db_zV (db_f82_20_294 s ) := by
  show db_Rf _ _ _ 0 [(0, .ref 20), (1, .ref 294)] [] _ _ _
  unfold db_f82_20_294
  refine db_Rgo (pc' := 8) (lv' := [(0, .ref 20), (1, .ref 294)]) (st' := [.ref 21, .ref 295]) 4 rfl ?_
  refine db_RcV (mr' := dbm_83) (as := [.ref 295, .ref 21]) (rest := []) (pc' := 11) (lv1 := [(0, .ref 20), (1, .ref 294)]) rfl rfl rfl rfl rfl (db_f83_ok) fun s2 => ?_
  refine db_Rgo (pc' := 19) (lv' := [(0, .ref 20), (1, .ref 294)]) (st' := [.ref 22, .ref 296]) 4 rfl ?_
  refine db_RcV (mr' := dbm_83) (as := [.ref 296, .ref 22]) (rest := []) (pc' := 22) (lv1 := [(0, .ref 20), (1, .ref 294)]) rfl rfl rfl rfl rfl (db_f83_ok) fun s4 => ?_
  refine db_Rgo (pc' := 30) (lv' := [(0, .ref 20), (1, .ref 294)]) (st' := [.ref 23, .ref 297]) 4 rfl ?_
  refine db_RcV (mr' := dbm_83) (as := [.ref 297, .ref 23]) (rest := []) (pc' := 33) (lv1 := [(0, .ref 20), (1, .ref 294)]) rfl rfl rfl rfl rfl (db_f83_ok) fun s6 => ?_
  refine db_Rgo (pc' := 41) (lv' := [(0, .ref 20), (1, .ref 294)]) (st' := [.ref 24, .ref 298]) 4 rfl ?_
  refine db_RcV (mr' := dbm_84) (as := [.ref 298, .ref 24]) (rest := []) (pc' := 44) (lv1 := [(0, .ref 20), (1, .ref 294)]) rfl rfl rfl rfl rfl (db_f84_ok) fun s8 => ?_
  refine db_Rgo (pc' := 52) (lv' := [(0, .ref 20), (1, .ref 294)]) (st' := [.ref 37, .ref 311]) 4 rfl ?_
  refine db_RcV (mr' := dbm_84) (as := [.ref 311, .ref 37]) (rest := []) (pc' := 55) (lv1 := [(0, .ref 20), (1, .ref 294)]) rfl rfl rfl rfl rfl (db_f84_ok) fun s10 => ?_
  refine db_Rgo (pc' := 63) (lv' := [(0, .ref 20), (1, .ref 294)]) (st' := [.ref 50, .ref 324]) 4 rfl ?_
  refine db_RcV (mr' := dbm_84) (as := [.ref 324, .ref 50]) (rest := []) (pc' := 66) (lv1 := [(0, .ref 20), (1, .ref 294)]) rfl rfl rfl rfl rfl (db_f84_ok) fun s12 => ?_
  refine db_Rgo (pc' := 74) (lv' := [(0, .ref 20), (1, .ref 294)]) (st' := [.ref 59, .ref 333]) 4 rfl ?_
  refine db_RcV (mr' := dbm_83) (as := [.ref 333, .ref 59]) (rest := []) (pc' := 77) (lv1 := [(0, .ref 20), (1, .ref 294)]) rfl rfl rfl rfl rfl (db_f83_ok) fun s14 => ?_
  refine db_Rgo (pc' := 85) (lv' := [(0, .ref 20), (1, .ref 294)]) (st' := [.ref 60, .ref 334]) 4 rfl ?_
  refine db_RcV (mr' := dbm_83) (as := [.ref 334, .ref 60]) (rest := []) (pc' := 88) (lv1 := [(0, .ref 20), (1, .ref 294)]) rfl rfl rfl rfl rfl (db_f83_ok) fun s16 => ?_
  refine db_Rgo (pc' := 96) (lv' := [(0, .ref 20), (1, .ref 294)]) (st' := [.ref 61, .ref 335]) 4 rfl ?_
  refine db_RcV (mr' := dbm_83) (as := [.ref 335, .ref 61]) (rest := []) (pc' := 99) (lv1 := [(0, .ref 20), (1, .ref 294)]) rfl rfl rfl rfl rfl (db_f83_ok) fun s18 => ?_
  refine db_Rgo (pc' := 107) (lv' := [(0, .ref 20), (1, .ref 294)]) (st' := [.ref 62, .ref 336]) 4 rfl ?_
  refine db_RcV (mr' := dbm_83) (as := [.ref 336, .ref 62]) (rest := []) (pc' := 110) (lv1 := [(0, .ref 20), (1, .ref 294)]) rfl rfl rfl rfl rfl (db_f83_ok) fun s20 => ?_
  refine db_Rgo (pc' := 118) (lv' := [(0, .ref 20), (1, .ref 294)]) (st' := [.ref 63, .ref 337]) 4 rfl ?_
  refine db_RcV (mr' := dbm_83) (as := [.ref 337, .ref 63]) (rest := []) (pc' := 121) (lv1 := [(0, .ref 20), (1, .ref 294)]) rfl rfl rfl rfl rfl (db_f83_ok) fun s22 => ?_
  refine db_Rgo (pc' := 129) (lv' := [(0, .ref 20), (1, .ref 294)]) (st' := [.ref 64, .ref 338]) 4 rfl ?_
  refine db_RcV (mr' := dbm_84) (as := [.ref 338, .ref 64]) (rest := []) (pc' := 132) (lv1 := [(0, .ref 20), (1, .ref 294)]) rfl rfl rfl rfl rfl (db_f84_ok) fun s24 => ?_
  refine db_Rgo (pc' := 140) (lv' := [(0, .ref 20), (1, .ref 294)]) (st' := [.ref 75, .ref 349]) 4 rfl ?_
  refine db_RcV (mr' := dbm_83) (as := [.ref 349, .ref 75]) (rest := []) (pc' := 143) (lv1 := [(0, .ref 20), (1, .ref 294)]) rfl rfl rfl rfl rfl (db_f83_ok) fun s26 => ?_
  refine db_Rgo (pc' := 148) (lv' := [(0, .ref 20), (1, .ref 294)]) (st' := [.int (s26.1 294 13), .ref 20]) 3 rfl ?_
  refine db_RpuI (pc' := 151) (lv1 := [(0, .ref 20), (1, .ref 294)]) rfl rfl rfl rfl rfl rfl (by decide) rfl rfl fun s27 => ?_
  refine db_Rgo (pc' := 156) (lv' := [(0, .ref 20), (1, .ref 294)]) (st' := [.int (s27.1 294 14), .ref 20]) 3 rfl ?_
  refine db_RpuI (pc' := 159) (lv1 := [(0, .ref 20), (1, .ref 294)]) rfl rfl rfl rfl rfl rfl (by decide) rfl rfl fun s28 => ?_
  refine db_Rgo (pc' := 171) (lv' := [(0, .ref 20), (1, .ref 294)]) (st' := [.int (37 : Int32), .int (0 : Int32), .ref 76, .int (0 : Int32), .ref 350]) 7 rfl ?_
  refine db_RcpL (pc' := 174) (lv1 := [(0, .ref 20), (1, .ref 294)]) rfl rfl rfl rfl rfl fun s29 => ?_
  refine db_Rgo (pc' := 182) (lv' := [(0, .ref 20), (1, .ref 294)]) (st' := [.ref 77, .ref 351]) 4 rfl ?_
  refine db_RcV (mr' := dbm_83) (as := [.ref 351, .ref 77]) (rest := []) (pc' := 185) (lv1 := [(0, .ref 20), (1, .ref 294)]) rfl rfl rfl rfl rfl (db_f83_ok) fun s31 => ?_
  refine db_Rgo (pc' := 193) (lv' := [(0, .ref 20), (1, .ref 294)]) (st' := [.ref 78, .ref 352]) 4 rfl ?_
  refine db_RcV (mr' := dbm_83) (as := [.ref 352, .ref 78]) (rest := []) (pc' := 196) (lv1 := [(0, .ref 20), (1, .ref 294)]) rfl rfl rfl rfl rfl (db_f83_ok) fun s33 => ?_
  refine db_Rgo (pc' := 201) (lv' := [(0, .ref 20), (1, .ref 294)]) (st' := [.int (s33.1 294 18), .ref 20]) 3 rfl ?_
  refine db_RpuI (pc' := 204) (lv1 := [(0, .ref 20), (1, .ref 294)]) rfl rfl rfl rfl rfl rfl (by decide) rfl rfl fun s34 => ?_
  exact db_Rret (lv1 := [(0, .ref 20), (1, .ref 294)]) rfl rfl rfl rfl
/-- DreamBook$Told.copyFrom(LDreamBook$Told;)V -/
noncomputable def db_f82_20_419 (s : db_S) : Option db_S :=
  ((db_f83 s 420 21).bind fun s2 => ((db_f83 s2 421 22).bind fun s4 => ((db_f83 s4 422 23).bind fun s6 => ((db_f84 s6 423 24).bind fun s8 => ((db_f84 s8 436 37).bind fun s10 => ((db_f84 s10 449 50).bind fun s12 => ((db_f83 s12 458 59).bind fun s14 => ((db_f83 s14 459 60).bind fun s16 => ((db_f83 s16 460 61).bind fun s18 => ((db_f83 s18 461 62).bind fun s20 => ((db_f83 s20 462 63).bind fun s22 => ((db_f84 s22 463 64).bind fun s24 => ((db_f83 s24 474 75).bind fun s26 => ((db_pI s26 20 13 (s26.1 419 13)).bind fun s27 => ((db_pI s27 20 14 (s27.1 419 14)).bind fun s28 => ((db_cL s28 475 (0 : Int32) 76 (0 : Int32) (37 : Int32)).bind fun s29 => ((db_f83 s29 476 77).bind fun s31 => ((db_f83 s31 477 78).bind fun s33 => ((db_pI s33 20 18 (s33.1 419 18)).bind fun s34 => (some s34))))))))))))))))))))
set_option maxRecDepth 100000 in
theorem db_f82_20_419_ok {X : db_X} {d : Nat} {s : db_S} : db_Rf X (d + 2) dbm_82 0 (lv_args 0 [.ref 20, .ref 419]) [] s db_zV (db_f82_20_419 s ) := by
  show db_Rf _ _ _ 0 [(0, .ref 20), (1, .ref 419)] [] _ _ _
  unfold db_f82_20_419
  refine db_Rgo (pc' := 8) (lv' := [(0, .ref 20), (1, .ref 419)]) (st' := [.ref 21, .ref 420]) 4 rfl ?_
  refine db_RcV (mr' := dbm_83) (as := [.ref 420, .ref 21]) (rest := []) (pc' := 11) (lv1 := [(0, .ref 20), (1, .ref 419)]) rfl rfl rfl rfl rfl (db_f83_ok) fun s2 => ?_
  refine db_Rgo (pc' := 19) (lv' := [(0, .ref 20), (1, .ref 419)]) (st' := [.ref 22, .ref 421]) 4 rfl ?_
  refine db_RcV (mr' := dbm_83) (as := [.ref 421, .ref 22]) (rest := []) (pc' := 22) (lv1 := [(0, .ref 20), (1, .ref 419)]) rfl rfl rfl rfl rfl (db_f83_ok) fun s4 => ?_
  refine db_Rgo (pc' := 30) (lv' := [(0, .ref 20), (1, .ref 419)]) (st' := [.ref 23, .ref 422]) 4 rfl ?_
  refine db_RcV (mr' := dbm_83) (as := [.ref 422, .ref 23]) (rest := []) (pc' := 33) (lv1 := [(0, .ref 20), (1, .ref 419)]) rfl rfl rfl rfl rfl (db_f83_ok) fun s6 => ?_
  refine db_Rgo (pc' := 41) (lv' := [(0, .ref 20), (1, .ref 419)]) (st' := [.ref 24, .ref 423]) 4 rfl ?_
  refine db_RcV (mr' := dbm_84) (as := [.ref 423, .ref 24]) (rest := []) (pc' := 44) (lv1 := [(0, .ref 20), (1, .ref 419)]) rfl rfl rfl rfl rfl (db_f84_ok) fun s8 => ?_
  refine db_Rgo (pc' := 52) (lv' := [(0, .ref 20), (1, .ref 419)]) (st' := [.ref 37, .ref 436]) 4 rfl ?_
  refine db_RcV (mr' := dbm_84) (as := [.ref 436, .ref 37]) (rest := []) (pc' := 55) (lv1 := [(0, .ref 20), (1, .ref 419)]) rfl rfl rfl rfl rfl (db_f84_ok) fun s10 => ?_
  refine db_Rgo (pc' := 63) (lv' := [(0, .ref 20), (1, .ref 419)]) (st' := [.ref 50, .ref 449]) 4 rfl ?_
  refine db_RcV (mr' := dbm_84) (as := [.ref 449, .ref 50]) (rest := []) (pc' := 66) (lv1 := [(0, .ref 20), (1, .ref 419)]) rfl rfl rfl rfl rfl (db_f84_ok) fun s12 => ?_
  refine db_Rgo (pc' := 74) (lv' := [(0, .ref 20), (1, .ref 419)]) (st' := [.ref 59, .ref 458]) 4 rfl ?_
  refine db_RcV (mr' := dbm_83) (as := [.ref 458, .ref 59]) (rest := []) (pc' := 77) (lv1 := [(0, .ref 20), (1, .ref 419)]) rfl rfl rfl rfl rfl (db_f83_ok) fun s14 => ?_
  refine db_Rgo (pc' := 85) (lv' := [(0, .ref 20), (1, .ref 419)]) (st' := [.ref 60, .ref 459]) 4 rfl ?_
  refine db_RcV (mr' := dbm_83) (as := [.ref 459, .ref 60]) (rest := []) (pc' := 88) (lv1 := [(0, .ref 20), (1, .ref 419)]) rfl rfl rfl rfl rfl (db_f83_ok) fun s16 => ?_
  refine db_Rgo (pc' := 96) (lv' := [(0, .ref 20), (1, .ref 419)]) (st' := [.ref 61, .ref 460]) 4 rfl ?_
  refine db_RcV (mr' := dbm_83) (as := [.ref 460, .ref 61]) (rest := []) (pc' := 99) (lv1 := [(0, .ref 20), (1, .ref 419)]) rfl rfl rfl rfl rfl (db_f83_ok) fun s18 => ?_
  refine db_Rgo (pc' := 107) (lv' := [(0, .ref 20), (1, .ref 419)]) (st' := [.ref 62, .ref 461]) 4 rfl ?_
  refine db_RcV (mr' := dbm_83) (as := [.ref 461, .ref 62]) (rest := []) (pc' := 110) (lv1 := [(0, .ref 20), (1, .ref 419)]) rfl rfl rfl rfl rfl (db_f83_ok) fun s20 => ?_
  refine db_Rgo (pc' := 118) (lv' := [(0, .ref 20), (1, .ref 419)]) (st' := [.ref 63, .ref 462]) 4 rfl ?_
  refine db_RcV (mr' := dbm_83) (as := [.ref 462, .ref 63]) (rest := []) (pc' := 121) (lv1 := [(0, .ref 20), (1, .ref 419)]) rfl rfl rfl rfl rfl (db_f83_ok) fun s22 => ?_
  refine db_Rgo (pc' := 129) (lv' := [(0, .ref 20), (1, .ref 419)]) (st' := [.ref 64, .ref 463]) 4 rfl ?_
  refine db_RcV (mr' := dbm_84) (as := [.ref 463, .ref 64]) (rest := []) (pc' := 132) (lv1 := [(0, .ref 20), (1, .ref 419)]) rfl rfl rfl rfl rfl (db_f84_ok) fun s24 => ?_
  refine db_Rgo (pc' := 140) (lv' := [(0, .ref 20), (1, .ref 419)]) (st' := [.ref 75, .ref 474]) 4 rfl ?_
  refine db_RcV (mr' := dbm_83) (as := [.ref 474, .ref 75]) (rest := []) (pc' := 143) (lv1 := [(0, .ref 20), (1, .ref 419)]) rfl rfl rfl rfl rfl (db_f83_ok) fun s26 => ?_
  refine db_Rgo (pc' := 148) (lv' := [(0, .ref 20), (1, .ref 419)]) (st' := [.int (s26.1 419 13), .ref 20]) 3 rfl ?_
  refine db_RpuI (pc' := 151) (lv1 := [(0, .ref 20), (1, .ref 419)]) rfl rfl rfl rfl rfl rfl (by decide) rfl rfl fun s27 => ?_
  refine db_Rgo (pc' := 156) (lv' := [(0, .ref 20), (1, .ref 419)]) (st' := [.int (s27.1 419 14), .ref 20]) 3 rfl ?_
  refine db_RpuI (pc' := 159) (lv1 := [(0, .ref 20), (1, .ref 419)]) rfl rfl rfl rfl rfl rfl (by decide) rfl rfl fun s28 => ?_
  refine db_Rgo (pc' := 171) (lv' := [(0, .ref 20), (1, .ref 419)]) (st' := [.int (37 : Int32), .int (0 : Int32), .ref 76, .int (0 : Int32), .ref 475]) 7 rfl ?_
  refine db_RcpL (pc' := 174) (lv1 := [(0, .ref 20), (1, .ref 419)]) rfl rfl rfl rfl rfl fun s29 => ?_
  refine db_Rgo (pc' := 182) (lv' := [(0, .ref 20), (1, .ref 419)]) (st' := [.ref 77, .ref 476]) 4 rfl ?_
  refine db_RcV (mr' := dbm_83) (as := [.ref 476, .ref 77]) (rest := []) (pc' := 185) (lv1 := [(0, .ref 20), (1, .ref 419)]) rfl rfl rfl rfl rfl (db_f83_ok) fun s31 => ?_
  refine db_Rgo (pc' := 193) (lv' := [(0, .ref 20), (1, .ref 419)]) (st' := [.ref 78, .ref 477]) 4 rfl ?_
  refine db_RcV (mr' := dbm_83) (as := [.ref 477, .ref 78]) (rest := []) (pc' := 196) (lv1 := [(0, .ref 20), (1, .ref 419)]) rfl rfl rfl rfl rfl (db_f83_ok) fun s33 => ?_
  refine db_Rgo (pc' := 201) (lv' := [(0, .ref 20), (1, .ref 419)]) (st' := [.int (s33.1 419 18), .ref 20]) 3 rfl ?_
  refine db_RpuI (pc' := 204) (lv1 := [(0, .ref 20), (1, .ref 419)]) rfl rfl rfl rfl rfl rfl (by decide) rfl rfl fun s34 => ?_
  exact db_Rret (lv1 := [(0, .ref 20), (1, .ref 419)]) rfl rfl rfl rfl
/-- DreamBook$Told.copyFrom(LDreamBook$Told;)V -/
noncomputable def db_f82_20_544 (s : db_S) : Option db_S :=
  ((db_f83 s 545 21).bind fun s2 => ((db_f83 s2 546 22).bind fun s4 => ((db_f83 s4 547 23).bind fun s6 => ((db_f84 s6 548 24).bind fun s8 => ((db_f84 s8 561 37).bind fun s10 => ((db_f84 s10 574 50).bind fun s12 => ((db_f83 s12 583 59).bind fun s14 => ((db_f83 s14 584 60).bind fun s16 => ((db_f83 s16 585 61).bind fun s18 => ((db_f83 s18 586 62).bind fun s20 => ((db_f83 s20 587 63).bind fun s22 => ((db_f84 s22 588 64).bind fun s24 => ((db_f83 s24 599 75).bind fun s26 => ((db_pI s26 20 13 (s26.1 544 13)).bind fun s27 => ((db_pI s27 20 14 (s27.1 544 14)).bind fun s28 => ((db_cL s28 600 (0 : Int32) 76 (0 : Int32) (37 : Int32)).bind fun s29 => ((db_f83 s29 601 77).bind fun s31 => ((db_f83 s31 602 78).bind fun s33 => ((db_pI s33 20 18 (s33.1 544 18)).bind fun s34 => (some s34))))))))))))))))))))
set_option maxRecDepth 100000 in
theorem db_f82_20_544_ok {X : db_X} {d : Nat} {s : db_S} : db_Rf X (d + 2) dbm_82 0 (lv_args 0 [.ref 20, .ref 544]) [] s db_zV (db_f82_20_544 s ) := by
  show db_Rf _ _ _ 0 [(0, .ref 20), (1, .ref 544)] [] _ _ _
  unfold db_f82_20_544
  refine db_Rgo (pc' := 8) (lv' := [(0, .ref 20), (1, .ref 544)]) (st' := [.ref 21, .ref 545]) 4 rfl ?_
  refine db_RcV (mr' := dbm_83) (as := [.ref 545, .ref 21]) (rest := []) (pc' := 11) (lv1 := [(0, .ref 20), (1, .ref 544)]) rfl rfl rfl rfl rfl (db_f83_ok) fun s2 => ?_
  refine db_Rgo (pc' := 19) (lv' := [(0, .ref 20), (1, .ref 544)]) (st' := [.ref 22, .ref 546]) 4 rfl ?_
  refine db_RcV (mr' := dbm_83) (as := [.ref 546, .ref 22]) (rest := []) (pc' := 22) (lv1 := [(0, .ref 20), (1, .ref 544)]) rfl rfl rfl rfl rfl (db_f83_ok) fun s4 => ?_
  refine db_Rgo (pc' := 30) (lv' := [(0, .ref 20), (1, .ref 544)]) (st' := [.ref 23, .ref 547]) 4 rfl ?_
  refine db_RcV (mr' := dbm_83) (as := [.ref 547, .ref 23]) (rest := []) (pc' := 33) (lv1 := [(0, .ref 20), (1, .ref 544)]) rfl rfl rfl rfl rfl (db_f83_ok) fun s6 => ?_
  refine db_Rgo (pc' := 41) (lv' := [(0, .ref 20), (1, .ref 544)]) (st' := [.ref 24, .ref 548]) 4 rfl ?_
  refine db_RcV (mr' := dbm_84) (as := [.ref 548, .ref 24]) (rest := []) (pc' := 44) (lv1 := [(0, .ref 20), (1, .ref 544)]) rfl rfl rfl rfl rfl (db_f84_ok) fun s8 => ?_
  refine db_Rgo (pc' := 52) (lv' := [(0, .ref 20), (1, .ref 544)]) (st' := [.ref 37, .ref 561]) 4 rfl ?_
  refine db_RcV (mr' := dbm_84) (as := [.ref 561, .ref 37]) (rest := []) (pc' := 55) (lv1 := [(0, .ref 20), (1, .ref 544)]) rfl rfl rfl rfl rfl (db_f84_ok) fun s10 => ?_
  refine db_Rgo (pc' := 63) (lv' := [(0, .ref 20), (1, .ref 544)]) (st' := [.ref 50, .ref 574]) 4 rfl ?_
  refine db_RcV (mr' := dbm_84) (as := [.ref 574, .ref 50]) (rest := []) (pc' := 66) (lv1 := [(0, .ref 20), (1, .ref 544)]) rfl rfl rfl rfl rfl (db_f84_ok) fun s12 => ?_
  refine db_Rgo (pc' := 74) (lv' := [(0, .ref 20), (1, .ref 544)]) (st' := [.ref 59, .ref 583]) 4 rfl ?_
  refine db_RcV (mr' := dbm_83) (as := [.ref 583, .ref 59]) (rest := []) (pc' := 77) (lv1 := [(0, .ref 20), (1, .ref 544)]) rfl rfl rfl rfl rfl (db_f83_ok) fun s14 => ?_
  refine db_Rgo (pc' := 85) (lv' := [(0, .ref 20), (1, .ref 544)]) (st' := [.ref 60, .ref 584]) 4 rfl ?_
  refine db_RcV (mr' := dbm_83) (as := [.ref 584, .ref 60]) (rest := []) (pc' := 88) (lv1 := [(0, .ref 20), (1, .ref 544)]) rfl rfl rfl rfl rfl (db_f83_ok) fun s16 => ?_
  refine db_Rgo (pc' := 96) (lv' := [(0, .ref 20), (1, .ref 544)]) (st' := [.ref 61, .ref 585]) 4 rfl ?_
  refine db_RcV (mr' := dbm_83) (as := [.ref 585, .ref 61]) (rest := []) (pc' := 99) (lv1 := [(0, .ref 20), (1, .ref 544)]) rfl rfl rfl rfl rfl (db_f83_ok) fun s18 => ?_
  refine db_Rgo (pc' := 107) (lv' := [(0, .ref 20), (1, .ref 544)]) (st' := [.ref 62, .ref 586]) 4 rfl ?_
  refine db_RcV (mr' := dbm_83) (as := [.ref 586, .ref 62]) (rest := []) (pc' := 110) (lv1 := [(0, .ref 20), (1, .ref 544)]) rfl rfl rfl rfl rfl (db_f83_ok) fun s20 => ?_
  refine db_Rgo (pc' := 118) (lv' := [(0, .ref 20), (1, .ref 544)]) (st' := [.ref 63, .ref 587]) 4 rfl ?_
  refine db_RcV (mr' := dbm_83) (as := [.ref 587, .ref 63]) (rest := []) (pc' := 121) (lv1 := [(0, .ref 20), (1, .ref 544)]) rfl rfl rfl rfl rfl (db_f83_ok) fun s22 => ?_
  refine db_Rgo (pc' := 129) (lv' := [(0, .ref 20), (1, .ref 544)]) (st' := [.ref 64, .ref 588]) 4 rfl ?_
  refine db_RcV (mr' := dbm_84) (as := [.ref 588, .ref 64]) (rest := []) (pc' := 132) (lv1 := [(0, .ref 20), (1, .ref 544)]) rfl rfl rfl rfl rfl (db_f84_ok) fun s24 => ?_
  refine db_Rgo (pc' := 140) (lv' := [(0, .ref 20), (1, .ref 544)]) (st' := [.ref 75, .ref 599]) 4 rfl ?_
  refine db_RcV (mr' := dbm_83) (as := [.ref 599, .ref 75]) (rest := []) (pc' := 143) (lv1 := [(0, .ref 20), (1, .ref 544)]) rfl rfl rfl rfl rfl (db_f83_ok) fun s26 => ?_
  refine db_Rgo (pc' := 148) (lv' := [(0, .ref 20), (1, .ref 544)]) (st' := [.int (s26.1 544 13), .ref 20]) 3 rfl ?_
  refine db_RpuI (pc' := 151) (lv1 := [(0, .ref 20), (1, .ref 544)]) rfl rfl rfl rfl rfl rfl (by decide) rfl rfl fun s27 => ?_
  refine db_Rgo (pc' := 156) (lv' := [(0, .ref 20), (1, .ref 544)]) (st' := [.int (s27.1 544 14), .ref 20]) 3 rfl ?_
  refine db_RpuI (pc' := 159) (lv1 := [(0, .ref 20), (1, .ref 544)]) rfl rfl rfl rfl rfl rfl (by decide) rfl rfl fun s28 => ?_
  refine db_Rgo (pc' := 171) (lv' := [(0, .ref 20), (1, .ref 544)]) (st' := [.int (37 : Int32), .int (0 : Int32), .ref 76, .int (0 : Int32), .ref 600]) 7 rfl ?_
  refine db_RcpL (pc' := 174) (lv1 := [(0, .ref 20), (1, .ref 544)]) rfl rfl rfl rfl rfl fun s29 => ?_
  refine db_Rgo (pc' := 182) (lv' := [(0, .ref 20), (1, .ref 544)]) (st' := [.ref 77, .ref 601]) 4 rfl ?_
  refine db_RcV (mr' := dbm_83) (as := [.ref 601, .ref 77]) (rest := []) (pc' := 185) (lv1 := [(0, .ref 20), (1, .ref 544)]) rfl rfl rfl rfl rfl (db_f83_ok) fun s31 => ?_
  refine db_Rgo (pc' := 193) (lv' := [(0, .ref 20), (1, .ref 544)]) (st' := [.ref 78, .ref 602]) 4 rfl ?_
  refine db_RcV (mr' := dbm_83) (as := [.ref 602, .ref 78]) (rest := []) (pc' := 196) (lv1 := [(0, .ref 20), (1, .ref 544)]) rfl rfl rfl rfl rfl (db_f83_ok) fun s33 => ?_
  refine db_Rgo (pc' := 201) (lv' := [(0, .ref 20), (1, .ref 544)]) (st' := [.int (s33.1 544 18), .ref 20]) 3 rfl ?_
  refine db_RpuI (pc' := 204) (lv1 := [(0, .ref 20), (1, .ref 544)]) rfl rfl rfl rfl rfl rfl (by decide) rfl rfl fun s34 => ?_
  exact db_Rret (lv1 := [(0, .ref 20), (1, .ref 544)]) rfl rfl rfl rfl
/-- DreamBook$Life.copyFrom(LDreamBook$Life;)V -/
noncomputable def db_f175_80_354 (s : db_S) : Option db_S :=
  ((db_f83 s 355 81).bind fun s2 => ((db_f83 s2 356 82).bind fun s4 => ((db_pI s4 80 2 (s4.1 354 2)).bind fun s5 => ((db_pI s5 80 3 (s5.1 354 3)).bind fun s6 => (some s6)))))
set_option maxRecDepth 100000 in
theorem db_f175_80_354_ok {X : db_X} {d : Nat} {s : db_S} : db_Rf X (d + 1) dbm_175 0 (lv_args 0 [.ref 80, .ref 354]) [] s db_zV (db_f175_80_354 s ) := by
  show db_Rf _ _ _ 0 [(0, .ref 80), (1, .ref 354)] [] _ _ _
  unfold db_f175_80_354
  refine db_Rgo (pc' := 8) (lv' := [(0, .ref 80), (1, .ref 354)]) (st' := [.ref 81, .ref 355]) 4 rfl ?_
  refine db_RcV (mr' := dbm_83) (as := [.ref 355, .ref 81]) (rest := []) (pc' := 11) (lv1 := [(0, .ref 80), (1, .ref 354)]) rfl rfl rfl rfl rfl (db_f83_ok) fun s2 => ?_
  refine db_Rgo (pc' := 19) (lv' := [(0, .ref 80), (1, .ref 354)]) (st' := [.ref 82, .ref 356]) 4 rfl ?_
  refine db_RcV (mr' := dbm_83) (as := [.ref 356, .ref 82]) (rest := []) (pc' := 22) (lv1 := [(0, .ref 80), (1, .ref 354)]) rfl rfl rfl rfl rfl (db_f83_ok) fun s4 => ?_
  refine db_Rgo (pc' := 27) (lv' := [(0, .ref 80), (1, .ref 354)]) (st' := [.int (s4.1 354 2), .ref 80]) 3 rfl ?_
  refine db_RpuI (pc' := 30) (lv1 := [(0, .ref 80), (1, .ref 354)]) rfl rfl rfl rfl rfl rfl (by decide) rfl rfl fun s5 => ?_
  refine db_Rgo (pc' := 35) (lv' := [(0, .ref 80), (1, .ref 354)]) (st' := [.int (s5.1 354 3), .ref 80]) 3 rfl ?_
  refine db_RpuI (pc' := 38) (lv1 := [(0, .ref 80), (1, .ref 354)]) rfl rfl rfl rfl rfl rfl (by decide) rfl rfl fun s6 => ?_
  exact db_Rret (lv1 := [(0, .ref 80), (1, .ref 354)]) rfl rfl rfl rfl
/-- DreamBook$Life.copyFrom(LDreamBook$Life;)V -/
noncomputable def db_f175_80_479 (s : db_S) : Option db_S :=
  ((db_f83 s 480 81).bind fun s2 => ((db_f83 s2 481 82).bind fun s4 => ((db_pI s4 80 2 (s4.1 479 2)).bind fun s5 => ((db_pI s5 80 3 (s5.1 479 3)).bind fun s6 => (some s6)))))
set_option maxRecDepth 100000 in
theorem db_f175_80_479_ok {X : db_X} {d : Nat} {s : db_S} : db_Rf X (d + 1) dbm_175 0 (lv_args 0 [.ref 80, .ref 479]) [] s db_zV (db_f175_80_479 s ) := by
  show db_Rf _ _ _ 0 [(0, .ref 80), (1, .ref 479)] [] _ _ _
  unfold db_f175_80_479
  refine db_Rgo (pc' := 8) (lv' := [(0, .ref 80), (1, .ref 479)]) (st' := [.ref 81, .ref 480]) 4 rfl ?_
  refine db_RcV (mr' := dbm_83) (as := [.ref 480, .ref 81]) (rest := []) (pc' := 11) (lv1 := [(0, .ref 80), (1, .ref 479)]) rfl rfl rfl rfl rfl (db_f83_ok) fun s2 => ?_
  refine db_Rgo (pc' := 19) (lv' := [(0, .ref 80), (1, .ref 479)]) (st' := [.ref 82, .ref 481]) 4 rfl ?_
  refine db_RcV (mr' := dbm_83) (as := [.ref 481, .ref 82]) (rest := []) (pc' := 22) (lv1 := [(0, .ref 80), (1, .ref 479)]) rfl rfl rfl rfl rfl (db_f83_ok) fun s4 => ?_
  refine db_Rgo (pc' := 27) (lv' := [(0, .ref 80), (1, .ref 479)]) (st' := [.int (s4.1 479 2), .ref 80]) 3 rfl ?_
  refine db_RpuI (pc' := 30) (lv1 := [(0, .ref 80), (1, .ref 479)]) rfl rfl rfl rfl rfl rfl (by decide) rfl rfl fun s5 => ?_
  refine db_Rgo (pc' := 35) (lv' := [(0, .ref 80), (1, .ref 479)]) (st' := [.int (s5.1 479 3), .ref 80]) 3 rfl ?_
  refine db_RpuI (pc' := 38) (lv1 := [(0, .ref 80), (1, .ref 479)]) rfl rfl rfl rfl rfl rfl (by decide) rfl rfl fun s6 => ?_
  exact db_Rret (lv1 := [(0, .ref 80), (1, .ref 479)]) rfl rfl rfl rfl
/-- DreamBook$Life.copyFrom(LDreamBook$Life;)V -/
noncomputable def db_f175_80_604 (s : db_S) : Option db_S :=
  ((db_f83 s 605 81).bind fun s2 => ((db_f83 s2 606 82).bind fun s4 => ((db_pI s4 80 2 (s4.1 604 2)).bind fun s5 => ((db_pI s5 80 3 (s5.1 604 3)).bind fun s6 => (some s6)))))
set_option maxRecDepth 100000 in
theorem db_f175_80_604_ok {X : db_X} {d : Nat} {s : db_S} : db_Rf X (d + 1) dbm_175 0 (lv_args 0 [.ref 80, .ref 604]) [] s db_zV (db_f175_80_604 s ) := by
  show db_Rf _ _ _ 0 [(0, .ref 80), (1, .ref 604)] [] _ _ _
  unfold db_f175_80_604
  refine db_Rgo (pc' := 8) (lv' := [(0, .ref 80), (1, .ref 604)]) (st' := [.ref 81, .ref 605]) 4 rfl ?_
  refine db_RcV (mr' := dbm_83) (as := [.ref 605, .ref 81]) (rest := []) (pc' := 11) (lv1 := [(0, .ref 80), (1, .ref 604)]) rfl rfl rfl rfl rfl (db_f83_ok) fun s2 => ?_
  refine db_Rgo (pc' := 19) (lv' := [(0, .ref 80), (1, .ref 604)]) (st' := [.ref 82, .ref 606]) 4 rfl ?_
  refine db_RcV (mr' := dbm_83) (as := [.ref 606, .ref 82]) (rest := []) (pc' := 22) (lv1 := [(0, .ref 80), (1, .ref 604)]) rfl rfl rfl rfl rfl (db_f83_ok) fun s4 => ?_
  refine db_Rgo (pc' := 27) (lv' := [(0, .ref 80), (1, .ref 604)]) (st' := [.int (s4.1 604 2), .ref 80]) 3 rfl ?_
  refine db_RpuI (pc' := 30) (lv1 := [(0, .ref 80), (1, .ref 604)]) rfl rfl rfl rfl rfl rfl (by decide) rfl rfl fun s5 => ?_
  refine db_Rgo (pc' := 35) (lv' := [(0, .ref 80), (1, .ref 604)]) (st' := [.int (s5.1 604 3), .ref 80]) 3 rfl ?_
  refine db_RpuI (pc' := 38) (lv1 := [(0, .ref 80), (1, .ref 604)]) rfl rfl rfl rfl rfl rfl (by decide) rfl rfl fun s6 => ?_
  exact db_Rret (lv1 := [(0, .ref 80), (1, .ref 604)]) rfl rfl rfl rfl
/-- DreamBook$Plan.copyFrom(LDreamBook$Plan;)V -/
noncomputable def db_f97_83_357 (s : db_S) : Option db_S :=
  (cond (db_b01 (s.1 357 0)) ((db_pI s 83 0 (s.1 357 0)).bind fun s1 => ((db_pI s1 83 1 (s1.1 357 1)).bind fun s2 => ((db_pI s2 83 2 (s2.1 357 2)).bind fun s3 => ((db_f84 s3 358 84).bind fun s5 => (some s5))))) none)
set_option maxRecDepth 100000 in
theorem db_f97_83_357_ok {X : db_X} {d : Nat} {s : db_S} : db_Rf X (d + 2) dbm_97 0 (lv_args 0 [.ref 83, .ref 357]) [] s db_zV (db_f97_83_357 s ) := by
  show db_Rf _ _ _ 0 [(0, .ref 83), (1, .ref 357)] [] _ _ _
  unfold db_f97_83_357
  refine db_Rgo (pc' := 5) (lv' := [(0, .ref 83), (1, .ref 357)]) (st' := [.int (s.1 357 0), .ref 83]) 3 rfl ?_
  refine db_Rb01 fun hb => ?_
  refine db_RpuI (pc' := 8) (lv1 := [(0, .ref 83), (1, .ref 357)]) rfl rfl rfl rfl rfl rfl (by decide) rfl (show (db_b01 (s.1 357 0) && true) = true by rw [hb]; rfl) fun s1 => ?_
  refine db_Rgo (pc' := 13) (lv' := [(0, .ref 83), (1, .ref 357)]) (st' := [.int (s1.1 357 1), .ref 83]) 3 rfl ?_
  refine db_RpuI (pc' := 16) (lv1 := [(0, .ref 83), (1, .ref 357)]) rfl rfl rfl rfl rfl rfl (by decide) rfl rfl fun s2 => ?_
  refine db_Rgo (pc' := 21) (lv' := [(0, .ref 83), (1, .ref 357)]) (st' := [.int (s2.1 357 2), .ref 83]) 3 rfl ?_
  refine db_RpuI (pc' := 24) (lv1 := [(0, .ref 83), (1, .ref 357)]) rfl rfl rfl rfl rfl rfl (by decide) rfl rfl fun s3 => ?_
  refine db_Rgo (pc' := 32) (lv' := [(0, .ref 83), (1, .ref 357)]) (st' := [.ref 84, .ref 358]) 4 rfl ?_
  refine db_RcV (mr' := dbm_84) (as := [.ref 358, .ref 84]) (rest := []) (pc' := 35) (lv1 := [(0, .ref 83), (1, .ref 357)]) rfl rfl rfl rfl rfl (db_f84_ok) fun s5 => ?_
  exact db_Rret (lv1 := [(0, .ref 83), (1, .ref 357)]) rfl rfl rfl rfl
/-- DreamBook$Plan.copyFrom(LDreamBook$Plan;)V -/
noncomputable def db_f97_83_482 (s : db_S) : Option db_S :=
  (cond (db_b01 (s.1 482 0)) ((db_pI s 83 0 (s.1 482 0)).bind fun s1 => ((db_pI s1 83 1 (s1.1 482 1)).bind fun s2 => ((db_pI s2 83 2 (s2.1 482 2)).bind fun s3 => ((db_f84 s3 483 84).bind fun s5 => (some s5))))) none)
set_option maxRecDepth 100000 in
theorem db_f97_83_482_ok {X : db_X} {d : Nat} {s : db_S} : db_Rf X (d + 2) dbm_97 0 (lv_args 0 [.ref 83, .ref 482]) [] s db_zV (db_f97_83_482 s ) := by
  show db_Rf _ _ _ 0 [(0, .ref 83), (1, .ref 482)] [] _ _ _
  unfold db_f97_83_482
  refine db_Rgo (pc' := 5) (lv' := [(0, .ref 83), (1, .ref 482)]) (st' := [.int (s.1 482 0), .ref 83]) 3 rfl ?_
  refine db_Rb01 fun hb => ?_
  refine db_RpuI (pc' := 8) (lv1 := [(0, .ref 83), (1, .ref 482)]) rfl rfl rfl rfl rfl rfl (by decide) rfl (show (db_b01 (s.1 482 0) && true) = true by rw [hb]; rfl) fun s1 => ?_
  refine db_Rgo (pc' := 13) (lv' := [(0, .ref 83), (1, .ref 482)]) (st' := [.int (s1.1 482 1), .ref 83]) 3 rfl ?_
  refine db_RpuI (pc' := 16) (lv1 := [(0, .ref 83), (1, .ref 482)]) rfl rfl rfl rfl rfl rfl (by decide) rfl rfl fun s2 => ?_
  refine db_Rgo (pc' := 21) (lv' := [(0, .ref 83), (1, .ref 482)]) (st' := [.int (s2.1 482 2), .ref 83]) 3 rfl ?_
  refine db_RpuI (pc' := 24) (lv1 := [(0, .ref 83), (1, .ref 482)]) rfl rfl rfl rfl rfl rfl (by decide) rfl rfl fun s3 => ?_
  refine db_Rgo (pc' := 32) (lv' := [(0, .ref 83), (1, .ref 482)]) (st' := [.ref 84, .ref 483]) 4 rfl ?_
  refine db_RcV (mr' := dbm_84) (as := [.ref 483, .ref 84]) (rest := []) (pc' := 35) (lv1 := [(0, .ref 83), (1, .ref 482)]) rfl rfl rfl rfl rfl (db_f84_ok) fun s5 => ?_
  exact db_Rret (lv1 := [(0, .ref 83), (1, .ref 482)]) rfl rfl rfl rfl
/-- DreamBook$Plan.copyFrom(LDreamBook$Plan;)V -/
noncomputable def db_f97_83_607 (s : db_S) : Option db_S :=
  (cond (db_b01 (s.1 607 0)) ((db_pI s 83 0 (s.1 607 0)).bind fun s1 => ((db_pI s1 83 1 (s1.1 607 1)).bind fun s2 => ((db_pI s2 83 2 (s2.1 607 2)).bind fun s3 => ((db_f84 s3 608 84).bind fun s5 => (some s5))))) none)
set_option maxRecDepth 100000 in
theorem db_f97_83_607_ok {X : db_X} {d : Nat} {s : db_S} : db_Rf X (d + 2) dbm_97 0 (lv_args 0 [.ref 83, .ref 607]) [] s db_zV (db_f97_83_607 s ) := by
  show db_Rf _ _ _ 0 [(0, .ref 83), (1, .ref 607)] [] _ _ _
  unfold db_f97_83_607
  refine db_Rgo (pc' := 5) (lv' := [(0, .ref 83), (1, .ref 607)]) (st' := [.int (s.1 607 0), .ref 83]) 3 rfl ?_
  refine db_Rb01 fun hb => ?_
  refine db_RpuI (pc' := 8) (lv1 := [(0, .ref 83), (1, .ref 607)]) rfl rfl rfl rfl rfl rfl (by decide) rfl (show (db_b01 (s.1 607 0) && true) = true by rw [hb]; rfl) fun s1 => ?_
  refine db_Rgo (pc' := 13) (lv' := [(0, .ref 83), (1, .ref 607)]) (st' := [.int (s1.1 607 1), .ref 83]) 3 rfl ?_
  refine db_RpuI (pc' := 16) (lv1 := [(0, .ref 83), (1, .ref 607)]) rfl rfl rfl rfl rfl rfl (by decide) rfl rfl fun s2 => ?_
  refine db_Rgo (pc' := 21) (lv' := [(0, .ref 83), (1, .ref 607)]) (st' := [.int (s2.1 607 2), .ref 83]) 3 rfl ?_
  refine db_RpuI (pc' := 24) (lv1 := [(0, .ref 83), (1, .ref 607)]) rfl rfl rfl rfl rfl rfl (by decide) rfl rfl fun s3 => ?_
  refine db_Rgo (pc' := 32) (lv' := [(0, .ref 83), (1, .ref 607)]) (st' := [.ref 84, .ref 608]) 4 rfl ?_
  refine db_RcV (mr' := dbm_84) (as := [.ref 608, .ref 84]) (rest := []) (pc' := 35) (lv1 := [(0, .ref 83), (1, .ref 607)]) rfl rfl rfl rfl rfl (db_f84_ok) fun s5 => ?_
  exact db_Rret (lv1 := [(0, .ref 83), (1, .ref 607)]) rfl rfl rfl rfl
noncomputable def db_f205_b72 (s : db_S) : Option (Int32 × db_S) :=
  (db_bd (db_f87 s (s.1 4 15)) fun q1 s2 => (some (q1, s2)))
set_option maxRecDepth 100000 in
theorem db_f205_b72_ok {X : db_X} {d : Nat}  {s : db_S} : db_Rf X (d + 3) dbm_205 72 [(0, .ref 4)] [] s db_zI (db_f205_b72 s ) := by
  unfold db_f205_b72
  refine db_Rgo (pc' := 77) (lv' := [(0, .ref 4)]) (st' := [.int (s.1 4 15), .ref 4]) 3 rfl ?_
  refine db_RcdI (mr' := dbm_87) (as := [.ref 4, .int (s.1 4 15)]) (rest := []) (pc' := 80) (lv1 := [(0, .ref 4)]) rfl rfl rfl rfl rfl (db_f87_ok) fun q1 s2 => ?_
  exact db_Rret (lv1 := [(0, .ref 4)]) rfl rfl rfl rfl
noncomputable def db_f205_b56 (s : db_S) : Option (Int32 × db_S) :=
  (if (s.1 4 15) = 0 then ((db_f97_83_357 s).bind fun s2 => (db_f205_b72 s2 )) else if (s.1 4 15) = 1 then ((db_f97_83_482 s).bind fun s4 => (db_f205_b72 s4 )) else if (s.1 4 15) = 2 then ((db_f97_83_607 s).bind fun s6 => (db_f205_b72 s6 )) else none)
set_option maxRecDepth 100000 in
theorem db_f205_b56_ok {X : db_X} {d : Nat}  {s : db_S} : db_Rf X (d + 3) dbm_205 56 [(0, .ref 4)] [] s db_zI (db_f205_b56 s ) := by
  unfold db_f205_b56
  refine db_Rgo (pc' := 68) (lv' := [(0, .ref 4)]) (st' := [.int (s.1 4 15), .ref 293, .ref 83]) 6 rfl ?_
  refine db_RldO (t3 := none) (c0 := 0) (k := 357) (m := 482) (n := 607) (pc' := 69) (lv1 := [(0, .ref 4)]) rfl rfl rfl rfl rfl rfl ?_ ?_ ?_
  · refine db_RcV (mr' := dbm_97) (as := [.ref 83, .ref 357]) (rest := []) (pc' := 72) (lv1 := [(0, .ref 4)]) rfl rfl rfl rfl rfl (db_f97_83_357_ok) fun s2 => ?_
    exact db_f205_b72_ok
  · refine db_RcV (mr' := dbm_97) (as := [.ref 83, .ref 482]) (rest := []) (pc' := 72) (lv1 := [(0, .ref 4)]) rfl rfl rfl rfl rfl (db_f97_83_482_ok) fun s4 => ?_
    exact db_f205_b72_ok
  · refine db_RcV (mr' := dbm_97) (as := [.ref 83, .ref 607]) (rest := []) (pc' := 72) (lv1 := [(0, .ref 4)]) rfl rfl rfl rfl rfl (db_f97_83_607_ok) fun s6 => ?_
    exact db_f205_b72_ok
noncomputable def db_f205_b40 (s : db_S) : Option (Int32 × db_S) :=
  (if (s.1 4 15) = 0 then ((db_f175_80_354 s).bind fun s2 => (db_f205_b56 s2 )) else if (s.1 4 15) = 1 then ((db_f175_80_479 s).bind fun s4 => (db_f205_b56 s4 )) else if (s.1 4 15) = 2 then ((db_f175_80_604 s).bind fun s6 => (db_f205_b56 s6 )) else none)
set_option maxRecDepth 100000 in
theorem db_f205_b40_ok {X : db_X} {d : Nat}  {s : db_S} : db_Rf X (d + 3) dbm_205 40 [(0, .ref 4)] [] s db_zI (db_f205_b40 s ) := by
  unfold db_f205_b40
  refine db_Rgo (pc' := 52) (lv' := [(0, .ref 4)]) (st' := [.int (s.1 4 15), .ref 292, .ref 80]) 6 rfl ?_
  refine db_RldO (t3 := none) (c0 := 0) (k := 354) (m := 479) (n := 604) (pc' := 53) (lv1 := [(0, .ref 4)]) rfl rfl rfl rfl rfl rfl ?_ ?_ ?_
  · refine db_RcV (mr' := dbm_175) (as := [.ref 80, .ref 354]) (rest := []) (pc' := 56) (lv1 := [(0, .ref 4)]) rfl rfl rfl rfl rfl (db_f175_80_354_ok) fun s2 => ?_
    exact db_f205_b56_ok
  · refine db_RcV (mr' := dbm_175) (as := [.ref 80, .ref 479]) (rest := []) (pc' := 56) (lv1 := [(0, .ref 4)]) rfl rfl rfl rfl rfl (db_f175_80_479_ok) fun s4 => ?_
    exact db_f205_b56_ok
  · refine db_RcV (mr' := dbm_175) (as := [.ref 80, .ref 604]) (rest := []) (pc' := 56) (lv1 := [(0, .ref 4)]) rfl rfl rfl rfl rfl (db_f175_80_604_ok) fun s6 => ?_
    exact db_f205_b56_ok
/-- DreamBook.back()I -/
noncomputable def db_f205 (s : db_S) : Option (Int32 × db_S) :=
  (cond (db_cnd .gt (s.1 4 15) 0) ((db_pI s 4 15 ((s.1 4 15) - (1 : Int32))).bind fun s1 => (if (s1.1 4 15) = 0 then ((db_f82_20_294 s1).bind fun s3 => (db_f205_b40 s3 )) else if (s1.1 4 15) = 1 then ((db_f82_20_419 s1).bind fun s5 => (db_f205_b40 s5 )) else if (s1.1 4 15) = 2 then ((db_f82_20_544 s1).bind fun s7 => (db_f205_b40 s7 )) else none)) (db_bd (db_f37 s (8 : Int32)) fun q8 s9 => (some (q8, s9))))
set_option maxRecDepth 100000 in
theorem db_f205_ok {X : db_X} {d : Nat} {s : db_S} : db_Rf X (d + 3) dbm_205 0 (lv_args 0 [.ref 4]) [] s db_zI (db_f205 s ) := by
  show db_Rf _ _ _ 0 [(0, .ref 4)] [] _ _ _
  unfold db_f205
  refine db_Rgo (pc' := 4) (lv' := [(0, .ref 4)]) (st' := [.int (s.1 4 15)]) 2 rfl ?_
  refine db_Rif (pc' := 7) (tg := 14) (lv1 := [(0, .ref 4)]) rfl rfl rfl rfl ?_ ?_
  · refine db_Rgo (pc' := 21) (lv' := [(0, .ref 4)]) (st' := [.int ((s.1 4 15) - (1 : Int32)), .ref 4]) 5 rfl ?_
    refine db_RpuI (pc' := 24) (lv1 := [(0, .ref 4)]) rfl rfl rfl rfl rfl rfl (by decide) rfl rfl fun s1 => ?_
    refine db_Rgo (pc' := 36) (lv' := [(0, .ref 4)]) (st' := [.int (s1.1 4 15), .ref 291, .ref 20]) 6 rfl ?_
    refine db_RldO (t3 := none) (c0 := 0) (k := 294) (m := 419) (n := 544) (pc' := 37) (lv1 := [(0, .ref 4)]) rfl rfl rfl rfl rfl rfl ?_ ?_ ?_
    · refine db_RcV (mr' := dbm_82) (as := [.ref 20, .ref 294]) (rest := []) (pc' := 40) (lv1 := [(0, .ref 4)]) rfl rfl rfl rfl rfl (db_f82_20_294_ok) fun s3 => ?_
      exact db_f205_b40_ok
    · refine db_RcV (mr' := dbm_82) (as := [.ref 20, .ref 419]) (rest := []) (pc' := 40) (lv1 := [(0, .ref 4)]) rfl rfl rfl rfl rfl (db_f82_20_419_ok) fun s5 => ?_
      exact db_f205_b40_ok
    · refine db_RcV (mr' := dbm_82) (as := [.ref 20, .ref 544]) (rest := []) (pc' := 40) (lv1 := [(0, .ref 4)]) rfl rfl rfl rfl rfl (db_f82_20_544_ok) fun s7 => ?_
      exact db_f205_b40_ok
  refine db_Rgo (pc' := 10) (lv' := [(0, .ref 4)]) (st' := [.int (8 : Int32), .ref 4]) 2 rfl ?_
  refine db_RcdI (mr' := dbm_37) (as := [.ref 4, .int (8 : Int32)]) (rest := []) (pc' := 13) (lv1 := [(0, .ref 4)]) rfl rfl rfl rfl rfl (db_f37_ok) fun q8 s9 => ?_
  exact db_Rret (lv1 := [(0, .ref 4)]) rfl rfl rfl rfl
/-- DreamBookModel.back()I -/
noncomputable def db_f377 (s : db_S) : Option (Int32 × db_S) :=
  ((db_pI s 669 1 (0 : Int32)).bind fun s1 => ((db_pI s1 669 0 (0 : Int32)).bind fun s2 => (cond (db_cnd .ne (s2.1 669 23) 0) ((db_f275 s2 (s2.1 669 23) (0 : Int32)).bind fun s4 => ((db_pI s4 669 23 ((s4.1 669 23) - (1 : Int32))).bind fun s5 => (some ((s5.1 669 23), s5)))) (db_bd (db_f281 s2 (8 : Int32)) fun q6 s7 => (some (q6, s7))))))
set_option maxRecDepth 100000 in
theorem db_f377_ok {X : db_X} {d : Nat} {s : db_S} : db_Rf X (d + 1) dbm_377 0 (lv_args 0 [.ref 669]) [] s db_zI (db_f377 s ) := by
  show db_Rf _ _ _ 0 [(0, .ref 669)] [] _ _ _
  unfold db_f377
  refine db_Rgo (pc' := 2) (lv' := [(0, .ref 669)]) (st' := [.int (0 : Int32), .ref 669]) 2 rfl ?_
  refine db_RpuI (pc' := 5) (lv1 := [(0, .ref 669)]) rfl rfl rfl rfl rfl rfl (by decide) rfl rfl fun s1 => ?_
  refine db_Rgo (pc' := 7) (lv' := [(0, .ref 669)]) (st' := [.int (0 : Int32), .ref 669]) 2 rfl ?_
  refine db_RpuI (pc' := 10) (lv1 := [(0, .ref 669)]) rfl rfl rfl rfl rfl rfl (by decide) rfl rfl fun s2 => ?_
  refine db_Rgo (pc' := 14) (lv' := [(0, .ref 669)]) (st' := [.int (s2.1 669 23)]) 2 rfl ?_
  refine db_Rif (pc' := 17) (tg := 24) (lv1 := [(0, .ref 669)]) rfl rfl rfl rfl ?_ ?_
  · refine db_Rgo (pc' := 30) (lv' := [(0, .ref 669)]) (st' := [.int (0 : Int32), .int (s2.1 669 23), .ref 669]) 4 rfl ?_
    refine db_RcV (mr' := dbm_275) (as := [.ref 669, .int (s2.1 669 23), .int (0 : Int32)]) (rest := []) (pc' := 33) (lv1 := [(0, .ref 669)]) rfl rfl rfl rfl rfl (db_f275_ok) fun s4 => ?_
    refine db_Rgo (pc' := 40) (lv' := [(0, .ref 669)]) (st' := [.int ((s4.1 669 23) - (1 : Int32)), .ref 669]) 5 rfl ?_
    refine db_RpuI (pc' := 43) (lv1 := [(0, .ref 669)]) rfl rfl rfl rfl rfl rfl (by decide) rfl rfl fun s5 => ?_
    refine db_Rgo (pc' := 47) (lv' := [(0, .ref 669)]) (st' := [.int (s5.1 669 23)]) 2 rfl ?_
    exact db_Rret (lv1 := [(0, .ref 669)]) rfl rfl rfl rfl
  refine db_Rgo (pc' := 20) (lv' := [(0, .ref 669)]) (st' := [.int (8 : Int32), .ref 669]) 2 rfl ?_
  refine db_RcdI (mr' := dbm_281) (as := [.ref 669, .int (8 : Int32)]) (rest := []) (pc' := 23) (lv1 := [(0, .ref 669)]) rfl rfl rfl rfl rfl (db_f281_ok) fun q6 s7 => ?_
  exact db_Rret (lv1 := [(0, .ref 669)]) rfl rfl rfl rfl
