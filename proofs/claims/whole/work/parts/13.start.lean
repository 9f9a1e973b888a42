theorem db_arOf {U : State} {cA comp : ClassId} {kA : Class} {ty : FieldType} (h2 : U.vm.classes[cA]? = some kA) (h3 : kA.kind = .array comp ty) : ArrOfT U cA ty := fun _ _ => ⟨fun _ h => (by cases h), kA, h2, comp, h3⟩
theorem db_tks {args : Array Value} {s : State} (hts : ∀ w ∈ lw_tbl, w.before args s = true) : ∃ ck : Nat → ClassId, ∀ (k : Nat) (q : ClassId × FieldType), (db_tl ck)[k]? = some q → ArrOfT s q.1 q.2 ∧ va_RA s q.1 q.2 := by
  obtain ⟨c0, k0, m0, f0, g0, e0⟩ := Cond.arrayClass_spec (hts _ (List.mem_filter.mp (db_wA (.arrayClass .byte) (by simp))).1)
  obtain ⟨c1, k1, m1, f1, g1, e1⟩ := Cond.arrayClass_spec (hts _ (List.mem_filter.mp (db_wA (.arrayClass .int) (by simp))).1)
  obtain ⟨c2, k2, m2, f2, g2, e2⟩ := Cond.arrayClass_spec (hts _ (List.mem_filter.mp (db_wA (.arrayClass .long) (by simp))).1)
  obtain ⟨m3, c3, k3, -, -, g3, e3, f3⟩ := arrayOverA_spec (hts _ db_oAI)
  obtain ⟨m4, c4, k4, -, -, g4, e4, f4⟩ := arrayOverA_spec (hts _ db_oAJ)
  obtain ⟨m5, c5, k5, h5, -, g5, e5, f5⟩ := Cond.arrayOver_spec (hts _ db_oAT)
  obtain ⟨m6, c6, k6, h6, -, g6, e6, f6⟩ := Cond.arrayOver_spec (hts _ db_oAL)
  obtain ⟨m7, c7, k7, h7, -, g7, e7, f7⟩ := Cond.arrayOver_spec (hts _ db_oAP)
  refine ⟨fun k => match k with | 0 => c0 | 1 => c1 | 2 => c2 | 3 => c3 | 4 => c4 | 5 => c5 | 6 => c6 | _ => c7, ?_⟩
  intro k q hq
  have hk : k < 8 := (List.getElem?_eq_some_iff.mp hq).1
  match k, hk, hq with
  | 0, _, hq => cases hq; exact ⟨db_arOf g0 e0, f0⟩
  | 1, _, hq => cases hq; exact ⟨db_arOf g1 e1, f1⟩
  | 2, _, hq => cases hq; exact ⟨db_arOf g2 e2, f2⟩
  | 3, _, hq => cases hq; exact ⟨db_arOf g3 e3, f3⟩
  | 4, _, hq => cases hq; exact ⟨db_arOf g4 e4, f4⟩
  | 5, _, hq => cases hq; exact ⟨db_arOf g5 e5, k5, m5, g5, e5, h5, f5⟩
  | 6, _, hq => cases hq; exact ⟨db_arOf g6 e6, k6, m6, g6, e6, h6, f6⟩
  | 7, _, hq => cases hq; exact ⟨db_arOf g7 e7, k7, m7, g7, e7, h7, f7⟩
  | n + 8, hk, _ => omega
def db_tm : Term := .string "DreamBook$Scanner" 39
theorem db_flS_0 : ∀ j, j < 30 → (flatC (Jvm.Cond.and given_1 narrow_1))[52 + (0 + j)]? = some (Cond.eq (.elem (.field db_tm "java/lang/String" "value" "[B") (.int (Int32.ofNat (0 + j)))) (.int (db_str.getD (0 + j) 0))) := by decide +kernel
theorem db_flS_30 : ∀ j, j < 30 → (flatC (Jvm.Cond.and given_1 narrow_1))[52 + (30 + j)]? = some (Cond.eq (.elem (.field db_tm "java/lang/String" "value" "[B") (.int (Int32.ofNat (30 + j)))) (.int (db_str.getD (30 + j) 0))) := by decide +kernel
theorem db_flS_60 : ∀ j, j < 30 → (flatC (Jvm.Cond.and given_1 narrow_1))[52 + (60 + j)]? = some (Cond.eq (.elem (.field db_tm "java/lang/String" "value" "[B") (.int (Int32.ofNat (60 + j)))) (.int (db_str.getD (60 + j) 0))) := by decide +kernel
theorem db_flS_90 : ∀ j, j < 30 → (flatC (Jvm.Cond.and given_1 narrow_1))[52 + (90 + j)]? = some (Cond.eq (.elem (.field db_tm "java/lang/String" "value" "[B") (.int (Int32.ofNat (90 + j)))) (.int (db_str.getD (90 + j) 0))) := by decide +kernel
theorem db_flS_120 : ∀ j, j < 30 → (flatC (Jvm.Cond.and given_1 narrow_1))[52 + (120 + j)]? = some (Cond.eq (.elem (.field db_tm "java/lang/String" "value" "[B") (.int (Int32.ofNat (120 + j)))) (.int (db_str.getD (120 + j) 0))) := by decide +kernel
theorem db_flS_150 : ∀ j, j < 1 → (flatC (Jvm.Cond.and given_1 narrow_1))[52 + (150 + j)]? = some (Cond.eq (.elem (.field db_tm "java/lang/String" "value" "[B") (.int (Int32.ofNat (150 + j)))) (.int (db_str.getD (150 + j) 0))) := by decide +kernel
theorem db_flS (j : Nat) (hj : j < 151) : Cond.eq (.elem (.field db_tm "java/lang/String" "value" "[B") (.int (Int32.ofNat j))) (.int (db_str.getD j 0)) ∈ flatC (Jvm.Cond.and given_1 narrow_1) := by
  by_cases h0 : j < 30
  · have h := db_flS_0 (j - 0) (by omega)
    rw [show 0 + (j - 0) = j by omega] at h
    exact List.mem_of_getElem? h
  by_cases h30 : j < 60
  · have h := db_flS_30 (j - 30) (by omega)
    rw [show 30 + (j - 30) = j by omega] at h
    exact List.mem_of_getElem? h
  by_cases h60 : j < 90
  · have h := db_flS_60 (j - 60) (by omega)
    rw [show 60 + (j - 60) = j by omega] at h
    exact List.mem_of_getElem? h
  by_cases h90 : j < 120
  · have h := db_flS_90 (j - 90) (by omega)
    rw [show 90 + (j - 90) = j by omega] at h
    exact List.mem_of_getElem? h
  by_cases h120 : j < 150
  · have h := db_flS_120 (j - 120) (by omega)
    rw [show 120 + (j - 120) = j by omega] at h
    exact List.mem_of_getElem? h
  by_cases h150 : j < 151
  · have h := db_flS_150 (j - 150) (by omega)
    rw [show 150 + (j - 150) = j by omega] at h
    exact List.mem_of_getElem? h
  omega
theorem db_flO : ∀ w ∈ ([Cond.exactly db_tm "java/lang/String", Cond.eq (.field db_tm "java/lang/String" "coder" "B") (.int 0), Cond.arrayOf (.field db_tm "java/lang/String" "value" "[B") .byte, Cond.eq (.length (.field db_tm "java/lang/String" "value" "[B")) (.int 151), Cond.eq (.static "java/lang/String" "COMPACT_STRINGS" "Z") (.int 1), Cond.isRef (.static "jdk/internal/util/Preconditions" "SIOOBE_FORMATTER" "Ljava/util/function/BiFunction;")] : List Cond), w ∈ flatC (Jvm.Cond.and given_1 narrow_1) := by decide +kernel
set_option maxRecDepth 20000 in
/-- what is given at the law's entry -/
theorem db_F0 {args : Array Value} {s : State} {b L : Nat} {xs : Nat → Int32} (hts : ∀ w ∈ lw_tbl, w.before args s = true) (hgv : (Jvm.Cond.and given_1 narrow_1).before args s = true) (hX : va_X b L xs s s.heap) (hbl : b < s.heap.size) :
    ∃ (xv : Nat → Value) (D : va_G) (ck : Nat → ClassId), db_F s.heap.size xv D ck (some (L, xs)) s s.heap ∧ xv 0 = .ref b ∧ ∀ i, i < 4 → xv i = .null ∨ ∃ a, xv i = .ref a := by
  have hfl := flat_of_before _ hgv
  have hT : ∀ w ∈ db_T, w.before args s = true := fun w hw => hts w (List.mem_filter.mp hw).1
  have hA : ∀ a : Nat, a < s.heap.size → ¬ (fun q : Nat => s.heap.size ≤ q) a := fun a h => Nat.not_le.mpr h
  have hKn : ∀ k : Nat, ∃ (cC : ClassId) (iS : Nat → Nat), ∀ q : vw_C, db_cl[k]? = some q → u_Kn s q.1 q.2.1 q.2.2 cC iS := by
    intro k
    cases hc : db_cl[k]? with
    | none => exact ⟨0, fun _ => 0, fun q hq => by cases hq⟩
    | some q0 =>
      obtain ⟨C, T, N⟩ := q0
      obtain ⟨ly1, -, -, -, ly5⟩ := db_lay _ _ _ _ hc
      obtain ⟨cC, iS, h⟩ := u_known hT ly1 (hT _ ly5)
      exact ⟨cC, iS, fun q hq => by cases hq; exact h⟩
  obtain ⟨ck, hck⟩ := db_tks hts
  have z0 : ∀ i : Nat, i < 1 → i = 0 := fun i hi => by omega
  obtain ⟨adK, adV, hS, hSe⟩ := vk_Sof (args := args) (s := s) (N := 1) (tm := fun _ => db_tm) (len := [151]) (byt := [db_str]) (A := fun q : Nat => s.heap.size ≤ q) (fun i hi => by cases z0 i hi; decide) (fun _ _ => hfl _ (db_flO _ (by simp))) (fun _ _ => hfl _ (db_flO _ (by simp))) (fun _ _ => hfl _ (db_flO _ (by simp))) (fun i hi => by cases z0 i hi; exact hfl _ (db_flO _ (by simp))) (fun i hi j hj => by cases z0 i hi; exact hfl _ (db_flS j hj)) (fun i j hi hj hij => absurd (show i = j by omega) hij) hA
  obtain ⟨⟨s1, s2, s3, s4⟩, -⟩ := And.intro (hS.1 0 (by omega)) True.intro
  have hCS : (Cond.eq (.static "java/lang/String" "COMPACT_STRINGS" "Z") (.int 1)).before args s = true := hfl _ (db_flO _ (by simp))
  have hSF : (Cond.isRef (.static "jdk/internal/util/Preconditions" "SIOOBE_FORMATTER" "Ljava/util/function/BiFunction;")).before args s = true := hfl _ (db_flO _ (by simp))
  have hZ1 := va_Zof (A := fun q : Nat => s.heap.size ≤ q) (hts _ db_oC) (hts _ db_oIS) (va_eqi hCS) hA
  have hZ2 := va_Zqof (A := fun q : Nat => s.heap.size ≤ q) (hts _ db_oF) (hts _ db_oIP) hSF hA
  obtain ⟨fv, hfv, hZ3⟩ : ∃ fv : Value, (fv = .null ∨ ∃ a, fv = .ref a) ∧ va_Z "jdk/internal/util/Preconditions" "SIOOBE_FORMATTER" "Ljava/util/function/BiFunction;" fv (fun q : Nat => s.heap.size ≤ q) s s.heap := by
    rcases hZ2 with h | ⟨t, h⟩
    · exact ⟨_, Or.inl rfl, h⟩
    · exact ⟨_, Or.inr ⟨t, rfl⟩, h⟩
  refine ⟨fun i => match i with | 0 => .ref b | 1 => .ref (adK 0) | 2 => .ref (adV 0) | _ => fv, (fun k => Classical.choose (hKn k), fun k => Classical.choose (Classical.choose_spec (hKn k))), ck, ⟨⟨fun k q hq => Classical.choose_spec (Classical.choose_spec (hKn k)) q hq, hck⟩, fun w hw hn => va_Nw.of (db_isN_on hn) (hT w hw), ⟨va_AO.of (hts _ db_oAT), va_AO.of (hts _ db_oAL), va_AO.of (hts _ db_oAP)⟩, ⟨hts _ db_oAI, hts _ db_oAJ⟩, ?_, ⟨b, rfl, Nat.not_le.mpr hbl, fun L' xs' h => by cases h; exact hX⟩, ⟨adK 0, adV 0, rfl, rfl, s1, s2, s3, s4, vk_R.of (hts _ db_oS) (hSe 0 (by omega))⟩, hZ1, hZ3⟩, rfl, ?_⟩
  · intro i hi
    match i, hi with
    | 0, _ => rfl
    | 1, _ => rfl
    | 2, _ => rfl
    | 3, _ => rcases hfv with rfl | ⟨a, rfl⟩ <;> rfl
    | n + 4, hi => omega
  · intro i hi
    match i, hi with
    | 0, _ => exact Or.inr ⟨_, rfl⟩
    | 1, _ => exact Or.inr ⟨_, rfl⟩
    | 2, _ => exact Or.inr ⟨_, rfl⟩
    | 3, _ => exact hfv
    | n + 4, hi => omega
theorem db_oka_0 : db_okA dbm_0 := ⟨⟨db_dck_0, db_mck_0, db_lkk_11⟩, db_cod_0⟩
theorem db_oka_1 : db_okA dbm_1 := ⟨⟨db_dck_1, db_mck_1, db_lkk_10⟩, db_cod_1⟩
theorem db_oka_2 : db_okA dbm_2 := ⟨⟨db_dck_2, db_mck_2, db_lkk_18⟩, db_cod_2⟩
theorem db_oka_3 : db_okA dbm_3 := ⟨⟨db_dck_3, db_mck_3, db_lkk_8⟩, db_cod_3⟩
theorem db_oka_4 : db_okA dbm_4 := ⟨⟨db_dck_4, db_mck_4, db_lkk_14⟩, db_cod_4⟩
theorem db_oka_5 : db_okA dbm_5 := ⟨⟨db_dck_5, db_mck_5, db_lkk_14⟩, db_cod_5⟩
theorem db_oka_6 : db_okA dbm_6 := ⟨⟨db_dck_6, db_mck_6, db_lkk_14⟩, db_cod_6⟩
theorem db_oka_7 : db_okA dbm_7 := ⟨⟨db_dck_7, db_mck_7, db_lkk_14⟩, db_cod_7⟩
theorem db_oka_8 : db_okA dbm_8 := ⟨⟨db_dck_8, db_mck_8, db_lkk_15⟩, db_cod_8⟩
theorem db_oka_9 : db_okA dbm_9 := ⟨⟨db_dck_9, db_mck_9, db_lkk_14⟩, db_cod_9⟩
theorem db_oka_10 : db_okA dbm_10 := ⟨⟨db_dck_10, db_mck_10, db_lkk_16⟩, db_cod_10⟩
theorem db_oka_11 : db_okA dbm_11 := ⟨⟨db_dck_11, db_mck_11, db_lkk_8⟩, db_cod_11⟩
theorem db_oka_12 : db_okA dbm_12 := ⟨⟨db_dck_12, db_mck_12, db_lkk_8⟩, db_cod_12⟩
theorem db_oka_13 : db_okA dbm_13 := ⟨⟨db_dck_13, db_mck_13, db_lkk_9⟩, db_cod_13⟩
theorem db_oka_14 : db_okA dbm_14 := ⟨⟨db_dck_14, db_mck_14, db_lkk_2⟩, db_cod_14⟩
theorem db_oka_15 : db_okA dbm_15 := ⟨⟨db_dck_15, db_mck_15, db_lkk_4⟩, db_cod_15⟩
theorem db_oka_16 : db_okA dbm_16 := ⟨⟨db_dck_16, db_mck_16, db_lkk_0⟩, db_cod_16⟩
theorem db_oka_17 : db_okA dbm_17 := ⟨⟨db_dck_17, db_mck_17, db_lkk_5⟩, db_cod_17⟩
theorem db_oka_18 : db_okA dbm_18 := ⟨⟨db_dck_18, db_mck_18, db_lkk_6⟩, db_cod_18⟩
theorem db_oka_19 : db_okA dbm_19 := ⟨⟨db_dck_19, db_mck_19, db_lkk_1⟩, db_cod_19⟩
theorem db_oka_20 : db_okA dbm_20 := ⟨⟨db_dck_20, db_mck_20, db_lkk_3⟩, db_cod_20⟩
theorem db_oka_21 : db_okA dbm_21 := ⟨⟨db_dck_21, db_mck_21, db_lkk_7⟩, db_cod_21⟩
theorem db_oka_22 : db_okA dbm_22 := ⟨⟨db_dck_22, db_mck_22, db_lkk_11⟩, db_cod_22⟩
theorem db_oka_23 : db_okA dbm_23 := ⟨⟨db_dck_23, db_mck_23, db_lkk_11⟩, db_cod_23⟩
theorem db_oka_24 : db_okA dbm_24 := ⟨⟨db_dck_24, db_mck_24, db_lkk_11⟩, db_cod_24⟩
theorem db_oka_25 : db_okA dbm_25 := ⟨⟨db_dck_25, db_mck_25, db_lkk_11⟩, db_cod_25⟩
theorem db_oka_26 : db_okA dbm_26 := ⟨⟨db_dck_26, db_mck_26, db_lkk_10⟩, db_cod_26⟩
theorem db_oka_27 : db_okA dbm_27 := ⟨⟨db_dck_27, db_mck_27, db_lkk_11⟩, db_cod_27⟩
theorem db_oka_28 : db_okA dbm_28 := ⟨⟨db_dck_28, db_mck_28, db_lkk_11⟩, db_cod_28⟩
theorem db_oka_29 : db_okA dbm_29 := ⟨⟨db_dck_29, db_mck_29, db_lkk_10⟩, db_cod_29⟩
theorem db_oka_30 : db_okA dbm_30 := ⟨⟨db_dck_30, db_mck_30, db_lkk_18⟩, db_cod_30⟩
theorem db_oka_31 : db_okA dbm_31 := ⟨⟨db_dck_31, db_mck_31, db_lkk_11⟩, db_cod_31⟩
theorem db_oka_32 : db_okA dbm_32 := ⟨⟨db_dck_32, db_mck_32, db_lkk_11⟩, db_cod_32⟩
theorem db_oka_33 : db_okA dbm_33 := ⟨⟨db_dck_33, db_mck_33, db_lkk_10⟩, db_cod_33⟩
theorem db_oka_34 : db_okA dbm_34 := ⟨⟨db_dck_34, db_mck_34, db_lkk_10⟩, db_cod_34⟩
theorem db_oka_35 : db_okA dbm_35 := ⟨⟨db_dck_35, db_mck_35, db_lkk_10⟩, db_cod_35⟩
theorem db_oka_36 : db_okA dbm_36 := ⟨⟨db_dck_36, db_mck_36, db_lkk_11⟩, db_cod_36⟩
theorem db_oka_37 : db_okA dbm_37 := ⟨⟨db_dck_37, db_mck_37, db_lkk_11⟩, db_cod_37⟩
theorem db_oka_38 : db_okA dbm_38 := ⟨⟨db_dck_38, db_mck_38, db_lkk_11⟩, db_cod_38⟩
theorem db_oka_39 : db_okA dbm_39 := ⟨⟨db_dck_39, db_mck_39, db_lkk_10⟩, db_cod_39⟩
theorem db_oka_40 : db_okA dbm_40 := ⟨⟨db_dck_40, db_mck_40, db_lkk_10⟩, db_cod_40⟩
theorem db_oka_41 : db_okA dbm_41 := ⟨⟨db_dck_41, db_mck_41, db_lkk_11⟩, db_cod_41⟩
theorem db_oka_42 : db_okA dbm_42 := ⟨⟨db_dck_42, db_mck_42, db_lkk_8⟩, db_cod_42⟩
theorem db_oka_43 : db_okA dbm_43 := ⟨⟨db_dck_43, db_mck_43, db_lkk_8⟩, db_cod_43⟩
theorem db_oka_44 : db_okA dbm_44 := ⟨⟨db_dck_44, db_mck_44, db_lkk_11⟩, db_cod_44⟩
theorem db_oka_45 : db_okA dbm_45 := ⟨⟨db_dck_45, db_mck_45, db_lkk_0⟩, db_cod_45⟩
theorem db_oka_46 : db_okA dbm_46 := ⟨⟨db_dck_46, db_mck_46, db_lkk_9⟩, db_cod_46⟩
theorem db_oka_47 : db_okA dbm_47 := ⟨⟨db_dck_47, db_mck_47, db_lkk_8⟩, db_cod_47⟩
theorem db_oka_48 : db_okA dbm_48 := ⟨⟨db_dck_48, db_mck_48, db_lkk_8⟩, db_cod_48⟩
theorem db_oka_49 : db_okA dbm_49 := ⟨⟨db_dck_49, db_mck_49, db_lkk_8⟩, db_cod_49⟩
theorem db_oka_50 : db_okA dbm_50 := ⟨⟨db_dck_50, db_mck_50, db_lkk_8⟩, db_cod_50⟩
theorem db_oka_51 : db_okA dbm_51 := ⟨⟨db_dck_51, db_mck_51, db_lkk_8⟩, db_cod_51⟩
theorem db_oka_52 : db_okA dbm_52 := ⟨⟨db_dck_52, db_mck_52, db_lkk_8⟩, db_cod_52⟩
theorem db_oka_53 : db_okA dbm_53 := ⟨⟨db_dck_53, db_mck_53, db_lkk_8⟩, db_cod_53⟩
theorem db_oka_54 : db_okA dbm_54 := ⟨⟨db_dck_54, db_mck_54, db_lkk_8⟩, db_cod_54⟩
theorem db_oka_55 : db_okA dbm_55 := ⟨⟨db_dck_55, db_mck_55, db_lkk_8⟩, db_cod_55⟩
theorem db_oka_56 : db_okA dbm_56 := ⟨⟨db_dck_56, db_mck_56, db_lkk_0⟩, db_cod_56⟩
theorem db_oka_57 : db_okA dbm_57 := ⟨⟨db_dck_57, db_mck_57, db_lkk_8⟩, db_cod_57⟩
theorem db_oka_58 : db_okA dbm_58 := ⟨⟨db_dck_58, db_mck_58, db_lkk_8⟩, db_cod_58⟩
theorem db_oka_59 : db_okA dbm_59 := ⟨⟨db_dck_59, db_mck_59, db_lkk_0⟩, db_cod_59⟩
theorem db_oka_60 : db_okA dbm_60 := ⟨⟨db_dck_60, db_mck_60, db_lkk_8⟩, db_cod_60⟩
theorem db_oka_61 : db_okA dbm_61 := ⟨⟨db_dck_61, db_mck_61, db_lkk_8⟩, db_cod_61⟩
theorem db_oka_62 : db_okA dbm_62 := ⟨⟨db_dck_62, db_mck_62, db_lkk_8⟩, db_cod_62⟩
theorem db_oka_63 : db_okA dbm_63 := ⟨⟨db_dck_63, db_mck_63, db_lkk_9⟩, db_cod_63⟩
theorem db_oka_64 : db_okA dbm_64 := ⟨⟨db_dck_64, db_mck_64, db_lkk_9⟩, db_cod_64⟩
theorem db_oka_65 : db_okA dbm_65 := ⟨⟨db_dck_65, db_mck_65, db_lkk_0⟩, db_cod_65⟩
theorem db_oka_66 : db_okA dbm_66 := ⟨⟨db_dck_66, db_mck_66, db_lkk_8⟩, db_cod_66⟩
theorem db_oka_67 : db_okA dbm_67 := ⟨⟨db_dck_67, db_mck_67, db_lkk_0⟩, db_cod_67⟩
theorem db_oka_68 : db_okA dbm_68 := ⟨⟨db_dck_68, db_mck_68, db_lkk_8⟩, db_cod_68⟩
theorem db_oka_69 : db_okA dbm_69 := ⟨⟨db_dck_69, db_mck_69, db_lkk_8⟩, db_cod_69⟩
theorem db_oka_70 : db_okA dbm_70 := ⟨⟨db_dck_70, db_mck_70, db_lkk_8⟩, db_cod_70⟩
theorem db_oka_71 : db_okA dbm_71 := ⟨⟨db_dck_71, db_mck_71, db_lkk_9⟩, db_cod_71⟩
theorem db_oka_72 : db_okA dbm_72 := ⟨⟨db_dck_72, db_mck_72, db_lkk_8⟩, db_cod_72⟩
theorem db_oka_73 : db_okA dbm_73 := ⟨⟨db_dck_73, db_mck_73, db_lkk_8⟩, db_cod_73⟩
theorem db_oka_74 : db_okA dbm_74 := ⟨⟨db_dck_74, db_mck_74, db_lkk_0⟩, db_cod_74⟩
theorem db_oka_75 : db_okA dbm_75 := ⟨⟨db_dck_75, db_mck_75, db_lkk_0⟩, db_cod_75⟩
theorem db_oka_76 : db_okA dbm_76 := ⟨⟨db_dck_76, db_mck_76, db_lkk_9⟩, db_cod_76⟩
theorem db_oka_77 : db_okA dbm_77 := ⟨⟨db_dck_77, db_mck_77, db_lkk_0⟩, db_cod_77⟩
theorem db_oka_78 : db_okA dbm_78 := ⟨⟨db_dck_78, db_mck_78, db_lkk_0⟩, db_cod_78⟩
theorem db_oka_79 : db_okA dbm_79 := ⟨⟨db_dck_79, db_mck_79, db_lkk_8⟩, db_cod_79⟩
theorem db_oka_80 : db_okA dbm_80 := ⟨⟨db_dck_80, db_mck_80, db_lkk_9⟩, db_cod_80⟩
theorem db_oka_81 : db_okA dbm_81 := ⟨⟨db_dck_81, db_mck_81, db_lkk_9⟩, db_cod_81⟩
theorem db_oka_82 : db_okA dbm_82 := ⟨⟨db_dck_82, db_mck_82, db_lkk_9⟩, db_cod_82⟩
theorem db_oka_83 : db_okA dbm_83 := ⟨⟨db_dck_83, db_mck_83, db_lkk_11⟩, db_cod_83⟩
theorem db_oka_84 : db_okA dbm_84 := ⟨⟨db_dck_84, db_mck_84, db_lkk_11⟩, db_cod_84⟩
theorem db_oka_85 : db_okA dbm_85 := ⟨⟨db_dck_85, db_mck_85, db_lkk_2⟩, db_cod_85⟩
theorem db_oka_86 : db_okA dbm_86 := ⟨⟨db_dck_86, db_mck_86, db_lkk_4⟩, db_cod_86⟩
theorem db_oka_87 : db_okA dbm_87 := ⟨⟨db_dck_87, db_mck_87, db_lkk_11⟩, db_cod_87⟩
theorem db_oka_88 : db_okA dbm_88 := ⟨⟨db_dck_88, db_mck_88, db_lkk_11⟩, db_cod_88⟩
theorem db_oka_89 : db_okA dbm_89 := ⟨⟨db_dck_89, db_mck_89, db_lkk_5⟩, db_cod_89⟩
theorem db_oka_90 : db_okA dbm_90 := ⟨⟨db_dck_90, db_mck_90, db_lkk_5⟩, db_cod_90⟩
theorem db_oka_91 : db_okA dbm_91 := ⟨⟨db_dck_91, db_mck_91, db_lkk_5⟩, db_cod_91⟩
theorem db_oka_92 : db_okA dbm_92 := ⟨⟨db_dck_92, db_mck_92, db_lkk_5⟩, db_cod_92⟩
theorem db_oka_93 : db_okA dbm_93 := ⟨⟨db_dck_93, db_mck_93, db_lkk_5⟩, db_cod_93⟩
theorem db_oka_94 : db_okA dbm_94 := ⟨⟨db_dck_94, db_mck_94, db_lkk_5⟩, db_cod_94⟩
theorem db_oka_95 : db_okA dbm_95 := ⟨⟨db_dck_95, db_mck_95, db_lkk_5⟩, db_cod_95⟩
theorem db_oka_96 : db_okA dbm_96 := ⟨⟨db_dck_96, db_mck_96, db_lkk_8⟩, db_cod_96⟩
theorem db_oka_97 : db_okA dbm_97 := ⟨⟨db_dck_97, db_mck_97, db_lkk_4⟩, db_cod_97⟩
theorem db_oka_98 : db_okA dbm_98 := ⟨⟨db_dck_98, db_mck_98, db_lkk_11⟩, db_cod_98⟩
theorem db_oka_99 : db_okA dbm_99 := ⟨⟨db_dck_99, db_mck_99, db_lkk_11⟩, db_cod_99⟩
theorem db_oka_100 : db_okA dbm_100 := ⟨⟨db_dck_100, db_mck_100, db_lkk_9⟩, db_cod_100⟩
theorem db_oka_101 : db_okA dbm_101 := ⟨⟨db_dck_101, db_mck_101, db_lkk_6⟩, db_cod_101⟩
theorem db_oka_102 : db_okA dbm_102 := ⟨⟨db_dck_102, db_mck_102, db_lkk_11⟩, db_cod_102⟩
theorem db_oka_103 : db_okA dbm_103 := ⟨⟨db_dck_103, db_mck_103, db_lkk_11⟩, db_cod_103⟩
theorem db_oka_104 : db_okA dbm_104 := ⟨⟨db_dck_104, db_mck_104, db_lkk_6⟩, db_cod_104⟩
theorem db_oka_105 : db_okA dbm_105 := ⟨⟨db_dck_105, db_mck_105, db_lkk_11⟩, db_cod_105⟩
theorem db_oka_106 : db_okA dbm_106 := ⟨⟨db_dck_106, db_mck_106, db_lkk_11⟩, db_cod_106⟩
theorem db_oka_107 : db_okA dbm_107 := ⟨⟨db_dck_107, db_mck_107, db_lkk_11⟩, db_cod_107⟩
theorem db_oka_108 : db_okA dbm_108 := ⟨⟨db_dck_108, db_mck_108, db_lkk_11⟩, db_cod_108⟩
theorem db_oka_109 : db_okA dbm_109 := ⟨⟨db_dck_109, db_mck_109, db_lkk_11⟩, db_cod_109⟩
theorem db_oka_110 : db_okA dbm_110 := ⟨⟨db_dck_110, db_mck_110, db_lkk_11⟩, db_cod_110⟩
theorem db_oka_111 : db_okA dbm_111 := ⟨⟨db_dck_111, db_mck_111, db_lkk_11⟩, db_cod_111⟩
theorem db_oka_112 : db_okA dbm_112 := ⟨⟨db_dck_112, db_mck_112, db_lkk_11⟩, db_cod_112⟩
theorem db_oka_113 : db_okA dbm_113 := ⟨⟨db_dck_113, db_mck_113, db_lkk_11⟩, db_cod_113⟩
theorem db_oka_114 : db_okA dbm_114 := ⟨⟨db_dck_114, db_mck_114, db_lkk_9⟩, db_cod_114⟩
theorem db_oka_115 : db_okA dbm_115 := ⟨⟨db_dck_115, db_mck_115, db_lkk_9⟩, db_cod_115⟩
theorem db_oka_116 : db_okA dbm_116 := ⟨⟨db_dck_116, db_mck_116, db_lkk_9⟩, db_cod_116⟩
theorem db_oka_117 : db_okA dbm_117 := ⟨⟨db_dck_117, db_mck_117, db_lkk_11⟩, db_cod_117⟩
theorem db_oka_118 : db_okA dbm_118 := ⟨⟨db_dck_118, db_mck_118, db_lkk_9⟩, db_cod_118⟩
theorem db_oka_119 : db_okA dbm_119 := ⟨⟨db_dck_119, db_mck_119, db_lkk_11⟩, db_cod_119⟩
theorem db_oka_120 : db_okA dbm_120 := ⟨⟨db_dck_120, db_mck_120, db_lkk_11⟩, db_cod_120⟩
theorem db_oka_121 : db_okA dbm_121 := ⟨⟨db_dck_121, db_mck_121, db_lkk_2⟩, db_cod_121⟩
theorem db_oka_122 : db_okA dbm_122 := ⟨⟨db_dck_122, db_mck_122, db_lkk_11⟩, db_cod_122⟩
theorem db_oka_123 : db_okA dbm_123 := ⟨⟨db_dck_123, db_mck_123, db_lkk_11⟩, db_cod_123⟩
theorem db_oka_124 : db_okA dbm_124 := ⟨⟨db_dck_124, db_mck_124, db_lkk_11⟩, db_cod_124⟩
theorem db_oka_125 : db_okA dbm_125 := ⟨⟨db_dck_125, db_mck_125, db_lkk_11⟩, db_cod_125⟩
theorem db_oka_126 : db_okA dbm_126 := ⟨⟨db_dck_126, db_mck_126, db_lkk_11⟩, db_cod_126⟩
theorem db_oka_127 : db_okA dbm_127 := ⟨⟨db_dck_127, db_mck_127, db_lkk_6⟩, db_cod_127⟩
theorem db_oka_128 : db_okA dbm_128 := ⟨⟨db_dck_128, db_mck_128, db_lkk_6⟩, db_cod_128⟩
theorem db_oka_129 : db_okA dbm_129 := ⟨⟨db_dck_129, db_mck_129, db_lkk_6⟩, db_cod_129⟩
theorem db_oka_130 : db_okA dbm_130 := ⟨⟨db_dck_130, db_mck_130, db_lkk_6⟩, db_cod_130⟩
theorem db_oka_131 : db_okA dbm_131 := ⟨⟨db_dck_131, db_mck_131, db_lkk_6⟩, db_cod_131⟩
theorem db_oka_132 : db_okA dbm_132 := ⟨⟨db_dck_132, db_mck_132, db_lkk_11⟩, db_cod_132⟩
theorem db_oka_133 : db_okA dbm_133 := ⟨⟨db_dck_133, db_mck_133, db_lkk_11⟩, db_cod_133⟩
theorem db_oka_134 : db_okA dbm_134 := ⟨⟨db_dck_134, db_mck_134, db_lkk_11⟩, db_cod_134⟩
theorem db_oka_135 : db_okA dbm_135 := ⟨⟨db_dck_135, db_mck_135, db_lkk_11⟩, db_cod_135⟩
theorem db_oka_136 : db_okA dbm_136 := ⟨⟨db_dck_136, db_mck_136, db_lkk_11⟩, db_cod_136⟩
theorem db_oka_137 : db_okA dbm_137 := ⟨⟨db_dck_137, db_mck_137, db_lkk_7⟩, db_cod_137⟩
theorem db_oka_138 : db_okA dbm_138 := ⟨⟨db_dck_138, db_mck_138, db_lkk_6⟩, db_cod_138⟩
theorem db_oka_139 : db_okA dbm_139 := ⟨⟨db_dck_139, db_mck_139, db_lkk_11⟩, db_cod_139⟩
theorem db_oka_140 : db_okA dbm_140 := ⟨⟨db_dck_140, db_mck_140, db_lkk_6⟩, db_cod_140⟩
theorem db_oka_141 : db_okA dbm_141 := ⟨⟨db_dck_141, db_mck_141, db_lkk_11⟩, db_cod_141⟩
theorem db_oka_142 : db_okA dbm_142 := ⟨⟨db_dck_142, db_mck_142, db_lkk_1⟩, db_cod_142⟩
theorem db_oka_143 : db_okA dbm_143 := ⟨⟨db_dck_143, db_mck_143, db_lkk_11⟩, db_cod_143⟩
theorem db_oka_144 : db_okA dbm_144 := ⟨⟨db_dck_144, db_mck_144, db_lkk_11⟩, db_cod_144⟩
theorem db_oka_145 : db_okA dbm_145 := ⟨⟨db_dck_145, db_mck_145, db_lkk_11⟩, db_cod_145⟩
theorem db_oka_146 : db_okA dbm_146 := ⟨⟨db_dck_146, db_mck_146, db_lkk_9⟩, db_cod_146⟩
theorem db_oka_147 : db_okA dbm_147 := ⟨⟨db_dck_147, db_mck_147, db_lkk_9⟩, db_cod_147⟩
theorem db_oka_148 : db_okA dbm_148 := ⟨⟨db_dck_148, db_mck_148, db_lkk_9⟩, db_cod_148⟩
theorem db_oka_149 : db_okA dbm_149 := ⟨⟨db_dck_149, db_mck_149, db_lkk_11⟩, db_cod_149⟩
theorem db_oka_150 : db_okA dbm_150 := ⟨⟨db_dck_150, db_mck_150, db_lkk_9⟩, db_cod_150⟩
theorem db_oka_151 : db_okA dbm_151 := ⟨⟨db_dck_151, db_mck_151, db_lkk_9⟩, db_cod_151⟩
theorem db_oka_152 : db_okA dbm_152 := ⟨⟨db_dck_152, db_mck_152, db_lkk_17⟩, db_cod_152⟩
theorem db_oka_153 : db_okA dbm_153 := ⟨⟨db_dck_153, db_mck_153, db_lkk_11⟩, db_cod_153⟩
theorem db_oka_154 : db_okA dbm_154 := ⟨⟨db_dck_154, db_mck_154, db_lkk_1⟩, db_cod_154⟩
theorem db_oka_155 : db_okA dbm_155 := ⟨⟨db_dck_155, db_mck_155, db_lkk_1⟩, db_cod_155⟩
theorem db_oka_156 : db_okA dbm_156 := ⟨⟨db_dck_156, db_mck_156, db_lkk_11⟩, db_cod_156⟩
theorem db_oka_157 : db_okA dbm_157 := ⟨⟨db_dck_157, db_mck_157, db_lkk_11⟩, db_cod_157⟩
theorem db_oka_158 : db_okA dbm_158 := ⟨⟨db_dck_158, db_mck_158, db_lkk_9⟩, db_cod_158⟩
theorem db_oka_159 : db_okA dbm_159 := ⟨⟨db_dck_159, db_mck_159, db_lkk_9⟩, db_cod_159⟩
theorem db_oka_160 : db_okA dbm_160 := ⟨⟨db_dck_160, db_mck_160, db_lkk_11⟩, db_cod_160⟩
theorem db_oka_161 : db_okA dbm_161 := ⟨⟨db_dck_161, db_mck_161, db_lkk_11⟩, db_cod_161⟩
theorem db_oka_162 : db_okA dbm_162 := ⟨⟨db_dck_162, db_mck_162, db_lkk_11⟩, db_cod_162⟩
theorem db_oka_163 : db_okA dbm_163 := ⟨⟨db_dck_163, db_mck_163, db_lkk_1⟩, db_cod_163⟩
theorem db_oka_164 : db_okA dbm_164 := ⟨⟨db_dck_164, db_mck_164, db_lkk_1⟩, db_cod_164⟩
theorem db_oka_165 : db_okA dbm_165 := ⟨⟨db_dck_165, db_mck_165, db_lkk_1⟩, db_cod_165⟩
theorem db_oka_166 : db_okA dbm_166 := ⟨⟨db_dck_166, db_mck_166, db_lkk_1⟩, db_cod_166⟩
theorem db_oka_167 : db_okA dbm_167 := ⟨⟨db_dck_167, db_mck_167, db_lkk_11⟩, db_cod_167⟩
theorem db_oka_168 : db_okA dbm_168 := ⟨⟨db_dck_168, db_mck_168, db_lkk_1⟩, db_cod_168⟩
theorem db_oka_169 : db_okA dbm_169 := ⟨⟨db_dck_169, db_mck_169, db_lkk_11⟩, db_cod_169⟩
theorem db_oka_170 : db_okA dbm_170 := ⟨⟨db_dck_170, db_mck_170, db_lkk_1⟩, db_cod_170⟩
theorem db_oka_171 : db_okA dbm_171 := ⟨⟨db_dck_171, db_mck_171, db_lkk_1⟩, db_cod_171⟩
theorem db_oka_172 : db_okA dbm_172 := ⟨⟨db_dck_172, db_mck_172, db_lkk_1⟩, db_cod_172⟩
theorem db_oka_173 : db_okA dbm_173 := ⟨⟨db_dck_173, db_mck_173, db_lkk_11⟩, db_cod_173⟩
theorem db_oka_174 : db_okA dbm_174 := ⟨⟨db_dck_174, db_mck_174, db_lkk_1⟩, db_cod_174⟩
theorem db_oka_175 : db_okA dbm_175 := ⟨⟨db_dck_175, db_mck_175, db_lkk_2⟩, db_cod_175⟩
theorem db_oka_176 : db_okA dbm_176 := ⟨⟨db_dck_176, db_mck_176, db_lkk_1⟩, db_cod_176⟩
theorem db_oka_177 : db_okA dbm_177 := ⟨⟨db_dck_177, db_mck_177, db_lkk_1⟩, db_cod_177⟩
theorem db_oka_178 : db_okA dbm_178 := ⟨⟨db_dck_178, db_mck_178, db_lkk_11⟩, db_cod_178⟩
theorem db_oka_179 : db_okA dbm_179 := ⟨⟨db_dck_179, db_mck_179, db_lkk_11⟩, db_cod_179⟩
theorem db_oka_180 : db_okA dbm_180 := ⟨⟨db_dck_180, db_mck_180, db_lkk_11⟩, db_cod_180⟩
theorem db_oka_181 : db_okA dbm_181 := ⟨⟨db_dck_181, db_mck_181, db_lkk_11⟩, db_cod_181⟩
theorem db_oka_182 : db_okA dbm_182 := ⟨⟨db_dck_182, db_mck_182, db_lkk_1⟩, db_cod_182⟩
theorem db_oka_183 : db_okA dbm_183 := ⟨⟨db_dck_183, db_mck_183, db_lkk_1⟩, db_cod_183⟩
theorem db_oka_184 : db_okA dbm_184 := ⟨⟨db_dck_184, db_mck_184, db_lkk_11⟩, db_cod_184⟩
theorem db_oka_185 : db_okA dbm_185 := ⟨⟨db_dck_185, db_mck_185, db_lkk_1⟩, db_cod_185⟩
theorem db_oka_186 : db_okA dbm_186 := ⟨⟨db_dck_186, db_mck_186, db_lkk_11⟩, db_cod_186⟩
theorem db_oka_187 : db_okA dbm_187 := ⟨⟨db_dck_187, db_mck_187, db_lkk_11⟩, db_cod_187⟩
theorem db_oka_188 : db_okA dbm_188 := ⟨⟨db_dck_188, db_mck_188, db_lkk_3⟩, db_cod_188⟩
theorem db_oka_189 : db_okA dbm_189 := ⟨⟨db_dck_189, db_mck_189, db_lkk_3⟩, db_cod_189⟩
theorem db_oka_190 : db_okA dbm_190 := ⟨⟨db_dck_190, db_mck_190, db_lkk_11⟩, db_cod_190⟩
theorem db_oka_191 : db_okA dbm_191 := ⟨⟨db_dck_191, db_mck_191, db_lkk_3⟩, db_cod_191⟩
theorem db_oka_192 : db_okA dbm_192 := ⟨⟨db_dck_192, db_mck_192, db_lkk_3⟩, db_cod_192⟩
theorem db_oka_193 : db_okA dbm_193 := ⟨⟨db_dck_193, db_mck_193, db_lkk_11⟩, db_cod_193⟩
theorem db_oka_194 : db_okA dbm_194 := ⟨⟨db_dck_194, db_mck_194, db_lkk_7⟩, db_cod_194⟩
theorem db_oka_195 : db_okA dbm_195 := ⟨⟨db_dck_195, db_mck_195, db_lkk_7⟩, db_cod_195⟩
theorem db_oka_196 : db_okA dbm_196 := ⟨⟨db_dck_196, db_mck_196, db_lkk_7⟩, db_cod_196⟩
theorem db_oka_197 : db_okA dbm_197 := ⟨⟨db_dck_197, db_mck_197, db_lkk_7⟩, db_cod_197⟩
theorem db_oka_198 : db_okA dbm_198 := ⟨⟨db_dck_198, db_mck_198, db_lkk_7⟩, db_cod_198⟩
theorem db_oka_199 : db_okA dbm_199 := ⟨⟨db_dck_199, db_mck_199, db_lkk_17⟩, db_cod_199⟩
theorem db_oka_200 : db_okA dbm_200 := ⟨⟨db_dck_200, db_mck_200, db_lkk_7⟩, db_cod_200⟩
theorem db_oka_201 : db_okA dbm_201 := ⟨⟨db_dck_201, db_mck_201, db_lkk_11⟩, db_cod_201⟩
theorem db_oka_202 : db_okA dbm_202 := ⟨⟨db_dck_202, db_mck_202, db_lkk_11⟩, db_cod_202⟩
theorem db_oka_203 : db_okA dbm_203 := ⟨⟨db_dck_203, db_mck_203, db_lkk_7⟩, db_cod_203⟩
theorem db_oka_204 : db_okA dbm_204 := ⟨⟨db_dck_204, db_mck_204, db_lkk_11⟩, db_cod_204⟩
theorem db_oka_205 : db_okA dbm_205 := ⟨⟨db_dck_205, db_mck_205, db_lkk_11⟩, db_cod_205⟩
theorem db_oka_206 : db_okA dbm_206 := ⟨⟨db_dck_206, db_mck_206, db_lkk_12⟩, db_cod_206⟩
theorem db_oka_207 : db_okA dbm_207 := ⟨⟨db_dck_207, db_mck_207, db_lkk_12⟩, db_cod_207⟩
theorem db_oka_208 : db_okA dbm_208 := ⟨⟨db_dck_208, db_mck_208, db_lkk_12⟩, db_cod_208⟩
theorem db_oka_209 : db_okA dbm_209 := ⟨⟨db_dck_209, db_mck_209, db_lkk_12⟩, db_cod_209⟩
theorem db_oka_210 : db_okA dbm_210 := ⟨⟨db_dck_210, db_mck_210, db_lkk_12⟩, db_cod_210⟩
theorem db_oka_211 : db_okA dbm_211 := ⟨⟨db_dck_211, db_mck_211, db_lkk_12⟩, db_cod_211⟩
theorem db_oka_212 : db_okA dbm_212 := ⟨⟨db_dck_212, db_mck_212, db_lkk_12⟩, db_cod_212⟩
theorem db_oka_213 : db_okA dbm_213 := ⟨⟨db_dck_213, db_mck_213, db_lkk_12⟩, db_cod_213⟩
theorem db_oka_214 : db_okA dbm_214 := ⟨⟨db_dck_214, db_mck_214, db_lkk_12⟩, db_cod_214⟩
theorem db_oka_215 : db_okA dbm_215 := ⟨⟨db_dck_215, db_mck_215, db_lkk_12⟩, db_cod_215⟩
theorem db_oka_216 : db_okA dbm_216 := ⟨⟨db_dck_216, db_mck_216, db_lkk_12⟩, db_cod_216⟩
theorem db_oka_217 : db_okA dbm_217 := ⟨⟨db_dck_217, db_mck_217, db_lkk_12⟩, db_cod_217⟩
theorem db_oka_218 : db_okA dbm_218 := ⟨⟨db_dck_218, db_mck_218, db_lkk_12⟩, db_cod_218⟩
theorem db_oka_219 : db_okA dbm_219 := ⟨⟨db_dck_219, db_mck_219, db_lkk_12⟩, db_cod_219⟩
theorem db_oka_220 : db_okA dbm_220 := ⟨⟨db_dck_220, db_mck_220, db_lkk_12⟩, db_cod_220⟩
theorem db_oka_221 : db_okA dbm_221 := ⟨⟨db_dck_221, db_mck_221, db_lkk_12⟩, db_cod_221⟩
theorem db_oka_222 : db_okA dbm_222 := ⟨⟨db_dck_222, db_mck_222, db_lkk_12⟩, db_cod_222⟩
theorem db_oka_223 : db_okA dbm_223 := ⟨⟨db_dck_223, db_mck_223, db_lkk_12⟩, db_cod_223⟩
theorem db_oka_224 : db_okA dbm_224 := ⟨⟨db_dck_224, db_mck_224, db_lkk_12⟩, db_cod_224⟩
theorem db_oka_225 : db_okA dbm_225 := ⟨⟨db_dck_225, db_mck_225, db_lkk_12⟩, db_cod_225⟩
theorem db_oka_226 : db_okA dbm_226 := ⟨⟨db_dck_226, db_mck_226, db_lkk_12⟩, db_cod_226⟩
theorem db_oka_227 : db_okA dbm_227 := ⟨⟨db_dck_227, db_mck_227, db_lkk_12⟩, db_cod_227⟩
theorem db_oka_228 : db_okA dbm_228 := ⟨⟨db_dck_228, db_mck_228, db_lkk_12⟩, db_cod_228⟩
theorem db_oka_229 : db_okA dbm_229 := ⟨⟨db_dck_229, db_mck_229, db_lkk_12⟩, db_cod_229⟩
theorem db_oka_230 : db_okA dbm_230 := ⟨⟨db_dck_230, db_mck_230, db_lkk_12⟩, db_cod_230⟩
theorem db_oka_231 : db_okA dbm_231 := ⟨⟨db_dck_231, db_mck_231, db_lkk_12⟩, db_cod_231⟩
theorem db_oka_232 : db_okA dbm_232 := ⟨⟨db_dck_232, db_mck_232, db_lkk_12⟩, db_cod_232⟩
theorem db_oka_233 : db_okA dbm_233 := ⟨⟨db_dck_233, db_mck_233, db_lkk_12⟩, db_cod_233⟩
theorem db_oka_234 : db_okA dbm_234 := ⟨⟨db_dck_234, db_mck_234, db_lkk_12⟩, db_cod_234⟩
theorem db_oka_235 : db_okA dbm_235 := ⟨⟨db_dck_235, db_mck_235, db_lkk_12⟩, db_cod_235⟩
theorem db_oka_236 : db_okA dbm_236 := ⟨⟨db_dck_236, db_mck_236, db_lkk_12⟩, db_cod_236⟩
theorem db_oka_237 : db_okA dbm_237 := ⟨⟨db_dck_237, db_mck_237, db_lkk_12⟩, db_cod_237⟩
theorem db_oka_238 : db_okA dbm_238 := ⟨⟨db_dck_238, db_mck_238, db_lkk_12⟩, db_cod_238⟩
theorem db_oka_239 : db_okA dbm_239 := ⟨⟨db_dck_239, db_mck_239, db_lkk_12⟩, db_cod_239⟩
theorem db_oka_240 : db_okA dbm_240 := ⟨⟨db_dck_240, db_mck_240, db_lkk_12⟩, db_cod_240⟩
theorem db_oka_241 : db_okA dbm_241 := ⟨⟨db_dck_241, db_mck_241, db_lkk_12⟩, db_cod_241⟩
theorem db_oka_242 : db_okA dbm_242 := ⟨⟨db_dck_242, db_mck_242, db_lkk_12⟩, db_cod_242⟩
theorem db_oka_243 : db_okA dbm_243 := ⟨⟨db_dck_243, db_mck_243, db_lkk_12⟩, db_cod_243⟩
theorem db_oka_244 : db_okA dbm_244 := ⟨⟨db_dck_244, db_mck_244, db_lkk_12⟩, db_cod_244⟩
theorem db_oka_245 : db_okA dbm_245 := ⟨⟨db_dck_245, db_mck_245, db_lkk_12⟩, db_cod_245⟩
theorem db_oka_246 : db_okA dbm_246 := ⟨⟨db_dck_246, db_mck_246, db_lkk_12⟩, db_cod_246⟩
theorem db_oka_247 : db_okA dbm_247 := ⟨⟨db_dck_247, db_mck_247, db_lkk_12⟩, db_cod_247⟩
theorem db_oka_248 : db_okA dbm_248 := ⟨⟨db_dck_248, db_mck_248, db_lkk_12⟩, db_cod_248⟩
theorem db_oka_249 : db_okA dbm_249 := ⟨⟨db_dck_249, db_mck_249, db_lkk_12⟩, db_cod_249⟩
theorem db_oka_250 : db_okA dbm_250 := ⟨⟨db_dck_250, db_mck_250, db_lkk_12⟩, db_cod_250⟩
theorem db_oka_251 : db_okA dbm_251 := ⟨⟨db_dck_251, db_mck_251, db_lkk_12⟩, db_cod_251⟩
theorem db_oka_252 : db_okA dbm_252 := ⟨⟨db_dck_252, db_mck_252, db_lkk_12⟩, db_cod_252⟩
theorem db_oka_253 : db_okA dbm_253 := ⟨⟨db_dck_253, db_mck_253, db_lkk_12⟩, db_cod_253⟩
theorem db_oka_254 : db_okA dbm_254 := ⟨⟨db_dck_254, db_mck_254, db_lkk_12⟩, db_cod_254⟩
theorem db_oka_255 : db_okA dbm_255 := ⟨⟨db_dck_255, db_mck_255, db_lkk_12⟩, db_cod_255⟩
theorem db_oka_256 : db_okA dbm_256 := ⟨⟨db_dck_256, db_mck_256, db_lkk_12⟩, db_cod_256⟩
theorem db_oka_257 : db_okA dbm_257 := ⟨⟨db_dck_257, db_mck_257, db_lkk_12⟩, db_cod_257⟩
theorem db_oka_258 : db_okA dbm_258 := ⟨⟨db_dck_258, db_mck_258, db_lkk_12⟩, db_cod_258⟩
theorem db_oka_259 : db_okA dbm_259 := ⟨⟨db_dck_259, db_mck_259, db_lkk_12⟩, db_cod_259⟩
theorem db_oka_260 : db_okA dbm_260 := ⟨⟨db_dck_260, db_mck_260, db_lkk_12⟩, db_cod_260⟩
theorem db_oka_261 : db_okA dbm_261 := ⟨⟨db_dck_261, db_mck_261, db_lkk_12⟩, db_cod_261⟩
theorem db_oka_262 : db_okA dbm_262 := ⟨⟨db_dck_262, db_mck_262, db_lkk_12⟩, db_cod_262⟩
theorem db_oka_263 : db_okA dbm_263 := ⟨⟨db_dck_263, db_mck_263, db_lkk_12⟩, db_cod_263⟩
theorem db_oka_264 : db_okA dbm_264 := ⟨⟨db_dck_264, db_mck_264, db_lkk_12⟩, db_cod_264⟩
theorem db_oka_265 : db_okA dbm_265 := ⟨⟨db_dck_265, db_mck_265, db_lkk_12⟩, db_cod_265⟩
theorem db_oka_266 : db_okA dbm_266 := ⟨⟨db_dck_266, db_mck_266, db_lkk_12⟩, db_cod_266⟩
theorem db_oka_267 : db_okA dbm_267 := ⟨⟨db_dck_267, db_mck_267, db_lkk_12⟩, db_cod_267⟩
theorem db_oka_268 : db_okA dbm_268 := ⟨⟨db_dck_268, db_mck_268, db_lkk_12⟩, db_cod_268⟩
theorem db_oka_269 : db_okA dbm_269 := ⟨⟨db_dck_269, db_mck_269, db_lkk_12⟩, db_cod_269⟩
theorem db_oka_270 : db_okA dbm_270 := ⟨⟨db_dck_270, db_mck_270, db_lkk_12⟩, db_cod_270⟩
theorem db_oka_271 : db_okA dbm_271 := ⟨⟨db_dck_271, db_mck_271, db_lkk_12⟩, db_cod_271⟩
theorem db_oka_272 : db_okA dbm_272 := ⟨⟨db_dck_272, db_mck_272, db_lkk_12⟩, db_cod_272⟩
theorem db_oka_273 : db_okA dbm_273 := ⟨⟨db_dck_273, db_mck_273, db_lkk_12⟩, db_cod_273⟩
theorem db_oka_274 : db_okA dbm_274 := ⟨⟨db_dck_274, db_mck_274, db_lkk_12⟩, db_cod_274⟩
theorem db_oka_275 : db_okA dbm_275 := ⟨⟨db_dck_275, db_mck_275, db_lkk_12⟩, db_cod_275⟩
theorem db_oka_276 : db_okA dbm_276 := ⟨⟨db_dck_276, db_mck_276, db_lkk_12⟩, db_cod_276⟩
theorem db_oka_277 : db_okA dbm_277 := ⟨⟨db_dck_277, db_mck_277, db_lkk_12⟩, db_cod_277⟩
theorem db_oka_278 : db_okA dbm_278 := ⟨⟨db_dck_278, db_mck_278, db_lkk_12⟩, db_cod_278⟩
theorem db_oka_279 : db_okA dbm_279 := ⟨⟨db_dck_279, db_mck_279, db_lkk_12⟩, db_cod_279⟩
theorem db_oka_280 : db_okA dbm_280 := ⟨⟨db_dck_280, db_mck_280, db_lkk_12⟩, db_cod_280⟩
theorem db_oka_281 : db_okA dbm_281 := ⟨⟨db_dck_281, db_mck_281, db_lkk_12⟩, db_cod_281⟩
theorem db_oka_282 : db_okA dbm_282 := ⟨⟨db_dck_282, db_mck_282, db_lkk_12⟩, db_cod_282⟩
theorem db_oka_283 : db_okA dbm_283 := ⟨⟨db_dck_283, db_mck_283, db_lkk_12⟩, db_cod_283⟩
theorem db_oka_284 : db_okA dbm_284 := ⟨⟨db_dck_284, db_mck_284, db_lkk_12⟩, db_cod_284⟩
theorem db_oka_285 : db_okA dbm_285 := ⟨⟨db_dck_285, db_mck_285, db_lkk_12⟩, db_cod_285⟩
theorem db_oka_286 : db_okA dbm_286 := ⟨⟨db_dck_286, db_mck_286, db_lkk_12⟩, db_cod_286⟩
theorem db_oka_287 : db_okA dbm_287 := ⟨⟨db_dck_287, db_mck_287, db_lkk_12⟩, db_cod_287⟩
theorem db_oka_288 : db_okA dbm_288 := ⟨⟨db_dck_288, db_mck_288, db_lkk_12⟩, db_cod_288⟩
theorem db_oka_289 : db_okA dbm_289 := ⟨⟨db_dck_289, db_mck_289, db_lkk_12⟩, db_cod_289⟩
theorem db_oka_290 : db_okA dbm_290 := ⟨⟨db_dck_290, db_mck_290, db_lkk_12⟩, db_cod_290⟩
theorem db_oka_291 : db_okA dbm_291 := ⟨⟨db_dck_291, db_mck_291, db_lkk_12⟩, db_cod_291⟩
theorem db_oka_292 : db_okA dbm_292 := ⟨⟨db_dck_292, db_mck_292, db_lkk_12⟩, db_cod_292⟩
theorem db_oka_293 : db_okA dbm_293 := ⟨⟨db_dck_293, db_mck_293, db_lkk_12⟩, db_cod_293⟩
theorem db_oka_294 : db_okA dbm_294 := ⟨⟨db_dck_294, db_mck_294, db_lkk_12⟩, db_cod_294⟩
theorem db_oka_295 : db_okA dbm_295 := ⟨⟨db_dck_295, db_mck_295, db_lkk_12⟩, db_cod_295⟩
theorem db_oka_296 : db_okA dbm_296 := ⟨⟨db_dck_296, db_mck_296, db_lkk_12⟩, db_cod_296⟩
theorem db_oka_297 : db_okA dbm_297 := ⟨⟨db_dck_297, db_mck_297, db_lkk_12⟩, db_cod_297⟩
theorem db_oka_298 : db_okA dbm_298 := ⟨⟨db_dck_298, db_mck_298, db_lkk_12⟩, db_cod_298⟩
theorem db_oka_299 : db_okA dbm_299 := ⟨⟨db_dck_299, db_mck_299, db_lkk_12⟩, db_cod_299⟩
theorem db_oka_300 : db_okA dbm_300 := ⟨⟨db_dck_300, db_mck_300, db_lkk_12⟩, db_cod_300⟩
theorem db_oka_301 : db_okA dbm_301 := ⟨⟨db_dck_301, db_mck_301, db_lkk_12⟩, db_cod_301⟩
theorem db_oka_302 : db_okA dbm_302 := ⟨⟨db_dck_302, db_mck_302, db_lkk_12⟩, db_cod_302⟩
theorem db_oka_303 : db_okA dbm_303 := ⟨⟨db_dck_303, db_mck_303, db_lkk_12⟩, db_cod_303⟩
theorem db_oka_304 : db_okA dbm_304 := ⟨⟨db_dck_304, db_mck_304, db_lkk_12⟩, db_cod_304⟩
theorem db_oka_305 : db_okA dbm_305 := ⟨⟨db_dck_305, db_mck_305, db_lkk_12⟩, db_cod_305⟩
theorem db_oka_306 : db_okA dbm_306 := ⟨⟨db_dck_306, db_mck_306, db_lkk_12⟩, db_cod_306⟩
theorem db_oka_307 : db_okA dbm_307 := ⟨⟨db_dck_307, db_mck_307, db_lkk_12⟩, db_cod_307⟩
theorem db_oka_308 : db_okA dbm_308 := ⟨⟨db_dck_308, db_mck_308, db_lkk_12⟩, db_cod_308⟩
theorem db_oka_309 : db_okA dbm_309 := ⟨⟨db_dck_309, db_mck_309, db_lkk_12⟩, db_cod_309⟩
theorem db_oka_310 : db_okA dbm_310 := ⟨⟨db_dck_310, db_mck_310, db_lkk_12⟩, db_cod_310⟩
theorem db_oka_311 : db_okA dbm_311 := ⟨⟨db_dck_311, db_mck_311, db_lkk_12⟩, db_cod_311⟩
theorem db_oka_312 : db_okA dbm_312 := ⟨⟨db_dck_312, db_mck_312, db_lkk_12⟩, db_cod_312⟩
theorem db_oka_313 : db_okA dbm_313 := ⟨⟨db_dck_313, db_mck_313, db_lkk_12⟩, db_cod_313⟩
theorem db_oka_314 : db_okA dbm_314 := ⟨⟨db_dck_314, db_mck_314, db_lkk_12⟩, db_cod_314⟩
theorem db_oka_315 : db_okA dbm_315 := ⟨⟨db_dck_315, db_mck_315, db_lkk_12⟩, db_cod_315⟩
theorem db_oka_316 : db_okA dbm_316 := ⟨⟨db_dck_316, db_mck_316, db_lkk_12⟩, db_cod_316⟩
theorem db_oka_317 : db_okA dbm_317 := ⟨⟨db_dck_317, db_mck_317, db_lkk_12⟩, db_cod_317⟩
theorem db_oka_318 : db_okA dbm_318 := ⟨⟨db_dck_318, db_mck_318, db_lkk_12⟩, db_cod_318⟩
theorem db_oka_319 : db_okA dbm_319 := ⟨⟨db_dck_319, db_mck_319, db_lkk_12⟩, db_cod_319⟩
theorem db_oka_320 : db_okA dbm_320 := ⟨⟨db_dck_320, db_mck_320, db_lkk_12⟩, db_cod_320⟩
theorem db_oka_321 : db_okA dbm_321 := ⟨⟨db_dck_321, db_mck_321, db_lkk_12⟩, db_cod_321⟩
theorem db_oka_322 : db_okA dbm_322 := ⟨⟨db_dck_322, db_mck_322, db_lkk_12⟩, db_cod_322⟩
theorem db_oka_323 : db_okA dbm_323 := ⟨⟨db_dck_323, db_mck_323, db_lkk_12⟩, db_cod_323⟩
theorem db_oka_324 : db_okA dbm_324 := ⟨⟨db_dck_324, db_mck_324, db_lkk_12⟩, db_cod_324⟩
theorem db_oka_325 : db_okA dbm_325 := ⟨⟨db_dck_325, db_mck_325, db_lkk_12⟩, db_cod_325⟩
theorem db_oka_326 : db_okA dbm_326 := ⟨⟨db_dck_326, db_mck_326, db_lkk_12⟩, db_cod_326⟩
theorem db_oka_327 : db_okA dbm_327 := ⟨⟨db_dck_327, db_mck_327, db_lkk_12⟩, db_cod_327⟩
theorem db_oka_328 : db_okA dbm_328 := ⟨⟨db_dck_328, db_mck_328, db_lkk_12⟩, db_cod_328⟩
theorem db_oka_329 : db_okA dbm_329 := ⟨⟨db_dck_329, db_mck_329, db_lkk_12⟩, db_cod_329⟩
theorem db_oka_330 : db_okA dbm_330 := ⟨⟨db_dck_330, db_mck_330, db_lkk_12⟩, db_cod_330⟩
theorem db_oka_331 : db_okA dbm_331 := ⟨⟨db_dck_331, db_mck_331, db_lkk_12⟩, db_cod_331⟩
theorem db_oka_332 : db_okA dbm_332 := ⟨⟨db_dck_332, db_mck_332, db_lkk_12⟩, db_cod_332⟩
theorem db_oka_333 : db_okA dbm_333 := ⟨⟨db_dck_333, db_mck_333, db_lkk_12⟩, db_cod_333⟩
theorem db_oka_334 : db_okA dbm_334 := ⟨⟨db_dck_334, db_mck_334, db_lkk_12⟩, db_cod_334⟩
theorem db_oka_335 : db_okA dbm_335 := ⟨⟨db_dck_335, db_mck_335, db_lkk_12⟩, db_cod_335⟩
theorem db_oka_336 : db_okA dbm_336 := ⟨⟨db_dck_336, db_mck_336, db_lkk_12⟩, db_cod_336⟩
theorem db_oka_337 : db_okA dbm_337 := ⟨⟨db_dck_337, db_mck_337, db_lkk_12⟩, db_cod_337⟩
theorem db_oka_338 : db_okA dbm_338 := ⟨⟨db_dck_338, db_mck_338, db_lkk_12⟩, db_cod_338⟩
theorem db_oka_339 : db_okA dbm_339 := ⟨⟨db_dck_339, db_mck_339, db_lkk_12⟩, db_cod_339⟩
theorem db_oka_340 : db_okA dbm_340 := ⟨⟨db_dck_340, db_mck_340, db_lkk_12⟩, db_cod_340⟩
theorem db_oka_341 : db_okA dbm_341 := ⟨⟨db_dck_341, db_mck_341, db_lkk_12⟩, db_cod_341⟩
theorem db_oka_342 : db_okA dbm_342 := ⟨⟨db_dck_342, db_mck_342, db_lkk_12⟩, db_cod_342⟩
theorem db_oka_343 : db_okA dbm_343 := ⟨⟨db_dck_343, db_mck_343, db_lkk_12⟩, db_cod_343⟩
theorem db_oka_344 : db_okA dbm_344 := ⟨⟨db_dck_344, db_mck_344, db_lkk_12⟩, db_cod_344⟩
theorem db_oka_345 : db_okA dbm_345 := ⟨⟨db_dck_345, db_mck_345, db_lkk_12⟩, db_cod_345⟩
theorem db_oka_346 : db_okA dbm_346 := ⟨⟨db_dck_346, db_mck_346, db_lkk_12⟩, db_cod_346⟩
theorem db_oka_347 : db_okA dbm_347 := ⟨⟨db_dck_347, db_mck_347, db_lkk_12⟩, db_cod_347⟩
theorem db_oka_348 : db_okA dbm_348 := ⟨⟨db_dck_348, db_mck_348, db_lkk_12⟩, db_cod_348⟩
theorem db_oka_349 : db_okA dbm_349 := ⟨⟨db_dck_349, db_mck_349, db_lkk_12⟩, db_cod_349⟩
theorem db_oka_350 : db_okA dbm_350 := ⟨⟨db_dck_350, db_mck_350, db_lkk_12⟩, db_cod_350⟩
theorem db_oka_351 : db_okA dbm_351 := ⟨⟨db_dck_351, db_mck_351, db_lkk_12⟩, db_cod_351⟩
theorem db_oka_352 : db_okA dbm_352 := ⟨⟨db_dck_352, db_mck_352, db_lkk_12⟩, db_cod_352⟩
theorem db_oka_353 : db_okA dbm_353 := ⟨⟨db_dck_353, db_mck_353, db_lkk_12⟩, db_cod_353⟩
theorem db_oka_354 : db_okA dbm_354 := ⟨⟨db_dck_354, db_mck_354, db_lkk_12⟩, db_cod_354⟩
theorem db_oka_355 : db_okA dbm_355 := ⟨⟨db_dck_355, db_mck_355, db_lkk_12⟩, db_cod_355⟩
theorem db_oka_356 : db_okA dbm_356 := ⟨⟨db_dck_356, db_mck_356, db_lkk_12⟩, db_cod_356⟩
theorem db_oka_357 : db_okA dbm_357 := ⟨⟨db_dck_357, db_mck_357, db_lkk_12⟩, db_cod_357⟩
theorem db_oka_358 : db_okA dbm_358 := ⟨⟨db_dck_358, db_mck_358, db_lkk_12⟩, db_cod_358⟩
theorem db_oka_359 : db_okA dbm_359 := ⟨⟨db_dck_359, db_mck_359, db_lkk_12⟩, db_cod_359⟩
theorem db_oka_360 : db_okA dbm_360 := ⟨⟨db_dck_360, db_mck_360, db_lkk_12⟩, db_cod_360⟩
theorem db_oka_361 : db_okA dbm_361 := ⟨⟨db_dck_361, db_mck_361, db_lkk_12⟩, db_cod_361⟩
theorem db_oka_362 : db_okA dbm_362 := ⟨⟨db_dck_362, db_mck_362, db_lkk_12⟩, db_cod_362⟩
theorem db_oka_363 : db_okA dbm_363 := ⟨⟨db_dck_363, db_mck_363, db_lkk_12⟩, db_cod_363⟩
theorem db_oka_364 : db_okA dbm_364 := ⟨⟨db_dck_364, db_mck_364, db_lkk_12⟩, db_cod_364⟩
theorem db_oka_365 : db_okA dbm_365 := ⟨⟨db_dck_365, db_mck_365, db_lkk_12⟩, db_cod_365⟩
theorem db_oka_366 : db_okA dbm_366 := ⟨⟨db_dck_366, db_mck_366, db_lkk_12⟩, db_cod_366⟩
theorem db_oka_367 : db_okA dbm_367 := ⟨⟨db_dck_367, db_mck_367, db_lkk_12⟩, db_cod_367⟩
theorem db_oka_368 : db_okA dbm_368 := ⟨⟨db_dck_368, db_mck_368, db_lkk_12⟩, db_cod_368⟩
theorem db_oka_369 : db_okA dbm_369 := ⟨⟨db_dck_369, db_mck_369, db_lkk_12⟩, db_cod_369⟩
theorem db_oka_370 : db_okA dbm_370 := ⟨⟨db_dck_370, db_mck_370, db_lkk_12⟩, db_cod_370⟩
theorem db_oka_371 : db_okA dbm_371 := ⟨⟨db_dck_371, db_mck_371, db_lkk_12⟩, db_cod_371⟩
theorem db_oka_372 : db_okA dbm_372 := ⟨⟨db_dck_372, db_mck_372, db_lkk_12⟩, db_cod_372⟩
theorem db_oka_373 : db_okA dbm_373 := ⟨⟨db_dck_373, db_mck_373, db_lkk_12⟩, db_cod_373⟩
theorem db_oka_374 : db_okA dbm_374 := ⟨⟨db_dck_374, db_mck_374, db_lkk_12⟩, db_cod_374⟩
theorem db_oka_375 : db_okA dbm_375 := ⟨⟨db_dck_375, db_mck_375, db_lkk_12⟩, db_cod_375⟩
theorem db_oka_376 : db_okA dbm_376 := ⟨⟨db_dck_376, db_mck_376, db_lkk_12⟩, db_cod_376⟩
theorem db_oka_377 : db_okA dbm_377 := ⟨⟨db_dck_377, db_mck_377, db_lkk_12⟩, db_cod_377⟩
noncomputable def db_ms_0 : List db_MR := [dbm_0, dbm_1, dbm_2, dbm_3, dbm_4, dbm_5, dbm_6, dbm_7, dbm_8, dbm_9, dbm_10, dbm_11, dbm_12, dbm_13, dbm_14, dbm_15, dbm_16, dbm_17, dbm_18, dbm_19, dbm_20, dbm_21, dbm_22, dbm_23, dbm_24, dbm_25, dbm_26, dbm_27, dbm_28, dbm_29, dbm_30, dbm_31, dbm_32, dbm_33, dbm_34, dbm_35, dbm_36, dbm_37, dbm_38, dbm_39, dbm_40, dbm_41]
set_option maxRecDepth 100000 in
theorem db_msa_0 : ∀ mr ∈ db_ms_0, db_okA mr := (List.forall_mem_cons.mpr ⟨db_oka_0, (List.forall_mem_cons.mpr ⟨db_oka_1, (List.forall_mem_cons.mpr ⟨db_oka_2, (List.forall_mem_cons.mpr ⟨db_oka_3, (List.forall_mem_cons.mpr ⟨db_oka_4, (List.forall_mem_cons.mpr ⟨db_oka_5, (List.forall_mem_cons.mpr ⟨db_oka_6, (List.forall_mem_cons.mpr ⟨db_oka_7, (List.forall_mem_cons.mpr ⟨db_oka_8, (List.forall_mem_cons.mpr ⟨db_oka_9, (List.forall_mem_cons.mpr ⟨db_oka_10, (List.forall_mem_cons.mpr ⟨db_oka_11, (List.forall_mem_cons.mpr ⟨db_oka_12, (List.forall_mem_cons.mpr ⟨db_oka_13, (List.forall_mem_cons.mpr ⟨db_oka_14, (List.forall_mem_cons.mpr ⟨db_oka_15, (List.forall_mem_cons.mpr ⟨db_oka_16, (List.forall_mem_cons.mpr ⟨db_oka_17, (List.forall_mem_cons.mpr ⟨db_oka_18, (List.forall_mem_cons.mpr ⟨db_oka_19, (List.forall_mem_cons.mpr ⟨db_oka_20, (List.forall_mem_cons.mpr ⟨db_oka_21, (List.forall_mem_cons.mpr ⟨db_oka_22, (List.forall_mem_cons.mpr ⟨db_oka_23, (List.forall_mem_cons.mpr ⟨db_oka_24, (List.forall_mem_cons.mpr ⟨db_oka_25, (List.forall_mem_cons.mpr ⟨db_oka_26, (List.forall_mem_cons.mpr ⟨db_oka_27, (List.forall_mem_cons.mpr ⟨db_oka_28, (List.forall_mem_cons.mpr ⟨db_oka_29, (List.forall_mem_cons.mpr ⟨db_oka_30, (List.forall_mem_cons.mpr ⟨db_oka_31, (List.forall_mem_cons.mpr ⟨db_oka_32, (List.forall_mem_cons.mpr ⟨db_oka_33, (List.forall_mem_cons.mpr ⟨db_oka_34, (List.forall_mem_cons.mpr ⟨db_oka_35, (List.forall_mem_cons.mpr ⟨db_oka_36, (List.forall_mem_cons.mpr ⟨db_oka_37, (List.forall_mem_cons.mpr ⟨db_oka_38, (List.forall_mem_cons.mpr ⟨db_oka_39, (List.forall_mem_cons.mpr ⟨db_oka_40, (List.forall_mem_cons.mpr ⟨db_oka_41, (fun _ h => nomatch h)⟩)⟩)⟩)⟩)⟩)⟩)⟩)⟩)⟩)⟩)⟩)⟩)⟩)⟩)⟩)⟩)⟩)⟩)⟩)⟩)⟩)⟩)⟩)⟩)⟩)⟩)⟩)⟩)⟩)⟩)⟩)⟩)⟩)⟩)⟩)⟩)⟩)⟩)⟩)⟩)⟩)⟩)
noncomputable def db_ms_1 : List db_MR := [dbm_42, dbm_43, dbm_44, dbm_45, dbm_46, dbm_47, dbm_48, dbm_49, dbm_50, dbm_51, dbm_52, dbm_53, dbm_54, dbm_55, dbm_56, dbm_57, dbm_58, dbm_59, dbm_60, dbm_61, dbm_62, dbm_63, dbm_64, dbm_65, dbm_66, dbm_67, dbm_68, dbm_69, dbm_70, dbm_71, dbm_72, dbm_73, dbm_74, dbm_75, dbm_76, dbm_77, dbm_78, dbm_79, dbm_80, dbm_81, dbm_82, dbm_83]
set_option maxRecDepth 100000 in
theorem db_msa_1 : ∀ mr ∈ db_ms_1, db_okA mr := (List.forall_mem_cons.mpr ⟨db_oka_42, (List.forall_mem_cons.mpr ⟨db_oka_43, (List.forall_mem_cons.mpr ⟨db_oka_44, (List.forall_mem_cons.mpr ⟨db_oka_45, (List.forall_mem_cons.mpr ⟨db_oka_46, (List.forall_mem_cons.mpr ⟨db_oka_47, (List.forall_mem_cons.mpr ⟨db_oka_48, (List.forall_mem_cons.mpr ⟨db_oka_49, (List.forall_mem_cons.mpr ⟨db_oka_50, (List.forall_mem_cons.mpr ⟨db_oka_51, (List.forall_mem_cons.mpr ⟨db_oka_52, (List.forall_mem_cons.mpr ⟨db_oka_53, (List.forall_mem_cons.mpr ⟨db_oka_54, (List.forall_mem_cons.mpr ⟨db_oka_55, (List.forall_mem_cons.mpr ⟨db_oka_56, (List.forall_mem_cons.mpr ⟨db_oka_57, (List.forall_mem_cons.mpr ⟨db_oka_58, (List.forall_mem_cons.mpr ⟨db_oka_59, (List.forall_mem_cons.mpr ⟨db_oka_60, (List.forall_mem_cons.mpr ⟨db_oka_61, (List.forall_mem_cons.mpr ⟨db_oka_62, (List.forall_mem_cons.mpr ⟨db_oka_63, (List.forall_mem_cons.mpr ⟨db_oka_64, (List.forall_mem_cons.mpr ⟨db_oka_65, (List.forall_mem_cons.mpr ⟨db_oka_66, (List.forall_mem_cons.mpr ⟨db_oka_67, (List.forall_mem_cons.mpr ⟨db_oka_68, (List.forall_mem_cons.mpr ⟨db_oka_69, (List.forall_mem_cons.mpr ⟨db_oka_70, (List.forall_mem_cons.mpr ⟨db_oka_71, (List.forall_mem_cons.mpr ⟨db_oka_72, (List.forall_mem_cons.mpr ⟨db_oka_73, (List.forall_mem_cons.mpr ⟨db_oka_74, (List.forall_mem_cons.mpr ⟨db_oka_75, (List.forall_mem_cons.mpr ⟨db_oka_76, (List.forall_mem_cons.mpr ⟨db_oka_77, (List.forall_mem_cons.mpr ⟨db_oka_78, (List.forall_mem_cons.mpr ⟨db_oka_79, (List.forall_mem_cons.mpr ⟨db_oka_80, (List.forall_mem_cons.mpr ⟨db_oka_81, (List.forall_mem_cons.mpr ⟨db_oka_82, (List.forall_mem_cons.mpr ⟨db_oka_83, (fun _ h => nomatch h)⟩)⟩)⟩)⟩)⟩)⟩)⟩)⟩)⟩)⟩)⟩)⟩)⟩)⟩)⟩)⟩)⟩)⟩)⟩)⟩)⟩)⟩)⟩)⟩)⟩)⟩)⟩)⟩)⟩)⟩)⟩)⟩)⟩)⟩)⟩)⟩)⟩)⟩)⟩)⟩)⟩)⟩)
noncomputable def db_ms_2 : List db_MR := [dbm_84, dbm_85, dbm_86, dbm_87, dbm_88, dbm_89, dbm_90, dbm_91, dbm_92, dbm_93, dbm_94, dbm_95, dbm_96, dbm_97, dbm_98, dbm_99, dbm_100, dbm_101, dbm_102, dbm_103, dbm_104, dbm_105, dbm_106, dbm_107, dbm_108, dbm_109, dbm_110, dbm_111, dbm_112, dbm_113, dbm_114, dbm_115, dbm_116, dbm_117, dbm_118, dbm_119, dbm_120, dbm_121, dbm_122, dbm_123, dbm_124, dbm_125]
set_option maxRecDepth 100000 in
theorem db_msa_2 : ∀ mr ∈ db_ms_2, db_okA mr := (List.forall_mem_cons.mpr ⟨db_oka_84, (List.forall_mem_cons.mpr ⟨db_oka_85, (List.forall_mem_cons.mpr ⟨db_oka_86, (List.forall_mem_cons.mpr ⟨db_oka_87, (List.forall_mem_cons.mpr ⟨db_oka_88, (List.forall_mem_cons.mpr ⟨db_oka_89, (List.forall_mem_cons.mpr ⟨db_oka_90, (List.forall_mem_cons.mpr ⟨db_oka_91, (List.forall_mem_cons.mpr ⟨db_oka_92, (List.forall_mem_cons.mpr ⟨db_oka_93, (List.forall_mem_cons.mpr ⟨db_oka_94, (List.forall_mem_cons.mpr ⟨db_oka_95, (List.forall_mem_cons.mpr ⟨db_oka_96, (List.forall_mem_cons.mpr ⟨db_oka_97, (List.forall_mem_cons.mpr ⟨db_oka_98, (List.forall_mem_cons.mpr ⟨db_oka_99, (List.forall_mem_cons.mpr ⟨db_oka_100, (List.forall_mem_cons.mpr ⟨db_oka_101, (List.forall_mem_cons.mpr ⟨db_oka_102, (List.forall_mem_cons.mpr ⟨db_oka_103, (List.forall_mem_cons.mpr ⟨db_oka_104, (List.forall_mem_cons.mpr ⟨db_oka_105, (List.forall_mem_cons.mpr ⟨db_oka_106, (List.forall_mem_cons.mpr ⟨db_oka_107, (List.forall_mem_cons.mpr ⟨db_oka_108, (List.forall_mem_cons.mpr ⟨db_oka_109, (List.forall_mem_cons.mpr ⟨db_oka_110, (List.forall_mem_cons.mpr ⟨db_oka_111, (List.forall_mem_cons.mpr ⟨db_oka_112, (List.forall_mem_cons.mpr ⟨db_oka_113, (List.forall_mem_cons.mpr ⟨db_oka_114, (List.forall_mem_cons.mpr ⟨db_oka_115, (List.forall_mem_cons.mpr ⟨db_oka_116, (List.forall_mem_cons.mpr ⟨db_oka_117, (List.forall_mem_cons.mpr ⟨db_oka_118, (List.forall_mem_cons.mpr ⟨db_oka_119, (List.forall_mem_cons.mpr ⟨db_oka_120, (List.forall_mem_cons.mpr ⟨db_oka_121, (List.forall_mem_cons.mpr ⟨db_oka_122, (List.forall_mem_cons.mpr ⟨db_oka_123, (List.forall_mem_cons.mpr ⟨db_oka_124, (List.forall_mem_cons.mpr ⟨db_oka_125, (fun _ h => nomatch h)⟩)⟩)⟩)⟩)⟩)⟩)⟩)⟩)⟩)⟩)⟩)⟩)⟩)⟩)⟩)⟩)⟩)⟩)⟩)⟩)⟩)⟩)⟩)⟩)⟩)⟩)⟩)⟩)⟩)⟩)⟩)⟩)⟩)⟩)⟩)⟩)⟩)⟩)⟩)⟩)⟩)⟩)
noncomputable def db_ms_3 : List db_MR := [dbm_126, dbm_127, dbm_128, dbm_129, dbm_130, dbm_131, dbm_132, dbm_133, dbm_134, dbm_135, dbm_136, dbm_137, dbm_138, dbm_139, dbm_140, dbm_141, dbm_142, dbm_143, dbm_144, dbm_145, dbm_146, dbm_147, dbm_148, dbm_149, dbm_150, dbm_151, dbm_152, dbm_153, dbm_154, dbm_155, dbm_156, dbm_157, dbm_158, dbm_159, dbm_160, dbm_161, dbm_162, dbm_163, dbm_164, dbm_165, dbm_166, dbm_167]
set_option maxRecDepth 100000 in
theorem db_msa_3 : ∀ mr ∈ db_ms_3, db_okA mr := (List.forall_mem_cons.mpr ⟨db_oka_126, (List.forall_mem_cons.mpr ⟨db_oka_127, (List.forall_mem_cons.mpr ⟨db_oka_128, (List.forall_mem_cons.mpr ⟨db_oka_129, (List.forall_mem_cons.mpr ⟨db_oka_130, (List.forall_mem_cons.mpr ⟨db_oka_131, (List.forall_mem_cons.mpr ⟨db_oka_132, (List.forall_mem_cons.mpr ⟨db_oka_133, (List.forall_mem_cons.mpr ⟨db_oka_134, (List.forall_mem_cons.mpr ⟨db_oka_135, (List.forall_mem_cons.mpr ⟨db_oka_136, (List.forall_mem_cons.mpr ⟨db_oka_137, (List.forall_mem_cons.mpr ⟨db_oka_138, (List.forall_mem_cons.mpr ⟨db_oka_139, (List.forall_mem_cons.mpr ⟨db_oka_140, (List.forall_mem_cons.mpr ⟨db_oka_141, (List.forall_mem_cons.mpr ⟨db_oka_142, (List.forall_mem_cons.mpr ⟨db_oka_143, (List.forall_mem_cons.mpr ⟨db_oka_144, (List.forall_mem_cons.mpr ⟨db_oka_145, (List.forall_mem_cons.mpr ⟨db_oka_146, (List.forall_mem_cons.mpr ⟨db_oka_147, (List.forall_mem_cons.mpr ⟨db_oka_148, (List.forall_mem_cons.mpr ⟨db_oka_149, (List.forall_mem_cons.mpr ⟨db_oka_150, (List.forall_mem_cons.mpr ⟨db_oka_151, (List.forall_mem_cons.mpr ⟨db_oka_152, (List.forall_mem_cons.mpr ⟨db_oka_153, (List.forall_mem_cons.mpr ⟨db_oka_154, (List.forall_mem_cons.mpr ⟨db_oka_155, (List.forall_mem_cons.mpr ⟨db_oka_156, (List.forall_mem_cons.mpr ⟨db_oka_157, (List.forall_mem_cons.mpr ⟨db_oka_158, (List.forall_mem_cons.mpr ⟨db_oka_159, (List.forall_mem_cons.mpr ⟨db_oka_160, (List.forall_mem_cons.mpr ⟨db_oka_161, (List.forall_mem_cons.mpr ⟨db_oka_162, (List.forall_mem_cons.mpr ⟨db_oka_163, (List.forall_mem_cons.mpr ⟨db_oka_164, (List.forall_mem_cons.mpr ⟨db_oka_165, (List.forall_mem_cons.mpr ⟨db_oka_166, (List.forall_mem_cons.mpr ⟨db_oka_167, (fun _ h => nomatch h)⟩)⟩)⟩)⟩)⟩)⟩)⟩)⟩)⟩)⟩)⟩)⟩)⟩)⟩)⟩)⟩)⟩)⟩)⟩)⟩)⟩)⟩)⟩)⟩)⟩)⟩)⟩)⟩)⟩)⟩)⟩)⟩)⟩)⟩)⟩)⟩)⟩)⟩)⟩)⟩)⟩)⟩)
noncomputable def db_ms_4 : List db_MR := [dbm_168, dbm_169, dbm_170, dbm_171, dbm_172, dbm_173, dbm_174, dbm_175, dbm_176, dbm_177, dbm_178, dbm_179, dbm_180, dbm_181, dbm_182, dbm_183, dbm_184, dbm_185, dbm_186, dbm_187, dbm_188, dbm_189, dbm_190, dbm_191, dbm_192, dbm_193, dbm_194, dbm_195, dbm_196, dbm_197, dbm_198, dbm_199, dbm_200, dbm_201, dbm_202, dbm_203, dbm_204, dbm_205, dbm_206, dbm_207, dbm_208, dbm_209]
set_option maxRecDepth 100000 in
theorem db_msa_4 : ∀ mr ∈ db_ms_4, db_okA mr := (List.forall_mem_cons.mpr ⟨db_oka_168, (List.forall_mem_cons.mpr ⟨db_oka_169, (List.forall_mem_cons.mpr ⟨db_oka_170, (List.forall_mem_cons.mpr ⟨db_oka_171, (List.forall_mem_cons.mpr ⟨db_oka_172, (List.forall_mem_cons.mpr ⟨db_oka_173, (List.forall_mem_cons.mpr ⟨db_oka_174, (List.forall_mem_cons.mpr ⟨db_oka_175, (List.forall_mem_cons.mpr ⟨db_oka_176, (List.forall_mem_cons.mpr ⟨db_oka_177, (List.forall_mem_cons.mpr ⟨db_oka_178, (List.forall_mem_cons.mpr ⟨db_oka_179, (List.forall_mem_cons.mpr ⟨db_oka_180, (List.forall_mem_cons.mpr ⟨db_oka_181, (List.forall_mem_cons.mpr ⟨db_oka_182, (List.forall_mem_cons.mpr ⟨db_oka_183, (List.forall_mem_cons.mpr ⟨db_oka_184, (List.forall_mem_cons.mpr ⟨db_oka_185, (List.forall_mem_cons.mpr ⟨db_oka_186, (List.forall_mem_cons.mpr ⟨db_oka_187, (List.forall_mem_cons.mpr ⟨db_oka_188, (List.forall_mem_cons.mpr ⟨db_oka_189, (List.forall_mem_cons.mpr ⟨db_oka_190, (List.forall_mem_cons.mpr ⟨db_oka_191, (List.forall_mem_cons.mpr ⟨db_oka_192, (List.forall_mem_cons.mpr ⟨db_oka_193, (List.forall_mem_cons.mpr ⟨db_oka_194, (List.forall_mem_cons.mpr ⟨db_oka_195, (List.forall_mem_cons.mpr ⟨db_oka_196, (List.forall_mem_cons.mpr ⟨db_oka_197, (List.forall_mem_cons.mpr ⟨db_oka_198, (List.forall_mem_cons.mpr ⟨db_oka_199, (List.forall_mem_cons.mpr ⟨db_oka_200, (List.forall_mem_cons.mpr ⟨db_oka_201, (List.forall_mem_cons.mpr ⟨db_oka_202, (List.forall_mem_cons.mpr ⟨db_oka_203, (List.forall_mem_cons.mpr ⟨db_oka_204, (List.forall_mem_cons.mpr ⟨db_oka_205, (List.forall_mem_cons.mpr ⟨db_oka_206, (List.forall_mem_cons.mpr ⟨db_oka_207, (List.forall_mem_cons.mpr ⟨db_oka_208, (List.forall_mem_cons.mpr ⟨db_oka_209, (fun _ h => nomatch h)⟩)⟩)⟩)⟩)⟩)⟩)⟩)⟩)⟩)⟩)⟩)⟩)⟩)⟩)⟩)⟩)⟩)⟩)⟩)⟩)⟩)⟩)⟩)⟩)⟩)⟩)⟩)⟩)⟩)⟩)⟩)⟩)⟩)⟩)⟩)⟩)⟩)⟩)⟩)⟩)⟩)⟩)
noncomputable def db_ms_5 : List db_MR := [dbm_210, dbm_211, dbm_212, dbm_213, dbm_214, dbm_215, dbm_216, dbm_217, dbm_218, dbm_219, dbm_220, dbm_221, dbm_222, dbm_223, dbm_224, dbm_225, dbm_226, dbm_227, dbm_228, dbm_229, dbm_230, dbm_231, dbm_232, dbm_233, dbm_234, dbm_235, dbm_236, dbm_237, dbm_238, dbm_239, dbm_240, dbm_241, dbm_242, dbm_243, dbm_244, dbm_245, dbm_246, dbm_247, dbm_248, dbm_249, dbm_250, dbm_251]
set_option maxRecDepth 100000 in
theorem db_msa_5 : ∀ mr ∈ db_ms_5, db_okA mr := (List.forall_mem_cons.mpr ⟨db_oka_210, (List.forall_mem_cons.mpr ⟨db_oka_211, (List.forall_mem_cons.mpr ⟨db_oka_212, (List.forall_mem_cons.mpr ⟨db_oka_213, (List.forall_mem_cons.mpr ⟨db_oka_214, (List.forall_mem_cons.mpr ⟨db_oka_215, (List.forall_mem_cons.mpr ⟨db_oka_216, (List.forall_mem_cons.mpr ⟨db_oka_217, (List.forall_mem_cons.mpr ⟨db_oka_218, (List.forall_mem_cons.mpr ⟨db_oka_219, (List.forall_mem_cons.mpr ⟨db_oka_220, (List.forall_mem_cons.mpr ⟨db_oka_221, (List.forall_mem_cons.mpr ⟨db_oka_222, (List.forall_mem_cons.mpr ⟨db_oka_223, (List.forall_mem_cons.mpr ⟨db_oka_224, (List.forall_mem_cons.mpr ⟨db_oka_225, (List.forall_mem_cons.mpr ⟨db_oka_226, (List.forall_mem_cons.mpr ⟨db_oka_227, (List.forall_mem_cons.mpr ⟨db_oka_228, (List.forall_mem_cons.mpr ⟨db_oka_229, (List.forall_mem_cons.mpr ⟨db_oka_230, (List.forall_mem_cons.mpr ⟨db_oka_231, (List.forall_mem_cons.mpr ⟨db_oka_232, (List.forall_mem_cons.mpr ⟨db_oka_233, (List.forall_mem_cons.mpr ⟨db_oka_234, (List.forall_mem_cons.mpr ⟨db_oka_235, (List.forall_mem_cons.mpr ⟨db_oka_236, (List.forall_mem_cons.mpr ⟨db_oka_237, (List.forall_mem_cons.mpr ⟨db_oka_238, (List.forall_mem_cons.mpr ⟨db_oka_239, (List.forall_mem_cons.mpr ⟨db_oka_240, (List.forall_mem_cons.mpr ⟨db_oka_241, (List.forall_mem_cons.mpr ⟨db_oka_242, (List.forall_mem_cons.mpr ⟨db_oka_243, (List.forall_mem_cons.mpr ⟨db_oka_244, (List.forall_mem_cons.mpr ⟨db_oka_245, (List.forall_mem_cons.mpr ⟨db_oka_246, (List.forall_mem_cons.mpr ⟨db_oka_247, (List.forall_mem_cons.mpr ⟨db_oka_248, (List.forall_mem_cons.mpr ⟨db_oka_249, (List.forall_mem_cons.mpr ⟨db_oka_250, (List.forall_mem_cons.mpr ⟨db_oka_251, (fun _ h => nomatch h)⟩)⟩)⟩)⟩)⟩)⟩)⟩)⟩)⟩)⟩)⟩)⟩)⟩)⟩)⟩)⟩)⟩)⟩)⟩)⟩)⟩)⟩)⟩)⟩)⟩)⟩)⟩)⟩)⟩)⟩)⟩)⟩)⟩)⟩)⟩)⟩)⟩)⟩)⟩)⟩)⟩)⟩)
noncomputable def db_ms_6 : List db_MR := [dbm_252, dbm_253, dbm_254, dbm_255, dbm_256, dbm_257, dbm_258, dbm_259, dbm_260, dbm_261, dbm_262, dbm_263, dbm_264, dbm_265, dbm_266, dbm_267, dbm_268, dbm_269, dbm_270, dbm_271, dbm_272, dbm_273, dbm_274, dbm_275, dbm_276, dbm_277, dbm_278, dbm_279, dbm_280, dbm_281, dbm_282, dbm_283, dbm_284, dbm_285, dbm_286, dbm_287, dbm_288, dbm_289, dbm_290, dbm_291, dbm_292, dbm_293]
set_option maxRecDepth 100000 in
theorem db_msa_6 : ∀ mr ∈ db_ms_6, db_okA mr := (List.forall_mem_cons.mpr ⟨db_oka_252, (List.forall_mem_cons.mpr ⟨db_oka_253, (List.forall_mem_cons.mpr ⟨db_oka_254, (List.forall_mem_cons.mpr ⟨db_oka_255, (List.forall_mem_cons.mpr ⟨db_oka_256, (List.forall_mem_cons.mpr ⟨db_oka_257, (List.forall_mem_cons.mpr ⟨db_oka_258, (List.forall_mem_cons.mpr ⟨db_oka_259, (List.forall_mem_cons.mpr ⟨db_oka_260, (List.forall_mem_cons.mpr ⟨db_oka_261, (List.forall_mem_cons.mpr ⟨db_oka_262, (List.forall_mem_cons.mpr ⟨db_oka_263, (List.forall_mem_cons.mpr ⟨db_oka_264, (List.forall_mem_cons.mpr ⟨db_oka_265, (List.forall_mem_cons.mpr ⟨db_oka_266, (List.forall_mem_cons.mpr ⟨db_oka_267, (List.forall_mem_cons.mpr ⟨db_oka_268, (List.forall_mem_cons.mpr ⟨db_oka_269, (List.forall_mem_cons.mpr ⟨db_oka_270, (List.forall_mem_cons.mpr ⟨db_oka_271, (List.forall_mem_cons.mpr ⟨db_oka_272, (List.forall_mem_cons.mpr ⟨db_oka_273, (List.forall_mem_cons.mpr ⟨db_oka_274, (List.forall_mem_cons.mpr ⟨db_oka_275, (List.forall_mem_cons.mpr ⟨db_oka_276, (List.forall_mem_cons.mpr ⟨db_oka_277, (List.forall_mem_cons.mpr ⟨db_oka_278, (List.forall_mem_cons.mpr ⟨db_oka_279, (List.forall_mem_cons.mpr ⟨db_oka_280, (List.forall_mem_cons.mpr ⟨db_oka_281, (List.forall_mem_cons.mpr ⟨db_oka_282, (List.forall_mem_cons.mpr ⟨db_oka_283, (List.forall_mem_cons.mpr ⟨db_oka_284, (List.forall_mem_cons.mpr ⟨db_oka_285, (List.forall_mem_cons.mpr ⟨db_oka_286, (List.forall_mem_cons.mpr ⟨db_oka_287, (List.forall_mem_cons.mpr ⟨db_oka_288, (List.forall_mem_cons.mpr ⟨db_oka_289, (List.forall_mem_cons.mpr ⟨db_oka_290, (List.forall_mem_cons.mpr ⟨db_oka_291, (List.forall_mem_cons.mpr ⟨db_oka_292, (List.forall_mem_cons.mpr ⟨db_oka_293, (fun _ h => nomatch h)⟩)⟩)⟩)⟩)⟩)⟩)⟩)⟩)⟩)⟩)⟩)⟩)⟩)⟩)⟩)⟩)⟩)⟩)⟩)⟩)⟩)⟩)⟩)⟩)⟩)⟩)⟩)⟩)⟩)⟩)⟩)⟩)⟩)⟩)⟩)⟩)⟩)⟩)⟩)⟩)⟩)⟩)
noncomputable def db_ms_7 : List db_MR := [dbm_294, dbm_295, dbm_296, dbm_297, dbm_298, dbm_299, dbm_300, dbm_301, dbm_302, dbm_303, dbm_304, dbm_305, dbm_306, dbm_307, dbm_308, dbm_309, dbm_310, dbm_311, dbm_312, dbm_313, dbm_314, dbm_315, dbm_316, dbm_317, dbm_318, dbm_319, dbm_320, dbm_321, dbm_322, dbm_323, dbm_324, dbm_325, dbm_326, dbm_327, dbm_328, dbm_329, dbm_330, dbm_331, dbm_332, dbm_333, dbm_334, dbm_335]
set_option maxRecDepth 100000 in
theorem db_msa_7 : ∀ mr ∈ db_ms_7, db_okA mr := (List.forall_mem_cons.mpr ⟨db_oka_294, (List.forall_mem_cons.mpr ⟨db_oka_295, (List.forall_mem_cons.mpr ⟨db_oka_296, (List.forall_mem_cons.mpr ⟨db_oka_297, (List.forall_mem_cons.mpr ⟨db_oka_298, (List.forall_mem_cons.mpr ⟨db_oka_299, (List.forall_mem_cons.mpr ⟨db_oka_300, (List.forall_mem_cons.mpr ⟨db_oka_301, (List.forall_mem_cons.mpr ⟨db_oka_302, (List.forall_mem_cons.mpr ⟨db_oka_303, (List.forall_mem_cons.mpr ⟨db_oka_304, (List.forall_mem_cons.mpr ⟨db_oka_305, (List.forall_mem_cons.mpr ⟨db_oka_306, (List.forall_mem_cons.mpr ⟨db_oka_307, (List.forall_mem_cons.mpr ⟨db_oka_308, (List.forall_mem_cons.mpr ⟨db_oka_309, (List.forall_mem_cons.mpr ⟨db_oka_310, (List.forall_mem_cons.mpr ⟨db_oka_311, (List.forall_mem_cons.mpr ⟨db_oka_312, (List.forall_mem_cons.mpr ⟨db_oka_313, (List.forall_mem_cons.mpr ⟨db_oka_314, (List.forall_mem_cons.mpr ⟨db_oka_315, (List.forall_mem_cons.mpr ⟨db_oka_316, (List.forall_mem_cons.mpr ⟨db_oka_317, (List.forall_mem_cons.mpr ⟨db_oka_318, (List.forall_mem_cons.mpr ⟨db_oka_319, (List.forall_mem_cons.mpr ⟨db_oka_320, (List.forall_mem_cons.mpr ⟨db_oka_321, (List.forall_mem_cons.mpr ⟨db_oka_322, (List.forall_mem_cons.mpr ⟨db_oka_323, (List.forall_mem_cons.mpr ⟨db_oka_324, (List.forall_mem_cons.mpr ⟨db_oka_325, (List.forall_mem_cons.mpr ⟨db_oka_326, (List.forall_mem_cons.mpr ⟨db_oka_327, (List.forall_mem_cons.mpr ⟨db_oka_328, (List.forall_mem_cons.mpr ⟨db_oka_329, (List.forall_mem_cons.mpr ⟨db_oka_330, (List.forall_mem_cons.mpr ⟨db_oka_331, (List.forall_mem_cons.mpr ⟨db_oka_332, (List.forall_mem_cons.mpr ⟨db_oka_333, (List.forall_mem_cons.mpr ⟨db_oka_334, (List.forall_mem_cons.mpr ⟨db_oka_335, (fun _ h => nomatch h)⟩)⟩)⟩)⟩)⟩)⟩)⟩)⟩)⟩)⟩)⟩)⟩)⟩)⟩)⟩)⟩)⟩)⟩)⟩)⟩)⟩)⟩)⟩)⟩)⟩)⟩)⟩)⟩)⟩)⟩)⟩)⟩)⟩)⟩)⟩)⟩)⟩)⟩)⟩)⟩)⟩)⟩)
noncomputable def db_ms_8 : List db_MR := [dbm_336, dbm_337, dbm_338, dbm_339, dbm_340, dbm_341, dbm_342, dbm_343, dbm_344, dbm_345, dbm_346, dbm_347, dbm_348, dbm_349, dbm_350, dbm_351, dbm_352, dbm_353, dbm_354, dbm_355, dbm_356, dbm_357, dbm_358, dbm_359, dbm_360, dbm_361, dbm_362, dbm_363, dbm_364, dbm_365, dbm_366, dbm_367, dbm_368, dbm_369, dbm_370, dbm_371, dbm_372, dbm_373, dbm_374, dbm_375, dbm_376, dbm_377]
set_option maxRecDepth 100000 in
theorem db_msa_8 : ∀ mr ∈ db_ms_8, db_okA mr := (List.forall_mem_cons.mpr ⟨db_oka_336, (List.forall_mem_cons.mpr ⟨db_oka_337, (List.forall_mem_cons.mpr ⟨db_oka_338, (List.forall_mem_cons.mpr ⟨db_oka_339, (List.forall_mem_cons.mpr ⟨db_oka_340, (List.forall_mem_cons.mpr ⟨db_oka_341, (List.forall_mem_cons.mpr ⟨db_oka_342, (List.forall_mem_cons.mpr ⟨db_oka_343, (List.forall_mem_cons.mpr ⟨db_oka_344, (List.forall_mem_cons.mpr ⟨db_oka_345, (List.forall_mem_cons.mpr ⟨db_oka_346, (List.forall_mem_cons.mpr ⟨db_oka_347, (List.forall_mem_cons.mpr ⟨db_oka_348, (List.forall_mem_cons.mpr ⟨db_oka_349, (List.forall_mem_cons.mpr ⟨db_oka_350, (List.forall_mem_cons.mpr ⟨db_oka_351, (List.forall_mem_cons.mpr ⟨db_oka_352, (List.forall_mem_cons.mpr ⟨db_oka_353, (List.forall_mem_cons.mpr ⟨db_oka_354, (List.forall_mem_cons.mpr ⟨db_oka_355, (List.forall_mem_cons.mpr ⟨db_oka_356, (List.forall_mem_cons.mpr ⟨db_oka_357, (List.forall_mem_cons.mpr ⟨db_oka_358, (List.forall_mem_cons.mpr ⟨db_oka_359, (List.forall_mem_cons.mpr ⟨db_oka_360, (List.forall_mem_cons.mpr ⟨db_oka_361, (List.forall_mem_cons.mpr ⟨db_oka_362, (List.forall_mem_cons.mpr ⟨db_oka_363, (List.forall_mem_cons.mpr ⟨db_oka_364, (List.forall_mem_cons.mpr ⟨db_oka_365, (List.forall_mem_cons.mpr ⟨db_oka_366, (List.forall_mem_cons.mpr ⟨db_oka_367, (List.forall_mem_cons.mpr ⟨db_oka_368, (List.forall_mem_cons.mpr ⟨db_oka_369, (List.forall_mem_cons.mpr ⟨db_oka_370, (List.forall_mem_cons.mpr ⟨db_oka_371, (List.forall_mem_cons.mpr ⟨db_oka_372, (List.forall_mem_cons.mpr ⟨db_oka_373, (List.forall_mem_cons.mpr ⟨db_oka_374, (List.forall_mem_cons.mpr ⟨db_oka_375, (List.forall_mem_cons.mpr ⟨db_oka_376, (List.forall_mem_cons.mpr ⟨db_oka_377, (fun _ h => nomatch h)⟩)⟩)⟩)⟩)⟩)⟩)⟩)⟩)⟩)⟩)⟩)⟩)⟩)⟩)⟩)⟩)⟩)⟩)⟩)⟩)⟩)⟩)⟩)⟩)⟩)⟩)⟩)⟩)⟩)⟩)⟩)⟩)⟩)⟩)⟩)⟩)⟩)⟩)⟩)⟩)⟩)⟩)
set_option maxRecDepth 100000 in
theorem db_ms_e : db_ms = db_ms_0 ++ (db_ms_1 ++ (db_ms_2 ++ (db_ms_3 ++ (db_ms_4 ++ (db_ms_5 ++ (db_ms_6 ++ (db_ms_7 ++ (db_ms_8)))))))) := rfl
theorem db_okAs : ∀ mr ∈ db_ms, db_okA mr := by
  rw [db_ms_e]
  intro mr h
  rcases List.mem_append.mp h with h | h
  · exact db_msa_0 mr h
  rcases List.mem_append.mp h with h | h
  · exact db_msa_1 mr h
  rcases List.mem_append.mp h with h | h
  · exact db_msa_2 mr h
  rcases List.mem_append.mp h with h | h
  · exact db_msa_3 mr h
  rcases List.mem_append.mp h with h | h
  · exact db_msa_4 mr h
  rcases List.mem_append.mp h with h | h
  · exact db_msa_5 mr h
  rcases List.mem_append.mp h with h | h
  · exact db_msa_6 mr h
  rcases List.mem_append.mp h with h | h
  · exact db_msa_7 mr h
  exact db_msa_8 mr h
theorem db_ok_law : db_ok dbm_378 := ⟨db_dck_378, db_mck_378, db_lkk_13⟩
def R_law : String := "DreamBookLaw"
def lw_P (b : Addr) (xs : List Int32) (args : Array Value) (s : State) : Prop := args = #[.ref b] ∧ s.IntsAt b xs ∧ xs.length ≤ 3072 ∧ (Jvm.Cond.and given_1 narrow_1).before args s = true
def lw_Q (_ : Array Value) (s : State) (o : Outcome) (t : State) : Prop := o = .returned (some (.int 1)) ∧ Framed s o t [] 600000 7302250
def lw_Z (below : List Frame) (a : Array Value) (s : State) : State → Prop := fun t => ∃ o, t.status = .running ∧ Ended t below o ∧ lw_Q a s o t
/-- the law's own end, with 1 on the stack, nothing written that was there before, its room as the claim has it -/
theorem lw_ret {p : Program} {l : Launch} {e : Env} {s : State} {m : MethodId} {below : List Frame} {meth : Method} {c : Code} {b : Nat} (hx : p.tables.exec = Jvm.exec) (hb : c.code = code) (hr : meth.sig.returnType = ret) (hlocks : meth.locks = false) {pc : Nat} {H : Heap} {ls : Array Slot} (hdg : decode code pc = .ok (.ireturn, 1)) : W p l e room_1 s m #[Value.ref b] below meth c H [] 600000 7302250 (lw_Z below #[Value.ref b] s) (F0 m pc ls [.int 1]) := by
  intro T hT X
  obtain ⟨fs, hret, hrun, hended, hW, hframe⟩ := X.leave (v := some (.int 1)) (hlocks := hlocks) (fun h => by rw [hr] at h; cases h)
  have hmeth' : T.vm.method? m = some meth := X.method'
  refine ⟨T.setFrames fs, ?_, .returned (some (.int 1)), hrun, hended, rfl, ⟨_, rfl⟩, hW, hframe⟩
  jvm_step X.here [X.here.top, hx, hb, hdg, hmeth', hr, ret, narrow_b1]
  (try refine ⟨rfl, ?_⟩); (try refine ⟨rfl, ?_⟩)
  first | (intro acts; rw [hret _ acts rfl rfl rfl]) | rw [hret _ _ rfl rfl rfl]
  exact Steps.refl _
/-- what holds at the law's entry: the machine, the code, the tables' words (any of lw_tbl by 'hts w (by decide +kernel)'), the script of L ints xs at the cell b, what the Statement gives of the start (any of its parts by flat_of_before) -/
def lw_At (p : Program) (s : State) (m : MethodId) (meth : Method) (c : Code) (b L : Nat) (xs : Nat → Int32) : Prop :=
  p.tables.exec = Jvm.exec ∧ c.code = code ∧ meth.sig.returnType = ret ∧ c.maxLocals = 4 ∧ s.vm.findClass R_law = some m.cls ∧ (∀ w ∈ lw_tbl, w.before #[Value.ref b] s = true) ∧ va_X b L xs s s.heap ∧ b < s.heap.size ∧ meth.locks = false ∧ (Jvm.Cond.and given_1 narrow_1).before #[Value.ref b] s = true
/-- the law's run on the abstract machine is all that is wanted -/
def db_Main : Prop := ∀ (L : Nat) (xs : Nat → Int32), L ≤ 3072 → ∃ (n d : Nat) (μ' : db_H), d ≤ 100 ∧ db_ev (some (L, xs)) n d dbm_378 0 [(0, .ref 0)] [] (4, 0, fun _ => .inr (0, [])) = some (some (.int 1), μ') ∧ μ'.1 ≤ 600000 ∧ μ'.2.1 ≤ 7302250
theorem db_law_st {i : Instr} {st : List Value} (h : db_ret dbm_378 i st = some (some (.int 1))) : i = .ireturn ∧ st = [.int 1] := by
  unfold db_ret at h
  split at h
  · split at h
    · rename_i x ty hty
      obtain ⟨-, h⟩ := db_condn_e h
      cases h
      exact ⟨rfl, rfl⟩
    · cases h
  · split at h
    · exact absurd (Option.some.inj (Option.some.inj h)) (fun q => by cases q)
    · cases h
  · split at h
    · exact absurd (Option.some.inj (Option.some.inj h)) (fun q => by cases q)
    · cases h
  · split at h
    · exact absurd (Option.some.inj h) (fun q => by cases q)
    · cases h
  · cases h
theorem db_start (zmain : db_Main) {p : Program} {e : Env} {s : State} {m : MethodId} {below : List Frame} {meth : Method} {c : Code} (l : Launch) {b L : Nat} {xs : Nat → Int32} (hL : L ≤ 3072) (C0 : lw_At p s m meth c b L xs) : W p l e room_1 s m #[Value.ref b] below meth c s.heap [] 0 0 (lw_Z below #[Value.ref b] s) (entryFrame m ([Value.ref b] : List Value).toArray 4) := by
  obtain ⟨hx, hb, hr, hml, hown, hts, hX, hbl, hlocks, hgv⟩ := C0
  obtain ⟨xv, D, ck, hF, h0, h3⟩ := db_F0 hts hgv hX hbl
  obtain ⟨n, d, μ', hd, hev, hc, hsl⟩ := zmain L xs hL
  have hT : ∀ w ∈ db_T, w.before #[.ref b] s = true := fun w hw => hts w (List.mem_filter.mp hw).1
  have hXf : db_Fx p s #[.ref b] m meth c dbm_378 := ⟨hx, hb, hml, hown, hr, hlocks, fun h => absurd (show ("law" : String) = "<init>" from h) (by decide), hT⟩
  have hl := lv_entry [Value.ref b] (n := 4) (by rw [db_sl_len]; show ([1] : List Nat).sum ≤ 4; decide)
  rw [lg_entry_eq]
  generalize (lg_sl [Value.ref b] ++ List.replicate (4 - (lg_sl [Value.ref b]).length) Slot.unset).toArray = ls at hl ⊢
  have hl' : lv_has ls dbm_378.2.2.1 ([(0, Value.ref 0)].map (db_cq xv s.heap.size)) := by
    have e : ([(0, Value.ref 0)].map (db_cq xv s.heap.size)) = lv_args 0 [Value.ref b] := by
      show [(0, db_cv xv s.heap.size (.ref 0))] = _
      have : db_cv xv s.heap.size (.ref 0) = xv 0 := by unfold db_cv; exact if_pos (by decide)
      rw [this, h0]
      rfl
    rw [e]
    exact hl
  refine db_sound db_okAs n d dbm_378 0 [(0, .ref 0)] [] (4, 0, fun _ => .inr (0, [])) _ μ' hev db_ok_law p l e room_1 s m #[.ref b] below meth c s.heap [] 0 0 (lw_Z below #[Value.ref b] s) s.heap.size xv D ck ls hF hXf ⟨rfl, Nat.le_refl _, fun i h1 h2 => ?_⟩ ⟨Nat.le_refl _, Nat.le_refl _, fun _ _ => rfl, fun _ h => by cases h⟩ hl' ⟨?_, ?_⟩ ?_ ?_ h3 ?_
  · exact absurd (show i < 4 from h2) (by omega)
  · show d + 1 ≤ 2048; omega
  · show 200 * (d + 1) ≤ 84000; omega
  · show 0 + μ'.1 ≤ 600000 + 4; omega
  · show 0 + μ'.2.1 ≤ 7302250 + 0; omega
  · intro pc' i st' H' locs' ls' cells' slots' hde hret hW' hFr' e1 e2
    obtain ⟨rfl, rfl⟩ := db_law_st hret
    refine va_forget (fun q hq => hFr'.2.2.2 q hq) (W.widen (k := 600000) (n := 7302250) ?_ ?_ (lw_ret hx hb hr hlocks hde))
    · have : cells' + 4 = 0 + μ'.1 := e1; omega
    · have : slots' + 0 = 0 + μ'.2.1 := e2; omega
