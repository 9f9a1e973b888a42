def db_tys : List (Nat → FieldType) := [tyX0, tyX1, tyX2, tyX3, tyX4, tyX5, tyX6, tyX7, tyX8, tyX9, tyX10, tyX11, tyX12]
def db_ty (ci k : Nat) : FieldType := match db_tys[ci]? with
  | some t => t k
  | none => .int

theorem db_wck {ws : List Cond} {ids : List Nat} (h : (Nat.beq ws.length ids.length && (ws.zip ids).all fun r => decide (lw_tbl[r.2]? = some r.1) && (goodWord r.1 || db_isN r.1)) = true) : ∀ w ∈ ws, w ∈ db_T := by
  intro w hw
  simp only [Bool.and_eq_true, List.all_eq_true] at h
  obtain ⟨hlen, h⟩ := h
  have hlen := Nat.eq_of_beq_eq_true hlen
  obtain ⟨j, hj, rfl⟩ := List.mem_iff_getElem.mp hw
  have hz2 : (ws[j], ids[j]'(by omega)) ∈ ws.zip ids := by
    rw [List.mem_iff_getElem]
    exact ⟨j, by simp; omega, by simp⟩
  have h4 := h _ hz2
  simp only [decide_eq_true_eq] at h4
  exact List.mem_filter.mpr ⟨List.mem_of_getElem? h4.1, h4.2⟩
/-- what the tables say of a class's fields -/
def db_Ly (ci : Nat) (C : String) (T : u_T) (N : Nat) : Prop := (∀ w ∈ u_ws C T N, w ∈ db_T) ∧ (∀ k, k < N → parseFieldDescriptor (T k).2.2.1 = some (db_ty ci k)) ∧ (∀ a, a < N → ∀ b, b < N → a ≠ b → (T a).2.1 ≠ (T b).2.1) ∧ (∀ k, k < N → (T k).1 = C) ∧ Cond.instantiable C N ∈ db_T
theorem db_ly_0 : db_Ly 0 RX0 TX0 3 := ⟨db_wck (ids := [486, 488, 490]) (by decide +kernel), tyX0_ok, nmX0, by decide +kernel, db_wck (ws := [Cond.instantiable RX0 3]) (ids := [475]) (by decide +kernel) _ List.mem_cons_self⟩
theorem db_ly_1 : db_Ly 1 RX1 TX1 11 := ⟨db_wck (ids := [561, 563, 565, 567, 569, 571, 573, 575, 577, 579, 581]) (by decide +kernel), tyX1_ok, nmX1, by decide +kernel, db_wck (ws := [Cond.instantiable RX1 11]) (ids := [540]) (by decide +kernel) _ List.mem_cons_self⟩
theorem db_ly_2 : db_Ly 2 RX2 TX2 4 := ⟨db_wck (ids := [437, 439, 441, 443]) (by decide +kernel), tyX2_ok, nmX2, by decide +kernel, db_wck (ws := [Cond.instantiable RX2 4]) (ids := [419]) (by decide +kernel) _ List.mem_cons_self⟩
theorem db_ly_3 : db_Ly 3 RX3 TX3 5 := ⟨db_wck (ids := [597, 599, 601, 603, 605]) (by decide +kernel), tyX3_ok, nmX3, by decide +kernel, db_wck (ws := [Cond.instantiable RX3 5]) (ids := [585]) (by decide +kernel) _ List.mem_cons_self⟩
theorem db_ly_4 : db_Ly 4 RX4 TX4 4 := ⟨db_wck (ids := [465, 467, 469, 471]) (by decide +kernel), tyX4_ok, nmX4, by decide +kernel, db_wck (ws := [Cond.instantiable RX4 4]) (ids := [447]) (by decide +kernel) _ List.mem_cons_self⟩
theorem db_ly_5 : db_Ly 5 RX5 TX5 5 := ⟨db_wck (ids := [507, 509, 511, 513, 515]) (by decide +kernel), tyX5_ok, nmX5, by decide +kernel, db_wck (ws := [Cond.instantiable RX5 5]) (ids := [494]) (by decide +kernel) _ List.mem_cons_self⟩
theorem db_ly_6 : db_Ly 6 RX6 TX6 4 := ⟨db_wck (ids := [530, 532, 534, 536]) (by decide +kernel), tyX6_ok, nmX6, by decide +kernel, db_wck (ws := [Cond.instantiable RX6 4]) (ids := [519]) (by decide +kernel) _ List.mem_cons_self⟩
theorem db_ly_7 : db_Ly 7 RX7 TX7 10 := ⟨db_wck (ids := [628, 630, 632, 634, 636, 638, 640, 642, 644, 646]) (by decide +kernel), tyX7_ok, nmX7, by decide +kernel, db_wck (ws := [Cond.instantiable RX7 10]) (ids := [609]) (by decide +kernel) _ List.mem_cons_self⟩
theorem db_ly_8 : db_Ly 8 RX8 TX8 11 := ⟨db_wck (ids := [285, 287, 289, 291, 293, 295, 297, 299, 301, 303, 305]) (by decide +kernel), tyX8_ok, nmX8, by decide +kernel, db_wck (ws := [Cond.instantiable RX8 11]) (ids := [209]) (by decide +kernel) _ List.mem_cons_self⟩
theorem db_ly_9 : db_Ly 9 RX9 TX9 20 := ⟨db_wck (ids := [377, 379, 381, 383, 385, 387, 389, 391, 393, 395, 397, 399, 401, 403, 405, 407, 409, 411, 413, 415]) (by decide +kernel), tyX9_ok, nmX9, by decide +kernel, db_wck (ws := [Cond.instantiable RX9 20]) (ids := [310]) (by decide +kernel) _ List.mem_cons_self⟩
theorem db_ly_10 : db_Ly 10 RX10 TX10 3 := ⟨db_wck (ids := [199, 201, 203]) (by decide +kernel), tyX10_ok, nmX10, by decide +kernel, db_wck (ws := [Cond.instantiable RX10 3]) (ids := [184]) (by decide +kernel) _ List.mem_cons_self⟩
theorem db_ly_11 : db_Ly 11 RX11 TX11 16 := ⟨db_wck (ids := [668, 670, 672, 674, 676, 678, 680, 682, 684, 686, 688, 690, 692, 694, 696, 698]) (by decide +kernel), tyX11_ok, nmX11, by decide +kernel, db_wck (ws := [Cond.instantiable RX11 16]) (ids := [176]) (by decide +kernel) _ List.mem_cons_self⟩
theorem db_ly_12 : db_Ly 12 RX12 TX12 46 := ⟨db_wck (ids := [1556, 1558, 1560, 1562, 1564, 1566, 1568, 1570, 1572, 1574, 1576, 1578, 1580, 1582, 1584, 1586, 1588, 1590, 1592, 1594, 1596, 1598, 1600, 1602, 1604, 1606, 1608, 1610, 1612, 1614, 1616, 1618, 1620, 1622, 1624, 1626, 1628, 1630, 1632, 1634, 1636, 1638, 1640, 1642, 1644, 1646]) (by decide +kernel), tyX12_ok, nmX12, by decide +kernel, db_wck (ws := [Cond.instantiable RX12 46]) (ids := [1505]) (by decide +kernel) _ List.mem_cons_self⟩
theorem db_lay : ∀ (ci : Nat) (C : String) (T : u_T) (N : Nat), db_cl[ci]? = some (C, T, N) → db_Ly ci C T N := by
  intro ci C T N h
  have hl : ci < 13 := (List.getElem?_eq_some_iff.mp h).1
  match ci, hl, h with
  | 0, _, h => cases h; exact db_ly_0
  | 1, _, h => cases h; exact db_ly_1
  | 2, _, h => cases h; exact db_ly_2
  | 3, _, h => cases h; exact db_ly_3
  | 4, _, h => cases h; exact db_ly_4
  | 5, _, h => cases h; exact db_ly_5
  | 6, _, h => cases h; exact db_ly_6
  | 7, _, h => cases h; exact db_ly_7
  | 8, _, h => cases h; exact db_ly_8
  | 9, _, h => cases h; exact db_ly_9
  | 10, _, h => cases h; exact db_ly_10
  | 11, _, h => cases h; exact db_ly_11
  | 12, _, h => cases h; exact db_ly_12
  | n + 13, hl, _ => omega
theorem db_cncl : ∀ (ci : Nat) (C : String) (T : u_T) (N : Nat), db_cl[ci]? = some (C, T, N) → db_cn ci = C := by
  intro ci C T N h
  have hl : ci < 13 := (List.getElem?_eq_some_iff.mp h).1
  match ci, hl, h with
  | 0, _, h => cases h; rfl
  | 1, _, h => cases h; rfl
  | 2, _, h => cases h; rfl
  | 3, _, h => cases h; rfl
  | 4, _, h => cases h; rfl
  | 5, _, h => cases h; rfl
  | 6, _, h => cases h; rfl
  | 7, _, h => cases h; rfl
  | 8, _, h => cases h; rfl
  | 9, _, h => cases h; rfl
  | 10, _, h => cases h; rfl
  | 11, _, h => cases h; rfl
  | 12, _, h => cases h; rfl
  | n + 13, hl, _ => omega
theorem db_wA : ∀ w ∈ ([Cond.arrayClass .byte, Cond.arrayClass .int, Cond.arrayClass .long] : List Cond), w ∈ db_T := db_wck (ids := [308, 207, 206]) (by decide +kernel)
theorem db_oAI : Cond.arrayOver (.array .int) ∈ lw_tbl := List.mem_of_getElem? (i := 316) (by decide +kernel)
theorem db_oAJ : Cond.arrayOver (.array .long) ∈ lw_tbl := List.mem_of_getElem? (i := 190) (by decide +kernel)
theorem db_oAT : Cond.arrayOver (.object "DreamBook$Told") ∈ lw_tbl := List.mem_of_getElem? (i := 649) (by decide +kernel)
theorem db_oAL : Cond.arrayOver (.object "DreamBook$Life") ∈ lw_tbl := List.mem_of_getElem? (i := 650) (by decide +kernel)
theorem db_oAP : Cond.arrayOver (.object "DreamBook$Plan") ∈ lw_tbl := List.mem_of_getElem? (i := 651) (by decide +kernel)
theorem db_oS : Cond.stringRef "DreamBook$Scanner" 39 "thing person season rule note dream widow turns of means less by unless for in strikes costs chance night any strike print when loop stop end sum worn " ∈ lw_tbl := List.mem_of_getElem? (i := 214) (by decide +kernel)
theorem db_oC : Cond.laysStatic "java/lang/String" "COMPACT_STRINGS" "Z" ∈ lw_tbl := List.mem_of_getElem? (i := 224) (by decide +kernel)
theorem db_oF : Cond.laysStatic "jdk/internal/util/Preconditions" "SIOOBE_FORMATTER" "Ljava/util/function/BiFunction;" ∈ lw_tbl := List.mem_of_getElem? (i := 240) (by decide +kernel)
theorem db_oIS : Cond.initialized "java/lang/String" ∈ lw_tbl := List.mem_of_getElem? (i := 158) (by decide +kernel)
theorem db_oIP : Cond.initialized "jdk/internal/util/Preconditions" ∈ lw_tbl := List.mem_of_getElem? (i := 160) (by decide +kernel)
