theorem db_tin {w : Cond} (k : Nat) (L : List Cond) (hk : ([tables_1_1, tables_1_2, tables_1_3, tables_1_4, tables_1_5, tables_1_6, tables_1_7, tables_1_8, tables_1_9, tables_1_10] : List (List Cond))[k]? = some L) (h : w ∈ L) (hg : (goodWord w || db_isN w) = true) : w ∈ db_T := by
  refine List.mem_filter.mpr ⟨List.mem_append_right _ ?_, hg⟩
  have h2 : w ∈ ([tables_1_1, tables_1_2, tables_1_3, tables_1_4, tables_1_5, tables_1_6, tables_1_7, tables_1_8, tables_1_9, tables_1_10] : List (List Cond)).flatten := List.mem_flatten.mpr ⟨L, List.mem_of_getElem? hk, h⟩
  have e : ([tables_1_1, tables_1_2, tables_1_3, tables_1_4, tables_1_5, tables_1_6, tables_1_7, tables_1_8, tables_1_9, tables_1_10] : List (List Cond)).flatten = tables_1 := by
    unfold tables_1
    simp only [List.flatten_cons, List.flatten_nil, List.append_nil]
  rwa [e] at h2
theorem db_dck_0 : db_dck prog_1_method_1_code dbt_0 = true := by decide +kernel
theorem db_mck_0 : db_mck dbm_0 = true := by decide +kernel
theorem db_cod_0 : Cond.code dbm_0.1 dbm_0.2.1 dbm_0.2.2.1 dbm_0.2.2.2.1 ∈ db_T := db_tin 0 tables_1_1 rfl (List.mem_of_getElem? (i := 26) rfl) rfl
theorem db_dck_1 : db_dck prog_12_method_1_code dbt_1 = true := by decide +kernel
theorem db_mck_1 : db_mck dbm_1 = true := by decide +kernel
theorem db_cod_1 : Cond.code dbm_1.1 dbm_1.2.1 dbm_1.2.2.1 dbm_1.2.2.2.1 ∈ db_T := db_tin 0 tables_1_1 rfl (List.mem_of_getElem? (i := 34) rfl) rfl
theorem db_dck_2 : db_dck prog_21_method_103_code dbt_2 = true := by decide +kernel
theorem db_mck_2 : db_mck dbm_2 = true := by decide +kernel
theorem db_cod_2 : Cond.code dbm_2.1 dbm_2.2.1 dbm_2.2.2.1 dbm_2.2.2.2.1 ∈ db_T := db_tin 0 tables_1_1 rfl (List.mem_of_getElem? (i := 40) rfl) rfl
theorem db_dck_3 : db_dck prog_10_method_1_code dbt_3 = true := by decide +kernel
theorem db_mck_3 : db_mck dbm_3 = true := by decide +kernel
theorem db_cod_3 : Cond.code dbm_3.1 dbm_3.2.1 dbm_3.2.2.1 dbm_3.2.2.2.1 ∈ db_T := db_tin 0 tables_1_1 rfl (List.mem_of_getElem? (i := 59) rfl) rfl
theorem db_dck_4 : db_dck prog_17_method_54_code dbt_4 = true := by decide +kernel
theorem db_mck_4 : db_mck dbm_4 = true := by decide +kernel
theorem db_cod_4 : Cond.code dbm_4.1 dbm_4.2.1 dbm_4.2.2.1 dbm_4.2.2.2.1 ∈ db_T := db_tin 0 tables_1_1 rfl (List.mem_of_getElem? (i := 65) rfl) rfl
theorem db_dck_5 : db_dck prog_17_method_152_code dbt_5 = true := by decide +kernel
theorem db_mck_5 : db_mck dbm_5 = true := by decide +kernel
theorem db_cod_5 : Cond.code dbm_5.1 dbm_5.2.1 dbm_5.2.2.1 dbm_5.2.2.2.1 ∈ db_T := db_tin 0 tables_1_1 rfl (List.mem_of_getElem? (i := 69) rfl) rfl
theorem db_dck_6 : db_dck prog_17_method_56_code dbt_6 = true := by decide +kernel
theorem db_mck_6 : db_mck dbm_6 = true := by decide +kernel
theorem db_cod_6 : Cond.code dbm_6.1 dbm_6.2.1 dbm_6.2.2.1 dbm_6.2.2.2.1 ∈ db_T := db_tin 0 tables_1_1 rfl (List.mem_of_getElem? (i := 75) rfl) rfl
theorem db_dck_7 : db_dck prog_17_method_154_code dbt_7 = true := by decide +kernel
theorem db_mck_7 : db_mck dbm_7 = true := by decide +kernel
theorem db_cod_7 : Cond.code dbm_7.1 dbm_7.2.1 dbm_7.2.2.1 dbm_7.2.2.2.1 ∈ db_T := db_tin 0 tables_1_1 rfl (List.mem_of_getElem? (i := 79) rfl) rfl
theorem db_dck_8 : db_dck prog_18_method_2_code dbt_8 = true := by decide +kernel
theorem db_mck_8 : db_mck dbm_8 = true := by decide +kernel
theorem db_cod_8 : Cond.code dbm_8.1 dbm_8.2.1 dbm_8.2.2.1 dbm_8.2.2.2.1 ∈ db_T := db_tin 0 tables_1_1 rfl (List.mem_of_getElem? (i := 82) rfl) rfl
theorem db_dck_9 : db_dck prog_17_method_155_code dbt_9 = true := by decide +kernel
theorem db_mck_9 : db_mck dbm_9 = true := by decide +kernel
theorem db_cod_9 : Cond.code dbm_9.1 dbm_9.2.1 dbm_9.2.2.1 dbm_9.2.2.2.1 ∈ db_T := db_tin 0 tables_1_1 rfl (List.mem_of_getElem? (i := 85) rfl) rfl
theorem db_dck_10 : db_dck prog_22_method_11_code dbt_10 = true := by decide +kernel
theorem db_mck_10 : db_mck dbm_10 = true := by decide +kernel
theorem db_cod_10 : Cond.code dbm_10.1 dbm_10.2.1 dbm_10.2.2.1 dbm_10.2.2.2.1 ∈ db_T := db_tin 0 tables_1_1 rfl (List.mem_of_getElem? (i := 90) rfl) rfl
theorem db_dck_11 : db_dck prog_10_method_25_code dbt_11 = true := by decide +kernel
theorem db_mck_11 : db_mck dbm_11 = true := by decide +kernel
theorem db_cod_11 : Cond.code dbm_11.1 dbm_11.2.1 dbm_11.2.2.1 dbm_11.2.2.2.1 ∈ db_T := db_tin 0 tables_1_1 rfl (List.mem_of_getElem? (i := 112) rfl) rfl
theorem db_dck_12 : db_dck prog_10_method_23_code dbt_12 = true := by decide +kernel
theorem db_mck_12 : db_mck dbm_12 = true := by decide +kernel
theorem db_cod_12 : Cond.code dbm_12.1 dbm_12.2.1 dbm_12.2.2.1 dbm_12.2.2.2.1 ∈ db_T := db_tin 0 tables_1_1 rfl (List.mem_of_getElem? (i := 115) rfl) rfl
theorem db_dck_13 : db_dck prog_11_method_1_code dbt_13 = true := by decide +kernel
theorem db_mck_13 : db_mck dbm_13 = true := by decide +kernel
theorem db_cod_13 : Cond.code dbm_13.1 dbm_13.2.1 dbm_13.2.2.1 dbm_13.2.2.2.1 ∈ db_T := db_tin 0 tables_1_1 rfl (List.mem_of_getElem? (i := 160) rfl) rfl
theorem db_dck_14 : db_dck prog_4_method_1_code dbt_14 = true := by decide +kernel
theorem db_mck_14 : db_mck dbm_14 = true := by decide +kernel
theorem db_cod_14 : Cond.code dbm_14.1 dbm_14.2.1 dbm_14.2.2.1 dbm_14.2.2.2.1 ∈ db_T := db_tin 1 tables_1_2 rfl (List.mem_of_getElem? (i := 29) rfl) rfl
theorem db_dck_15 : db_dck prog_6_method_1_code dbt_15 = true := by decide +kernel
theorem db_mck_15 : db_mck dbm_15 = true := by decide +kernel
theorem db_cod_15 : Cond.code dbm_15.1 dbm_15.2.1 dbm_15.2.2.1 dbm_15.2.2.2.1 ∈ db_T := db_tin 1 tables_1_2 rfl (List.mem_of_getElem? (i := 57) rfl) rfl
theorem db_dck_16 : db_dck prog_2_method_1_code dbt_16 = true := by decide +kernel
theorem db_mck_16 : db_mck dbm_16 = true := by decide +kernel
theorem db_cod_16 : Cond.code dbm_16.1 dbm_16.2.1 dbm_16.2.2.1 dbm_16.2.2.2.1 ∈ db_T := db_tin 1 tables_1_2 rfl (List.mem_of_getElem? (i := 85) rfl) rfl
theorem db_dck_17 : db_dck prog_7_method_1_code dbt_17 = true := by decide +kernel
theorem db_mck_17 : db_mck dbm_17 = true := by decide +kernel
theorem db_cod_17 : Cond.code dbm_17.1 dbm_17.2.1 dbm_17.2.2.1 dbm_17.2.2.2.1 ∈ db_T := db_tin 1 tables_1_2 rfl (List.mem_of_getElem? (i := 104) rfl) rfl
theorem db_dck_18 : db_dck prog_8_method_1_code dbt_18 = true := by decide +kernel
theorem db_mck_18 : db_mck dbm_18 = true := by decide +kernel
theorem db_cod_18 : Cond.code dbm_18.1 dbm_18.2.1 dbm_18.2.2.1 dbm_18.2.2.2.1 ∈ db_T := db_tin 1 tables_1_2 rfl (List.mem_of_getElem? (i := 129) rfl) rfl
theorem db_dck_19 : db_dck prog_3_method_1_code dbt_19 = true := by decide +kernel
theorem db_mck_19 : db_mck dbm_19 = true := by decide +kernel
theorem db_cod_19 : Cond.code dbm_19.1 dbm_19.2.1 dbm_19.2.2.1 dbm_19.2.2.2.1 ∈ db_T := db_tin 1 tables_1_2 rfl (List.mem_of_getElem? (i := 150) rfl) rfl
theorem db_dck_20 : db_dck prog_5_method_1_code dbt_20 = true := by decide +kernel
theorem db_mck_20 : db_mck dbm_20 = true := by decide +kernel
theorem db_cod_20 : Cond.code dbm_20.1 dbm_20.2.1 dbm_20.2.2.1 dbm_20.2.2.2.1 ∈ db_T := db_tin 1 tables_1_2 rfl (List.mem_of_getElem? (i := 195) rfl) rfl
theorem db_dck_21 : db_dck prog_9_method_1_code dbt_21 = true := by decide +kernel
theorem db_mck_21 : db_mck dbm_21 = true := by decide +kernel
theorem db_cod_21 : Cond.code dbm_21.1 dbm_21.2.1 dbm_21.2.2.1 dbm_21.2.2.2.1 ∈ db_T := db_tin 1 tables_1_2 rfl (List.mem_of_getElem? (i := 219) rfl) rfl
theorem db_dck_22 : db_dck prog_1_method_2_code dbt_22 = true := by decide +kernel
theorem db_mck_22 : db_mck dbm_22 = true := by decide +kernel
theorem db_cod_22 : Cond.code dbm_22.1 dbm_22.2.1 dbm_22.2.2.1 dbm_22.2.2.2.1 ∈ db_T := db_tin 2 tables_1_3 rfl (List.mem_of_getElem? (i := 71) rfl) rfl
theorem db_dck_23 : db_dck prog_1_method_3_code dbt_23 = true := by decide +kernel
theorem db_mck_23 : db_mck dbm_23 = true := by decide +kernel
theorem db_cod_23 : Cond.code dbm_23.1 dbm_23.2.1 dbm_23.2.2.1 dbm_23.2.2.2.1 ∈ db_T := db_tin 2 tables_1_3 rfl (List.mem_of_getElem? (i := 75) rfl) rfl
theorem db_dck_24 : db_dck prog_1_method_4_code dbt_24 = true := by decide +kernel
theorem db_mck_24 : db_mck dbm_24 = true := by decide +kernel
theorem db_cod_24 : Cond.code dbm_24.1 dbm_24.2.1 dbm_24.2.2.1 dbm_24.2.2.2.1 ∈ db_T := db_tin 2 tables_1_3 rfl (List.mem_of_getElem? (i := 79) rfl) rfl
theorem db_dck_25 : db_dck prog_1_method_5_code dbt_25 = true := by decide +kernel
theorem db_mck_25 : db_mck dbm_25 = true := by decide +kernel
theorem db_cod_25 : Cond.code dbm_25.1 dbm_25.2.1 dbm_25.2.2.1 dbm_25.2.2.2.1 ∈ db_T := db_tin 2 tables_1_3 rfl (List.mem_of_getElem? (i := 83) rfl) rfl
theorem db_dck_26 : db_dck prog_12_method_2_code dbt_26 = true := by decide +kernel
theorem db_mck_26 : db_mck dbm_26 = true := by decide +kernel
theorem db_cod_26 : Cond.code dbm_26.1 dbm_26.2.1 dbm_26.2.2.1 dbm_26.2.2.2.1 ∈ db_T := db_tin 2 tables_1_3 rfl (List.mem_of_getElem? (i := 87) rfl) rfl
theorem db_dck_27 : db_dck prog_1_method_68_code dbt_27 = true := by decide +kernel
theorem db_mck_27 : db_mck dbm_27 = true := by decide +kernel
theorem db_cod_27 : Cond.code dbm_27.1 dbm_27.2.1 dbm_27.2.2.1 dbm_27.2.2.2.1 ∈ db_T := db_tin 2 tables_1_3 rfl (List.mem_of_getElem? (i := 90) rfl) rfl
theorem db_dck_28 : db_dck prog_1_method_61_code dbt_28 = true := by decide +kernel
theorem db_mck_28 : db_mck dbm_28 = true := by decide +kernel
theorem db_cod_28 : Cond.code dbm_28.1 dbm_28.2.1 dbm_28.2.2.1 dbm_28.2.2.2.1 ∈ db_T := db_tin 2 tables_1_3 rfl (List.mem_of_getElem? (i := 95) rfl) rfl
theorem db_dck_29 : db_dck prog_12_method_7_code dbt_29 = true := by decide +kernel
theorem db_mck_29 : db_mck dbm_29 = true := by decide +kernel
theorem db_cod_29 : Cond.code dbm_29.1 dbm_29.2.1 dbm_29.2.2.1 dbm_29.2.2.2.1 ∈ db_T := db_tin 2 tables_1_3 rfl (List.mem_of_getElem? (i := 99) rfl) rfl
theorem db_dck_30 : db_dck prog_21_method_101_code dbt_30 = true := by decide +kernel
theorem db_mck_30 : db_mck dbm_30 = true := by decide +kernel
theorem db_cod_30 : Cond.code dbm_30.1 dbm_30.2.1 dbm_30.2.2.1 dbm_30.2.2.2.1 ∈ db_T := db_tin 2 tables_1_3 rfl (List.mem_of_getElem? (i := 102) rfl) rfl
theorem db_dck_31 : db_dck prog_1_method_60_code dbt_31 = true := by decide +kernel
theorem db_mck_31 : db_mck dbm_31 = true := by decide +kernel
theorem db_cod_31 : Cond.code dbm_31.1 dbm_31.2.1 dbm_31.2.2.1 dbm_31.2.2.2.1 ∈ db_T := db_tin 2 tables_1_3 rfl (List.mem_of_getElem? (i := 106) rfl) rfl
theorem db_dck_32 : db_dck prog_1_method_6_code dbt_32 = true := by decide +kernel
theorem db_mck_32 : db_mck dbm_32 = true := by decide +kernel
theorem db_cod_32 : Cond.code dbm_32.1 dbm_32.2.1 dbm_32.2.2.1 dbm_32.2.2.2.1 ∈ db_T := db_tin 2 tables_1_3 rfl (List.mem_of_getElem? (i := 110) rfl) rfl
theorem db_dck_33 : db_dck prog_12_method_3_code dbt_33 = true := by decide +kernel
theorem db_mck_33 : db_mck dbm_33 = true := by decide +kernel
theorem db_cod_33 : Cond.code dbm_33.1 dbm_33.2.1 dbm_33.2.2.1 dbm_33.2.2.2.1 ∈ db_T := db_tin 2 tables_1_3 rfl (List.mem_of_getElem? (i := 114) rfl) rfl
theorem db_dck_34 : db_dck prog_12_method_5_code dbt_34 = true := by decide +kernel
theorem db_mck_34 : db_mck dbm_34 = true := by decide +kernel
theorem db_cod_34 : Cond.code dbm_34.1 dbm_34.2.1 dbm_34.2.2.1 dbm_34.2.2.2.1 ∈ db_T := db_tin 2 tables_1_3 rfl (List.mem_of_getElem? (i := 119) rfl) rfl
theorem db_dck_35 : db_dck prog_12_method_8_code dbt_35 = true := by decide +kernel
theorem db_mck_35 : db_mck dbm_35 = true := by decide +kernel
theorem db_cod_35 : Cond.code dbm_35.1 dbm_35.2.1 dbm_35.2.2.1 dbm_35.2.2.2.1 ∈ db_T := db_tin 2 tables_1_3 rfl (List.mem_of_getElem? (i := 123) rfl) rfl
theorem db_dck_36 : db_dck prog_1_method_7_code dbt_36 = true := by decide +kernel
theorem db_mck_36 : db_mck dbm_36 = true := by decide +kernel
theorem db_cod_36 : Cond.code dbm_36.1 dbm_36.2.1 dbm_36.2.2.1 dbm_36.2.2.2.1 ∈ db_T := db_tin 2 tables_1_3 rfl (List.mem_of_getElem? (i := 127) rfl) rfl
theorem db_dck_37 : db_dck prog_1_method_59_code dbt_37 = true := by decide +kernel
theorem db_mck_37 : db_mck dbm_37 = true := by decide +kernel
theorem db_cod_37 : Cond.code dbm_37.1 dbm_37.2.1 dbm_37.2.2.1 dbm_37.2.2.2.1 ∈ db_T := db_tin 2 tables_1_3 rfl (List.mem_of_getElem? (i := 131) rfl) rfl
theorem db_dck_38 : db_dck prog_1_method_8_code dbt_38 = true := by decide +kernel
theorem db_mck_38 : db_mck dbm_38 = true := by decide +kernel
theorem db_cod_38 : Cond.code dbm_38.1 dbm_38.2.1 dbm_38.2.2.1 dbm_38.2.2.2.1 ∈ db_T := db_tin 2 tables_1_3 rfl (List.mem_of_getElem? (i := 135) rfl) rfl
theorem db_dck_39 : db_dck prog_12_method_4_code dbt_39 = true := by decide +kernel
theorem db_mck_39 : db_mck dbm_39 = true := by decide +kernel
theorem db_cod_39 : Cond.code dbm_39.1 dbm_39.2.1 dbm_39.2.2.1 dbm_39.2.2.2.1 ∈ db_T := db_tin 2 tables_1_3 rfl (List.mem_of_getElem? (i := 139) rfl) rfl
theorem db_dck_40 : db_dck prog_12_method_6_code dbt_40 = true := by decide +kernel
theorem db_mck_40 : db_mck dbm_40 = true := by decide +kernel
theorem db_cod_40 : Cond.code dbm_40.1 dbm_40.2.1 dbm_40.2.2.1 dbm_40.2.2.2.1 ∈ db_T := db_tin 2 tables_1_3 rfl (List.mem_of_getElem? (i := 143) rfl) rfl
theorem db_dck_41 : db_dck prog_1_method_9_code dbt_41 = true := by decide +kernel
theorem db_mck_41 : db_mck dbm_41 = true := by decide +kernel
theorem db_cod_41 : Cond.code dbm_41.1 dbm_41.2.1 dbm_41.2.2.1 dbm_41.2.2.2.1 ∈ db_T := db_tin 2 tables_1_3 rfl (List.mem_of_getElem? (i := 150) rfl) rfl
theorem db_dck_42 : db_dck prog_10_method_2_code dbt_42 = true := by decide +kernel
theorem db_mck_42 : db_mck dbm_42 = true := by decide +kernel
theorem db_cod_42 : Cond.code dbm_42.1 dbm_42.2.1 dbm_42.2.2.1 dbm_42.2.2.2.1 ∈ db_T := db_tin 2 tables_1_3 rfl (List.mem_of_getElem? (i := 154) rfl) rfl
theorem db_dck_43 : db_dck prog_10_method_3_code dbt_43 = true := by decide +kernel
theorem db_mck_43 : db_mck dbm_43 = true := by decide +kernel
theorem db_cod_43 : Cond.code dbm_43.1 dbm_43.2.1 dbm_43.2.2.1 dbm_43.2.2.2.1 ∈ db_T := db_tin 2 tables_1_3 rfl (List.mem_of_getElem? (i := 158) rfl) rfl
theorem db_dck_44 : db_dck prog_1_method_10_code dbt_44 = true := by decide +kernel
theorem db_mck_44 : db_mck dbm_44 = true := by decide +kernel
theorem db_cod_44 : Cond.code dbm_44.1 dbm_44.2.1 dbm_44.2.2.1 dbm_44.2.2.2.1 ∈ db_T := db_tin 2 tables_1_3 rfl (List.mem_of_getElem? (i := 162) rfl) rfl
theorem db_dck_45 : db_dck prog_2_method_2_code dbt_45 = true := by decide +kernel
theorem db_mck_45 : db_mck dbm_45 = true := by decide +kernel
theorem db_cod_45 : Cond.code dbm_45.1 dbm_45.2.1 dbm_45.2.2.1 dbm_45.2.2.2.1 ∈ db_T := db_tin 2 tables_1_3 rfl (List.mem_of_getElem? (i := 166) rfl) rfl
theorem db_dck_46 : db_dck prog_11_method_2_code dbt_46 = true := by decide +kernel
theorem db_mck_46 : db_mck dbm_46 = true := by decide +kernel
theorem db_cod_46 : Cond.code dbm_46.1 dbm_46.2.1 dbm_46.2.2.1 dbm_46.2.2.2.1 ∈ db_T := db_tin 2 tables_1_3 rfl (List.mem_of_getElem? (i := 170) rfl) rfl
theorem db_dck_47 : db_dck prog_10_method_4_code dbt_47 = true := by decide +kernel
theorem db_mck_47 : db_mck dbm_47 = true := by decide +kernel
theorem db_cod_47 : Cond.code dbm_47.1 dbm_47.2.1 dbm_47.2.2.1 dbm_47.2.2.2.1 ∈ db_T := db_tin 2 tables_1_3 rfl (List.mem_of_getElem? (i := 175) rfl) rfl
theorem db_dck_48 : db_dck prog_10_method_24_code dbt_48 = true := by decide +kernel
theorem db_mck_48 : db_mck dbm_48 = true := by decide +kernel
theorem db_cod_48 : Cond.code dbm_48.1 dbm_48.2.1 dbm_48.2.2.1 dbm_48.2.2.2.1 ∈ db_T := db_tin 2 tables_1_3 rfl (List.mem_of_getElem? (i := 181) rfl) rfl
theorem db_dck_49 : db_dck prog_10_method_5_code dbt_49 = true := by decide +kernel
theorem db_mck_49 : db_mck dbm_49 = true := by decide +kernel
theorem db_cod_49 : Cond.code dbm_49.1 dbm_49.2.1 dbm_49.2.2.1 dbm_49.2.2.2.1 ∈ db_T := db_tin 2 tables_1_3 rfl (List.mem_of_getElem? (i := 185) rfl) rfl
theorem db_dck_50 : db_dck prog_10_method_6_code dbt_50 = true := by decide +kernel
theorem db_mck_50 : db_mck dbm_50 = true := by decide +kernel
theorem db_cod_50 : Cond.code dbm_50.1 dbm_50.2.1 dbm_50.2.2.1 dbm_50.2.2.2.1 ∈ db_T := db_tin 2 tables_1_3 rfl (List.mem_of_getElem? (i := 189) rfl) rfl
theorem db_dck_51 : db_dck prog_10_method_8_code dbt_51 = true := by decide +kernel
theorem db_mck_51 : db_mck dbm_51 = true := by decide +kernel
theorem db_cod_51 : Cond.code dbm_51.1 dbm_51.2.1 dbm_51.2.2.1 dbm_51.2.2.2.1 ∈ db_T := db_tin 2 tables_1_3 rfl (List.mem_of_getElem? (i := 194) rfl) rfl
theorem db_dck_52 : db_dck prog_10_method_26_code dbt_52 = true := by decide +kernel
theorem db_mck_52 : db_mck dbm_52 = true := by decide +kernel
theorem db_cod_52 : Cond.code dbm_52.1 dbm_52.2.1 dbm_52.2.2.1 dbm_52.2.2.2.1 ∈ db_T := db_tin 2 tables_1_3 rfl (List.mem_of_getElem? (i := 197) rfl) rfl
theorem db_dck_53 : db_dck prog_10_method_7_code dbt_53 = true := by decide +kernel
theorem db_mck_53 : db_mck dbm_53 = true := by decide +kernel
theorem db_cod_53 : Cond.code dbm_53.1 dbm_53.2.1 dbm_53.2.2.1 dbm_53.2.2.2.1 ∈ db_T := db_tin 2 tables_1_3 rfl (List.mem_of_getElem? (i := 201) rfl) rfl
theorem db_dck_54 : db_dck prog_10_method_27_code dbt_54 = true := by decide +kernel
theorem db_mck_54 : db_mck dbm_54 = true := by decide +kernel
theorem db_cod_54 : Cond.code dbm_54.1 dbm_54.2.1 dbm_54.2.2.1 dbm_54.2.2.2.1 ∈ db_T := db_tin 2 tables_1_3 rfl (List.mem_of_getElem? (i := 204) rfl) rfl
theorem db_dck_55 : db_dck prog_10_method_9_code dbt_55 = true := by decide +kernel
theorem db_mck_55 : db_mck dbm_55 = true := by decide +kernel
theorem db_cod_55 : Cond.code dbm_55.1 dbm_55.2.1 dbm_55.2.2.1 dbm_55.2.2.2.1 ∈ db_T := db_tin 2 tables_1_3 rfl (List.mem_of_getElem? (i := 208) rfl) rfl
theorem db_dck_56 : db_dck prog_2_method_3_code dbt_56 = true := by decide +kernel
theorem db_mck_56 : db_mck dbm_56 = true := by decide +kernel
theorem db_cod_56 : Cond.code dbm_56.1 dbm_56.2.1 dbm_56.2.2.1 dbm_56.2.2.2.1 ∈ db_T := db_tin 2 tables_1_3 rfl (List.mem_of_getElem? (i := 212) rfl) rfl
theorem db_dck_57 : db_dck prog_10_method_11_code dbt_57 = true := by decide +kernel
theorem db_mck_57 : db_mck dbm_57 = true := by decide +kernel
theorem db_cod_57 : Cond.code dbm_57.1 dbm_57.2.1 dbm_57.2.2.1 dbm_57.2.2.2.1 ∈ db_T := db_tin 2 tables_1_3 rfl (List.mem_of_getElem? (i := 216) rfl) rfl
theorem db_dck_58 : db_dck prog_10_method_13_code dbt_58 = true := by decide +kernel
theorem db_mck_58 : db_mck dbm_58 = true := by decide +kernel
theorem db_cod_58 : Cond.code dbm_58.1 dbm_58.2.1 dbm_58.2.2.1 dbm_58.2.2.2.1 ∈ db_T := db_tin 2 tables_1_3 rfl (List.mem_of_getElem? (i := 221) rfl) rfl
theorem db_dck_59 : db_dck prog_2_method_4_code dbt_59 = true := by decide +kernel
theorem db_mck_59 : db_mck dbm_59 = true := by decide +kernel
theorem db_cod_59 : Cond.code dbm_59.1 dbm_59.2.1 dbm_59.2.2.1 dbm_59.2.2.2.1 ∈ db_T := db_tin 2 tables_1_3 rfl (List.mem_of_getElem? (i := 224) rfl) rfl
theorem db_dck_60 : db_dck prog_10_method_10_code dbt_60 = true := by decide +kernel
theorem db_mck_60 : db_mck dbm_60 = true := by decide +kernel
theorem db_cod_60 : Cond.code dbm_60.1 dbm_60.2.1 dbm_60.2.2.1 dbm_60.2.2.2.1 ∈ db_T := db_tin 2 tables_1_3 rfl (List.mem_of_getElem? (i := 228) rfl) rfl
theorem db_dck_61 : db_dck prog_10_method_20_code dbt_61 = true := by decide +kernel
theorem db_mck_61 : db_mck dbm_61 = true := by decide +kernel
theorem db_cod_61 : Cond.code dbm_61.1 dbm_61.2.1 dbm_61.2.2.1 dbm_61.2.2.2.1 ∈ db_T := db_tin 2 tables_1_3 rfl (List.mem_of_getElem? (i := 232) rfl) rfl
theorem db_dck_62 : db_dck prog_10_method_12_code dbt_62 = true := by decide +kernel
theorem db_mck_62 : db_mck dbm_62 = true := by decide +kernel
theorem db_cod_62 : Cond.code dbm_62.1 dbm_62.2.1 dbm_62.2.2.1 dbm_62.2.2.2.1 ∈ db_T := db_tin 2 tables_1_3 rfl (List.mem_of_getElem? (i := 236) rfl) rfl
theorem db_dck_63 : db_dck prog_11_method_4_code dbt_63 = true := by decide +kernel
theorem db_mck_63 : db_mck dbm_63 = true := by decide +kernel
theorem db_cod_63 : Cond.code dbm_63.1 dbm_63.2.1 dbm_63.2.2.1 dbm_63.2.2.2.1 ∈ db_T := db_tin 3 tables_1_4 rfl (List.mem_of_getElem? (i := 1) rfl) rfl
theorem db_dck_64 : db_dck prog_11_method_5_code dbt_64 = true := by decide +kernel
theorem db_mck_64 : db_mck dbm_64 = true := by decide +kernel
theorem db_cod_64 : Cond.code dbm_64.1 dbm_64.2.1 dbm_64.2.2.1 dbm_64.2.2.2.1 ∈ db_T := db_tin 3 tables_1_4 rfl (List.mem_of_getElem? (i := 5) rfl) rfl
theorem db_dck_65 : db_dck prog_2_method_5_code dbt_65 = true := by decide +kernel
theorem db_mck_65 : db_mck dbm_65 = true := by decide +kernel
theorem db_cod_65 : Cond.code dbm_65.1 dbm_65.2.1 dbm_65.2.2.1 dbm_65.2.2.2.1 ∈ db_T := db_tin 3 tables_1_4 rfl (List.mem_of_getElem? (i := 10) rfl) rfl
theorem db_dck_66 : db_dck prog_10_method_14_code dbt_66 = true := by decide +kernel
theorem db_mck_66 : db_mck dbm_66 = true := by decide +kernel
theorem db_cod_66 : Cond.code dbm_66.1 dbm_66.2.1 dbm_66.2.2.1 dbm_66.2.2.2.1 ∈ db_T := db_tin 3 tables_1_4 rfl (List.mem_of_getElem? (i := 14) rfl) rfl
theorem db_dck_67 : db_dck prog_2_method_6_code dbt_67 = true := by decide +kernel
theorem db_mck_67 : db_mck dbm_67 = true := by decide +kernel
theorem db_cod_67 : Cond.code dbm_67.1 dbm_67.2.1 dbm_67.2.2.1 dbm_67.2.2.2.1 ∈ db_T := db_tin 3 tables_1_4 rfl (List.mem_of_getElem? (i := 19) rfl) rfl
theorem db_dck_68 : db_dck prog_10_method_15_code dbt_68 = true := by decide +kernel
theorem db_mck_68 : db_mck dbm_68 = true := by decide +kernel
theorem db_cod_68 : Cond.code dbm_68.1 dbm_68.2.1 dbm_68.2.2.1 dbm_68.2.2.2.1 ∈ db_T := db_tin 3 tables_1_4 rfl (List.mem_of_getElem? (i := 23) rfl) rfl
theorem db_dck_69 : db_dck prog_10_method_21_code dbt_69 = true := by decide +kernel
theorem db_mck_69 : db_mck dbm_69 = true := by decide +kernel
theorem db_cod_69 : Cond.code dbm_69.1 dbm_69.2.1 dbm_69.2.2.1 dbm_69.2.2.2.1 ∈ db_T := db_tin 3 tables_1_4 rfl (List.mem_of_getElem? (i := 28) rfl) rfl
theorem db_dck_70 : db_dck prog_10_method_22_code dbt_70 = true := by decide +kernel
theorem db_mck_70 : db_mck dbm_70 = true := by decide +kernel
theorem db_cod_70 : Cond.code dbm_70.1 dbm_70.2.1 dbm_70.2.2.1 dbm_70.2.2.2.1 ∈ db_T := db_tin 3 tables_1_4 rfl (List.mem_of_getElem? (i := 32) rfl) rfl
theorem db_dck_71 : db_dck prog_11_method_6_code dbt_71 = true := by decide +kernel
theorem db_mck_71 : db_mck dbm_71 = true := by decide +kernel
theorem db_cod_71 : Cond.code dbm_71.1 dbm_71.2.1 dbm_71.2.2.1 dbm_71.2.2.2.1 ∈ db_T := db_tin 3 tables_1_4 rfl (List.mem_of_getElem? (i := 36) rfl) rfl
theorem db_dck_72 : db_dck prog_10_method_19_code dbt_72 = true := by decide +kernel
theorem db_mck_72 : db_mck dbm_72 = true := by decide +kernel
theorem db_cod_72 : Cond.code dbm_72.1 dbm_72.2.1 dbm_72.2.2.1 dbm_72.2.2.2.1 ∈ db_T := db_tin 3 tables_1_4 rfl (List.mem_of_getElem? (i := 40) rfl) rfl
theorem db_dck_73 : db_dck prog_10_method_18_code dbt_73 = true := by decide +kernel
theorem db_mck_73 : db_mck dbm_73 = true := by decide +kernel
theorem db_cod_73 : Cond.code dbm_73.1 dbm_73.2.1 dbm_73.2.2.1 dbm_73.2.2.2.1 ∈ db_T := db_tin 3 tables_1_4 rfl (List.mem_of_getElem? (i := 44) rfl) rfl
theorem db_dck_74 : db_dck prog_2_method_7_code dbt_74 = true := by decide +kernel
theorem db_mck_74 : db_mck dbm_74 = true := by decide +kernel
theorem db_cod_74 : Cond.code dbm_74.1 dbm_74.2.1 dbm_74.2.2.1 dbm_74.2.2.2.1 ∈ db_T := db_tin 3 tables_1_4 rfl (List.mem_of_getElem? (i := 49) rfl) rfl
theorem db_dck_75 : db_dck prog_2_method_8_code dbt_75 = true := by decide +kernel
theorem db_mck_75 : db_mck dbm_75 = true := by decide +kernel
theorem db_cod_75 : Cond.code dbm_75.1 dbm_75.2.1 dbm_75.2.2.1 dbm_75.2.2.2.1 ∈ db_T := db_tin 3 tables_1_4 rfl (List.mem_of_getElem? (i := 53) rfl) rfl
theorem db_dck_76 : db_dck prog_11_method_8_code dbt_76 = true := by decide +kernel
theorem db_mck_76 : db_mck dbm_76 = true := by decide +kernel
theorem db_cod_76 : Cond.code dbm_76.1 dbm_76.2.1 dbm_76.2.2.1 dbm_76.2.2.2.1 ∈ db_T := db_tin 3 tables_1_4 rfl (List.mem_of_getElem? (i := 58) rfl) rfl
theorem db_dck_77 : db_dck prog_2_method_9_code dbt_77 = true := by decide +kernel
theorem db_mck_77 : db_mck dbm_77 = true := by decide +kernel
theorem db_cod_77 : Cond.code dbm_77.1 dbm_77.2.1 dbm_77.2.2.1 dbm_77.2.2.2.1 ∈ db_T := db_tin 3 tables_1_4 rfl (List.mem_of_getElem? (i := 62) rfl) rfl
theorem db_dck_78 : db_dck prog_2_method_10_code dbt_78 = true := by decide +kernel
theorem db_mck_78 : db_mck dbm_78 = true := by decide +kernel
theorem db_cod_78 : Cond.code dbm_78.1 dbm_78.2.1 dbm_78.2.2.1 dbm_78.2.2.2.1 ∈ db_T := db_tin 3 tables_1_4 rfl (List.mem_of_getElem? (i := 66) rfl) rfl
theorem db_dck_79 : db_dck prog_10_method_16_code dbt_79 = true := by decide +kernel
theorem db_mck_79 : db_mck dbm_79 = true := by decide +kernel
theorem db_cod_79 : Cond.code dbm_79.1 dbm_79.2.1 dbm_79.2.2.1 dbm_79.2.2.2.1 ∈ db_T := db_tin 3 tables_1_4 rfl (List.mem_of_getElem? (i := 72) rfl) rfl
theorem db_dck_80 : db_dck prog_11_method_9_code dbt_80 = true := by decide +kernel
theorem db_mck_80 : db_mck dbm_80 = true := by decide +kernel
theorem db_cod_80 : Cond.code dbm_80.1 dbm_80.2.1 dbm_80.2.2.1 dbm_80.2.2.2.1 ∈ db_T := db_tin 3 tables_1_4 rfl (List.mem_of_getElem? (i := 76) rfl) rfl
theorem db_dck_81 : db_dck prog_11_method_10_code dbt_81 = true := by decide +kernel
theorem db_mck_81 : db_mck dbm_81 = true := by decide +kernel
theorem db_cod_81 : Cond.code dbm_81.1 dbm_81.2.1 dbm_81.2.2.1 dbm_81.2.2.2.1 ∈ db_T := db_tin 3 tables_1_4 rfl (List.mem_of_getElem? (i := 80) rfl) rfl
theorem db_dck_82 : db_dck prog_11_method_3_code dbt_82 = true := by decide +kernel
theorem db_mck_82 : db_mck dbm_82 = true := by decide +kernel
theorem db_cod_82 : Cond.code dbm_82.1 dbm_82.2.1 dbm_82.2.2.1 dbm_82.2.2.2.1 ∈ db_T := db_tin 3 tables_1_4 rfl (List.mem_of_getElem? (i := 84) rfl) rfl
theorem db_dck_83 : db_dck prog_1_method_72_code dbt_83 = true := by decide +kernel
theorem db_mck_83 : db_mck dbm_83 = true := by decide +kernel
theorem db_cod_83 : Cond.code dbm_83.1 dbm_83.2.1 dbm_83.2.2.1 dbm_83.2.2.2.1 ∈ db_T := db_tin 3 tables_1_4 rfl (List.mem_of_getElem? (i := 87) rfl) rfl
theorem db_dck_84 : db_dck prog_1_method_71_code dbt_84 = true := by decide +kernel
theorem db_mck_84 : db_mck dbm_84 = true := by decide +kernel
theorem db_cod_84 : Cond.code dbm_84.1 dbm_84.2.1 dbm_84.2.2.1 dbm_84.2.2.2.1 ∈ db_T := db_tin 3 tables_1_4 rfl (List.mem_of_getElem? (i := 91) rfl) rfl
theorem db_dck_85 : db_dck prog_4_method_2_code dbt_85 = true := by decide +kernel
theorem db_mck_85 : db_mck dbm_85 = true := by decide +kernel
theorem db_cod_85 : Cond.code dbm_85.1 dbm_85.2.1 dbm_85.2.2.1 dbm_85.2.2.2.1 ∈ db_T := db_tin 3 tables_1_4 rfl (List.mem_of_getElem? (i := 97) rfl) rfl
theorem db_dck_86 : db_dck prog_6_method_2_code dbt_86 = true := by decide +kernel
theorem db_mck_86 : db_mck dbm_86 = true := by decide +kernel
theorem db_cod_86 : Cond.code dbm_86.1 dbm_86.2.1 dbm_86.2.2.1 dbm_86.2.2.2.1 ∈ db_T := db_tin 3 tables_1_4 rfl (List.mem_of_getElem? (i := 102) rfl) rfl
theorem db_dck_87 : db_dck prog_1_method_58_code dbt_87 = true := by decide +kernel
theorem db_mck_87 : db_mck dbm_87 = true := by decide +kernel
theorem db_cod_87 : Cond.code dbm_87.1 dbm_87.2.1 dbm_87.2.2.1 dbm_87.2.2.2.1 ∈ db_T := db_tin 3 tables_1_4 rfl (List.mem_of_getElem? (i := 106) rfl) rfl
theorem db_dck_88 : db_dck prog_1_method_11_code dbt_88 = true := by decide +kernel
theorem db_mck_88 : db_mck dbm_88 = true := by decide +kernel
theorem db_cod_88 : Cond.code dbm_88.1 dbm_88.2.1 dbm_88.2.2.1 dbm_88.2.2.2.1 ∈ db_T := db_tin 3 tables_1_4 rfl (List.mem_of_getElem? (i := 110) rfl) rfl
theorem db_dck_89 : db_dck prog_7_method_2_code dbt_89 = true := by decide +kernel
theorem db_mck_89 : db_mck dbm_89 = true := by decide +kernel
theorem db_cod_89 : Cond.code dbm_89.1 dbm_89.2.1 dbm_89.2.2.1 dbm_89.2.2.2.1 ∈ db_T := db_tin 3 tables_1_4 rfl (List.mem_of_getElem? (i := 114) rfl) rfl
theorem db_dck_90 : db_dck prog_7_method_3_code dbt_90 = true := by decide +kernel
theorem db_mck_90 : db_mck dbm_90 = true := by decide +kernel
theorem db_cod_90 : Cond.code dbm_90.1 dbm_90.2.1 dbm_90.2.2.1 dbm_90.2.2.2.1 ∈ db_T := db_tin 3 tables_1_4 rfl (List.mem_of_getElem? (i := 121) rfl) rfl
theorem db_dck_91 : db_dck prog_7_method_5_code dbt_91 = true := by decide +kernel
theorem db_mck_91 : db_mck dbm_91 = true := by decide +kernel
theorem db_cod_91 : Cond.code dbm_91.1 dbm_91.2.1 dbm_91.2.2.1 dbm_91.2.2.2.1 ∈ db_T := db_tin 3 tables_1_4 rfl (List.mem_of_getElem? (i := 126) rfl) rfl
theorem db_dck_92 : db_dck prog_7_method_4_code dbt_92 = true := by decide +kernel
theorem db_mck_92 : db_mck dbm_92 = true := by decide +kernel
theorem db_cod_92 : Cond.code dbm_92.1 dbm_92.2.1 dbm_92.2.2.1 dbm_92.2.2.2.1 ∈ db_T := db_tin 3 tables_1_4 rfl (List.mem_of_getElem? (i := 131) rfl) rfl
theorem db_dck_93 : db_dck prog_7_method_6_code dbt_93 = true := by decide +kernel
theorem db_mck_93 : db_mck dbm_93 = true := by decide +kernel
theorem db_cod_93 : Cond.code dbm_93.1 dbm_93.2.1 dbm_93.2.2.1 dbm_93.2.2.2.1 ∈ db_T := db_tin 3 tables_1_4 rfl (List.mem_of_getElem? (i := 137) rfl) rfl
theorem db_dck_94 : db_dck prog_7_method_7_code dbt_94 = true := by decide +kernel
theorem db_mck_94 : db_mck dbm_94 = true := by decide +kernel
theorem db_cod_94 : Cond.code dbm_94.1 dbm_94.2.1 dbm_94.2.2.1 dbm_94.2.2.2.1 ∈ db_T := db_tin 3 tables_1_4 rfl (List.mem_of_getElem? (i := 142) rfl) rfl
theorem db_dck_95 : db_dck prog_7_method_8_code dbt_95 = true := by decide +kernel
theorem db_mck_95 : db_mck dbm_95 = true := by decide +kernel
theorem db_cod_95 : Cond.code dbm_95.1 dbm_95.2.1 dbm_95.2.2.1 dbm_95.2.2.2.1 ∈ db_T := db_tin 3 tables_1_4 rfl (List.mem_of_getElem? (i := 148) rfl) rfl
theorem db_dck_96 : db_dck prog_10_method_17_code dbt_96 = true := by decide +kernel
theorem db_mck_96 : db_mck dbm_96 = true := by decide +kernel
theorem db_cod_96 : Cond.code dbm_96.1 dbm_96.2.1 dbm_96.2.2.1 dbm_96.2.2.2.1 ∈ db_T := db_tin 3 tables_1_4 rfl (List.mem_of_getElem? (i := 152) rfl) rfl
theorem db_dck_97 : db_dck prog_6_method_3_code dbt_97 = true := by decide +kernel
theorem db_mck_97 : db_mck dbm_97 = true := by decide +kernel
theorem db_cod_97 : Cond.code dbm_97.1 dbm_97.2.1 dbm_97.2.2.1 dbm_97.2.2.2.1 ∈ db_T := db_tin 3 tables_1_4 rfl (List.mem_of_getElem? (i := 159) rfl) rfl
theorem db_dck_98 : db_dck prog_1_method_12_code dbt_98 = true := by decide +kernel
theorem db_mck_98 : db_mck dbm_98 = true := by decide +kernel
theorem db_cod_98 : Cond.code dbm_98.1 dbm_98.2.1 dbm_98.2.2.1 dbm_98.2.2.2.1 ∈ db_T := db_tin 3 tables_1_4 rfl (List.mem_of_getElem? (i := 164) rfl) rfl
theorem db_dck_99 : db_dck prog_1_method_13_code dbt_99 = true := by decide +kernel
theorem db_mck_99 : db_mck dbm_99 = true := by decide +kernel
theorem db_cod_99 : Cond.code dbm_99.1 dbm_99.2.1 dbm_99.2.2.1 dbm_99.2.2.2.1 ∈ db_T := db_tin 3 tables_1_4 rfl (List.mem_of_getElem? (i := 168) rfl) rfl
theorem db_dck_100 : db_dck prog_11_method_7_code dbt_100 = true := by decide +kernel
theorem db_mck_100 : db_mck dbm_100 = true := by decide +kernel
theorem db_cod_100 : Cond.code dbm_100.1 dbm_100.2.1 dbm_100.2.2.1 dbm_100.2.2.2.1 ∈ db_T := db_tin 3 tables_1_4 rfl (List.mem_of_getElem? (i := 172) rfl) rfl
theorem db_dck_101 : db_dck prog_8_method_2_code dbt_101 = true := by decide +kernel
theorem db_mck_101 : db_mck dbm_101 = true := by decide +kernel
theorem db_cod_101 : Cond.code dbm_101.1 dbm_101.2.1 dbm_101.2.2.1 dbm_101.2.2.2.1 ∈ db_T := db_tin 3 tables_1_4 rfl (List.mem_of_getElem? (i := 176) rfl) rfl
theorem db_dck_102 : db_dck prog_1_method_14_code dbt_102 = true := by decide +kernel
theorem db_mck_102 : db_mck dbm_102 = true := by decide +kernel
theorem db_cod_102 : Cond.code dbm_102.1 dbm_102.2.1 dbm_102.2.2.1 dbm_102.2.2.2.1 ∈ db_T := db_tin 3 tables_1_4 rfl (List.mem_of_getElem? (i := 180) rfl) rfl
theorem db_dck_103 : db_dck prog_1_method_62_code dbt_103 = true := by decide +kernel
theorem db_mck_103 : db_mck dbm_103 = true := by decide +kernel
theorem db_cod_103 : Cond.code dbm_103.1 dbm_103.2.1 dbm_103.2.2.1 dbm_103.2.2.2.1 ∈ db_T := db_tin 3 tables_1_4 rfl (List.mem_of_getElem? (i := 184) rfl) rfl
theorem db_dck_104 : db_dck prog_8_method_3_code dbt_104 = true := by decide +kernel
theorem db_mck_104 : db_mck dbm_104 = true := by decide +kernel
theorem db_cod_104 : Cond.code dbm_104.1 dbm_104.2.1 dbm_104.2.2.1 dbm_104.2.2.2.1 ∈ db_T := db_tin 3 tables_1_4 rfl (List.mem_of_getElem? (i := 188) rfl) rfl
theorem db_dck_105 : db_dck prog_1_method_15_code dbt_105 = true := by decide +kernel
theorem db_mck_105 : db_mck dbm_105 = true := by decide +kernel
theorem db_cod_105 : Cond.code dbm_105.1 dbm_105.2.1 dbm_105.2.2.1 dbm_105.2.2.2.1 ∈ db_T := db_tin 3 tables_1_4 rfl (List.mem_of_getElem? (i := 192) rfl) rfl
theorem db_dck_106 : db_dck prog_1_method_16_code dbt_106 = true := by decide +kernel
theorem db_mck_106 : db_mck dbm_106 = true := by decide +kernel
theorem db_cod_106 : Cond.code dbm_106.1 dbm_106.2.1 dbm_106.2.2.1 dbm_106.2.2.2.1 ∈ db_T := db_tin 3 tables_1_4 rfl (List.mem_of_getElem? (i := 196) rfl) rfl
theorem db_dck_107 : db_dck prog_1_method_17_code dbt_107 = true := by decide +kernel
theorem db_mck_107 : db_mck dbm_107 = true := by decide +kernel
theorem db_cod_107 : Cond.code dbm_107.1 dbm_107.2.1 dbm_107.2.2.1 dbm_107.2.2.2.1 ∈ db_T := db_tin 3 tables_1_4 rfl (List.mem_of_getElem? (i := 200) rfl) rfl
theorem db_dck_108 : db_dck prog_1_method_18_code dbt_108 = true := by decide +kernel
theorem db_mck_108 : db_mck dbm_108 = true := by decide +kernel
theorem db_cod_108 : Cond.code dbm_108.1 dbm_108.2.1 dbm_108.2.2.1 dbm_108.2.2.2.1 ∈ db_T := db_tin 3 tables_1_4 rfl (List.mem_of_getElem? (i := 204) rfl) rfl
theorem db_dck_109 : db_dck prog_1_method_19_code dbt_109 = true := by decide +kernel
theorem db_mck_109 : db_mck dbm_109 = true := by decide +kernel
theorem db_cod_109 : Cond.code dbm_109.1 dbm_109.2.1 dbm_109.2.2.1 dbm_109.2.2.2.1 ∈ db_T := db_tin 3 tables_1_4 rfl (List.mem_of_getElem? (i := 208) rfl) rfl
theorem db_dck_110 : db_dck prog_1_method_20_code dbt_110 = true := by decide +kernel
theorem db_mck_110 : db_mck dbm_110 = true := by decide +kernel
theorem db_cod_110 : Cond.code dbm_110.1 dbm_110.2.1 dbm_110.2.2.1 dbm_110.2.2.2.1 ∈ db_T := db_tin 3 tables_1_4 rfl (List.mem_of_getElem? (i := 212) rfl) rfl
theorem db_dck_111 : db_dck prog_1_method_21_code dbt_111 = true := by decide +kernel
theorem db_mck_111 : db_mck dbm_111 = true := by decide +kernel
theorem db_cod_111 : Cond.code dbm_111.1 dbm_111.2.1 dbm_111.2.2.1 dbm_111.2.2.2.1 ∈ db_T := db_tin 3 tables_1_4 rfl (List.mem_of_getElem? (i := 216) rfl) rfl
theorem db_dck_112 : db_dck prog_1_method_70_code dbt_112 = true := by decide +kernel
theorem db_mck_112 : db_mck dbm_112 = true := by decide +kernel
theorem db_cod_112 : Cond.code dbm_112.1 dbm_112.2.1 dbm_112.2.2.1 dbm_112.2.2.2.1 ∈ db_T := db_tin 3 tables_1_4 rfl (List.mem_of_getElem? (i := 219) rfl) rfl
theorem db_dck_113 : db_dck prog_1_method_22_code dbt_113 = true := by decide +kernel
theorem db_mck_113 : db_mck dbm_113 = true := by decide +kernel
theorem db_cod_113 : Cond.code dbm_113.1 dbm_113.2.1 dbm_113.2.2.1 dbm_113.2.2.2.1 ∈ db_T := db_tin 3 tables_1_4 rfl (List.mem_of_getElem? (i := 223) rfl) rfl
theorem db_dck_114 : db_dck prog_11_method_13_code dbt_114 = true := by decide +kernel
theorem db_mck_114 : db_mck dbm_114 = true := by decide +kernel
theorem db_cod_114 : Cond.code dbm_114.1 dbm_114.2.1 dbm_114.2.2.1 dbm_114.2.2.2.1 ∈ db_T := db_tin 3 tables_1_4 rfl (List.mem_of_getElem? (i := 227) rfl) rfl
theorem db_dck_115 : db_dck prog_11_method_11_code dbt_115 = true := by decide +kernel
theorem db_mck_115 : db_mck dbm_115 = true := by decide +kernel
theorem db_cod_115 : Cond.code dbm_115.1 dbm_115.2.1 dbm_115.2.2.1 dbm_115.2.2.2.1 ∈ db_T := db_tin 3 tables_1_4 rfl (List.mem_of_getElem? (i := 231) rfl) rfl
theorem db_dck_116 : db_dck prog_11_method_12_code dbt_116 = true := by decide +kernel
theorem db_mck_116 : db_mck dbm_116 = true := by decide +kernel
theorem db_cod_116 : Cond.code dbm_116.1 dbm_116.2.1 dbm_116.2.2.1 dbm_116.2.2.2.1 ∈ db_T := db_tin 3 tables_1_4 rfl (List.mem_of_getElem? (i := 235) rfl) rfl
theorem db_dck_117 : db_dck prog_1_method_23_code dbt_117 = true := by decide +kernel
theorem db_mck_117 : db_mck dbm_117 = true := by decide +kernel
theorem db_cod_117 : Cond.code dbm_117.1 dbm_117.2.1 dbm_117.2.2.1 dbm_117.2.2.2.1 ∈ db_T := db_tin 4 tables_1_5 rfl (List.mem_of_getElem? (i := 0) rfl) rfl
theorem db_dck_118 : db_dck prog_11_method_14_code dbt_118 = true := by decide +kernel
theorem db_mck_118 : db_mck dbm_118 = true := by decide +kernel
theorem db_cod_118 : Cond.code dbm_118.1 dbm_118.2.1 dbm_118.2.2.1 dbm_118.2.2.2.1 ∈ db_T := db_tin 4 tables_1_5 rfl (List.mem_of_getElem? (i := 4) rfl) rfl
theorem db_dck_119 : db_dck prog_1_method_24_code dbt_119 = true := by decide +kernel
theorem db_mck_119 : db_mck dbm_119 = true := by decide +kernel
theorem db_cod_119 : Cond.code dbm_119.1 dbm_119.2.1 dbm_119.2.2.1 dbm_119.2.2.2.1 ∈ db_T := db_tin 4 tables_1_5 rfl (List.mem_of_getElem? (i := 8) rfl) rfl
theorem db_dck_120 : db_dck prog_1_method_25_code dbt_120 = true := by decide +kernel
theorem db_mck_120 : db_mck dbm_120 = true := by decide +kernel
theorem db_cod_120 : Cond.code dbm_120.1 dbm_120.2.1 dbm_120.2.2.1 dbm_120.2.2.2.1 ∈ db_T := db_tin 4 tables_1_5 rfl (List.mem_of_getElem? (i := 12) rfl) rfl
theorem db_dck_121 : db_dck prog_4_method_4_code dbt_121 = true := by decide +kernel
theorem db_mck_121 : db_mck dbm_121 = true := by decide +kernel
theorem db_cod_121 : Cond.code dbm_121.1 dbm_121.2.1 dbm_121.2.2.1 dbm_121.2.2.2.1 ∈ db_T := db_tin 4 tables_1_5 rfl (List.mem_of_getElem? (i := 16) rfl) rfl
theorem db_dck_122 : db_dck prog_1_method_26_code dbt_122 = true := by decide +kernel
theorem db_mck_122 : db_mck dbm_122 = true := by decide +kernel
theorem db_cod_122 : Cond.code dbm_122.1 dbm_122.2.1 dbm_122.2.2.1 dbm_122.2.2.2.1 ∈ db_T := db_tin 4 tables_1_5 rfl (List.mem_of_getElem? (i := 21) rfl) rfl
theorem db_dck_123 : db_dck prog_1_method_27_code dbt_123 = true := by decide +kernel
theorem db_mck_123 : db_mck dbm_123 = true := by decide +kernel
theorem db_cod_123 : Cond.code dbm_123.1 dbm_123.2.1 dbm_123.2.2.1 dbm_123.2.2.2.1 ∈ db_T := db_tin 4 tables_1_5 rfl (List.mem_of_getElem? (i := 25) rfl) rfl
theorem db_dck_124 : db_dck prog_1_method_28_code dbt_124 = true := by decide +kernel
theorem db_mck_124 : db_mck dbm_124 = true := by decide +kernel
theorem db_cod_124 : Cond.code dbm_124.1 dbm_124.2.1 dbm_124.2.2.1 dbm_124.2.2.2.1 ∈ db_T := db_tin 4 tables_1_5 rfl (List.mem_of_getElem? (i := 29) rfl) rfl
theorem db_dck_125 : db_dck prog_1_method_64_code dbt_125 = true := by decide +kernel
theorem db_mck_125 : db_mck dbm_125 = true := by decide +kernel
theorem db_cod_125 : Cond.code dbm_125.1 dbm_125.2.1 dbm_125.2.2.1 dbm_125.2.2.2.1 ∈ db_T := db_tin 4 tables_1_5 rfl (List.mem_of_getElem? (i := 33) rfl) rfl
theorem db_dck_126 : db_dck prog_1_method_63_code dbt_126 = true := by decide +kernel
theorem db_mck_126 : db_mck dbm_126 = true := by decide +kernel
theorem db_cod_126 : Cond.code dbm_126.1 dbm_126.2.1 dbm_126.2.2.1 dbm_126.2.2.2.1 ∈ db_T := db_tin 4 tables_1_5 rfl (List.mem_of_getElem? (i := 37) rfl) rfl
theorem db_dck_127 : db_dck prog_8_method_6_code dbt_127 = true := by decide +kernel
theorem db_mck_127 : db_mck dbm_127 = true := by decide +kernel
theorem db_cod_127 : Cond.code dbm_127.1 dbm_127.2.1 dbm_127.2.2.1 dbm_127.2.2.2.1 ∈ db_T := db_tin 4 tables_1_5 rfl (List.mem_of_getElem? (i := 41) rfl) rfl
theorem db_dck_128 : db_dck prog_8_method_5_code dbt_128 = true := by decide +kernel
theorem db_mck_128 : db_mck dbm_128 = true := by decide +kernel
theorem db_cod_128 : Cond.code dbm_128.1 dbm_128.2.1 dbm_128.2.2.1 dbm_128.2.2.2.1 ∈ db_T := db_tin 4 tables_1_5 rfl (List.mem_of_getElem? (i := 45) rfl) rfl
theorem db_dck_129 : db_dck prog_8_method_4_code dbt_129 = true := by decide +kernel
theorem db_mck_129 : db_mck dbm_129 = true := by decide +kernel
theorem db_cod_129 : Cond.code dbm_129.1 dbm_129.2.1 dbm_129.2.2.1 dbm_129.2.2.2.1 ∈ db_T := db_tin 4 tables_1_5 rfl (List.mem_of_getElem? (i := 49) rfl) rfl
theorem db_dck_130 : db_dck prog_8_method_7_code dbt_130 = true := by decide +kernel
theorem db_mck_130 : db_mck dbm_130 = true := by decide +kernel
theorem db_cod_130 : Cond.code dbm_130.1 dbm_130.2.1 dbm_130.2.2.1 dbm_130.2.2.2.1 ∈ db_T := db_tin 4 tables_1_5 rfl (List.mem_of_getElem? (i := 55) rfl) rfl
theorem db_dck_131 : db_dck prog_8_method_8_code dbt_131 = true := by decide +kernel
theorem db_mck_131 : db_mck dbm_131 = true := by decide +kernel
theorem db_cod_131 : Cond.code dbm_131.1 dbm_131.2.1 dbm_131.2.2.1 dbm_131.2.2.2.1 ∈ db_T := db_tin 4 tables_1_5 rfl (List.mem_of_getElem? (i := 59) rfl) rfl
theorem db_dck_132 : db_dck prog_1_method_29_code dbt_132 = true := by decide +kernel
theorem db_mck_132 : db_mck dbm_132 = true := by decide +kernel
theorem db_cod_132 : Cond.code dbm_132.1 dbm_132.2.1 dbm_132.2.2.1 dbm_132.2.2.2.1 ∈ db_T := db_tin 4 tables_1_5 rfl (List.mem_of_getElem? (i := 64) rfl) rfl
theorem db_dck_133 : db_dck prog_1_method_67_code dbt_133 = true := by decide +kernel
theorem db_mck_133 : db_mck dbm_133 = true := by decide +kernel
theorem db_cod_133 : Cond.code dbm_133.1 dbm_133.2.1 dbm_133.2.2.1 dbm_133.2.2.2.1 ∈ db_T := db_tin 4 tables_1_5 rfl (List.mem_of_getElem? (i := 68) rfl) rfl
theorem db_dck_134 : db_dck prog_1_method_30_code dbt_134 = true := by decide +kernel
theorem db_mck_134 : db_mck dbm_134 = true := by decide +kernel
theorem db_cod_134 : Cond.code dbm_134.1 dbm_134.2.1 dbm_134.2.2.1 dbm_134.2.2.2.1 ∈ db_T := db_tin 4 tables_1_5 rfl (List.mem_of_getElem? (i := 75) rfl) rfl
theorem db_dck_135 : db_dck prog_1_method_31_code dbt_135 = true := by decide +kernel
theorem db_mck_135 : db_mck dbm_135 = true := by decide +kernel
theorem db_cod_135 : Cond.code dbm_135.1 dbm_135.2.1 dbm_135.2.2.1 dbm_135.2.2.2.1 ∈ db_T := db_tin 4 tables_1_5 rfl (List.mem_of_getElem? (i := 79) rfl) rfl
theorem db_dck_136 : db_dck prog_1_method_32_code dbt_136 = true := by decide +kernel
theorem db_mck_136 : db_mck dbm_136 = true := by decide +kernel
theorem db_cod_136 : Cond.code dbm_136.1 dbm_136.2.1 dbm_136.2.2.1 dbm_136.2.2.2.1 ∈ db_T := db_tin 4 tables_1_5 rfl (List.mem_of_getElem? (i := 83) rfl) rfl
theorem db_dck_137 : db_dck prog_9_method_8_code dbt_137 = true := by decide +kernel
theorem db_mck_137 : db_mck dbm_137 = true := by decide +kernel
theorem db_cod_137 : Cond.code dbm_137.1 dbm_137.2.1 dbm_137.2.2.1 dbm_137.2.2.2.1 ∈ db_T := db_tin 4 tables_1_5 rfl (List.mem_of_getElem? (i := 87) rfl) rfl
theorem db_dck_138 : db_dck prog_8_method_10_code dbt_138 = true := by decide +kernel
theorem db_mck_138 : db_mck dbm_138 = true := by decide +kernel
theorem db_cod_138 : Cond.code dbm_138.1 dbm_138.2.1 dbm_138.2.2.1 dbm_138.2.2.2.1 ∈ db_T := db_tin 4 tables_1_5 rfl (List.mem_of_getElem? (i := 93) rfl) rfl
theorem db_dck_139 : db_dck prog_1_method_33_code dbt_139 = true := by decide +kernel
theorem db_mck_139 : db_mck dbm_139 = true := by decide +kernel
theorem db_cod_139 : Cond.code dbm_139.1 dbm_139.2.1 dbm_139.2.2.1 dbm_139.2.2.2.1 ∈ db_T := db_tin 4 tables_1_5 rfl (List.mem_of_getElem? (i := 97) rfl) rfl
theorem db_dck_140 : db_dck prog_8_method_9_code dbt_140 = true := by decide +kernel
theorem db_mck_140 : db_mck dbm_140 = true := by decide +kernel
theorem db_cod_140 : Cond.code dbm_140.1 dbm_140.2.1 dbm_140.2.2.1 dbm_140.2.2.2.1 ∈ db_T := db_tin 4 tables_1_5 rfl (List.mem_of_getElem? (i := 101) rfl) rfl
theorem db_dck_141 : db_dck prog_1_method_34_code dbt_141 = true := by decide +kernel
theorem db_mck_141 : db_mck dbm_141 = true := by decide +kernel
theorem db_cod_141 : Cond.code dbm_141.1 dbm_141.2.1 dbm_141.2.2.1 dbm_141.2.2.2.1 ∈ db_T := db_tin 4 tables_1_5 rfl (List.mem_of_getElem? (i := 106) rfl) rfl
theorem db_dck_142 : db_dck prog_3_method_3_code dbt_142 = true := by decide +kernel
theorem db_mck_142 : db_mck dbm_142 = true := by decide +kernel
theorem db_cod_142 : Cond.code dbm_142.1 dbm_142.2.1 dbm_142.2.2.1 dbm_142.2.2.2.1 ∈ db_T := db_tin 4 tables_1_5 rfl (List.mem_of_getElem? (i := 110) rfl) rfl
theorem db_dck_143 : db_dck prog_1_method_35_code dbt_143 = true := by decide +kernel
theorem db_mck_143 : db_mck dbm_143 = true := by decide +kernel
theorem db_cod_143 : Cond.code dbm_143.1 dbm_143.2.1 dbm_143.2.2.1 dbm_143.2.2.2.1 ∈ db_T := db_tin 4 tables_1_5 rfl (List.mem_of_getElem? (i := 116) rfl) rfl
theorem db_dck_144 : db_dck prog_1_method_36_code dbt_144 = true := by decide +kernel
theorem db_mck_144 : db_mck dbm_144 = true := by decide +kernel
theorem db_cod_144 : Cond.code dbm_144.1 dbm_144.2.1 dbm_144.2.2.1 dbm_144.2.2.2.1 ∈ db_T := db_tin 4 tables_1_5 rfl (List.mem_of_getElem? (i := 120) rfl) rfl
theorem db_dck_145 : db_dck prog_1_method_65_code dbt_145 = true := by decide +kernel
theorem db_mck_145 : db_mck dbm_145 = true := by decide +kernel
theorem db_cod_145 : Cond.code dbm_145.1 dbm_145.2.1 dbm_145.2.2.1 dbm_145.2.2.2.1 ∈ db_T := db_tin 4 tables_1_5 rfl (List.mem_of_getElem? (i := 124) rfl) rfl
theorem db_dck_146 : db_dck prog_11_method_15_code dbt_146 = true := by decide +kernel
theorem db_mck_146 : db_mck dbm_146 = true := by decide +kernel
theorem db_cod_146 : Cond.code dbm_146.1 dbm_146.2.1 dbm_146.2.2.1 dbm_146.2.2.2.1 ∈ db_T := db_tin 4 tables_1_5 rfl (List.mem_of_getElem? (i := 128) rfl) rfl
theorem db_dck_147 : db_dck prog_11_method_16_code dbt_147 = true := by decide +kernel
theorem db_mck_147 : db_mck dbm_147 = true := by decide +kernel
theorem db_cod_147 : Cond.code dbm_147.1 dbm_147.2.1 dbm_147.2.2.1 dbm_147.2.2.2.1 ∈ db_T := db_tin 4 tables_1_5 rfl (List.mem_of_getElem? (i := 131) rfl) rfl
theorem db_dck_148 : db_dck prog_11_method_17_code dbt_148 = true := by decide +kernel
theorem db_mck_148 : db_mck dbm_148 = true := by decide +kernel
theorem db_cod_148 : Cond.code dbm_148.1 dbm_148.2.1 dbm_148.2.2.1 dbm_148.2.2.2.1 ∈ db_T := db_tin 4 tables_1_5 rfl (List.mem_of_getElem? (i := 134) rfl) rfl
theorem db_dck_149 : db_dck prog_1_method_37_code dbt_149 = true := by decide +kernel
theorem db_mck_149 : db_mck dbm_149 = true := by decide +kernel
theorem db_cod_149 : Cond.code dbm_149.1 dbm_149.2.1 dbm_149.2.2.1 dbm_149.2.2.2.1 ∈ db_T := db_tin 4 tables_1_5 rfl (List.mem_of_getElem? (i := 138) rfl) rfl
theorem db_dck_150 : db_dck prog_11_method_19_code dbt_150 = true := by decide +kernel
theorem db_mck_150 : db_mck dbm_150 = true := by decide +kernel
theorem db_cod_150 : Cond.code dbm_150.1 dbm_150.2.1 dbm_150.2.2.1 dbm_150.2.2.2.1 ∈ db_T := db_tin 4 tables_1_5 rfl (List.mem_of_getElem? (i := 142) rfl) rfl
theorem db_dck_151 : db_dck prog_11_method_18_code dbt_151 = true := by decide +kernel
theorem db_mck_151 : db_mck dbm_151 = true := by decide +kernel
theorem db_cod_151 : Cond.code dbm_151.1 dbm_151.2.1 dbm_151.2.2.1 dbm_151.2.2.2.1 ∈ db_T := db_tin 4 tables_1_5 rfl (List.mem_of_getElem? (i := 146) rfl) rfl
theorem db_dck_152 : db_dck prog_15_method_49_code dbt_152 = true := by decide +kernel
theorem db_mck_152 : db_mck dbm_152 = true := by decide +kernel
theorem db_cod_152 : Cond.code dbm_152.1 dbm_152.2.1 dbm_152.2.2.1 dbm_152.2.2.2.1 ∈ db_T := db_tin 4 tables_1_5 rfl (List.mem_of_getElem? (i := 150) rfl) rfl
theorem db_dck_153 : db_dck prog_1_method_38_code dbt_153 = true := by decide +kernel
theorem db_mck_153 : db_mck dbm_153 = true := by decide +kernel
theorem db_cod_153 : Cond.code dbm_153.1 dbm_153.2.1 dbm_153.2.2.1 dbm_153.2.2.2.1 ∈ db_T := db_tin 4 tables_1_5 rfl (List.mem_of_getElem? (i := 157) rfl) rfl
theorem db_dck_154 : db_dck prog_3_method_4_code dbt_154 = true := by decide +kernel
theorem db_mck_154 : db_mck dbm_154 = true := by decide +kernel
theorem db_cod_154 : Cond.code dbm_154.1 dbm_154.2.1 dbm_154.2.2.1 dbm_154.2.2.2.1 ∈ db_T := db_tin 4 tables_1_5 rfl (List.mem_of_getElem? (i := 161) rfl) rfl
theorem db_dck_155 : db_dck prog_3_method_5_code dbt_155 = true := by decide +kernel
theorem db_mck_155 : db_mck dbm_155 = true := by decide +kernel
theorem db_cod_155 : Cond.code dbm_155.1 dbm_155.2.1 dbm_155.2.2.1 dbm_155.2.2.2.1 ∈ db_T := db_tin 4 tables_1_5 rfl (List.mem_of_getElem? (i := 165) rfl) rfl
theorem db_dck_156 : db_dck prog_1_method_39_code dbt_156 = true := by decide +kernel
theorem db_mck_156 : db_mck dbm_156 = true := by decide +kernel
theorem db_cod_156 : Cond.code dbm_156.1 dbm_156.2.1 dbm_156.2.2.1 dbm_156.2.2.2.1 ∈ db_T := db_tin 4 tables_1_5 rfl (List.mem_of_getElem? (i := 169) rfl) rfl
theorem db_dck_157 : db_dck prog_1_method_40_code dbt_157 = true := by decide +kernel
theorem db_mck_157 : db_mck dbm_157 = true := by decide +kernel
theorem db_cod_157 : Cond.code dbm_157.1 dbm_157.2.1 dbm_157.2.2.1 dbm_157.2.2.2.1 ∈ db_T := db_tin 4 tables_1_5 rfl (List.mem_of_getElem? (i := 173) rfl) rfl
theorem db_dck_158 : db_dck prog_11_method_20_code dbt_158 = true := by decide +kernel
theorem db_mck_158 : db_mck dbm_158 = true := by decide +kernel
theorem db_cod_158 : Cond.code dbm_158.1 dbm_158.2.1 dbm_158.2.2.1 dbm_158.2.2.2.1 ∈ db_T := db_tin 4 tables_1_5 rfl (List.mem_of_getElem? (i := 177) rfl) rfl
theorem db_dck_159 : db_dck prog_11_method_21_code dbt_159 = true := by decide +kernel
theorem db_mck_159 : db_mck dbm_159 = true := by decide +kernel
theorem db_cod_159 : Cond.code dbm_159.1 dbm_159.2.1 dbm_159.2.2.1 dbm_159.2.2.2.1 ∈ db_T := db_tin 4 tables_1_5 rfl (List.mem_of_getElem? (i := 181) rfl) rfl
theorem db_dck_160 : db_dck prog_1_method_41_code dbt_160 = true := by decide +kernel
theorem db_mck_160 : db_mck dbm_160 = true := by decide +kernel
theorem db_cod_160 : Cond.code dbm_160.1 dbm_160.2.1 dbm_160.2.2.1 dbm_160.2.2.2.1 ∈ db_T := db_tin 4 tables_1_5 rfl (List.mem_of_getElem? (i := 186) rfl) rfl
theorem db_dck_161 : db_dck prog_1_method_42_code dbt_161 = true := by decide +kernel
theorem db_mck_161 : db_mck dbm_161 = true := by decide +kernel
theorem db_cod_161 : Cond.code dbm_161.1 dbm_161.2.1 dbm_161.2.2.1 dbm_161.2.2.2.1 ∈ db_T := db_tin 4 tables_1_5 rfl (List.mem_of_getElem? (i := 190) rfl) rfl
theorem db_dck_162 : db_dck prog_1_method_69_code dbt_162 = true := by decide +kernel
theorem db_mck_162 : db_mck dbm_162 = true := by decide +kernel
theorem db_cod_162 : Cond.code dbm_162.1 dbm_162.2.1 dbm_162.2.2.1 dbm_162.2.2.2.1 ∈ db_T := db_tin 4 tables_1_5 rfl (List.mem_of_getElem? (i := 193) rfl) rfl
theorem db_dck_163 : db_dck prog_3_method_9_code dbt_163 = true := by decide +kernel
theorem db_mck_163 : db_mck dbm_163 = true := by decide +kernel
theorem db_cod_163 : Cond.code dbm_163.1 dbm_163.2.1 dbm_163.2.2.1 dbm_163.2.2.2.1 ∈ db_T := db_tin 4 tables_1_5 rfl (List.mem_of_getElem? (i := 197) rfl) rfl
theorem db_dck_164 : db_dck prog_3_method_7_code dbt_164 = true := by decide +kernel
theorem db_mck_164 : db_mck dbm_164 = true := by decide +kernel
theorem db_cod_164 : Cond.code dbm_164.1 dbm_164.2.1 dbm_164.2.2.1 dbm_164.2.2.2.1 ∈ db_T := db_tin 4 tables_1_5 rfl (List.mem_of_getElem? (i := 203) rfl) rfl
theorem db_dck_165 : db_dck prog_3_method_6_code dbt_165 = true := by decide +kernel
theorem db_mck_165 : db_mck dbm_165 = true := by decide +kernel
theorem db_cod_165 : Cond.code dbm_165.1 dbm_165.2.1 dbm_165.2.2.1 dbm_165.2.2.2.1 ∈ db_T := db_tin 4 tables_1_5 rfl (List.mem_of_getElem? (i := 209) rfl) rfl
theorem db_dck_166 : db_dck prog_3_method_8_code dbt_166 = true := by decide +kernel
theorem db_mck_166 : db_mck dbm_166 = true := by decide +kernel
theorem db_cod_166 : Cond.code dbm_166.1 dbm_166.2.1 dbm_166.2.2.1 dbm_166.2.2.2.1 ∈ db_T := db_tin 4 tables_1_5 rfl (List.mem_of_getElem? (i := 214) rfl) rfl
theorem db_dck_167 : db_dck prog_1_method_43_code dbt_167 = true := by decide +kernel
theorem db_mck_167 : db_mck dbm_167 = true := by decide +kernel
theorem db_cod_167 : Cond.code dbm_167.1 dbm_167.2.1 dbm_167.2.2.1 dbm_167.2.2.2.1 ∈ db_T := db_tin 4 tables_1_5 rfl (List.mem_of_getElem? (i := 218) rfl) rfl
theorem db_dck_168 : db_dck prog_3_method_10_code dbt_168 = true := by decide +kernel
theorem db_mck_168 : db_mck dbm_168 = true := by decide +kernel
theorem db_cod_168 : Cond.code dbm_168.1 dbm_168.2.1 dbm_168.2.2.1 dbm_168.2.2.2.1 ∈ db_T := db_tin 4 tables_1_5 rfl (List.mem_of_getElem? (i := 222) rfl) rfl
theorem db_dck_169 : db_dck prog_1_method_44_code dbt_169 = true := by decide +kernel
theorem db_mck_169 : db_mck dbm_169 = true := by decide +kernel
theorem db_cod_169 : Cond.code dbm_169.1 dbm_169.2.1 dbm_169.2.2.1 dbm_169.2.2.2.1 ∈ db_T := db_tin 4 tables_1_5 rfl (List.mem_of_getElem? (i := 226) rfl) rfl
theorem db_dck_170 : db_dck prog_3_method_11_code dbt_170 = true := by decide +kernel
theorem db_mck_170 : db_mck dbm_170 = true := by decide +kernel
theorem db_cod_170 : Cond.code dbm_170.1 dbm_170.2.1 dbm_170.2.2.1 dbm_170.2.2.2.1 ∈ db_T := db_tin 4 tables_1_5 rfl (List.mem_of_getElem? (i := 230) rfl) rfl
theorem db_dck_171 : db_dck prog_3_method_2_code dbt_171 = true := by decide +kernel
theorem db_mck_171 : db_mck dbm_171 = true := by decide +kernel
theorem db_cod_171 : Cond.code dbm_171.1 dbm_171.2.1 dbm_171.2.2.1 dbm_171.2.2.2.1 ∈ db_T := db_tin 4 tables_1_5 rfl (List.mem_of_getElem? (i := 234) rfl) rfl
theorem db_dck_172 : db_dck prog_3_method_12_code dbt_172 = true := by decide +kernel
theorem db_mck_172 : db_mck dbm_172 = true := by decide +kernel
theorem db_cod_172 : Cond.code dbm_172.1 dbm_172.2.1 dbm_172.2.2.1 dbm_172.2.2.2.1 ∈ db_T := db_tin 4 tables_1_5 rfl (List.mem_of_getElem? (i := 238) rfl) rfl
theorem db_dck_173 : db_dck prog_1_method_45_code dbt_173 = true := by decide +kernel
theorem db_mck_173 : db_mck dbm_173 = true := by decide +kernel
theorem db_cod_173 : Cond.code dbm_173.1 dbm_173.2.1 dbm_173.2.2.1 dbm_173.2.2.2.1 ∈ db_T := db_tin 5 tables_1_6 rfl (List.mem_of_getElem? (i := 2) rfl) rfl
theorem db_dck_174 : db_dck prog_3_method_16_code dbt_174 = true := by decide +kernel
theorem db_mck_174 : db_mck dbm_174 = true := by decide +kernel
theorem db_cod_174 : Cond.code dbm_174.1 dbm_174.2.1 dbm_174.2.2.1 dbm_174.2.2.2.1 ∈ db_T := db_tin 5 tables_1_6 rfl (List.mem_of_getElem? (i := 6) rfl) rfl
theorem db_dck_175 : db_dck prog_4_method_3_code dbt_175 = true := by decide +kernel
theorem db_mck_175 : db_mck dbm_175 = true := by decide +kernel
theorem db_cod_175 : Cond.code dbm_175.1 dbm_175.2.1 dbm_175.2.2.1 dbm_175.2.2.2.1 ∈ db_T := db_tin 5 tables_1_6 rfl (List.mem_of_getElem? (i := 10) rfl) rfl
theorem db_dck_176 : db_dck prog_3_method_17_code dbt_176 = true := by decide +kernel
theorem db_mck_176 : db_mck dbm_176 = true := by decide +kernel
theorem db_cod_176 : Cond.code dbm_176.1 dbm_176.2.1 dbm_176.2.2.1 dbm_176.2.2.2.1 ∈ db_T := db_tin 5 tables_1_6 rfl (List.mem_of_getElem? (i := 15) rfl) rfl
theorem db_dck_177 : db_dck prog_3_method_18_code dbt_177 = true := by decide +kernel
theorem db_mck_177 : db_mck dbm_177 = true := by decide +kernel
theorem db_cod_177 : Cond.code dbm_177.1 dbm_177.2.1 dbm_177.2.2.1 dbm_177.2.2.2.1 ∈ db_T := db_tin 5 tables_1_6 rfl (List.mem_of_getElem? (i := 20) rfl) rfl
theorem db_dck_178 : db_dck prog_1_method_46_code dbt_178 = true := by decide +kernel
theorem db_mck_178 : db_mck dbm_178 = true := by decide +kernel
theorem db_cod_178 : Cond.code dbm_178.1 dbm_178.2.1 dbm_178.2.2.1 dbm_178.2.2.2.1 ∈ db_T := db_tin 5 tables_1_6 rfl (List.mem_of_getElem? (i := 26) rfl) rfl
theorem db_dck_179 : db_dck prog_1_method_47_code dbt_179 = true := by decide +kernel
theorem db_mck_179 : db_mck dbm_179 = true := by decide +kernel
theorem db_cod_179 : Cond.code dbm_179.1 dbm_179.2.1 dbm_179.2.2.1 dbm_179.2.2.2.1 ∈ db_T := db_tin 5 tables_1_6 rfl (List.mem_of_getElem? (i := 30) rfl) rfl
theorem db_dck_180 : db_dck prog_1_method_48_code dbt_180 = true := by decide +kernel
theorem db_mck_180 : db_mck dbm_180 = true := by decide +kernel
theorem db_cod_180 : Cond.code dbm_180.1 dbm_180.2.1 dbm_180.2.2.1 dbm_180.2.2.2.1 ∈ db_T := db_tin 5 tables_1_6 rfl (List.mem_of_getElem? (i := 34) rfl) rfl
theorem db_dck_181 : db_dck prog_1_method_49_code dbt_181 = true := by decide +kernel
theorem db_mck_181 : db_mck dbm_181 = true := by decide +kernel
theorem db_cod_181 : Cond.code dbm_181.1 dbm_181.2.1 dbm_181.2.2.1 dbm_181.2.2.2.1 ∈ db_T := db_tin 5 tables_1_6 rfl (List.mem_of_getElem? (i := 38) rfl) rfl
theorem db_dck_182 : db_dck prog_3_method_13_code dbt_182 = true := by decide +kernel
theorem db_mck_182 : db_mck dbm_182 = true := by decide +kernel
theorem db_cod_182 : Cond.code dbm_182.1 dbm_182.2.1 dbm_182.2.2.1 dbm_182.2.2.2.1 ∈ db_T := db_tin 5 tables_1_6 rfl (List.mem_of_getElem? (i := 42) rfl) rfl
theorem db_dck_183 : db_dck prog_3_method_14_code dbt_183 = true := by decide +kernel
theorem db_mck_183 : db_mck dbm_183 = true := by decide +kernel
theorem db_cod_183 : Cond.code dbm_183.1 dbm_183.2.1 dbm_183.2.2.1 dbm_183.2.2.2.1 ∈ db_T := db_tin 5 tables_1_6 rfl (List.mem_of_getElem? (i := 46) rfl) rfl
theorem db_dck_184 : db_dck prog_1_method_50_code dbt_184 = true := by decide +kernel
theorem db_mck_184 : db_mck dbm_184 = true := by decide +kernel
theorem db_cod_184 : Cond.code dbm_184.1 dbm_184.2.1 dbm_184.2.2.1 dbm_184.2.2.2.1 ∈ db_T := db_tin 5 tables_1_6 rfl (List.mem_of_getElem? (i := 50) rfl) rfl
theorem db_dck_185 : db_dck prog_3_method_15_code dbt_185 = true := by decide +kernel
theorem db_mck_185 : db_mck dbm_185 = true := by decide +kernel
theorem db_cod_185 : Cond.code dbm_185.1 dbm_185.2.1 dbm_185.2.2.1 dbm_185.2.2.2.1 ∈ db_T := db_tin 5 tables_1_6 rfl (List.mem_of_getElem? (i := 54) rfl) rfl
theorem db_dck_186 : db_dck prog_1_method_51_code dbt_186 = true := by decide +kernel
theorem db_mck_186 : db_mck dbm_186 = true := by decide +kernel
theorem db_cod_186 : Cond.code dbm_186.1 dbm_186.2.1 dbm_186.2.2.1 dbm_186.2.2.2.1 ∈ db_T := db_tin 5 tables_1_6 rfl (List.mem_of_getElem? (i := 58) rfl) rfl
theorem db_dck_187 : db_dck prog_1_method_66_code dbt_187 = true := by decide +kernel
theorem db_mck_187 : db_mck dbm_187 = true := by decide +kernel
theorem db_cod_187 : Cond.code dbm_187.1 dbm_187.2.1 dbm_187.2.2.1 dbm_187.2.2.2.1 ∈ db_T := db_tin 5 tables_1_6 rfl (List.mem_of_getElem? (i := 62) rfl) rfl
theorem db_dck_188 : db_dck prog_5_method_3_code dbt_188 = true := by decide +kernel
theorem db_mck_188 : db_mck dbm_188 = true := by decide +kernel
theorem db_cod_188 : Cond.code dbm_188.1 dbm_188.2.1 dbm_188.2.2.1 dbm_188.2.2.2.1 ∈ db_T := db_tin 5 tables_1_6 rfl (List.mem_of_getElem? (i := 66) rfl) rfl
theorem db_dck_189 : db_dck prog_5_method_2_code dbt_189 = true := by decide +kernel
theorem db_mck_189 : db_mck dbm_189 = true := by decide +kernel
theorem db_cod_189 : Cond.code dbm_189.1 dbm_189.2.1 dbm_189.2.2.1 dbm_189.2.2.2.1 ∈ db_T := db_tin 5 tables_1_6 rfl (List.mem_of_getElem? (i := 72) rfl) rfl
theorem db_dck_190 : db_dck prog_1_method_52_code dbt_190 = true := by decide +kernel
theorem db_mck_190 : db_mck dbm_190 = true := by decide +kernel
theorem db_cod_190 : Cond.code dbm_190.1 dbm_190.2.1 dbm_190.2.2.1 dbm_190.2.2.2.1 ∈ db_T := db_tin 5 tables_1_6 rfl (List.mem_of_getElem? (i := 79) rfl) rfl
theorem db_dck_191 : db_dck prog_5_method_4_code dbt_191 = true := by decide +kernel
theorem db_mck_191 : db_mck dbm_191 = true := by decide +kernel
theorem db_cod_191 : Cond.code dbm_191.1 dbm_191.2.1 dbm_191.2.2.1 dbm_191.2.2.2.1 ∈ db_T := db_tin 5 tables_1_6 rfl (List.mem_of_getElem? (i := 83) rfl) rfl
theorem db_dck_192 : db_dck prog_5_method_5_code dbt_192 = true := by decide +kernel
theorem db_mck_192 : db_mck dbm_192 = true := by decide +kernel
theorem db_cod_192 : Cond.code dbm_192.1 dbm_192.2.1 dbm_192.2.2.1 dbm_192.2.2.2.1 ∈ db_T := db_tin 5 tables_1_6 rfl (List.mem_of_getElem? (i := 87) rfl) rfl
theorem db_dck_193 : db_dck prog_1_method_53_code dbt_193 = true := by decide +kernel
theorem db_mck_193 : db_mck dbm_193 = true := by decide +kernel
theorem db_cod_193 : Cond.code dbm_193.1 dbm_193.2.1 dbm_193.2.2.1 dbm_193.2.2.2.1 ∈ db_T := db_tin 5 tables_1_6 rfl (List.mem_of_getElem? (i := 91) rfl) rfl
theorem db_dck_194 : db_dck prog_9_method_3_code dbt_194 = true := by decide +kernel
theorem db_mck_194 : db_mck dbm_194 = true := by decide +kernel
theorem db_cod_194 : Cond.code dbm_194.1 dbm_194.2.1 dbm_194.2.2.1 dbm_194.2.2.2.1 ∈ db_T := db_tin 5 tables_1_6 rfl (List.mem_of_getElem? (i := 95) rfl) rfl
theorem db_dck_195 : db_dck prog_9_method_4_code dbt_195 = true := by decide +kernel
theorem db_mck_195 : db_mck dbm_195 = true := by decide +kernel
theorem db_cod_195 : Cond.code dbm_195.1 dbm_195.2.1 dbm_195.2.2.1 dbm_195.2.2.2.1 ∈ db_T := db_tin 5 tables_1_6 rfl (List.mem_of_getElem? (i := 101) rfl) rfl
theorem db_dck_196 : db_dck prog_9_method_5_code dbt_196 = true := by decide +kernel
theorem db_mck_196 : db_mck dbm_196 = true := by decide +kernel
theorem db_cod_196 : Cond.code dbm_196.1 dbm_196.2.1 dbm_196.2.2.1 dbm_196.2.2.2.1 ∈ db_T := db_tin 5 tables_1_6 rfl (List.mem_of_getElem? (i := 105) rfl) rfl
theorem db_dck_197 : db_dck prog_9_method_7_code dbt_197 = true := by decide +kernel
theorem db_mck_197 : db_mck dbm_197 = true := by decide +kernel
theorem db_cod_197 : Cond.code dbm_197.1 dbm_197.2.1 dbm_197.2.2.1 dbm_197.2.2.2.1 ∈ db_T := db_tin 5 tables_1_6 rfl (List.mem_of_getElem? (i := 110) rfl) rfl
theorem db_dck_198 : db_dck prog_9_method_6_code dbt_198 = true := by decide +kernel
theorem db_mck_198 : db_mck dbm_198 = true := by decide +kernel
theorem db_cod_198 : Cond.code dbm_198.1 dbm_198.2.1 dbm_198.2.2.1 dbm_198.2.2.2.1 ∈ db_T := db_tin 5 tables_1_6 rfl (List.mem_of_getElem? (i := 117) rfl) rfl
theorem db_dck_199 : db_dck prog_15_method_56_code dbt_199 = true := by decide +kernel
theorem db_mck_199 : db_mck dbm_199 = true := by decide +kernel
theorem db_cod_199 : Cond.code dbm_199.1 dbm_199.2.1 dbm_199.2.2.1 dbm_199.2.2.2.1 ∈ db_T := db_tin 5 tables_1_6 rfl (List.mem_of_getElem? (i := 121) rfl) rfl
theorem db_dck_200 : db_dck prog_9_method_2_code dbt_200 = true := by decide +kernel
theorem db_mck_200 : db_mck dbm_200 = true := by decide +kernel
theorem db_cod_200 : Cond.code dbm_200.1 dbm_200.2.1 dbm_200.2.2.1 dbm_200.2.2.2.1 ∈ db_T := db_tin 5 tables_1_6 rfl (List.mem_of_getElem? (i := 125) rfl) rfl
theorem db_dck_201 : db_dck prog_1_method_54_code dbt_201 = true := by decide +kernel
theorem db_mck_201 : db_mck dbm_201 = true := by decide +kernel
theorem db_cod_201 : Cond.code dbm_201.1 dbm_201.2.1 dbm_201.2.2.1 dbm_201.2.2.2.1 ∈ db_T := db_tin 5 tables_1_6 rfl (List.mem_of_getElem? (i := 130) rfl) rfl
theorem db_dck_202 : db_dck prog_1_method_55_code dbt_202 = true := by decide +kernel
theorem db_mck_202 : db_mck dbm_202 = true := by decide +kernel
theorem db_cod_202 : Cond.code dbm_202.1 dbm_202.2.1 dbm_202.2.2.1 dbm_202.2.2.2.1 ∈ db_T := db_tin 5 tables_1_6 rfl (List.mem_of_getElem? (i := 134) rfl) rfl
theorem db_dck_203 : db_dck prog_9_method_9_code dbt_203 = true := by decide +kernel
theorem db_mck_203 : db_mck dbm_203 = true := by decide +kernel
theorem db_cod_203 : Cond.code dbm_203.1 dbm_203.2.1 dbm_203.2.2.1 dbm_203.2.2.2.1 ∈ db_T := db_tin 5 tables_1_6 rfl (List.mem_of_getElem? (i := 138) rfl) rfl
theorem db_dck_204 : db_dck prog_1_method_56_code dbt_204 = true := by decide +kernel
theorem db_mck_204 : db_mck dbm_204 = true := by decide +kernel
theorem db_cod_204 : Cond.code dbm_204.1 dbm_204.2.1 dbm_204.2.2.1 dbm_204.2.2.2.1 ∈ db_T := db_tin 5 tables_1_6 rfl (List.mem_of_getElem? (i := 145) rfl) rfl
theorem db_dck_205 : db_dck prog_1_method_57_code dbt_205 = true := by decide +kernel
theorem db_mck_205 : db_mck dbm_205 = true := by decide +kernel
theorem db_cod_205 : Cond.code dbm_205.1 dbm_205.2.1 dbm_205.2.2.1 dbm_205.2.2.2.1 ∈ db_T := db_tin 5 tables_1_6 rfl (List.mem_of_getElem? (i := 150) rfl) rfl
theorem db_dck_206 : db_dck prog_14_method_1_code dbt_206 = true := by decide +kernel
theorem db_mck_206 : db_mck dbm_206 = true := by decide +kernel
theorem db_cod_206 : Cond.code dbm_206.1 dbm_206.2.1 dbm_206.2.2.1 dbm_206.2.2.2.1 ∈ db_T := db_tin 5 tables_1_6 rfl (List.mem_of_getElem? (i := 155) rfl) rfl
theorem db_dck_207 : db_dck prog_14_method_3_code dbt_207 = true := by decide +kernel
theorem db_mck_207 : db_mck dbm_207 = true := by decide +kernel
theorem db_cod_207 : Cond.code dbm_207.1 dbm_207.2.1 dbm_207.2.2.1 dbm_207.2.2.2.1 ∈ db_T := db_tin 6 tables_1_7 rfl (List.mem_of_getElem? (i := 59) rfl) rfl
theorem db_dck_208 : db_dck prog_14_method_4_code dbt_208 = true := by decide +kernel
theorem db_mck_208 : db_mck dbm_208 = true := by decide +kernel
theorem db_cod_208 : Cond.code dbm_208.1 dbm_208.2.1 dbm_208.2.2.1 dbm_208.2.2.2.1 ∈ db_T := db_tin 6 tables_1_7 rfl (List.mem_of_getElem? (i := 63) rfl) rfl
theorem db_dck_209 : db_dck prog_14_method_5_code dbt_209 = true := by decide +kernel
theorem db_mck_209 : db_mck dbm_209 = true := by decide +kernel
theorem db_cod_209 : Cond.code dbm_209.1 dbm_209.2.1 dbm_209.2.2.1 dbm_209.2.2.2.1 ∈ db_T := db_tin 6 tables_1_7 rfl (List.mem_of_getElem? (i := 67) rfl) rfl
theorem db_dck_210 : db_dck prog_14_method_11_code dbt_210 = true := by decide +kernel
theorem db_mck_210 : db_mck dbm_210 = true := by decide +kernel
theorem db_cod_210 : Cond.code dbm_210.1 dbm_210.2.1 dbm_210.2.2.1 dbm_210.2.2.2.1 ∈ db_T := db_tin 6 tables_1_7 rfl (List.mem_of_getElem? (i := 71) rfl) rfl
theorem db_dck_211 : db_dck prog_14_method_7_code dbt_211 = true := by decide +kernel
theorem db_mck_211 : db_mck dbm_211 = true := by decide +kernel
theorem db_cod_211 : Cond.code dbm_211.1 dbm_211.2.1 dbm_211.2.2.1 dbm_211.2.2.2.1 ∈ db_T := db_tin 6 tables_1_7 rfl (List.mem_of_getElem? (i := 75) rfl) rfl
theorem db_dck_212 : db_dck prog_14_method_14_code dbt_212 = true := by decide +kernel
theorem db_mck_212 : db_mck dbm_212 = true := by decide +kernel
theorem db_cod_212 : Cond.code dbm_212.1 dbm_212.2.1 dbm_212.2.2.1 dbm_212.2.2.2.1 ∈ db_T := db_tin 6 tables_1_7 rfl (List.mem_of_getElem? (i := 79) rfl) rfl
theorem db_dck_213 : db_dck prog_14_method_13_code dbt_213 = true := by decide +kernel
theorem db_mck_213 : db_mck dbm_213 = true := by decide +kernel
theorem db_cod_213 : Cond.code dbm_213.1 dbm_213.2.1 dbm_213.2.2.1 dbm_213.2.2.2.1 ∈ db_T := db_tin 6 tables_1_7 rfl (List.mem_of_getElem? (i := 83) rfl) rfl
theorem db_dck_214 : db_dck prog_14_method_12_code dbt_214 = true := by decide +kernel
theorem db_mck_214 : db_mck dbm_214 = true := by decide +kernel
theorem db_cod_214 : Cond.code dbm_214.1 dbm_214.2.1 dbm_214.2.2.1 dbm_214.2.2.2.1 ∈ db_T := db_tin 6 tables_1_7 rfl (List.mem_of_getElem? (i := 87) rfl) rfl
theorem db_dck_215 : db_dck prog_14_method_10_code dbt_215 = true := by decide +kernel
theorem db_mck_215 : db_mck dbm_215 = true := by decide +kernel
theorem db_cod_215 : Cond.code dbm_215.1 dbm_215.2.1 dbm_215.2.2.1 dbm_215.2.2.2.1 ∈ db_T := db_tin 6 tables_1_7 rfl (List.mem_of_getElem? (i := 90) rfl) rfl
theorem db_dck_216 : db_dck prog_14_method_15_code dbt_216 = true := by decide +kernel
theorem db_mck_216 : db_mck dbm_216 = true := by decide +kernel
theorem db_cod_216 : Cond.code dbm_216.1 dbm_216.2.1 dbm_216.2.2.1 dbm_216.2.2.2.1 ∈ db_T := db_tin 6 tables_1_7 rfl (List.mem_of_getElem? (i := 94) rfl) rfl
theorem db_dck_217 : db_dck prog_14_method_16_code dbt_217 = true := by decide +kernel
theorem db_mck_217 : db_mck dbm_217 = true := by decide +kernel
theorem db_cod_217 : Cond.code dbm_217.1 dbm_217.2.1 dbm_217.2.2.1 dbm_217.2.2.2.1 ∈ db_T := db_tin 6 tables_1_7 rfl (List.mem_of_getElem? (i := 99) rfl) rfl
theorem db_dck_218 : db_dck prog_14_method_56_code dbt_218 = true := by decide +kernel
theorem db_mck_218 : db_mck dbm_218 = true := by decide +kernel
theorem db_cod_218 : Cond.code dbm_218.1 dbm_218.2.1 dbm_218.2.2.1 dbm_218.2.2.2.1 ∈ db_T := db_tin 6 tables_1_7 rfl (List.mem_of_getElem? (i := 103) rfl) rfl
theorem db_dck_219 : db_dck prog_14_method_57_code dbt_219 = true := by decide +kernel
theorem db_mck_219 : db_mck dbm_219 = true := by decide +kernel
theorem db_cod_219 : Cond.code dbm_219.1 dbm_219.2.1 dbm_219.2.2.1 dbm_219.2.2.2.1 ∈ db_T := db_tin 6 tables_1_7 rfl (List.mem_of_getElem? (i := 107) rfl) rfl
theorem db_dck_220 : db_dck prog_14_method_60_code dbt_220 = true := by decide +kernel
theorem db_mck_220 : db_mck dbm_220 = true := by decide +kernel
theorem db_cod_220 : Cond.code dbm_220.1 dbm_220.2.1 dbm_220.2.2.1 dbm_220.2.2.2.1 ∈ db_T := db_tin 6 tables_1_7 rfl (List.mem_of_getElem? (i := 111) rfl) rfl
theorem db_dck_221 : db_dck prog_14_method_76_code dbt_221 = true := by decide +kernel
theorem db_mck_221 : db_mck dbm_221 = true := by decide +kernel
theorem db_cod_221 : Cond.code dbm_221.1 dbm_221.2.1 dbm_221.2.2.1 dbm_221.2.2.2.1 ∈ db_T := db_tin 6 tables_1_7 rfl (List.mem_of_getElem? (i := 115) rfl) rfl
theorem db_dck_222 : db_dck prog_14_method_58_code dbt_222 = true := by decide +kernel
theorem db_mck_222 : db_mck dbm_222 = true := by decide +kernel
theorem db_cod_222 : Cond.code dbm_222.1 dbm_222.2.1 dbm_222.2.2.1 dbm_222.2.2.2.1 ∈ db_T := db_tin 6 tables_1_7 rfl (List.mem_of_getElem? (i := 119) rfl) rfl
theorem db_dck_223 : db_dck prog_14_method_25_code dbt_223 = true := by decide +kernel
theorem db_mck_223 : db_mck dbm_223 = true := by decide +kernel
theorem db_cod_223 : Cond.code dbm_223.1 dbm_223.2.1 dbm_223.2.2.1 dbm_223.2.2.2.1 ∈ db_T := db_tin 6 tables_1_7 rfl (List.mem_of_getElem? (i := 123) rfl) rfl
theorem db_dck_224 : db_dck prog_14_method_21_code dbt_224 = true := by decide +kernel
theorem db_mck_224 : db_mck dbm_224 = true := by decide +kernel
theorem db_cod_224 : Cond.code dbm_224.1 dbm_224.2.1 dbm_224.2.2.1 dbm_224.2.2.2.1 ∈ db_T := db_tin 6 tables_1_7 rfl (List.mem_of_getElem? (i := 127) rfl) rfl
theorem db_dck_225 : db_dck prog_14_method_22_code dbt_225 = true := by decide +kernel
theorem db_mck_225 : db_mck dbm_225 = true := by decide +kernel
theorem db_cod_225 : Cond.code dbm_225.1 dbm_225.2.1 dbm_225.2.2.1 dbm_225.2.2.2.1 ∈ db_T := db_tin 6 tables_1_7 rfl (List.mem_of_getElem? (i := 130) rfl) rfl
theorem db_dck_226 : db_dck prog_14_method_23_code dbt_226 = true := by decide +kernel
theorem db_mck_226 : db_mck dbm_226 = true := by decide +kernel
theorem db_cod_226 : Cond.code dbm_226.1 dbm_226.2.1 dbm_226.2.2.1 dbm_226.2.2.2.1 ∈ db_T := db_tin 6 tables_1_7 rfl (List.mem_of_getElem? (i := 135) rfl) rfl
theorem db_dck_227 : db_dck prog_14_method_24_code dbt_227 = true := by decide +kernel
theorem db_mck_227 : db_mck dbm_227 = true := by decide +kernel
theorem db_cod_227 : Cond.code dbm_227.1 dbm_227.2.1 dbm_227.2.2.1 dbm_227.2.2.2.1 ∈ db_T := db_tin 6 tables_1_7 rfl (List.mem_of_getElem? (i := 139) rfl) rfl
theorem db_dck_228 : db_dck prog_14_method_29_code dbt_228 = true := by decide +kernel
theorem db_mck_228 : db_mck dbm_228 = true := by decide +kernel
theorem db_cod_228 : Cond.code dbm_228.1 dbm_228.2.1 dbm_228.2.2.1 dbm_228.2.2.2.1 ∈ db_T := db_tin 6 tables_1_7 rfl (List.mem_of_getElem? (i := 143) rfl) rfl
theorem db_dck_229 : db_dck prog_14_method_27_code dbt_229 = true := by decide +kernel
theorem db_mck_229 : db_mck dbm_229 = true := by decide +kernel
theorem db_cod_229 : Cond.code dbm_229.1 dbm_229.2.1 dbm_229.2.2.1 dbm_229.2.2.2.1 ∈ db_T := db_tin 6 tables_1_7 rfl (List.mem_of_getElem? (i := 146) rfl) rfl
theorem db_dck_230 : db_dck prog_14_method_28_code dbt_230 = true := by decide +kernel
theorem db_mck_230 : db_mck dbm_230 = true := by decide +kernel
theorem db_cod_230 : Cond.code dbm_230.1 dbm_230.2.1 dbm_230.2.2.1 dbm_230.2.2.2.1 ∈ db_T := db_tin 6 tables_1_7 rfl (List.mem_of_getElem? (i := 150) rfl) rfl
theorem db_dck_231 : db_dck prog_14_method_69_code dbt_231 = true := by decide +kernel
theorem db_mck_231 : db_mck dbm_231 = true := by decide +kernel
theorem db_cod_231 : Cond.code dbm_231.1 dbm_231.2.1 dbm_231.2.2.1 dbm_231.2.2.2.1 ∈ db_T := db_tin 6 tables_1_7 rfl (List.mem_of_getElem? (i := 154) rfl) rfl
theorem db_dck_232 : db_dck prog_14_method_65_code dbt_232 = true := by decide +kernel
theorem db_mck_232 : db_mck dbm_232 = true := by decide +kernel
theorem db_cod_232 : Cond.code dbm_232.1 dbm_232.2.1 dbm_232.2.2.1 dbm_232.2.2.2.1 ∈ db_T := db_tin 6 tables_1_7 rfl (List.mem_of_getElem? (i := 158) rfl) rfl
theorem db_dck_233 : db_dck prog_14_method_62_code dbt_233 = true := by decide +kernel
theorem db_mck_233 : db_mck dbm_233 = true := by decide +kernel
theorem db_cod_233 : Cond.code dbm_233.1 dbm_233.2.1 dbm_233.2.2.1 dbm_233.2.2.2.1 ∈ db_T := db_tin 6 tables_1_7 rfl (List.mem_of_getElem? (i := 162) rfl) rfl
theorem db_dck_234 : db_dck prog_14_method_52_code dbt_234 = true := by decide +kernel
theorem db_mck_234 : db_mck dbm_234 = true := by decide +kernel
theorem db_cod_234 : Cond.code dbm_234.1 dbm_234.2.1 dbm_234.2.2.1 dbm_234.2.2.2.1 ∈ db_T := db_tin 6 tables_1_7 rfl (List.mem_of_getElem? (i := 166) rfl) rfl
theorem db_dck_235 : db_dck prog_14_method_51_code dbt_235 = true := by decide +kernel
theorem db_mck_235 : db_mck dbm_235 = true := by decide +kernel
theorem db_cod_235 : Cond.code dbm_235.1 dbm_235.2.1 dbm_235.2.2.1 dbm_235.2.2.2.1 ∈ db_T := db_tin 6 tables_1_7 rfl (List.mem_of_getElem? (i := 170) rfl) rfl
theorem db_dck_236 : db_dck prog_14_method_50_code dbt_236 = true := by decide +kernel
theorem db_mck_236 : db_mck dbm_236 = true := by decide +kernel
theorem db_cod_236 : Cond.code dbm_236.1 dbm_236.2.1 dbm_236.2.2.1 dbm_236.2.2.2.1 ∈ db_T := db_tin 6 tables_1_7 rfl (List.mem_of_getElem? (i := 174) rfl) rfl
theorem db_dck_237 : db_dck prog_14_method_30_code dbt_237 = true := by decide +kernel
theorem db_mck_237 : db_mck dbm_237 = true := by decide +kernel
theorem db_cod_237 : Cond.code dbm_237.1 dbm_237.2.1 dbm_237.2.2.1 dbm_237.2.2.2.1 ∈ db_T := db_tin 6 tables_1_7 rfl (List.mem_of_getElem? (i := 178) rfl) rfl
theorem db_dck_238 : db_dck prog_14_method_31_code dbt_238 = true := by decide +kernel
theorem db_mck_238 : db_mck dbm_238 = true := by decide +kernel
theorem db_cod_238 : Cond.code dbm_238.1 dbm_238.2.1 dbm_238.2.2.1 dbm_238.2.2.2.1 ∈ db_T := db_tin 6 tables_1_7 rfl (List.mem_of_getElem? (i := 182) rfl) rfl
theorem db_dck_239 : db_dck prog_14_method_32_code dbt_239 = true := by decide +kernel
theorem db_mck_239 : db_mck dbm_239 = true := by decide +kernel
theorem db_cod_239 : Cond.code dbm_239.1 dbm_239.2.1 dbm_239.2.2.1 dbm_239.2.2.2.1 ∈ db_T := db_tin 6 tables_1_7 rfl (List.mem_of_getElem? (i := 186) rfl) rfl
theorem db_dck_240 : db_dck prog_14_method_33_code dbt_240 = true := by decide +kernel
theorem db_mck_240 : db_mck dbm_240 = true := by decide +kernel
theorem db_cod_240 : Cond.code dbm_240.1 dbm_240.2.1 dbm_240.2.2.1 dbm_240.2.2.2.1 ∈ db_T := db_tin 6 tables_1_7 rfl (List.mem_of_getElem? (i := 190) rfl) rfl
theorem db_dck_241 : db_dck prog_14_method_34_code dbt_241 = true := by decide +kernel
theorem db_mck_241 : db_mck dbm_241 = true := by decide +kernel
theorem db_cod_241 : Cond.code dbm_241.1 dbm_241.2.1 dbm_241.2.2.1 dbm_241.2.2.2.1 ∈ db_T := db_tin 6 tables_1_7 rfl (List.mem_of_getElem? (i := 194) rfl) rfl
theorem db_dck_242 : db_dck prog_14_method_35_code dbt_242 = true := by decide +kernel
theorem db_mck_242 : db_mck dbm_242 = true := by decide +kernel
theorem db_cod_242 : Cond.code dbm_242.1 dbm_242.2.1 dbm_242.2.2.1 dbm_242.2.2.2.1 ∈ db_T := db_tin 6 tables_1_7 rfl (List.mem_of_getElem? (i := 198) rfl) rfl
theorem db_dck_243 : db_dck prog_14_method_36_code dbt_243 = true := by decide +kernel
theorem db_mck_243 : db_mck dbm_243 = true := by decide +kernel
theorem db_cod_243 : Cond.code dbm_243.1 dbm_243.2.1 dbm_243.2.2.1 dbm_243.2.2.2.1 ∈ db_T := db_tin 6 tables_1_7 rfl (List.mem_of_getElem? (i := 202) rfl) rfl
theorem db_dck_244 : db_dck prog_14_method_37_code dbt_244 = true := by decide +kernel
theorem db_mck_244 : db_mck dbm_244 = true := by decide +kernel
theorem db_cod_244 : Cond.code dbm_244.1 dbm_244.2.1 dbm_244.2.2.1 dbm_244.2.2.2.1 ∈ db_T := db_tin 6 tables_1_7 rfl (List.mem_of_getElem? (i := 206) rfl) rfl
theorem db_dck_245 : db_dck prog_14_method_38_code dbt_245 = true := by decide +kernel
theorem db_mck_245 : db_mck dbm_245 = true := by decide +kernel
theorem db_cod_245 : Cond.code dbm_245.1 dbm_245.2.1 dbm_245.2.2.1 dbm_245.2.2.2.1 ∈ db_T := db_tin 6 tables_1_7 rfl (List.mem_of_getElem? (i := 210) rfl) rfl
theorem db_dck_246 : db_dck prog_14_method_39_code dbt_246 = true := by decide +kernel
theorem db_mck_246 : db_mck dbm_246 = true := by decide +kernel
theorem db_cod_246 : Cond.code dbm_246.1 dbm_246.2.1 dbm_246.2.2.1 dbm_246.2.2.2.1 ∈ db_T := db_tin 6 tables_1_7 rfl (List.mem_of_getElem? (i := 214) rfl) rfl
theorem db_dck_247 : db_dck prog_14_method_40_code dbt_247 = true := by decide +kernel
theorem db_mck_247 : db_mck dbm_247 = true := by decide +kernel
theorem db_cod_247 : Cond.code dbm_247.1 dbm_247.2.1 dbm_247.2.2.1 dbm_247.2.2.2.1 ∈ db_T := db_tin 6 tables_1_7 rfl (List.mem_of_getElem? (i := 218) rfl) rfl
theorem db_dck_248 : db_dck prog_14_method_41_code dbt_248 = true := by decide +kernel
theorem db_mck_248 : db_mck dbm_248 = true := by decide +kernel
theorem db_cod_248 : Cond.code dbm_248.1 dbm_248.2.1 dbm_248.2.2.1 dbm_248.2.2.2.1 ∈ db_T := db_tin 6 tables_1_7 rfl (List.mem_of_getElem? (i := 222) rfl) rfl
theorem db_dck_249 : db_dck prog_14_method_42_code dbt_249 = true := by decide +kernel
theorem db_mck_249 : db_mck dbm_249 = true := by decide +kernel
theorem db_cod_249 : Cond.code dbm_249.1 dbm_249.2.1 dbm_249.2.2.1 dbm_249.2.2.2.1 ∈ db_T := db_tin 6 tables_1_7 rfl (List.mem_of_getElem? (i := 226) rfl) rfl
theorem db_dck_250 : db_dck prog_14_method_43_code dbt_250 = true := by decide +kernel
theorem db_mck_250 : db_mck dbm_250 = true := by decide +kernel
theorem db_cod_250 : Cond.code dbm_250.1 dbm_250.2.1 dbm_250.2.2.1 dbm_250.2.2.2.1 ∈ db_T := db_tin 6 tables_1_7 rfl (List.mem_of_getElem? (i := 230) rfl) rfl
theorem db_dck_251 : db_dck prog_14_method_44_code dbt_251 = true := by decide +kernel
theorem db_mck_251 : db_mck dbm_251 = true := by decide +kernel
theorem db_cod_251 : Cond.code dbm_251.1 dbm_251.2.1 dbm_251.2.2.1 dbm_251.2.2.2.1 ∈ db_T := db_tin 6 tables_1_7 rfl (List.mem_of_getElem? (i := 235) rfl) rfl
theorem db_dck_252 : db_dck prog_14_method_45_code dbt_252 = true := by decide +kernel
theorem db_mck_252 : db_mck dbm_252 = true := by decide +kernel
theorem db_cod_252 : Cond.code dbm_252.1 dbm_252.2.1 dbm_252.2.2.1 dbm_252.2.2.2.1 ∈ db_T := db_tin 6 tables_1_7 rfl (List.mem_of_getElem? (i := 239) rfl) rfl
theorem db_dck_253 : db_dck prog_14_method_46_code dbt_253 = true := by decide +kernel
theorem db_mck_253 : db_mck dbm_253 = true := by decide +kernel
theorem db_cod_253 : Cond.code dbm_253.1 dbm_253.2.1 dbm_253.2.2.1 dbm_253.2.2.2.1 ∈ db_T := db_tin 7 tables_1_8 rfl (List.mem_of_getElem? (i := 3) rfl) rfl
theorem db_dck_254 : db_dck prog_14_method_47_code dbt_254 = true := by decide +kernel
theorem db_mck_254 : db_mck dbm_254 = true := by decide +kernel
theorem db_cod_254 : Cond.code dbm_254.1 dbm_254.2.1 dbm_254.2.2.1 dbm_254.2.2.2.1 ∈ db_T := db_tin 7 tables_1_8 rfl (List.mem_of_getElem? (i := 7) rfl) rfl
theorem db_dck_255 : db_dck prog_14_method_48_code dbt_255 = true := by decide +kernel
theorem db_mck_255 : db_mck dbm_255 = true := by decide +kernel
theorem db_cod_255 : Cond.code dbm_255.1 dbm_255.2.1 dbm_255.2.2.1 dbm_255.2.2.2.1 ∈ db_T := db_tin 7 tables_1_8 rfl (List.mem_of_getElem? (i := 11) rfl) rfl
theorem db_dck_256 : db_dck prog_14_method_49_code dbt_256 = true := by decide +kernel
theorem db_mck_256 : db_mck dbm_256 = true := by decide +kernel
theorem db_cod_256 : Cond.code dbm_256.1 dbm_256.2.1 dbm_256.2.2.1 dbm_256.2.2.2.1 ∈ db_T := db_tin 7 tables_1_8 rfl (List.mem_of_getElem? (i := 15) rfl) rfl
theorem db_dck_257 : db_dck prog_14_method_53_code dbt_257 = true := by decide +kernel
theorem db_mck_257 : db_mck dbm_257 = true := by decide +kernel
theorem db_cod_257 : Cond.code dbm_257.1 dbm_257.2.1 dbm_257.2.2.1 dbm_257.2.2.2.1 ∈ db_T := db_tin 7 tables_1_8 rfl (List.mem_of_getElem? (i := 19) rfl) rfl
theorem db_dck_258 : db_dck prog_14_method_64_code dbt_258 = true := by decide +kernel
theorem db_mck_258 : db_mck dbm_258 = true := by decide +kernel
theorem db_cod_258 : Cond.code dbm_258.1 dbm_258.2.1 dbm_258.2.2.1 dbm_258.2.2.2.1 ∈ db_T := db_tin 7 tables_1_8 rfl (List.mem_of_getElem? (i := 23) rfl) rfl
theorem db_dck_259 : db_dck prog_14_method_63_code dbt_259 = true := by decide +kernel
theorem db_mck_259 : db_mck dbm_259 = true := by decide +kernel
theorem db_cod_259 : Cond.code dbm_259.1 dbm_259.2.1 dbm_259.2.2.1 dbm_259.2.2.2.1 ∈ db_T := db_tin 7 tables_1_8 rfl (List.mem_of_getElem? (i := 27) rfl) rfl
theorem db_dck_260 : db_dck prog_14_method_61_code dbt_260 = true := by decide +kernel
theorem db_mck_260 : db_mck dbm_260 = true := by decide +kernel
theorem db_cod_260 : Cond.code dbm_260.1 dbm_260.2.1 dbm_260.2.2.1 dbm_260.2.2.2.1 ∈ db_T := db_tin 7 tables_1_8 rfl (List.mem_of_getElem? (i := 30) rfl) rfl
theorem db_dck_261 : db_dck prog_14_method_70_code dbt_261 = true := by decide +kernel
theorem db_mck_261 : db_mck dbm_261 = true := by decide +kernel
theorem db_cod_261 : Cond.code dbm_261.1 dbm_261.2.1 dbm_261.2.2.1 dbm_261.2.2.2.1 ∈ db_T := db_tin 7 tables_1_8 rfl (List.mem_of_getElem? (i := 34) rfl) rfl
theorem db_dck_262 : db_dck prog_14_method_71_code dbt_262 = true := by decide +kernel
theorem db_mck_262 : db_mck dbm_262 = true := by decide +kernel
theorem db_cod_262 : Cond.code dbm_262.1 dbm_262.2.1 dbm_262.2.2.1 dbm_262.2.2.2.1 ∈ db_T := db_tin 7 tables_1_8 rfl (List.mem_of_getElem? (i := 38) rfl) rfl
theorem db_dck_263 : db_dck prog_14_method_73_code dbt_263 = true := by decide +kernel
theorem db_mck_263 : db_mck dbm_263 = true := by decide +kernel
theorem db_cod_263 : Cond.code dbm_263.1 dbm_263.2.1 dbm_263.2.2.1 dbm_263.2.2.2.1 ∈ db_T := db_tin 7 tables_1_8 rfl (List.mem_of_getElem? (i := 42) rfl) rfl
theorem db_dck_264 : db_dck prog_14_method_54_code dbt_264 = true := by decide +kernel
theorem db_mck_264 : db_mck dbm_264 = true := by decide +kernel
theorem db_cod_264 : Cond.code dbm_264.1 dbm_264.2.1 dbm_264.2.2.1 dbm_264.2.2.2.1 ∈ db_T := db_tin 7 tables_1_8 rfl (List.mem_of_getElem? (i := 46) rfl) rfl
theorem db_dck_265 : db_dck prog_14_method_67_code dbt_265 = true := by decide +kernel
theorem db_mck_265 : db_mck dbm_265 = true := by decide +kernel
theorem db_cod_265 : Cond.code dbm_265.1 dbm_265.2.1 dbm_265.2.2.1 dbm_265.2.2.2.1 ∈ db_T := db_tin 7 tables_1_8 rfl (List.mem_of_getElem? (i := 50) rfl) rfl
theorem db_dck_266 : db_dck prog_14_method_66_code dbt_266 = true := by decide +kernel
theorem db_mck_266 : db_mck dbm_266 = true := by decide +kernel
theorem db_cod_266 : Cond.code dbm_266.1 dbm_266.2.1 dbm_266.2.2.1 dbm_266.2.2.2.1 ∈ db_T := db_tin 7 tables_1_8 rfl (List.mem_of_getElem? (i := 54) rfl) rfl
theorem db_dck_267 : db_dck prog_14_method_72_code dbt_267 = true := by decide +kernel
theorem db_mck_267 : db_mck dbm_267 = true := by decide +kernel
theorem db_cod_267 : Cond.code dbm_267.1 dbm_267.2.1 dbm_267.2.2.1 dbm_267.2.2.2.1 ∈ db_T := db_tin 7 tables_1_8 rfl (List.mem_of_getElem? (i := 61) rfl) rfl
theorem db_dck_268 : db_dck prog_14_method_55_code dbt_268 = true := by decide +kernel
theorem db_mck_268 : db_mck dbm_268 = true := by decide +kernel
theorem db_cod_268 : Cond.code dbm_268.1 dbm_268.2.1 dbm_268.2.2.1 dbm_268.2.2.2.1 ∈ db_T := db_tin 7 tables_1_8 rfl (List.mem_of_getElem? (i := 65) rfl) rfl
theorem db_dck_269 : db_dck prog_14_method_8_code dbt_269 = true := by decide +kernel
theorem db_mck_269 : db_mck dbm_269 = true := by decide +kernel
theorem db_cod_269 : Cond.code dbm_269.1 dbm_269.2.1 dbm_269.2.2.1 dbm_269.2.2.2.1 ∈ db_T := db_tin 7 tables_1_8 rfl (List.mem_of_getElem? (i := 68) rfl) rfl
theorem db_dck_270 : db_dck prog_14_method_68_code dbt_270 = true := by decide +kernel
theorem db_mck_270 : db_mck dbm_270 = true := by decide +kernel
theorem db_cod_270 : Cond.code dbm_270.1 dbm_270.2.1 dbm_270.2.2.1 dbm_270.2.2.2.1 ∈ db_T := db_tin 7 tables_1_8 rfl (List.mem_of_getElem? (i := 72) rfl) rfl
theorem db_dck_271 : db_dck prog_14_method_74_code dbt_271 = true := by decide +kernel
theorem db_mck_271 : db_mck dbm_271 = true := by decide +kernel
theorem db_cod_271 : Cond.code dbm_271.1 dbm_271.2.1 dbm_271.2.2.1 dbm_271.2.2.2.1 ∈ db_T := db_tin 7 tables_1_8 rfl (List.mem_of_getElem? (i := 76) rfl) rfl
theorem db_dck_272 : db_dck prog_14_method_75_code dbt_272 = true := by decide +kernel
theorem db_mck_272 : db_mck dbm_272 = true := by decide +kernel
theorem db_cod_272 : Cond.code dbm_272.1 dbm_272.2.1 dbm_272.2.2.1 dbm_272.2.2.2.1 ∈ db_T := db_tin 7 tables_1_8 rfl (List.mem_of_getElem? (i := 80) rfl) rfl
theorem db_dck_273 : db_dck prog_14_method_26_code dbt_273 = true := by decide +kernel
theorem db_mck_273 : db_mck dbm_273 = true := by decide +kernel
theorem db_cod_273 : Cond.code dbm_273.1 dbm_273.2.1 dbm_273.2.2.1 dbm_273.2.2.2.1 ∈ db_T := db_tin 7 tables_1_8 rfl (List.mem_of_getElem? (i := 84) rfl) rfl
theorem db_dck_274 : db_dck prog_14_method_59_code dbt_274 = true := by decide +kernel
theorem db_mck_274 : db_mck dbm_274 = true := by decide +kernel
theorem db_cod_274 : Cond.code dbm_274.1 dbm_274.2.1 dbm_274.2.2.1 dbm_274.2.2.2.1 ∈ db_T := db_tin 7 tables_1_8 rfl (List.mem_of_getElem? (i := 88) rfl) rfl
theorem db_dck_275 : db_dck prog_14_method_171_code dbt_275 = true := by decide +kernel
theorem db_mck_275 : db_mck dbm_275 = true := by decide +kernel
theorem db_cod_275 : Cond.code dbm_275.1 dbm_275.2.1 dbm_275.2.2.1 dbm_275.2.2.2.1 ∈ db_T := db_tin 7 tables_1_8 rfl (List.mem_of_getElem? (i := 92) rfl) rfl
theorem db_dck_276 : db_dck prog_14_method_80_code dbt_276 = true := by decide +kernel
theorem db_mck_276 : db_mck dbm_276 = true := by decide +kernel
theorem db_cod_276 : Cond.code dbm_276.1 dbm_276.2.1 dbm_276.2.2.1 dbm_276.2.2.2.1 ∈ db_T := db_tin 7 tables_1_8 rfl (List.mem_of_getElem? (i := 96) rfl) rfl
theorem db_dck_277 : db_dck prog_14_method_79_code dbt_277 = true := by decide +kernel
theorem db_mck_277 : db_mck dbm_277 = true := by decide +kernel
theorem db_cod_277 : Cond.code dbm_277.1 dbm_277.2.1 dbm_277.2.2.1 dbm_277.2.2.2.1 ∈ db_T := db_tin 7 tables_1_8 rfl (List.mem_of_getElem? (i := 100) rfl) rfl
theorem db_dck_278 : db_dck prog_14_method_78_code dbt_278 = true := by decide +kernel
theorem db_mck_278 : db_mck dbm_278 = true := by decide +kernel
theorem db_cod_278 : Cond.code dbm_278.1 dbm_278.2.1 dbm_278.2.2.1 dbm_278.2.2.2.1 ∈ db_T := db_tin 7 tables_1_8 rfl (List.mem_of_getElem? (i := 104) rfl) rfl
theorem db_dck_279 : db_dck prog_14_method_77_code dbt_279 = true := by decide +kernel
theorem db_mck_279 : db_mck dbm_279 = true := by decide +kernel
theorem db_cod_279 : Cond.code dbm_279.1 dbm_279.2.1 dbm_279.2.2.1 dbm_279.2.2.2.1 ∈ db_T := db_tin 7 tables_1_8 rfl (List.mem_of_getElem? (i := 108) rfl) rfl
theorem db_dck_280 : db_dck prog_14_method_93_code dbt_280 = true := by decide +kernel
theorem db_mck_280 : db_mck dbm_280 = true := by decide +kernel
theorem db_cod_280 : Cond.code dbm_280.1 dbm_280.2.1 dbm_280.2.2.1 dbm_280.2.2.2.1 ∈ db_T := db_tin 7 tables_1_8 rfl (List.mem_of_getElem? (i := 112) rfl) rfl
theorem db_dck_281 : db_dck prog_14_method_6_code dbt_281 = true := by decide +kernel
theorem db_mck_281 : db_mck dbm_281 = true := by decide +kernel
theorem db_cod_281 : Cond.code dbm_281.1 dbm_281.2.1 dbm_281.2.2.1 dbm_281.2.2.2.1 ∈ db_T := db_tin 7 tables_1_8 rfl (List.mem_of_getElem? (i := 117) rfl) rfl
theorem db_dck_282 : db_dck prog_14_method_87_code dbt_282 = true := by decide +kernel
theorem db_mck_282 : db_mck dbm_282 = true := by decide +kernel
theorem db_cod_282 : Cond.code dbm_282.1 dbm_282.2.1 dbm_282.2.2.1 dbm_282.2.2.2.1 ∈ db_T := db_tin 7 tables_1_8 rfl (List.mem_of_getElem? (i := 121) rfl) rfl
theorem db_dck_283 : db_dck prog_14_method_91_code dbt_283 = true := by decide +kernel
theorem db_mck_283 : db_mck dbm_283 = true := by decide +kernel
theorem db_cod_283 : Cond.code dbm_283.1 dbm_283.2.1 dbm_283.2.2.1 dbm_283.2.2.2.1 ∈ db_T := db_tin 7 tables_1_8 rfl (List.mem_of_getElem? (i := 125) rfl) rfl
theorem db_dck_284 : db_dck prog_14_method_90_code dbt_284 = true := by decide +kernel
theorem db_mck_284 : db_mck dbm_284 = true := by decide +kernel
theorem db_cod_284 : Cond.code dbm_284.1 dbm_284.2.1 dbm_284.2.2.1 dbm_284.2.2.2.1 ∈ db_T := db_tin 7 tables_1_8 rfl (List.mem_of_getElem? (i := 129) rfl) rfl
theorem db_dck_285 : db_dck prog_14_method_89_code dbt_285 = true := by decide +kernel
theorem db_mck_285 : db_mck dbm_285 = true := by decide +kernel
theorem db_cod_285 : Cond.code dbm_285.1 dbm_285.2.1 dbm_285.2.2.1 dbm_285.2.2.2.1 ∈ db_T := db_tin 7 tables_1_8 rfl (List.mem_of_getElem? (i := 133) rfl) rfl
theorem db_dck_286 : db_dck prog_14_method_88_code dbt_286 = true := by decide +kernel
theorem db_mck_286 : db_mck dbm_286 = true := by decide +kernel
theorem db_cod_286 : Cond.code dbm_286.1 dbm_286.2.1 dbm_286.2.2.1 dbm_286.2.2.2.1 ∈ db_T := db_tin 7 tables_1_8 rfl (List.mem_of_getElem? (i := 137) rfl) rfl
theorem db_dck_287 : db_dck prog_14_method_19_code dbt_287 = true := by decide +kernel
theorem db_mck_287 : db_mck dbm_287 = true := by decide +kernel
theorem db_cod_287 : Cond.code dbm_287.1 dbm_287.2.1 dbm_287.2.2.1 dbm_287.2.2.2.1 ∈ db_T := db_tin 7 tables_1_8 rfl (List.mem_of_getElem? (i := 140) rfl) rfl
theorem db_dck_288 : db_dck prog_14_method_94_code dbt_288 = true := by decide +kernel
theorem db_mck_288 : db_mck dbm_288 = true := by decide +kernel
theorem db_cod_288 : Cond.code dbm_288.1 dbm_288.2.1 dbm_288.2.2.1 dbm_288.2.2.2.1 ∈ db_T := db_tin 7 tables_1_8 rfl (List.mem_of_getElem? (i := 144) rfl) rfl
theorem db_dck_289 : db_dck prog_14_method_84_code dbt_289 = true := by decide +kernel
theorem db_mck_289 : db_mck dbm_289 = true := by decide +kernel
theorem db_cod_289 : Cond.code dbm_289.1 dbm_289.2.1 dbm_289.2.2.1 dbm_289.2.2.2.1 ∈ db_T := db_tin 7 tables_1_8 rfl (List.mem_of_getElem? (i := 148) rfl) rfl
theorem db_dck_290 : db_dck prog_14_method_92_code dbt_290 = true := by decide +kernel
theorem db_mck_290 : db_mck dbm_290 = true := by decide +kernel
theorem db_cod_290 : Cond.code dbm_290.1 dbm_290.2.1 dbm_290.2.2.1 dbm_290.2.2.2.1 ∈ db_T := db_tin 7 tables_1_8 rfl (List.mem_of_getElem? (i := 153) rfl) rfl
theorem db_dck_291 : db_dck prog_14_method_95_code dbt_291 = true := by decide +kernel
theorem db_mck_291 : db_mck dbm_291 = true := by decide +kernel
theorem db_cod_291 : Cond.code dbm_291.1 dbm_291.2.1 dbm_291.2.2.1 dbm_291.2.2.2.1 ∈ db_T := db_tin 7 tables_1_8 rfl (List.mem_of_getElem? (i := 160) rfl) rfl
theorem db_dck_292 : db_dck prog_14_method_82_code dbt_292 = true := by decide +kernel
theorem db_mck_292 : db_mck dbm_292 = true := by decide +kernel
theorem db_cod_292 : Cond.code dbm_292.1 dbm_292.2.1 dbm_292.2.2.1 dbm_292.2.2.2.1 ∈ db_T := db_tin 7 tables_1_8 rfl (List.mem_of_getElem? (i := 164) rfl) rfl
theorem db_dck_293 : db_dck prog_14_method_96_code dbt_293 = true := by decide +kernel
theorem db_mck_293 : db_mck dbm_293 = true := by decide +kernel
theorem db_cod_293 : Cond.code dbm_293.1 dbm_293.2.1 dbm_293.2.2.1 dbm_293.2.2.2.1 ∈ db_T := db_tin 7 tables_1_8 rfl (List.mem_of_getElem? (i := 168) rfl) rfl
theorem db_dck_294 : db_dck prog_14_method_83_code dbt_294 = true := by decide +kernel
theorem db_mck_294 : db_mck dbm_294 = true := by decide +kernel
theorem db_cod_294 : Cond.code dbm_294.1 dbm_294.2.1 dbm_294.2.2.1 dbm_294.2.2.2.1 ∈ db_T := db_tin 7 tables_1_8 rfl (List.mem_of_getElem? (i := 172) rfl) rfl
theorem db_dck_295 : db_dck prog_14_method_97_code dbt_295 = true := by decide +kernel
theorem db_mck_295 : db_mck dbm_295 = true := by decide +kernel
theorem db_cod_295 : Cond.code dbm_295.1 dbm_295.2.1 dbm_295.2.2.1 dbm_295.2.2.2.1 ∈ db_T := db_tin 7 tables_1_8 rfl (List.mem_of_getElem? (i := 176) rfl) rfl
theorem db_dck_296 : db_dck prog_14_method_98_code dbt_296 = true := by decide +kernel
theorem db_mck_296 : db_mck dbm_296 = true := by decide +kernel
theorem db_cod_296 : Cond.code dbm_296.1 dbm_296.2.1 dbm_296.2.2.1 dbm_296.2.2.2.1 ∈ db_T := db_tin 7 tables_1_8 rfl (List.mem_of_getElem? (i := 180) rfl) rfl
theorem db_dck_297 : db_dck prog_14_method_85_code dbt_297 = true := by decide +kernel
theorem db_mck_297 : db_mck dbm_297 = true := by decide +kernel
theorem db_cod_297 : Cond.code dbm_297.1 dbm_297.2.1 dbm_297.2.2.1 dbm_297.2.2.2.1 ∈ db_T := db_tin 7 tables_1_8 rfl (List.mem_of_getElem? (i := 184) rfl) rfl
theorem db_dck_298 : db_dck prog_14_method_100_code dbt_298 = true := by decide +kernel
theorem db_mck_298 : db_mck dbm_298 = true := by decide +kernel
theorem db_cod_298 : Cond.code dbm_298.1 dbm_298.2.1 dbm_298.2.2.1 dbm_298.2.2.2.1 ∈ db_T := db_tin 7 tables_1_8 rfl (List.mem_of_getElem? (i := 188) rfl) rfl
theorem db_dck_299 : db_dck prog_14_method_99_code dbt_299 = true := by decide +kernel
theorem db_mck_299 : db_mck dbm_299 = true := by decide +kernel
theorem db_cod_299 : Cond.code dbm_299.1 dbm_299.2.1 dbm_299.2.2.1 dbm_299.2.2.2.1 ∈ db_T := db_tin 7 tables_1_8 rfl (List.mem_of_getElem? (i := 192) rfl) rfl
theorem db_dck_300 : db_dck prog_14_method_101_code dbt_300 = true := by decide +kernel
theorem db_mck_300 : db_mck dbm_300 = true := by decide +kernel
theorem db_cod_300 : Cond.code dbm_300.1 dbm_300.2.1 dbm_300.2.2.1 dbm_300.2.2.2.1 ∈ db_T := db_tin 7 tables_1_8 rfl (List.mem_of_getElem? (i := 196) rfl) rfl
theorem db_dck_301 : db_dck prog_14_method_18_code dbt_301 = true := by decide +kernel
theorem db_mck_301 : db_mck dbm_301 = true := by decide +kernel
theorem db_cod_301 : Cond.code dbm_301.1 dbm_301.2.1 dbm_301.2.2.1 dbm_301.2.2.2.1 ∈ db_T := db_tin 7 tables_1_8 rfl (List.mem_of_getElem? (i := 200) rfl) rfl
theorem db_dck_302 : db_dck prog_14_method_102_code dbt_302 = true := by decide +kernel
theorem db_mck_302 : db_mck dbm_302 = true := by decide +kernel
theorem db_cod_302 : Cond.code dbm_302.1 dbm_302.2.1 dbm_302.2.2.1 dbm_302.2.2.2.1 ∈ db_T := db_tin 7 tables_1_8 rfl (List.mem_of_getElem? (i := 205) rfl) rfl
theorem db_dck_303 : db_dck prog_14_method_106_code dbt_303 = true := by decide +kernel
theorem db_mck_303 : db_mck dbm_303 = true := by decide +kernel
theorem db_cod_303 : Cond.code dbm_303.1 dbm_303.2.1 dbm_303.2.2.1 dbm_303.2.2.2.1 ∈ db_T := db_tin 7 tables_1_8 rfl (List.mem_of_getElem? (i := 209) rfl) rfl
theorem db_dck_304 : db_dck prog_14_method_105_code dbt_304 = true := by decide +kernel
theorem db_mck_304 : db_mck dbm_304 = true := by decide +kernel
theorem db_cod_304 : Cond.code dbm_304.1 dbm_304.2.1 dbm_304.2.2.1 dbm_304.2.2.2.1 ∈ db_T := db_tin 7 tables_1_8 rfl (List.mem_of_getElem? (i := 213) rfl) rfl
theorem db_dck_305 : db_dck prog_14_method_104_code dbt_305 = true := by decide +kernel
theorem db_mck_305 : db_mck dbm_305 = true := by decide +kernel
theorem db_cod_305 : Cond.code dbm_305.1 dbm_305.2.1 dbm_305.2.2.1 dbm_305.2.2.2.1 ∈ db_T := db_tin 7 tables_1_8 rfl (List.mem_of_getElem? (i := 217) rfl) rfl
theorem db_dck_306 : db_dck prog_14_method_103_code dbt_306 = true := by decide +kernel
theorem db_mck_306 : db_mck dbm_306 = true := by decide +kernel
theorem db_cod_306 : Cond.code dbm_306.1 dbm_306.2.1 dbm_306.2.2.1 dbm_306.2.2.2.1 ∈ db_T := db_tin 7 tables_1_8 rfl (List.mem_of_getElem? (i := 221) rfl) rfl
theorem db_dck_307 : db_dck prog_14_method_107_code dbt_307 = true := by decide +kernel
theorem db_mck_307 : db_mck dbm_307 = true := by decide +kernel
theorem db_cod_307 : Cond.code dbm_307.1 dbm_307.2.1 dbm_307.2.2.1 dbm_307.2.2.2.1 ∈ db_T := db_tin 7 tables_1_8 rfl (List.mem_of_getElem? (i := 225) rfl) rfl
theorem db_dck_308 : db_dck prog_14_method_108_code dbt_308 = true := by decide +kernel
theorem db_mck_308 : db_mck dbm_308 = true := by decide +kernel
theorem db_cod_308 : Cond.code dbm_308.1 dbm_308.2.1 dbm_308.2.2.1 dbm_308.2.2.2.1 ∈ db_T := db_tin 7 tables_1_8 rfl (List.mem_of_getElem? (i := 229) rfl) rfl
theorem db_dck_309 : db_dck prog_14_method_110_code dbt_309 = true := by decide +kernel
theorem db_mck_309 : db_mck dbm_309 = true := by decide +kernel
theorem db_cod_309 : Cond.code dbm_309.1 dbm_309.2.1 dbm_309.2.2.1 dbm_309.2.2.2.1 ∈ db_T := db_tin 7 tables_1_8 rfl (List.mem_of_getElem? (i := 233) rfl) rfl
theorem db_dck_310 : db_dck prog_14_method_109_code dbt_310 = true := by decide +kernel
theorem db_mck_310 : db_mck dbm_310 = true := by decide +kernel
theorem db_cod_310 : Cond.code dbm_310.1 dbm_310.2.1 dbm_310.2.2.1 dbm_310.2.2.2.1 ∈ db_T := db_tin 7 tables_1_8 rfl (List.mem_of_getElem? (i := 237) rfl) rfl
theorem db_dck_311 : db_dck prog_14_method_111_code dbt_311 = true := by decide +kernel
theorem db_mck_311 : db_mck dbm_311 = true := by decide +kernel
theorem db_cod_311 : Cond.code dbm_311.1 dbm_311.2.1 dbm_311.2.2.1 dbm_311.2.2.2.1 ∈ db_T := db_tin 8 tables_1_9 rfl (List.mem_of_getElem? (i := 1) rfl) rfl
theorem db_dck_312 : db_dck prog_14_method_112_code dbt_312 = true := by decide +kernel
theorem db_mck_312 : db_mck dbm_312 = true := by decide +kernel
theorem db_cod_312 : Cond.code dbm_312.1 dbm_312.2.1 dbm_312.2.2.1 dbm_312.2.2.2.1 ∈ db_T := db_tin 8 tables_1_9 rfl (List.mem_of_getElem? (i := 5) rfl) rfl
theorem db_dck_313 : db_dck prog_14_method_121_code dbt_313 = true := by decide +kernel
theorem db_mck_313 : db_mck dbm_313 = true := by decide +kernel
theorem db_cod_313 : Cond.code dbm_313.1 dbm_313.2.1 dbm_313.2.2.1 dbm_313.2.2.2.1 ∈ db_T := db_tin 8 tables_1_9 rfl (List.mem_of_getElem? (i := 9) rfl) rfl
theorem db_dck_314 : db_dck prog_14_method_120_code dbt_314 = true := by decide +kernel
theorem db_mck_314 : db_mck dbm_314 = true := by decide +kernel
theorem db_cod_314 : Cond.code dbm_314.1 dbm_314.2.1 dbm_314.2.2.1 dbm_314.2.2.2.1 ∈ db_T := db_tin 8 tables_1_9 rfl (List.mem_of_getElem? (i := 13) rfl) rfl
theorem db_dck_315 : db_dck prog_14_method_86_code dbt_315 = true := by decide +kernel
theorem db_mck_315 : db_mck dbm_315 = true := by decide +kernel
theorem db_cod_315 : Cond.code dbm_315.1 dbm_315.2.1 dbm_315.2.2.1 dbm_315.2.2.2.1 ∈ db_T := db_tin 8 tables_1_9 rfl (List.mem_of_getElem? (i := 17) rfl) rfl
theorem db_dck_316 : db_dck prog_14_method_119_code dbt_316 = true := by decide +kernel
theorem db_mck_316 : db_mck dbm_316 = true := by decide +kernel
theorem db_cod_316 : Cond.code dbm_316.1 dbm_316.2.1 dbm_316.2.2.1 dbm_316.2.2.2.1 ∈ db_T := db_tin 8 tables_1_9 rfl (List.mem_of_getElem? (i := 21) rfl) rfl
theorem db_dck_317 : db_dck prog_14_method_118_code dbt_317 = true := by decide +kernel
theorem db_mck_317 : db_mck dbm_317 = true := by decide +kernel
theorem db_cod_317 : Cond.code dbm_317.1 dbm_317.2.1 dbm_317.2.2.1 dbm_317.2.2.2.1 ∈ db_T := db_tin 8 tables_1_9 rfl (List.mem_of_getElem? (i := 25) rfl) rfl
theorem db_dck_318 : db_dck prog_14_method_117_code dbt_318 = true := by decide +kernel
theorem db_mck_318 : db_mck dbm_318 = true := by decide +kernel
theorem db_cod_318 : Cond.code dbm_318.1 dbm_318.2.1 dbm_318.2.2.1 dbm_318.2.2.2.1 ∈ db_T := db_tin 8 tables_1_9 rfl (List.mem_of_getElem? (i := 29) rfl) rfl
theorem db_dck_319 : db_dck prog_14_method_115_code dbt_319 = true := by decide +kernel
theorem db_mck_319 : db_mck dbm_319 = true := by decide +kernel
theorem db_cod_319 : Cond.code dbm_319.1 dbm_319.2.1 dbm_319.2.2.1 dbm_319.2.2.2.1 ∈ db_T := db_tin 8 tables_1_9 rfl (List.mem_of_getElem? (i := 33) rfl) rfl
theorem db_dck_320 : db_dck prog_14_method_113_code dbt_320 = true := by decide +kernel
theorem db_mck_320 : db_mck dbm_320 = true := by decide +kernel
theorem db_cod_320 : Cond.code dbm_320.1 dbm_320.2.1 dbm_320.2.2.1 dbm_320.2.2.2.1 ∈ db_T := db_tin 8 tables_1_9 rfl (List.mem_of_getElem? (i := 37) rfl) rfl
theorem db_dck_321 : db_dck prog_14_method_114_code dbt_321 = true := by decide +kernel
theorem db_mck_321 : db_mck dbm_321 = true := by decide +kernel
theorem db_cod_321 : Cond.code dbm_321.1 dbm_321.2.1 dbm_321.2.2.1 dbm_321.2.2.2.1 ∈ db_T := db_tin 8 tables_1_9 rfl (List.mem_of_getElem? (i := 41) rfl) rfl
theorem db_dck_322 : db_dck prog_14_method_116_code dbt_322 = true := by decide +kernel
theorem db_mck_322 : db_mck dbm_322 = true := by decide +kernel
theorem db_cod_322 : Cond.code dbm_322.1 dbm_322.2.1 dbm_322.2.2.1 dbm_322.2.2.2.1 ∈ db_T := db_tin 8 tables_1_9 rfl (List.mem_of_getElem? (i := 45) rfl) rfl
theorem db_dck_323 : db_dck prog_14_method_122_code dbt_323 = true := by decide +kernel
theorem db_mck_323 : db_mck dbm_323 = true := by decide +kernel
theorem db_cod_323 : Cond.code dbm_323.1 dbm_323.2.1 dbm_323.2.2.1 dbm_323.2.2.2.1 ∈ db_T := db_tin 8 tables_1_9 rfl (List.mem_of_getElem? (i := 49) rfl) rfl
theorem db_dck_324 : db_dck prog_14_method_17_code dbt_324 = true := by decide +kernel
theorem db_mck_324 : db_mck dbm_324 = true := by decide +kernel
theorem db_cod_324 : Cond.code dbm_324.1 dbm_324.2.1 dbm_324.2.2.1 dbm_324.2.2.2.1 ∈ db_T := db_tin 8 tables_1_9 rfl (List.mem_of_getElem? (i := 54) rfl) rfl
theorem db_dck_325 : db_dck prog_14_method_81_code dbt_325 = true := by decide +kernel
theorem db_mck_325 : db_mck dbm_325 = true := by decide +kernel
theorem db_cod_325 : Cond.code dbm_325.1 dbm_325.2.1 dbm_325.2.2.1 dbm_325.2.2.2.1 ∈ db_T := db_tin 8 tables_1_9 rfl (List.mem_of_getElem? (i := 58) rfl) rfl
theorem db_dck_326 : db_dck prog_14_method_123_code dbt_326 = true := by decide +kernel
theorem db_mck_326 : db_mck dbm_326 = true := by decide +kernel
theorem db_cod_326 : Cond.code dbm_326.1 dbm_326.2.1 dbm_326.2.2.1 dbm_326.2.2.2.1 ∈ db_T := db_tin 8 tables_1_9 rfl (List.mem_of_getElem? (i := 62) rfl) rfl
theorem db_dck_327 : db_dck prog_14_method_124_code dbt_327 = true := by decide +kernel
theorem db_mck_327 : db_mck dbm_327 = true := by decide +kernel
theorem db_cod_327 : Cond.code dbm_327.1 dbm_327.2.1 dbm_327.2.2.1 dbm_327.2.2.2.1 ∈ db_T := db_tin 8 tables_1_9 rfl (List.mem_of_getElem? (i := 66) rfl) rfl
theorem db_dck_328 : db_dck prog_14_method_126_code dbt_328 = true := by decide +kernel
theorem db_mck_328 : db_mck dbm_328 = true := by decide +kernel
theorem db_cod_328 : Cond.code dbm_328.1 dbm_328.2.1 dbm_328.2.2.1 dbm_328.2.2.2.1 ∈ db_T := db_tin 8 tables_1_9 rfl (List.mem_of_getElem? (i := 70) rfl) rfl
theorem db_dck_329 : db_dck prog_14_method_125_code dbt_329 = true := by decide +kernel
theorem db_mck_329 : db_mck dbm_329 = true := by decide +kernel
theorem db_cod_329 : Cond.code dbm_329.1 dbm_329.2.1 dbm_329.2.2.1 dbm_329.2.2.2.1 ∈ db_T := db_tin 8 tables_1_9 rfl (List.mem_of_getElem? (i := 74) rfl) rfl
theorem db_dck_330 : db_dck prog_14_method_127_code dbt_330 = true := by decide +kernel
theorem db_mck_330 : db_mck dbm_330 = true := by decide +kernel
theorem db_cod_330 : Cond.code dbm_330.1 dbm_330.2.1 dbm_330.2.2.1 dbm_330.2.2.2.1 ∈ db_T := db_tin 8 tables_1_9 rfl (List.mem_of_getElem? (i := 78) rfl) rfl
theorem db_dck_331 : db_dck prog_14_method_128_code dbt_331 = true := by decide +kernel
theorem db_mck_331 : db_mck dbm_331 = true := by decide +kernel
theorem db_cod_331 : Cond.code dbm_331.1 dbm_331.2.1 dbm_331.2.2.1 dbm_331.2.2.2.1 ∈ db_T := db_tin 8 tables_1_9 rfl (List.mem_of_getElem? (i := 82) rfl) rfl
theorem db_dck_332 : db_dck prog_14_method_131_code dbt_332 = true := by decide +kernel
theorem db_mck_332 : db_mck dbm_332 = true := by decide +kernel
theorem db_cod_332 : Cond.code dbm_332.1 dbm_332.2.1 dbm_332.2.2.1 dbm_332.2.2.2.1 ∈ db_T := db_tin 8 tables_1_9 rfl (List.mem_of_getElem? (i := 86) rfl) rfl
theorem db_dck_333 : db_dck prog_14_method_129_code dbt_333 = true := by decide +kernel
theorem db_mck_333 : db_mck dbm_333 = true := by decide +kernel
theorem db_cod_333 : Cond.code dbm_333.1 dbm_333.2.1 dbm_333.2.2.1 dbm_333.2.2.2.1 ∈ db_T := db_tin 8 tables_1_9 rfl (List.mem_of_getElem? (i := 90) rfl) rfl
theorem db_dck_334 : db_dck prog_14_method_130_code dbt_334 = true := by decide +kernel
theorem db_mck_334 : db_mck dbm_334 = true := by decide +kernel
theorem db_cod_334 : Cond.code dbm_334.1 dbm_334.2.1 dbm_334.2.2.1 dbm_334.2.2.2.1 ∈ db_T := db_tin 8 tables_1_9 rfl (List.mem_of_getElem? (i := 96) rfl) rfl
theorem db_dck_335 : db_dck prog_14_method_135_code dbt_335 = true := by decide +kernel
theorem db_mck_335 : db_mck dbm_335 = true := by decide +kernel
theorem db_cod_335 : Cond.code dbm_335.1 dbm_335.2.1 dbm_335.2.2.1 dbm_335.2.2.2.1 ∈ db_T := db_tin 8 tables_1_9 rfl (List.mem_of_getElem? (i := 100) rfl) rfl
theorem db_dck_336 : db_dck prog_14_method_134_code dbt_336 = true := by decide +kernel
theorem db_mck_336 : db_mck dbm_336 = true := by decide +kernel
theorem db_cod_336 : Cond.code dbm_336.1 dbm_336.2.1 dbm_336.2.2.1 dbm_336.2.2.2.1 ∈ db_T := db_tin 8 tables_1_9 rfl (List.mem_of_getElem? (i := 104) rfl) rfl
theorem db_dck_337 : db_dck prog_14_method_132_code dbt_337 = true := by decide +kernel
theorem db_mck_337 : db_mck dbm_337 = true := by decide +kernel
theorem db_cod_337 : Cond.code dbm_337.1 dbm_337.2.1 dbm_337.2.2.1 dbm_337.2.2.2.1 ∈ db_T := db_tin 8 tables_1_9 rfl (List.mem_of_getElem? (i := 108) rfl) rfl
theorem db_dck_338 : db_dck prog_14_method_133_code dbt_338 = true := by decide +kernel
theorem db_mck_338 : db_mck dbm_338 = true := by decide +kernel
theorem db_cod_338 : Cond.code dbm_338.1 dbm_338.2.1 dbm_338.2.2.1 dbm_338.2.2.2.1 ∈ db_T := db_tin 8 tables_1_9 rfl (List.mem_of_getElem? (i := 112) rfl) rfl
theorem db_dck_339 : db_dck prog_14_method_136_code dbt_339 = true := by decide +kernel
theorem db_mck_339 : db_mck dbm_339 = true := by decide +kernel
theorem db_cod_339 : Cond.code dbm_339.1 dbm_339.2.1 dbm_339.2.2.1 dbm_339.2.2.2.1 ∈ db_T := db_tin 8 tables_1_9 rfl (List.mem_of_getElem? (i := 116) rfl) rfl
theorem db_dck_340 : db_dck prog_14_method_138_code dbt_340 = true := by decide +kernel
theorem db_mck_340 : db_mck dbm_340 = true := by decide +kernel
theorem db_cod_340 : Cond.code dbm_340.1 dbm_340.2.1 dbm_340.2.2.1 dbm_340.2.2.2.1 ∈ db_T := db_tin 8 tables_1_9 rfl (List.mem_of_getElem? (i := 120) rfl) rfl
theorem db_dck_341 : db_dck prog_14_method_137_code dbt_341 = true := by decide +kernel
theorem db_mck_341 : db_mck dbm_341 = true := by decide +kernel
theorem db_cod_341 : Cond.code dbm_341.1 dbm_341.2.1 dbm_341.2.2.1 dbm_341.2.2.2.1 ∈ db_T := db_tin 8 tables_1_9 rfl (List.mem_of_getElem? (i := 124) rfl) rfl
theorem db_dck_342 : db_dck prog_14_method_139_code dbt_342 = true := by decide +kernel
theorem db_mck_342 : db_mck dbm_342 = true := by decide +kernel
theorem db_cod_342 : Cond.code dbm_342.1 dbm_342.2.1 dbm_342.2.2.1 dbm_342.2.2.2.1 ∈ db_T := db_tin 8 tables_1_9 rfl (List.mem_of_getElem? (i := 128) rfl) rfl
theorem db_dck_343 : db_dck prog_14_method_141_code dbt_343 = true := by decide +kernel
theorem db_mck_343 : db_mck dbm_343 = true := by decide +kernel
theorem db_cod_343 : Cond.code dbm_343.1 dbm_343.2.1 dbm_343.2.2.1 dbm_343.2.2.2.1 ∈ db_T := db_tin 8 tables_1_9 rfl (List.mem_of_getElem? (i := 132) rfl) rfl
theorem db_dck_344 : db_dck prog_14_method_140_code dbt_344 = true := by decide +kernel
theorem db_mck_344 : db_mck dbm_344 = true := by decide +kernel
theorem db_cod_344 : Cond.code dbm_344.1 dbm_344.2.1 dbm_344.2.2.1 dbm_344.2.2.2.1 ∈ db_T := db_tin 8 tables_1_9 rfl (List.mem_of_getElem? (i := 136) rfl) rfl
theorem db_dck_345 : db_dck prog_14_method_20_code dbt_345 = true := by decide +kernel
theorem db_mck_345 : db_mck dbm_345 = true := by decide +kernel
theorem db_cod_345 : Cond.code dbm_345.1 dbm_345.2.1 dbm_345.2.2.1 dbm_345.2.2.2.1 ∈ db_T := db_tin 8 tables_1_9 rfl (List.mem_of_getElem? (i := 139) rfl) rfl
theorem db_dck_346 : db_dck prog_14_method_142_code dbt_346 = true := by decide +kernel
theorem db_mck_346 : db_mck dbm_346 = true := by decide +kernel
theorem db_cod_346 : Cond.code dbm_346.1 dbm_346.2.1 dbm_346.2.2.1 dbm_346.2.2.2.1 ∈ db_T := db_tin 8 tables_1_9 rfl (List.mem_of_getElem? (i := 143) rfl) rfl
theorem db_dck_347 : db_dck prog_14_method_146_code dbt_347 = true := by decide +kernel
theorem db_mck_347 : db_mck dbm_347 = true := by decide +kernel
theorem db_cod_347 : Cond.code dbm_347.1 dbm_347.2.1 dbm_347.2.2.1 dbm_347.2.2.2.1 ∈ db_T := db_tin 8 tables_1_9 rfl (List.mem_of_getElem? (i := 147) rfl) rfl
theorem db_dck_348 : db_dck prog_14_method_144_code dbt_348 = true := by decide +kernel
theorem db_mck_348 : db_mck dbm_348 = true := by decide +kernel
theorem db_cod_348 : Cond.code dbm_348.1 dbm_348.2.1 dbm_348.2.2.1 dbm_348.2.2.2.1 ∈ db_T := db_tin 8 tables_1_9 rfl (List.mem_of_getElem? (i := 153) rfl) rfl
theorem db_dck_349 : db_dck prog_14_method_145_code dbt_349 = true := by decide +kernel
theorem db_mck_349 : db_mck dbm_349 = true := by decide +kernel
theorem db_cod_349 : Cond.code dbm_349.1 dbm_349.2.1 dbm_349.2.2.1 dbm_349.2.2.2.1 ∈ db_T := db_tin 8 tables_1_9 rfl (List.mem_of_getElem? (i := 157) rfl) rfl
theorem db_dck_350 : db_dck prog_14_method_143_code dbt_350 = true := by decide +kernel
theorem db_mck_350 : db_mck dbm_350 = true := by decide +kernel
theorem db_cod_350 : Cond.code dbm_350.1 dbm_350.2.1 dbm_350.2.2.1 dbm_350.2.2.2.1 ∈ db_T := db_tin 8 tables_1_9 rfl (List.mem_of_getElem? (i := 161) rfl) rfl
theorem db_dck_351 : db_dck prog_14_method_147_code dbt_351 = true := by decide +kernel
theorem db_mck_351 : db_mck dbm_351 = true := by decide +kernel
theorem db_cod_351 : Cond.code dbm_351.1 dbm_351.2.1 dbm_351.2.2.1 dbm_351.2.2.2.1 ∈ db_T := db_tin 8 tables_1_9 rfl (List.mem_of_getElem? (i := 165) rfl) rfl
theorem db_dck_352 : db_dck prog_14_method_149_code dbt_352 = true := by decide +kernel
theorem db_mck_352 : db_mck dbm_352 = true := by decide +kernel
theorem db_cod_352 : Cond.code dbm_352.1 dbm_352.2.1 dbm_352.2.2.1 dbm_352.2.2.2.1 ∈ db_T := db_tin 8 tables_1_9 rfl (List.mem_of_getElem? (i := 170) rfl) rfl
theorem db_dck_353 : db_dck prog_14_method_148_code dbt_353 = true := by decide +kernel
theorem db_mck_353 : db_mck dbm_353 = true := by decide +kernel
theorem db_cod_353 : Cond.code dbm_353.1 dbm_353.2.1 dbm_353.2.2.1 dbm_353.2.2.2.1 ∈ db_T := db_tin 8 tables_1_9 rfl (List.mem_of_getElem? (i := 174) rfl) rfl
theorem db_dck_354 : db_dck prog_14_method_152_code dbt_354 = true := by decide +kernel
theorem db_mck_354 : db_mck dbm_354 = true := by decide +kernel
theorem db_cod_354 : Cond.code dbm_354.1 dbm_354.2.1 dbm_354.2.2.1 dbm_354.2.2.2.1 ∈ db_T := db_tin 8 tables_1_9 rfl (List.mem_of_getElem? (i := 178) rfl) rfl
theorem db_dck_355 : db_dck prog_14_method_150_code dbt_355 = true := by decide +kernel
theorem db_mck_355 : db_mck dbm_355 = true := by decide +kernel
theorem db_cod_355 : Cond.code dbm_355.1 dbm_355.2.1 dbm_355.2.2.1 dbm_355.2.2.2.1 ∈ db_T := db_tin 8 tables_1_9 rfl (List.mem_of_getElem? (i := 182) rfl) rfl
theorem db_dck_356 : db_dck prog_14_method_151_code dbt_356 = true := by decide +kernel
theorem db_mck_356 : db_mck dbm_356 = true := by decide +kernel
theorem db_cod_356 : Cond.code dbm_356.1 dbm_356.2.1 dbm_356.2.2.1 dbm_356.2.2.2.1 ∈ db_T := db_tin 8 tables_1_9 rfl (List.mem_of_getElem? (i := 186) rfl) rfl
theorem db_dck_357 : db_dck prog_14_method_153_code dbt_357 = true := by decide +kernel
theorem db_mck_357 : db_mck dbm_357 = true := by decide +kernel
theorem db_cod_357 : Cond.code dbm_357.1 dbm_357.2.1 dbm_357.2.2.1 dbm_357.2.2.2.1 ∈ db_T := db_tin 8 tables_1_9 rfl (List.mem_of_getElem? (i := 190) rfl) rfl
theorem db_dck_358 : db_dck prog_14_method_154_code dbt_358 = true := by decide +kernel
theorem db_mck_358 : db_mck dbm_358 = true := by decide +kernel
theorem db_cod_358 : Cond.code dbm_358.1 dbm_358.2.1 dbm_358.2.2.1 dbm_358.2.2.2.1 ∈ db_T := db_tin 8 tables_1_9 rfl (List.mem_of_getElem? (i := 194) rfl) rfl
theorem db_dck_359 : db_dck prog_14_method_155_code dbt_359 = true := by decide +kernel
theorem db_mck_359 : db_mck dbm_359 = true := by decide +kernel
theorem db_cod_359 : Cond.code dbm_359.1 dbm_359.2.1 dbm_359.2.2.1 dbm_359.2.2.2.1 ∈ db_T := db_tin 8 tables_1_9 rfl (List.mem_of_getElem? (i := 198) rfl) rfl
theorem db_dck_360 : db_dck prog_14_method_157_code dbt_360 = true := by decide +kernel
theorem db_mck_360 : db_mck dbm_360 = true := by decide +kernel
theorem db_cod_360 : Cond.code dbm_360.1 dbm_360.2.1 dbm_360.2.2.1 dbm_360.2.2.2.1 ∈ db_T := db_tin 8 tables_1_9 rfl (List.mem_of_getElem? (i := 202) rfl) rfl
theorem db_dck_361 : db_dck prog_14_method_156_code dbt_361 = true := by decide +kernel
theorem db_mck_361 : db_mck dbm_361 = true := by decide +kernel
theorem db_cod_361 : Cond.code dbm_361.1 dbm_361.2.1 dbm_361.2.2.1 dbm_361.2.2.2.1 ∈ db_T := db_tin 8 tables_1_9 rfl (List.mem_of_getElem? (i := 206) rfl) rfl
theorem db_dck_362 : db_dck prog_14_method_158_code dbt_362 = true := by decide +kernel
theorem db_mck_362 : db_mck dbm_362 = true := by decide +kernel
theorem db_cod_362 : Cond.code dbm_362.1 dbm_362.2.1 dbm_362.2.2.1 dbm_362.2.2.2.1 ∈ db_T := db_tin 8 tables_1_9 rfl (List.mem_of_getElem? (i := 210) rfl) rfl
theorem db_dck_363 : db_dck prog_14_method_159_code dbt_363 = true := by decide +kernel
theorem db_mck_363 : db_mck dbm_363 = true := by decide +kernel
theorem db_cod_363 : Cond.code dbm_363.1 dbm_363.2.1 dbm_363.2.2.1 dbm_363.2.2.2.1 ∈ db_T := db_tin 8 tables_1_9 rfl (List.mem_of_getElem? (i := 214) rfl) rfl
theorem db_dck_364 : db_dck prog_14_method_9_code dbt_364 = true := by decide +kernel
theorem db_mck_364 : db_mck dbm_364 = true := by decide +kernel
theorem db_cod_364 : Cond.code dbm_364.1 dbm_364.2.1 dbm_364.2.2.1 dbm_364.2.2.2.1 ∈ db_T := db_tin 8 tables_1_9 rfl (List.mem_of_getElem? (i := 219) rfl) rfl
theorem db_dck_365 : db_dck prog_14_method_160_code dbt_365 = true := by decide +kernel
theorem db_mck_365 : db_mck dbm_365 = true := by decide +kernel
theorem db_cod_365 : Cond.code dbm_365.1 dbm_365.2.1 dbm_365.2.2.1 dbm_365.2.2.2.1 ∈ db_T := db_tin 8 tables_1_9 rfl (List.mem_of_getElem? (i := 224) rfl) rfl
theorem db_dck_366 : db_dck prog_14_method_168_code dbt_366 = true := by decide +kernel
theorem db_mck_366 : db_mck dbm_366 = true := by decide +kernel
theorem db_cod_366 : Cond.code dbm_366.1 dbm_366.2.1 dbm_366.2.2.1 dbm_366.2.2.2.1 ∈ db_T := db_tin 8 tables_1_9 rfl (List.mem_of_getElem? (i := 228) rfl) rfl
theorem db_dck_367 : db_dck prog_14_method_167_code dbt_367 = true := by decide +kernel
theorem db_mck_367 : db_mck dbm_367 = true := by decide +kernel
theorem db_cod_367 : Cond.code dbm_367.1 dbm_367.2.1 dbm_367.2.2.1 dbm_367.2.2.2.1 ∈ db_T := db_tin 8 tables_1_9 rfl (List.mem_of_getElem? (i := 232) rfl) rfl
theorem db_dck_368 : db_dck prog_14_method_166_code dbt_368 = true := by decide +kernel
theorem db_mck_368 : db_mck dbm_368 = true := by decide +kernel
theorem db_cod_368 : Cond.code dbm_368.1 dbm_368.2.1 dbm_368.2.2.1 dbm_368.2.2.2.1 ∈ db_T := db_tin 8 tables_1_9 rfl (List.mem_of_getElem? (i := 236) rfl) rfl
theorem db_dck_369 : db_dck prog_14_method_165_code dbt_369 = true := by decide +kernel
theorem db_mck_369 : db_mck dbm_369 = true := by decide +kernel
theorem db_cod_369 : Cond.code dbm_369.1 dbm_369.2.1 dbm_369.2.2.1 dbm_369.2.2.2.1 ∈ db_T := db_tin 9 tables_1_10 rfl (List.mem_of_getElem? (i := 0) rfl) rfl
theorem db_dck_370 : db_dck prog_14_method_163_code dbt_370 = true := by decide +kernel
theorem db_mck_370 : db_mck dbm_370 = true := by decide +kernel
theorem db_cod_370 : Cond.code dbm_370.1 dbm_370.2.1 dbm_370.2.2.1 dbm_370.2.2.2.1 ∈ db_T := db_tin 9 tables_1_10 rfl (List.mem_of_getElem? (i := 4) rfl) rfl
theorem db_dck_371 : db_dck prog_14_method_162_code dbt_371 = true := by decide +kernel
theorem db_mck_371 : db_mck dbm_371 = true := by decide +kernel
theorem db_cod_371 : Cond.code dbm_371.1 dbm_371.2.1 dbm_371.2.2.1 dbm_371.2.2.2.1 ∈ db_T := db_tin 9 tables_1_10 rfl (List.mem_of_getElem? (i := 8) rfl) rfl
theorem db_dck_372 : db_dck prog_14_method_161_code dbt_372 = true := by decide +kernel
theorem db_mck_372 : db_mck dbm_372 = true := by decide +kernel
theorem db_cod_372 : Cond.code dbm_372.1 dbm_372.2.1 dbm_372.2.2.1 dbm_372.2.2.2.1 ∈ db_T := db_tin 9 tables_1_10 rfl (List.mem_of_getElem? (i := 12) rfl) rfl
theorem db_dck_373 : db_dck prog_14_method_164_code dbt_373 = true := by decide +kernel
theorem db_mck_373 : db_mck dbm_373 = true := by decide +kernel
theorem db_cod_373 : Cond.code dbm_373.1 dbm_373.2.1 dbm_373.2.2.1 dbm_373.2.2.2.1 ∈ db_T := db_tin 9 tables_1_10 rfl (List.mem_of_getElem? (i := 17) rfl) rfl
theorem db_dck_374 : db_dck prog_14_method_169_code dbt_374 = true := by decide +kernel
theorem db_mck_374 : db_mck dbm_374 = true := by decide +kernel
theorem db_cod_374 : Cond.code dbm_374.1 dbm_374.2.1 dbm_374.2.2.1 dbm_374.2.2.2.1 ∈ db_T := db_tin 9 tables_1_10 rfl (List.mem_of_getElem? (i := 21) rfl) rfl
theorem db_dck_375 : db_dck prog_14_method_170_code dbt_375 = true := by decide +kernel
theorem db_mck_375 : db_mck dbm_375 = true := by decide +kernel
theorem db_cod_375 : Cond.code dbm_375.1 dbm_375.2.1 dbm_375.2.2.1 dbm_375.2.2.2.1 ∈ db_T := db_tin 9 tables_1_10 rfl (List.mem_of_getElem? (i := 25) rfl) rfl
theorem db_dck_376 : db_dck prog_14_method_172_code dbt_376 = true := by decide +kernel
theorem db_mck_376 : db_mck dbm_376 = true := by decide +kernel
theorem db_cod_376 : Cond.code dbm_376.1 dbm_376.2.1 dbm_376.2.2.1 dbm_376.2.2.2.1 ∈ db_T := db_tin 9 tables_1_10 rfl (List.mem_of_getElem? (i := 30) rfl) rfl
theorem db_dck_377 : db_dck prog_14_method_173_code dbt_377 = true := by decide +kernel
theorem db_mck_377 : db_mck dbm_377 = true := by decide +kernel
theorem db_cod_377 : Cond.code dbm_377.1 dbm_377.2.1 dbm_377.2.2.1 dbm_377.2.2.2.1 ∈ db_T := db_tin 9 tables_1_10 rfl (List.mem_of_getElem? (i := 34) rfl) rfl
theorem db_dck_378_0 : db_dck code dbt_378_0 = true := by decide +kernel
theorem db_dck_378_1 : db_dck code dbt_378_1 = true := by decide +kernel
theorem db_dck_378_2 : db_dck code dbt_378_2 = true := by decide +kernel
theorem db_dck_378_3 : db_dck code dbt_378_3 = true := by decide +kernel
theorem db_dck_378_4 : db_dck code dbt_378_4 = true := by decide +kernel
theorem db_dck_378_5 : db_dck code dbt_378_5 = true := by decide +kernel
theorem db_dck_378_6 : db_dck code dbt_378_6 = true := by decide +kernel
theorem db_dck_378_7 : db_dck code dbt_378_7 = true := by decide +kernel
theorem db_dck_378 : db_dck code dbt_378 = true := by
  unfold db_dck dbt_378
  simp only [List.all_append, Bool.and_eq_true]
  exact ⟨db_dck_378_0, db_dck_378_1, db_dck_378_2, db_dck_378_3, db_dck_378_4, db_dck_378_5, db_dck_378_6, db_dck_378_7⟩
theorem db_mck_378 : db_mck dbm_378 = true := by decide +kernel
