theorem db_tin {w : Cond} (k : Nat) (L : List Cond) (hk : ([tables_1_1, tables_1_2, tables_1_3, tables_1_4, tables_1_5, tables_1_6, tables_1_7, tables_1_8, tables_1_9, tables_1_10] : List (List Cond))[k]? = some L) (h : w ∈ L) (hg : (goodWord w || db_isN w) = true) : w ∈ db_T := by
  refine List.mem_filter.mpr ⟨List.mem_append_right _ ?_, hg⟩
  have h2 : w ∈ ([tables_1_1, tables_1_2, tables_1_3, tables_1_4, tables_1_5, tables_1_6, tables_1_7, tables_1_8, tables_1_9, tables_1_10] : List (List Cond)).flatten := List.mem_flatten.mpr ⟨L, List.mem_of_getElem? hk, h⟩
  have e : ([tables_1_1, tables_1_2, tables_1_3, tables_1_4, tables_1_5, tables_1_6, tables_1_7, tables_1_8, tables_1_9, tables_1_10] : List (List Cond)).flatten = tables_1 := by
    unfold tables_1
    simp only [List.flatten_cons, List.flatten_nil, List.append_nil]
  rwa [e] at h2
theorem db_dck_0 : db_dck prog_1_method_1_code dbt_0 = true := by decide +kernel
theorem db_mck_0 : db_mck dbm_0 = true := by decide +kernel
theorem db_cod_0 : Cond.code dbm_0.1 dbm_0.2.1 dbm_0.2.2.1 dbm_0.2.2.2.1 ∈ db_T := db_tin 0 tables_1_1 rfl (List.mem_of_getElem? (i := 26) rfl) rfl
theorem db_dck_1 : db_dck prog_12_method_1_code dbt_1 = true := by decide +kernel
theorem db_mck_1 : db_mck dbm_1 = true := by decide +kernel
theorem db_cod_1 : Cond.code dbm_1.1 dbm_1.2.1 dbm_1.2.2.1 dbm_1.2.2.2.1 ∈ db_T := db_tin 0 tables_1_1 rfl (List.mem_of_getElem? (i := 34) rfl) rfl
theorem db_dck_2 : db_dck prog_21_method_103_code dbt_2 = true := by decide +kernel
theorem db_mck_2 : db_mck dbm_2 = true := by decide +kernel
theorem db_cod_2 : Cond.code dbm_2.1 dbm_2.2.1 dbm_2.2.2.1 dbm_2.2.2.2.1 ∈ db_T := db_tin 0 tables_1_1 rfl (List.mem_of_getElem? (i := 40) rfl) rfl
theorem db_dck_3 : db_dck prog_10_method_1_code dbt_3 = true := by decide +kernel
theorem db_mck_3 : db_mck dbm_3 = true := by decide +kernel
theorem db_cod_3 : Cond.code dbm_3.1 dbm_3.2.1 dbm_3.2.2.1 dbm_3.2.2.2.1 ∈ db_T := db_tin 0 tables_1_1 rfl (List.mem_of_getElem? (i := 59) rfl) rfl
theorem db_dck_4 : db_dck prog_17_method_54_code dbt_4 = true := by decide +kernel
theorem db_mck_4 : db_mck dbm_4 = true := by decide +kernel
theorem db_cod_4 : Cond.code dbm_4.1 dbm_4.2.1 dbm_4.2.2.1 dbm_4.2.2.2.1 ∈ db_T := db_tin 0 tables_1_1 rfl (List.mem_of_getElem? (i := 65) rfl) rfl
theorem db_dck_5 : db_dck prog_17_method_152_code dbt_5 = true := by decide +kernel
theorem db_mck_5 : db_mck dbm_5 = true := by decide +kernel
theorem db_cod_5 : Cond.code dbm_5.1 dbm_5.2.1 dbm_5.2.2.1 dbm_5.2.2.2.1 ∈ db_T := db_tin 0 tables_1_1 rfl (List.mem_of_getElem? (i := 69) rfl) rfl
theorem db_dck_6 : db_dck prog_17_method_56_code dbt_6 = true := by decide +kernel
theorem db_mck_6 : db_mck dbm_6 = true := by decide +kernel
theorem db_cod_6 : Cond.code dbm_6.1 dbm_6.2.1 dbm_6.2.2.1 dbm_6.2.2.2.1 ∈ db_T := db_tin 0 tables_1_1 rfl (List.mem_of_getElem? (i := 75) rfl) rfl
theorem db_dck_7 : db_dck prog_17_method_154_code dbt_7 = true := by decide +kernel
theorem db_mck_7 : db_mck dbm_7 = true := by decide +kernel
theorem db_cod_7 : Cond.code dbm_7.1 dbm_7.2.1 dbm_7.2.2.1 dbm_7.2.2.2.1 ∈ db_T := db_tin 0 tables_1_1 rfl (List.mem_of_getElem? (i := 79) rfl) rfl
theorem db_dck_8 : db_dck prog_18_method_2_code dbt_8 = true := by decide +kernel
theorem db_mck_8 : db_mck dbm_8 = true := by decide +kernel
theorem db_cod_8 : Cond.code dbm_8.1 dbm_8.2.1 dbm_8.2.2.1 dbm_8.2.2.2.1 ∈ db_T := db_tin 0 tables_1_1 rfl (List.mem_of_getElem? (i := 82) rfl) rfl
theorem db_dck_9 : db_dck prog_17_method_155_code dbt_9 = true := by decide +kernel
theorem db_mck_9 : db_mck dbm_9 = true := by decide +kernel
theorem db_cod_9 : Cond.code dbm_9.1 dbm_9.2.1 dbm_9.2.2.1 dbm_9.2.2.2.1 ∈ db_T := db_tin 0 tables_1_1 rfl (List.mem_of_getElem? (i := 85) rfl) rfl
theorem db_dck_10 : db_dck prog_22_method_11_code dbt_10 = true := by decide +kernel
theorem db_mck_10 : db_mck dbm_10 = true := by decide +kernel
theorem db_cod_10 : Cond.code dbm_10.1 dbm_10.2.1 dbm_10.2.2.1 dbm_10.2.2.2.1 ∈ db_T := db_tin 0 tables_1_1 rfl (List.mem_of_getElem? (i := 90) rfl) rfl
theorem db_dck_11 : db_dck prog_10_method_25_code dbt_11 = true := by decide +kernel
theorem db_mck_11 : db_mck dbm_11 = true := by decide +kernel
theorem db_cod_11 : Cond.code dbm_11.1 dbm_11.2.1 dbm_11.2.2.1 dbm_11.2.2.2.1 ∈ db_T := db_tin 0 tables_1_1 rfl (List.mem_of_getElem? (i := 112) rfl) rfl
theorem db_dck_12 : db_dck prog_10_method_23_code dbt_12 = true := by decide +kernel
theorem db_mck_12 : db_mck dbm_12 = true := by decide +kernel
theorem db_cod_12 : Cond.code dbm_12.1 dbm_12.2.1 dbm_12.2.2.1 dbm_12.2.2.2.1 ∈ db_T := db_tin 0 tables_1_1 rfl (List.mem_of_getElem? (i := 115) rfl) rfl
theorem db_dck_13 : db_dck prog_11_method_1_code dbt_13 = true := by decide +kernel
theorem db_mck_13 : db_mck dbm_13 = true := by decide +kernel
theorem db_cod_13 : Cond.code dbm_13.1 dbm_13.2.1 dbm_13.2.2.1 dbm_13.2.2.2.1 ∈ db_T := db_tin 0 tables_1_1 rfl (List.mem_of_getElem? (i := 160) rfl) rfl
theorem db_dck_14 : db_dck prog_4_method_1_code dbt_14 = true := by decide +kernel
theorem db_mck_14 : db_mck dbm_14 = true := by decide +kernel
theorem db_cod_14 : Cond.code dbm_14.1 dbm_14.2.1 dbm_14.2.2.1 dbm_14.2.2.2.1 ∈ db_T := db_tin 1 tables_1_2 rfl (List.mem_of_getElem? (i := 29) rfl) rfl
theorem db_dck_15 : db_dck prog_6_method_1_code dbt_15 = true := by decide +kernel
theorem db_mck_15 : db_mck dbm_15 = true := by decide +kernel
theorem db_cod_15 : Cond.code dbm_15.1 dbm_15.2.1 dbm_15.2.2.1 dbm_15.2.2.2.1 ∈ db_T := db_tin 1 tables_1_2 rfl (List.mem_of_getElem? (i := 57) rfl) rfl
theorem db_dck_16 : db_dck prog_2_method_1_code dbt_16 = true := by decide +kernel
theorem db_mck_16 : db_mck dbm_16 = true := by decide +kernel
theorem db_cod_16 : Cond.code dbm_16.1 dbm_16.2.1 dbm_16.2.2.1 dbm_16.2.2.2.1 ∈ db_T := db_tin 1 tables_1_2 rfl (List.mem_of_getElem? (i := 85) rfl) rfl
theorem db_dck_17 : db_dck prog_7_method_1_code dbt_17 = true := by decide +kernel
theorem db_mck_17 : db_mck dbm_17 = true := by decide +kernel
theorem db_cod_17 : Cond.code dbm_17.1 dbm_17.2.1 dbm_17.2.2.1 dbm_17.2.2.2.1 ∈ db_T := db_tin 1 tables_1_2 rfl (List.mem_of_getElem? (i := 104) rfl) rfl
theorem db_dck_18 : db_dck prog_8_method_1_code dbt_18 = true := by decide +kernel
theorem db_mck_18 : db_mck dbm_18 = true := by decide +kernel
theorem db_cod_18 : Cond.code dbm_18.1 dbm_18.2.1 dbm_18.2.2.1 dbm_18.2.2.2.1 ∈ db_T := db_tin 1 tables_1_2 rfl (List.mem_of_getElem? (i := 129) rfl) rfl
theorem db_dck_19 : db_dck prog_3_method_1_code dbt_19 = true := by decide +kernel
theorem db_mck_19 : db_mck dbm_19 = true := by decide +kernel
theorem db_cod_19 : Cond.code dbm_19.1 dbm_19.2.1 dbm_19.2.2.1 dbm_19.2.2.2.1 ∈ db_T := db_tin 1 tables_1_2 rfl (List.mem_of_getElem? (i := 150) rfl) rfl
theorem db_dck_20 : db_dck prog_5_method_1_code dbt_20 = true := by decide +kernel
theorem db_mck_20 : db_mck dbm_20 = true := by decide +kernel
theorem db_cod_20 : Cond.code dbm_20.1 dbm_20.2.1 dbm_20.2.2.1 dbm_20.2.2.2.1 ∈ db_T := db_tin 1 tables_1_2 rfl (List.mem_of_getElem? (i := 195) rfl) rfl
theorem db_dck_21 : db_dck prog_9_method_1_code dbt_21 = true := by decide +kernel
theorem db_mck_21 : db_mck dbm_21 = true := by decide +kernel
theorem db_cod_21 : Cond.code dbm_21.1 dbm_21.2.1 dbm_21.2.2.1 dbm_21.2.2.2.1 ∈ db_T := db_tin 1 tables_1_2 rfl (List.mem_of_getElem? (i := 219) rfl) rfl
theorem db_dck_22 : db_dck prog_1_method_2_code dbt_22 = true := by decide +kernel
theorem db_mck_22 : db_mck dbm_22 = true := by decide +kernel
theorem db_cod_22 : Cond.code dbm_22.1 dbm_22.2.1 dbm_22.2.2.1 dbm_22.2.2.2.1 ∈ db_T := db_tin 2 tables_1_3 rfl (List.mem_of_getElem? (i := 71) rfl) rfl
theorem db_dck_23 : db_dck prog_1_method_3_code dbt_23 = true := by decide +kernel
theorem db_mck_23 : db_mck dbm_23 = true := by decide +kernel
theorem db_cod_23 : Cond.code dbm_23.1 dbm_23.2.1 dbm_23.2.2.1 dbm_23.2.2.2.1 ∈ db_T := db_tin 2 tables_1_3 rfl (List.mem_of_getElem? (i := 75) rfl) rfl
theorem db_dck_24 : db_dck prog_1_method_4_code dbt_24 = true := by decide +kernel
theorem db_mck_24 : db_mck dbm_24 = true := by decide +kernel
theorem db_cod_24 : Cond.code dbm_24.1 dbm_24.2.1 dbm_24.2.2.1 dbm_24.2.2.2.1 ∈ db_T := db_tin 2 tables_1_3 rfl (List.mem_of_getElem? (i := 79) rfl) rfl
theorem db_dck_25 : db_dck prog_1_method_5_code dbt_25 = true := by decide +kernel
theorem db_mck_25 : db_mck dbm_25 = true := by decide +kernel
theorem db_cod_25 : Cond.code dbm_25.1 dbm_25.2.1 dbm_25.2.2.1 dbm_25.2.2.2.1 ∈ db_T := db_tin 2 tables_1_3 rfl (List.mem_of_getElem? (i := 83) rfl) rfl
theorem db_dck_26 : db_dck prog_12_method_2_code dbt_26 = true := by decide +kernel
theorem db_mck_26 : db_mck dbm_26 = true := by decide +kernel
theorem db_cod_26 : Cond.code dbm_26.1 dbm_26.2.1 dbm_26.2.2.1 dbm_26.2.2.2.1 ∈ db_T := db_tin 2 tables_1_3 rfl (List.mem_of_getElem? (i := 87) rfl) rfl
theorem db_dck_27 : db_dck prog_1_method_68_code dbt_27 = true := by decide +kernel
theorem db_mck_27 : db_mck dbm_27 = true := by decide +kernel
theorem db_cod_27 : Cond.code dbm_27.1 dbm_27.2.1 dbm_27.2.2.1 dbm_27.2.2.2.1 ∈ db_T := db_tin 2 tables_1_3 rfl (List.mem_of_getElem? (i := 90) rfl) rfl
theorem db_dck_28 : db_dck prog_1_method_61_code dbt_28 = true := by decide +kernel
theorem db_mck_28 : db_mck dbm_28 = true := by decide +kernel
theorem db_cod_28 : Cond.code dbm_28.1 dbm_28.2.1 dbm_28.2.2.1 dbm_28.2.2.2.1 ∈ db_T := db_tin 2 tables_1_3 rfl (List.mem_of_getElem? (i := 95) rfl) rfl
theorem db_dck_29 : db_dck prog_12_method_7_code dbt_29 = true := by decide +kernel
theorem db_mck_29 : db_mck dbm_29 = true := by decide +kernel
theorem db_cod_29 : Cond.code dbm_29.1 dbm_29.2.1 dbm_29.2.2.1 dbm_29.2.2.2.1 ∈ db_T := db_tin 2 tables_1_3 rfl (List.mem_of_getElem? (i := 99) rfl) rfl
theorem db_dck_30 : db_dck prog_21_method_101_code dbt_30 = true := by decide +kernel
theorem db_mck_30 : db_mck dbm_30 = true := by decide +kernel
theorem db_cod_30 : Cond.code dbm_30.1 dbm_30.2.1 dbm_30.2.2.1 dbm_30.2.2.2.1 ∈ db_T := db_tin 2 tables_1_3 rfl (List.mem_of_getElem? (i := 102) rfl) rfl
theorem db_dck_31 : db_dck prog_1_method_60_code dbt_31 = true := by decide +kernel
theorem db_mck_31 : db_mck dbm_31 = true := by decide +kernel
theorem db_cod_31 : Cond.code dbm_31.1 dbm_31.2.1 dbm_31.2.2.1 dbm_31.2.2.2.1 ∈ db_T := db_tin 2 tables_1_3 rfl (List.mem_of_getElem? (i := 106) rfl) rfl
theorem db_dck_32 : db_dck prog_1_method_6_code dbt_32 = true := by decide +kernel
theorem db_mck_32 : db_mck dbm_32 = true := by decide +kernel
theorem db_cod_32 : Cond.code dbm_32.1 dbm_32.2.1 dbm_32.2.2.1 dbm_32.2.2.2.1 ∈ db_T := db_tin 2 tables_1_3 rfl (List.mem_of_getElem? (i := 110) rfl) rfl
theorem db_dck_33 : db_dck prog_12_method_3_code dbt_33 = true := by decide +kernel
theorem db_mck_33 : db_mck dbm_33 = true := by decide +kernel
theorem db_cod_33 : Cond.code dbm_33.1 dbm_33.2.1 dbm_33.2.2.1 dbm_33.2.2.2.1 ∈ db_T := db_tin 2 tables_1_3 rfl (List.mem_of_getElem? (i := 114) rfl) rfl
theorem db_dck_34 : db_dck prog_12_method_5_code dbt_34 = true := by decide +kernel
theorem db_mck_34 : db_mck dbm_34 = true := by decide +kernel
theorem db_cod_34 : Cond.code dbm_34.1 dbm_34.2.1 dbm_34.2.2.1 dbm_34.2.2.2.1 ∈ db_T := db_tin 2 tables_1_3 rfl (List.mem_of_getElem? (i := 119) rfl) rfl
theorem db_dck_35 : db_dck prog_12_method_8_code dbt_35 = true := by decide +kernel
theorem db_mck_35 : db_mck dbm_35 = true := by decide +kernel
theorem db_cod_35 : Cond.code dbm_35.1 dbm_35.2.1 dbm_35.2.2.1 dbm_35.2.2.2.1 ∈ db_T := db_tin 2 tables_1_3 rfl (List.mem_of_getElem? (i := 123) rfl) rfl
theorem db_dck_36 : db_dck prog_1_method_7_code dbt_36 = true := by decide +kernel
theorem db_mck_36 : db_mck dbm_36 = true := by decide +kernel
theorem db_cod_36 : Cond.code dbm_36.1 dbm_36.2.1 dbm_36.2.2.1 dbm_36.2.2.2.1 ∈ db_T := db_tin 2 tables_1_3 rfl (List.mem_of_getElem? (i := 127) rfl) rfl
theorem db_dck_37 : db_dck prog_1_method_59_code dbt_37 = true := by decide +kernel
theorem db_mck_37 : db_mck dbm_37 = true := by decide +kernel
theorem db_cod_37 : Cond.code dbm_37.1 dbm_37.2.1 dbm_37.2.2.1 dbm_37.2.2.2.1 ∈ db_T := db_tin 2 tables_1_3 rfl (List.mem_of_getElem? (i := 131) rfl) rfl
theorem db_dck_38 : db_dck prog_1_method_8_code dbt_38 = true := by decide +kernel
theorem db_mck_38 : db_mck dbm_38 = true := by decide +kernel
theorem db_cod_38 : Cond.code dbm_38.1 dbm_38.2.1 dbm_38.2.2.1 dbm_38.2.2.2.1 ∈ db_T := db_tin 2 tables_1_3 rfl (List.mem_of_getElem? (i := 135) rfl) rfl
theorem db_dck_39 : db_dck prog_12_method_4_code dbt_39 = true := by decide +kernel
theorem db_mck_39 : db_mck dbm_39 = true := by decide +kernel
theorem db_cod_39 : Cond.code dbm_39.1 dbm_39.2.1 dbm_39.2.2.1 dbm_39.2.2.2.1 ∈ db_T := db_tin 2 tables_1_3 rfl (List.mem_of_getElem? (i := 139) rfl) rfl
theorem db_dck_40 : db_dck prog_12_method_6_code dbt_40 = true := by decide +kernel
theorem db_mck_40 : db_mck dbm_40 = true := by decide +kernel
theorem db_cod_40 : Cond.code dbm_40.1 dbm_40.2.1 dbm_40.2.2.1 dbm_40.2.2.2.1 ∈ db_T := db_tin 2 tables_1_3 rfl (List.mem_of_getElem? (i := 143) rfl) rfl
theorem db_dck_41 : db_dck prog_1_method_9_code dbt_41 = true := by decide +kernel
theorem db_mck_41 : db_mck dbm_41 = true := by decide +kernel
theorem db_cod_41 : Cond.code dbm_41.1 dbm_41.2.1 dbm_41.2.2.1 dbm_41.2.2.2.1 ∈ db_T := db_tin 2 tables_1_3 rfl (List.mem_of_getElem? (i := 150) rfl) rfl
theorem db_dck_42 : db_dck prog_10_method_2_code dbt_42 = true := by decide +kernel
theorem db_mck_42 : db_mck dbm_42 = true := by decide +kernel
theorem db_cod_42 : Cond.code dbm_42.1 dbm_42.2.1 dbm_42.2.2.1 dbm_42.2.2.2.1 ∈ db_T := db_tin 2 tables_1_3 rfl (List.mem_of_getElem? (i := 154) rfl) rfl
theorem db_dck_43 : db_dck prog_10_method_3_code dbt_43 = true := by decide +kernel
theorem db_mck_43 : db_mck dbm_43 = true := by decide +kernel
theorem db_cod_43 : Cond.code dbm_43.1 dbm_43.2.1 dbm_43.2.2.1 dbm_43.2.2.2.1 ∈ db_T := db_tin 2 tables_1_3 rfl (List.mem_of_getElem? (i := 158) rfl) rfl
theorem db_dck_44 : db_dck prog_1_method_10_code dbt_44 = true := by decide +kernel
theorem db_mck_44 : db_mck dbm_44 = true := by decide +kernel
theorem db_cod_44 : Cond.code dbm_44.1 dbm_44.2.1 dbm_44.2.2.1 dbm_44.2.2.2.1 ∈ db_T := db_tin 2 tables_1_3 rfl (List.mem_of_getElem? (i := 162) rfl) rfl
theorem db_dck_45 : db_dck prog_2_method_2_code dbt_45 = true := by decide +kernel
theorem db_mck_45 : db_mck dbm_45 = true := by decide +kernel
theorem db_cod_45 : Cond.code dbm_45.1 dbm_45.2.1 dbm_45.2.2.1 dbm_45.2.2.2.1 ∈ db_T := db_tin 2 tables_1_3 rfl (List.mem_of_getElem? (i := 166) rfl) rfl
theorem db_dck_46 : db_dck prog_11_method_2_code dbt_46 = true := by decide +kernel
theorem db_mck_46 : db_mck dbm_46 = true := by decide +kernel
theorem db_cod_46 : Cond.code dbm_46.1 dbm_46.2.1 dbm_46.2.2.1 dbm_46.2.2.2.1 ∈ db_T := db_tin 2 tables_1_3 rfl (List.mem_of_getElem? (i := 170) rfl) rfl
theorem db_dck_47 : db_dck prog_10_method_4_code dbt_47 = true := by decide +kernel
theorem db_mck_47 : db_mck dbm_47 = true := by decide +kernel
theorem db_cod_47 : Cond.code dbm_47.1 dbm_47.2.1 dbm_47.2.2.1 dbm_47.2.2.2.1 ∈ db_T := db_tin 2 tables_1_3 rfl (List.mem_of_getElem? (i := 175) rfl) rfl
theorem db_dck_48 : db_dck prog_10_method_24_code dbt_48 = true := by decide +kernel
theorem db_mck_48 : db_mck dbm_48 = true := by decide +kernel
theorem db_cod_48 : Cond.code dbm_48.1 dbm_48.2.1 dbm_48.2.2.1 dbm_48.2.2.2.1 ∈ db_T := db_tin 2 tables_1_3 rfl (List.mem_of_getElem? (i := 181) rfl) rfl
theorem db_dck_49 : db_dck prog_10_method_5_code dbt_49 = true := by decide +kernel
theorem db_mck_49 : db_mck dbm_49 = true := by decide +kernel
theorem db_cod_49 : Cond.code dbm_49.1 dbm_49.2.1 dbm_49.2.2.1 dbm_49.2.2.2.1 ∈ db_T := db_tin 2 tables_1_3 rfl (List.mem_of_getElem? (i := 185) rfl) rfl
theorem db_dck_50 : db_dck prog_10_method_6_code dbt_50 = true := by decide +kernel
theorem db_mck_50 : db_mck dbm_50 = true := by decide +kernel
theorem db_cod_50 : Cond.code dbm_50.1 dbm_50.2.1 dbm_50.2.2.1 dbm_50.2.2.2.1 ∈ db_T := db_tin 2 tables_1_3 rfl (List.mem_of_getElem? (i := 189) rfl) rfl
theorem db_dck_51 : db_dck prog_10_method_8_code dbt_51 = true := by decide +kernel
theorem db_mck_51 : db_mck dbm_51 = true := by decide +kernel
theorem db_cod_51 : Cond.code dbm_51.1 dbm_51.2.1 dbm_51.2.2.1 dbm_51.2.2.2.1 ∈ db_T := db_tin 2 tables_1_3 rfl (List.mem_of_getElem? (i := 194) rfl) rfl
theorem db_dck_52 : db_dck prog_10_method_26_code dbt_52 = true := by decide +kernel
theorem db_mck_52 : db_mck dbm_52 = true := by decide +kernel
theorem db_cod_52 : Cond.code dbm_52.1 dbm_52.2.1 dbm_52.2.2.1 dbm_52.2.2.2.1 ∈ db_T := db_tin 2 tables_1_3 rfl (List.mem_of_getElem? (i := 197) rfl) rfl
theorem db_dck_53 : db_dck prog_10_method_7_code dbt_53 = true := by decide +kernel
theorem db_mck_53 : db_mck dbm_53 = true := by decide +kernel
theorem db_cod_53 : Cond.code dbm_53.1 dbm_53.2.1 dbm_53.2.2.1 dbm_53.2.2.2.1 ∈ db_T := db_tin 2 tables_1_3 rfl (List.mem_of_getElem? (i := 201) rfl) rfl
theorem db_dck_54 : db_dck prog_10_method_27_code dbt_54 = true := by decide +kernel
theorem db_mck_54 : db_mck dbm_54 = true := by decide +kernel
theorem db_cod_54 : Cond.code dbm_54.1 dbm_54.2.1 dbm_54.2.2.1 dbm_54.2.2.2.1 ∈ db_T := db_tin 2 tables_1_3 rfl (List.mem_of_getElem? (i := 204) rfl) rfl
theorem db_dck_55 : db_dck prog_10_method_9_code dbt_55 = true := by decide +kernel
theorem db_mck_55 : db_mck dbm_55 = true := by decide +kernel
theorem db_cod_55 : Cond.code dbm_55.1 dbm_55.2.1 dbm_55.2.2.1 dbm_55.2.2.2.1 ∈ db_T := db_tin 2 tables_1_3 rfl (List.mem_of_getElem? (i := 208) rfl) rfl
theorem db_dck_56 : db_dck prog_2_method_3_code dbt_56 = true := by decide +kernel
theorem db_mck_56 : db_mck dbm_56 = true := by decide +kernel
theorem db_cod_56 : Cond.code dbm_56.1 dbm_56.2.1 dbm_56.2.2.1 dbm_56.2.2.2.1 ∈ db_T := db_tin 2 tables_1_3 rfl (List.mem_of_getElem? (i := 212) rfl) rfl
theorem db_dck_57 : db_dck prog_10_method_11_code dbt_57 = true := by decide +kernel
theorem db_mck_57 : db_mck dbm_57 = true := by decide +kernel
theorem db_cod_57 : Cond.code dbm_57.1 dbm_57.2.1 dbm_57.2.2.1 dbm_57.2.2.2.1 ∈ db_T := db_tin 2 tables_1_3 rfl (List.mem_of_getElem? (i := 216) rfl) rfl
theorem db_dck_58 : db_dck prog_10_method_13_code dbt_58 = true := by decide +kernel
theorem db_mck_58 : db_mck dbm_58 = true := by decide +kernel
theorem db_cod_58 : Cond.code dbm_58.1 dbm_58.2.1 dbm_58.2.2.1 dbm_58.2.2.2.1 ∈ db_T := db_tin 2 tables_1_3 rfl (List.mem_of_getElem? (i := 221) rfl) rfl
theorem db_dck_59 : db_dck prog_2_method_4_code dbt_59 = true := by decide +kernel
theorem db_mck_59 : db_mck dbm_59 = true := by decide +kernel
theorem db_cod_59 : Cond.code dbm_59.1 dbm_59.2.1 dbm_59.2.2.1 dbm_59.2.2.2.1 ∈ db_T := db_tin 2 tables_1_3 rfl (List.mem_of_getElem? (i := 224) rfl) rfl
theorem db_dck_60 : db_dck prog_10_method_10_code dbt_60 = true := by decide +kernel
theorem db_mck_60 : db_mck dbm_60 = true := by decide +kernel
theorem db_cod_60 : Cond.code dbm_60.1 dbm_60.2.1 dbm_60.2.2.1 dbm_60.2.2.2.1 ∈ db_T := db_tin 2 tables_1_3 rfl (List.mem_of_getElem? (i := 228) rfl) rfl
theorem db_dck_61 : db_dck prog_10_method_20_code dbt_61 = true := by decide +kernel
theorem db_mck_61 : db_mck dbm_61 = true := by decide +kernel
theorem db_cod_61 : Cond.code dbm_61.1 dbm_61.2.1 dbm_61.2.2.1 dbm_61.2.2.2.1 ∈ db_T := db_tin 2 tables_1_3 rfl (List.mem_of_getElem? (i := 232) rfl) rfl
theorem db_dck_62 : db_dck prog_10_method_12_code dbt_62 = true := by decide +kernel
theorem db_mck_62 : db_mck dbm_62 = true := by decide +kernel
theorem db_cod_62 : Cond.code dbm_62.1 dbm_62.2.1 dbm_62.2.2.1 dbm_62.2.2.2.1 ∈ db_T := db_tin 2 tables_1_3 rfl (List.mem_of_getElem? (i := 236) rfl) rfl
theorem db_dck_63 : db_dck prog_11_method_4_code dbt_63 = true := by decide +kernel
theorem db_mck_63 : db_mck dbm_63 = true := by decide +kernel
theorem db_cod_63 : Cond.code dbm_63.1 dbm_63.2.1 dbm_63.2.2.1 dbm_63.2.2.2.1 ∈ db_T := db_tin 3 tables_1_4 rfl (List.mem_of_getElem? (i := 1) rfl) rfl
theorem db_dck_64 : db_dck prog_11_method_5_code dbt_64 = true := by decide +kernel
theorem db_mck_64 : db_mck dbm_64 = true := by decide +kernel
theorem db_cod_64 : Cond.code dbm_64.1 dbm_64.2.1 dbm_64.2.2.1 dbm_64.2.2.2.1 ∈ db_T := db_tin 3 tables_1_4 rfl (List.mem_of_getElem? (i := 5) rfl) rfl
theorem db_dck_65 : db_dck prog_2_method_5_code dbt_65 = true := by decide +kernel
theorem db_mck_65 : db_mck dbm_65 = true := by decide +kernel
theorem db_cod_65 : Cond.code dbm_65.1 dbm_65.2.1 dbm_65.2.2.1 dbm_65.2.2.2.1 ∈ db_T := db_tin 3 tables_1_4 rfl (List.mem_of_getElem? (i := 10) rfl) rfl
theorem db_dck_66 : db_dck prog_10_method_14_code dbt_66 = true := by decide +kernel
theorem db_mck_66 : db_mck dbm_66 = true := by decide +kernel
theorem db_cod_66 : Cond.code dbm_66.1 dbm_66.2.1 dbm_66.2.2.1 dbm_66.2.2.2.1 ∈ db_T := db_tin 3 tables_1_4 rfl (List.mem_of_getElem? (i := 14) rfl) rfl
theorem db_dck_67 : db_dck prog_2_method_6_code dbt_67 = true := by decide +kernel
theorem db_mck_67 : db_mck dbm_67 = true := by decide +kernel
theorem db_cod_67 : Cond.code dbm_67.1 dbm_67.2.1 dbm_67.2.2.1 dbm_67.2.2.2.1 ∈ db_T := db_tin 3 tables_1_4 rfl (List.mem_of_getElem? (i := 19) rfl) rfl
theorem db_dck_68 : db_dck prog_10_method_15_code dbt_68 = true := by decide +kernel
theorem db_mck_68 : db_mck dbm_68 = true := by decide +kernel
theorem db_cod_68 : Cond.code dbm_68.1 dbm_68.2.1 dbm_68.2.2.1 dbm_68.2.2.2.1 ∈ db_T := db_tin 3 tables_1_4 rfl (List.mem_of_getElem? (i := 23) rfl) rfl
theorem db_dck_69 : db_dck prog_10_method_21_code dbt_69 = true := by decide +kernel
theorem db_mck_69 : db_mck dbm_69 = true := by decide +kernel
theorem db_cod_69 : Cond.code dbm_69.1 dbm_69.2.1 dbm_69.2.2.1 dbm_69.2.2.2.1 ∈ db_T := db_tin 3 tables_1_4 rfl (List.mem_of_getElem? (i := 28) rfl) rfl
theorem db_dck_70 : db_dck prog_10_method_22_code dbt_70 = true := by decide +kernel
theorem db_mck_70 : db_mck dbm_70 = true := by decide +kernel
theorem db_cod_70 : Cond.code dbm_70.1 dbm_70.2.1 dbm_70.2.2.1 dbm_70.2.2.2.1 ∈ db_T := db_tin 3 tables_1_4 rfl (List.mem_of_getElem? (i := 32) rfl) rfl
theorem db_dck_71 : db_dck prog_11_method_6_code dbt_71 = true := by decide +kernel
theorem db_mck_71 : db_mck dbm_71 = true := by decide +kernel
theorem db_cod_71 : Cond.code dbm_71.1 dbm_71.2.1 dbm_71.2.2.1 dbm_71.2.2.2.1 ∈ db_T := db_tin 3 tables_1_4 rfl (List.mem_of_getElem? (i := 36) rfl) rfl
theorem db_dck_72 : db_dck prog_10_method_19_code dbt_72 = true := by decide +kernel
theorem db_mck_72 : db_mck dbm_72 = true := by decide +kernel
theorem db_cod_72 : Cond.code dbm_72.1 dbm_72.2.1 dbm_72.2.2.1 dbm_72.2.2.2.1 ∈ db_T := db_tin 3 tables_1_4 rfl (List.mem_of_getElem? (i := 40) rfl) rfl
theorem db_dck_73 : db_dck prog_10_method_18_code dbt_73 = true := by decide +kernel
theorem db_mck_73 : db_mck dbm_73 = true := by decide +kernel
theorem db_cod_73 : Cond.code dbm_73.1 dbm_73.2.1 dbm_73.2.2.1 dbm_73.2.2.2.1 ∈ db_T := db_tin 3 tables_1_4 rfl (List.mem_of_getElem? (i := 44) rfl) rfl
theorem db_dck_74 : db_dck prog_2_method_7_code dbt_74 = true := by decide +kernel
theorem db_mck_74 : db_mck dbm_74 = true := by decide +kernel
theorem db_cod_74 : Cond.code dbm_74.1 dbm_74.2.1 dbm_74.2.2.1 dbm_74.2.2.2.1 ∈ db_T := db_tin 3 tables_1_4 rfl (List.mem_of_getElem? (i := 49) rfl) rfl
theorem db_dck_75 : db_dck prog_2_method_8_code dbt_75 = true := by decide +kernel
theorem db_mck_75 : db_mck dbm_75 = true := by decide +kernel
theorem db_cod_75 : Cond.code dbm_75.1 dbm_75.2.1 dbm_75.2.2.1 dbm_75.2.2.2.1 ∈ db_T := db_tin 3 tables_1_4 rfl (List.mem_of_getElem? (i := 53) rfl) rfl
