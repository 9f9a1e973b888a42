theorem db_dck_76 : db_dck prog_11_method_8_code dbt_76 = true := by decide +kernel
theorem db_mck_76 : db_mck dbm_76 = true := by decide +kernel
theorem db_cod_76 : Cond.code dbm_76.1 dbm_76.2.1 dbm_76.2.2.1 dbm_76.2.2.2.1 ∈ db_T := db_tin 3 tables_1_4 rfl (List.mem_of_getElem? (i := 58) rfl) rfl
theorem db_dck_77 : db_dck prog_2_method_9_code dbt_77 = true := by decide +kernel
theorem db_mck_77 : db_mck dbm_77 = true := by decide +kernel
theorem db_cod_77 : Cond.code dbm_77.1 dbm_77.2.1 dbm_77.2.2.1 dbm_77.2.2.2.1 ∈ db_T := db_tin 3 tables_1_4 rfl (List.mem_of_getElem? (i := 62) rfl) rfl
theorem db_dck_78 : db_dck prog_2_method_10_code dbt_78 = true := by decide +kernel
theorem db_mck_78 : db_mck dbm_78 = true := by decide +kernel
theorem db_cod_78 : Cond.code dbm_78.1 dbm_78.2.1 dbm_78.2.2.1 dbm_78.2.2.2.1 ∈ db_T := db_tin 3 tables_1_4 rfl (List.mem_of_getElem? (i := 66) rfl) rfl
theorem db_dck_79 : db_dck prog_10_method_16_code dbt_79 = true := by decide +kernel
theorem db_mck_79 : db_mck dbm_79 = true := by decide +kernel
theorem db_cod_79 : Cond.code dbm_79.1 dbm_79.2.1 dbm_79.2.2.1 dbm_79.2.2.2.1 ∈ db_T := db_tin 3 tables_1_4 rfl (List.mem_of_getElem? (i := 72) rfl) rfl
theorem db_dck_80 : db_dck prog_11_method_9_code dbt_80 = true := by decide +kernel
theorem db_mck_80 : db_mck dbm_80 = true := by decide +kernel
theorem db_cod_80 : Cond.code dbm_80.1 dbm_80.2.1 dbm_80.2.2.1 dbm_80.2.2.2.1 ∈ db_T := db_tin 3 tables_1_4 rfl (List.mem_of_getElem? (i := 76) rfl) rfl
theorem db_dck_81 : db_dck prog_11_method_10_code dbt_81 = true := by decide +kernel
theorem db_mck_81 : db_mck dbm_81 = true := by decide +kernel
theorem db_cod_81 : Cond.code dbm_81.1 dbm_81.2.1 dbm_81.2.2.1 dbm_81.2.2.2.1 ∈ db_T := db_tin 3 tables_1_4 rfl (List.mem_of_getElem? (i := 80) rfl) rfl
theorem db_dck_82 : db_dck prog_11_method_3_code dbt_82 = true := by decide +kernel
theorem db_mck_82 : db_mck dbm_82 = true := by decide +kernel
theorem db_cod_82 : Cond.code dbm_82.1 dbm_82.2.1 dbm_82.2.2.1 dbm_82.2.2.2.1 ∈ db_T := db_tin 3 tables_1_4 rfl (List.mem_of_getElem? (i := 84) rfl) rfl
theorem db_dck_83 : db_dck prog_1_method_72_code dbt_83 = true := by decide +kernel
theorem db_mck_83 : db_mck dbm_83 = true := by decide +kernel
theorem db_cod_83 : Cond.code dbm_83.1 dbm_83.2.1 dbm_83.2.2.1 dbm_83.2.2.2.1 ∈ db_T := db_tin 3 tables_1_4 rfl (List.mem_of_getElem? (i := 87) rfl) rfl
theorem db_dck_84 : db_dck prog_1_method_71_code dbt_84 = true := by decide +kernel
theorem db_mck_84 : db_mck dbm_84 = true := by decide +kernel
theorem db_cod_84 : Cond.code dbm_84.1 dbm_84.2.1 dbm_84.2.2.1 dbm_84.2.2.2.1 ∈ db_T := db_tin 3 tables_1_4 rfl (List.mem_of_getElem? (i := 91) rfl) rfl
theorem db_dck_85 : db_dck prog_4_method_2_code dbt_85 = true := by decide +kernel
theorem db_mck_85 : db_mck dbm_85 = true := by decide +kernel
theorem db_cod_85 : Cond.code dbm_85.1 dbm_85.2.1 dbm_85.2.2.1 dbm_85.2.2.2.1 ∈ db_T := db_tin 3 tables_1_4 rfl (List.mem_of_getElem? (i := 97) rfl) rfl
theorem db_dck_86 : db_dck prog_6_method_2_code dbt_86 = true := by decide +kernel
theorem db_mck_86 : db_mck dbm_86 = true := by decide +kernel
theorem db_cod_86 : Cond.code dbm_86.1 dbm_86.2.1 dbm_86.2.2.1 dbm_86.2.2.2.1 ∈ db_T := db_tin 3 tables_1_4 rfl (List.mem_of_getElem? (i := 102) rfl) rfl
theorem db_dck_87 : db_dck prog_1_method_58_code dbt_87 = true := by decide +kernel
theorem db_mck_87 : db_mck dbm_87 = true := by decide +kernel
theorem db_cod_87 : Cond.code dbm_87.1 dbm_87.2.1 dbm_87.2.2.1 dbm_87.2.2.2.1 ∈ db_T := db_tin 3 tables_1_4 rfl (List.mem_of_getElem? (i := 106) rfl) rfl
theorem db_dck_88 : db_dck prog_1_method_11_code dbt_88 = true := by decide +kernel
theorem db_mck_88 : db_mck dbm_88 = true := by decide +kernel
theorem db_cod_88 : Cond.code dbm_88.1 dbm_88.2.1 dbm_88.2.2.1 dbm_88.2.2.2.1 ∈ db_T := db_tin 3 tables_1_4 rfl (List.mem_of_getElem? (i := 110) rfl) rfl
theorem db_dck_89 : db_dck prog_7_method_2_code dbt_89 = true := by decide +kernel
theorem db_mck_89 : db_mck dbm_89 = true := by decide +kernel
theorem db_cod_89 : Cond.code dbm_89.1 dbm_89.2.1 dbm_89.2.2.1 dbm_89.2.2.2.1 ∈ db_T := db_tin 3 tables_1_4 rfl (List.mem_of_getElem? (i := 114) rfl) rfl
theorem db_dck_90 : db_dck prog_7_method_3_code dbt_90 = true := by decide +kernel
theorem db_mck_90 : db_mck dbm_90 = true := by decide +kernel
theorem db_cod_90 : Cond.code dbm_90.1 dbm_90.2.1 dbm_90.2.2.1 dbm_90.2.2.2.1 ∈ db_T := db_tin 3 tables_1_4 rfl (List.mem_of_getElem? (i := 121) rfl) rfl
theorem db_dck_91 : db_dck prog_7_method_5_code dbt_91 = true := by decide +kernel
theorem db_mck_91 : db_mck dbm_91 = true := by decide +kernel
theorem db_cod_91 : Cond.code dbm_91.1 dbm_91.2.1 dbm_91.2.2.1 dbm_91.2.2.2.1 ∈ db_T := db_tin 3 tables_1_4 rfl (List.mem_of_getElem? (i := 126) rfl) rfl
theorem db_dck_92 : db_dck prog_7_method_4_code dbt_92 = true := by decide +kernel
theorem db_mck_92 : db_mck dbm_92 = true := by decide +kernel
theorem db_cod_92 : Cond.code dbm_92.1 dbm_92.2.1 dbm_92.2.2.1 dbm_92.2.2.2.1 ∈ db_T := db_tin 3 tables_1_4 rfl (List.mem_of_getElem? (i := 131) rfl) rfl
theorem db_dck_93 : db_dck prog_7_method_6_code dbt_93 = true := by decide +kernel
theorem db_mck_93 : db_mck dbm_93 = true := by decide +kernel
theorem db_cod_93 : Cond.code dbm_93.1 dbm_93.2.1 dbm_93.2.2.1 dbm_93.2.2.2.1 ∈ db_T := db_tin 3 tables_1_4 rfl (List.mem_of_getElem? (i := 137) rfl) rfl
theorem db_dck_94 : db_dck prog_7_method_7_code dbt_94 = true := by decide +kernel
theorem db_mck_94 : db_mck dbm_94 = true := by decide +kernel
theorem db_cod_94 : Cond.code dbm_94.1 dbm_94.2.1 dbm_94.2.2.1 dbm_94.2.2.2.1 ∈ db_T := db_tin 3 tables_1_4 rfl (List.mem_of_getElem? (i := 142) rfl) rfl
theorem db_dck_95 : db_dck prog_7_method_8_code dbt_95 = true := by decide +kernel
theorem db_mck_95 : db_mck dbm_95 = true := by decide +kernel
theorem db_cod_95 : Cond.code dbm_95.1 dbm_95.2.1 dbm_95.2.2.1 dbm_95.2.2.2.1 ∈ db_T := db_tin 3 tables_1_4 rfl (List.mem_of_getElem? (i := 148) rfl) rfl
theorem db_dck_96 : db_dck prog_10_method_17_code dbt_96 = true := by decide +kernel
theorem db_mck_96 : db_mck dbm_96 = true := by decide +kernel
theorem db_cod_96 : Cond.code dbm_96.1 dbm_96.2.1 dbm_96.2.2.1 dbm_96.2.2.2.1 ∈ db_T := db_tin 3 tables_1_4 rfl (List.mem_of_getElem? (i := 152) rfl) rfl
theorem db_dck_97 : db_dck prog_6_method_3_code dbt_97 = true := by decide +kernel
theorem db_mck_97 : db_mck dbm_97 = true := by decide +kernel
theorem db_cod_97 : Cond.code dbm_97.1 dbm_97.2.1 dbm_97.2.2.1 dbm_97.2.2.2.1 ∈ db_T := db_tin 3 tables_1_4 rfl (List.mem_of_getElem? (i := 159) rfl) rfl
theorem db_dck_98 : db_dck prog_1_method_12_code dbt_98 = true := by decide +kernel
theorem db_mck_98 : db_mck dbm_98 = true := by decide +kernel
theorem db_cod_98 : Cond.code dbm_98.1 dbm_98.2.1 dbm_98.2.2.1 dbm_98.2.2.2.1 ∈ db_T := db_tin 3 tables_1_4 rfl (List.mem_of_getElem? (i := 164) rfl) rfl
theorem db_dck_99 : db_dck prog_1_method_13_code dbt_99 = true := by decide +kernel
theorem db_mck_99 : db_mck dbm_99 = true := by decide +kernel
theorem db_cod_99 : Cond.code dbm_99.1 dbm_99.2.1 dbm_99.2.2.1 dbm_99.2.2.2.1 ∈ db_T := db_tin 3 tables_1_4 rfl (List.mem_of_getElem? (i := 168) rfl) rfl
theorem db_dck_100 : db_dck prog_11_method_7_code dbt_100 = true := by decide +kernel
theorem db_mck_100 : db_mck dbm_100 = true := by decide +kernel
theorem db_cod_100 : Cond.code dbm_100.1 dbm_100.2.1 dbm_100.2.2.1 dbm_100.2.2.2.1 ∈ db_T := db_tin 3 tables_1_4 rfl (List.mem_of_getElem? (i := 172) rfl) rfl
theorem db_dck_101 : db_dck prog_8_method_2_code dbt_101 = true := by decide +kernel
theorem db_mck_101 : db_mck dbm_101 = true := by decide +kernel
theorem db_cod_101 : Cond.code dbm_101.1 dbm_101.2.1 dbm_101.2.2.1 dbm_101.2.2.2.1 ∈ db_T := db_tin 3 tables_1_4 rfl (List.mem_of_getElem? (i := 176) rfl) rfl
theorem db_dck_102 : db_dck prog_1_method_14_code dbt_102 = true := by decide +kernel
theorem db_mck_102 : db_mck dbm_102 = true := by decide +kernel
theorem db_cod_102 : Cond.code dbm_102.1 dbm_102.2.1 dbm_102.2.2.1 dbm_102.2.2.2.1 ∈ db_T := db_tin 3 tables_1_4 rfl (List.mem_of_getElem? (i := 180) rfl) rfl
theorem db_dck_103 : db_dck prog_1_method_62_code dbt_103 = true := by decide +kernel
theorem db_mck_103 : db_mck dbm_103 = true := by decide +kernel
theorem db_cod_103 : Cond.code dbm_103.1 dbm_103.2.1 dbm_103.2.2.1 dbm_103.2.2.2.1 ∈ db_T := db_tin 3 tables_1_4 rfl (List.mem_of_getElem? (i := 184) rfl) rfl
theorem db_dck_104 : db_dck prog_8_method_3_code dbt_104 = true := by decide +kernel
theorem db_mck_104 : db_mck dbm_104 = true := by decide +kernel
theorem db_cod_104 : Cond.code dbm_104.1 dbm_104.2.1 dbm_104.2.2.1 dbm_104.2.2.2.1 ∈ db_T := db_tin 3 tables_1_4 rfl (List.mem_of_getElem? (i := 188) rfl) rfl
theorem db_dck_105 : db_dck prog_1_method_15_code dbt_105 = true := by decide +kernel
theorem db_mck_105 : db_mck dbm_105 = true := by decide +kernel
theorem db_cod_105 : Cond.code dbm_105.1 dbm_105.2.1 dbm_105.2.2.1 dbm_105.2.2.2.1 ∈ db_T := db_tin 3 tables_1_4 rfl (List.mem_of_getElem? (i := 192) rfl) rfl
theorem db_dck_106 : db_dck prog_1_method_16_code dbt_106 = true := by decide +kernel
theorem db_mck_106 : db_mck dbm_106 = true := by decide +kernel
theorem db_cod_106 : Cond.code dbm_106.1 dbm_106.2.1 dbm_106.2.2.1 dbm_106.2.2.2.1 ∈ db_T := db_tin 3 tables_1_4 rfl (List.mem_of_getElem? (i := 196) rfl) rfl
theorem db_dck_107 : db_dck prog_1_method_17_code dbt_107 = true := by decide +kernel
theorem db_mck_107 : db_mck dbm_107 = true := by decide +kernel
theorem db_cod_107 : Cond.code dbm_107.1 dbm_107.2.1 dbm_107.2.2.1 dbm_107.2.2.2.1 ∈ db_T := db_tin 3 tables_1_4 rfl (List.mem_of_getElem? (i := 200) rfl) rfl
theorem db_dck_108 : db_dck prog_1_method_18_code dbt_108 = true := by decide +kernel
theorem db_mck_108 : db_mck dbm_108 = true := by decide +kernel
theorem db_cod_108 : Cond.code dbm_108.1 dbm_108.2.1 dbm_108.2.2.1 dbm_108.2.2.2.1 ∈ db_T := db_tin 3 tables_1_4 rfl (List.mem_of_getElem? (i := 204) rfl) rfl
theorem db_dck_109 : db_dck prog_1_method_19_code dbt_109 = true := by decide +kernel
theorem db_mck_109 : db_mck dbm_109 = true := by decide +kernel
theorem db_cod_109 : Cond.code dbm_109.1 dbm_109.2.1 dbm_109.2.2.1 dbm_109.2.2.2.1 ∈ db_T := db_tin 3 tables_1_4 rfl (List.mem_of_getElem? (i := 208) rfl) rfl
theorem db_dck_110 : db_dck prog_1_method_20_code dbt_110 = true := by decide +kernel
theorem db_mck_110 : db_mck dbm_110 = true := by decide +kernel
theorem db_cod_110 : Cond.code dbm_110.1 dbm_110.2.1 dbm_110.2.2.1 dbm_110.2.2.2.1 ∈ db_T := db_tin 3 tables_1_4 rfl (List.mem_of_getElem? (i := 212) rfl) rfl
theorem db_dck_111 : db_dck prog_1_method_21_code dbt_111 = true := by decide +kernel
theorem db_mck_111 : db_mck dbm_111 = true := by decide +kernel
theorem db_cod_111 : Cond.code dbm_111.1 dbm_111.2.1 dbm_111.2.2.1 dbm_111.2.2.2.1 ∈ db_T := db_tin 3 tables_1_4 rfl (List.mem_of_getElem? (i := 216) rfl) rfl
theorem db_dck_112 : db_dck prog_1_method_70_code dbt_112 = true := by decide +kernel
theorem db_mck_112 : db_mck dbm_112 = true := by decide +kernel
theorem db_cod_112 : Cond.code dbm_112.1 dbm_112.2.1 dbm_112.2.2.1 dbm_112.2.2.2.1 ∈ db_T := db_tin 3 tables_1_4 rfl (List.mem_of_getElem? (i := 219) rfl) rfl
theorem db_dck_113 : db_dck prog_1_method_22_code dbt_113 = true := by decide +kernel
theorem db_mck_113 : db_mck dbm_113 = true := by decide +kernel
theorem db_cod_113 : Cond.code dbm_113.1 dbm_113.2.1 dbm_113.2.2.1 dbm_113.2.2.2.1 ∈ db_T := db_tin 3 tables_1_4 rfl (List.mem_of_getElem? (i := 223) rfl) rfl
theorem db_dck_114 : db_dck prog_11_method_13_code dbt_114 = true := by decide +kernel
theorem db_mck_114 : db_mck dbm_114 = true := by decide +kernel
theorem db_cod_114 : Cond.code dbm_114.1 dbm_114.2.1 dbm_114.2.2.1 dbm_114.2.2.2.1 ∈ db_T := db_tin 3 tables_1_4 rfl (List.mem_of_getElem? (i := 227) rfl) rfl
theorem db_dck_115 : db_dck prog_11_method_11_code dbt_115 = true := by decide +kernel
theorem db_mck_115 : db_mck dbm_115 = true := by decide +kernel
theorem db_cod_115 : Cond.code dbm_115.1 dbm_115.2.1 dbm_115.2.2.1 dbm_115.2.2.2.1 ∈ db_T := db_tin 3 tables_1_4 rfl (List.mem_of_getElem? (i := 231) rfl) rfl
theorem db_dck_116 : db_dck prog_11_method_12_code dbt_116 = true := by decide +kernel
theorem db_mck_116 : db_mck dbm_116 = true := by decide +kernel
theorem db_cod_116 : Cond.code dbm_116.1 dbm_116.2.1 dbm_116.2.2.1 dbm_116.2.2.2.1 ∈ db_T := db_tin 3 tables_1_4 rfl (List.mem_of_getElem? (i := 235) rfl) rfl
theorem db_dck_117 : db_dck prog_1_method_23_code dbt_117 = true := by decide +kernel
theorem db_mck_117 : db_mck dbm_117 = true := by decide +kernel
theorem db_cod_117 : Cond.code dbm_117.1 dbm_117.2.1 dbm_117.2.2.1 dbm_117.2.2.2.1 ∈ db_T := db_tin 4 tables_1_5 rfl (List.mem_of_getElem? (i := 0) rfl) rfl
theorem db_dck_118 : db_dck prog_11_method_14_code dbt_118 = true := by decide +kernel
theorem db_mck_118 : db_mck dbm_118 = true := by decide +kernel
theorem db_cod_118 : Cond.code dbm_118.1 dbm_118.2.1 dbm_118.2.2.1 dbm_118.2.2.2.1 ∈ db_T := db_tin 4 tables_1_5 rfl (List.mem_of_getElem? (i := 4) rfl) rfl
theorem db_dck_119 : db_dck prog_1_method_24_code dbt_119 = true := by decide +kernel
theorem db_mck_119 : db_mck dbm_119 = true := by decide +kernel
theorem db_cod_119 : Cond.code dbm_119.1 dbm_119.2.1 dbm_119.2.2.1 dbm_119.2.2.2.1 ∈ db_T := db_tin 4 tables_1_5 rfl (List.mem_of_getElem? (i := 8) rfl) rfl
theorem db_dck_120 : db_dck prog_1_method_25_code dbt_120 = true := by decide +kernel
theorem db_mck_120 : db_mck dbm_120 = true := by decide +kernel
theorem db_cod_120 : Cond.code dbm_120.1 dbm_120.2.1 dbm_120.2.2.1 dbm_120.2.2.2.1 ∈ db_T := db_tin 4 tables_1_5 rfl (List.mem_of_getElem? (i := 12) rfl) rfl
theorem db_dck_121 : db_dck prog_4_method_4_code dbt_121 = true := by decide +kernel
theorem db_mck_121 : db_mck dbm_121 = true := by decide +kernel
theorem db_cod_121 : Cond.code dbm_121.1 dbm_121.2.1 dbm_121.2.2.1 dbm_121.2.2.2.1 ∈ db_T := db_tin 4 tables_1_5 rfl (List.mem_of_getElem? (i := 16) rfl) rfl
theorem db_dck_122 : db_dck prog_1_method_26_code dbt_122 = true := by decide +kernel
theorem db_mck_122 : db_mck dbm_122 = true := by decide +kernel
theorem db_cod_122 : Cond.code dbm_122.1 dbm_122.2.1 dbm_122.2.2.1 dbm_122.2.2.2.1 ∈ db_T := db_tin 4 tables_1_5 rfl (List.mem_of_getElem? (i := 21) rfl) rfl
theorem db_dck_123 : db_dck prog_1_method_27_code dbt_123 = true := by decide +kernel
theorem db_mck_123 : db_mck dbm_123 = true := by decide +kernel
theorem db_cod_123 : Cond.code dbm_123.1 dbm_123.2.1 dbm_123.2.2.1 dbm_123.2.2.2.1 ∈ db_T := db_tin 4 tables_1_5 rfl (List.mem_of_getElem? (i := 25) rfl) rfl
theorem db_dck_124 : db_dck prog_1_method_28_code dbt_124 = true := by decide +kernel
theorem db_mck_124 : db_mck dbm_124 = true := by decide +kernel
theorem db_cod_124 : Cond.code dbm_124.1 dbm_124.2.1 dbm_124.2.2.1 dbm_124.2.2.2.1 ∈ db_T := db_tin 4 tables_1_5 rfl (List.mem_of_getElem? (i := 29) rfl) rfl
theorem db_dck_125 : db_dck prog_1_method_64_code dbt_125 = true := by decide +kernel
theorem db_mck_125 : db_mck dbm_125 = true := by decide +kernel
theorem db_cod_125 : Cond.code dbm_125.1 dbm_125.2.1 dbm_125.2.2.1 dbm_125.2.2.2.1 ∈ db_T := db_tin 4 tables_1_5 rfl (List.mem_of_getElem? (i := 33) rfl) rfl
theorem db_dck_126 : db_dck prog_1_method_63_code dbt_126 = true := by decide +kernel
theorem db_mck_126 : db_mck dbm_126 = true := by decide +kernel
theorem db_cod_126 : Cond.code dbm_126.1 dbm_126.2.1 dbm_126.2.2.1 dbm_126.2.2.2.1 ∈ db_T := db_tin 4 tables_1_5 rfl (List.mem_of_getElem? (i := 37) rfl) rfl
theorem db_dck_127 : db_dck prog_8_method_6_code dbt_127 = true := by decide +kernel
theorem db_mck_127 : db_mck dbm_127 = true := by decide +kernel
theorem db_cod_127 : Cond.code dbm_127.1 dbm_127.2.1 dbm_127.2.2.1 dbm_127.2.2.2.1 ∈ db_T := db_tin 4 tables_1_5 rfl (List.mem_of_getElem? (i := 41) rfl) rfl
theorem db_dck_128 : db_dck prog_8_method_5_code dbt_128 = true := by decide +kernel
theorem db_mck_128 : db_mck dbm_128 = true := by decide +kernel
theorem db_cod_128 : Cond.code dbm_128.1 dbm_128.2.1 dbm_128.2.2.1 dbm_128.2.2.2.1 ∈ db_T := db_tin 4 tables_1_5 rfl (List.mem_of_getElem? (i := 45) rfl) rfl
theorem db_dck_129 : db_dck prog_8_method_4_code dbt_129 = true := by decide +kernel
theorem db_mck_129 : db_mck dbm_129 = true := by decide +kernel
theorem db_cod_129 : Cond.code dbm_129.1 dbm_129.2.1 dbm_129.2.2.1 dbm_129.2.2.2.1 ∈ db_T := db_tin 4 tables_1_5 rfl (List.mem_of_getElem? (i := 49) rfl) rfl
theorem db_dck_130 : db_dck prog_8_method_7_code dbt_130 = true := by decide +kernel
theorem db_mck_130 : db_mck dbm_130 = true := by decide +kernel
theorem db_cod_130 : Cond.code dbm_130.1 dbm_130.2.1 dbm_130.2.2.1 dbm_130.2.2.2.1 ∈ db_T := db_tin 4 tables_1_5 rfl (List.mem_of_getElem? (i := 55) rfl) rfl
theorem db_dck_131 : db_dck prog_8_method_8_code dbt_131 = true := by decide +kernel
theorem db_mck_131 : db_mck dbm_131 = true := by decide +kernel
theorem db_cod_131 : Cond.code dbm_131.1 dbm_131.2.1 dbm_131.2.2.1 dbm_131.2.2.2.1 ∈ db_T := db_tin 4 tables_1_5 rfl (List.mem_of_getElem? (i := 59) rfl) rfl
theorem db_dck_132 : db_dck prog_1_method_29_code dbt_132 = true := by decide +kernel
theorem db_mck_132 : db_mck dbm_132 = true := by decide +kernel
theorem db_cod_132 : Cond.code dbm_132.1 dbm_132.2.1 dbm_132.2.2.1 dbm_132.2.2.2.1 ∈ db_T := db_tin 4 tables_1_5 rfl (List.mem_of_getElem? (i := 64) rfl) rfl
theorem db_dck_133 : db_dck prog_1_method_67_code dbt_133 = true := by decide +kernel
theorem db_mck_133 : db_mck dbm_133 = true := by decide +kernel
theorem db_cod_133 : Cond.code dbm_133.1 dbm_133.2.1 dbm_133.2.2.1 dbm_133.2.2.2.1 ∈ db_T := db_tin 4 tables_1_5 rfl (List.mem_of_getElem? (i := 68) rfl) rfl
theorem db_dck_134 : db_dck prog_1_method_30_code dbt_134 = true := by decide +kernel
theorem db_mck_134 : db_mck dbm_134 = true := by decide +kernel
theorem db_cod_134 : Cond.code dbm_134.1 dbm_134.2.1 dbm_134.2.2.1 dbm_134.2.2.2.1 ∈ db_T := db_tin 4 tables_1_5 rfl (List.mem_of_getElem? (i := 75) rfl) rfl
theorem db_dck_135 : db_dck prog_1_method_31_code dbt_135 = true := by decide +kernel
theorem db_mck_135 : db_mck dbm_135 = true := by decide +kernel
theorem db_cod_135 : Cond.code dbm_135.1 dbm_135.2.1 dbm_135.2.2.1 dbm_135.2.2.2.1 ∈ db_T := db_tin 4 tables_1_5 rfl (List.mem_of_getElem? (i := 79) rfl) rfl
theorem db_dck_136 : db_dck prog_1_method_32_code dbt_136 = true := by decide +kernel
theorem db_mck_136 : db_mck dbm_136 = true := by decide +kernel
theorem db_cod_136 : Cond.code dbm_136.1 dbm_136.2.1 dbm_136.2.2.1 dbm_136.2.2.2.1 ∈ db_T := db_tin 4 tables_1_5 rfl (List.mem_of_getElem? (i := 83) rfl) rfl
theorem db_dck_137 : db_dck prog_9_method_8_code dbt_137 = true := by decide +kernel
theorem db_mck_137 : db_mck dbm_137 = true := by decide +kernel
theorem db_cod_137 : Cond.code dbm_137.1 dbm_137.2.1 dbm_137.2.2.1 dbm_137.2.2.2.1 ∈ db_T := db_tin 4 tables_1_5 rfl (List.mem_of_getElem? (i := 87) rfl) rfl
theorem db_dck_138 : db_dck prog_8_method_10_code dbt_138 = true := by decide +kernel
theorem db_mck_138 : db_mck dbm_138 = true := by decide +kernel
theorem db_cod_138 : Cond.code dbm_138.1 dbm_138.2.1 dbm_138.2.2.1 dbm_138.2.2.2.1 ∈ db_T := db_tin 4 tables_1_5 rfl (List.mem_of_getElem? (i := 93) rfl) rfl
theorem db_dck_139 : db_dck prog_1_method_33_code dbt_139 = true := by decide +kernel
theorem db_mck_139 : db_mck dbm_139 = true := by decide +kernel
theorem db_cod_139 : Cond.code dbm_139.1 dbm_139.2.1 dbm_139.2.2.1 dbm_139.2.2.2.1 ∈ db_T := db_tin 4 tables_1_5 rfl (List.mem_of_getElem? (i := 97) rfl) rfl
theorem db_dck_140 : db_dck prog_8_method_9_code dbt_140 = true := by decide +kernel
theorem db_mck_140 : db_mck dbm_140 = true := by decide +kernel
theorem db_cod_140 : Cond.code dbm_140.1 dbm_140.2.1 dbm_140.2.2.1 dbm_140.2.2.2.1 ∈ db_T := db_tin 4 tables_1_5 rfl (List.mem_of_getElem? (i := 101) rfl) rfl
theorem db_dck_141 : db_dck prog_1_method_34_code dbt_141 = true := by decide +kernel
theorem db_mck_141 : db_mck dbm_141 = true := by decide +kernel
theorem db_cod_141 : Cond.code dbm_141.1 dbm_141.2.1 dbm_141.2.2.1 dbm_141.2.2.2.1 ∈ db_T := db_tin 4 tables_1_5 rfl (List.mem_of_getElem? (i := 106) rfl) rfl
theorem db_dck_142 : db_dck prog_3_method_3_code dbt_142 = true := by decide +kernel
theorem db_mck_142 : db_mck dbm_142 = true := by decide +kernel
theorem db_cod_142 : Cond.code dbm_142.1 dbm_142.2.1 dbm_142.2.2.1 dbm_142.2.2.2.1 ∈ db_T := db_tin 4 tables_1_5 rfl (List.mem_of_getElem? (i := 110) rfl) rfl
theorem db_dck_143 : db_dck prog_1_method_35_code dbt_143 = true := by decide +kernel
theorem db_mck_143 : db_mck dbm_143 = true := by decide +kernel
theorem db_cod_143 : Cond.code dbm_143.1 dbm_143.2.1 dbm_143.2.2.1 dbm_143.2.2.2.1 ∈ db_T := db_tin 4 tables_1_5 rfl (List.mem_of_getElem? (i := 116) rfl) rfl
theorem db_dck_144 : db_dck prog_1_method_36_code dbt_144 = true := by decide +kernel
theorem db_mck_144 : db_mck dbm_144 = true := by decide +kernel
theorem db_cod_144 : Cond.code dbm_144.1 dbm_144.2.1 dbm_144.2.2.1 dbm_144.2.2.2.1 ∈ db_T := db_tin 4 tables_1_5 rfl (List.mem_of_getElem? (i := 120) rfl) rfl
theorem db_dck_145 : db_dck prog_1_method_65_code dbt_145 = true := by decide +kernel
theorem db_mck_145 : db_mck dbm_145 = true := by decide +kernel
theorem db_cod_145 : Cond.code dbm_145.1 dbm_145.2.1 dbm_145.2.2.1 dbm_145.2.2.2.1 ∈ db_T := db_tin 4 tables_1_5 rfl (List.mem_of_getElem? (i := 124) rfl) rfl
theorem db_dck_146 : db_dck prog_11_method_15_code dbt_146 = true := by decide +kernel
theorem db_mck_146 : db_mck dbm_146 = true := by decide +kernel
theorem db_cod_146 : Cond.code dbm_146.1 dbm_146.2.1 dbm_146.2.2.1 dbm_146.2.2.2.1 ∈ db_T := db_tin 4 tables_1_5 rfl (List.mem_of_getElem? (i := 128) rfl) rfl
theorem db_dck_147 : db_dck prog_11_method_16_code dbt_147 = true := by decide +kernel
theorem db_mck_147 : db_mck dbm_147 = true := by decide +kernel
theorem db_cod_147 : Cond.code dbm_147.1 dbm_147.2.1 dbm_147.2.2.1 dbm_147.2.2.2.1 ∈ db_T := db_tin 4 tables_1_5 rfl (List.mem_of_getElem? (i := 131) rfl) rfl
theorem db_dck_148 : db_dck prog_11_method_17_code dbt_148 = true := by decide +kernel
theorem db_mck_148 : db_mck dbm_148 = true := by decide +kernel
theorem db_cod_148 : Cond.code dbm_148.1 dbm_148.2.1 dbm_148.2.2.1 dbm_148.2.2.2.1 ∈ db_T := db_tin 4 tables_1_5 rfl (List.mem_of_getElem? (i := 134) rfl) rfl
theorem db_dck_149 : db_dck prog_1_method_37_code dbt_149 = true := by decide +kernel
theorem db_mck_149 : db_mck dbm_149 = true := by decide +kernel
theorem db_cod_149 : Cond.code dbm_149.1 dbm_149.2.1 dbm_149.2.2.1 dbm_149.2.2.2.1 ∈ db_T := db_tin 4 tables_1_5 rfl (List.mem_of_getElem? (i := 138) rfl) rfl
theorem db_dck_150 : db_dck prog_11_method_19_code dbt_150 = true := by decide +kernel
theorem db_mck_150 : db_mck dbm_150 = true := by decide +kernel
theorem db_cod_150 : Cond.code dbm_150.1 dbm_150.2.1 dbm_150.2.2.1 dbm_150.2.2.2.1 ∈ db_T := db_tin 4 tables_1_5 rfl (List.mem_of_getElem? (i := 142) rfl) rfl
theorem db_dck_151 : db_dck prog_11_method_18_code dbt_151 = true := by decide +kernel
theorem db_mck_151 : db_mck dbm_151 = true := by decide +kernel
theorem db_cod_151 : Cond.code dbm_151.1 dbm_151.2.1 dbm_151.2.2.1 dbm_151.2.2.2.1 ∈ db_T := db_tin 4 tables_1_5 rfl (List.mem_of_getElem? (i := 146) rfl) rfl
