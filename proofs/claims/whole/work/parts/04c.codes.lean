theorem db_dck_152 : db_dck prog_15_method_49_code dbt_152 = true := by decide +kernel
theorem db_mck_152 : db_mck dbm_152 = true := by decide +kernel
theorem db_cod_152 : Cond.code dbm_152.1 dbm_152.2.1 dbm_152.2.2.1 dbm_152.2.2.2.1 ∈ db_T := db_tin 4 tables_1_5 rfl (List.mem_of_getElem? (i := 150) rfl) rfl
theorem db_dck_153 : db_dck prog_1_method_38_code dbt_153 = true := by decide +kernel
theorem db_mck_153 : db_mck dbm_153 = true := by decide +kernel
theorem db_cod_153 : Cond.code dbm_153.1 dbm_153.2.1 dbm_153.2.2.1 dbm_153.2.2.2.1 ∈ db_T := db_tin 4 tables_1_5 rfl (List.mem_of_getElem? (i := 157) rfl) rfl
theorem db_dck_154 : db_dck prog_3_method_4_code dbt_154 = true := by decide +kernel
theorem db_mck_154 : db_mck dbm_154 = true := by decide +kernel
theorem db_cod_154 : Cond.code dbm_154.1 dbm_154.2.1 dbm_154.2.2.1 dbm_154.2.2.2.1 ∈ db_T := db_tin 4 tables_1_5 rfl (List.mem_of_getElem? (i := 161) rfl) rfl
theorem db_dck_155 : db_dck prog_3_method_5_code dbt_155 = true := by decide +kernel
theorem db_mck_155 : db_mck dbm_155 = true := by decide +kernel
theorem db_cod_155 : Cond.code dbm_155.1 dbm_155.2.1 dbm_155.2.2.1 dbm_155.2.2.2.1 ∈ db_T := db_tin 4 tables_1_5 rfl (List.mem_of_getElem? (i := 165) rfl) rfl
theorem db_dck_156 : db_dck prog_1_method_39_code dbt_156 = true := by decide +kernel
theorem db_mck_156 : db_mck dbm_156 = true := by decide +kernel
theorem db_cod_156 : Cond.code dbm_156.1 dbm_156.2.1 dbm_156.2.2.1 dbm_156.2.2.2.1 ∈ db_T := db_tin 4 tables_1_5 rfl (List.mem_of_getElem? (i := 169) rfl) rfl
theorem db_dck_157 : db_dck prog_1_method_40_code dbt_157 = true := by decide +kernel
theorem db_mck_157 : db_mck dbm_157 = true := by decide +kernel
theorem db_cod_157 : Cond.code dbm_157.1 dbm_157.2.1 dbm_157.2.2.1 dbm_157.2.2.2.1 ∈ db_T := db_tin 4 tables_1_5 rfl (List.mem_of_getElem? (i := 173) rfl) rfl
theorem db_dck_158 : db_dck prog_11_method_20_code dbt_158 = true := by decide +kernel
theorem db_mck_158 : db_mck dbm_158 = true := by decide +kernel
theorem db_cod_158 : Cond.code dbm_158.1 dbm_158.2.1 dbm_158.2.2.1 dbm_158.2.2.2.1 ∈ db_T := db_tin 4 tables_1_5 rfl (List.mem_of_getElem? (i := 177) rfl) rfl
theorem db_dck_159 : db_dck prog_11_method_21_code dbt_159 = true := by decide +kernel
theorem db_mck_159 : db_mck dbm_159 = true := by decide +kernel
theorem db_cod_159 : Cond.code dbm_159.1 dbm_159.2.1 dbm_159.2.2.1 dbm_159.2.2.2.1 ∈ db_T := db_tin 4 tables_1_5 rfl (List.mem_of_getElem? (i := 181) rfl) rfl
theorem db_dck_160 : db_dck prog_1_method_41_code dbt_160 = true := by decide +kernel
theorem db_mck_160 : db_mck dbm_160 = true := by decide +kernel
theorem db_cod_160 : Cond.code dbm_160.1 dbm_160.2.1 dbm_160.2.2.1 dbm_160.2.2.2.1 ∈ db_T := db_tin 4 tables_1_5 rfl (List.mem_of_getElem? (i := 186) rfl) rfl
theorem db_dck_161 : db_dck prog_1_method_42_code dbt_161 = true := by decide +kernel
theorem db_mck_161 : db_mck dbm_161 = true := by decide +kernel
theorem db_cod_161 : Cond.code dbm_161.1 dbm_161.2.1 dbm_161.2.2.1 dbm_161.2.2.2.1 ∈ db_T := db_tin 4 tables_1_5 rfl (List.mem_of_getElem? (i := 190) rfl) rfl
theorem db_dck_162 : db_dck prog_1_method_69_code dbt_162 = true := by decide +kernel
theorem db_mck_162 : db_mck dbm_162 = true := by decide +kernel
theorem db_cod_162 : Cond.code dbm_162.1 dbm_162.2.1 dbm_162.2.2.1 dbm_162.2.2.2.1 ∈ db_T := db_tin 4 tables_1_5 rfl (List.mem_of_getElem? (i := 193) rfl) rfl
theorem db_dck_163 : db_dck prog_3_method_9_code dbt_163 = true := by decide +kernel
theorem db_mck_163 : db_mck dbm_163 = true := by decide +kernel
theorem db_cod_163 : Cond.code dbm_163.1 dbm_163.2.1 dbm_163.2.2.1 dbm_163.2.2.2.1 ∈ db_T := db_tin 4 tables_1_5 rfl (List.mem_of_getElem? (i := 197) rfl) rfl
theorem db_dck_164 : db_dck prog_3_method_7_code dbt_164 = true := by decide +kernel
theorem db_mck_164 : db_mck dbm_164 = true := by decide +kernel
theorem db_cod_164 : Cond.code dbm_164.1 dbm_164.2.1 dbm_164.2.2.1 dbm_164.2.2.2.1 ∈ db_T := db_tin 4 tables_1_5 rfl (List.mem_of_getElem? (i := 203) rfl) rfl
theorem db_dck_165 : db_dck prog_3_method_6_code dbt_165 = true := by decide +kernel
theorem db_mck_165 : db_mck dbm_165 = true := by decide +kernel
theorem db_cod_165 : Cond.code dbm_165.1 dbm_165.2.1 dbm_165.2.2.1 dbm_165.2.2.2.1 ∈ db_T := db_tin 4 tables_1_5 rfl (List.mem_of_getElem? (i := 209) rfl) rfl
theorem db_dck_166 : db_dck prog_3_method_8_code dbt_166 = true := by decide +kernel
theorem db_mck_166 : db_mck dbm_166 = true := by decide +kernel
theorem db_cod_166 : Cond.code dbm_166.1 dbm_166.2.1 dbm_166.2.2.1 dbm_166.2.2.2.1 ∈ db_T := db_tin 4 tables_1_5 rfl (List.mem_of_getElem? (i := 214) rfl) rfl
theorem db_dck_167 : db_dck prog_1_method_43_code dbt_167 = true := by decide +kernel
theorem db_mck_167 : db_mck dbm_167 = true := by decide +kernel
theorem db_cod_167 : Cond.code dbm_167.1 dbm_167.2.1 dbm_167.2.2.1 dbm_167.2.2.2.1 ∈ db_T := db_tin 4 tables_1_5 rfl (List.mem_of_getElem? (i := 218) rfl) rfl
theorem db_dck_168 : db_dck prog_3_method_10_code dbt_168 = true := by decide +kernel
theorem db_mck_168 : db_mck dbm_168 = true := by decide +kernel
theorem db_cod_168 : Cond.code dbm_168.1 dbm_168.2.1 dbm_168.2.2.1 dbm_168.2.2.2.1 ∈ db_T := db_tin 4 tables_1_5 rfl (List.mem_of_getElem? (i := 222) rfl) rfl
theorem db_dck_169 : db_dck prog_1_method_44_code dbt_169 = true := by decide +kernel
theorem db_mck_169 : db_mck dbm_169 = true := by decide +kernel
theorem db_cod_169 : Cond.code dbm_169.1 dbm_169.2.1 dbm_169.2.2.1 dbm_169.2.2.2.1 ∈ db_T := db_tin 4 tables_1_5 rfl (List.mem_of_getElem? (i := 226) rfl) rfl
theorem db_dck_170 : db_dck prog_3_method_11_code dbt_170 = true := by decide +kernel
theorem db_mck_170 : db_mck dbm_170 = true := by decide +kernel
theorem db_cod_170 : Cond.code dbm_170.1 dbm_170.2.1 dbm_170.2.2.1 dbm_170.2.2.2.1 ∈ db_T := db_tin 4 tables_1_5 rfl (List.mem_of_getElem? (i := 230) rfl) rfl
theorem db_dck_171 : db_dck prog_3_method_2_code dbt_171 = true := by decide +kernel
theorem db_mck_171 : db_mck dbm_171 = true := by decide +kernel
theorem db_cod_171 : Cond.code dbm_171.1 dbm_171.2.1 dbm_171.2.2.1 dbm_171.2.2.2.1 ∈ db_T := db_tin 4 tables_1_5 rfl (List.mem_of_getElem? (i := 234) rfl) rfl
theorem db_dck_172 : db_dck prog_3_method_12_code dbt_172 = true := by decide +kernel
theorem db_mck_172 : db_mck dbm_172 = true := by decide +kernel
theorem db_cod_172 : Cond.code dbm_172.1 dbm_172.2.1 dbm_172.2.2.1 dbm_172.2.2.2.1 ∈ db_T := db_tin 4 tables_1_5 rfl (List.mem_of_getElem? (i := 238) rfl) rfl
theorem db_dck_173 : db_dck prog_1_method_45_code dbt_173 = true := by decide +kernel
theorem db_mck_173 : db_mck dbm_173 = true := by decide +kernel
theorem db_cod_173 : Cond.code dbm_173.1 dbm_173.2.1 dbm_173.2.2.1 dbm_173.2.2.2.1 ∈ db_T := db_tin 5 tables_1_6 rfl (List.mem_of_getElem? (i := 2) rfl) rfl
theorem db_dck_174 : db_dck prog_3_method_16_code dbt_174 = true := by decide +kernel
theorem db_mck_174 : db_mck dbm_174 = true := by decide +kernel
theorem db_cod_174 : Cond.code dbm_174.1 dbm_174.2.1 dbm_174.2.2.1 dbm_174.2.2.2.1 ∈ db_T := db_tin 5 tables_1_6 rfl (List.mem_of_getElem? (i := 6) rfl) rfl
theorem db_dck_175 : db_dck prog_4_method_3_code dbt_175 = true := by decide +kernel
theorem db_mck_175 : db_mck dbm_175 = true := by decide +kernel
theorem db_cod_175 : Cond.code dbm_175.1 dbm_175.2.1 dbm_175.2.2.1 dbm_175.2.2.2.1 ∈ db_T := db_tin 5 tables_1_6 rfl (List.mem_of_getElem? (i := 10) rfl) rfl
theorem db_dck_176 : db_dck prog_3_method_17_code dbt_176 = true := by decide +kernel
theorem db_mck_176 : db_mck dbm_176 = true := by decide +kernel
theorem db_cod_176 : Cond.code dbm_176.1 dbm_176.2.1 dbm_176.2.2.1 dbm_176.2.2.2.1 ∈ db_T := db_tin 5 tables_1_6 rfl (List.mem_of_getElem? (i := 15) rfl) rfl
theorem db_dck_177 : db_dck prog_3_method_18_code dbt_177 = true := by decide +kernel
theorem db_mck_177 : db_mck dbm_177 = true := by decide +kernel
theorem db_cod_177 : Cond.code dbm_177.1 dbm_177.2.1 dbm_177.2.2.1 dbm_177.2.2.2.1 ∈ db_T := db_tin 5 tables_1_6 rfl (List.mem_of_getElem? (i := 20) rfl) rfl
theorem db_dck_178 : db_dck prog_1_method_46_code dbt_178 = true := by decide +kernel
theorem db_mck_178 : db_mck dbm_178 = true := by decide +kernel
theorem db_cod_178 : Cond.code dbm_178.1 dbm_178.2.1 dbm_178.2.2.1 dbm_178.2.2.2.1 ∈ db_T := db_tin 5 tables_1_6 rfl (List.mem_of_getElem? (i := 26) rfl) rfl
theorem db_dck_179 : db_dck prog_1_method_47_code dbt_179 = true := by decide +kernel
theorem db_mck_179 : db_mck dbm_179 = true := by decide +kernel
theorem db_cod_179 : Cond.code dbm_179.1 dbm_179.2.1 dbm_179.2.2.1 dbm_179.2.2.2.1 ∈ db_T := db_tin 5 tables_1_6 rfl (List.mem_of_getElem? (i := 30) rfl) rfl
theorem db_dck_180 : db_dck prog_1_method_48_code dbt_180 = true := by decide +kernel
theorem db_mck_180 : db_mck dbm_180 = true := by decide +kernel
theorem db_cod_180 : Cond.code dbm_180.1 dbm_180.2.1 dbm_180.2.2.1 dbm_180.2.2.2.1 ∈ db_T := db_tin 5 tables_1_6 rfl (List.mem_of_getElem? (i := 34) rfl) rfl
theorem db_dck_181 : db_dck prog_1_method_49_code dbt_181 = true := by decide +kernel
theorem db_mck_181 : db_mck dbm_181 = true := by decide +kernel
theorem db_cod_181 : Cond.code dbm_181.1 dbm_181.2.1 dbm_181.2.2.1 dbm_181.2.2.2.1 ∈ db_T := db_tin 5 tables_1_6 rfl (List.mem_of_getElem? (i := 38) rfl) rfl
theorem db_dck_182 : db_dck prog_3_method_13_code dbt_182 = true := by decide +kernel
theorem db_mck_182 : db_mck dbm_182 = true := by decide +kernel
theorem db_cod_182 : Cond.code dbm_182.1 dbm_182.2.1 dbm_182.2.2.1 dbm_182.2.2.2.1 ∈ db_T := db_tin 5 tables_1_6 rfl (List.mem_of_getElem? (i := 42) rfl) rfl
theorem db_dck_183 : db_dck prog_3_method_14_code dbt_183 = true := by decide +kernel
theorem db_mck_183 : db_mck dbm_183 = true := by decide +kernel
theorem db_cod_183 : Cond.code dbm_183.1 dbm_183.2.1 dbm_183.2.2.1 dbm_183.2.2.2.1 ∈ db_T := db_tin 5 tables_1_6 rfl (List.mem_of_getElem? (i := 46) rfl) rfl
theorem db_dck_184 : db_dck prog_1_method_50_code dbt_184 = true := by decide +kernel
theorem db_mck_184 : db_mck dbm_184 = true := by decide +kernel
theorem db_cod_184 : Cond.code dbm_184.1 dbm_184.2.1 dbm_184.2.2.1 dbm_184.2.2.2.1 ∈ db_T := db_tin 5 tables_1_6 rfl (List.mem_of_getElem? (i := 50) rfl) rfl
theorem db_dck_185 : db_dck prog_3_method_15_code dbt_185 = true := by decide +kernel
theorem db_mck_185 : db_mck dbm_185 = true := by decide +kernel
theorem db_cod_185 : Cond.code dbm_185.1 dbm_185.2.1 dbm_185.2.2.1 dbm_185.2.2.2.1 ∈ db_T := db_tin 5 tables_1_6 rfl (List.mem_of_getElem? (i := 54) rfl) rfl
theorem db_dck_186 : db_dck prog_1_method_51_code dbt_186 = true := by decide +kernel
theorem db_mck_186 : db_mck dbm_186 = true := by decide +kernel
theorem db_cod_186 : Cond.code dbm_186.1 dbm_186.2.1 dbm_186.2.2.1 dbm_186.2.2.2.1 ∈ db_T := db_tin 5 tables_1_6 rfl (List.mem_of_getElem? (i := 58) rfl) rfl
theorem db_dck_187 : db_dck prog_1_method_66_code dbt_187 = true := by decide +kernel
theorem db_mck_187 : db_mck dbm_187 = true := by decide +kernel
theorem db_cod_187 : Cond.code dbm_187.1 dbm_187.2.1 dbm_187.2.2.1 dbm_187.2.2.2.1 ∈ db_T := db_tin 5 tables_1_6 rfl (List.mem_of_getElem? (i := 62) rfl) rfl
theorem db_dck_188 : db_dck prog_5_method_3_code dbt_188 = true := by decide +kernel
theorem db_mck_188 : db_mck dbm_188 = true := by decide +kernel
theorem db_cod_188 : Cond.code dbm_188.1 dbm_188.2.1 dbm_188.2.2.1 dbm_188.2.2.2.1 ∈ db_T := db_tin 5 tables_1_6 rfl (List.mem_of_getElem? (i := 66) rfl) rfl
theorem db_dck_189 : db_dck prog_5_method_2_code dbt_189 = true := by decide +kernel
theorem db_mck_189 : db_mck dbm_189 = true := by decide +kernel
theorem db_cod_189 : Cond.code dbm_189.1 dbm_189.2.1 dbm_189.2.2.1 dbm_189.2.2.2.1 ∈ db_T := db_tin 5 tables_1_6 rfl (List.mem_of_getElem? (i := 72) rfl) rfl
theorem db_dck_190 : db_dck prog_1_method_52_code dbt_190 = true := by decide +kernel
theorem db_mck_190 : db_mck dbm_190 = true := by decide +kernel
theorem db_cod_190 : Cond.code dbm_190.1 dbm_190.2.1 dbm_190.2.2.1 dbm_190.2.2.2.1 ∈ db_T := db_tin 5 tables_1_6 rfl (List.mem_of_getElem? (i := 79) rfl) rfl
theorem db_dck_191 : db_dck prog_5_method_4_code dbt_191 = true := by decide +kernel
theorem db_mck_191 : db_mck dbm_191 = true := by decide +kernel
theorem db_cod_191 : Cond.code dbm_191.1 dbm_191.2.1 dbm_191.2.2.1 dbm_191.2.2.2.1 ∈ db_T := db_tin 5 tables_1_6 rfl (List.mem_of_getElem? (i := 83) rfl) rfl
theorem db_dck_192 : db_dck prog_5_method_5_code dbt_192 = true := by decide +kernel
theorem db_mck_192 : db_mck dbm_192 = true := by decide +kernel
theorem db_cod_192 : Cond.code dbm_192.1 dbm_192.2.1 dbm_192.2.2.1 dbm_192.2.2.2.1 ∈ db_T := db_tin 5 tables_1_6 rfl (List.mem_of_getElem? (i := 87) rfl) rfl
theorem db_dck_193 : db_dck prog_1_method_53_code dbt_193 = true := by decide +kernel
theorem db_mck_193 : db_mck dbm_193 = true := by decide +kernel
theorem db_cod_193 : Cond.code dbm_193.1 dbm_193.2.1 dbm_193.2.2.1 dbm_193.2.2.2.1 ∈ db_T := db_tin 5 tables_1_6 rfl (List.mem_of_getElem? (i := 91) rfl) rfl
theorem db_dck_194 : db_dck prog_9_method_3_code dbt_194 = true := by decide +kernel
theorem db_mck_194 : db_mck dbm_194 = true := by decide +kernel
theorem db_cod_194 : Cond.code dbm_194.1 dbm_194.2.1 dbm_194.2.2.1 dbm_194.2.2.2.1 ∈ db_T := db_tin 5 tables_1_6 rfl (List.mem_of_getElem? (i := 95) rfl) rfl
theorem db_dck_195 : db_dck prog_9_method_4_code dbt_195 = true := by decide +kernel
theorem db_mck_195 : db_mck dbm_195 = true := by decide +kernel
theorem db_cod_195 : Cond.code dbm_195.1 dbm_195.2.1 dbm_195.2.2.1 dbm_195.2.2.2.1 ∈ db_T := db_tin 5 tables_1_6 rfl (List.mem_of_getElem? (i := 101) rfl) rfl
theorem db_dck_196 : db_dck prog_9_method_5_code dbt_196 = true := by decide +kernel
theorem db_mck_196 : db_mck dbm_196 = true := by decide +kernel
theorem db_cod_196 : Cond.code dbm_196.1 dbm_196.2.1 dbm_196.2.2.1 dbm_196.2.2.2.1 ∈ db_T := db_tin 5 tables_1_6 rfl (List.mem_of_getElem? (i := 105) rfl) rfl
theorem db_dck_197 : db_dck prog_9_method_7_code dbt_197 = true := by decide +kernel
theorem db_mck_197 : db_mck dbm_197 = true := by decide +kernel
theorem db_cod_197 : Cond.code dbm_197.1 dbm_197.2.1 dbm_197.2.2.1 dbm_197.2.2.2.1 ∈ db_T := db_tin 5 tables_1_6 rfl (List.mem_of_getElem? (i := 110) rfl) rfl
theorem db_dck_198 : db_dck prog_9_method_6_code dbt_198 = true := by decide +kernel
theorem db_mck_198 : db_mck dbm_198 = true := by decide +kernel
theorem db_cod_198 : Cond.code dbm_198.1 dbm_198.2.1 dbm_198.2.2.1 dbm_198.2.2.2.1 ∈ db_T := db_tin 5 tables_1_6 rfl (List.mem_of_getElem? (i := 117) rfl) rfl
theorem db_dck_199 : db_dck prog_15_method_56_code dbt_199 = true := by decide +kernel
theorem db_mck_199 : db_mck dbm_199 = true := by decide +kernel
theorem db_cod_199 : Cond.code dbm_199.1 dbm_199.2.1 dbm_199.2.2.1 dbm_199.2.2.2.1 ∈ db_T := db_tin 5 tables_1_6 rfl (List.mem_of_getElem? (i := 121) rfl) rfl
theorem db_dck_200 : db_dck prog_9_method_2_code dbt_200 = true := by decide +kernel
theorem db_mck_200 : db_mck dbm_200 = true := by decide +kernel
theorem db_cod_200 : Cond.code dbm_200.1 dbm_200.2.1 dbm_200.2.2.1 dbm_200.2.2.2.1 ∈ db_T := db_tin 5 tables_1_6 rfl (List.mem_of_getElem? (i := 125) rfl) rfl
theorem db_dck_201 : db_dck prog_1_method_54_code dbt_201 = true := by decide +kernel
theorem db_mck_201 : db_mck dbm_201 = true := by decide +kernel
theorem db_cod_201 : Cond.code dbm_201.1 dbm_201.2.1 dbm_201.2.2.1 dbm_201.2.2.2.1 ∈ db_T := db_tin 5 tables_1_6 rfl (List.mem_of_getElem? (i := 130) rfl) rfl
theorem db_dck_202 : db_dck prog_1_method_55_code dbt_202 = true := by decide +kernel
theorem db_mck_202 : db_mck dbm_202 = true := by decide +kernel
theorem db_cod_202 : Cond.code dbm_202.1 dbm_202.2.1 dbm_202.2.2.1 dbm_202.2.2.2.1 ∈ db_T := db_tin 5 tables_1_6 rfl (List.mem_of_getElem? (i := 134) rfl) rfl
theorem db_dck_203 : db_dck prog_9_method_9_code dbt_203 = true := by decide +kernel
theorem db_mck_203 : db_mck dbm_203 = true := by decide +kernel
theorem db_cod_203 : Cond.code dbm_203.1 dbm_203.2.1 dbm_203.2.2.1 dbm_203.2.2.2.1 ∈ db_T := db_tin 5 tables_1_6 rfl (List.mem_of_getElem? (i := 138) rfl) rfl
theorem db_dck_204 : db_dck prog_1_method_56_code dbt_204 = true := by decide +kernel
theorem db_mck_204 : db_mck dbm_204 = true := by decide +kernel
theorem db_cod_204 : Cond.code dbm_204.1 dbm_204.2.1 dbm_204.2.2.1 dbm_204.2.2.2.1 ∈ db_T := db_tin 5 tables_1_6 rfl (List.mem_of_getElem? (i := 145) rfl) rfl
theorem db_dck_205 : db_dck prog_1_method_57_code dbt_205 = true := by decide +kernel
theorem db_mck_205 : db_mck dbm_205 = true := by decide +kernel
theorem db_cod_205 : Cond.code dbm_205.1 dbm_205.2.1 dbm_205.2.2.1 dbm_205.2.2.2.1 ∈ db_T := db_tin 5 tables_1_6 rfl (List.mem_of_getElem? (i := 150) rfl) rfl
theorem db_dck_206 : db_dck prog_14_method_1_code dbt_206 = true := by decide +kernel
theorem db_mck_206 : db_mck dbm_206 = true := by decide +kernel
theorem db_cod_206 : Cond.code dbm_206.1 dbm_206.2.1 dbm_206.2.2.1 dbm_206.2.2.2.1 ∈ db_T := db_tin 5 tables_1_6 rfl (List.mem_of_getElem? (i := 155) rfl) rfl
theorem db_dck_207 : db_dck prog_14_method_3_code dbt_207 = true := by decide +kernel
theorem db_mck_207 : db_mck dbm_207 = true := by decide +kernel
theorem db_cod_207 : Cond.code dbm_207.1 dbm_207.2.1 dbm_207.2.2.1 dbm_207.2.2.2.1 ∈ db_T := db_tin 6 tables_1_7 rfl (List.mem_of_getElem? (i := 59) rfl) rfl
theorem db_dck_208 : db_dck prog_14_method_4_code dbt_208 = true := by decide +kernel
theorem db_mck_208 : db_mck dbm_208 = true := by decide +kernel
theorem db_cod_208 : Cond.code dbm_208.1 dbm_208.2.1 dbm_208.2.2.1 dbm_208.2.2.2.1 ∈ db_T := db_tin 6 tables_1_7 rfl (List.mem_of_getElem? (i := 63) rfl) rfl
theorem db_dck_209 : db_dck prog_14_method_5_code dbt_209 = true := by decide +kernel
theorem db_mck_209 : db_mck dbm_209 = true := by decide +kernel
theorem db_cod_209 : Cond.code dbm_209.1 dbm_209.2.1 dbm_209.2.2.1 dbm_209.2.2.2.1 ∈ db_T := db_tin 6 tables_1_7 rfl (List.mem_of_getElem? (i := 67) rfl) rfl
theorem db_dck_210 : db_dck prog_14_method_11_code dbt_210 = true := by decide +kernel
theorem db_mck_210 : db_mck dbm_210 = true := by decide +kernel
theorem db_cod_210 : Cond.code dbm_210.1 dbm_210.2.1 dbm_210.2.2.1 dbm_210.2.2.2.1 ∈ db_T := db_tin 6 tables_1_7 rfl (List.mem_of_getElem? (i := 71) rfl) rfl
theorem db_dck_211 : db_dck prog_14_method_7_code dbt_211 = true := by decide +kernel
theorem db_mck_211 : db_mck dbm_211 = true := by decide +kernel
theorem db_cod_211 : Cond.code dbm_211.1 dbm_211.2.1 dbm_211.2.2.1 dbm_211.2.2.2.1 ∈ db_T := db_tin 6 tables_1_7 rfl (List.mem_of_getElem? (i := 75) rfl) rfl
theorem db_dck_212 : db_dck prog_14_method_14_code dbt_212 = true := by decide +kernel
theorem db_mck_212 : db_mck dbm_212 = true := by decide +kernel
theorem db_cod_212 : Cond.code dbm_212.1 dbm_212.2.1 dbm_212.2.2.1 dbm_212.2.2.2.1 ∈ db_T := db_tin 6 tables_1_7 rfl (List.mem_of_getElem? (i := 79) rfl) rfl
theorem db_dck_213 : db_dck prog_14_method_13_code dbt_213 = true := by decide +kernel
theorem db_mck_213 : db_mck dbm_213 = true := by decide +kernel
theorem db_cod_213 : Cond.code dbm_213.1 dbm_213.2.1 dbm_213.2.2.1 dbm_213.2.2.2.1 ∈ db_T := db_tin 6 tables_1_7 rfl (List.mem_of_getElem? (i := 83) rfl) rfl
theorem db_dck_214 : db_dck prog_14_method_12_code dbt_214 = true := by decide +kernel
theorem db_mck_214 : db_mck dbm_214 = true := by decide +kernel
theorem db_cod_214 : Cond.code dbm_214.1 dbm_214.2.1 dbm_214.2.2.1 dbm_214.2.2.2.1 ∈ db_T := db_tin 6 tables_1_7 rfl (List.mem_of_getElem? (i := 87) rfl) rfl
theorem db_dck_215 : db_dck prog_14_method_10_code dbt_215 = true := by decide +kernel
theorem db_mck_215 : db_mck dbm_215 = true := by decide +kernel
theorem db_cod_215 : Cond.code dbm_215.1 dbm_215.2.1 dbm_215.2.2.1 dbm_215.2.2.2.1 ∈ db_T := db_tin 6 tables_1_7 rfl (List.mem_of_getElem? (i := 90) rfl) rfl
theorem db_dck_216 : db_dck prog_14_method_15_code dbt_216 = true := by decide +kernel
theorem db_mck_216 : db_mck dbm_216 = true := by decide +kernel
theorem db_cod_216 : Cond.code dbm_216.1 dbm_216.2.1 dbm_216.2.2.1 dbm_216.2.2.2.1 ∈ db_T := db_tin 6 tables_1_7 rfl (List.mem_of_getElem? (i := 94) rfl) rfl
theorem db_dck_217 : db_dck prog_14_method_16_code dbt_217 = true := by decide +kernel
theorem db_mck_217 : db_mck dbm_217 = true := by decide +kernel
theorem db_cod_217 : Cond.code dbm_217.1 dbm_217.2.1 dbm_217.2.2.1 dbm_217.2.2.2.1 ∈ db_T := db_tin 6 tables_1_7 rfl (List.mem_of_getElem? (i := 99) rfl) rfl
theorem db_dck_218 : db_dck prog_14_method_56_code dbt_218 = true := by decide +kernel
theorem db_mck_218 : db_mck dbm_218 = true := by decide +kernel
theorem db_cod_218 : Cond.code dbm_218.1 dbm_218.2.1 dbm_218.2.2.1 dbm_218.2.2.2.1 ∈ db_T := db_tin 6 tables_1_7 rfl (List.mem_of_getElem? (i := 103) rfl) rfl
theorem db_dck_219 : db_dck prog_14_method_57_code dbt_219 = true := by decide +kernel
theorem db_mck_219 : db_mck dbm_219 = true := by decide +kernel
theorem db_cod_219 : Cond.code dbm_219.1 dbm_219.2.1 dbm_219.2.2.1 dbm_219.2.2.2.1 ∈ db_T := db_tin 6 tables_1_7 rfl (List.mem_of_getElem? (i := 107) rfl) rfl
theorem db_dck_220 : db_dck prog_14_method_60_code dbt_220 = true := by decide +kernel
theorem db_mck_220 : db_mck dbm_220 = true := by decide +kernel
theorem db_cod_220 : Cond.code dbm_220.1 dbm_220.2.1 dbm_220.2.2.1 dbm_220.2.2.2.1 ∈ db_T := db_tin 6 tables_1_7 rfl (List.mem_of_getElem? (i := 111) rfl) rfl
theorem db_dck_221 : db_dck prog_14_method_76_code dbt_221 = true := by decide +kernel
theorem db_mck_221 : db_mck dbm_221 = true := by decide +kernel
theorem db_cod_221 : Cond.code dbm_221.1 dbm_221.2.1 dbm_221.2.2.1 dbm_221.2.2.2.1 ∈ db_T := db_tin 6 tables_1_7 rfl (List.mem_of_getElem? (i := 115) rfl) rfl
theorem db_dck_222 : db_dck prog_14_method_58_code dbt_222 = true := by decide +kernel
theorem db_mck_222 : db_mck dbm_222 = true := by decide +kernel
theorem db_cod_222 : Cond.code dbm_222.1 dbm_222.2.1 dbm_222.2.2.1 dbm_222.2.2.2.1 ∈ db_T := db_tin 6 tables_1_7 rfl (List.mem_of_getElem? (i := 119) rfl) rfl
theorem db_dck_223 : db_dck prog_14_method_25_code dbt_223 = true := by decide +kernel
theorem db_mck_223 : db_mck dbm_223 = true := by decide +kernel
theorem db_cod_223 : Cond.code dbm_223.1 dbm_223.2.1 dbm_223.2.2.1 dbm_223.2.2.2.1 ∈ db_T := db_tin 6 tables_1_7 rfl (List.mem_of_getElem? (i := 123) rfl) rfl
theorem db_dck_224 : db_dck prog_14_method_21_code dbt_224 = true := by decide +kernel
theorem db_mck_224 : db_mck dbm_224 = true := by decide +kernel
theorem db_cod_224 : Cond.code dbm_224.1 dbm_224.2.1 dbm_224.2.2.1 dbm_224.2.2.2.1 ∈ db_T := db_tin 6 tables_1_7 rfl (List.mem_of_getElem? (i := 127) rfl) rfl
theorem db_dck_225 : db_dck prog_14_method_22_code dbt_225 = true := by decide +kernel
theorem db_mck_225 : db_mck dbm_225 = true := by decide +kernel
theorem db_cod_225 : Cond.code dbm_225.1 dbm_225.2.1 dbm_225.2.2.1 dbm_225.2.2.2.1 ∈ db_T := db_tin 6 tables_1_7 rfl (List.mem_of_getElem? (i := 130) rfl) rfl
theorem db_dck_226 : db_dck prog_14_method_23_code dbt_226 = true := by decide +kernel
theorem db_mck_226 : db_mck dbm_226 = true := by decide +kernel
theorem db_cod_226 : Cond.code dbm_226.1 dbm_226.2.1 dbm_226.2.2.1 dbm_226.2.2.2.1 ∈ db_T := db_tin 6 tables_1_7 rfl (List.mem_of_getElem? (i := 135) rfl) rfl
theorem db_dck_227 : db_dck prog_14_method_24_code dbt_227 = true := by decide +kernel
theorem db_mck_227 : db_mck dbm_227 = true := by decide +kernel
theorem db_cod_227 : Cond.code dbm_227.1 dbm_227.2.1 dbm_227.2.2.1 dbm_227.2.2.2.1 ∈ db_T := db_tin 6 tables_1_7 rfl (List.mem_of_getElem? (i := 139) rfl) rfl
