theorem db_dck_228 : db_dck prog_14_method_29_code dbt_228 = true := by decide +kernel
theorem db_mck_228 : db_mck dbm_228 = true := by decide +kernel
theorem db_cod_228 : Cond.code dbm_228.1 dbm_228.2.1 dbm_228.2.2.1 dbm_228.2.2.2.1 ∈ db_T := db_tin 6 tables_1_7 rfl (List.mem_of_getElem? (i := 143) rfl) rfl
theorem db_dck_229 : db_dck prog_14_method_27_code dbt_229 = true := by decide +kernel
theorem db_mck_229 : db_mck dbm_229 = true := by decide +kernel
theorem db_cod_229 : Cond.code dbm_229.1 dbm_229.2.1 dbm_229.2.2.1 dbm_229.2.2.2.1 ∈ db_T := db_tin 6 tables_1_7 rfl (List.mem_of_getElem? (i := 146) rfl) rfl
theorem db_dck_230 : db_dck prog_14_method_28_code dbt_230 = true := by decide +kernel
theorem db_mck_230 : db_mck dbm_230 = true := by decide +kernel
theorem db_cod_230 : Cond.code dbm_230.1 dbm_230.2.1 dbm_230.2.2.1 dbm_230.2.2.2.1 ∈ db_T := db_tin 6 tables_1_7 rfl (List.mem_of_getElem? (i := 150) rfl) rfl
theorem db_dck_231 : db_dck prog_14_method_69_code dbt_231 = true := by decide +kernel
theorem db_mck_231 : db_mck dbm_231 = true := by decide +kernel
theorem db_cod_231 : Cond.code dbm_231.1 dbm_231.2.1 dbm_231.2.2.1 dbm_231.2.2.2.1 ∈ db_T := db_tin 6 tables_1_7 rfl (List.mem_of_getElem? (i := 154) rfl) rfl
theorem db_dck_232 : db_dck prog_14_method_65_code dbt_232 = true := by decide +kernel
theorem db_mck_232 : db_mck dbm_232 = true := by decide +kernel
theorem db_cod_232 : Cond.code dbm_232.1 dbm_232.2.1 dbm_232.2.2.1 dbm_232.2.2.2.1 ∈ db_T := db_tin 6 tables_1_7 rfl (List.mem_of_getElem? (i := 158) rfl) rfl
theorem db_dck_233 : db_dck prog_14_method_62_code dbt_233 = true := by decide +kernel
theorem db_mck_233 : db_mck dbm_233 = true := by decide +kernel
theorem db_cod_233 : Cond.code dbm_233.1 dbm_233.2.1 dbm_233.2.2.1 dbm_233.2.2.2.1 ∈ db_T := db_tin 6 tables_1_7 rfl (List.mem_of_getElem? (i := 162) rfl) rfl
theorem db_dck_234 : db_dck prog_14_method_52_code dbt_234 = true := by decide +kernel
theorem db_mck_234 : db_mck dbm_234 = true := by decide +kernel
theorem db_cod_234 : Cond.code dbm_234.1 dbm_234.2.1 dbm_234.2.2.1 dbm_234.2.2.2.1 ∈ db_T := db_tin 6 tables_1_7 rfl (List.mem_of_getElem? (i := 166) rfl) rfl
theorem db_dck_235 : db_dck prog_14_method_51_code dbt_235 = true := by decide +kernel
theorem db_mck_235 : db_mck dbm_235 = true := by decide +kernel
theorem db_cod_235 : Cond.code dbm_235.1 dbm_235.2.1 dbm_235.2.2.1 dbm_235.2.2.2.1 ∈ db_T := db_tin 6 tables_1_7 rfl (List.mem_of_getElem? (i := 170) rfl) rfl
theorem db_dck_236 : db_dck prog_14_method_50_code dbt_236 = true := by decide +kernel
theorem db_mck_236 : db_mck dbm_236 = true := by decide +kernel
theorem db_cod_236 : Cond.code dbm_236.1 dbm_236.2.1 dbm_236.2.2.1 dbm_236.2.2.2.1 ∈ db_T := db_tin 6 tables_1_7 rfl (List.mem_of_getElem? (i := 174) rfl) rfl
theorem db_dck_237 : db_dck prog_14_method_30_code dbt_237 = true := by decide +kernel
theorem db_mck_237 : db_mck dbm_237 = true := by decide +kernel
theorem db_cod_237 : Cond.code dbm_237.1 dbm_237.2.1 dbm_237.2.2.1 dbm_237.2.2.2.1 ∈ db_T := db_tin 6 tables_1_7 rfl (List.mem_of_getElem? (i := 178) rfl) rfl
theorem db_dck_238 : db_dck prog_14_method_31_code dbt_238 = true := by decide +kernel
theorem db_mck_238 : db_mck dbm_238 = true := by decide +kernel
theorem db_cod_238 : Cond.code dbm_238.1 dbm_238.2.1 dbm_238.2.2.1 dbm_238.2.2.2.1 ∈ db_T := db_tin 6 tables_1_7 rfl (List.mem_of_getElem? (i := 182) rfl) rfl
theorem db_dck_239 : db_dck prog_14_method_32_code dbt_239 = true := by decide +kernel
theorem db_mck_239 : db_mck dbm_239 = true := by decide +kernel
theorem db_cod_239 : Cond.code dbm_239.1 dbm_239.2.1 dbm_239.2.2.1 dbm_239.2.2.2.1 ∈ db_T := db_tin 6 tables_1_7 rfl (List.mem_of_getElem? (i := 186) rfl) rfl
theorem db_dck_240 : db_dck prog_14_method_33_code dbt_240 = true := by decide +kernel
theorem db_mck_240 : db_mck dbm_240 = true := by decide +kernel
theorem db_cod_240 : Cond.code dbm_240.1 dbm_240.2.1 dbm_240.2.2.1 dbm_240.2.2.2.1 ∈ db_T := db_tin 6 tables_1_7 rfl (List.mem_of_getElem? (i := 190) rfl) rfl
theorem db_dck_241 : db_dck prog_14_method_34_code dbt_241 = true := by decide +kernel
theorem db_mck_241 : db_mck dbm_241 = true := by decide +kernel
theorem db_cod_241 : Cond.code dbm_241.1 dbm_241.2.1 dbm_241.2.2.1 dbm_241.2.2.2.1 ∈ db_T := db_tin 6 tables_1_7 rfl (List.mem_of_getElem? (i := 194) rfl) rfl
theorem db_dck_242 : db_dck prog_14_method_35_code dbt_242 = true := by decide +kernel
theorem db_mck_242 : db_mck dbm_242 = true := by decide +kernel
theorem db_cod_242 : Cond.code dbm_242.1 dbm_242.2.1 dbm_242.2.2.1 dbm_242.2.2.2.1 ∈ db_T := db_tin 6 tables_1_7 rfl (List.mem_of_getElem? (i := 198) rfl) rfl
theorem db_dck_243 : db_dck prog_14_method_36_code dbt_243 = true := by decide +kernel
theorem db_mck_243 : db_mck dbm_243 = true := by decide +kernel
theorem db_cod_243 : Cond.code dbm_243.1 dbm_243.2.1 dbm_243.2.2.1 dbm_243.2.2.2.1 ∈ db_T := db_tin 6 tables_1_7 rfl (List.mem_of_getElem? (i := 202) rfl) rfl
theorem db_dck_244 : db_dck prog_14_method_37_code dbt_244 = true := by decide +kernel
theorem db_mck_244 : db_mck dbm_244 = true := by decide +kernel
theorem db_cod_244 : Cond.code dbm_244.1 dbm_244.2.1 dbm_244.2.2.1 dbm_244.2.2.2.1 ∈ db_T := db_tin 6 tables_1_7 rfl (List.mem_of_getElem? (i := 206) rfl) rfl
theorem db_dck_245 : db_dck prog_14_method_38_code dbt_245 = true := by decide +kernel
theorem db_mck_245 : db_mck dbm_245 = true := by decide +kernel
theorem db_cod_245 : Cond.code dbm_245.1 dbm_245.2.1 dbm_245.2.2.1 dbm_245.2.2.2.1 ∈ db_T := db_tin 6 tables_1_7 rfl (List.mem_of_getElem? (i := 210) rfl) rfl
theorem db_dck_246 : db_dck prog_14_method_39_code dbt_246 = true := by decide +kernel
theorem db_mck_246 : db_mck dbm_246 = true := by decide +kernel
theorem db_cod_246 : Cond.code dbm_246.1 dbm_246.2.1 dbm_246.2.2.1 dbm_246.2.2.2.1 ∈ db_T := db_tin 6 tables_1_7 rfl (List.mem_of_getElem? (i := 214) rfl) rfl
theorem db_dck_247 : db_dck prog_14_method_40_code dbt_247 = true := by decide +kernel
theorem db_mck_247 : db_mck dbm_247 = true := by decide +kernel
theorem db_cod_247 : Cond.code dbm_247.1 dbm_247.2.1 dbm_247.2.2.1 dbm_247.2.2.2.1 ∈ db_T := db_tin 6 tables_1_7 rfl (List.mem_of_getElem? (i := 218) rfl) rfl
theorem db_dck_248 : db_dck prog_14_method_41_code dbt_248 = true := by decide +kernel
theorem db_mck_248 : db_mck dbm_248 = true := by decide +kernel
theorem db_cod_248 : Cond.code dbm_248.1 dbm_248.2.1 dbm_248.2.2.1 dbm_248.2.2.2.1 ∈ db_T := db_tin 6 tables_1_7 rfl (List.mem_of_getElem? (i := 222) rfl) rfl
theorem db_dck_249 : db_dck prog_14_method_42_code dbt_249 = true := by decide +kernel
theorem db_mck_249 : db_mck dbm_249 = true := by decide +kernel
theorem db_cod_249 : Cond.code dbm_249.1 dbm_249.2.1 dbm_249.2.2.1 dbm_249.2.2.2.1 ∈ db_T := db_tin 6 tables_1_7 rfl (List.mem_of_getElem? (i := 226) rfl) rfl
theorem db_dck_250 : db_dck prog_14_method_43_code dbt_250 = true := by decide +kernel
theorem db_mck_250 : db_mck dbm_250 = true := by decide +kernel
theorem db_cod_250 : Cond.code dbm_250.1 dbm_250.2.1 dbm_250.2.2.1 dbm_250.2.2.2.1 ∈ db_T := db_tin 6 tables_1_7 rfl (List.mem_of_getElem? (i := 230) rfl) rfl
theorem db_dck_251 : db_dck prog_14_method_44_code dbt_251 = true := by decide +kernel
theorem db_mck_251 : db_mck dbm_251 = true := by decide +kernel
theorem db_cod_251 : Cond.code dbm_251.1 dbm_251.2.1 dbm_251.2.2.1 dbm_251.2.2.2.1 ∈ db_T := db_tin 6 tables_1_7 rfl (List.mem_of_getElem? (i := 235) rfl) rfl
theorem db_dck_252 : db_dck prog_14_method_45_code dbt_252 = true := by decide +kernel
theorem db_mck_252 : db_mck dbm_252 = true := by decide +kernel
theorem db_cod_252 : Cond.code dbm_252.1 dbm_252.2.1 dbm_252.2.2.1 dbm_252.2.2.2.1 ∈ db_T := db_tin 6 tables_1_7 rfl (List.mem_of_getElem? (i := 239) rfl) rfl
theorem db_dck_253 : db_dck prog_14_method_46_code dbt_253 = true := by decide +kernel
theorem db_mck_253 : db_mck dbm_253 = true := by decide +kernel
theorem db_cod_253 : Cond.code dbm_253.1 dbm_253.2.1 dbm_253.2.2.1 dbm_253.2.2.2.1 ∈ db_T := db_tin 7 tables_1_8 rfl (List.mem_of_getElem? (i := 3) rfl) rfl
theorem db_dck_254 : db_dck prog_14_method_47_code dbt_254 = true := by decide +kernel
theorem db_mck_254 : db_mck dbm_254 = true := by decide +kernel
theorem db_cod_254 : Cond.code dbm_254.1 dbm_254.2.1 dbm_254.2.2.1 dbm_254.2.2.2.1 ∈ db_T := db_tin 7 tables_1_8 rfl (List.mem_of_getElem? (i := 7) rfl) rfl
theorem db_dck_255 : db_dck prog_14_method_48_code dbt_255 = true := by decide +kernel
theorem db_mck_255 : db_mck dbm_255 = true := by decide +kernel
theorem db_cod_255 : Cond.code dbm_255.1 dbm_255.2.1 dbm_255.2.2.1 dbm_255.2.2.2.1 ∈ db_T := db_tin 7 tables_1_8 rfl (List.mem_of_getElem? (i := 11) rfl) rfl
theorem db_dck_256 : db_dck prog_14_method_49_code dbt_256 = true := by decide +kernel
theorem db_mck_256 : db_mck dbm_256 = true := by decide +kernel
theorem db_cod_256 : Cond.code dbm_256.1 dbm_256.2.1 dbm_256.2.2.1 dbm_256.2.2.2.1 ∈ db_T := db_tin 7 tables_1_8 rfl (List.mem_of_getElem? (i := 15) rfl) rfl
theorem db_dck_257 : db_dck prog_14_method_53_code dbt_257 = true := by decide +kernel
theorem db_mck_257 : db_mck dbm_257 = true := by decide +kernel
theorem db_cod_257 : Cond.code dbm_257.1 dbm_257.2.1 dbm_257.2.2.1 dbm_257.2.2.2.1 ∈ db_T := db_tin 7 tables_1_8 rfl (List.mem_of_getElem? (i := 19) rfl) rfl
theorem db_dck_258 : db_dck prog_14_method_64_code dbt_258 = true := by decide +kernel
theorem db_mck_258 : db_mck dbm_258 = true := by decide +kernel
theorem db_cod_258 : Cond.code dbm_258.1 dbm_258.2.1 dbm_258.2.2.1 dbm_258.2.2.2.1 ∈ db_T := db_tin 7 tables_1_8 rfl (List.mem_of_getElem? (i := 23) rfl) rfl
theorem db_dck_259 : db_dck prog_14_method_63_code dbt_259 = true := by decide +kernel
theorem db_mck_259 : db_mck dbm_259 = true := by decide +kernel
theorem db_cod_259 : Cond.code dbm_259.1 dbm_259.2.1 dbm_259.2.2.1 dbm_259.2.2.2.1 ∈ db_T := db_tin 7 tables_1_8 rfl (List.mem_of_getElem? (i := 27) rfl) rfl
theorem db_dck_260 : db_dck prog_14_method_61_code dbt_260 = true := by decide +kernel
theorem db_mck_260 : db_mck dbm_260 = true := by decide +kernel
theorem db_cod_260 : Cond.code dbm_260.1 dbm_260.2.1 dbm_260.2.2.1 dbm_260.2.2.2.1 ∈ db_T := db_tin 7 tables_1_8 rfl (List.mem_of_getElem? (i := 30) rfl) rfl
theorem db_dck_261 : db_dck prog_14_method_70_code dbt_261 = true := by decide +kernel
theorem db_mck_261 : db_mck dbm_261 = true := by decide +kernel
theorem db_cod_261 : Cond.code dbm_261.1 dbm_261.2.1 dbm_261.2.2.1 dbm_261.2.2.2.1 ∈ db_T := db_tin 7 tables_1_8 rfl (List.mem_of_getElem? (i := 34) rfl) rfl
theorem db_dck_262 : db_dck prog_14_method_71_code dbt_262 = true := by decide +kernel
theorem db_mck_262 : db_mck dbm_262 = true := by decide +kernel
theorem db_cod_262 : Cond.code dbm_262.1 dbm_262.2.1 dbm_262.2.2.1 dbm_262.2.2.2.1 ∈ db_T := db_tin 7 tables_1_8 rfl (List.mem_of_getElem? (i := 38) rfl) rfl
theorem db_dck_263 : db_dck prog_14_method_73_code dbt_263 = true := by decide +kernel
theorem db_mck_263 : db_mck dbm_263 = true := by decide +kernel
theorem db_cod_263 : Cond.code dbm_263.1 dbm_263.2.1 dbm_263.2.2.1 dbm_263.2.2.2.1 ∈ db_T := db_tin 7 tables_1_8 rfl (List.mem_of_getElem? (i := 42) rfl) rfl
theorem db_dck_264 : db_dck prog_14_method_54_code dbt_264 = true := by decide +kernel
theorem db_mck_264 : db_mck dbm_264 = true := by decide +kernel
theorem db_cod_264 : Cond.code dbm_264.1 dbm_264.2.1 dbm_264.2.2.1 dbm_264.2.2.2.1 ∈ db_T := db_tin 7 tables_1_8 rfl (List.mem_of_getElem? (i := 46) rfl) rfl
theorem db_dck_265 : db_dck prog_14_method_67_code dbt_265 = true := by decide +kernel
theorem db_mck_265 : db_mck dbm_265 = true := by decide +kernel
theorem db_cod_265 : Cond.code dbm_265.1 dbm_265.2.1 dbm_265.2.2.1 dbm_265.2.2.2.1 ∈ db_T := db_tin 7 tables_1_8 rfl (List.mem_of_getElem? (i := 50) rfl) rfl
theorem db_dck_266 : db_dck prog_14_method_66_code dbt_266 = true := by decide +kernel
theorem db_mck_266 : db_mck dbm_266 = true := by decide +kernel
theorem db_cod_266 : Cond.code dbm_266.1 dbm_266.2.1 dbm_266.2.2.1 dbm_266.2.2.2.1 ∈ db_T := db_tin 7 tables_1_8 rfl (List.mem_of_getElem? (i := 54) rfl) rfl
theorem db_dck_267 : db_dck prog_14_method_72_code dbt_267 = true := by decide +kernel
theorem db_mck_267 : db_mck dbm_267 = true := by decide +kernel
theorem db_cod_267 : Cond.code dbm_267.1 dbm_267.2.1 dbm_267.2.2.1 dbm_267.2.2.2.1 ∈ db_T := db_tin 7 tables_1_8 rfl (List.mem_of_getElem? (i := 61) rfl) rfl
theorem db_dck_268 : db_dck prog_14_method_55_code dbt_268 = true := by decide +kernel
theorem db_mck_268 : db_mck dbm_268 = true := by decide +kernel
theorem db_cod_268 : Cond.code dbm_268.1 dbm_268.2.1 dbm_268.2.2.1 dbm_268.2.2.2.1 ∈ db_T := db_tin 7 tables_1_8 rfl (List.mem_of_getElem? (i := 65) rfl) rfl
theorem db_dck_269 : db_dck prog_14_method_8_code dbt_269 = true := by decide +kernel
theorem db_mck_269 : db_mck dbm_269 = true := by decide +kernel
theorem db_cod_269 : Cond.code dbm_269.1 dbm_269.2.1 dbm_269.2.2.1 dbm_269.2.2.2.1 ∈ db_T := db_tin 7 tables_1_8 rfl (List.mem_of_getElem? (i := 68) rfl) rfl
theorem db_dck_270 : db_dck prog_14_method_68_code dbt_270 = true := by decide +kernel
theorem db_mck_270 : db_mck dbm_270 = true := by decide +kernel
theorem db_cod_270 : Cond.code dbm_270.1 dbm_270.2.1 dbm_270.2.2.1 dbm_270.2.2.2.1 ∈ db_T := db_tin 7 tables_1_8 rfl (List.mem_of_getElem? (i := 72) rfl) rfl
theorem db_dck_271 : db_dck prog_14_method_74_code dbt_271 = true := by decide +kernel
theorem db_mck_271 : db_mck dbm_271 = true := by decide +kernel
theorem db_cod_271 : Cond.code dbm_271.1 dbm_271.2.1 dbm_271.2.2.1 dbm_271.2.2.2.1 ∈ db_T := db_tin 7 tables_1_8 rfl (List.mem_of_getElem? (i := 76) rfl) rfl
theorem db_dck_272 : db_dck prog_14_method_75_code dbt_272 = true := by decide +kernel
theorem db_mck_272 : db_mck dbm_272 = true := by decide +kernel
theorem db_cod_272 : Cond.code dbm_272.1 dbm_272.2.1 dbm_272.2.2.1 dbm_272.2.2.2.1 ∈ db_T := db_tin 7 tables_1_8 rfl (List.mem_of_getElem? (i := 80) rfl) rfl
theorem db_dck_273 : db_dck prog_14_method_26_code dbt_273 = true := by decide +kernel
theorem db_mck_273 : db_mck dbm_273 = true := by decide +kernel
theorem db_cod_273 : Cond.code dbm_273.1 dbm_273.2.1 dbm_273.2.2.1 dbm_273.2.2.2.1 ∈ db_T := db_tin 7 tables_1_8 rfl (List.mem_of_getElem? (i := 84) rfl) rfl
theorem db_dck_274 : db_dck prog_14_method_59_code dbt_274 = true := by decide +kernel
theorem db_mck_274 : db_mck dbm_274 = true := by decide +kernel
theorem db_cod_274 : Cond.code dbm_274.1 dbm_274.2.1 dbm_274.2.2.1 dbm_274.2.2.2.1 ∈ db_T := db_tin 7 tables_1_8 rfl (List.mem_of_getElem? (i := 88) rfl) rfl
theorem db_dck_275 : db_dck prog_14_method_171_code dbt_275 = true := by decide +kernel
theorem db_mck_275 : db_mck dbm_275 = true := by decide +kernel
theorem db_cod_275 : Cond.code dbm_275.1 dbm_275.2.1 dbm_275.2.2.1 dbm_275.2.2.2.1 ∈ db_T := db_tin 7 tables_1_8 rfl (List.mem_of_getElem? (i := 92) rfl) rfl
theorem db_dck_276 : db_dck prog_14_method_80_code dbt_276 = true := by decide +kernel
theorem db_mck_276 : db_mck dbm_276 = true := by decide +kernel
theorem db_cod_276 : Cond.code dbm_276.1 dbm_276.2.1 dbm_276.2.2.1 dbm_276.2.2.2.1 ∈ db_T := db_tin 7 tables_1_8 rfl (List.mem_of_getElem? (i := 96) rfl) rfl
theorem db_dck_277 : db_dck prog_14_method_79_code dbt_277 = true := by decide +kernel
theorem db_mck_277 : db_mck dbm_277 = true := by decide +kernel
theorem db_cod_277 : Cond.code dbm_277.1 dbm_277.2.1 dbm_277.2.2.1 dbm_277.2.2.2.1 ∈ db_T := db_tin 7 tables_1_8 rfl (List.mem_of_getElem? (i := 100) rfl) rfl
theorem db_dck_278 : db_dck prog_14_method_78_code dbt_278 = true := by decide +kernel
theorem db_mck_278 : db_mck dbm_278 = true := by decide +kernel
theorem db_cod_278 : Cond.code dbm_278.1 dbm_278.2.1 dbm_278.2.2.1 dbm_278.2.2.2.1 ∈ db_T := db_tin 7 tables_1_8 rfl (List.mem_of_getElem? (i := 104) rfl) rfl
theorem db_dck_279 : db_dck prog_14_method_77_code dbt_279 = true := by decide +kernel
theorem db_mck_279 : db_mck dbm_279 = true := by decide +kernel
theorem db_cod_279 : Cond.code dbm_279.1 dbm_279.2.1 dbm_279.2.2.1 dbm_279.2.2.2.1 ∈ db_T := db_tin 7 tables_1_8 rfl (List.mem_of_getElem? (i := 108) rfl) rfl
theorem db_dck_280 : db_dck prog_14_method_93_code dbt_280 = true := by decide +kernel
theorem db_mck_280 : db_mck dbm_280 = true := by decide +kernel
theorem db_cod_280 : Cond.code dbm_280.1 dbm_280.2.1 dbm_280.2.2.1 dbm_280.2.2.2.1 ∈ db_T := db_tin 7 tables_1_8 rfl (List.mem_of_getElem? (i := 112) rfl) rfl
theorem db_dck_281 : db_dck prog_14_method_6_code dbt_281 = true := by decide +kernel
theorem db_mck_281 : db_mck dbm_281 = true := by decide +kernel
theorem db_cod_281 : Cond.code dbm_281.1 dbm_281.2.1 dbm_281.2.2.1 dbm_281.2.2.2.1 ∈ db_T := db_tin 7 tables_1_8 rfl (List.mem_of_getElem? (i := 117) rfl) rfl
theorem db_dck_282 : db_dck prog_14_method_87_code dbt_282 = true := by decide +kernel
theorem db_mck_282 : db_mck dbm_282 = true := by decide +kernel
theorem db_cod_282 : Cond.code dbm_282.1 dbm_282.2.1 dbm_282.2.2.1 dbm_282.2.2.2.1 ∈ db_T := db_tin 7 tables_1_8 rfl (List.mem_of_getElem? (i := 121) rfl) rfl
theorem db_dck_283 : db_dck prog_14_method_91_code dbt_283 = true := by decide +kernel
theorem db_mck_283 : db_mck dbm_283 = true := by decide +kernel
theorem db_cod_283 : Cond.code dbm_283.1 dbm_283.2.1 dbm_283.2.2.1 dbm_283.2.2.2.1 ∈ db_T := db_tin 7 tables_1_8 rfl (List.mem_of_getElem? (i := 125) rfl) rfl
theorem db_dck_284 : db_dck prog_14_method_90_code dbt_284 = true := by decide +kernel
theorem db_mck_284 : db_mck dbm_284 = true := by decide +kernel
theorem db_cod_284 : Cond.code dbm_284.1 dbm_284.2.1 dbm_284.2.2.1 dbm_284.2.2.2.1 ∈ db_T := db_tin 7 tables_1_8 rfl (List.mem_of_getElem? (i := 129) rfl) rfl
theorem db_dck_285 : db_dck prog_14_method_89_code dbt_285 = true := by decide +kernel
theorem db_mck_285 : db_mck dbm_285 = true := by decide +kernel
theorem db_cod_285 : Cond.code dbm_285.1 dbm_285.2.1 dbm_285.2.2.1 dbm_285.2.2.2.1 ∈ db_T := db_tin 7 tables_1_8 rfl (List.mem_of_getElem? (i := 133) rfl) rfl
theorem db_dck_286 : db_dck prog_14_method_88_code dbt_286 = true := by decide +kernel
theorem db_mck_286 : db_mck dbm_286 = true := by decide +kernel
theorem db_cod_286 : Cond.code dbm_286.1 dbm_286.2.1 dbm_286.2.2.1 dbm_286.2.2.2.1 ∈ db_T := db_tin 7 tables_1_8 rfl (List.mem_of_getElem? (i := 137) rfl) rfl
theorem db_dck_287 : db_dck prog_14_method_19_code dbt_287 = true := by decide +kernel
theorem db_mck_287 : db_mck dbm_287 = true := by decide +kernel
theorem db_cod_287 : Cond.code dbm_287.1 dbm_287.2.1 dbm_287.2.2.1 dbm_287.2.2.2.1 ∈ db_T := db_tin 7 tables_1_8 rfl (List.mem_of_getElem? (i := 140) rfl) rfl
theorem db_dck_288 : db_dck prog_14_method_94_code dbt_288 = true := by decide +kernel
theorem db_mck_288 : db_mck dbm_288 = true := by decide +kernel
theorem db_cod_288 : Cond.code dbm_288.1 dbm_288.2.1 dbm_288.2.2.1 dbm_288.2.2.2.1 ∈ db_T := db_tin 7 tables_1_8 rfl (List.mem_of_getElem? (i := 144) rfl) rfl
theorem db_dck_289 : db_dck prog_14_method_84_code dbt_289 = true := by decide +kernel
theorem db_mck_289 : db_mck dbm_289 = true := by decide +kernel
theorem db_cod_289 : Cond.code dbm_289.1 dbm_289.2.1 dbm_289.2.2.1 dbm_289.2.2.2.1 ∈ db_T := db_tin 7 tables_1_8 rfl (List.mem_of_getElem? (i := 148) rfl) rfl
theorem db_dck_290 : db_dck prog_14_method_92_code dbt_290 = true := by decide +kernel
theorem db_mck_290 : db_mck dbm_290 = true := by decide +kernel
theorem db_cod_290 : Cond.code dbm_290.1 dbm_290.2.1 dbm_290.2.2.1 dbm_290.2.2.2.1 ∈ db_T := db_tin 7 tables_1_8 rfl (List.mem_of_getElem? (i := 153) rfl) rfl
theorem db_dck_291 : db_dck prog_14_method_95_code dbt_291 = true := by decide +kernel
theorem db_mck_291 : db_mck dbm_291 = true := by decide +kernel
theorem db_cod_291 : Cond.code dbm_291.1 dbm_291.2.1 dbm_291.2.2.1 dbm_291.2.2.2.1 ∈ db_T := db_tin 7 tables_1_8 rfl (List.mem_of_getElem? (i := 160) rfl) rfl
theorem db_dck_292 : db_dck prog_14_method_82_code dbt_292 = true := by decide +kernel
theorem db_mck_292 : db_mck dbm_292 = true := by decide +kernel
theorem db_cod_292 : Cond.code dbm_292.1 dbm_292.2.1 dbm_292.2.2.1 dbm_292.2.2.2.1 ∈ db_T := db_tin 7 tables_1_8 rfl (List.mem_of_getElem? (i := 164) rfl) rfl
theorem db_dck_293 : db_dck prog_14_method_96_code dbt_293 = true := by decide +kernel
theorem db_mck_293 : db_mck dbm_293 = true := by decide +kernel
theorem db_cod_293 : Cond.code dbm_293.1 dbm_293.2.1 dbm_293.2.2.1 dbm_293.2.2.2.1 ∈ db_T := db_tin 7 tables_1_8 rfl (List.mem_of_getElem? (i := 168) rfl) rfl
theorem db_dck_294 : db_dck prog_14_method_83_code dbt_294 = true := by decide +kernel
theorem db_mck_294 : db_mck dbm_294 = true := by decide +kernel
theorem db_cod_294 : Cond.code dbm_294.1 dbm_294.2.1 dbm_294.2.2.1 dbm_294.2.2.2.1 ∈ db_T := db_tin 7 tables_1_8 rfl (List.mem_of_getElem? (i := 172) rfl) rfl
theorem db_dck_295 : db_dck prog_14_method_97_code dbt_295 = true := by decide +kernel
theorem db_mck_295 : db_mck dbm_295 = true := by decide +kernel
theorem db_cod_295 : Cond.code dbm_295.1 dbm_295.2.1 dbm_295.2.2.1 dbm_295.2.2.2.1 ∈ db_T := db_tin 7 tables_1_8 rfl (List.mem_of_getElem? (i := 176) rfl) rfl
theorem db_dck_296 : db_dck prog_14_method_98_code dbt_296 = true := by decide +kernel
theorem db_mck_296 : db_mck dbm_296 = true := by decide +kernel
theorem db_cod_296 : Cond.code dbm_296.1 dbm_296.2.1 dbm_296.2.2.1 dbm_296.2.2.2.1 ∈ db_T := db_tin 7 tables_1_8 rfl (List.mem_of_getElem? (i := 180) rfl) rfl
theorem db_dck_297 : db_dck prog_14_method_85_code dbt_297 = true := by decide +kernel
theorem db_mck_297 : db_mck dbm_297 = true := by decide +kernel
theorem db_cod_297 : Cond.code dbm_297.1 dbm_297.2.1 dbm_297.2.2.1 dbm_297.2.2.2.1 ∈ db_T := db_tin 7 tables_1_8 rfl (List.mem_of_getElem? (i := 184) rfl) rfl
theorem db_dck_298 : db_dck prog_14_method_100_code dbt_298 = true := by decide +kernel
theorem db_mck_298 : db_mck dbm_298 = true := by decide +kernel
theorem db_cod_298 : Cond.code dbm_298.1 dbm_298.2.1 dbm_298.2.2.1 dbm_298.2.2.2.1 ∈ db_T := db_tin 7 tables_1_8 rfl (List.mem_of_getElem? (i := 188) rfl) rfl
theorem db_dck_299 : db_dck prog_14_method_99_code dbt_299 = true := by decide +kernel
theorem db_mck_299 : db_mck dbm_299 = true := by decide +kernel
theorem db_cod_299 : Cond.code dbm_299.1 dbm_299.2.1 dbm_299.2.2.1 dbm_299.2.2.2.1 ∈ db_T := db_tin 7 tables_1_8 rfl (List.mem_of_getElem? (i := 192) rfl) rfl
theorem db_dck_300 : db_dck prog_14_method_101_code dbt_300 = true := by decide +kernel
theorem db_mck_300 : db_mck dbm_300 = true := by decide +kernel
theorem db_cod_300 : Cond.code dbm_300.1 dbm_300.2.1 dbm_300.2.2.1 dbm_300.2.2.2.1 ∈ db_T := db_tin 7 tables_1_8 rfl (List.mem_of_getElem? (i := 196) rfl) rfl
theorem db_dck_301 : db_dck prog_14_method_18_code dbt_301 = true := by decide +kernel
theorem db_mck_301 : db_mck dbm_301 = true := by decide +kernel
theorem db_cod_301 : Cond.code dbm_301.1 dbm_301.2.1 dbm_301.2.2.1 dbm_301.2.2.2.1 ∈ db_T := db_tin 7 tables_1_8 rfl (List.mem_of_getElem? (i := 200) rfl) rfl
theorem db_dck_302 : db_dck prog_14_method_102_code dbt_302 = true := by decide +kernel
theorem db_mck_302 : db_mck dbm_302 = true := by decide +kernel
theorem db_cod_302 : Cond.code dbm_302.1 dbm_302.2.1 dbm_302.2.2.1 dbm_302.2.2.2.1 ∈ db_T := db_tin 7 tables_1_8 rfl (List.mem_of_getElem? (i := 205) rfl) rfl
theorem db_dck_303 : db_dck prog_14_method_106_code dbt_303 = true := by decide +kernel
theorem db_mck_303 : db_mck dbm_303 = true := by decide +kernel
theorem db_cod_303 : Cond.code dbm_303.1 dbm_303.2.1 dbm_303.2.2.1 dbm_303.2.2.2.1 ∈ db_T := db_tin 7 tables_1_8 rfl (List.mem_of_getElem? (i := 209) rfl) rfl
