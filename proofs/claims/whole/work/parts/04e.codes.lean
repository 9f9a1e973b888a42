theorem db_dck_304 : db_dck prog_14_method_105_code dbt_304 = true := by decide +kernel
theorem db_mck_304 : db_mck dbm_304 = true := by decide +kernel
theorem db_cod_304 : Cond.code dbm_304.1 dbm_304.2.1 dbm_304.2.2.1 dbm_304.2.2.2.1 ∈ db_T := db_tin 7 tables_1_8 rfl (List.mem_of_getElem? (i := 213) rfl) rfl
theorem db_dck_305 : db_dck prog_14_method_104_code dbt_305 = true := by decide +kernel
theorem db_mck_305 : db_mck dbm_305 = true := by decide +kernel
theorem db_cod_305 : Cond.code dbm_305.1 dbm_305.2.1 dbm_305.2.2.1 dbm_305.2.2.2.1 ∈ db_T := db_tin 7 tables_1_8 rfl (List.mem_of_getElem? (i := 217) rfl) rfl
theorem db_dck_306 : db_dck prog_14_method_103_code dbt_306 = true := by decide +kernel
theorem db_mck_306 : db_mck dbm_306 = true := by decide +kernel
theorem db_cod_306 : Cond.code dbm_306.1 dbm_306.2.1 dbm_306.2.2.1 dbm_306.2.2.2.1 ∈ db_T := db_tin 7 tables_1_8 rfl (List.mem_of_getElem? (i := 221) rfl) rfl
theorem db_dck_307 : db_dck prog_14_method_107_code dbt_307 = true := by decide +kernel
theorem db_mck_307 : db_mck dbm_307 = true := by decide +kernel
theorem db_cod_307 : Cond.code dbm_307.1 dbm_307.2.1 dbm_307.2.2.1 dbm_307.2.2.2.1 ∈ db_T := db_tin 7 tables_1_8 rfl (List.mem_of_getElem? (i := 225) rfl) rfl
theorem db_dck_308 : db_dck prog_14_method_108_code dbt_308 = true := by decide +kernel
theorem db_mck_308 : db_mck dbm_308 = true := by decide +kernel
theorem db_cod_308 : Cond.code dbm_308.1 dbm_308.2.1 dbm_308.2.2.1 dbm_308.2.2.2.1 ∈ db_T := db_tin 7 tables_1_8 rfl (List.mem_of_getElem? (i := 229) rfl) rfl
theorem db_dck_309 : db_dck prog_14_method_110_code dbt_309 = true := by decide +kernel
theorem db_mck_309 : db_mck dbm_309 = true := by decide +kernel
theorem db_cod_309 : Cond.code dbm_309.1 dbm_309.2.1 dbm_309.2.2.1 dbm_309.2.2.2.1 ∈ db_T := db_tin 7 tables_1_8 rfl (List.mem_of_getElem? (i := 233) rfl) rfl
theorem db_dck_310 : db_dck prog_14_method_109_code dbt_310 = true := by decide +kernel
theorem db_mck_310 : db_mck dbm_310 = true := by decide +kernel
theorem db_cod_310 : Cond.code dbm_310.1 dbm_310.2.1 dbm_310.2.2.1 dbm_310.2.2.2.1 ∈ db_T := db_tin 7 tables_1_8 rfl (List.mem_of_getElem? (i := 237) rfl) rfl
theorem db_dck_311 : db_dck prog_14_method_111_code dbt_311 = true := by decide +kernel
theorem db_mck_311 : db_mck dbm_311 = true := by decide +kernel
theorem db_cod_311 : Cond.code dbm_311.1 dbm_311.2.1 dbm_311.2.2.1 dbm_311.2.2.2.1 ∈ db_T := db_tin 8 tables_1_9 rfl (List.mem_of_getElem? (i := 1) rfl) rfl
theorem db_dck_312 : db_dck prog_14_method_112_code dbt_312 = true := by decide +kernel
theorem db_mck_312 : db_mck dbm_312 = true := by decide +kernel
theorem db_cod_312 : Cond.code dbm_312.1 dbm_312.2.1 dbm_312.2.2.1 dbm_312.2.2.2.1 ∈ db_T := db_tin 8 tables_1_9 rfl (List.mem_of_getElem? (i := 5) rfl) rfl
theorem db_dck_313 : db_dck prog_14_method_121_code dbt_313 = true := by decide +kernel
theorem db_mck_313 : db_mck dbm_313 = true := by decide +kernel
theorem db_cod_313 : Cond.code dbm_313.1 dbm_313.2.1 dbm_313.2.2.1 dbm_313.2.2.2.1 ∈ db_T := db_tin 8 tables_1_9 rfl (List.mem_of_getElem? (i := 9) rfl) rfl
theorem db_dck_314 : db_dck prog_14_method_120_code dbt_314 = true := by decide +kernel
theorem db_mck_314 : db_mck dbm_314 = true := by decide +kernel
theorem db_cod_314 : Cond.code dbm_314.1 dbm_314.2.1 dbm_314.2.2.1 dbm_314.2.2.2.1 ∈ db_T := db_tin 8 tables_1_9 rfl (List.mem_of_getElem? (i := 13) rfl) rfl
theorem db_dck_315 : db_dck prog_14_method_86_code dbt_315 = true := by decide +kernel
theorem db_mck_315 : db_mck dbm_315 = true := by decide +kernel
theorem db_cod_315 : Cond.code dbm_315.1 dbm_315.2.1 dbm_315.2.2.1 dbm_315.2.2.2.1 ∈ db_T := db_tin 8 tables_1_9 rfl (List.mem_of_getElem? (i := 17) rfl) rfl
theorem db_dck_316 : db_dck prog_14_method_119_code dbt_316 = true := by decide +kernel
theorem db_mck_316 : db_mck dbm_316 = true := by decide +kernel
theorem db_cod_316 : Cond.code dbm_316.1 dbm_316.2.1 dbm_316.2.2.1 dbm_316.2.2.2.1 ∈ db_T := db_tin 8 tables_1_9 rfl (List.mem_of_getElem? (i := 21) rfl) rfl
theorem db_dck_317 : db_dck prog_14_method_118_code dbt_317 = true := by decide +kernel
theorem db_mck_317 : db_mck dbm_317 = true := by decide +kernel
theorem db_cod_317 : Cond.code dbm_317.1 dbm_317.2.1 dbm_317.2.2.1 dbm_317.2.2.2.1 ∈ db_T := db_tin 8 tables_1_9 rfl (List.mem_of_getElem? (i := 25) rfl) rfl
theorem db_dck_318 : db_dck prog_14_method_117_code dbt_318 = true := by decide +kernel
theorem db_mck_318 : db_mck dbm_318 = true := by decide +kernel
theorem db_cod_318 : Cond.code dbm_318.1 dbm_318.2.1 dbm_318.2.2.1 dbm_318.2.2.2.1 ∈ db_T := db_tin 8 tables_1_9 rfl (List.mem_of_getElem? (i := 29) rfl) rfl
theorem db_dck_319 : db_dck prog_14_method_115_code dbt_319 = true := by decide +kernel
theorem db_mck_319 : db_mck dbm_319 = true := by decide +kernel
theorem db_cod_319 : Cond.code dbm_319.1 dbm_319.2.1 dbm_319.2.2.1 dbm_319.2.2.2.1 ∈ db_T := db_tin 8 tables_1_9 rfl (List.mem_of_getElem? (i := 33) rfl) rfl
theorem db_dck_320 : db_dck prog_14_method_113_code dbt_320 = true := by decide +kernel
theorem db_mck_320 : db_mck dbm_320 = true := by decide +kernel
theorem db_cod_320 : Cond.code dbm_320.1 dbm_320.2.1 dbm_320.2.2.1 dbm_320.2.2.2.1 ∈ db_T := db_tin 8 tables_1_9 rfl (List.mem_of_getElem? (i := 37) rfl) rfl
theorem db_dck_321 : db_dck prog_14_method_114_code dbt_321 = true := by decide +kernel
theorem db_mck_321 : db_mck dbm_321 = true := by decide +kernel
theorem db_cod_321 : Cond.code dbm_321.1 dbm_321.2.1 dbm_321.2.2.1 dbm_321.2.2.2.1 ∈ db_T := db_tin 8 tables_1_9 rfl (List.mem_of_getElem? (i := 41) rfl) rfl
theorem db_dck_322 : db_dck prog_14_method_116_code dbt_322 = true := by decide +kernel
theorem db_mck_322 : db_mck dbm_322 = true := by decide +kernel
theorem db_cod_322 : Cond.code dbm_322.1 dbm_322.2.1 dbm_322.2.2.1 dbm_322.2.2.2.1 ∈ db_T := db_tin 8 tables_1_9 rfl (List.mem_of_getElem? (i := 45) rfl) rfl
theorem db_dck_323 : db_dck prog_14_method_122_code dbt_323 = true := by decide +kernel
theorem db_mck_323 : db_mck dbm_323 = true := by decide +kernel
theorem db_cod_323 : Cond.code dbm_323.1 dbm_323.2.1 dbm_323.2.2.1 dbm_323.2.2.2.1 ∈ db_T := db_tin 8 tables_1_9 rfl (List.mem_of_getElem? (i := 49) rfl) rfl
theorem db_dck_324 : db_dck prog_14_method_17_code dbt_324 = true := by decide +kernel
theorem db_mck_324 : db_mck dbm_324 = true := by decide +kernel
theorem db_cod_324 : Cond.code dbm_324.1 dbm_324.2.1 dbm_324.2.2.1 dbm_324.2.2.2.1 ∈ db_T := db_tin 8 tables_1_9 rfl (List.mem_of_getElem? (i := 54) rfl) rfl
theorem db_dck_325 : db_dck prog_14_method_81_code dbt_325 = true := by decide +kernel
theorem db_mck_325 : db_mck dbm_325 = true := by decide +kernel
theorem db_cod_325 : Cond.code dbm_325.1 dbm_325.2.1 dbm_325.2.2.1 dbm_325.2.2.2.1 ∈ db_T := db_tin 8 tables_1_9 rfl (List.mem_of_getElem? (i := 58) rfl) rfl
theorem db_dck_326 : db_dck prog_14_method_123_code dbt_326 = true := by decide +kernel
theorem db_mck_326 : db_mck dbm_326 = true := by decide +kernel
theorem db_cod_326 : Cond.code dbm_326.1 dbm_326.2.1 dbm_326.2.2.1 dbm_326.2.2.2.1 ∈ db_T := db_tin 8 tables_1_9 rfl (List.mem_of_getElem? (i := 62) rfl) rfl
theorem db_dck_327 : db_dck prog_14_method_124_code dbt_327 = true := by decide +kernel
theorem db_mck_327 : db_mck dbm_327 = true := by decide +kernel
theorem db_cod_327 : Cond.code dbm_327.1 dbm_327.2.1 dbm_327.2.2.1 dbm_327.2.2.2.1 ∈ db_T := db_tin 8 tables_1_9 rfl (List.mem_of_getElem? (i := 66) rfl) rfl
theorem db_dck_328 : db_dck prog_14_method_126_code dbt_328 = true := by decide +kernel
theorem db_mck_328 : db_mck dbm_328 = true := by decide +kernel
theorem db_cod_328 : Cond.code dbm_328.1 dbm_328.2.1 dbm_328.2.2.1 dbm_328.2.2.2.1 ∈ db_T := db_tin 8 tables_1_9 rfl (List.mem_of_getElem? (i := 70) rfl) rfl
theorem db_dck_329 : db_dck prog_14_method_125_code dbt_329 = true := by decide +kernel
theorem db_mck_329 : db_mck dbm_329 = true := by decide +kernel
theorem db_cod_329 : Cond.code dbm_329.1 dbm_329.2.1 dbm_329.2.2.1 dbm_329.2.2.2.1 ∈ db_T := db_tin 8 tables_1_9 rfl (List.mem_of_getElem? (i := 74) rfl) rfl
theorem db_dck_330 : db_dck prog_14_method_127_code dbt_330 = true := by decide +kernel
theorem db_mck_330 : db_mck dbm_330 = true := by decide +kernel
theorem db_cod_330 : Cond.code dbm_330.1 dbm_330.2.1 dbm_330.2.2.1 dbm_330.2.2.2.1 ∈ db_T := db_tin 8 tables_1_9 rfl (List.mem_of_getElem? (i := 78) rfl) rfl
theorem db_dck_331 : db_dck prog_14_method_128_code dbt_331 = true := by decide +kernel
theorem db_mck_331 : db_mck dbm_331 = true := by decide +kernel
theorem db_cod_331 : Cond.code dbm_331.1 dbm_331.2.1 dbm_331.2.2.1 dbm_331.2.2.2.1 ∈ db_T := db_tin 8 tables_1_9 rfl (List.mem_of_getElem? (i := 82) rfl) rfl
theorem db_dck_332 : db_dck prog_14_method_131_code dbt_332 = true := by decide +kernel
theorem db_mck_332 : db_mck dbm_332 = true := by decide +kernel
theorem db_cod_332 : Cond.code dbm_332.1 dbm_332.2.1 dbm_332.2.2.1 dbm_332.2.2.2.1 ∈ db_T := db_tin 8 tables_1_9 rfl (List.mem_of_getElem? (i := 86) rfl) rfl
theorem db_dck_333 : db_dck prog_14_method_129_code dbt_333 = true := by decide +kernel
theorem db_mck_333 : db_mck dbm_333 = true := by decide +kernel
theorem db_cod_333 : Cond.code dbm_333.1 dbm_333.2.1 dbm_333.2.2.1 dbm_333.2.2.2.1 ∈ db_T := db_tin 8 tables_1_9 rfl (List.mem_of_getElem? (i := 90) rfl) rfl
theorem db_dck_334 : db_dck prog_14_method_130_code dbt_334 = true := by decide +kernel
theorem db_mck_334 : db_mck dbm_334 = true := by decide +kernel
theorem db_cod_334 : Cond.code dbm_334.1 dbm_334.2.1 dbm_334.2.2.1 dbm_334.2.2.2.1 ∈ db_T := db_tin 8 tables_1_9 rfl (List.mem_of_getElem? (i := 96) rfl) rfl
theorem db_dck_335 : db_dck prog_14_method_135_code dbt_335 = true := by decide +kernel
theorem db_mck_335 : db_mck dbm_335 = true := by decide +kernel
theorem db_cod_335 : Cond.code dbm_335.1 dbm_335.2.1 dbm_335.2.2.1 dbm_335.2.2.2.1 ∈ db_T := db_tin 8 tables_1_9 rfl (List.mem_of_getElem? (i := 100) rfl) rfl
theorem db_dck_336 : db_dck prog_14_method_134_code dbt_336 = true := by decide +kernel
theorem db_mck_336 : db_mck dbm_336 = true := by decide +kernel
theorem db_cod_336 : Cond.code dbm_336.1 dbm_336.2.1 dbm_336.2.2.1 dbm_336.2.2.2.1 ∈ db_T := db_tin 8 tables_1_9 rfl (List.mem_of_getElem? (i := 104) rfl) rfl
theorem db_dck_337 : db_dck prog_14_method_132_code dbt_337 = true := by decide +kernel
theorem db_mck_337 : db_mck dbm_337 = true := by decide +kernel
theorem db_cod_337 : Cond.code dbm_337.1 dbm_337.2.1 dbm_337.2.2.1 dbm_337.2.2.2.1 ∈ db_T := db_tin 8 tables_1_9 rfl (List.mem_of_getElem? (i := 108) rfl) rfl
theorem db_dck_338 : db_dck prog_14_method_133_code dbt_338 = true := by decide +kernel
theorem db_mck_338 : db_mck dbm_338 = true := by decide +kernel
theorem db_cod_338 : Cond.code dbm_338.1 dbm_338.2.1 dbm_338.2.2.1 dbm_338.2.2.2.1 ∈ db_T := db_tin 8 tables_1_9 rfl (List.mem_of_getElem? (i := 112) rfl) rfl
theorem db_dck_339 : db_dck prog_14_method_136_code dbt_339 = true := by decide +kernel
theorem db_mck_339 : db_mck dbm_339 = true := by decide +kernel
theorem db_cod_339 : Cond.code dbm_339.1 dbm_339.2.1 dbm_339.2.2.1 dbm_339.2.2.2.1 ∈ db_T := db_tin 8 tables_1_9 rfl (List.mem_of_getElem? (i := 116) rfl) rfl
theorem db_dck_340 : db_dck prog_14_method_138_code dbt_340 = true := by decide +kernel
theorem db_mck_340 : db_mck dbm_340 = true := by decide +kernel
theorem db_cod_340 : Cond.code dbm_340.1 dbm_340.2.1 dbm_340.2.2.1 dbm_340.2.2.2.1 ∈ db_T := db_tin 8 tables_1_9 rfl (List.mem_of_getElem? (i := 120) rfl) rfl
theorem db_dck_341 : db_dck prog_14_method_137_code dbt_341 = true := by decide +kernel
theorem db_mck_341 : db_mck dbm_341 = true := by decide +kernel
theorem db_cod_341 : Cond.code dbm_341.1 dbm_341.2.1 dbm_341.2.2.1 dbm_341.2.2.2.1 ∈ db_T := db_tin 8 tables_1_9 rfl (List.mem_of_getElem? (i := 124) rfl) rfl
theorem db_dck_342 : db_dck prog_14_method_139_code dbt_342 = true := by decide +kernel
theorem db_mck_342 : db_mck dbm_342 = true := by decide +kernel
theorem db_cod_342 : Cond.code dbm_342.1 dbm_342.2.1 dbm_342.2.2.1 dbm_342.2.2.2.1 ∈ db_T := db_tin 8 tables_1_9 rfl (List.mem_of_getElem? (i := 128) rfl) rfl
theorem db_dck_343 : db_dck prog_14_method_141_code dbt_343 = true := by decide +kernel
theorem db_mck_343 : db_mck dbm_343 = true := by decide +kernel
theorem db_cod_343 : Cond.code dbm_343.1 dbm_343.2.1 dbm_343.2.2.1 dbm_343.2.2.2.1 ∈ db_T := db_tin 8 tables_1_9 rfl (List.mem_of_getElem? (i := 132) rfl) rfl
theorem db_dck_344 : db_dck prog_14_method_140_code dbt_344 = true := by decide +kernel
theorem db_mck_344 : db_mck dbm_344 = true := by decide +kernel
theorem db_cod_344 : Cond.code dbm_344.1 dbm_344.2.1 dbm_344.2.2.1 dbm_344.2.2.2.1 ∈ db_T := db_tin 8 tables_1_9 rfl (List.mem_of_getElem? (i := 136) rfl) rfl
theorem db_dck_345 : db_dck prog_14_method_20_code dbt_345 = true := by decide +kernel
theorem db_mck_345 : db_mck dbm_345 = true := by decide +kernel
theorem db_cod_345 : Cond.code dbm_345.1 dbm_345.2.1 dbm_345.2.2.1 dbm_345.2.2.2.1 ∈ db_T := db_tin 8 tables_1_9 rfl (List.mem_of_getElem? (i := 139) rfl) rfl
theorem db_dck_346 : db_dck prog_14_method_142_code dbt_346 = true := by decide +kernel
theorem db_mck_346 : db_mck dbm_346 = true := by decide +kernel
theorem db_cod_346 : Cond.code dbm_346.1 dbm_346.2.1 dbm_346.2.2.1 dbm_346.2.2.2.1 ∈ db_T := db_tin 8 tables_1_9 rfl (List.mem_of_getElem? (i := 143) rfl) rfl
theorem db_dck_347 : db_dck prog_14_method_146_code dbt_347 = true := by decide +kernel
theorem db_mck_347 : db_mck dbm_347 = true := by decide +kernel
theorem db_cod_347 : Cond.code dbm_347.1 dbm_347.2.1 dbm_347.2.2.1 dbm_347.2.2.2.1 ∈ db_T := db_tin 8 tables_1_9 rfl (List.mem_of_getElem? (i := 147) rfl) rfl
theorem db_dck_348 : db_dck prog_14_method_144_code dbt_348 = true := by decide +kernel
theorem db_mck_348 : db_mck dbm_348 = true := by decide +kernel
theorem db_cod_348 : Cond.code dbm_348.1 dbm_348.2.1 dbm_348.2.2.1 dbm_348.2.2.2.1 ∈ db_T := db_tin 8 tables_1_9 rfl (List.mem_of_getElem? (i := 153) rfl) rfl
theorem db_dck_349 : db_dck prog_14_method_145_code dbt_349 = true := by decide +kernel
theorem db_mck_349 : db_mck dbm_349 = true := by decide +kernel
theorem db_cod_349 : Cond.code dbm_349.1 dbm_349.2.1 dbm_349.2.2.1 dbm_349.2.2.2.1 ∈ db_T := db_tin 8 tables_1_9 rfl (List.mem_of_getElem? (i := 157) rfl) rfl
theorem db_dck_350 : db_dck prog_14_method_143_code dbt_350 = true := by decide +kernel
theorem db_mck_350 : db_mck dbm_350 = true := by decide +kernel
theorem db_cod_350 : Cond.code dbm_350.1 dbm_350.2.1 dbm_350.2.2.1 dbm_350.2.2.2.1 ∈ db_T := db_tin 8 tables_1_9 rfl (List.mem_of_getElem? (i := 161) rfl) rfl
theorem db_dck_351 : db_dck prog_14_method_147_code dbt_351 = true := by decide +kernel
theorem db_mck_351 : db_mck dbm_351 = true := by decide +kernel
theorem db_cod_351 : Cond.code dbm_351.1 dbm_351.2.1 dbm_351.2.2.1 dbm_351.2.2.2.1 ∈ db_T := db_tin 8 tables_1_9 rfl (List.mem_of_getElem? (i := 165) rfl) rfl
theorem db_dck_352 : db_dck prog_14_method_149_code dbt_352 = true := by decide +kernel
theorem db_mck_352 : db_mck dbm_352 = true := by decide +kernel
theorem db_cod_352 : Cond.code dbm_352.1 dbm_352.2.1 dbm_352.2.2.1 dbm_352.2.2.2.1 ∈ db_T := db_tin 8 tables_1_9 rfl (List.mem_of_getElem? (i := 170) rfl) rfl
theorem db_dck_353 : db_dck prog_14_method_148_code dbt_353 = true := by decide +kernel
theorem db_mck_353 : db_mck dbm_353 = true := by decide +kernel
theorem db_cod_353 : Cond.code dbm_353.1 dbm_353.2.1 dbm_353.2.2.1 dbm_353.2.2.2.1 ∈ db_T := db_tin 8 tables_1_9 rfl (List.mem_of_getElem? (i := 174) rfl) rfl
theorem db_dck_354 : db_dck prog_14_method_152_code dbt_354 = true := by decide +kernel
theorem db_mck_354 : db_mck dbm_354 = true := by decide +kernel
theorem db_cod_354 : Cond.code dbm_354.1 dbm_354.2.1 dbm_354.2.2.1 dbm_354.2.2.2.1 ∈ db_T := db_tin 8 tables_1_9 rfl (List.mem_of_getElem? (i := 178) rfl) rfl
theorem db_dck_355 : db_dck prog_14_method_150_code dbt_355 = true := by decide +kernel
theorem db_mck_355 : db_mck dbm_355 = true := by decide +kernel
theorem db_cod_355 : Cond.code dbm_355.1 dbm_355.2.1 dbm_355.2.2.1 dbm_355.2.2.2.1 ∈ db_T := db_tin 8 tables_1_9 rfl (List.mem_of_getElem? (i := 182) rfl) rfl
theorem db_dck_356 : db_dck prog_14_method_151_code dbt_356 = true := by decide +kernel
theorem db_mck_356 : db_mck dbm_356 = true := by decide +kernel
theorem db_cod_356 : Cond.code dbm_356.1 dbm_356.2.1 dbm_356.2.2.1 dbm_356.2.2.2.1 ∈ db_T := db_tin 8 tables_1_9 rfl (List.mem_of_getElem? (i := 186) rfl) rfl
theorem db_dck_357 : db_dck prog_14_method_153_code dbt_357 = true := by decide +kernel
theorem db_mck_357 : db_mck dbm_357 = true := by decide +kernel
theorem db_cod_357 : Cond.code dbm_357.1 dbm_357.2.1 dbm_357.2.2.1 dbm_357.2.2.2.1 ∈ db_T := db_tin 8 tables_1_9 rfl (List.mem_of_getElem? (i := 190) rfl) rfl
theorem db_dck_358 : db_dck prog_14_method_154_code dbt_358 = true := by decide +kernel
theorem db_mck_358 : db_mck dbm_358 = true := by decide +kernel
theorem db_cod_358 : Cond.code dbm_358.1 dbm_358.2.1 dbm_358.2.2.1 dbm_358.2.2.2.1 ∈ db_T := db_tin 8 tables_1_9 rfl (List.mem_of_getElem? (i := 194) rfl) rfl
theorem db_dck_359 : db_dck prog_14_method_155_code dbt_359 = true := by decide +kernel
theorem db_mck_359 : db_mck dbm_359 = true := by decide +kernel
theorem db_cod_359 : Cond.code dbm_359.1 dbm_359.2.1 dbm_359.2.2.1 dbm_359.2.2.2.1 ∈ db_T := db_tin 8 tables_1_9 rfl (List.mem_of_getElem? (i := 198) rfl) rfl
theorem db_dck_360 : db_dck prog_14_method_157_code dbt_360 = true := by decide +kernel
theorem db_mck_360 : db_mck dbm_360 = true := by decide +kernel
theorem db_cod_360 : Cond.code dbm_360.1 dbm_360.2.1 dbm_360.2.2.1 dbm_360.2.2.2.1 ∈ db_T := db_tin 8 tables_1_9 rfl (List.mem_of_getElem? (i := 202) rfl) rfl
theorem db_dck_361 : db_dck prog_14_method_156_code dbt_361 = true := by decide +kernel
theorem db_mck_361 : db_mck dbm_361 = true := by decide +kernel
theorem db_cod_361 : Cond.code dbm_361.1 dbm_361.2.1 dbm_361.2.2.1 dbm_361.2.2.2.1 ∈ db_T := db_tin 8 tables_1_9 rfl (List.mem_of_getElem? (i := 206) rfl) rfl
theorem db_dck_362 : db_dck prog_14_method_158_code dbt_362 = true := by decide +kernel
theorem db_mck_362 : db_mck dbm_362 = true := by decide +kernel
theorem db_cod_362 : Cond.code dbm_362.1 dbm_362.2.1 dbm_362.2.2.1 dbm_362.2.2.2.1 ∈ db_T := db_tin 8 tables_1_9 rfl (List.mem_of_getElem? (i := 210) rfl) rfl
theorem db_dck_363 : db_dck prog_14_method_159_code dbt_363 = true := by decide +kernel
theorem db_mck_363 : db_mck dbm_363 = true := by decide +kernel
theorem db_cod_363 : Cond.code dbm_363.1 dbm_363.2.1 dbm_363.2.2.1 dbm_363.2.2.2.1 ∈ db_T := db_tin 8 tables_1_9 rfl (List.mem_of_getElem? (i := 214) rfl) rfl
theorem db_dck_364 : db_dck prog_14_method_9_code dbt_364 = true := by decide +kernel
theorem db_mck_364 : db_mck dbm_364 = true := by decide +kernel
theorem db_cod_364 : Cond.code dbm_364.1 dbm_364.2.1 dbm_364.2.2.1 dbm_364.2.2.2.1 ∈ db_T := db_tin 8 tables_1_9 rfl (List.mem_of_getElem? (i := 219) rfl) rfl
theorem db_dck_365 : db_dck prog_14_method_160_code dbt_365 = true := by decide +kernel
theorem db_mck_365 : db_mck dbm_365 = true := by decide +kernel
theorem db_cod_365 : Cond.code dbm_365.1 dbm_365.2.1 dbm_365.2.2.1 dbm_365.2.2.2.1 ∈ db_T := db_tin 8 tables_1_9 rfl (List.mem_of_getElem? (i := 224) rfl) rfl
theorem db_dck_366 : db_dck prog_14_method_168_code dbt_366 = true := by decide +kernel
theorem db_mck_366 : db_mck dbm_366 = true := by decide +kernel
theorem db_cod_366 : Cond.code dbm_366.1 dbm_366.2.1 dbm_366.2.2.1 dbm_366.2.2.2.1 ∈ db_T := db_tin 8 tables_1_9 rfl (List.mem_of_getElem? (i := 228) rfl) rfl
theorem db_dck_367 : db_dck prog_14_method_167_code dbt_367 = true := by decide +kernel
theorem db_mck_367 : db_mck dbm_367 = true := by decide +kernel
theorem db_cod_367 : Cond.code dbm_367.1 dbm_367.2.1 dbm_367.2.2.1 dbm_367.2.2.2.1 ∈ db_T := db_tin 8 tables_1_9 rfl (List.mem_of_getElem? (i := 232) rfl) rfl
theorem db_dck_368 : db_dck prog_14_method_166_code dbt_368 = true := by decide +kernel
theorem db_mck_368 : db_mck dbm_368 = true := by decide +kernel
theorem db_cod_368 : Cond.code dbm_368.1 dbm_368.2.1 dbm_368.2.2.1 dbm_368.2.2.2.1 ∈ db_T := db_tin 8 tables_1_9 rfl (List.mem_of_getElem? (i := 236) rfl) rfl
theorem db_dck_369 : db_dck prog_14_method_165_code dbt_369 = true := by decide +kernel
theorem db_mck_369 : db_mck dbm_369 = true := by decide +kernel
theorem db_cod_369 : Cond.code dbm_369.1 dbm_369.2.1 dbm_369.2.2.1 dbm_369.2.2.2.1 ∈ db_T := db_tin 9 tables_1_10 rfl (List.mem_of_getElem? (i := 0) rfl) rfl
theorem db_dck_370 : db_dck prog_14_method_163_code dbt_370 = true := by decide +kernel
theorem db_mck_370 : db_mck dbm_370 = true := by decide +kernel
theorem db_cod_370 : Cond.code dbm_370.1 dbm_370.2.1 dbm_370.2.2.1 dbm_370.2.2.2.1 ∈ db_T := db_tin 9 tables_1_10 rfl (List.mem_of_getElem? (i := 4) rfl) rfl
theorem db_dck_371 : db_dck prog_14_method_162_code dbt_371 = true := by decide +kernel
theorem db_mck_371 : db_mck dbm_371 = true := by decide +kernel
theorem db_cod_371 : Cond.code dbm_371.1 dbm_371.2.1 dbm_371.2.2.1 dbm_371.2.2.2.1 ∈ db_T := db_tin 9 tables_1_10 rfl (List.mem_of_getElem? (i := 8) rfl) rfl
theorem db_dck_372 : db_dck prog_14_method_161_code dbt_372 = true := by decide +kernel
theorem db_mck_372 : db_mck dbm_372 = true := by decide +kernel
theorem db_cod_372 : Cond.code dbm_372.1 dbm_372.2.1 dbm_372.2.2.1 dbm_372.2.2.2.1 ∈ db_T := db_tin 9 tables_1_10 rfl (List.mem_of_getElem? (i := 12) rfl) rfl
theorem db_dck_373 : db_dck prog_14_method_164_code dbt_373 = true := by decide +kernel
theorem db_mck_373 : db_mck dbm_373 = true := by decide +kernel
theorem db_cod_373 : Cond.code dbm_373.1 dbm_373.2.1 dbm_373.2.2.1 dbm_373.2.2.2.1 ∈ db_T := db_tin 9 tables_1_10 rfl (List.mem_of_getElem? (i := 17) rfl) rfl
theorem db_dck_374 : db_dck prog_14_method_169_code dbt_374 = true := by decide +kernel
theorem db_mck_374 : db_mck dbm_374 = true := by decide +kernel
theorem db_cod_374 : Cond.code dbm_374.1 dbm_374.2.1 dbm_374.2.2.1 dbm_374.2.2.2.1 ∈ db_T := db_tin 9 tables_1_10 rfl (List.mem_of_getElem? (i := 21) rfl) rfl
theorem db_dck_375 : db_dck prog_14_method_170_code dbt_375 = true := by decide +kernel
theorem db_mck_375 : db_mck dbm_375 = true := by decide +kernel
theorem db_cod_375 : Cond.code dbm_375.1 dbm_375.2.1 dbm_375.2.2.1 dbm_375.2.2.2.1 ∈ db_T := db_tin 9 tables_1_10 rfl (List.mem_of_getElem? (i := 25) rfl) rfl
theorem db_dck_376 : db_dck prog_14_method_172_code dbt_376 = true := by decide +kernel
theorem db_mck_376 : db_mck dbm_376 = true := by decide +kernel
theorem db_cod_376 : Cond.code dbm_376.1 dbm_376.2.1 dbm_376.2.2.1 dbm_376.2.2.2.1 ∈ db_T := db_tin 9 tables_1_10 rfl (List.mem_of_getElem? (i := 30) rfl) rfl
theorem db_dck_377 : db_dck prog_14_method_173_code dbt_377 = true := by decide +kernel
theorem db_mck_377 : db_mck dbm_377 = true := by decide +kernel
theorem db_cod_377 : Cond.code dbm_377.1 dbm_377.2.1 dbm_377.2.2.1 dbm_377.2.2.2.1 ∈ db_T := db_tin 9 tables_1_10 rfl (List.mem_of_getElem? (i := 34) rfl) rfl
