/-! THE LAW: its code -/
def m_LAW : Mt := (⟨"HonestScalesLaw", "law", "([I)Z"⟩, code, 9, ret, [], 42, 1271)
theorem st_LAW_161 : ST m_LAW 161 m_HS_init := ⟨tg_1 32 rfl rfl, by decide, by decide⟩
theorem st_LAW_164 : ST m_LAW 164 m_MO_init := ⟨tg_7 63 rfl rfl, by decide, by decide⟩
theorem st_LAW_165 : ST m_LAW 165 m_LW_append := ⟨tg_3 197 rfl rfl, by decide, by decide⟩
theorem st_LAW_170 : ST m_LAW 170 m_MO_append := ⟨tg_7 151 rfl rfl, by decide, by decide⟩
theorem st_LAW_171 : ST m_LAW 171 m_MO_thrown := ⟨tg_7 147 rfl rfl, by decide, by decide⟩
theorem st_LAW_174 : ST m_LAW 174 m_LW_truncate := ⟨tg_4 39 rfl rfl, by decide, by decide⟩
theorem st_LAW_177 : ST m_LAW 177 m_MO_truncate := ⟨tg_7 163 rfl rfl, by decide, by decide⟩
theorem st_LAW_178 : ST m_LAW 178 m_HS_errorCode := ⟨tg_3 15 rfl rfl, by decide, by decide⟩
theorem st_LAW_181 : ST m_LAW 181 m_MO_errorCode := ⟨tg_7 170 rfl rfl, by decide, by decide⟩
theorem st_LAW_182 : ST m_LAW 182 m_HS_errorPosition := ⟨tg_3 19 rfl rfl, by decide, by decide⟩
theorem st_LAW_185 : ST m_LAW 185 m_MO_errorPosition := ⟨tg_7 174 rfl rfl, by decide, by decide⟩
theorem st_LAW_186 : ST m_LAW 186 m_LW_loadSetup := ⟨tg_4 66 rfl rfl, by decide, by decide⟩
theorem st_LAW_189 : ST m_LAW 189 m_MO_loadSetup := ⟨tg_7 178 rfl rfl, by decide, by decide⟩
theorem st_LAW_190 : ST m_LAW 190 m_LW_runScript := ⟨tg_4 84 rfl rfl, by decide, by decide⟩
theorem st_LAW_192 : ST m_LAW 192 m_MO_runScript := ⟨tg_8 24 rfl rfl, by decide, by decide⟩
theorem st_LAW_193 : ST m_LAW 193 m_LW_passDays := ⟨tg_4 160 rfl rfl, by decide, by decide⟩
theorem st_LAW_195 : ST m_LAW 195 m_MO_passDays := ⟨tg_8 185 rfl rfl, by decide, by decide⟩
theorem st_LAW_196 : ST m_LAW 196 m_LW_visit := ⟨tg_4 168 rfl rfl, by decide, by decide⟩
theorem st_LAW_198 : ST m_LAW 198 m_MO_visit := ⟨tg_8 189 rfl rfl, by decide, by decide⟩
theorem st_LAW_199 : ST m_LAW 199 m_LW_repair := ⟨tg_4 205 rfl rfl, by decide, by decide⟩
theorem st_LAW_201 : ST m_LAW 201 m_MO_repair := ⟨tg_8 197 rfl rfl, by decide, by decide⟩
theorem st_LAW_202 : ST m_LAW 202 m_LW_setThumb := ⟨tg_4 214 rfl rfl, by decide, by decide⟩
theorem st_LAW_205 : ST m_LAW 205 m_MO_setThumb := ⟨tg_8 201 rfl rfl, by decide, by decide⟩
theorem st_LAW_206 : ST m_LAW 206 m_LW_complain := ⟨tg_4 221 rfl rfl, by decide, by decide⟩
theorem st_LAW_208 : ST m_LAW 208 m_MO_complain := ⟨tg_8 205 rfl rfl, by decide, by decide⟩
theorem st_LAW_209 : ST m_LAW 209 m_LW_reopen := ⟨tg_4 228 rfl rfl, by decide, by decide⟩
theorem st_LAW_211 : ST m_LAW 211 m_MO_reopen := ⟨tg_8 209 rfl rfl, by decide, by decide⟩
theorem st_LAW_212 : ST m_LAW 212 m_LW_setInspectors := ⟨tg_4 236 rfl rfl, by decide, by decide⟩
theorem st_LAW_214 : ST m_LAW 214 m_MO_setInspectors := ⟨tg_8 213 rfl rfl, by decide, by decide⟩
theorem st_LAW_215 : ST m_LAW 215 m_LW_setFee := ⟨tg_5 3 rfl rfl, by decide, by decide⟩
theorem st_LAW_217 : ST m_LAW 217 m_MO_setFee := ⟨tg_8 221 rfl rfl, by decide, by decide⟩
theorem st_LAW_218 : ST m_LAW 218 m_LW_undo := ⟨tg_5 10 rfl rfl, by decide, by decide⟩
theorem st_LAW_220 : ST m_LAW 220 m_MO_undo := ⟨tg_8 225 rfl rfl, by decide, by decide⟩
theorem st_LAW_221 : ST m_LAW 221 m_LW_saveSnapshot := ⟨tg_5 38 rfl rfl, by decide, by decide⟩
theorem st_LAW_224 : ST m_LAW 224 m_MO_saveSnapshot := ⟨tg_8 229 rfl rfl, by decide, by decide⟩
theorem st_LAW_225 : ST m_LAW 225 m_LW_restoreSnapshot := ⟨tg_5 45 rfl rfl, by decide, by decide⟩
theorem st_LAW_227 : ST m_LAW 227 m_MO_restoreSnapshot := ⟨tg_8 233 rfl rfl, by decide, by decide⟩
theorem st_LAW_228 : ST m_LAW 228 m_HS_day := ⟨tg_3 23 rfl rfl, by decide, by decide⟩
theorem st_LAW_231 : ST m_LAW 231 m_MO_day := ⟨tg_8 237 rfl rfl, by decide, by decide⟩
theorem st_LAW_232 : ST m_LAW 232 m_HS_weightCount := ⟨tg_3 27 rfl rfl, by decide, by decide⟩
theorem st_LAW_235 : ST m_LAW 235 m_MO_weightCount := ⟨tg_9 1 rfl rfl, by decide, by decide⟩
theorem st_LAW_236 : ST m_LAW 236 m_LW_testWeight := ⟨tg_5 53 rfl rfl, by decide, by decide⟩
theorem st_LAW_238 : ST m_LAW 238 m_MO_testWeight := ⟨tg_9 5 rfl rfl, by decide, by decide⟩
theorem st_LAW_239 : ST m_LAW 239 m_LW_bound := ⟨tg_5 61 rfl rfl, by decide, by decide⟩
theorem st_LAW_241 : ST m_LAW 241 m_MO_bound := ⟨tg_9 9 rfl rfl, by decide, by decide⟩
theorem st_LAW_242 : ST m_LAW 242 m_HS_fee := ⟨tg_3 31 rfl rfl, by decide, by decide⟩
theorem st_LAW_245 : ST m_LAW 245 m_MO_fee := ⟨tg_9 13 rfl rfl, by decide, by decide⟩
theorem st_LAW_246 : ST m_LAW 246 m_HS_inspectors := ⟨tg_3 35 rfl rfl, by decide, by decide⟩
theorem st_LAW_249 : ST m_LAW 249 m_MO_inspectors := ⟨tg_9 17 rfl rfl, by decide, by decide⟩
theorem st_LAW_250 : ST m_LAW 250 m_HS_seed := ⟨tg_3 39 rfl rfl, by decide, by decide⟩
theorem st_LAW_253 : ST m_LAW 253 m_MO_seed := ⟨tg_9 21 rfl rfl, by decide, by decide⟩
theorem st_LAW_254 : ST m_LAW 254 m_HS_bureauCoins := ⟨tg_3 43 rfl rfl, by decide, by decide⟩
theorem st_LAW_257 : ST m_LAW 257 m_MO_bureauCoins := ⟨tg_9 25 rfl rfl, by decide, by decide⟩
theorem st_LAW_258 : ST m_LAW 258 m_HS_visits := ⟨tg_3 47 rfl rfl, by decide, by decide⟩
theorem st_LAW_261 : ST m_LAW 261 m_MO_visits := ⟨tg_9 29 rfl rfl, by decide, by decide⟩
theorem st_LAW_262 : ST m_LAW 262 m_LW_offset := ⟨tg_5 69 rfl rfl, by decide, by decide⟩
theorem st_LAW_264 : ST m_LAW 264 m_MO_offset := ⟨tg_9 33 rfl rfl, by decide, by decide⟩
theorem st_LAW_265 : ST m_LAW 265 m_LW_slope := ⟨tg_5 76 rfl rfl, by decide, by decide⟩
theorem st_LAW_267 : ST m_LAW 267 m_MO_slope := ⟨tg_9 37 rfl rfl, by decide, by decide⟩
theorem st_LAW_268 : ST m_LAW 268 m_LW_drift := ⟨tg_5 83 rfl rfl, by decide, by decide⟩
theorem st_LAW_270 : ST m_LAW 270 m_MO_drift := ⟨tg_9 41 rfl rfl, by decide, by decide⟩
theorem st_LAW_271 : ST m_LAW 271 m_LW_reading := ⟨tg_5 90 rfl rfl, by decide, by decide⟩
theorem st_LAW_273 : ST m_LAW 273 m_MO_reading := ⟨tg_9 45 rfl rfl, by decide, by decide⟩
theorem st_LAW_274 : ST m_LAW 274 m_LW_excess := ⟨tg_5 98 rfl rfl, by decide, by decide⟩
theorem st_LAW_276 : ST m_LAW 276 m_MO_excess := ⟨tg_9 53 rfl rfl, by decide, by decide⟩
theorem st_LAW_277 : ST m_LAW 277 m_LW_totalExcess := ⟨tg_5 106 rfl rfl, by decide, by decide⟩
theorem st_LAW_279 : ST m_LAW 279 m_MO_totalExcess := ⟨tg_9 57 rfl rfl, by decide, by decide⟩
theorem st_LAW_280 : ST m_LAW 280 m_LW_isTrue := ⟨tg_5 113 rfl rfl, by decide, by decide⟩
theorem st_LAW_282 : ST m_LAW 282 m_MO_isTrue := ⟨tg_9 61 rfl rfl, by decide, by decide⟩
theorem st_LAW_283 : ST m_LAW 283 m_LW_worstWeight := ⟨tg_5 120 rfl rfl, by decide, by decide⟩
theorem st_LAW_285 : ST m_LAW 285 m_MO_worstWeight := ⟨tg_9 65 rfl rfl, by decide, by decide⟩
theorem st_LAW_286 : ST m_LAW 286 m_LW_stampedUntil := ⟨tg_5 131 rfl rfl, by decide, by decide⟩
theorem st_LAW_288 : ST m_LAW 288 m_MO_stampedUntil := ⟨tg_9 69 rfl rfl, by decide, by decide⟩
theorem st_LAW_289 : ST m_LAW 289 m_LW_isStamped := ⟨tg_5 138 rfl rfl, by decide, by decide⟩
theorem st_LAW_291 : ST m_LAW 291 m_MO_isStamped := ⟨tg_9 73 rfl rfl, by decide, by decide⟩
theorem st_LAW_292 : ST m_LAW 292 m_HS_shopCount := ⟨tg_3 51 rfl rfl, by decide, by decide⟩
theorem st_LAW_295 : ST m_LAW 295 m_MO_shopCount := ⟨tg_9 77 rfl rfl, by decide, by decide⟩
theorem st_LAW_296 : ST m_LAW 296 m_HS_openShops := ⟨tg_3 55 rfl rfl, by decide, by decide⟩
theorem st_LAW_299 : ST m_LAW 299 m_MO_openShops := ⟨tg_9 81 rfl rfl, by decide, by decide⟩
theorem st_LAW_300 : ST m_LAW 300 m_LW_isOpen := ⟨tg_5 146 rfl rfl, by decide, by decide⟩
theorem st_LAW_302 : ST m_LAW 302 m_MO_isOpen := ⟨tg_9 85 rfl rfl, by decide, by decide⟩
theorem st_LAW_303 : ST m_LAW 303 m_LW_purse := ⟨tg_5 153 rfl rfl, by decide, by decide⟩
theorem st_LAW_305 : ST m_LAW 305 m_MO_purse := ⟨tg_9 89 rfl rfl, by decide, by decide⟩
theorem st_LAW_306 : ST m_LAW 306 m_LW_thumb := ⟨tg_5 160 rfl rfl, by decide, by decide⟩
theorem st_LAW_308 : ST m_LAW 308 m_MO_thumb := ⟨tg_9 93 rfl rfl, by decide, by decide⟩
theorem st_LAW_309 : ST m_LAW 309 m_LW_complaints := ⟨tg_5 167 rfl rfl, by decide, by decide⟩
theorem st_LAW_311 : ST m_LAW 311 m_MO_complaints := ⟨tg_9 97 rfl rfl, by decide, by decide⟩
theorem st_LAW_312 : ST m_LAW 312 m_LW_failures := ⟨tg_5 174 rfl rfl, by decide, by decide⟩
theorem st_LAW_314 : ST m_LAW 314 m_MO_failures := ⟨tg_9 101 rfl rfl, by decide, by decide⟩
theorem st_LAW_315 : ST m_LAW 315 m_LW_latestVisit := ⟨tg_5 181 rfl rfl, by decide, by decide⟩
theorem st_LAW_317 : ST m_LAW 317 m_MO_latestVisit := ⟨tg_9 105 rfl rfl, by decide, by decide⟩
theorem st_LAW_318 : ST m_LAW 318 m_LW_finesOf := ⟨tg_5 188 rfl rfl, by decide, by decide⟩
theorem st_LAW_320 : ST m_LAW 320 m_MO_finesOf := ⟨tg_9 109 rfl rfl, by decide, by decide⟩
theorem st_LAW_321 : ST m_LAW 321 m_LW_gainsOf := ⟨tg_5 195 rfl rfl, by decide, by decide⟩
theorem st_LAW_323 : ST m_LAW 323 m_MO_gainsOf := ⟨tg_9 113 rfl rfl, by decide, by decide⟩
theorem st_LAW_324 : ST m_LAW 324 m_HS_shopAtRank := ⟨tg_3 63 rfl rfl, by decide, by decide⟩
theorem st_LAW_327 : ST m_LAW 327 m_MO_shopAtRank := ⟨tg_9 117 rfl rfl, by decide, by decide⟩
theorem st_LAW_328 : ST m_LAW 328 m_LW_usesThumb := ⟨tg_5 202 rfl rfl, by decide, by decide⟩
theorem st_LAW_330 : ST m_LAW 330 m_MO_usesThumb := ⟨tg_9 125 rfl rfl, by decide, by decide⟩
theorem st_LAW_331 : ST m_LAW 331 m_LW_fineIfVisited := ⟨tg_5 210 rfl rfl, by decide, by decide⟩
theorem st_LAW_333 : ST m_LAW 333 m_MO_fineIfVisited := ⟨tg_9 129 rfl rfl, by decide, by decide⟩
theorem st_LAW_334 : ST m_LAW 334 m_LW_whyFail := ⟨tg_5 218 rfl rfl, by decide, by decide⟩
theorem st_LAW_336 : ST m_LAW 336 m_MO_whyFail := ⟨tg_9 133 rfl rfl, by decide, by decide⟩
theorem st_LAW_337 : ST m_LAW 337 m_LW_nextGain := ⟨tg_5 225 rfl rfl, by decide, by decide⟩
theorem st_LAW_339 : ST m_LAW 339 m_MO_nextGain := ⟨tg_9 137 rfl rfl, by decide, by decide⟩
theorem st_LAW_340 : ST m_LAW 340 m_HS_nextVisited := ⟨tg_3 71 rfl rfl, by decide, by decide⟩
theorem st_LAW_343 : ST m_LAW 343 m_MO_nextVisited := ⟨tg_9 145 rfl rfl, by decide, by decide⟩
theorem st_LAW_344 : ST m_LAW 344 m_LW_daysUntilFalse := ⟨tg_5 234 rfl rfl, by decide, by decide⟩
theorem st_LAW_346 : ST m_LAW 346 m_MO_daysUntilFalse := ⟨tg_9 149 rfl rfl, by decide, by decide⟩
theorem st_LAW_347 : ST m_LAW 347 m_LW_purseAfter := ⟨tg_6 2 rfl rfl, by decide, by decide⟩
theorem st_LAW_349 : ST m_LAW 349 m_MO_purseAfter := ⟨tg_9 153 rfl rfl, by decide, by decide⟩
theorem st_LAW_350 : ST m_LAW 350 m_LW_bestThumb := ⟨tg_6 9 rfl rfl, by decide, by decide⟩
theorem st_LAW_352 : ST m_LAW 352 m_MO_bestThumb := ⟨tg_9 161 rfl rfl, by decide, by decide⟩
theorem st_LAW_353 : ST m_LAW 353 m_HS_mostFined := ⟨tg_3 138 rfl rfl, by decide, by decide⟩
theorem st_LAW_356 : ST m_LAW 356 m_MO_mostFined := ⟨tg_9 166 rfl rfl, by decide, by decide⟩
theorem st_LAW_357 : ST m_LAW 357 m_LW_ounces := ⟨tg_6 16 rfl rfl, by decide, by decide⟩
theorem st_LAW_359 : ST m_LAW 359 m_MO_ounces := ⟨tg_9 170 rfl rfl, by decide, by decide⟩
theorem st_LAW_360 : ST m_LAW 360 m_LW_expiringStamps := ⟨tg_6 24 rfl rfl, by decide, by decide⟩
theorem st_LAW_362 : ST m_LAW 362 m_MO_expiringStamps := ⟨tg_9 174 rfl rfl, by decide, by decide⟩
theorem st_LAW_363 : ST m_LAW 363 m_LW_daysUntilClosed := ⟨tg_6 31 rfl rfl, by decide, by decide⟩
theorem st_LAW_365 : ST m_LAW 365 m_MO_daysUntilClosed := ⟨tg_9 178 rfl rfl, by decide, by decide⟩
theorem st_LAW_366 : ST m_LAW 366 m_HS_coinError := ⟨tg_3 142 rfl rfl, by decide, by decide⟩
theorem st_LAW_369 : ST m_LAW 369 m_MO_coinError := ⟨tg_9 182 rfl rfl, by decide, by decide⟩
theorem st_LAW_370 : ST m_LAW 370 m_HS_meanExcess := ⟨tg_3 146 rfl rfl, by decide, by decide⟩
theorem st_LAW_374 : ST m_LAW 374 m_MO_meanExcess := ⟨tg_9 186 rfl rfl, by decide, by decide⟩
theorem st_LAW_375 : ST m_LAW 375 m_HS_trueShare := ⟨tg_3 167 rfl rfl, by decide, by decide⟩
theorem st_LAW_379 : ST m_LAW 379 m_MO_trueShare := ⟨tg_9 190 rfl rfl, by decide, by decide⟩
theorem st_LAW_380 : ST m_LAW 380 m_LW_writeShop := ⟨tg_6 38 rfl rfl, by decide, by decide⟩
theorem st_LAW_382 : ST m_LAW 382 m_MO_writeShop := ⟨tg_9 194 rfl rfl, by decide, by decide⟩
theorem st_LAW_383 : ST m_LAW 383 m_HS_outputByte := ⟨tg_3 176 rfl rfl, by decide, by decide⟩
theorem st_LAW_386 : ST m_LAW 386 m_MO_outputByte := ⟨tg_9 206 rfl rfl, by decide, by decide⟩
theorem cl_LAW_8 : CLk "HonestScalesLaw" 8 0 := ⟨_, rfl, tg_1 30 rfl rfl, tg_1 31 rfl rfl, tg_1 1 rfl rfl⟩
theorem cl_LAW_162 : CLk "HonestScalesLaw" 162 7 := ⟨_, rfl, tg_7 61 rfl rfl, tg_7 62 rfl rfl, tg_1 14 rfl rfl⟩
theorem ac_j : Cond.arrayClass (aTy 24) ∈ tG := tg_9 210 rfl rfl
theorem d_LAW_0 : decode (mC m_LAW) 0 = .ok (.new 8, 3) := by decide +kernel
theorem d_LAW_3 : decode (mC m_LAW) 3 = .ok (.dup, 1) := by decide +kernel
theorem d_LAW_4 : decode (mC m_LAW) 4 = .ok (.invokespecial 161, 3) := by decide +kernel
theorem d_LAW_7 : decode (mC m_LAW) 7 = .ok (.astore_n 1, 1) := by decide +kernel
theorem d_LAW_8 : decode (mC m_LAW) 8 = .ok (.new 162, 3) := by decide +kernel
theorem d_LAW_11 : decode (mC m_LAW) 11 = .ok (.dup, 1) := by decide +kernel
theorem d_LAW_12 : decode (mC m_LAW) 12 = .ok (.invokespecial 164, 3) := by decide +kernel
theorem d_LAW_15 : decode (mC m_LAW) 15 = .ok (.astore_n 2, 1) := by decide +kernel
theorem d_LAW_16 : decode (mC m_LAW) 16 = .ok (.iconst 1, 1) := by decide +kernel
theorem d_LAW_17 : decode (mC m_LAW) 17 = .ok (.newarray .long, 2) := by decide +kernel
theorem d_LAW_19 : decode (mC m_LAW) 19 = .ok (.astore_n 3, 1) := by decide +kernel
theorem d_LAW_20 : decode (mC m_LAW) 20 = .ok (.iconst 0, 1) := by decide +kernel
theorem d_LAW_21 : decode (mC m_LAW) 21 = .ok (.istore 4, 2) := by decide +kernel
theorem d_LAW_23 : decode (mC m_LAW) 23 = .ok (.iload 4, 2) := by decide +kernel
theorem d_LAW_25 : decode (mC m_LAW) 25 = .ok (.aload_n 0, 1) := by decide +kernel
theorem d_LAW_26 : decode (mC m_LAW) 26 = .ok (.arraylength, 1) := by decide +kernel
theorem d_LAW_27 : decode (mC m_LAW) 27 = .ok (.bipush 6, 2) := by decide +kernel
theorem d_LAW_29 : decode (mC m_LAW) 29 = .ok (.isub, 1) := by decide +kernel
theorem d_LAW_30 : decode (mC m_LAW) 30 = .ok (.if_icmp .gt 3260, 3) := by decide +kernel
theorem d_LAW_33 : decode (mC m_LAW) 33 = .ok (.aload_n 0, 1) := by decide +kernel
theorem d_LAW_34 : decode (mC m_LAW) 34 = .ok (.iload 4, 2) := by decide +kernel
theorem d_LAW_36 : decode (mC m_LAW) 36 = .ok (.iaload, 1) := by decide +kernel
theorem d_LAW_37 : decode (mC m_LAW) 37 = .ok (.bipush 63, 2) := by decide +kernel
theorem d_LAW_39 : decode (mC m_LAW) 39 = .ok (.iand, 1) := by decide +kernel
theorem d_LAW_40 : decode (mC m_LAW) 40 = .ok (.tableswitch 3244 0 63 #[272, 376, 432, 445, 458, 502, 546, 602, 658, 714, 782, 838, 894, 950, 1006, 1050, 1086, 1142, 1155, 1168, 1224, 1280, 1293, 1306, 1319, 1332, 1345, 1401, 1457, 1513, 1581, 1649, 1705, 1768, 1824, 1880, 1943, 1956, 1969, 2032, 2088, 2144, 2200, 2256, 2312, 2368, 2424, 2449, 2512, 2568, 2624, 2680, 2693, 2749, 2817, 2885, 2898, 2954, 3010, 3066, 3079, 3120, 3163, 3219], 272) := by decide +kernel
theorem d_LAW_312 : decode (mC m_LAW) 312 = .ok (.aload_n 1, 1) := by decide +kernel
theorem d_LAW_313 : decode (mC m_LAW) 313 = .ok (.aload_n 0, 1) := by decide +kernel
theorem d_LAW_314 : decode (mC m_LAW) 314 = .ok (.iload 4, 2) := by decide +kernel
theorem d_LAW_316 : decode (mC m_LAW) 316 = .ok (.iconst 1, 1) := by decide +kernel
theorem d_LAW_317 : decode (mC m_LAW) 317 = .ok (.iadd, 1) := by decide +kernel
theorem d_LAW_318 : decode (mC m_LAW) 318 = .ok (.iaload, 1) := by decide +kernel
theorem d_LAW_319 : decode (mC m_LAW) 319 = .ok (.aload_n 0, 1) := by decide +kernel
theorem d_LAW_320 : decode (mC m_LAW) 320 = .ok (.iload 4, 2) := by decide +kernel
theorem d_LAW_322 : decode (mC m_LAW) 322 = .ok (.iconst 2, 1) := by decide +kernel
theorem d_LAW_323 : decode (mC m_LAW) 323 = .ok (.iadd, 1) := by decide +kernel
theorem d_LAW_324 : decode (mC m_LAW) 324 = .ok (.iaload, 1) := by decide +kernel
theorem d_LAW_325 : decode (mC m_LAW) 325 = .ok (.aload_n 0, 1) := by decide +kernel
theorem d_LAW_326 : decode (mC m_LAW) 326 = .ok (.iload 4, 2) := by decide +kernel
theorem d_LAW_328 : decode (mC m_LAW) 328 = .ok (.iconst 3, 1) := by decide +kernel
theorem d_LAW_329 : decode (mC m_LAW) 329 = .ok (.iadd, 1) := by decide +kernel
theorem d_LAW_330 : decode (mC m_LAW) 330 = .ok (.iaload, 1) := by decide +kernel
theorem d_LAW_331 : decode (mC m_LAW) 331 = .ok (.aload_n 0, 1) := by decide +kernel
theorem d_LAW_332 : decode (mC m_LAW) 332 = .ok (.iload 4, 2) := by decide +kernel
theorem d_LAW_334 : decode (mC m_LAW) 334 = .ok (.iconst 4, 1) := by decide +kernel
theorem d_LAW_335 : decode (mC m_LAW) 335 = .ok (.iadd, 1) := by decide +kernel
theorem d_LAW_336 : decode (mC m_LAW) 336 = .ok (.iaload, 1) := by decide +kernel
theorem d_LAW_337 : decode (mC m_LAW) 337 = .ok (.aload_n 0, 1) := by decide +kernel
theorem d_LAW_338 : decode (mC m_LAW) 338 = .ok (.iload 4, 2) := by decide +kernel
theorem d_LAW_340 : decode (mC m_LAW) 340 = .ok (.iconst 5, 1) := by decide +kernel
theorem d_LAW_341 : decode (mC m_LAW) 341 = .ok (.iadd, 1) := by decide +kernel
theorem d_LAW_342 : decode (mC m_LAW) 342 = .ok (.iaload, 1) := by decide +kernel
theorem d_LAW_343 : decode (mC m_LAW) 343 = .ok (.aload_n 3, 1) := by decide +kernel
theorem d_LAW_344 : decode (mC m_LAW) 344 = .ok (.invokestatic 165, 3) := by decide +kernel
theorem d_LAW_347 : decode (mC m_LAW) 347 = .ok (.istore 5, 2) := by decide +kernel
theorem d_LAW_349 : decode (mC m_LAW) 349 = .ok (.aload_n 2, 1) := by decide +kernel
theorem d_LAW_350 : decode (mC m_LAW) 350 = .ok (.aload_n 0, 1) := by decide +kernel
theorem d_LAW_351 : decode (mC m_LAW) 351 = .ok (.iload 4, 2) := by decide +kernel
theorem d_LAW_353 : decode (mC m_LAW) 353 = .ok (.iconst 1, 1) := by decide +kernel
theorem d_LAW_354 : decode (mC m_LAW) 354 = .ok (.iadd, 1) := by decide +kernel
theorem d_LAW_355 : decode (mC m_LAW) 355 = .ok (.iaload, 1) := by decide +kernel
theorem d_LAW_356 : decode (mC m_LAW) 356 = .ok (.aload_n 0, 1) := by decide +kernel
theorem d_LAW_357 : decode (mC m_LAW) 357 = .ok (.iload 4, 2) := by decide +kernel
theorem d_LAW_359 : decode (mC m_LAW) 359 = .ok (.iconst 2, 1) := by decide +kernel
theorem d_LAW_360 : decode (mC m_LAW) 360 = .ok (.iadd, 1) := by decide +kernel
theorem d_LAW_361 : decode (mC m_LAW) 361 = .ok (.iaload, 1) := by decide +kernel
theorem d_LAW_362 : decode (mC m_LAW) 362 = .ok (.aload_n 0, 1) := by decide +kernel
theorem d_LAW_363 : decode (mC m_LAW) 363 = .ok (.iload 4, 2) := by decide +kernel
theorem d_LAW_365 : decode (mC m_LAW) 365 = .ok (.iconst 3, 1) := by decide +kernel
theorem d_LAW_366 : decode (mC m_LAW) 366 = .ok (.iadd, 1) := by decide +kernel
theorem d_LAW_367 : decode (mC m_LAW) 367 = .ok (.iaload, 1) := by decide +kernel
theorem d_LAW_368 : decode (mC m_LAW) 368 = .ok (.aload_n 0, 1) := by decide +kernel
theorem d_LAW_369 : decode (mC m_LAW) 369 = .ok (.iload 4, 2) := by decide +kernel
theorem d_LAW_371 : decode (mC m_LAW) 371 = .ok (.iconst 4, 1) := by decide +kernel
theorem d_LAW_372 : decode (mC m_LAW) 372 = .ok (.iadd, 1) := by decide +kernel
theorem d_LAW_373 : decode (mC m_LAW) 373 = .ok (.iaload, 1) := by decide +kernel
theorem d_LAW_374 : decode (mC m_LAW) 374 = .ok (.aload_n 0, 1) := by decide +kernel
theorem d_LAW_375 : decode (mC m_LAW) 375 = .ok (.iload 4, 2) := by decide +kernel
theorem d_LAW_377 : decode (mC m_LAW) 377 = .ok (.iconst 5, 1) := by decide +kernel
theorem d_LAW_378 : decode (mC m_LAW) 378 = .ok (.iadd, 1) := by decide +kernel
theorem d_LAW_379 : decode (mC m_LAW) 379 = .ok (.iaload, 1) := by decide +kernel
theorem d_LAW_380 : decode (mC m_LAW) 380 = .ok (.invokevirtual 170, 3) := by decide +kernel
theorem d_LAW_383 : decode (mC m_LAW) 383 = .ok (.istore 6, 2) := by decide +kernel
theorem d_LAW_385 : decode (mC m_LAW) 385 = .ok (.aload_n 2, 1) := by decide +kernel
theorem d_LAW_386 : decode (mC m_LAW) 386 = .ok (.invokevirtual 171, 3) := by decide +kernel
theorem d_LAW_389 : decode (mC m_LAW) 389 = .ok (.iload 5, 2) := by decide +kernel
theorem d_LAW_391 : decode (mC m_LAW) 391 = .ok (.if_icmp .eq 5, 3) := by decide +kernel
theorem d_LAW_394 : decode (mC m_LAW) 394 = .ok (.iconst 0, 1) := by decide +kernel
theorem d_LAW_395 : decode (mC m_LAW) 395 = .ok (.ireturn, 1) := by decide +kernel
theorem d_LAW_396 : decode (mC m_LAW) 396 = .ok (.iload 5, 2) := by decide +kernel
theorem d_LAW_398 : decode (mC m_LAW) 398 = .ok (.ifCond .ne 15, 3) := by decide +kernel
theorem d_LAW_401 : decode (mC m_LAW) 401 = .ok (.aload_n 3, 1) := by decide +kernel
theorem d_LAW_402 : decode (mC m_LAW) 402 = .ok (.iconst 0, 1) := by decide +kernel
theorem d_LAW_403 : decode (mC m_LAW) 403 = .ok (.laload, 1) := by decide +kernel
theorem d_LAW_404 : decode (mC m_LAW) 404 = .ok (.iload 6, 2) := by decide +kernel
theorem d_LAW_406 : decode (mC m_LAW) 406 = .ok (.i2l, 1) := by decide +kernel
theorem d_LAW_407 : decode (mC m_LAW) 407 = .ok (.lcmp, 1) := by decide +kernel
theorem d_LAW_408 : decode (mC m_LAW) 408 = .ok (.ifCond .eq 5, 3) := by decide +kernel
theorem d_LAW_411 : decode (mC m_LAW) 411 = .ok (.iconst 0, 1) := by decide +kernel
theorem d_LAW_412 : decode (mC m_LAW) 412 = .ok (.ireturn, 1) := by decide +kernel
theorem d_LAW_413 : decode (mC m_LAW) 413 = .ok (.goto 2871, 3) := by decide +kernel
theorem d_LAW_416 : decode (mC m_LAW) 416 = .ok (.aload_n 1, 1) := by decide +kernel
theorem d_LAW_417 : decode (mC m_LAW) 417 = .ok (.aload_n 0, 1) := by decide +kernel
theorem d_LAW_418 : decode (mC m_LAW) 418 = .ok (.iload 4, 2) := by decide +kernel
theorem d_LAW_420 : decode (mC m_LAW) 420 = .ok (.iconst 1, 1) := by decide +kernel
theorem d_LAW_421 : decode (mC m_LAW) 421 = .ok (.iadd, 1) := by decide +kernel
theorem d_LAW_422 : decode (mC m_LAW) 422 = .ok (.iaload, 1) := by decide +kernel
theorem d_LAW_423 : decode (mC m_LAW) 423 = .ok (.aload_n 3, 1) := by decide +kernel
theorem d_LAW_424 : decode (mC m_LAW) 424 = .ok (.invokestatic 174, 3) := by decide +kernel
theorem d_LAW_427 : decode (mC m_LAW) 427 = .ok (.istore 5, 2) := by decide +kernel
theorem d_LAW_429 : decode (mC m_LAW) 429 = .ok (.aload_n 2, 1) := by decide +kernel
theorem d_LAW_430 : decode (mC m_LAW) 430 = .ok (.aload_n 0, 1) := by decide +kernel
theorem d_LAW_431 : decode (mC m_LAW) 431 = .ok (.iload 4, 2) := by decide +kernel
theorem d_LAW_433 : decode (mC m_LAW) 433 = .ok (.iconst 1, 1) := by decide +kernel
theorem d_LAW_434 : decode (mC m_LAW) 434 = .ok (.iadd, 1) := by decide +kernel
theorem d_LAW_435 : decode (mC m_LAW) 435 = .ok (.iaload, 1) := by decide +kernel
theorem d_LAW_436 : decode (mC m_LAW) 436 = .ok (.invokevirtual 177, 3) := by decide +kernel
theorem d_LAW_439 : decode (mC m_LAW) 439 = .ok (.istore 6, 2) := by decide +kernel
theorem d_LAW_441 : decode (mC m_LAW) 441 = .ok (.aload_n 2, 1) := by decide +kernel
theorem d_LAW_442 : decode (mC m_LAW) 442 = .ok (.invokevirtual 171, 3) := by decide +kernel
theorem d_LAW_445 : decode (mC m_LAW) 445 = .ok (.iload 5, 2) := by decide +kernel
theorem d_LAW_447 : decode (mC m_LAW) 447 = .ok (.if_icmp .eq 5, 3) := by decide +kernel
theorem d_LAW_450 : decode (mC m_LAW) 450 = .ok (.iconst 0, 1) := by decide +kernel
theorem d_LAW_451 : decode (mC m_LAW) 451 = .ok (.ireturn, 1) := by decide +kernel
theorem d_LAW_452 : decode (mC m_LAW) 452 = .ok (.iload 5, 2) := by decide +kernel
theorem d_LAW_454 : decode (mC m_LAW) 454 = .ok (.ifCond .ne 15, 3) := by decide +kernel
theorem d_LAW_457 : decode (mC m_LAW) 457 = .ok (.aload_n 3, 1) := by decide +kernel
theorem d_LAW_458 : decode (mC m_LAW) 458 = .ok (.iconst 0, 1) := by decide +kernel
theorem d_LAW_459 : decode (mC m_LAW) 459 = .ok (.laload, 1) := by decide +kernel
theorem d_LAW_460 : decode (mC m_LAW) 460 = .ok (.iload 6, 2) := by decide +kernel
theorem d_LAW_462 : decode (mC m_LAW) 462 = .ok (.i2l, 1) := by decide +kernel
theorem d_LAW_463 : decode (mC m_LAW) 463 = .ok (.lcmp, 1) := by decide +kernel
theorem d_LAW_464 : decode (mC m_LAW) 464 = .ok (.ifCond .eq 5, 3) := by decide +kernel
theorem d_LAW_467 : decode (mC m_LAW) 467 = .ok (.iconst 0, 1) := by decide +kernel
theorem d_LAW_468 : decode (mC m_LAW) 468 = .ok (.ireturn, 1) := by decide +kernel
theorem d_LAW_469 : decode (mC m_LAW) 469 = .ok (.goto 2815, 3) := by decide +kernel
theorem d_LAW_472 : decode (mC m_LAW) 472 = .ok (.aload_n 1, 1) := by decide +kernel
theorem d_LAW_473 : decode (mC m_LAW) 473 = .ok (.invokevirtual 178, 3) := by decide +kernel
theorem d_LAW_476 : decode (mC m_LAW) 476 = .ok (.aload_n 2, 1) := by decide +kernel
theorem d_LAW_477 : decode (mC m_LAW) 477 = .ok (.invokevirtual 181, 3) := by decide +kernel
theorem d_LAW_480 : decode (mC m_LAW) 480 = .ok (.if_icmp .eq 2804, 3) := by decide +kernel
theorem d_LAW_483 : decode (mC m_LAW) 483 = .ok (.iconst 0, 1) := by decide +kernel
theorem d_LAW_484 : decode (mC m_LAW) 484 = .ok (.ireturn, 1) := by decide +kernel
theorem d_LAW_485 : decode (mC m_LAW) 485 = .ok (.aload_n 1, 1) := by decide +kernel
theorem d_LAW_486 : decode (mC m_LAW) 486 = .ok (.invokevirtual 182, 3) := by decide +kernel
theorem d_LAW_489 : decode (mC m_LAW) 489 = .ok (.aload_n 2, 1) := by decide +kernel
theorem d_LAW_490 : decode (mC m_LAW) 490 = .ok (.invokevirtual 185, 3) := by decide +kernel
theorem d_LAW_493 : decode (mC m_LAW) 493 = .ok (.if_icmp .eq 2791, 3) := by decide +kernel
theorem d_LAW_496 : decode (mC m_LAW) 496 = .ok (.iconst 0, 1) := by decide +kernel
theorem d_LAW_497 : decode (mC m_LAW) 497 = .ok (.ireturn, 1) := by decide +kernel
theorem d_LAW_498 : decode (mC m_LAW) 498 = .ok (.aload_n 1, 1) := by decide +kernel
theorem d_LAW_499 : decode (mC m_LAW) 499 = .ok (.aload_n 3, 1) := by decide +kernel
theorem d_LAW_500 : decode (mC m_LAW) 500 = .ok (.invokestatic 186, 3) := by decide +kernel
theorem d_LAW_503 : decode (mC m_LAW) 503 = .ok (.istore 5, 2) := by decide +kernel
theorem d_LAW_505 : decode (mC m_LAW) 505 = .ok (.aload_n 2, 1) := by decide +kernel
theorem d_LAW_506 : decode (mC m_LAW) 506 = .ok (.invokevirtual 189, 3) := by decide +kernel
theorem d_LAW_509 : decode (mC m_LAW) 509 = .ok (.istore 6, 2) := by decide +kernel
theorem d_LAW_511 : decode (mC m_LAW) 511 = .ok (.aload_n 2, 1) := by decide +kernel
theorem d_LAW_512 : decode (mC m_LAW) 512 = .ok (.invokevirtual 171, 3) := by decide +kernel
theorem d_LAW_515 : decode (mC m_LAW) 515 = .ok (.iload 5, 2) := by decide +kernel
theorem d_LAW_517 : decode (mC m_LAW) 517 = .ok (.if_icmp .eq 5, 3) := by decide +kernel
theorem d_LAW_520 : decode (mC m_LAW) 520 = .ok (.iconst 0, 1) := by decide +kernel
theorem d_LAW_521 : decode (mC m_LAW) 521 = .ok (.ireturn, 1) := by decide +kernel
theorem d_LAW_522 : decode (mC m_LAW) 522 = .ok (.iload 5, 2) := by decide +kernel
theorem d_LAW_524 : decode (mC m_LAW) 524 = .ok (.ifCond .ne 15, 3) := by decide +kernel
theorem d_LAW_527 : decode (mC m_LAW) 527 = .ok (.aload_n 3, 1) := by decide +kernel
theorem d_LAW_528 : decode (mC m_LAW) 528 = .ok (.iconst 0, 1) := by decide +kernel
theorem d_LAW_529 : decode (mC m_LAW) 529 = .ok (.laload, 1) := by decide +kernel
theorem d_LAW_530 : decode (mC m_LAW) 530 = .ok (.iload 6, 2) := by decide +kernel
theorem d_LAW_532 : decode (mC m_LAW) 532 = .ok (.i2l, 1) := by decide +kernel
theorem d_LAW_533 : decode (mC m_LAW) 533 = .ok (.lcmp, 1) := by decide +kernel
theorem d_LAW_534 : decode (mC m_LAW) 534 = .ok (.ifCond .eq 5, 3) := by decide +kernel
theorem d_LAW_537 : decode (mC m_LAW) 537 = .ok (.iconst 0, 1) := by decide +kernel
theorem d_LAW_538 : decode (mC m_LAW) 538 = .ok (.ireturn, 1) := by decide +kernel
theorem d_LAW_539 : decode (mC m_LAW) 539 = .ok (.goto 2745, 3) := by decide +kernel
theorem d_LAW_542 : decode (mC m_LAW) 542 = .ok (.aload_n 1, 1) := by decide +kernel
theorem d_LAW_543 : decode (mC m_LAW) 543 = .ok (.aload_n 3, 1) := by decide +kernel
theorem d_LAW_544 : decode (mC m_LAW) 544 = .ok (.invokestatic 190, 3) := by decide +kernel
theorem d_LAW_547 : decode (mC m_LAW) 547 = .ok (.istore 5, 2) := by decide +kernel
theorem d_LAW_549 : decode (mC m_LAW) 549 = .ok (.aload_n 2, 1) := by decide +kernel
theorem d_LAW_550 : decode (mC m_LAW) 550 = .ok (.invokevirtual 192, 3) := by decide +kernel
theorem d_LAW_553 : decode (mC m_LAW) 553 = .ok (.istore 6, 2) := by decide +kernel
theorem d_LAW_555 : decode (mC m_LAW) 555 = .ok (.aload_n 2, 1) := by decide +kernel
theorem d_LAW_556 : decode (mC m_LAW) 556 = .ok (.invokevirtual 171, 3) := by decide +kernel
theorem d_LAW_559 : decode (mC m_LAW) 559 = .ok (.iload 5, 2) := by decide +kernel
theorem d_LAW_561 : decode (mC m_LAW) 561 = .ok (.if_icmp .eq 5, 3) := by decide +kernel
theorem d_LAW_564 : decode (mC m_LAW) 564 = .ok (.iconst 0, 1) := by decide +kernel
theorem d_LAW_565 : decode (mC m_LAW) 565 = .ok (.ireturn, 1) := by decide +kernel
theorem d_LAW_566 : decode (mC m_LAW) 566 = .ok (.iload 5, 2) := by decide +kernel
theorem d_LAW_568 : decode (mC m_LAW) 568 = .ok (.ifCond .ne 15, 3) := by decide +kernel
theorem d_LAW_571 : decode (mC m_LAW) 571 = .ok (.aload_n 3, 1) := by decide +kernel
theorem d_LAW_572 : decode (mC m_LAW) 572 = .ok (.iconst 0, 1) := by decide +kernel
theorem d_LAW_573 : decode (mC m_LAW) 573 = .ok (.laload, 1) := by decide +kernel
theorem d_LAW_574 : decode (mC m_LAW) 574 = .ok (.iload 6, 2) := by decide +kernel
theorem d_LAW_576 : decode (mC m_LAW) 576 = .ok (.i2l, 1) := by decide +kernel
theorem d_LAW_577 : decode (mC m_LAW) 577 = .ok (.lcmp, 1) := by decide +kernel
theorem d_LAW_578 : decode (mC m_LAW) 578 = .ok (.ifCond .eq 5, 3) := by decide +kernel
theorem d_LAW_581 : decode (mC m_LAW) 581 = .ok (.iconst 0, 1) := by decide +kernel
theorem d_LAW_582 : decode (mC m_LAW) 582 = .ok (.ireturn, 1) := by decide +kernel
theorem d_LAW_583 : decode (mC m_LAW) 583 = .ok (.goto 2701, 3) := by decide +kernel
theorem d_LAW_586 : decode (mC m_LAW) 586 = .ok (.aload_n 1, 1) := by decide +kernel
theorem d_LAW_587 : decode (mC m_LAW) 587 = .ok (.aload_n 0, 1) := by decide +kernel
theorem d_LAW_588 : decode (mC m_LAW) 588 = .ok (.iload 4, 2) := by decide +kernel
theorem d_LAW_590 : decode (mC m_LAW) 590 = .ok (.iconst 1, 1) := by decide +kernel
theorem d_LAW_591 : decode (mC m_LAW) 591 = .ok (.iadd, 1) := by decide +kernel
theorem d_LAW_592 : decode (mC m_LAW) 592 = .ok (.iaload, 1) := by decide +kernel
theorem d_LAW_593 : decode (mC m_LAW) 593 = .ok (.aload_n 3, 1) := by decide +kernel
theorem d_LAW_594 : decode (mC m_LAW) 594 = .ok (.invokestatic 193, 3) := by decide +kernel
theorem d_LAW_597 : decode (mC m_LAW) 597 = .ok (.istore 5, 2) := by decide +kernel
theorem d_LAW_599 : decode (mC m_LAW) 599 = .ok (.aload_n 2, 1) := by decide +kernel
theorem d_LAW_600 : decode (mC m_LAW) 600 = .ok (.aload_n 0, 1) := by decide +kernel
theorem d_LAW_601 : decode (mC m_LAW) 601 = .ok (.iload 4, 2) := by decide +kernel
theorem d_LAW_603 : decode (mC m_LAW) 603 = .ok (.iconst 1, 1) := by decide +kernel
theorem d_LAW_604 : decode (mC m_LAW) 604 = .ok (.iadd, 1) := by decide +kernel
theorem d_LAW_605 : decode (mC m_LAW) 605 = .ok (.iaload, 1) := by decide +kernel
theorem d_LAW_606 : decode (mC m_LAW) 606 = .ok (.invokevirtual 195, 3) := by decide +kernel
theorem d_LAW_609 : decode (mC m_LAW) 609 = .ok (.istore 6, 2) := by decide +kernel
theorem d_LAW_611 : decode (mC m_LAW) 611 = .ok (.aload_n 2, 1) := by decide +kernel
theorem d_LAW_612 : decode (mC m_LAW) 612 = .ok (.invokevirtual 171, 3) := by decide +kernel
theorem d_LAW_615 : decode (mC m_LAW) 615 = .ok (.iload 5, 2) := by decide +kernel
theorem d_LAW_617 : decode (mC m_LAW) 617 = .ok (.if_icmp .eq 5, 3) := by decide +kernel
theorem d_LAW_620 : decode (mC m_LAW) 620 = .ok (.iconst 0, 1) := by decide +kernel
theorem d_LAW_621 : decode (mC m_LAW) 621 = .ok (.ireturn, 1) := by decide +kernel
theorem d_LAW_622 : decode (mC m_LAW) 622 = .ok (.iload 5, 2) := by decide +kernel
theorem d_LAW_624 : decode (mC m_LAW) 624 = .ok (.ifCond .ne 15, 3) := by decide +kernel
theorem d_LAW_627 : decode (mC m_LAW) 627 = .ok (.aload_n 3, 1) := by decide +kernel
theorem d_LAW_628 : decode (mC m_LAW) 628 = .ok (.iconst 0, 1) := by decide +kernel
theorem d_LAW_629 : decode (mC m_LAW) 629 = .ok (.laload, 1) := by decide +kernel
theorem d_LAW_630 : decode (mC m_LAW) 630 = .ok (.iload 6, 2) := by decide +kernel
theorem d_LAW_632 : decode (mC m_LAW) 632 = .ok (.i2l, 1) := by decide +kernel
theorem d_LAW_633 : decode (mC m_LAW) 633 = .ok (.lcmp, 1) := by decide +kernel
theorem d_LAW_634 : decode (mC m_LAW) 634 = .ok (.ifCond .eq 5, 3) := by decide +kernel
theorem d_LAW_637 : decode (mC m_LAW) 637 = .ok (.iconst 0, 1) := by decide +kernel
theorem d_LAW_638 : decode (mC m_LAW) 638 = .ok (.ireturn, 1) := by decide +kernel
theorem d_LAW_639 : decode (mC m_LAW) 639 = .ok (.goto 2645, 3) := by decide +kernel
theorem d_LAW_642 : decode (mC m_LAW) 642 = .ok (.aload_n 1, 1) := by decide +kernel
theorem d_LAW_643 : decode (mC m_LAW) 643 = .ok (.aload_n 0, 1) := by decide +kernel
theorem d_LAW_644 : decode (mC m_LAW) 644 = .ok (.iload 4, 2) := by decide +kernel
theorem d_LAW_646 : decode (mC m_LAW) 646 = .ok (.iconst 1, 1) := by decide +kernel
theorem d_LAW_647 : decode (mC m_LAW) 647 = .ok (.iadd, 1) := by decide +kernel
theorem d_LAW_648 : decode (mC m_LAW) 648 = .ok (.iaload, 1) := by decide +kernel
theorem d_LAW_649 : decode (mC m_LAW) 649 = .ok (.aload_n 3, 1) := by decide +kernel
theorem d_LAW_650 : decode (mC m_LAW) 650 = .ok (.invokestatic 196, 3) := by decide +kernel
theorem d_LAW_653 : decode (mC m_LAW) 653 = .ok (.istore 5, 2) := by decide +kernel
theorem d_LAW_655 : decode (mC m_LAW) 655 = .ok (.aload_n 2, 1) := by decide +kernel
theorem d_LAW_656 : decode (mC m_LAW) 656 = .ok (.aload_n 0, 1) := by decide +kernel
theorem d_LAW_657 : decode (mC m_LAW) 657 = .ok (.iload 4, 2) := by decide +kernel
theorem d_LAW_659 : decode (mC m_LAW) 659 = .ok (.iconst 1, 1) := by decide +kernel
theorem d_LAW_660 : decode (mC m_LAW) 660 = .ok (.iadd, 1) := by decide +kernel
theorem d_LAW_661 : decode (mC m_LAW) 661 = .ok (.iaload, 1) := by decide +kernel
theorem d_LAW_662 : decode (mC m_LAW) 662 = .ok (.invokevirtual 198, 3) := by decide +kernel
theorem d_LAW_665 : decode (mC m_LAW) 665 = .ok (.istore 6, 2) := by decide +kernel
theorem d_LAW_667 : decode (mC m_LAW) 667 = .ok (.aload_n 2, 1) := by decide +kernel
theorem d_LAW_668 : decode (mC m_LAW) 668 = .ok (.invokevirtual 171, 3) := by decide +kernel
theorem d_LAW_671 : decode (mC m_LAW) 671 = .ok (.iload 5, 2) := by decide +kernel
theorem d_LAW_673 : decode (mC m_LAW) 673 = .ok (.if_icmp .eq 5, 3) := by decide +kernel
theorem d_LAW_676 : decode (mC m_LAW) 676 = .ok (.iconst 0, 1) := by decide +kernel
theorem d_LAW_677 : decode (mC m_LAW) 677 = .ok (.ireturn, 1) := by decide +kernel
theorem d_LAW_678 : decode (mC m_LAW) 678 = .ok (.iload 5, 2) := by decide +kernel
theorem d_LAW_680 : decode (mC m_LAW) 680 = .ok (.ifCond .ne 15, 3) := by decide +kernel
theorem d_LAW_683 : decode (mC m_LAW) 683 = .ok (.aload_n 3, 1) := by decide +kernel
theorem d_LAW_684 : decode (mC m_LAW) 684 = .ok (.iconst 0, 1) := by decide +kernel
theorem d_LAW_685 : decode (mC m_LAW) 685 = .ok (.laload, 1) := by decide +kernel
theorem d_LAW_686 : decode (mC m_LAW) 686 = .ok (.iload 6, 2) := by decide +kernel
theorem d_LAW_688 : decode (mC m_LAW) 688 = .ok (.i2l, 1) := by decide +kernel
theorem d_LAW_689 : decode (mC m_LAW) 689 = .ok (.lcmp, 1) := by decide +kernel
theorem d_LAW_690 : decode (mC m_LAW) 690 = .ok (.ifCond .eq 5, 3) := by decide +kernel
theorem d_LAW_693 : decode (mC m_LAW) 693 = .ok (.iconst 0, 1) := by decide +kernel
theorem d_LAW_694 : decode (mC m_LAW) 694 = .ok (.ireturn, 1) := by decide +kernel
theorem d_LAW_695 : decode (mC m_LAW) 695 = .ok (.goto 2589, 3) := by decide +kernel
theorem d_LAW_698 : decode (mC m_LAW) 698 = .ok (.aload_n 1, 1) := by decide +kernel
theorem d_LAW_699 : decode (mC m_LAW) 699 = .ok (.aload_n 0, 1) := by decide +kernel
theorem d_LAW_700 : decode (mC m_LAW) 700 = .ok (.iload 4, 2) := by decide +kernel
theorem d_LAW_702 : decode (mC m_LAW) 702 = .ok (.iconst 1, 1) := by decide +kernel
theorem d_LAW_703 : decode (mC m_LAW) 703 = .ok (.iadd, 1) := by decide +kernel
theorem d_LAW_704 : decode (mC m_LAW) 704 = .ok (.iaload, 1) := by decide +kernel
theorem d_LAW_705 : decode (mC m_LAW) 705 = .ok (.aload_n 3, 1) := by decide +kernel
theorem d_LAW_706 : decode (mC m_LAW) 706 = .ok (.invokestatic 199, 3) := by decide +kernel
theorem d_LAW_709 : decode (mC m_LAW) 709 = .ok (.istore 5, 2) := by decide +kernel
theorem d_LAW_711 : decode (mC m_LAW) 711 = .ok (.aload_n 2, 1) := by decide +kernel
theorem d_LAW_712 : decode (mC m_LAW) 712 = .ok (.aload_n 0, 1) := by decide +kernel
theorem d_LAW_713 : decode (mC m_LAW) 713 = .ok (.iload 4, 2) := by decide +kernel
theorem d_LAW_715 : decode (mC m_LAW) 715 = .ok (.iconst 1, 1) := by decide +kernel
theorem d_LAW_716 : decode (mC m_LAW) 716 = .ok (.iadd, 1) := by decide +kernel
theorem d_LAW_717 : decode (mC m_LAW) 717 = .ok (.iaload, 1) := by decide +kernel
theorem d_LAW_718 : decode (mC m_LAW) 718 = .ok (.invokevirtual 201, 3) := by decide +kernel
theorem d_LAW_721 : decode (mC m_LAW) 721 = .ok (.istore 6, 2) := by decide +kernel
theorem d_LAW_723 : decode (mC m_LAW) 723 = .ok (.aload_n 2, 1) := by decide +kernel
theorem d_LAW_724 : decode (mC m_LAW) 724 = .ok (.invokevirtual 171, 3) := by decide +kernel
theorem d_LAW_727 : decode (mC m_LAW) 727 = .ok (.iload 5, 2) := by decide +kernel
theorem d_LAW_729 : decode (mC m_LAW) 729 = .ok (.if_icmp .eq 5, 3) := by decide +kernel
theorem d_LAW_732 : decode (mC m_LAW) 732 = .ok (.iconst 0, 1) := by decide +kernel
theorem d_LAW_733 : decode (mC m_LAW) 733 = .ok (.ireturn, 1) := by decide +kernel
theorem d_LAW_734 : decode (mC m_LAW) 734 = .ok (.iload 5, 2) := by decide +kernel
theorem d_LAW_736 : decode (mC m_LAW) 736 = .ok (.ifCond .ne 15, 3) := by decide +kernel
theorem d_LAW_739 : decode (mC m_LAW) 739 = .ok (.aload_n 3, 1) := by decide +kernel
theorem d_LAW_740 : decode (mC m_LAW) 740 = .ok (.iconst 0, 1) := by decide +kernel
theorem d_LAW_741 : decode (mC m_LAW) 741 = .ok (.laload, 1) := by decide +kernel
theorem d_LAW_742 : decode (mC m_LAW) 742 = .ok (.iload 6, 2) := by decide +kernel
theorem d_LAW_744 : decode (mC m_LAW) 744 = .ok (.i2l, 1) := by decide +kernel
theorem d_LAW_745 : decode (mC m_LAW) 745 = .ok (.lcmp, 1) := by decide +kernel
theorem d_LAW_746 : decode (mC m_LAW) 746 = .ok (.ifCond .eq 5, 3) := by decide +kernel
theorem d_LAW_749 : decode (mC m_LAW) 749 = .ok (.iconst 0, 1) := by decide +kernel
theorem d_LAW_750 : decode (mC m_LAW) 750 = .ok (.ireturn, 1) := by decide +kernel
theorem d_LAW_751 : decode (mC m_LAW) 751 = .ok (.goto 2533, 3) := by decide +kernel
theorem d_LAW_754 : decode (mC m_LAW) 754 = .ok (.aload_n 1, 1) := by decide +kernel
theorem d_LAW_755 : decode (mC m_LAW) 755 = .ok (.aload_n 0, 1) := by decide +kernel
theorem d_LAW_756 : decode (mC m_LAW) 756 = .ok (.iload 4, 2) := by decide +kernel
theorem d_LAW_758 : decode (mC m_LAW) 758 = .ok (.iconst 1, 1) := by decide +kernel
theorem d_LAW_759 : decode (mC m_LAW) 759 = .ok (.iadd, 1) := by decide +kernel
theorem d_LAW_760 : decode (mC m_LAW) 760 = .ok (.iaload, 1) := by decide +kernel
theorem d_LAW_761 : decode (mC m_LAW) 761 = .ok (.aload_n 0, 1) := by decide +kernel
theorem d_LAW_762 : decode (mC m_LAW) 762 = .ok (.iload 4, 2) := by decide +kernel
theorem d_LAW_764 : decode (mC m_LAW) 764 = .ok (.iconst 2, 1) := by decide +kernel
theorem d_LAW_765 : decode (mC m_LAW) 765 = .ok (.iadd, 1) := by decide +kernel
theorem d_LAW_766 : decode (mC m_LAW) 766 = .ok (.iaload, 1) := by decide +kernel
theorem d_LAW_767 : decode (mC m_LAW) 767 = .ok (.aload_n 3, 1) := by decide +kernel
theorem d_LAW_768 : decode (mC m_LAW) 768 = .ok (.invokestatic 202, 3) := by decide +kernel
theorem d_LAW_771 : decode (mC m_LAW) 771 = .ok (.istore 5, 2) := by decide +kernel
theorem d_LAW_773 : decode (mC m_LAW) 773 = .ok (.aload_n 2, 1) := by decide +kernel
theorem d_LAW_774 : decode (mC m_LAW) 774 = .ok (.aload_n 0, 1) := by decide +kernel
theorem d_LAW_775 : decode (mC m_LAW) 775 = .ok (.iload 4, 2) := by decide +kernel
theorem d_LAW_777 : decode (mC m_LAW) 777 = .ok (.iconst 1, 1) := by decide +kernel
theorem d_LAW_778 : decode (mC m_LAW) 778 = .ok (.iadd, 1) := by decide +kernel
theorem d_LAW_779 : decode (mC m_LAW) 779 = .ok (.iaload, 1) := by decide +kernel
theorem d_LAW_780 : decode (mC m_LAW) 780 = .ok (.aload_n 0, 1) := by decide +kernel
theorem d_LAW_781 : decode (mC m_LAW) 781 = .ok (.iload 4, 2) := by decide +kernel
theorem d_LAW_783 : decode (mC m_LAW) 783 = .ok (.iconst 2, 1) := by decide +kernel
theorem d_LAW_784 : decode (mC m_LAW) 784 = .ok (.iadd, 1) := by decide +kernel
theorem d_LAW_785 : decode (mC m_LAW) 785 = .ok (.iaload, 1) := by decide +kernel
theorem d_LAW_786 : decode (mC m_LAW) 786 = .ok (.invokevirtual 205, 3) := by decide +kernel
theorem d_LAW_789 : decode (mC m_LAW) 789 = .ok (.istore 6, 2) := by decide +kernel
theorem d_LAW_791 : decode (mC m_LAW) 791 = .ok (.aload_n 2, 1) := by decide +kernel
theorem d_LAW_792 : decode (mC m_LAW) 792 = .ok (.invokevirtual 171, 3) := by decide +kernel
theorem d_LAW_795 : decode (mC m_LAW) 795 = .ok (.iload 5, 2) := by decide +kernel
theorem d_LAW_797 : decode (mC m_LAW) 797 = .ok (.if_icmp .eq 5, 3) := by decide +kernel
theorem d_LAW_800 : decode (mC m_LAW) 800 = .ok (.iconst 0, 1) := by decide +kernel
theorem d_LAW_801 : decode (mC m_LAW) 801 = .ok (.ireturn, 1) := by decide +kernel
theorem d_LAW_802 : decode (mC m_LAW) 802 = .ok (.iload 5, 2) := by decide +kernel
theorem d_LAW_804 : decode (mC m_LAW) 804 = .ok (.ifCond .ne 15, 3) := by decide +kernel
theorem d_LAW_807 : decode (mC m_LAW) 807 = .ok (.aload_n 3, 1) := by decide +kernel
theorem d_LAW_808 : decode (mC m_LAW) 808 = .ok (.iconst 0, 1) := by decide +kernel
theorem d_LAW_809 : decode (mC m_LAW) 809 = .ok (.laload, 1) := by decide +kernel
theorem d_LAW_810 : decode (mC m_LAW) 810 = .ok (.iload 6, 2) := by decide +kernel
theorem d_LAW_812 : decode (mC m_LAW) 812 = .ok (.i2l, 1) := by decide +kernel
theorem d_LAW_813 : decode (mC m_LAW) 813 = .ok (.lcmp, 1) := by decide +kernel
theorem d_LAW_814 : decode (mC m_LAW) 814 = .ok (.ifCond .eq 5, 3) := by decide +kernel
theorem d_LAW_817 : decode (mC m_LAW) 817 = .ok (.iconst 0, 1) := by decide +kernel
theorem d_LAW_818 : decode (mC m_LAW) 818 = .ok (.ireturn, 1) := by decide +kernel
theorem d_LAW_819 : decode (mC m_LAW) 819 = .ok (.goto 2465, 3) := by decide +kernel
theorem d_LAW_822 : decode (mC m_LAW) 822 = .ok (.aload_n 1, 1) := by decide +kernel
theorem d_LAW_823 : decode (mC m_LAW) 823 = .ok (.aload_n 0, 1) := by decide +kernel
theorem d_LAW_824 : decode (mC m_LAW) 824 = .ok (.iload 4, 2) := by decide +kernel
theorem d_LAW_826 : decode (mC m_LAW) 826 = .ok (.iconst 1, 1) := by decide +kernel
theorem d_LAW_827 : decode (mC m_LAW) 827 = .ok (.iadd, 1) := by decide +kernel
theorem d_LAW_828 : decode (mC m_LAW) 828 = .ok (.iaload, 1) := by decide +kernel
theorem d_LAW_829 : decode (mC m_LAW) 829 = .ok (.aload_n 3, 1) := by decide +kernel
theorem d_LAW_830 : decode (mC m_LAW) 830 = .ok (.invokestatic 206, 3) := by decide +kernel
theorem d_LAW_833 : decode (mC m_LAW) 833 = .ok (.istore 5, 2) := by decide +kernel
theorem d_LAW_835 : decode (mC m_LAW) 835 = .ok (.aload_n 2, 1) := by decide +kernel
theorem d_LAW_836 : decode (mC m_LAW) 836 = .ok (.aload_n 0, 1) := by decide +kernel
theorem d_LAW_837 : decode (mC m_LAW) 837 = .ok (.iload 4, 2) := by decide +kernel
theorem d_LAW_839 : decode (mC m_LAW) 839 = .ok (.iconst 1, 1) := by decide +kernel
theorem d_LAW_840 : decode (mC m_LAW) 840 = .ok (.iadd, 1) := by decide +kernel
theorem d_LAW_841 : decode (mC m_LAW) 841 = .ok (.iaload, 1) := by decide +kernel
theorem d_LAW_842 : decode (mC m_LAW) 842 = .ok (.invokevirtual 208, 3) := by decide +kernel
theorem d_LAW_845 : decode (mC m_LAW) 845 = .ok (.istore 6, 2) := by decide +kernel
theorem d_LAW_847 : decode (mC m_LAW) 847 = .ok (.aload_n 2, 1) := by decide +kernel
theorem d_LAW_848 : decode (mC m_LAW) 848 = .ok (.invokevirtual 171, 3) := by decide +kernel
theorem d_LAW_851 : decode (mC m_LAW) 851 = .ok (.iload 5, 2) := by decide +kernel
theorem d_LAW_853 : decode (mC m_LAW) 853 = .ok (.if_icmp .eq 5, 3) := by decide +kernel
theorem d_LAW_856 : decode (mC m_LAW) 856 = .ok (.iconst 0, 1) := by decide +kernel
theorem d_LAW_857 : decode (mC m_LAW) 857 = .ok (.ireturn, 1) := by decide +kernel
theorem d_LAW_858 : decode (mC m_LAW) 858 = .ok (.iload 5, 2) := by decide +kernel
theorem d_LAW_860 : decode (mC m_LAW) 860 = .ok (.ifCond .ne 15, 3) := by decide +kernel
theorem d_LAW_863 : decode (mC m_LAW) 863 = .ok (.aload_n 3, 1) := by decide +kernel
theorem d_LAW_864 : decode (mC m_LAW) 864 = .ok (.iconst 0, 1) := by decide +kernel
theorem d_LAW_865 : decode (mC m_LAW) 865 = .ok (.laload, 1) := by decide +kernel
theorem d_LAW_866 : decode (mC m_LAW) 866 = .ok (.iload 6, 2) := by decide +kernel
theorem d_LAW_868 : decode (mC m_LAW) 868 = .ok (.i2l, 1) := by decide +kernel
theorem d_LAW_869 : decode (mC m_LAW) 869 = .ok (.lcmp, 1) := by decide +kernel
theorem d_LAW_870 : decode (mC m_LAW) 870 = .ok (.ifCond .eq 5, 3) := by decide +kernel
theorem d_LAW_873 : decode (mC m_LAW) 873 = .ok (.iconst 0, 1) := by decide +kernel
theorem d_LAW_874 : decode (mC m_LAW) 874 = .ok (.ireturn, 1) := by decide +kernel
theorem d_LAW_875 : decode (mC m_LAW) 875 = .ok (.goto 2409, 3) := by decide +kernel
theorem d_LAW_878 : decode (mC m_LAW) 878 = .ok (.aload_n 1, 1) := by decide +kernel
theorem d_LAW_879 : decode (mC m_LAW) 879 = .ok (.aload_n 0, 1) := by decide +kernel
theorem d_LAW_880 : decode (mC m_LAW) 880 = .ok (.iload 4, 2) := by decide +kernel
theorem d_LAW_882 : decode (mC m_LAW) 882 = .ok (.iconst 1, 1) := by decide +kernel
theorem d_LAW_883 : decode (mC m_LAW) 883 = .ok (.iadd, 1) := by decide +kernel
theorem d_LAW_884 : decode (mC m_LAW) 884 = .ok (.iaload, 1) := by decide +kernel
theorem d_LAW_885 : decode (mC m_LAW) 885 = .ok (.aload_n 3, 1) := by decide +kernel
theorem d_LAW_886 : decode (mC m_LAW) 886 = .ok (.invokestatic 209, 3) := by decide +kernel
theorem d_LAW_889 : decode (mC m_LAW) 889 = .ok (.istore 5, 2) := by decide +kernel
theorem d_LAW_891 : decode (mC m_LAW) 891 = .ok (.aload_n 2, 1) := by decide +kernel
theorem d_LAW_892 : decode (mC m_LAW) 892 = .ok (.aload_n 0, 1) := by decide +kernel
theorem d_LAW_893 : decode (mC m_LAW) 893 = .ok (.iload 4, 2) := by decide +kernel
theorem d_LAW_895 : decode (mC m_LAW) 895 = .ok (.iconst 1, 1) := by decide +kernel
theorem d_LAW_896 : decode (mC m_LAW) 896 = .ok (.iadd, 1) := by decide +kernel
theorem d_LAW_897 : decode (mC m_LAW) 897 = .ok (.iaload, 1) := by decide +kernel
theorem d_LAW_898 : decode (mC m_LAW) 898 = .ok (.invokevirtual 211, 3) := by decide +kernel
theorem d_LAW_901 : decode (mC m_LAW) 901 = .ok (.istore 6, 2) := by decide +kernel
theorem d_LAW_903 : decode (mC m_LAW) 903 = .ok (.aload_n 2, 1) := by decide +kernel
theorem d_LAW_904 : decode (mC m_LAW) 904 = .ok (.invokevirtual 171, 3) := by decide +kernel
theorem d_LAW_907 : decode (mC m_LAW) 907 = .ok (.iload 5, 2) := by decide +kernel
theorem d_LAW_909 : decode (mC m_LAW) 909 = .ok (.if_icmp .eq 5, 3) := by decide +kernel
theorem d_LAW_912 : decode (mC m_LAW) 912 = .ok (.iconst 0, 1) := by decide +kernel
theorem d_LAW_913 : decode (mC m_LAW) 913 = .ok (.ireturn, 1) := by decide +kernel
theorem d_LAW_914 : decode (mC m_LAW) 914 = .ok (.iload 5, 2) := by decide +kernel
theorem d_LAW_916 : decode (mC m_LAW) 916 = .ok (.ifCond .ne 15, 3) := by decide +kernel
theorem d_LAW_919 : decode (mC m_LAW) 919 = .ok (.aload_n 3, 1) := by decide +kernel
theorem d_LAW_920 : decode (mC m_LAW) 920 = .ok (.iconst 0, 1) := by decide +kernel
theorem d_LAW_921 : decode (mC m_LAW) 921 = .ok (.laload, 1) := by decide +kernel
theorem d_LAW_922 : decode (mC m_LAW) 922 = .ok (.iload 6, 2) := by decide +kernel
theorem d_LAW_924 : decode (mC m_LAW) 924 = .ok (.i2l, 1) := by decide +kernel
theorem d_LAW_925 : decode (mC m_LAW) 925 = .ok (.lcmp, 1) := by decide +kernel
theorem d_LAW_926 : decode (mC m_LAW) 926 = .ok (.ifCond .eq 5, 3) := by decide +kernel
theorem d_LAW_929 : decode (mC m_LAW) 929 = .ok (.iconst 0, 1) := by decide +kernel
theorem d_LAW_930 : decode (mC m_LAW) 930 = .ok (.ireturn, 1) := by decide +kernel
theorem d_LAW_931 : decode (mC m_LAW) 931 = .ok (.goto 2353, 3) := by decide +kernel
theorem d_LAW_934 : decode (mC m_LAW) 934 = .ok (.aload_n 1, 1) := by decide +kernel
theorem d_LAW_935 : decode (mC m_LAW) 935 = .ok (.aload_n 0, 1) := by decide +kernel
theorem d_LAW_936 : decode (mC m_LAW) 936 = .ok (.iload 4, 2) := by decide +kernel
theorem d_LAW_938 : decode (mC m_LAW) 938 = .ok (.iconst 1, 1) := by decide +kernel
theorem d_LAW_939 : decode (mC m_LAW) 939 = .ok (.iadd, 1) := by decide +kernel
theorem d_LAW_940 : decode (mC m_LAW) 940 = .ok (.iaload, 1) := by decide +kernel
theorem d_LAW_941 : decode (mC m_LAW) 941 = .ok (.aload_n 3, 1) := by decide +kernel
theorem d_LAW_942 : decode (mC m_LAW) 942 = .ok (.invokestatic 212, 3) := by decide +kernel
theorem d_LAW_945 : decode (mC m_LAW) 945 = .ok (.istore 5, 2) := by decide +kernel
theorem d_LAW_947 : decode (mC m_LAW) 947 = .ok (.aload_n 2, 1) := by decide +kernel
theorem d_LAW_948 : decode (mC m_LAW) 948 = .ok (.aload_n 0, 1) := by decide +kernel
theorem d_LAW_949 : decode (mC m_LAW) 949 = .ok (.iload 4, 2) := by decide +kernel
theorem d_LAW_951 : decode (mC m_LAW) 951 = .ok (.iconst 1, 1) := by decide +kernel
theorem d_LAW_952 : decode (mC m_LAW) 952 = .ok (.iadd, 1) := by decide +kernel
theorem d_LAW_953 : decode (mC m_LAW) 953 = .ok (.iaload, 1) := by decide +kernel
theorem d_LAW_954 : decode (mC m_LAW) 954 = .ok (.invokevirtual 214, 3) := by decide +kernel
theorem d_LAW_957 : decode (mC m_LAW) 957 = .ok (.istore 6, 2) := by decide +kernel
theorem d_LAW_959 : decode (mC m_LAW) 959 = .ok (.aload_n 2, 1) := by decide +kernel
theorem d_LAW_960 : decode (mC m_LAW) 960 = .ok (.invokevirtual 171, 3) := by decide +kernel
theorem d_LAW_963 : decode (mC m_LAW) 963 = .ok (.iload 5, 2) := by decide +kernel
theorem d_LAW_965 : decode (mC m_LAW) 965 = .ok (.if_icmp .eq 5, 3) := by decide +kernel
theorem d_LAW_968 : decode (mC m_LAW) 968 = .ok (.iconst 0, 1) := by decide +kernel
theorem d_LAW_969 : decode (mC m_LAW) 969 = .ok (.ireturn, 1) := by decide +kernel
theorem d_LAW_970 : decode (mC m_LAW) 970 = .ok (.iload 5, 2) := by decide +kernel
theorem d_LAW_972 : decode (mC m_LAW) 972 = .ok (.ifCond .ne 15, 3) := by decide +kernel
theorem d_LAW_975 : decode (mC m_LAW) 975 = .ok (.aload_n 3, 1) := by decide +kernel
theorem d_LAW_976 : decode (mC m_LAW) 976 = .ok (.iconst 0, 1) := by decide +kernel
theorem d_LAW_977 : decode (mC m_LAW) 977 = .ok (.laload, 1) := by decide +kernel
theorem d_LAW_978 : decode (mC m_LAW) 978 = .ok (.iload 6, 2) := by decide +kernel
theorem d_LAW_980 : decode (mC m_LAW) 980 = .ok (.i2l, 1) := by decide +kernel
theorem d_LAW_981 : decode (mC m_LAW) 981 = .ok (.lcmp, 1) := by decide +kernel
theorem d_LAW_982 : decode (mC m_LAW) 982 = .ok (.ifCond .eq 5, 3) := by decide +kernel
theorem d_LAW_985 : decode (mC m_LAW) 985 = .ok (.iconst 0, 1) := by decide +kernel
theorem d_LAW_986 : decode (mC m_LAW) 986 = .ok (.ireturn, 1) := by decide +kernel
theorem d_LAW_987 : decode (mC m_LAW) 987 = .ok (.goto 2297, 3) := by decide +kernel
theorem d_LAW_990 : decode (mC m_LAW) 990 = .ok (.aload_n 1, 1) := by decide +kernel
theorem d_LAW_991 : decode (mC m_LAW) 991 = .ok (.aload_n 0, 1) := by decide +kernel
theorem d_LAW_992 : decode (mC m_LAW) 992 = .ok (.iload 4, 2) := by decide +kernel
theorem d_LAW_994 : decode (mC m_LAW) 994 = .ok (.iconst 1, 1) := by decide +kernel
theorem d_LAW_995 : decode (mC m_LAW) 995 = .ok (.iadd, 1) := by decide +kernel
theorem d_LAW_996 : decode (mC m_LAW) 996 = .ok (.iaload, 1) := by decide +kernel
theorem d_LAW_997 : decode (mC m_LAW) 997 = .ok (.aload_n 3, 1) := by decide +kernel
theorem d_LAW_998 : decode (mC m_LAW) 998 = .ok (.invokestatic 215, 3) := by decide +kernel
theorem d_LAW_1001 : decode (mC m_LAW) 1001 = .ok (.istore 5, 2) := by decide +kernel
theorem d_LAW_1003 : decode (mC m_LAW) 1003 = .ok (.aload_n 2, 1) := by decide +kernel
theorem d_LAW_1004 : decode (mC m_LAW) 1004 = .ok (.aload_n 0, 1) := by decide +kernel
theorem d_LAW_1005 : decode (mC m_LAW) 1005 = .ok (.iload 4, 2) := by decide +kernel
theorem d_LAW_1007 : decode (mC m_LAW) 1007 = .ok (.iconst 1, 1) := by decide +kernel
theorem d_LAW_1008 : decode (mC m_LAW) 1008 = .ok (.iadd, 1) := by decide +kernel
theorem d_LAW_1009 : decode (mC m_LAW) 1009 = .ok (.iaload, 1) := by decide +kernel
theorem d_LAW_1010 : decode (mC m_LAW) 1010 = .ok (.invokevirtual 217, 3) := by decide +kernel
theorem d_LAW_1013 : decode (mC m_LAW) 1013 = .ok (.istore 6, 2) := by decide +kernel
theorem d_LAW_1015 : decode (mC m_LAW) 1015 = .ok (.aload_n 2, 1) := by decide +kernel
theorem d_LAW_1016 : decode (mC m_LAW) 1016 = .ok (.invokevirtual 171, 3) := by decide +kernel
theorem d_LAW_1019 : decode (mC m_LAW) 1019 = .ok (.iload 5, 2) := by decide +kernel
theorem d_LAW_1021 : decode (mC m_LAW) 1021 = .ok (.if_icmp .eq 5, 3) := by decide +kernel
theorem d_LAW_1024 : decode (mC m_LAW) 1024 = .ok (.iconst 0, 1) := by decide +kernel
theorem d_LAW_1025 : decode (mC m_LAW) 1025 = .ok (.ireturn, 1) := by decide +kernel
theorem d_LAW_1026 : decode (mC m_LAW) 1026 = .ok (.iload 5, 2) := by decide +kernel
theorem d_LAW_1028 : decode (mC m_LAW) 1028 = .ok (.ifCond .ne 15, 3) := by decide +kernel
theorem d_LAW_1031 : decode (mC m_LAW) 1031 = .ok (.aload_n 3, 1) := by decide +kernel
theorem d_LAW_1032 : decode (mC m_LAW) 1032 = .ok (.iconst 0, 1) := by decide +kernel
theorem d_LAW_1033 : decode (mC m_LAW) 1033 = .ok (.laload, 1) := by decide +kernel
theorem d_LAW_1034 : decode (mC m_LAW) 1034 = .ok (.iload 6, 2) := by decide +kernel
theorem d_LAW_1036 : decode (mC m_LAW) 1036 = .ok (.i2l, 1) := by decide +kernel
theorem d_LAW_1037 : decode (mC m_LAW) 1037 = .ok (.lcmp, 1) := by decide +kernel
theorem d_LAW_1038 : decode (mC m_LAW) 1038 = .ok (.ifCond .eq 5, 3) := by decide +kernel
theorem d_LAW_1041 : decode (mC m_LAW) 1041 = .ok (.iconst 0, 1) := by decide +kernel
theorem d_LAW_1042 : decode (mC m_LAW) 1042 = .ok (.ireturn, 1) := by decide +kernel
theorem d_LAW_1043 : decode (mC m_LAW) 1043 = .ok (.goto 2241, 3) := by decide +kernel
theorem d_LAW_1046 : decode (mC m_LAW) 1046 = .ok (.aload_n 1, 1) := by decide +kernel
theorem d_LAW_1047 : decode (mC m_LAW) 1047 = .ok (.aload_n 3, 1) := by decide +kernel
theorem d_LAW_1048 : decode (mC m_LAW) 1048 = .ok (.invokestatic 218, 3) := by decide +kernel
theorem d_LAW_1051 : decode (mC m_LAW) 1051 = .ok (.istore 5, 2) := by decide +kernel
theorem d_LAW_1053 : decode (mC m_LAW) 1053 = .ok (.aload_n 2, 1) := by decide +kernel
theorem d_LAW_1054 : decode (mC m_LAW) 1054 = .ok (.invokevirtual 220, 3) := by decide +kernel
theorem d_LAW_1057 : decode (mC m_LAW) 1057 = .ok (.istore 6, 2) := by decide +kernel
theorem d_LAW_1059 : decode (mC m_LAW) 1059 = .ok (.aload_n 2, 1) := by decide +kernel
theorem d_LAW_1060 : decode (mC m_LAW) 1060 = .ok (.invokevirtual 171, 3) := by decide +kernel
theorem d_LAW_1063 : decode (mC m_LAW) 1063 = .ok (.iload 5, 2) := by decide +kernel
theorem d_LAW_1065 : decode (mC m_LAW) 1065 = .ok (.if_icmp .eq 5, 3) := by decide +kernel
theorem d_LAW_1068 : decode (mC m_LAW) 1068 = .ok (.iconst 0, 1) := by decide +kernel
theorem d_LAW_1069 : decode (mC m_LAW) 1069 = .ok (.ireturn, 1) := by decide +kernel
theorem d_LAW_1070 : decode (mC m_LAW) 1070 = .ok (.iload 5, 2) := by decide +kernel
theorem d_LAW_1072 : decode (mC m_LAW) 1072 = .ok (.ifCond .ne 15, 3) := by decide +kernel
theorem d_LAW_1075 : decode (mC m_LAW) 1075 = .ok (.aload_n 3, 1) := by decide +kernel
theorem d_LAW_1076 : decode (mC m_LAW) 1076 = .ok (.iconst 0, 1) := by decide +kernel
theorem d_LAW_1077 : decode (mC m_LAW) 1077 = .ok (.laload, 1) := by decide +kernel
theorem d_LAW_1078 : decode (mC m_LAW) 1078 = .ok (.iload 6, 2) := by decide +kernel
theorem d_LAW_1080 : decode (mC m_LAW) 1080 = .ok (.i2l, 1) := by decide +kernel
theorem d_LAW_1081 : decode (mC m_LAW) 1081 = .ok (.lcmp, 1) := by decide +kernel
theorem d_LAW_1082 : decode (mC m_LAW) 1082 = .ok (.ifCond .eq 5, 3) := by decide +kernel
theorem d_LAW_1085 : decode (mC m_LAW) 1085 = .ok (.iconst 0, 1) := by decide +kernel
theorem d_LAW_1086 : decode (mC m_LAW) 1086 = .ok (.ireturn, 1) := by decide +kernel
theorem d_LAW_1087 : decode (mC m_LAW) 1087 = .ok (.goto 2197, 3) := by decide +kernel
theorem d_LAW_1090 : decode (mC m_LAW) 1090 = .ok (.aload_n 1, 1) := by decide +kernel
theorem d_LAW_1091 : decode (mC m_LAW) 1091 = .ok (.aload_n 0, 1) := by decide +kernel
theorem d_LAW_1092 : decode (mC m_LAW) 1092 = .ok (.iload 4, 2) := by decide +kernel
theorem d_LAW_1094 : decode (mC m_LAW) 1094 = .ok (.iconst 1, 1) := by decide +kernel
theorem d_LAW_1095 : decode (mC m_LAW) 1095 = .ok (.iadd, 1) := by decide +kernel
theorem d_LAW_1096 : decode (mC m_LAW) 1096 = .ok (.iaload, 1) := by decide +kernel
theorem d_LAW_1097 : decode (mC m_LAW) 1097 = .ok (.invokestatic 221, 3) := by decide +kernel
theorem d_LAW_1100 : decode (mC m_LAW) 1100 = .ok (.istore 5, 2) := by decide +kernel
theorem d_LAW_1102 : decode (mC m_LAW) 1102 = .ok (.aload_n 2, 1) := by decide +kernel
theorem d_LAW_1103 : decode (mC m_LAW) 1103 = .ok (.aload_n 0, 1) := by decide +kernel
theorem d_LAW_1104 : decode (mC m_LAW) 1104 = .ok (.iload 4, 2) := by decide +kernel
theorem d_LAW_1106 : decode (mC m_LAW) 1106 = .ok (.iconst 1, 1) := by decide +kernel
theorem d_LAW_1107 : decode (mC m_LAW) 1107 = .ok (.iadd, 1) := by decide +kernel
theorem d_LAW_1108 : decode (mC m_LAW) 1108 = .ok (.iaload, 1) := by decide +kernel
theorem d_LAW_1109 : decode (mC m_LAW) 1109 = .ok (.invokevirtual 224, 3) := by decide +kernel
theorem d_LAW_1112 : decode (mC m_LAW) 1112 = .ok (.aload_n 2, 1) := by decide +kernel
theorem d_LAW_1113 : decode (mC m_LAW) 1113 = .ok (.invokevirtual 171, 3) := by decide +kernel
theorem d_LAW_1116 : decode (mC m_LAW) 1116 = .ok (.iload 5, 2) := by decide +kernel
theorem d_LAW_1118 : decode (mC m_LAW) 1118 = .ok (.if_icmp .eq 5, 3) := by decide +kernel
theorem d_LAW_1121 : decode (mC m_LAW) 1121 = .ok (.iconst 0, 1) := by decide +kernel
theorem d_LAW_1122 : decode (mC m_LAW) 1122 = .ok (.ireturn, 1) := by decide +kernel
theorem d_LAW_1123 : decode (mC m_LAW) 1123 = .ok (.goto 2161, 3) := by decide +kernel
theorem d_LAW_1126 : decode (mC m_LAW) 1126 = .ok (.aload_n 1, 1) := by decide +kernel
theorem d_LAW_1127 : decode (mC m_LAW) 1127 = .ok (.aload_n 0, 1) := by decide +kernel
theorem d_LAW_1128 : decode (mC m_LAW) 1128 = .ok (.iload 4, 2) := by decide +kernel
theorem d_LAW_1130 : decode (mC m_LAW) 1130 = .ok (.iconst 1, 1) := by decide +kernel
theorem d_LAW_1131 : decode (mC m_LAW) 1131 = .ok (.iadd, 1) := by decide +kernel
theorem d_LAW_1132 : decode (mC m_LAW) 1132 = .ok (.iaload, 1) := by decide +kernel
theorem d_LAW_1133 : decode (mC m_LAW) 1133 = .ok (.aload_n 3, 1) := by decide +kernel
theorem d_LAW_1134 : decode (mC m_LAW) 1134 = .ok (.invokestatic 225, 3) := by decide +kernel
theorem d_LAW_1137 : decode (mC m_LAW) 1137 = .ok (.istore 5, 2) := by decide +kernel
theorem d_LAW_1139 : decode (mC m_LAW) 1139 = .ok (.aload_n 2, 1) := by decide +kernel
theorem d_LAW_1140 : decode (mC m_LAW) 1140 = .ok (.aload_n 0, 1) := by decide +kernel
theorem d_LAW_1141 : decode (mC m_LAW) 1141 = .ok (.iload 4, 2) := by decide +kernel
theorem d_LAW_1143 : decode (mC m_LAW) 1143 = .ok (.iconst 1, 1) := by decide +kernel
theorem d_LAW_1144 : decode (mC m_LAW) 1144 = .ok (.iadd, 1) := by decide +kernel
theorem d_LAW_1145 : decode (mC m_LAW) 1145 = .ok (.iaload, 1) := by decide +kernel
theorem d_LAW_1146 : decode (mC m_LAW) 1146 = .ok (.invokevirtual 227, 3) := by decide +kernel
theorem d_LAW_1149 : decode (mC m_LAW) 1149 = .ok (.istore 6, 2) := by decide +kernel
theorem d_LAW_1151 : decode (mC m_LAW) 1151 = .ok (.aload_n 2, 1) := by decide +kernel
theorem d_LAW_1152 : decode (mC m_LAW) 1152 = .ok (.invokevirtual 171, 3) := by decide +kernel
theorem d_LAW_1155 : decode (mC m_LAW) 1155 = .ok (.iload 5, 2) := by decide +kernel
theorem d_LAW_1157 : decode (mC m_LAW) 1157 = .ok (.if_icmp .eq 5, 3) := by decide +kernel
theorem d_LAW_1160 : decode (mC m_LAW) 1160 = .ok (.iconst 0, 1) := by decide +kernel
theorem d_LAW_1161 : decode (mC m_LAW) 1161 = .ok (.ireturn, 1) := by decide +kernel
theorem d_LAW_1162 : decode (mC m_LAW) 1162 = .ok (.iload 5, 2) := by decide +kernel
theorem d_LAW_1164 : decode (mC m_LAW) 1164 = .ok (.ifCond .ne 15, 3) := by decide +kernel
theorem d_LAW_1167 : decode (mC m_LAW) 1167 = .ok (.aload_n 3, 1) := by decide +kernel
theorem d_LAW_1168 : decode (mC m_LAW) 1168 = .ok (.iconst 0, 1) := by decide +kernel
theorem d_LAW_1169 : decode (mC m_LAW) 1169 = .ok (.laload, 1) := by decide +kernel
theorem d_LAW_1170 : decode (mC m_LAW) 1170 = .ok (.iload 6, 2) := by decide +kernel
theorem d_LAW_1172 : decode (mC m_LAW) 1172 = .ok (.i2l, 1) := by decide +kernel
theorem d_LAW_1173 : decode (mC m_LAW) 1173 = .ok (.lcmp, 1) := by decide +kernel
theorem d_LAW_1174 : decode (mC m_LAW) 1174 = .ok (.ifCond .eq 5, 3) := by decide +kernel
theorem d_LAW_1177 : decode (mC m_LAW) 1177 = .ok (.iconst 0, 1) := by decide +kernel
theorem d_LAW_1178 : decode (mC m_LAW) 1178 = .ok (.ireturn, 1) := by decide +kernel
theorem d_LAW_1179 : decode (mC m_LAW) 1179 = .ok (.goto 2105, 3) := by decide +kernel
theorem d_LAW_1182 : decode (mC m_LAW) 1182 = .ok (.aload_n 1, 1) := by decide +kernel
theorem d_LAW_1183 : decode (mC m_LAW) 1183 = .ok (.invokevirtual 228, 3) := by decide +kernel
theorem d_LAW_1186 : decode (mC m_LAW) 1186 = .ok (.aload_n 2, 1) := by decide +kernel
theorem d_LAW_1187 : decode (mC m_LAW) 1187 = .ok (.invokevirtual 231, 3) := by decide +kernel
theorem d_LAW_1190 : decode (mC m_LAW) 1190 = .ok (.if_icmp .eq 2094, 3) := by decide +kernel
theorem d_LAW_1193 : decode (mC m_LAW) 1193 = .ok (.iconst 0, 1) := by decide +kernel
theorem d_LAW_1194 : decode (mC m_LAW) 1194 = .ok (.ireturn, 1) := by decide +kernel
theorem d_LAW_1195 : decode (mC m_LAW) 1195 = .ok (.aload_n 1, 1) := by decide +kernel
theorem d_LAW_1196 : decode (mC m_LAW) 1196 = .ok (.invokevirtual 232, 3) := by decide +kernel
theorem d_LAW_1199 : decode (mC m_LAW) 1199 = .ok (.aload_n 2, 1) := by decide +kernel
theorem d_LAW_1200 : decode (mC m_LAW) 1200 = .ok (.invokevirtual 235, 3) := by decide +kernel
theorem d_LAW_1203 : decode (mC m_LAW) 1203 = .ok (.if_icmp .eq 2081, 3) := by decide +kernel
theorem d_LAW_1206 : decode (mC m_LAW) 1206 = .ok (.iconst 0, 1) := by decide +kernel
theorem d_LAW_1207 : decode (mC m_LAW) 1207 = .ok (.ireturn, 1) := by decide +kernel
theorem d_LAW_1208 : decode (mC m_LAW) 1208 = .ok (.aload_n 1, 1) := by decide +kernel
theorem d_LAW_1209 : decode (mC m_LAW) 1209 = .ok (.aload_n 0, 1) := by decide +kernel
theorem d_LAW_1210 : decode (mC m_LAW) 1210 = .ok (.iload 4, 2) := by decide +kernel
theorem d_LAW_1212 : decode (mC m_LAW) 1212 = .ok (.iconst 1, 1) := by decide +kernel
theorem d_LAW_1213 : decode (mC m_LAW) 1213 = .ok (.iadd, 1) := by decide +kernel
theorem d_LAW_1214 : decode (mC m_LAW) 1214 = .ok (.iaload, 1) := by decide +kernel
theorem d_LAW_1215 : decode (mC m_LAW) 1215 = .ok (.aload_n 3, 1) := by decide +kernel
theorem d_LAW_1216 : decode (mC m_LAW) 1216 = .ok (.invokestatic 236, 3) := by decide +kernel
theorem d_LAW_1219 : decode (mC m_LAW) 1219 = .ok (.istore 5, 2) := by decide +kernel
theorem d_LAW_1221 : decode (mC m_LAW) 1221 = .ok (.aload_n 2, 1) := by decide +kernel
theorem d_LAW_1222 : decode (mC m_LAW) 1222 = .ok (.aload_n 0, 1) := by decide +kernel
theorem d_LAW_1223 : decode (mC m_LAW) 1223 = .ok (.iload 4, 2) := by decide +kernel
theorem d_LAW_1225 : decode (mC m_LAW) 1225 = .ok (.iconst 1, 1) := by decide +kernel
theorem d_LAW_1226 : decode (mC m_LAW) 1226 = .ok (.iadd, 1) := by decide +kernel
theorem d_LAW_1227 : decode (mC m_LAW) 1227 = .ok (.iaload, 1) := by decide +kernel
theorem d_LAW_1228 : decode (mC m_LAW) 1228 = .ok (.invokevirtual 238, 3) := by decide +kernel
theorem d_LAW_1231 : decode (mC m_LAW) 1231 = .ok (.istore 6, 2) := by decide +kernel
theorem d_LAW_1233 : decode (mC m_LAW) 1233 = .ok (.aload_n 2, 1) := by decide +kernel
theorem d_LAW_1234 : decode (mC m_LAW) 1234 = .ok (.invokevirtual 171, 3) := by decide +kernel
theorem d_LAW_1237 : decode (mC m_LAW) 1237 = .ok (.iload 5, 2) := by decide +kernel
theorem d_LAW_1239 : decode (mC m_LAW) 1239 = .ok (.if_icmp .eq 5, 3) := by decide +kernel
theorem d_LAW_1242 : decode (mC m_LAW) 1242 = .ok (.iconst 0, 1) := by decide +kernel
theorem d_LAW_1243 : decode (mC m_LAW) 1243 = .ok (.ireturn, 1) := by decide +kernel
theorem d_LAW_1244 : decode (mC m_LAW) 1244 = .ok (.iload 5, 2) := by decide +kernel
theorem d_LAW_1246 : decode (mC m_LAW) 1246 = .ok (.ifCond .ne 15, 3) := by decide +kernel
theorem d_LAW_1249 : decode (mC m_LAW) 1249 = .ok (.aload_n 3, 1) := by decide +kernel
theorem d_LAW_1250 : decode (mC m_LAW) 1250 = .ok (.iconst 0, 1) := by decide +kernel
theorem d_LAW_1251 : decode (mC m_LAW) 1251 = .ok (.laload, 1) := by decide +kernel
theorem d_LAW_1252 : decode (mC m_LAW) 1252 = .ok (.iload 6, 2) := by decide +kernel
theorem d_LAW_1254 : decode (mC m_LAW) 1254 = .ok (.i2l, 1) := by decide +kernel
theorem d_LAW_1255 : decode (mC m_LAW) 1255 = .ok (.lcmp, 1) := by decide +kernel
theorem d_LAW_1256 : decode (mC m_LAW) 1256 = .ok (.ifCond .eq 5, 3) := by decide +kernel
theorem d_LAW_1259 : decode (mC m_LAW) 1259 = .ok (.iconst 0, 1) := by decide +kernel
theorem d_LAW_1260 : decode (mC m_LAW) 1260 = .ok (.ireturn, 1) := by decide +kernel
theorem d_LAW_1261 : decode (mC m_LAW) 1261 = .ok (.goto 2023, 3) := by decide +kernel
theorem d_LAW_1264 : decode (mC m_LAW) 1264 = .ok (.aload_n 1, 1) := by decide +kernel
theorem d_LAW_1265 : decode (mC m_LAW) 1265 = .ok (.aload_n 0, 1) := by decide +kernel
theorem d_LAW_1266 : decode (mC m_LAW) 1266 = .ok (.iload 4, 2) := by decide +kernel
theorem d_LAW_1268 : decode (mC m_LAW) 1268 = .ok (.iconst 1, 1) := by decide +kernel
theorem d_LAW_1269 : decode (mC m_LAW) 1269 = .ok (.iadd, 1) := by decide +kernel
theorem d_LAW_1270 : decode (mC m_LAW) 1270 = .ok (.iaload, 1) := by decide +kernel
theorem d_LAW_1271 : decode (mC m_LAW) 1271 = .ok (.aload_n 3, 1) := by decide +kernel
theorem d_LAW_1272 : decode (mC m_LAW) 1272 = .ok (.invokestatic 239, 3) := by decide +kernel
theorem d_LAW_1275 : decode (mC m_LAW) 1275 = .ok (.istore 5, 2) := by decide +kernel
theorem d_LAW_1277 : decode (mC m_LAW) 1277 = .ok (.aload_n 2, 1) := by decide +kernel
theorem d_LAW_1278 : decode (mC m_LAW) 1278 = .ok (.aload_n 0, 1) := by decide +kernel
theorem d_LAW_1279 : decode (mC m_LAW) 1279 = .ok (.iload 4, 2) := by decide +kernel
theorem d_LAW_1281 : decode (mC m_LAW) 1281 = .ok (.iconst 1, 1) := by decide +kernel
theorem d_LAW_1282 : decode (mC m_LAW) 1282 = .ok (.iadd, 1) := by decide +kernel
theorem d_LAW_1283 : decode (mC m_LAW) 1283 = .ok (.iaload, 1) := by decide +kernel
theorem d_LAW_1284 : decode (mC m_LAW) 1284 = .ok (.invokevirtual 241, 3) := by decide +kernel
theorem d_LAW_1287 : decode (mC m_LAW) 1287 = .ok (.istore 6, 2) := by decide +kernel
theorem d_LAW_1289 : decode (mC m_LAW) 1289 = .ok (.aload_n 2, 1) := by decide +kernel
theorem d_LAW_1290 : decode (mC m_LAW) 1290 = .ok (.invokevirtual 171, 3) := by decide +kernel
theorem d_LAW_1293 : decode (mC m_LAW) 1293 = .ok (.iload 5, 2) := by decide +kernel
theorem d_LAW_1295 : decode (mC m_LAW) 1295 = .ok (.if_icmp .eq 5, 3) := by decide +kernel
theorem d_LAW_1298 : decode (mC m_LAW) 1298 = .ok (.iconst 0, 1) := by decide +kernel
theorem d_LAW_1299 : decode (mC m_LAW) 1299 = .ok (.ireturn, 1) := by decide +kernel
theorem d_LAW_1300 : decode (mC m_LAW) 1300 = .ok (.iload 5, 2) := by decide +kernel
theorem d_LAW_1302 : decode (mC m_LAW) 1302 = .ok (.ifCond .ne 15, 3) := by decide +kernel
theorem d_LAW_1305 : decode (mC m_LAW) 1305 = .ok (.aload_n 3, 1) := by decide +kernel
theorem d_LAW_1306 : decode (mC m_LAW) 1306 = .ok (.iconst 0, 1) := by decide +kernel
theorem d_LAW_1307 : decode (mC m_LAW) 1307 = .ok (.laload, 1) := by decide +kernel
theorem d_LAW_1308 : decode (mC m_LAW) 1308 = .ok (.iload 6, 2) := by decide +kernel
theorem d_LAW_1310 : decode (mC m_LAW) 1310 = .ok (.i2l, 1) := by decide +kernel
theorem d_LAW_1311 : decode (mC m_LAW) 1311 = .ok (.lcmp, 1) := by decide +kernel
theorem d_LAW_1312 : decode (mC m_LAW) 1312 = .ok (.ifCond .eq 5, 3) := by decide +kernel
theorem d_LAW_1315 : decode (mC m_LAW) 1315 = .ok (.iconst 0, 1) := by decide +kernel
theorem d_LAW_1316 : decode (mC m_LAW) 1316 = .ok (.ireturn, 1) := by decide +kernel
theorem d_LAW_1317 : decode (mC m_LAW) 1317 = .ok (.goto 1967, 3) := by decide +kernel
theorem d_LAW_1320 : decode (mC m_LAW) 1320 = .ok (.aload_n 1, 1) := by decide +kernel
theorem d_LAW_1321 : decode (mC m_LAW) 1321 = .ok (.invokevirtual 242, 3) := by decide +kernel
theorem d_LAW_1324 : decode (mC m_LAW) 1324 = .ok (.aload_n 2, 1) := by decide +kernel
theorem d_LAW_1325 : decode (mC m_LAW) 1325 = .ok (.invokevirtual 245, 3) := by decide +kernel
theorem d_LAW_1328 : decode (mC m_LAW) 1328 = .ok (.if_icmp .eq 1956, 3) := by decide +kernel
theorem d_LAW_1331 : decode (mC m_LAW) 1331 = .ok (.iconst 0, 1) := by decide +kernel
theorem d_LAW_1332 : decode (mC m_LAW) 1332 = .ok (.ireturn, 1) := by decide +kernel
theorem d_LAW_1333 : decode (mC m_LAW) 1333 = .ok (.aload_n 1, 1) := by decide +kernel
theorem d_LAW_1334 : decode (mC m_LAW) 1334 = .ok (.invokevirtual 246, 3) := by decide +kernel
theorem d_LAW_1337 : decode (mC m_LAW) 1337 = .ok (.aload_n 2, 1) := by decide +kernel
theorem d_LAW_1338 : decode (mC m_LAW) 1338 = .ok (.invokevirtual 249, 3) := by decide +kernel
theorem d_LAW_1341 : decode (mC m_LAW) 1341 = .ok (.if_icmp .eq 1943, 3) := by decide +kernel
theorem d_LAW_1344 : decode (mC m_LAW) 1344 = .ok (.iconst 0, 1) := by decide +kernel
theorem d_LAW_1345 : decode (mC m_LAW) 1345 = .ok (.ireturn, 1) := by decide +kernel
theorem d_LAW_1346 : decode (mC m_LAW) 1346 = .ok (.aload_n 1, 1) := by decide +kernel
theorem d_LAW_1347 : decode (mC m_LAW) 1347 = .ok (.invokevirtual 250, 3) := by decide +kernel
theorem d_LAW_1350 : decode (mC m_LAW) 1350 = .ok (.aload_n 2, 1) := by decide +kernel
theorem d_LAW_1351 : decode (mC m_LAW) 1351 = .ok (.invokevirtual 253, 3) := by decide +kernel
theorem d_LAW_1354 : decode (mC m_LAW) 1354 = .ok (.if_icmp .eq 1930, 3) := by decide +kernel
theorem d_LAW_1357 : decode (mC m_LAW) 1357 = .ok (.iconst 0, 1) := by decide +kernel
theorem d_LAW_1358 : decode (mC m_LAW) 1358 = .ok (.ireturn, 1) := by decide +kernel
theorem d_LAW_1359 : decode (mC m_LAW) 1359 = .ok (.aload_n 1, 1) := by decide +kernel
theorem d_LAW_1360 : decode (mC m_LAW) 1360 = .ok (.invokevirtual 254, 3) := by decide +kernel
theorem d_LAW_1363 : decode (mC m_LAW) 1363 = .ok (.aload_n 2, 1) := by decide +kernel
theorem d_LAW_1364 : decode (mC m_LAW) 1364 = .ok (.invokevirtual 257, 3) := by decide +kernel
theorem d_LAW_1367 : decode (mC m_LAW) 1367 = .ok (.if_icmp .eq 1917, 3) := by decide +kernel
theorem d_LAW_1370 : decode (mC m_LAW) 1370 = .ok (.iconst 0, 1) := by decide +kernel
theorem d_LAW_1371 : decode (mC m_LAW) 1371 = .ok (.ireturn, 1) := by decide +kernel
theorem d_LAW_1372 : decode (mC m_LAW) 1372 = .ok (.aload_n 1, 1) := by decide +kernel
theorem d_LAW_1373 : decode (mC m_LAW) 1373 = .ok (.invokevirtual 258, 3) := by decide +kernel
theorem d_LAW_1376 : decode (mC m_LAW) 1376 = .ok (.aload_n 2, 1) := by decide +kernel
theorem d_LAW_1377 : decode (mC m_LAW) 1377 = .ok (.invokevirtual 261, 3) := by decide +kernel
theorem d_LAW_1380 : decode (mC m_LAW) 1380 = .ok (.if_icmp .eq 1904, 3) := by decide +kernel
theorem d_LAW_1383 : decode (mC m_LAW) 1383 = .ok (.iconst 0, 1) := by decide +kernel
theorem d_LAW_1384 : decode (mC m_LAW) 1384 = .ok (.ireturn, 1) := by decide +kernel
theorem d_LAW_1385 : decode (mC m_LAW) 1385 = .ok (.aload_n 1, 1) := by decide +kernel
theorem d_LAW_1386 : decode (mC m_LAW) 1386 = .ok (.aload_n 0, 1) := by decide +kernel
theorem d_LAW_1387 : decode (mC m_LAW) 1387 = .ok (.iload 4, 2) := by decide +kernel
theorem d_LAW_1389 : decode (mC m_LAW) 1389 = .ok (.iconst 1, 1) := by decide +kernel
theorem d_LAW_1390 : decode (mC m_LAW) 1390 = .ok (.iadd, 1) := by decide +kernel
theorem d_LAW_1391 : decode (mC m_LAW) 1391 = .ok (.iaload, 1) := by decide +kernel
theorem d_LAW_1392 : decode (mC m_LAW) 1392 = .ok (.aload_n 3, 1) := by decide +kernel
theorem d_LAW_1393 : decode (mC m_LAW) 1393 = .ok (.invokestatic 262, 3) := by decide +kernel
theorem d_LAW_1396 : decode (mC m_LAW) 1396 = .ok (.istore 5, 2) := by decide +kernel
theorem d_LAW_1398 : decode (mC m_LAW) 1398 = .ok (.aload_n 2, 1) := by decide +kernel
theorem d_LAW_1399 : decode (mC m_LAW) 1399 = .ok (.aload_n 0, 1) := by decide +kernel
theorem d_LAW_1400 : decode (mC m_LAW) 1400 = .ok (.iload 4, 2) := by decide +kernel
theorem d_LAW_1402 : decode (mC m_LAW) 1402 = .ok (.iconst 1, 1) := by decide +kernel
theorem d_LAW_1403 : decode (mC m_LAW) 1403 = .ok (.iadd, 1) := by decide +kernel
theorem d_LAW_1404 : decode (mC m_LAW) 1404 = .ok (.iaload, 1) := by decide +kernel
theorem d_LAW_1405 : decode (mC m_LAW) 1405 = .ok (.invokevirtual 264, 3) := by decide +kernel
theorem d_LAW_1408 : decode (mC m_LAW) 1408 = .ok (.istore 6, 2) := by decide +kernel
theorem d_LAW_1410 : decode (mC m_LAW) 1410 = .ok (.aload_n 2, 1) := by decide +kernel
theorem d_LAW_1411 : decode (mC m_LAW) 1411 = .ok (.invokevirtual 171, 3) := by decide +kernel
theorem d_LAW_1414 : decode (mC m_LAW) 1414 = .ok (.iload 5, 2) := by decide +kernel
theorem d_LAW_1416 : decode (mC m_LAW) 1416 = .ok (.if_icmp .eq 5, 3) := by decide +kernel
theorem d_LAW_1419 : decode (mC m_LAW) 1419 = .ok (.iconst 0, 1) := by decide +kernel
theorem d_LAW_1420 : decode (mC m_LAW) 1420 = .ok (.ireturn, 1) := by decide +kernel
theorem d_LAW_1421 : decode (mC m_LAW) 1421 = .ok (.iload 5, 2) := by decide +kernel
theorem d_LAW_1423 : decode (mC m_LAW) 1423 = .ok (.ifCond .ne 15, 3) := by decide +kernel
theorem d_LAW_1426 : decode (mC m_LAW) 1426 = .ok (.aload_n 3, 1) := by decide +kernel
theorem d_LAW_1427 : decode (mC m_LAW) 1427 = .ok (.iconst 0, 1) := by decide +kernel
theorem d_LAW_1428 : decode (mC m_LAW) 1428 = .ok (.laload, 1) := by decide +kernel
theorem d_LAW_1429 : decode (mC m_LAW) 1429 = .ok (.iload 6, 2) := by decide +kernel
theorem d_LAW_1431 : decode (mC m_LAW) 1431 = .ok (.i2l, 1) := by decide +kernel
theorem d_LAW_1432 : decode (mC m_LAW) 1432 = .ok (.lcmp, 1) := by decide +kernel
theorem d_LAW_1433 : decode (mC m_LAW) 1433 = .ok (.ifCond .eq 5, 3) := by decide +kernel
theorem d_LAW_1436 : decode (mC m_LAW) 1436 = .ok (.iconst 0, 1) := by decide +kernel
theorem d_LAW_1437 : decode (mC m_LAW) 1437 = .ok (.ireturn, 1) := by decide +kernel
theorem d_LAW_1438 : decode (mC m_LAW) 1438 = .ok (.goto 1846, 3) := by decide +kernel
theorem d_LAW_1441 : decode (mC m_LAW) 1441 = .ok (.aload_n 1, 1) := by decide +kernel
theorem d_LAW_1442 : decode (mC m_LAW) 1442 = .ok (.aload_n 0, 1) := by decide +kernel
theorem d_LAW_1443 : decode (mC m_LAW) 1443 = .ok (.iload 4, 2) := by decide +kernel
theorem d_LAW_1445 : decode (mC m_LAW) 1445 = .ok (.iconst 1, 1) := by decide +kernel
theorem d_LAW_1446 : decode (mC m_LAW) 1446 = .ok (.iadd, 1) := by decide +kernel
theorem d_LAW_1447 : decode (mC m_LAW) 1447 = .ok (.iaload, 1) := by decide +kernel
theorem d_LAW_1448 : decode (mC m_LAW) 1448 = .ok (.aload_n 3, 1) := by decide +kernel
theorem d_LAW_1449 : decode (mC m_LAW) 1449 = .ok (.invokestatic 265, 3) := by decide +kernel
theorem d_LAW_1452 : decode (mC m_LAW) 1452 = .ok (.istore 5, 2) := by decide +kernel
theorem d_LAW_1454 : decode (mC m_LAW) 1454 = .ok (.aload_n 2, 1) := by decide +kernel
theorem d_LAW_1455 : decode (mC m_LAW) 1455 = .ok (.aload_n 0, 1) := by decide +kernel
theorem d_LAW_1456 : decode (mC m_LAW) 1456 = .ok (.iload 4, 2) := by decide +kernel
theorem d_LAW_1458 : decode (mC m_LAW) 1458 = .ok (.iconst 1, 1) := by decide +kernel
theorem d_LAW_1459 : decode (mC m_LAW) 1459 = .ok (.iadd, 1) := by decide +kernel
theorem d_LAW_1460 : decode (mC m_LAW) 1460 = .ok (.iaload, 1) := by decide +kernel
theorem d_LAW_1461 : decode (mC m_LAW) 1461 = .ok (.invokevirtual 267, 3) := by decide +kernel
theorem d_LAW_1464 : decode (mC m_LAW) 1464 = .ok (.istore 6, 2) := by decide +kernel
theorem d_LAW_1466 : decode (mC m_LAW) 1466 = .ok (.aload_n 2, 1) := by decide +kernel
theorem d_LAW_1467 : decode (mC m_LAW) 1467 = .ok (.invokevirtual 171, 3) := by decide +kernel
theorem d_LAW_1470 : decode (mC m_LAW) 1470 = .ok (.iload 5, 2) := by decide +kernel
theorem d_LAW_1472 : decode (mC m_LAW) 1472 = .ok (.if_icmp .eq 5, 3) := by decide +kernel
theorem d_LAW_1475 : decode (mC m_LAW) 1475 = .ok (.iconst 0, 1) := by decide +kernel
theorem d_LAW_1476 : decode (mC m_LAW) 1476 = .ok (.ireturn, 1) := by decide +kernel
theorem d_LAW_1477 : decode (mC m_LAW) 1477 = .ok (.iload 5, 2) := by decide +kernel
theorem d_LAW_1479 : decode (mC m_LAW) 1479 = .ok (.ifCond .ne 15, 3) := by decide +kernel
theorem d_LAW_1482 : decode (mC m_LAW) 1482 = .ok (.aload_n 3, 1) := by decide +kernel
theorem d_LAW_1483 : decode (mC m_LAW) 1483 = .ok (.iconst 0, 1) := by decide +kernel
theorem d_LAW_1484 : decode (mC m_LAW) 1484 = .ok (.laload, 1) := by decide +kernel
theorem d_LAW_1485 : decode (mC m_LAW) 1485 = .ok (.iload 6, 2) := by decide +kernel
theorem d_LAW_1487 : decode (mC m_LAW) 1487 = .ok (.i2l, 1) := by decide +kernel
theorem d_LAW_1488 : decode (mC m_LAW) 1488 = .ok (.lcmp, 1) := by decide +kernel
theorem d_LAW_1489 : decode (mC m_LAW) 1489 = .ok (.ifCond .eq 5, 3) := by decide +kernel
theorem d_LAW_1492 : decode (mC m_LAW) 1492 = .ok (.iconst 0, 1) := by decide +kernel
theorem d_LAW_1493 : decode (mC m_LAW) 1493 = .ok (.ireturn, 1) := by decide +kernel
theorem d_LAW_1494 : decode (mC m_LAW) 1494 = .ok (.goto 1790, 3) := by decide +kernel
theorem d_LAW_1497 : decode (mC m_LAW) 1497 = .ok (.aload_n 1, 1) := by decide +kernel
theorem d_LAW_1498 : decode (mC m_LAW) 1498 = .ok (.aload_n 0, 1) := by decide +kernel
theorem d_LAW_1499 : decode (mC m_LAW) 1499 = .ok (.iload 4, 2) := by decide +kernel
theorem d_LAW_1501 : decode (mC m_LAW) 1501 = .ok (.iconst 1, 1) := by decide +kernel
theorem d_LAW_1502 : decode (mC m_LAW) 1502 = .ok (.iadd, 1) := by decide +kernel
theorem d_LAW_1503 : decode (mC m_LAW) 1503 = .ok (.iaload, 1) := by decide +kernel
theorem d_LAW_1504 : decode (mC m_LAW) 1504 = .ok (.aload_n 3, 1) := by decide +kernel
theorem d_LAW_1505 : decode (mC m_LAW) 1505 = .ok (.invokestatic 268, 3) := by decide +kernel
theorem d_LAW_1508 : decode (mC m_LAW) 1508 = .ok (.istore 5, 2) := by decide +kernel
theorem d_LAW_1510 : decode (mC m_LAW) 1510 = .ok (.aload_n 2, 1) := by decide +kernel
theorem d_LAW_1511 : decode (mC m_LAW) 1511 = .ok (.aload_n 0, 1) := by decide +kernel
theorem d_LAW_1512 : decode (mC m_LAW) 1512 = .ok (.iload 4, 2) := by decide +kernel
theorem d_LAW_1514 : decode (mC m_LAW) 1514 = .ok (.iconst 1, 1) := by decide +kernel
theorem d_LAW_1515 : decode (mC m_LAW) 1515 = .ok (.iadd, 1) := by decide +kernel
theorem d_LAW_1516 : decode (mC m_LAW) 1516 = .ok (.iaload, 1) := by decide +kernel
theorem d_LAW_1517 : decode (mC m_LAW) 1517 = .ok (.invokevirtual 270, 3) := by decide +kernel
theorem d_LAW_1520 : decode (mC m_LAW) 1520 = .ok (.istore 6, 2) := by decide +kernel
theorem d_LAW_1522 : decode (mC m_LAW) 1522 = .ok (.aload_n 2, 1) := by decide +kernel
theorem d_LAW_1523 : decode (mC m_LAW) 1523 = .ok (.invokevirtual 171, 3) := by decide +kernel
theorem d_LAW_1526 : decode (mC m_LAW) 1526 = .ok (.iload 5, 2) := by decide +kernel
theorem d_LAW_1528 : decode (mC m_LAW) 1528 = .ok (.if_icmp .eq 5, 3) := by decide +kernel
theorem d_LAW_1531 : decode (mC m_LAW) 1531 = .ok (.iconst 0, 1) := by decide +kernel
theorem d_LAW_1532 : decode (mC m_LAW) 1532 = .ok (.ireturn, 1) := by decide +kernel
theorem d_LAW_1533 : decode (mC m_LAW) 1533 = .ok (.iload 5, 2) := by decide +kernel
theorem d_LAW_1535 : decode (mC m_LAW) 1535 = .ok (.ifCond .ne 15, 3) := by decide +kernel
theorem d_LAW_1538 : decode (mC m_LAW) 1538 = .ok (.aload_n 3, 1) := by decide +kernel
theorem d_LAW_1539 : decode (mC m_LAW) 1539 = .ok (.iconst 0, 1) := by decide +kernel
theorem d_LAW_1540 : decode (mC m_LAW) 1540 = .ok (.laload, 1) := by decide +kernel
theorem d_LAW_1541 : decode (mC m_LAW) 1541 = .ok (.iload 6, 2) := by decide +kernel
theorem d_LAW_1543 : decode (mC m_LAW) 1543 = .ok (.i2l, 1) := by decide +kernel
theorem d_LAW_1544 : decode (mC m_LAW) 1544 = .ok (.lcmp, 1) := by decide +kernel
theorem d_LAW_1545 : decode (mC m_LAW) 1545 = .ok (.ifCond .eq 5, 3) := by decide +kernel
theorem d_LAW_1548 : decode (mC m_LAW) 1548 = .ok (.iconst 0, 1) := by decide +kernel
theorem d_LAW_1549 : decode (mC m_LAW) 1549 = .ok (.ireturn, 1) := by decide +kernel
theorem d_LAW_1550 : decode (mC m_LAW) 1550 = .ok (.goto 1734, 3) := by decide +kernel
theorem d_LAW_1553 : decode (mC m_LAW) 1553 = .ok (.aload_n 1, 1) := by decide +kernel
theorem d_LAW_1554 : decode (mC m_LAW) 1554 = .ok (.aload_n 0, 1) := by decide +kernel
theorem d_LAW_1555 : decode (mC m_LAW) 1555 = .ok (.iload 4, 2) := by decide +kernel
theorem d_LAW_1557 : decode (mC m_LAW) 1557 = .ok (.iconst 1, 1) := by decide +kernel
theorem d_LAW_1558 : decode (mC m_LAW) 1558 = .ok (.iadd, 1) := by decide +kernel
theorem d_LAW_1559 : decode (mC m_LAW) 1559 = .ok (.iaload, 1) := by decide +kernel
theorem d_LAW_1560 : decode (mC m_LAW) 1560 = .ok (.aload_n 0, 1) := by decide +kernel
theorem d_LAW_1561 : decode (mC m_LAW) 1561 = .ok (.iload 4, 2) := by decide +kernel
theorem d_LAW_1563 : decode (mC m_LAW) 1563 = .ok (.iconst 2, 1) := by decide +kernel
theorem d_LAW_1564 : decode (mC m_LAW) 1564 = .ok (.iadd, 1) := by decide +kernel
theorem d_LAW_1565 : decode (mC m_LAW) 1565 = .ok (.iaload, 1) := by decide +kernel
theorem d_LAW_1566 : decode (mC m_LAW) 1566 = .ok (.aload_n 3, 1) := by decide +kernel
theorem d_LAW_1567 : decode (mC m_LAW) 1567 = .ok (.invokestatic 271, 3) := by decide +kernel
theorem d_LAW_1570 : decode (mC m_LAW) 1570 = .ok (.istore 5, 2) := by decide +kernel
theorem d_LAW_1572 : decode (mC m_LAW) 1572 = .ok (.aload_n 2, 1) := by decide +kernel
theorem d_LAW_1573 : decode (mC m_LAW) 1573 = .ok (.aload_n 0, 1) := by decide +kernel
theorem d_LAW_1574 : decode (mC m_LAW) 1574 = .ok (.iload 4, 2) := by decide +kernel
theorem d_LAW_1576 : decode (mC m_LAW) 1576 = .ok (.iconst 1, 1) := by decide +kernel
theorem d_LAW_1577 : decode (mC m_LAW) 1577 = .ok (.iadd, 1) := by decide +kernel
theorem d_LAW_1578 : decode (mC m_LAW) 1578 = .ok (.iaload, 1) := by decide +kernel
theorem d_LAW_1579 : decode (mC m_LAW) 1579 = .ok (.aload_n 0, 1) := by decide +kernel
theorem d_LAW_1580 : decode (mC m_LAW) 1580 = .ok (.iload 4, 2) := by decide +kernel
theorem d_LAW_1582 : decode (mC m_LAW) 1582 = .ok (.iconst 2, 1) := by decide +kernel
theorem d_LAW_1583 : decode (mC m_LAW) 1583 = .ok (.iadd, 1) := by decide +kernel
theorem d_LAW_1584 : decode (mC m_LAW) 1584 = .ok (.iaload, 1) := by decide +kernel
theorem d_LAW_1585 : decode (mC m_LAW) 1585 = .ok (.invokevirtual 273, 3) := by decide +kernel
theorem d_LAW_1588 : decode (mC m_LAW) 1588 = .ok (.istore 6, 2) := by decide +kernel
theorem d_LAW_1590 : decode (mC m_LAW) 1590 = .ok (.aload_n 2, 1) := by decide +kernel
theorem d_LAW_1591 : decode (mC m_LAW) 1591 = .ok (.invokevirtual 171, 3) := by decide +kernel
theorem d_LAW_1594 : decode (mC m_LAW) 1594 = .ok (.iload 5, 2) := by decide +kernel
theorem d_LAW_1596 : decode (mC m_LAW) 1596 = .ok (.if_icmp .eq 5, 3) := by decide +kernel
theorem d_LAW_1599 : decode (mC m_LAW) 1599 = .ok (.iconst 0, 1) := by decide +kernel
theorem d_LAW_1600 : decode (mC m_LAW) 1600 = .ok (.ireturn, 1) := by decide +kernel
theorem d_LAW_1601 : decode (mC m_LAW) 1601 = .ok (.iload 5, 2) := by decide +kernel
theorem d_LAW_1603 : decode (mC m_LAW) 1603 = .ok (.ifCond .ne 15, 3) := by decide +kernel
theorem d_LAW_1606 : decode (mC m_LAW) 1606 = .ok (.aload_n 3, 1) := by decide +kernel
theorem d_LAW_1607 : decode (mC m_LAW) 1607 = .ok (.iconst 0, 1) := by decide +kernel
theorem d_LAW_1608 : decode (mC m_LAW) 1608 = .ok (.laload, 1) := by decide +kernel
theorem d_LAW_1609 : decode (mC m_LAW) 1609 = .ok (.iload 6, 2) := by decide +kernel
theorem d_LAW_1611 : decode (mC m_LAW) 1611 = .ok (.i2l, 1) := by decide +kernel
theorem d_LAW_1612 : decode (mC m_LAW) 1612 = .ok (.lcmp, 1) := by decide +kernel
theorem d_LAW_1613 : decode (mC m_LAW) 1613 = .ok (.ifCond .eq 5, 3) := by decide +kernel
theorem d_LAW_1616 : decode (mC m_LAW) 1616 = .ok (.iconst 0, 1) := by decide +kernel
theorem d_LAW_1617 : decode (mC m_LAW) 1617 = .ok (.ireturn, 1) := by decide +kernel
theorem d_LAW_1618 : decode (mC m_LAW) 1618 = .ok (.goto 1666, 3) := by decide +kernel
theorem d_LAW_1621 : decode (mC m_LAW) 1621 = .ok (.aload_n 1, 1) := by decide +kernel
theorem d_LAW_1622 : decode (mC m_LAW) 1622 = .ok (.aload_n 0, 1) := by decide +kernel
theorem d_LAW_1623 : decode (mC m_LAW) 1623 = .ok (.iload 4, 2) := by decide +kernel
theorem d_LAW_1625 : decode (mC m_LAW) 1625 = .ok (.iconst 1, 1) := by decide +kernel
theorem d_LAW_1626 : decode (mC m_LAW) 1626 = .ok (.iadd, 1) := by decide +kernel
theorem d_LAW_1627 : decode (mC m_LAW) 1627 = .ok (.iaload, 1) := by decide +kernel
theorem d_LAW_1628 : decode (mC m_LAW) 1628 = .ok (.aload_n 0, 1) := by decide +kernel
theorem d_LAW_1629 : decode (mC m_LAW) 1629 = .ok (.iload 4, 2) := by decide +kernel
theorem d_LAW_1631 : decode (mC m_LAW) 1631 = .ok (.iconst 2, 1) := by decide +kernel
theorem d_LAW_1632 : decode (mC m_LAW) 1632 = .ok (.iadd, 1) := by decide +kernel
theorem d_LAW_1633 : decode (mC m_LAW) 1633 = .ok (.iaload, 1) := by decide +kernel
theorem d_LAW_1634 : decode (mC m_LAW) 1634 = .ok (.aload_n 3, 1) := by decide +kernel
theorem d_LAW_1635 : decode (mC m_LAW) 1635 = .ok (.invokestatic 274, 3) := by decide +kernel
theorem d_LAW_1638 : decode (mC m_LAW) 1638 = .ok (.istore 5, 2) := by decide +kernel
theorem d_LAW_1640 : decode (mC m_LAW) 1640 = .ok (.aload_n 2, 1) := by decide +kernel
theorem d_LAW_1641 : decode (mC m_LAW) 1641 = .ok (.aload_n 0, 1) := by decide +kernel
theorem d_LAW_1642 : decode (mC m_LAW) 1642 = .ok (.iload 4, 2) := by decide +kernel
theorem d_LAW_1644 : decode (mC m_LAW) 1644 = .ok (.iconst 1, 1) := by decide +kernel
theorem d_LAW_1645 : decode (mC m_LAW) 1645 = .ok (.iadd, 1) := by decide +kernel
theorem d_LAW_1646 : decode (mC m_LAW) 1646 = .ok (.iaload, 1) := by decide +kernel
theorem d_LAW_1647 : decode (mC m_LAW) 1647 = .ok (.aload_n 0, 1) := by decide +kernel
theorem d_LAW_1648 : decode (mC m_LAW) 1648 = .ok (.iload 4, 2) := by decide +kernel
theorem d_LAW_1650 : decode (mC m_LAW) 1650 = .ok (.iconst 2, 1) := by decide +kernel
theorem d_LAW_1651 : decode (mC m_LAW) 1651 = .ok (.iadd, 1) := by decide +kernel
theorem d_LAW_1652 : decode (mC m_LAW) 1652 = .ok (.iaload, 1) := by decide +kernel
theorem d_LAW_1653 : decode (mC m_LAW) 1653 = .ok (.invokevirtual 276, 3) := by decide +kernel
theorem d_LAW_1656 : decode (mC m_LAW) 1656 = .ok (.istore 6, 2) := by decide +kernel
theorem d_LAW_1658 : decode (mC m_LAW) 1658 = .ok (.aload_n 2, 1) := by decide +kernel
theorem d_LAW_1659 : decode (mC m_LAW) 1659 = .ok (.invokevirtual 171, 3) := by decide +kernel
theorem d_LAW_1662 : decode (mC m_LAW) 1662 = .ok (.iload 5, 2) := by decide +kernel
theorem d_LAW_1664 : decode (mC m_LAW) 1664 = .ok (.if_icmp .eq 5, 3) := by decide +kernel
theorem d_LAW_1667 : decode (mC m_LAW) 1667 = .ok (.iconst 0, 1) := by decide +kernel
theorem d_LAW_1668 : decode (mC m_LAW) 1668 = .ok (.ireturn, 1) := by decide +kernel
theorem d_LAW_1669 : decode (mC m_LAW) 1669 = .ok (.iload 5, 2) := by decide +kernel
theorem d_LAW_1671 : decode (mC m_LAW) 1671 = .ok (.ifCond .ne 15, 3) := by decide +kernel
theorem d_LAW_1674 : decode (mC m_LAW) 1674 = .ok (.aload_n 3, 1) := by decide +kernel
theorem d_LAW_1675 : decode (mC m_LAW) 1675 = .ok (.iconst 0, 1) := by decide +kernel
theorem d_LAW_1676 : decode (mC m_LAW) 1676 = .ok (.laload, 1) := by decide +kernel
theorem d_LAW_1677 : decode (mC m_LAW) 1677 = .ok (.iload 6, 2) := by decide +kernel
theorem d_LAW_1679 : decode (mC m_LAW) 1679 = .ok (.i2l, 1) := by decide +kernel
theorem d_LAW_1680 : decode (mC m_LAW) 1680 = .ok (.lcmp, 1) := by decide +kernel
theorem d_LAW_1681 : decode (mC m_LAW) 1681 = .ok (.ifCond .eq 5, 3) := by decide +kernel
theorem d_LAW_1684 : decode (mC m_LAW) 1684 = .ok (.iconst 0, 1) := by decide +kernel
theorem d_LAW_1685 : decode (mC m_LAW) 1685 = .ok (.ireturn, 1) := by decide +kernel
theorem d_LAW_1686 : decode (mC m_LAW) 1686 = .ok (.goto 1598, 3) := by decide +kernel
theorem d_LAW_1689 : decode (mC m_LAW) 1689 = .ok (.aload_n 1, 1) := by decide +kernel
theorem d_LAW_1690 : decode (mC m_LAW) 1690 = .ok (.aload_n 0, 1) := by decide +kernel
theorem d_LAW_1691 : decode (mC m_LAW) 1691 = .ok (.iload 4, 2) := by decide +kernel
theorem d_LAW_1693 : decode (mC m_LAW) 1693 = .ok (.iconst 1, 1) := by decide +kernel
theorem d_LAW_1694 : decode (mC m_LAW) 1694 = .ok (.iadd, 1) := by decide +kernel
theorem d_LAW_1695 : decode (mC m_LAW) 1695 = .ok (.iaload, 1) := by decide +kernel
theorem d_LAW_1696 : decode (mC m_LAW) 1696 = .ok (.aload_n 3, 1) := by decide +kernel
theorem d_LAW_1697 : decode (mC m_LAW) 1697 = .ok (.invokestatic 277, 3) := by decide +kernel
theorem d_LAW_1700 : decode (mC m_LAW) 1700 = .ok (.istore 5, 2) := by decide +kernel
theorem d_LAW_1702 : decode (mC m_LAW) 1702 = .ok (.aload_n 2, 1) := by decide +kernel
theorem d_LAW_1703 : decode (mC m_LAW) 1703 = .ok (.aload_n 0, 1) := by decide +kernel
theorem d_LAW_1704 : decode (mC m_LAW) 1704 = .ok (.iload 4, 2) := by decide +kernel
theorem d_LAW_1706 : decode (mC m_LAW) 1706 = .ok (.iconst 1, 1) := by decide +kernel
theorem d_LAW_1707 : decode (mC m_LAW) 1707 = .ok (.iadd, 1) := by decide +kernel
theorem d_LAW_1708 : decode (mC m_LAW) 1708 = .ok (.iaload, 1) := by decide +kernel
theorem d_LAW_1709 : decode (mC m_LAW) 1709 = .ok (.invokevirtual 279, 3) := by decide +kernel
theorem d_LAW_1712 : decode (mC m_LAW) 1712 = .ok (.istore 6, 2) := by decide +kernel
theorem d_LAW_1714 : decode (mC m_LAW) 1714 = .ok (.aload_n 2, 1) := by decide +kernel
theorem d_LAW_1715 : decode (mC m_LAW) 1715 = .ok (.invokevirtual 171, 3) := by decide +kernel
theorem d_LAW_1718 : decode (mC m_LAW) 1718 = .ok (.iload 5, 2) := by decide +kernel
theorem d_LAW_1720 : decode (mC m_LAW) 1720 = .ok (.if_icmp .eq 5, 3) := by decide +kernel
theorem d_LAW_1723 : decode (mC m_LAW) 1723 = .ok (.iconst 0, 1) := by decide +kernel
theorem d_LAW_1724 : decode (mC m_LAW) 1724 = .ok (.ireturn, 1) := by decide +kernel
theorem d_LAW_1725 : decode (mC m_LAW) 1725 = .ok (.iload 5, 2) := by decide +kernel
theorem d_LAW_1727 : decode (mC m_LAW) 1727 = .ok (.ifCond .ne 15, 3) := by decide +kernel
theorem d_LAW_1730 : decode (mC m_LAW) 1730 = .ok (.aload_n 3, 1) := by decide +kernel
theorem d_LAW_1731 : decode (mC m_LAW) 1731 = .ok (.iconst 0, 1) := by decide +kernel
theorem d_LAW_1732 : decode (mC m_LAW) 1732 = .ok (.laload, 1) := by decide +kernel
theorem d_LAW_1733 : decode (mC m_LAW) 1733 = .ok (.iload 6, 2) := by decide +kernel
theorem d_LAW_1735 : decode (mC m_LAW) 1735 = .ok (.i2l, 1) := by decide +kernel
theorem d_LAW_1736 : decode (mC m_LAW) 1736 = .ok (.lcmp, 1) := by decide +kernel
theorem d_LAW_1737 : decode (mC m_LAW) 1737 = .ok (.ifCond .eq 5, 3) := by decide +kernel
theorem d_LAW_1740 : decode (mC m_LAW) 1740 = .ok (.iconst 0, 1) := by decide +kernel
theorem d_LAW_1741 : decode (mC m_LAW) 1741 = .ok (.ireturn, 1) := by decide +kernel
theorem d_LAW_1742 : decode (mC m_LAW) 1742 = .ok (.goto 1542, 3) := by decide +kernel
theorem d_LAW_1745 : decode (mC m_LAW) 1745 = .ok (.aload_n 1, 1) := by decide +kernel
theorem d_LAW_1746 : decode (mC m_LAW) 1746 = .ok (.aload_n 0, 1) := by decide +kernel
theorem d_LAW_1747 : decode (mC m_LAW) 1747 = .ok (.iload 4, 2) := by decide +kernel
theorem d_LAW_1749 : decode (mC m_LAW) 1749 = .ok (.iconst 1, 1) := by decide +kernel
theorem d_LAW_1750 : decode (mC m_LAW) 1750 = .ok (.iadd, 1) := by decide +kernel
theorem d_LAW_1751 : decode (mC m_LAW) 1751 = .ok (.iaload, 1) := by decide +kernel
theorem d_LAW_1752 : decode (mC m_LAW) 1752 = .ok (.aload_n 3, 1) := by decide +kernel
theorem d_LAW_1753 : decode (mC m_LAW) 1753 = .ok (.invokestatic 280, 3) := by decide +kernel
theorem d_LAW_1756 : decode (mC m_LAW) 1756 = .ok (.istore 5, 2) := by decide +kernel
theorem d_LAW_1758 : decode (mC m_LAW) 1758 = .ok (.aload_n 2, 1) := by decide +kernel
theorem d_LAW_1759 : decode (mC m_LAW) 1759 = .ok (.aload_n 0, 1) := by decide +kernel
theorem d_LAW_1760 : decode (mC m_LAW) 1760 = .ok (.iload 4, 2) := by decide +kernel
theorem d_LAW_1762 : decode (mC m_LAW) 1762 = .ok (.iconst 1, 1) := by decide +kernel
theorem d_LAW_1763 : decode (mC m_LAW) 1763 = .ok (.iadd, 1) := by decide +kernel
theorem d_LAW_1764 : decode (mC m_LAW) 1764 = .ok (.iaload, 1) := by decide +kernel
theorem d_LAW_1765 : decode (mC m_LAW) 1765 = .ok (.invokevirtual 282, 3) := by decide +kernel
theorem d_LAW_1768 : decode (mC m_LAW) 1768 = .ok (.istore 6, 2) := by decide +kernel
