/-! THE LAW: its code -/
theorem d_LW_day_0 : decode (mC m_LW_day) 0 = .ok (.aload_n 1, 1) := by decide +kernel
theorem d_LW_day_1 : decode (mC m_LW_day) 1 = .ok (.getfield 45, 3) := by decide +kernel
theorem d_LW_day_4 : decode (mC m_LW_day) 4 = .ok (.arraylength, 1) := by decide +kernel
theorem d_LW_day_5 : decode (mC m_LW_day) 5 = .ok (.istore_n 2, 1) := by decide +kernel
theorem d_LW_day_6 : decode (mC m_LW_day) 6 = .ok (.iload_n 2, 1) := by decide +kernel
theorem d_LW_day_7 : decode (mC m_LW_day) 7 = .ok (.newarray .int, 2) := by decide +kernel
theorem d_LW_day_9 : decode (mC m_LW_day) 9 = .ok (.astore_n 3, 1) := by decide +kernel
theorem d_LW_day_10 : decode (mC m_LW_day) 10 = .ok (.aload_n 0, 1) := by decide +kernel
theorem d_LW_day_11 : decode (mC m_LW_day) 11 = .ok (.invokevirtual 167, 3) := by decide +kernel
theorem d_LW_day_14 : decode (mC m_LW_day) 14 = .ok (.istore 4, 2) := by decide +kernel
theorem d_LW_day_16 : decode (mC m_LW_day) 16 = .ok (.iconst 0, 1) := by decide +kernel
theorem d_LW_day_17 : decode (mC m_LW_day) 17 = .ok (.istore 5, 2) := by decide +kernel
theorem d_LW_day_19 : decode (mC m_LW_day) 19 = .ok (.iload 5, 2) := by decide +kernel
theorem d_LW_day_21 : decode (mC m_LW_day) 21 = .ok (.iload_n 2, 1) := by decide +kernel
theorem d_LW_day_22 : decode (mC m_LW_day) 22 = .ok (.if_icmp .ge 75, 3) := by decide +kernel
theorem d_LW_day_25 : decode (mC m_LW_day) 25 = .ok (.aload_n 3, 1) := by decide +kernel
theorem d_LW_day_26 : decode (mC m_LW_day) 26 = .ok (.iload 5, 2) := by decide +kernel
theorem d_LW_day_28 : decode (mC m_LW_day) 28 = .ok (.aload_n 0, 1) := by decide +kernel
theorem d_LW_day_29 : decode (mC m_LW_day) 29 = .ok (.iload 5, 2) := by decide +kernel
theorem d_LW_day_31 : decode (mC m_LW_day) 31 = .ok (.invokevirtual 170, 3) := by decide +kernel
theorem d_LW_day_34 : decode (mC m_LW_day) 34 = .ok (.iastore, 1) := by decide +kernel
theorem d_LW_day_35 : decode (mC m_LW_day) 35 = .ok (.aload_n 1, 1) := by decide +kernel
theorem d_LW_day_36 : decode (mC m_LW_day) 36 = .ok (.getfield 45, 3) := by decide +kernel
theorem d_LW_day_39 : decode (mC m_LW_day) 39 = .ok (.iload 5, 2) := by decide +kernel
theorem d_LW_day_41 : decode (mC m_LW_day) 41 = .ok (.aaload, 1) := by decide +kernel
theorem d_LW_day_42 : decode (mC m_LW_day) 42 = .ok (.astore 6, 2) := by decide +kernel
theorem d_LW_day_44 : decode (mC m_LW_day) 44 = .ok (.aload_n 0, 1) := by decide +kernel
theorem d_LW_day_45 : decode (mC m_LW_day) 45 = .ok (.iload 5, 2) := by decide +kernel
theorem d_LW_day_47 : decode (mC m_LW_day) 47 = .ok (.invokevirtual 173, 3) := by decide +kernel
theorem d_LW_day_50 : decode (mC m_LW_day) 50 = .ok (.aload 6, 2) := by decide +kernel
theorem d_LW_day_52 : decode (mC m_LW_day) 52 = .ok (.getfield 141, 3) := by decide +kernel
theorem d_LW_day_55 : decode (mC m_LW_day) 55 = .ok (.ifCond .lt 26, 3) := by decide +kernel
theorem d_LW_day_58 : decode (mC m_LW_day) 58 = .ok (.aload_n 1, 1) := by decide +kernel
theorem d_LW_day_59 : decode (mC m_LW_day) 59 = .ok (.getfield 30, 3) := by decide +kernel
theorem d_LW_day_62 : decode (mC m_LW_day) 62 = .ok (.bipush 7, 2) := by decide +kernel
theorem d_LW_day_64 : decode (mC m_LW_day) 64 = .ok (.iaload, 1) := by decide +kernel
theorem d_LW_day_65 : decode (mC m_LW_day) 65 = .ok (.iconst 1, 1) := by decide +kernel
theorem d_LW_day_66 : decode (mC m_LW_day) 66 = .ok (.iadd, 1) := by decide +kernel
theorem d_LW_day_67 : decode (mC m_LW_day) 67 = .ok (.aload 6, 2) := by decide +kernel
theorem d_LW_day_69 : decode (mC m_LW_day) 69 = .ok (.getfield 141, 3) := by decide +kernel
theorem d_LW_day_72 : decode (mC m_LW_day) 72 = .ok (.isub, 1) := by decide +kernel
theorem d_LW_day_73 : decode (mC m_LW_day) 73 = .ok (.aload 6, 2) := by decide +kernel
theorem d_LW_day_75 : decode (mC m_LW_day) 75 = .ok (.getfield 93, 3) := by decide +kernel
theorem d_LW_day_78 : decode (mC m_LW_day) 78 = .ok (.if_icmp .le 7, 3) := by decide +kernel
theorem d_LW_day_81 : decode (mC m_LW_day) 81 = .ok (.iconst 1, 1) := by decide +kernel
theorem d_LW_day_82 : decode (mC m_LW_day) 82 = .ok (.goto 4, 3) := by decide +kernel
theorem d_LW_day_85 : decode (mC m_LW_day) 85 = .ok (.iconst 0, 1) := by decide +kernel
theorem d_LW_day_86 : decode (mC m_LW_day) 86 = .ok (.if_icmp .eq 5, 3) := by decide +kernel
theorem d_LW_day_89 : decode (mC m_LW_day) 89 = .ok (.iconst 0, 1) := by decide +kernel
theorem d_LW_day_90 : decode (mC m_LW_day) 90 = .ok (.ireturn, 1) := by decide +kernel
theorem d_LW_day_91 : decode (mC m_LW_day) 91 = .ok (.iinc 5 1, 3) := by decide +kernel
theorem d_LW_day_94 : decode (mC m_LW_day) 94 = .ok (.goto (-75), 3) := by decide +kernel
theorem d_LW_day_97 : decode (mC m_LW_day) 97 = .ok (.aload_n 1, 1) := by decide +kernel
theorem d_LW_day_98 : decode (mC m_LW_day) 98 = .ok (.getfield 30, 3) := by decide +kernel
theorem d_LW_day_101 : decode (mC m_LW_day) 101 = .ok (.bipush 7, 2) := by decide +kernel
theorem d_LW_day_103 : decode (mC m_LW_day) 103 = .ok (.dup2, 1) := by decide +kernel
theorem d_LW_day_104 : decode (mC m_LW_day) 104 = .ok (.iaload, 1) := by decide +kernel
theorem d_LW_day_105 : decode (mC m_LW_day) 105 = .ok (.iconst 1, 1) := by decide +kernel
theorem d_LW_day_106 : decode (mC m_LW_day) 106 = .ok (.iadd, 1) := by decide +kernel
theorem d_LW_day_107 : decode (mC m_LW_day) 107 = .ok (.iastore, 1) := by decide +kernel
theorem d_LW_day_108 : decode (mC m_LW_day) 108 = .ok (.iconst 0, 1) := by decide +kernel
theorem d_LW_day_109 : decode (mC m_LW_day) 109 = .ok (.istore 5, 2) := by decide +kernel
theorem d_LW_day_111 : decode (mC m_LW_day) 111 = .ok (.iload 5, 2) := by decide +kernel
theorem d_LW_day_113 : decode (mC m_LW_day) 113 = .ok (.iload_n 2, 1) := by decide +kernel
theorem d_LW_day_114 : decode (mC m_LW_day) 114 = .ok (.if_icmp .ge 46, 3) := by decide +kernel
theorem d_LW_day_117 : decode (mC m_LW_day) 117 = .ok (.aload_n 1, 1) := by decide +kernel
theorem d_LW_day_118 : decode (mC m_LW_day) 118 = .ok (.getfield 45, 3) := by decide +kernel
theorem d_LW_day_121 : decode (mC m_LW_day) 121 = .ok (.iload 5, 2) := by decide +kernel
theorem d_LW_day_123 : decode (mC m_LW_day) 123 = .ok (.aaload, 1) := by decide +kernel
theorem d_LW_day_124 : decode (mC m_LW_day) 124 = .ok (.astore 6, 2) := by decide +kernel
theorem d_LW_day_126 : decode (mC m_LW_day) 126 = .ok (.aload 6, 2) := by decide +kernel
theorem d_LW_day_128 : decode (mC m_LW_day) 128 = .ok (.sipush (-500), 3) := by decide +kernel
theorem d_LW_day_131 : decode (mC m_LW_day) 131 = .ok (.sipush 500, 3) := by decide +kernel
theorem d_LW_day_134 : decode (mC m_LW_day) 134 = .ok (.aload 6, 2) := by decide +kernel
theorem d_LW_day_136 : decode (mC m_LW_day) 136 = .ok (.getfield 75, 3) := by decide +kernel
theorem d_LW_day_139 : decode (mC m_LW_day) 139 = .ok (.aload 6, 2) := by decide +kernel
theorem d_LW_day_141 : decode (mC m_LW_day) 141 = .ok (.getfield 81, 3) := by decide +kernel
theorem d_LW_day_144 : decode (mC m_LW_day) 144 = .ok (.iadd, 1) := by decide +kernel
theorem d_LW_day_145 : decode (mC m_LW_day) 145 = .ok (.invokestatic 177, 3) := by decide +kernel
theorem d_LW_day_148 : decode (mC m_LW_day) 148 = .ok (.invokestatic 123, 3) := by decide +kernel
theorem d_LW_day_151 : decode (mC m_LW_day) 151 = .ok (.putfield 75, 3) := by decide +kernel
theorem d_LW_day_154 : decode (mC m_LW_day) 154 = .ok (.iinc 5 1, 3) := by decide +kernel
theorem d_LW_day_157 : decode (mC m_LW_day) 157 = .ok (.goto (-46), 3) := by decide +kernel
theorem d_LW_day_160 : decode (mC m_LW_day) 160 = .ok (.iconst 0, 1) := by decide +kernel
theorem d_LW_day_161 : decode (mC m_LW_day) 161 = .ok (.istore 5, 2) := by decide +kernel
theorem d_LW_day_163 : decode (mC m_LW_day) 163 = .ok (.iload 5, 2) := by decide +kernel
theorem d_LW_day_165 : decode (mC m_LW_day) 165 = .ok (.iload_n 2, 1) := by decide +kernel
theorem d_LW_day_166 : decode (mC m_LW_day) 166 = .ok (.if_icmp .ge 172, 3) := by decide +kernel
theorem d_LW_day_169 : decode (mC m_LW_day) 169 = .ok (.aload_n 1, 1) := by decide +kernel
theorem d_LW_day_170 : decode (mC m_LW_day) 170 = .ok (.getfield 45, 3) := by decide +kernel
theorem d_LW_day_173 : decode (mC m_LW_day) 173 = .ok (.iload 5, 2) := by decide +kernel
theorem d_LW_day_175 : decode (mC m_LW_day) 175 = .ok (.aaload, 1) := by decide +kernel
theorem d_LW_day_176 : decode (mC m_LW_day) 176 = .ok (.astore 6, 2) := by decide +kernel
theorem d_LW_day_178 : decode (mC m_LW_day) 178 = .ok (.aload 6, 2) := by decide +kernel
theorem d_LW_day_180 : decode (mC m_LW_day) 180 = .ok (.getfield 157, 3) := by decide +kernel
theorem d_LW_day_183 : decode (mC m_LW_day) 183 = .ok (.ifCond .eq 12, 3) := by decide +kernel
theorem d_LW_day_186 : decode (mC m_LW_day) 186 = .ok (.aload_n 1, 1) := by decide +kernel
theorem d_LW_day_187 : decode (mC m_LW_day) 187 = .ok (.aload 6, 2) := by decide +kernel
theorem d_LW_day_189 : decode (mC m_LW_day) 189 = .ok (.invokestatic 180, 3) := by decide +kernel
theorem d_LW_day_192 : decode (mC m_LW_day) 192 = .ok (.goto 4, 3) := by decide +kernel
theorem d_LW_day_195 : decode (mC m_LW_day) 195 = .ok (.iconst 0, 1) := by decide +kernel
theorem d_LW_day_196 : decode (mC m_LW_day) 196 = .ok (.istore 7, 2) := by decide +kernel
theorem d_LW_day_198 : decode (mC m_LW_day) 198 = .ok (.aload_n 3, 1) := by decide +kernel
theorem d_LW_day_199 : decode (mC m_LW_day) 199 = .ok (.iload 5, 2) := by decide +kernel
theorem d_LW_day_201 : decode (mC m_LW_day) 201 = .ok (.iaload, 1) := by decide +kernel
theorem d_LW_day_202 : decode (mC m_LW_day) 202 = .ok (.iload 7, 2) := by decide +kernel
theorem d_LW_day_204 : decode (mC m_LW_day) 204 = .ok (.if_icmp .eq 5, 3) := by decide +kernel
theorem d_LW_day_207 : decode (mC m_LW_day) 207 = .ok (.iconst 0, 1) := by decide +kernel
theorem d_LW_day_208 : decode (mC m_LW_day) 208 = .ok (.ireturn, 1) := by decide +kernel
theorem d_LW_day_209 : decode (mC m_LW_day) 209 = .ok (.aload 6, 2) := by decide +kernel
theorem d_LW_day_211 : decode (mC m_LW_day) 211 = .ok (.dup, 1) := by decide +kernel
theorem d_LW_day_212 : decode (mC m_LW_day) 212 = .ok (.getfield 71, 3) := by decide +kernel
theorem d_LW_day_215 : decode (mC m_LW_day) 215 = .ok (.iload 7, 2) := by decide +kernel
theorem d_LW_day_217 : decode (mC m_LW_day) 217 = .ok (.iadd, 1) := by decide +kernel
theorem d_LW_day_218 : decode (mC m_LW_day) 218 = .ok (.putfield 71, 3) := by decide +kernel
theorem d_LW_day_221 : decode (mC m_LW_day) 221 = .ok (.aload 6, 2) := by decide +kernel
theorem d_LW_day_223 : decode (mC m_LW_day) 223 = .ok (.dup, 1) := by decide +kernel
theorem d_LW_day_224 : decode (mC m_LW_day) 224 = .ok (.getfield 183, 3) := by decide +kernel
theorem d_LW_day_227 : decode (mC m_LW_day) 227 = .ok (.iload 7, 2) := by decide +kernel
theorem d_LW_day_229 : decode (mC m_LW_day) 229 = .ok (.iadd, 1) := by decide +kernel
theorem d_LW_day_230 : decode (mC m_LW_day) 230 = .ok (.putfield 183, 3) := by decide +kernel
theorem d_LW_day_233 : decode (mC m_LW_day) 233 = .ok (.aload 6, 2) := by decide +kernel
theorem d_LW_day_235 : decode (mC m_LW_day) 235 = .ok (.getfield 141, 3) := by decide +kernel
theorem d_LW_day_238 : decode (mC m_LW_day) 238 = .ok (.ifCond .lt 24, 3) := by decide +kernel
theorem d_LW_day_241 : decode (mC m_LW_day) 241 = .ok (.aload_n 1, 1) := by decide +kernel
theorem d_LW_day_242 : decode (mC m_LW_day) 242 = .ok (.getfield 30, 3) := by decide +kernel
theorem d_LW_day_245 : decode (mC m_LW_day) 245 = .ok (.bipush 7, 2) := by decide +kernel
theorem d_LW_day_247 : decode (mC m_LW_day) 247 = .ok (.iaload, 1) := by decide +kernel
theorem d_LW_day_248 : decode (mC m_LW_day) 248 = .ok (.aload 6, 2) := by decide +kernel
theorem d_LW_day_250 : decode (mC m_LW_day) 250 = .ok (.getfield 141, 3) := by decide +kernel
theorem d_LW_day_253 : decode (mC m_LW_day) 253 = .ok (.isub, 1) := by decide +kernel
theorem d_LW_day_254 : decode (mC m_LW_day) 254 = .ok (.aload 6, 2) := by decide +kernel
theorem d_LW_day_256 : decode (mC m_LW_day) 256 = .ok (.getfield 93, 3) := by decide +kernel
theorem d_LW_day_259 : decode (mC m_LW_day) 259 = .ok (.if_icmp .le 7, 3) := by decide +kernel
theorem d_LW_day_262 : decode (mC m_LW_day) 262 = .ok (.iconst 1, 1) := by decide +kernel
theorem d_LW_day_263 : decode (mC m_LW_day) 263 = .ok (.goto 4, 3) := by decide +kernel
theorem d_LW_day_266 : decode (mC m_LW_day) 266 = .ok (.iconst 0, 1) := by decide +kernel
theorem d_LW_day_267 : decode (mC m_LW_day) 267 = .ok (.istore 8, 2) := by decide +kernel
theorem d_LW_day_269 : decode (mC m_LW_day) 269 = .ok (.aload 6, 2) := by decide +kernel
theorem d_LW_day_271 : decode (mC m_LW_day) 271 = .ok (.getfield 157, 3) := by decide +kernel
theorem d_LW_day_274 : decode (mC m_LW_day) 274 = .ok (.ifCond .eq 58, 3) := by decide +kernel
theorem d_LW_day_277 : decode (mC m_LW_day) 277 = .ok (.aload 6, 2) := by decide +kernel
theorem d_LW_day_279 : decode (mC m_LW_day) 279 = .ok (.getfield 87, 3) := by decide +kernel
theorem d_LW_day_282 : decode (mC m_LW_day) 282 = .ok (.ifCond .le 50, 3) := by decide +kernel
theorem d_LW_day_285 : decode (mC m_LW_day) 285 = .ok (.aload 6, 2) := by decide +kernel
theorem d_LW_day_287 : decode (mC m_LW_day) 287 = .ok (.aload 6, 2) := by decide +kernel
theorem d_LW_day_289 : decode (mC m_LW_day) 289 = .ok (.getfield 84, 3) := by decide +kernel
theorem d_LW_day_292 : decode (mC m_LW_day) 292 = .ok (.invokestatic 114, 3) := by decide +kernel
theorem d_LW_day_295 : decode (mC m_LW_day) 295 = .ok (.iload 8, 2) := by decide +kernel
theorem d_LW_day_297 : decode (mC m_LW_day) 297 = .ok (.ifCond .eq 11, 3) := by decide +kernel
theorem d_LW_day_300 : decode (mC m_LW_day) 300 = .ok (.aload 6, 2) := by decide +kernel
theorem d_LW_day_302 : decode (mC m_LW_day) 302 = .ok (.getfield 90, 3) := by decide +kernel
theorem d_LW_day_305 : decode (mC m_LW_day) 305 = .ok (.goto 4, 3) := by decide +kernel
theorem d_LW_day_308 : decode (mC m_LW_day) 308 = .ok (.iconst 0, 1) := by decide +kernel
theorem d_LW_day_309 : decode (mC m_LW_day) 309 = .ok (.iadd, 1) := by decide +kernel
theorem d_LW_day_310 : decode (mC m_LW_day) 310 = .ok (.aload 6, 2) := by decide +kernel
theorem d_LW_day_312 : decode (mC m_LW_day) 312 = .ok (.getfield 84, 3) := by decide +kernel
theorem d_LW_day_315 : decode (mC m_LW_day) 315 = .ok (.bipush 20, 2) := by decide +kernel
theorem d_LW_day_317 : decode (mC m_LW_day) 317 = .ok (.idiv, 1) := by decide +kernel
theorem d_LW_day_318 : decode (mC m_LW_day) 318 = .ok (.if_icmp .le 14, 3) := by decide +kernel
theorem d_LW_day_321 : decode (mC m_LW_day) 321 = .ok (.aload 6, 2) := by decide +kernel
theorem d_LW_day_323 : decode (mC m_LW_day) 323 = .ok (.dup, 1) := by decide +kernel
theorem d_LW_day_324 : decode (mC m_LW_day) 324 = .ok (.getfield 144, 3) := by decide +kernel
theorem d_LW_day_327 : decode (mC m_LW_day) 327 = .ok (.iconst 1, 1) := by decide +kernel
theorem d_LW_day_328 : decode (mC m_LW_day) 328 = .ok (.iadd, 1) := by decide +kernel
theorem d_LW_day_329 : decode (mC m_LW_day) 329 = .ok (.putfield 144, 3) := by decide +kernel
theorem d_LW_day_332 : decode (mC m_LW_day) 332 = .ok (.iinc 5 1, 3) := by decide +kernel
theorem d_LW_day_335 : decode (mC m_LW_day) 335 = .ok (.goto (-172), 3) := by decide +kernel
theorem d_LW_day_338 : decode (mC m_LW_day) 338 = .ok (.iconst 0, 1) := by decide +kernel
theorem d_LW_day_339 : decode (mC m_LW_day) 339 = .ok (.istore 5, 2) := by decide +kernel
theorem d_LW_day_341 : decode (mC m_LW_day) 341 = .ok (.iconst 0, 1) := by decide +kernel
theorem d_LW_day_342 : decode (mC m_LW_day) 342 = .ok (.istore 6, 2) := by decide +kernel
theorem d_LW_day_344 : decode (mC m_LW_day) 344 = .ok (.iload 6, 2) := by decide +kernel
theorem d_LW_day_346 : decode (mC m_LW_day) 346 = .ok (.aload_n 1, 1) := by decide +kernel
theorem d_LW_day_347 : decode (mC m_LW_day) 347 = .ok (.getfield 30, 3) := by decide +kernel
theorem d_LW_day_350 : decode (mC m_LW_day) 350 = .ok (.iconst 5, 1) := by decide +kernel
theorem d_LW_day_351 : decode (mC m_LW_day) 351 = .ok (.iaload, 1) := by decide +kernel
theorem d_LW_day_352 : decode (mC m_LW_day) 352 = .ok (.if_icmp .ge 52, 3) := by decide +kernel
theorem d_LW_day_355 : decode (mC m_LW_day) 355 = .ok (.aload_n 1, 1) := by decide +kernel
theorem d_LW_day_356 : decode (mC m_LW_day) 356 = .ok (.invokestatic 186, 3) := by decide +kernel
theorem d_LW_day_359 : decode (mC m_LW_day) 359 = .ok (.istore 7, 2) := by decide +kernel
theorem d_LW_day_361 : decode (mC m_LW_day) 361 = .ok (.iload 6, 2) := by decide +kernel
theorem d_LW_day_363 : decode (mC m_LW_day) 363 = .ok (.ifCond .ne 12, 3) := by decide +kernel
theorem d_LW_day_366 : decode (mC m_LW_day) 366 = .ok (.iload 7, 2) := by decide +kernel
theorem d_LW_day_368 : decode (mC m_LW_day) 368 = .ok (.iload 4, 2) := by decide +kernel
theorem d_LW_day_370 : decode (mC m_LW_day) 370 = .ok (.if_icmp .eq 5, 3) := by decide +kernel
theorem d_LW_day_373 : decode (mC m_LW_day) 373 = .ok (.iconst 0, 1) := by decide +kernel
theorem d_LW_day_374 : decode (mC m_LW_day) 374 = .ok (.ireturn, 1) := by decide +kernel
theorem d_LW_day_375 : decode (mC m_LW_day) 375 = .ok (.iload 7, 2) := by decide +kernel
theorem d_LW_day_377 : decode (mC m_LW_day) 377 = .ok (.ifCond .ge 6, 3) := by decide +kernel
theorem d_LW_day_380 : decode (mC m_LW_day) 380 = .ok (.goto 18, 3) := by decide +kernel
theorem d_LW_day_383 : decode (mC m_LW_day) 383 = .ok (.aload_n 1, 1) := by decide +kernel
theorem d_LW_day_384 : decode (mC m_LW_day) 384 = .ok (.aload_n 1, 1) := by decide +kernel
theorem d_LW_day_385 : decode (mC m_LW_day) 385 = .ok (.getfield 45, 3) := by decide +kernel
theorem d_LW_day_388 : decode (mC m_LW_day) 388 = .ok (.iload 7, 2) := by decide +kernel
theorem d_LW_day_390 : decode (mC m_LW_day) 390 = .ok (.aaload, 1) := by decide +kernel
theorem d_LW_day_391 : decode (mC m_LW_day) 391 = .ok (.invokestatic 190, 3) := by decide +kernel
theorem d_LW_day_394 : decode (mC m_LW_day) 394 = .ok (.pop, 1) := by decide +kernel
theorem d_LW_day_395 : decode (mC m_LW_day) 395 = .ok (.iinc 5 1, 3) := by decide +kernel
theorem d_LW_day_398 : decode (mC m_LW_day) 398 = .ok (.iinc 6 1, 3) := by decide +kernel
theorem d_LW_day_401 : decode (mC m_LW_day) 401 = .ok (.goto (-57), 3) := by decide +kernel
theorem d_LW_day_404 : decode (mC m_LW_day) 404 = .ok (.aload_n 1, 1) := by decide +kernel
theorem d_LW_day_405 : decode (mC m_LW_day) 405 = .ok (.getfield 30, 3) := by decide +kernel
theorem d_LW_day_408 : decode (mC m_LW_day) 408 = .ok (.iconst 5, 1) := by decide +kernel
theorem d_LW_day_409 : decode (mC m_LW_day) 409 = .ok (.iaload, 1) := by decide +kernel
theorem d_LW_day_410 : decode (mC m_LW_day) 410 = .ok (.ifCond .gt 9, 3) := by decide +kernel
theorem d_LW_day_413 : decode (mC m_LW_day) 413 = .ok (.iload 4, 2) := by decide +kernel
theorem d_LW_day_415 : decode (mC m_LW_day) 415 = .ok (.iconst (-1), 1) := by decide +kernel
theorem d_LW_day_416 : decode (mC m_LW_day) 416 = .ok (.if_icmp .ne 25, 3) := by decide +kernel
theorem d_LW_day_419 : decode (mC m_LW_day) 419 = .ok (.aload_n 0, 1) := by decide +kernel
theorem d_LW_day_420 : decode (mC m_LW_day) 420 = .ok (.iconst 1, 1) := by decide +kernel
theorem d_LW_day_421 : decode (mC m_LW_day) 421 = .ok (.invokevirtual 193, 3) := by decide +kernel
theorem d_LW_day_424 : decode (mC m_LW_day) 424 = .ok (.iload 5, 2) := by decide +kernel
theorem d_LW_day_426 : decode (mC m_LW_day) 426 = .ok (.if_icmp .ne 15, 3) := by decide +kernel
theorem d_LW_day_429 : decode (mC m_LW_day) 429 = .ok (.aload_n 0, 1) := by decide +kernel
theorem d_LW_day_430 : decode (mC m_LW_day) 430 = .ok (.aload_n 1, 1) := by decide +kernel
theorem d_LW_day_431 : decode (mC m_LW_day) 431 = .ok (.invokestatic 196, 3) := by decide +kernel
theorem d_LW_day_434 : decode (mC m_LW_day) 434 = .ok (.ifCond .eq 7, 3) := by decide +kernel
theorem d_LW_day_437 : decode (mC m_LW_day) 437 = .ok (.iconst 1, 1) := by decide +kernel
theorem d_LW_day_438 : decode (mC m_LW_day) 438 = .ok (.goto 4, 3) := by decide +kernel
theorem d_LW_day_441 : decode (mC m_LW_day) 441 = .ok (.iconst 0, 1) := by decide +kernel
theorem d_LW_day_442 : decode (mC m_LW_day) 442 = .ok (.ireturn, 1) := by decide +kernel
theorem d_LW_same_0 : decode (mC m_LW_same) 0 = .ok (.aload_n 0, 1) := by decide +kernel
theorem d_LW_same_1 : decode (mC m_LW_same) 1 = .ok (.invokevirtual 108, 3) := by decide +kernel
theorem d_LW_same_4 : decode (mC m_LW_same) 4 = .ok (.aload_n 1, 1) := by decide +kernel
theorem d_LW_same_5 : decode (mC m_LW_same) 5 = .ok (.getfield 30, 3) := by decide +kernel
theorem d_LW_same_8 : decode (mC m_LW_same) 8 = .ok (.bipush 7, 2) := by decide +kernel
theorem d_LW_same_10 : decode (mC m_LW_same) 10 = .ok (.iaload, 1) := by decide +kernel
theorem d_LW_same_11 : decode (mC m_LW_same) 11 = .ok (.if_icmp .ne 71, 3) := by decide +kernel
theorem d_LW_same_14 : decode (mC m_LW_same) 14 = .ok (.aload_n 0, 1) := by decide +kernel
theorem d_LW_same_15 : decode (mC m_LW_same) 15 = .ok (.invokevirtual 200, 3) := by decide +kernel
theorem d_LW_same_18 : decode (mC m_LW_same) 18 = .ok (.aload_n 1, 1) := by decide +kernel
theorem d_LW_same_19 : decode (mC m_LW_same) 19 = .ok (.getfield 30, 3) := by decide +kernel
theorem d_LW_same_22 : decode (mC m_LW_same) 22 = .ok (.bipush 6, 2) := by decide +kernel
theorem d_LW_same_24 : decode (mC m_LW_same) 24 = .ok (.iaload, 1) := by decide +kernel
theorem d_LW_same_25 : decode (mC m_LW_same) 25 = .ok (.if_icmp .ne 57, 3) := by decide +kernel
theorem d_LW_same_28 : decode (mC m_LW_same) 28 = .ok (.aload_n 0, 1) := by decide +kernel
theorem d_LW_same_29 : decode (mC m_LW_same) 29 = .ok (.invokevirtual 203, 3) := by decide +kernel
theorem d_LW_same_32 : decode (mC m_LW_same) 32 = .ok (.aload_n 1, 1) := by decide +kernel
theorem d_LW_same_33 : decode (mC m_LW_same) 33 = .ok (.getfield 30, 3) := by decide +kernel
theorem d_LW_same_36 : decode (mC m_LW_same) 36 = .ok (.bipush 8, 2) := by decide +kernel
theorem d_LW_same_38 : decode (mC m_LW_same) 38 = .ok (.iaload, 1) := by decide +kernel
theorem d_LW_same_39 : decode (mC m_LW_same) 39 = .ok (.if_icmp .ne 43, 3) := by decide +kernel
theorem d_LW_same_42 : decode (mC m_LW_same) 42 = .ok (.aload_n 0, 1) := by decide +kernel
theorem d_LW_same_43 : decode (mC m_LW_same) 43 = .ok (.invokevirtual 206, 3) := by decide +kernel
theorem d_LW_same_46 : decode (mC m_LW_same) 46 = .ok (.aload_n 1, 1) := by decide +kernel
theorem d_LW_same_47 : decode (mC m_LW_same) 47 = .ok (.getfield 30, 3) := by decide +kernel
theorem d_LW_same_50 : decode (mC m_LW_same) 50 = .ok (.bipush 9, 2) := by decide +kernel
theorem d_LW_same_52 : decode (mC m_LW_same) 52 = .ok (.iaload, 1) := by decide +kernel
theorem d_LW_same_53 : decode (mC m_LW_same) 53 = .ok (.if_icmp .ne 29, 3) := by decide +kernel
theorem d_LW_same_56 : decode (mC m_LW_same) 56 = .ok (.aload_n 0, 1) := by decide +kernel
theorem d_LW_same_57 : decode (mC m_LW_same) 57 = .ok (.invokevirtual 209, 3) := by decide +kernel
theorem d_LW_same_60 : decode (mC m_LW_same) 60 = .ok (.aload_n 1, 1) := by decide +kernel
theorem d_LW_same_61 : decode (mC m_LW_same) 61 = .ok (.getfield 30, 3) := by decide +kernel
theorem d_LW_same_64 : decode (mC m_LW_same) 64 = .ok (.iconst 2, 1) := by decide +kernel
theorem d_LW_same_65 : decode (mC m_LW_same) 65 = .ok (.iaload, 1) := by decide +kernel
theorem d_LW_same_66 : decode (mC m_LW_same) 66 = .ok (.if_icmp .ne 16, 3) := by decide +kernel
theorem d_LW_same_69 : decode (mC m_LW_same) 69 = .ok (.aload_n 0, 1) := by decide +kernel
theorem d_LW_same_70 : decode (mC m_LW_same) 70 = .ok (.invokevirtual 212, 3) := by decide +kernel
theorem d_LW_same_73 : decode (mC m_LW_same) 73 = .ok (.aload_n 1, 1) := by decide +kernel
theorem d_LW_same_74 : decode (mC m_LW_same) 74 = .ok (.getfield 30, 3) := by decide +kernel
theorem d_LW_same_77 : decode (mC m_LW_same) 77 = .ok (.iconst 5, 1) := by decide +kernel
theorem d_LW_same_78 : decode (mC m_LW_same) 78 = .ok (.iaload, 1) := by decide +kernel
theorem d_LW_same_79 : decode (mC m_LW_same) 79 = .ok (.if_icmp .eq 5, 3) := by decide +kernel
theorem d_LW_same_82 : decode (mC m_LW_same) 82 = .ok (.iconst 0, 1) := by decide +kernel
theorem d_LW_same_83 : decode (mC m_LW_same) 83 = .ok (.ireturn, 1) := by decide +kernel
theorem d_LW_same_84 : decode (mC m_LW_same) 84 = .ok (.iconst 0, 1) := by decide +kernel
theorem d_LW_same_85 : decode (mC m_LW_same) 85 = .ok (.istore_n 2, 1) := by decide +kernel
theorem d_LW_same_86 : decode (mC m_LW_same) 86 = .ok (.iload_n 2, 1) := by decide +kernel
theorem d_LW_same_87 : decode (mC m_LW_same) 87 = .ok (.aload_n 1, 1) := by decide +kernel
theorem d_LW_same_88 : decode (mC m_LW_same) 88 = .ok (.getfield 45, 3) := by decide +kernel
theorem d_LW_same_91 : decode (mC m_LW_same) 91 = .ok (.arraylength, 1) := by decide +kernel
theorem d_LW_same_92 : decode (mC m_LW_same) 92 = .ok (.if_icmp .ge 150, 3) := by decide +kernel
theorem d_LW_same_95 : decode (mC m_LW_same) 95 = .ok (.aload_n 1, 1) := by decide +kernel
theorem d_LW_same_96 : decode (mC m_LW_same) 96 = .ok (.getfield 45, 3) := by decide +kernel
theorem d_LW_same_99 : decode (mC m_LW_same) 99 = .ok (.iload_n 2, 1) := by decide +kernel
theorem d_LW_same_100 : decode (mC m_LW_same) 100 = .ok (.aaload, 1) := by decide +kernel
theorem d_LW_same_101 : decode (mC m_LW_same) 101 = .ok (.astore_n 3, 1) := by decide +kernel
theorem d_LW_same_102 : decode (mC m_LW_same) 102 = .ok (.aload_n 0, 1) := by decide +kernel
theorem d_LW_same_103 : decode (mC m_LW_same) 103 = .ok (.iload_n 2, 1) := by decide +kernel
theorem d_LW_same_104 : decode (mC m_LW_same) 104 = .ok (.invokevirtual 215, 3) := by decide +kernel
theorem d_LW_same_107 : decode (mC m_LW_same) 107 = .ok (.aload_n 3, 1) := by decide +kernel
theorem d_LW_same_108 : decode (mC m_LW_same) 108 = .ok (.getfield 71, 3) := by decide +kernel
theorem d_LW_same_111 : decode (mC m_LW_same) 111 = .ok (.if_icmp .ne 123, 3) := by decide +kernel
theorem d_LW_same_114 : decode (mC m_LW_same) 114 = .ok (.aload_n 0, 1) := by decide +kernel
theorem d_LW_same_115 : decode (mC m_LW_same) 115 = .ok (.iload_n 2, 1) := by decide +kernel
theorem d_LW_same_116 : decode (mC m_LW_same) 116 = .ok (.invokevirtual 217, 3) := by decide +kernel
theorem d_LW_same_119 : decode (mC m_LW_same) 119 = .ok (.aload_n 3, 1) := by decide +kernel
theorem d_LW_same_120 : decode (mC m_LW_same) 120 = .ok (.getfield 75, 3) := by decide +kernel
theorem d_LW_same_123 : decode (mC m_LW_same) 123 = .ok (.if_icmp .ne 111, 3) := by decide +kernel
theorem d_LW_same_126 : decode (mC m_LW_same) 126 = .ok (.aload_n 0, 1) := by decide +kernel
theorem d_LW_same_127 : decode (mC m_LW_same) 127 = .ok (.iload_n 2, 1) := by decide +kernel
theorem d_LW_same_128 : decode (mC m_LW_same) 128 = .ok (.invokevirtual 219, 3) := by decide +kernel
theorem d_LW_same_131 : decode (mC m_LW_same) 131 = .ok (.aload_n 3, 1) := by decide +kernel
theorem d_LW_same_132 : decode (mC m_LW_same) 132 = .ok (.getfield 78, 3) := by decide +kernel
theorem d_LW_same_135 : decode (mC m_LW_same) 135 = .ok (.if_icmp .ne 99, 3) := by decide +kernel
theorem d_LW_same_138 : decode (mC m_LW_same) 138 = .ok (.aload_n 0, 1) := by decide +kernel
theorem d_LW_same_139 : decode (mC m_LW_same) 139 = .ok (.iload_n 2, 1) := by decide +kernel
theorem d_LW_same_140 : decode (mC m_LW_same) 140 = .ok (.invokevirtual 221, 3) := by decide +kernel
theorem d_LW_same_143 : decode (mC m_LW_same) 143 = .ok (.aload_n 3, 1) := by decide +kernel
theorem d_LW_same_144 : decode (mC m_LW_same) 144 = .ok (.getfield 90, 3) := by decide +kernel
theorem d_LW_same_147 : decode (mC m_LW_same) 147 = .ok (.if_icmp .ne 87, 3) := by decide +kernel
theorem d_LW_same_150 : decode (mC m_LW_same) 150 = .ok (.aload_n 0, 1) := by decide +kernel
theorem d_LW_same_151 : decode (mC m_LW_same) 151 = .ok (.iload_n 2, 1) := by decide +kernel
theorem d_LW_same_152 : decode (mC m_LW_same) 152 = .ok (.invokevirtual 223, 3) := by decide +kernel
theorem d_LW_same_155 : decode (mC m_LW_same) 155 = .ok (.aload_n 3, 1) := by decide +kernel
theorem d_LW_same_156 : decode (mC m_LW_same) 156 = .ok (.getfield 144, 3) := by decide +kernel
theorem d_LW_same_159 : decode (mC m_LW_same) 159 = .ok (.if_icmp .ne 75, 3) := by decide +kernel
theorem d_LW_same_162 : decode (mC m_LW_same) 162 = .ok (.aload_n 0, 1) := by decide +kernel
theorem d_LW_same_163 : decode (mC m_LW_same) 163 = .ok (.iload_n 2, 1) := by decide +kernel
theorem d_LW_same_164 : decode (mC m_LW_same) 164 = .ok (.invokevirtual 225, 3) := by decide +kernel
theorem d_LW_same_167 : decode (mC m_LW_same) 167 = .ok (.aload_n 3, 1) := by decide +kernel
theorem d_LW_same_168 : decode (mC m_LW_same) 168 = .ok (.getfield 154, 3) := by decide +kernel
theorem d_LW_same_171 : decode (mC m_LW_same) 171 = .ok (.if_icmp .ne 63, 3) := by decide +kernel
theorem d_LW_same_174 : decode (mC m_LW_same) 174 = .ok (.aload_n 0, 1) := by decide +kernel
theorem d_LW_same_175 : decode (mC m_LW_same) 175 = .ok (.iload_n 2, 1) := by decide +kernel
theorem d_LW_same_176 : decode (mC m_LW_same) 176 = .ok (.invokevirtual 227, 3) := by decide +kernel
theorem d_LW_same_179 : decode (mC m_LW_same) 179 = .ok (.aload_n 3, 1) := by decide +kernel
theorem d_LW_same_180 : decode (mC m_LW_same) 180 = .ok (.getfield 141, 3) := by decide +kernel
theorem d_LW_same_183 : decode (mC m_LW_same) 183 = .ok (.if_icmp .ne 51, 3) := by decide +kernel
theorem d_LW_same_186 : decode (mC m_LW_same) 186 = .ok (.aload_n 0, 1) := by decide +kernel
theorem d_LW_same_187 : decode (mC m_LW_same) 187 = .ok (.iload_n 2, 1) := by decide +kernel
theorem d_LW_same_188 : decode (mC m_LW_same) 188 = .ok (.invokevirtual 230, 3) := by decide +kernel
theorem d_LW_same_191 : decode (mC m_LW_same) 191 = .ok (.aload_n 3, 1) := by decide +kernel
theorem d_LW_same_192 : decode (mC m_LW_same) 192 = .ok (.getfield 135, 3) := by decide +kernel
theorem d_LW_same_195 : decode (mC m_LW_same) 195 = .ok (.if_icmp .ne 39, 3) := by decide +kernel
theorem d_LW_same_198 : decode (mC m_LW_same) 198 = .ok (.aload_n 0, 1) := by decide +kernel
theorem d_LW_same_199 : decode (mC m_LW_same) 199 = .ok (.iload_n 2, 1) := by decide +kernel
theorem d_LW_same_200 : decode (mC m_LW_same) 200 = .ok (.invokevirtual 233, 3) := by decide +kernel
theorem d_LW_same_203 : decode (mC m_LW_same) 203 = .ok (.aload_n 3, 1) := by decide +kernel
theorem d_LW_same_204 : decode (mC m_LW_same) 204 = .ok (.getfield 157, 3) := by decide +kernel
theorem d_LW_same_207 : decode (mC m_LW_same) 207 = .ok (.if_icmp .ne 27, 3) := by decide +kernel
theorem d_LW_same_210 : decode (mC m_LW_same) 210 = .ok (.aload_n 0, 1) := by decide +kernel
theorem d_LW_same_211 : decode (mC m_LW_same) 211 = .ok (.iload_n 2, 1) := by decide +kernel
theorem d_LW_same_212 : decode (mC m_LW_same) 212 = .ok (.invokevirtual 236, 3) := by decide +kernel
theorem d_LW_same_215 : decode (mC m_LW_same) 215 = .ok (.aload_n 3, 1) := by decide +kernel
theorem d_LW_same_216 : decode (mC m_LW_same) 216 = .ok (.getfield 151, 3) := by decide +kernel
theorem d_LW_same_219 : decode (mC m_LW_same) 219 = .ok (.if_icmp .ne 15, 3) := by decide +kernel
theorem d_LW_same_222 : decode (mC m_LW_same) 222 = .ok (.aload_n 0, 1) := by decide +kernel
theorem d_LW_same_223 : decode (mC m_LW_same) 223 = .ok (.iload_n 2, 1) := by decide +kernel
theorem d_LW_same_224 : decode (mC m_LW_same) 224 = .ok (.invokevirtual 239, 3) := by decide +kernel
theorem d_LW_same_227 : decode (mC m_LW_same) 227 = .ok (.aload_n 3, 1) := by decide +kernel
theorem d_LW_same_228 : decode (mC m_LW_same) 228 = .ok (.getfield 183, 3) := by decide +kernel
theorem d_LW_same_231 : decode (mC m_LW_same) 231 = .ok (.if_icmp .eq 5, 3) := by decide +kernel
theorem d_LW_same_234 : decode (mC m_LW_same) 234 = .ok (.iconst 0, 1) := by decide +kernel
theorem d_LW_same_235 : decode (mC m_LW_same) 235 = .ok (.ireturn, 1) := by decide +kernel
theorem d_LW_same_236 : decode (mC m_LW_same) 236 = .ok (.iinc 2 1, 3) := by decide +kernel
theorem d_LW_same_239 : decode (mC m_LW_same) 239 = .ok (.goto (-153), 3) := by decide +kernel
theorem d_LW_same_242 : decode (mC m_LW_same) 242 = .ok (.aload_n 0, 1) := by decide +kernel
theorem d_LW_same_243 : decode (mC m_LW_same) 243 = .ok (.invokevirtual 242, 3) := by decide +kernel
theorem d_LW_same_246 : decode (mC m_LW_same) 246 = .ok (.ifCond .ne 7, 3) := by decide +kernel
theorem d_LW_same_249 : decode (mC m_LW_same) 249 = .ok (.iconst 1, 1) := by decide +kernel
theorem d_LW_same_250 : decode (mC m_LW_same) 250 = .ok (.goto 4, 3) := by decide +kernel
theorem d_LW_same_253 : decode (mC m_LW_same) 253 = .ok (.iconst 0, 1) := by decide +kernel
theorem d_LW_same_254 : decode (mC m_LW_same) 254 = .ok (.ireturn, 1) := by decide +kernel
