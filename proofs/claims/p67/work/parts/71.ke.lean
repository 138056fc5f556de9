/-! THE LAW: its code -/
theorem d_LW_seen_0 : decode (mC m_LW_seen) 0 = .ok (.iconst 0, 1) := by decide +kernel
theorem d_LW_seen_1 : decode (mC m_LW_seen) 1 = .ok (.istore_n 2, 1) := by decide +kernel
theorem d_LW_seen_2 : decode (mC m_LW_seen) 2 = .ok (.iconst 0, 1) := by decide +kernel
theorem d_LW_seen_3 : decode (mC m_LW_seen) 3 = .ok (.istore_n 3, 1) := by decide +kernel
theorem d_LW_seen_4 : decode (mC m_LW_seen) 4 = .ok (.iconst 0, 1) := by decide +kernel
theorem d_LW_seen_5 : decode (mC m_LW_seen) 5 = .ok (.istore 4, 2) := by decide +kernel
theorem d_LW_seen_7 : decode (mC m_LW_seen) 7 = .ok (.aload_n 1, 1) := by decide +kernel
theorem d_LW_seen_8 : decode (mC m_LW_seen) 8 = .ok (.getfield 45, 3) := by decide +kernel
theorem d_LW_seen_11 : decode (mC m_LW_seen) 11 = .ok (.arraylength, 1) := by decide +kernel
theorem d_LW_seen_12 : decode (mC m_LW_seen) 12 = .ok (.istore 5, 2) := by decide +kernel
theorem d_LW_seen_14 : decode (mC m_LW_seen) 14 = .ok (.iconst 0, 1) := by decide +kernel
theorem d_LW_seen_15 : decode (mC m_LW_seen) 15 = .ok (.istore 6, 2) := by decide +kernel
theorem d_LW_seen_17 : decode (mC m_LW_seen) 17 = .ok (.iload 6, 2) := by decide +kernel
theorem d_LW_seen_19 : decode (mC m_LW_seen) 19 = .ok (.iload 5, 2) := by decide +kernel
theorem d_LW_seen_21 : decode (mC m_LW_seen) 21 = .ok (.if_icmp .ge 338, 3) := by decide +kernel
theorem d_LW_seen_24 : decode (mC m_LW_seen) 24 = .ok (.aload_n 1, 1) := by decide +kernel
theorem d_LW_seen_25 : decode (mC m_LW_seen) 25 = .ok (.getfield 45, 3) := by decide +kernel
theorem d_LW_seen_28 : decode (mC m_LW_seen) 28 = .ok (.iload 6, 2) := by decide +kernel
theorem d_LW_seen_30 : decode (mC m_LW_seen) 30 = .ok (.aaload, 1) := by decide +kernel
theorem d_LW_seen_31 : decode (mC m_LW_seen) 31 = .ok (.astore 7, 2) := by decide +kernel
theorem d_LW_seen_33 : decode (mC m_LW_seen) 33 = .ok (.iconst 0, 1) := by decide +kernel
theorem d_LW_seen_34 : decode (mC m_LW_seen) 34 = .ok (.istore 8, 2) := by decide +kernel
theorem d_LW_seen_36 : decode (mC m_LW_seen) 36 = .ok (.iconst 0, 1) := by decide +kernel
theorem d_LW_seen_37 : decode (mC m_LW_seen) 37 = .ok (.istore 9, 2) := by decide +kernel
theorem d_LW_seen_39 : decode (mC m_LW_seen) 39 = .ok (.iload 9, 2) := by decide +kernel
theorem d_LW_seen_41 : decode (mC m_LW_seen) 41 = .ok (.aload_n 1, 1) := by decide +kernel
theorem d_LW_seen_42 : decode (mC m_LW_seen) 42 = .ok (.getfield 40, 3) := by decide +kernel
theorem d_LW_seen_45 : decode (mC m_LW_seen) 45 = .ok (.arraylength, 1) := by decide +kernel
theorem d_LW_seen_46 : decode (mC m_LW_seen) 46 = .ok (.if_icmp .ge 128, 3) := by decide +kernel
theorem d_LW_seen_49 : decode (mC m_LW_seen) 49 = .ok (.aload_n 1, 1) := by decide +kernel
theorem d_LW_seen_50 : decode (mC m_LW_seen) 50 = .ok (.getfield 40, 3) := by decide +kernel
theorem d_LW_seen_53 : decode (mC m_LW_seen) 53 = .ok (.iload 9, 2) := by decide +kernel
theorem d_LW_seen_55 : decode (mC m_LW_seen) 55 = .ok (.iaload, 1) := by decide +kernel
theorem d_LW_seen_56 : decode (mC m_LW_seen) 56 = .ok (.istore 10, 2) := by decide +kernel
theorem d_LW_seen_58 : decode (mC m_LW_seen) 58 = .ok (.aload_n 0, 1) := by decide +kernel
theorem d_LW_seen_59 : decode (mC m_LW_seen) 59 = .ok (.iload 6, 2) := by decide +kernel
theorem d_LW_seen_61 : decode (mC m_LW_seen) 61 = .ok (.iload 10, 2) := by decide +kernel
theorem d_LW_seen_63 : decode (mC m_LW_seen) 63 = .ok (.invokevirtual 291, 3) := by decide +kernel
theorem d_LW_seen_66 : decode (mC m_LW_seen) 66 = .ok (.iload 10, 2) := by decide +kernel
theorem d_LW_seen_68 : decode (mC m_LW_seen) 68 = .ok (.aload 7, 2) := by decide +kernel
theorem d_LW_seen_70 : decode (mC m_LW_seen) 70 = .ok (.iload 10, 2) := by decide +kernel
theorem d_LW_seen_72 : decode (mC m_LW_seen) 72 = .ok (.invokestatic 114, 3) := by decide +kernel
theorem d_LW_seen_75 : decode (mC m_LW_seen) 75 = .ok (.iadd, 1) := by decide +kernel
theorem d_LW_seen_76 : decode (mC m_LW_seen) 76 = .ok (.if_icmp .ne 62, 3) := by decide +kernel
theorem d_LW_seen_79 : decode (mC m_LW_seen) 79 = .ok (.aload_n 0, 1) := by decide +kernel
theorem d_LW_seen_80 : decode (mC m_LW_seen) 80 = .ok (.iload 6, 2) := by decide +kernel
theorem d_LW_seen_82 : decode (mC m_LW_seen) 82 = .ok (.iload 10, 2) := by decide +kernel
theorem d_LW_seen_84 : decode (mC m_LW_seen) 84 = .ok (.invokevirtual 294, 3) := by decide +kernel
theorem d_LW_seen_87 : decode (mC m_LW_seen) 87 = .ok (.aload_n 1, 1) := by decide +kernel
theorem d_LW_seen_88 : decode (mC m_LW_seen) 88 = .ok (.aload 7, 2) := by decide +kernel
theorem d_LW_seen_90 : decode (mC m_LW_seen) 90 = .ok (.iload 10, 2) := by decide +kernel
theorem d_LW_seen_92 : decode (mC m_LW_seen) 92 = .ok (.invokestatic 127, 3) := by decide +kernel
theorem d_LW_seen_95 : decode (mC m_LW_seen) 95 = .ok (.if_icmp .ne 43, 3) := by decide +kernel
theorem d_LW_seen_98 : decode (mC m_LW_seen) 98 = .ok (.aload_n 0, 1) := by decide +kernel
theorem d_LW_seen_99 : decode (mC m_LW_seen) 99 = .ok (.iload 9, 2) := by decide +kernel
theorem d_LW_seen_101 : decode (mC m_LW_seen) 101 = .ok (.invokevirtual 296, 3) := by decide +kernel
theorem d_LW_seen_104 : decode (mC m_LW_seen) 104 = .ok (.iload 10, 2) := by decide +kernel
theorem d_LW_seen_106 : decode (mC m_LW_seen) 106 = .ok (.if_icmp .ne 32, 3) := by decide +kernel
theorem d_LW_seen_109 : decode (mC m_LW_seen) 109 = .ok (.aload_n 0, 1) := by decide +kernel
theorem d_LW_seen_110 : decode (mC m_LW_seen) 110 = .ok (.iload 10, 2) := by decide +kernel
theorem d_LW_seen_112 : decode (mC m_LW_seen) 112 = .ok (.invokevirtual 299, 3) := by decide +kernel
theorem d_LW_seen_115 : decode (mC m_LW_seen) 115 = .ok (.aload_n 1, 1) := by decide +kernel
theorem d_LW_seen_116 : decode (mC m_LW_seen) 116 = .ok (.getfield 30, 3) := by decide +kernel
theorem d_LW_seen_119 : decode (mC m_LW_seen) 119 = .ok (.iconst 0, 1) := by decide +kernel
theorem d_LW_seen_120 : decode (mC m_LW_seen) 120 = .ok (.iaload, 1) := by decide +kernel
theorem d_LW_seen_121 : decode (mC m_LW_seen) 121 = .ok (.iload 10, 2) := by decide +kernel
theorem d_LW_seen_123 : decode (mC m_LW_seen) 123 = .ok (.aload_n 1, 1) := by decide +kernel
theorem d_LW_seen_124 : decode (mC m_LW_seen) 124 = .ok (.getfield 30, 3) := by decide +kernel
theorem d_LW_seen_127 : decode (mC m_LW_seen) 127 = .ok (.iconst 1, 1) := by decide +kernel
theorem d_LW_seen_128 : decode (mC m_LW_seen) 128 = .ok (.iaload, 1) := by decide +kernel
theorem d_LW_seen_129 : decode (mC m_LW_seen) 129 = .ok (.imul, 1) := by decide +kernel
theorem d_LW_seen_130 : decode (mC m_LW_seen) 130 = .ok (.sipush 1000, 3) := by decide +kernel
theorem d_LW_seen_133 : decode (mC m_LW_seen) 133 = .ok (.idiv, 1) := by decide +kernel
theorem d_LW_seen_134 : decode (mC m_LW_seen) 134 = .ok (.iadd, 1) := by decide +kernel
theorem d_LW_seen_135 : decode (mC m_LW_seen) 135 = .ok (.if_icmp .eq 5, 3) := by decide +kernel
theorem d_LW_seen_138 : decode (mC m_LW_seen) 138 = .ok (.iconst 0, 1) := by decide +kernel
theorem d_LW_seen_139 : decode (mC m_LW_seen) 139 = .ok (.ireturn, 1) := by decide +kernel
theorem d_LW_seen_140 : decode (mC m_LW_seen) 140 = .ok (.aload_n 1, 1) := by decide +kernel
theorem d_LW_seen_141 : decode (mC m_LW_seen) 141 = .ok (.aload 7, 2) := by decide +kernel
theorem d_LW_seen_143 : decode (mC m_LW_seen) 143 = .ok (.iload 10, 2) := by decide +kernel
theorem d_LW_seen_145 : decode (mC m_LW_seen) 145 = .ok (.invokestatic 127, 3) := by decide +kernel
theorem d_LW_seen_148 : decode (mC m_LW_seen) 148 = .ok (.aload_n 1, 1) := by decide +kernel
theorem d_LW_seen_149 : decode (mC m_LW_seen) 149 = .ok (.aload 7, 2) := by decide +kernel
theorem d_LW_seen_151 : decode (mC m_LW_seen) 151 = .ok (.aload_n 1, 1) := by decide +kernel
theorem d_LW_seen_152 : decode (mC m_LW_seen) 152 = .ok (.getfield 40, 3) := by decide +kernel
theorem d_LW_seen_155 : decode (mC m_LW_seen) 155 = .ok (.iload 8, 2) := by decide +kernel
theorem d_LW_seen_157 : decode (mC m_LW_seen) 157 = .ok (.iaload, 1) := by decide +kernel
theorem d_LW_seen_158 : decode (mC m_LW_seen) 158 = .ok (.invokestatic 127, 3) := by decide +kernel
theorem d_LW_seen_161 : decode (mC m_LW_seen) 161 = .ok (.if_icmp .le 7, 3) := by decide +kernel
theorem d_LW_seen_164 : decode (mC m_LW_seen) 164 = .ok (.iload 9, 2) := by decide +kernel
theorem d_LW_seen_166 : decode (mC m_LW_seen) 166 = .ok (.istore 8, 2) := by decide +kernel
theorem d_LW_seen_168 : decode (mC m_LW_seen) 168 = .ok (.iinc 9 1, 3) := by decide +kernel
theorem d_LW_seen_171 : decode (mC m_LW_seen) 171 = .ok (.goto (-132), 3) := by decide +kernel
theorem d_LW_seen_174 : decode (mC m_LW_seen) 174 = .ok (.aload_n 1, 1) := by decide +kernel
theorem d_LW_seen_175 : decode (mC m_LW_seen) 175 = .ok (.aload 7, 2) := by decide +kernel
theorem d_LW_seen_177 : decode (mC m_LW_seen) 177 = .ok (.invokestatic 131, 3) := by decide +kernel
theorem d_LW_seen_180 : decode (mC m_LW_seen) 180 = .ok (.istore 9, 2) := by decide +kernel
theorem d_LW_seen_182 : decode (mC m_LW_seen) 182 = .ok (.iload_n 2, 1) := by decide +kernel
theorem d_LW_seen_183 : decode (mC m_LW_seen) 183 = .ok (.iload 9, 2) := by decide +kernel
theorem d_LW_seen_185 : decode (mC m_LW_seen) 185 = .ok (.iadd, 1) := by decide +kernel
theorem d_LW_seen_186 : decode (mC m_LW_seen) 186 = .ok (.istore_n 2, 1) := by decide +kernel
theorem d_LW_seen_187 : decode (mC m_LW_seen) 187 = .ok (.iload 9, 2) := by decide +kernel
theorem d_LW_seen_189 : decode (mC m_LW_seen) 189 = .ok (.ifCond .ne 6, 3) := by decide +kernel
theorem d_LW_seen_192 : decode (mC m_LW_seen) 192 = .ok (.iinc 3 1, 3) := by decide +kernel
theorem d_LW_seen_195 : decode (mC m_LW_seen) 195 = .ok (.aload 7, 2) := by decide +kernel
theorem d_LW_seen_197 : decode (mC m_LW_seen) 197 = .ok (.getfield 151, 3) := by decide +kernel
theorem d_LW_seen_200 : decode (mC m_LW_seen) 200 = .ok (.aload_n 1, 1) := by decide +kernel
theorem d_LW_seen_201 : decode (mC m_LW_seen) 201 = .ok (.getfield 45, 3) := by decide +kernel
theorem d_LW_seen_204 : decode (mC m_LW_seen) 204 = .ok (.iload 4, 2) := by decide +kernel
theorem d_LW_seen_206 : decode (mC m_LW_seen) 206 = .ok (.aaload, 1) := by decide +kernel
theorem d_LW_seen_207 : decode (mC m_LW_seen) 207 = .ok (.getfield 151, 3) := by decide +kernel
theorem d_LW_seen_210 : decode (mC m_LW_seen) 210 = .ok (.if_icmp .le 7, 3) := by decide +kernel
theorem d_LW_seen_213 : decode (mC m_LW_seen) 213 = .ok (.iload 6, 2) := by decide +kernel
theorem d_LW_seen_215 : decode (mC m_LW_seen) 215 = .ok (.istore 4, 2) := by decide +kernel
theorem d_LW_seen_217 : decode (mC m_LW_seen) 217 = .ok (.iconst 0, 1) := by decide +kernel
theorem d_LW_seen_218 : decode (mC m_LW_seen) 218 = .ok (.istore 10, 2) := by decide +kernel
theorem d_LW_seen_220 : decode (mC m_LW_seen) 220 = .ok (.iconst 0, 1) := by decide +kernel
theorem d_LW_seen_221 : decode (mC m_LW_seen) 221 = .ok (.istore 11, 2) := by decide +kernel
theorem d_LW_seen_223 : decode (mC m_LW_seen) 223 = .ok (.iload 11, 2) := by decide +kernel
theorem d_LW_seen_225 : decode (mC m_LW_seen) 225 = .ok (.iload 5, 2) := by decide +kernel
theorem d_LW_seen_227 : decode (mC m_LW_seen) 227 = .ok (.if_icmp .ge 55, 3) := by decide +kernel
theorem d_LW_seen_230 : decode (mC m_LW_seen) 230 = .ok (.aload_n 1, 1) := by decide +kernel
theorem d_LW_seen_231 : decode (mC m_LW_seen) 231 = .ok (.getfield 45, 3) := by decide +kernel
theorem d_LW_seen_234 : decode (mC m_LW_seen) 234 = .ok (.iload 11, 2) := by decide +kernel
theorem d_LW_seen_236 : decode (mC m_LW_seen) 236 = .ok (.aaload, 1) := by decide +kernel
theorem d_LW_seen_237 : decode (mC m_LW_seen) 237 = .ok (.getfield 144, 3) := by decide +kernel
theorem d_LW_seen_240 : decode (mC m_LW_seen) 240 = .ok (.aload 7, 2) := by decide +kernel
theorem d_LW_seen_242 : decode (mC m_LW_seen) 242 = .ok (.getfield 144, 3) := by decide +kernel
theorem d_LW_seen_245 : decode (mC m_LW_seen) 245 = .ok (.if_icmp .gt 28, 3) := by decide +kernel
theorem d_LW_seen_248 : decode (mC m_LW_seen) 248 = .ok (.aload_n 1, 1) := by decide +kernel
theorem d_LW_seen_249 : decode (mC m_LW_seen) 249 = .ok (.getfield 45, 3) := by decide +kernel
theorem d_LW_seen_252 : decode (mC m_LW_seen) 252 = .ok (.iload 11, 2) := by decide +kernel
theorem d_LW_seen_254 : decode (mC m_LW_seen) 254 = .ok (.aaload, 1) := by decide +kernel
theorem d_LW_seen_255 : decode (mC m_LW_seen) 255 = .ok (.getfield 144, 3) := by decide +kernel
theorem d_LW_seen_258 : decode (mC m_LW_seen) 258 = .ok (.aload 7, 2) := by decide +kernel
theorem d_LW_seen_260 : decode (mC m_LW_seen) 260 = .ok (.getfield 144, 3) := by decide +kernel
theorem d_LW_seen_263 : decode (mC m_LW_seen) 263 = .ok (.if_icmp .ne 13, 3) := by decide +kernel
theorem d_LW_seen_266 : decode (mC m_LW_seen) 266 = .ok (.iload 11, 2) := by decide +kernel
theorem d_LW_seen_268 : decode (mC m_LW_seen) 268 = .ok (.iload 6, 2) := by decide +kernel
theorem d_LW_seen_270 : decode (mC m_LW_seen) 270 = .ok (.if_icmp .ge 6, 3) := by decide +kernel
theorem d_LW_seen_273 : decode (mC m_LW_seen) 273 = .ok (.iinc 10 1, 3) := by decide +kernel
theorem d_LW_seen_276 : decode (mC m_LW_seen) 276 = .ok (.iinc 11 1, 3) := by decide +kernel
theorem d_LW_seen_279 : decode (mC m_LW_seen) 279 = .ok (.goto (-56), 3) := by decide +kernel
theorem d_LW_seen_282 : decode (mC m_LW_seen) 282 = .ok (.aload_n 0, 1) := by decide +kernel
theorem d_LW_seen_283 : decode (mC m_LW_seen) 283 = .ok (.iload 6, 2) := by decide +kernel
theorem d_LW_seen_285 : decode (mC m_LW_seen) 285 = .ok (.invokevirtual 302, 3) := by decide +kernel
theorem d_LW_seen_288 : decode (mC m_LW_seen) 288 = .ok (.iload 9, 2) := by decide +kernel
theorem d_LW_seen_290 : decode (mC m_LW_seen) 290 = .ok (.if_icmp .ne 61, 3) := by decide +kernel
theorem d_LW_seen_293 : decode (mC m_LW_seen) 293 = .ok (.aload_n 0, 1) := by decide +kernel
theorem d_LW_seen_294 : decode (mC m_LW_seen) 294 = .ok (.iload 6, 2) := by decide +kernel
theorem d_LW_seen_296 : decode (mC m_LW_seen) 296 = .ok (.invokevirtual 273, 3) := by decide +kernel
theorem d_LW_seen_299 : decode (mC m_LW_seen) 299 = .ok (.iload 9, 2) := by decide +kernel
theorem d_LW_seen_301 : decode (mC m_LW_seen) 301 = .ok (.ifCond .ne 7, 3) := by decide +kernel
theorem d_LW_seen_304 : decode (mC m_LW_seen) 304 = .ok (.iconst 1, 1) := by decide +kernel
theorem d_LW_seen_305 : decode (mC m_LW_seen) 305 = .ok (.goto 4, 3) := by decide +kernel
theorem d_LW_seen_308 : decode (mC m_LW_seen) 308 = .ok (.iconst 0, 1) := by decide +kernel
theorem d_LW_seen_309 : decode (mC m_LW_seen) 309 = .ok (.if_icmp .ne 42, 3) := by decide +kernel
theorem d_LW_seen_312 : decode (mC m_LW_seen) 312 = .ok (.aload_n 0, 1) := by decide +kernel
theorem d_LW_seen_313 : decode (mC m_LW_seen) 313 = .ok (.iload 6, 2) := by decide +kernel
theorem d_LW_seen_315 : decode (mC m_LW_seen) 315 = .ok (.invokevirtual 305, 3) := by decide +kernel
theorem d_LW_seen_318 : decode (mC m_LW_seen) 318 = .ok (.iload 9, 2) := by decide +kernel
theorem d_LW_seen_320 : decode (mC m_LW_seen) 320 = .ok (.bipush 27, 2) := by decide +kernel
theorem d_LW_seen_322 : decode (mC m_LW_seen) 322 = .ok (.iadd, 1) := by decide +kernel
theorem d_LW_seen_323 : decode (mC m_LW_seen) 323 = .ok (.bipush 28, 2) := by decide +kernel
theorem d_LW_seen_325 : decode (mC m_LW_seen) 325 = .ok (.idiv, 1) := by decide +kernel
theorem d_LW_seen_326 : decode (mC m_LW_seen) 326 = .ok (.if_icmp .ne 25, 3) := by decide +kernel
theorem d_LW_seen_329 : decode (mC m_LW_seen) 329 = .ok (.aload_n 0, 1) := by decide +kernel
theorem d_LW_seen_330 : decode (mC m_LW_seen) 330 = .ok (.iload 6, 2) := by decide +kernel
theorem d_LW_seen_332 : decode (mC m_LW_seen) 332 = .ok (.invokevirtual 308, 3) := by decide +kernel
theorem d_LW_seen_335 : decode (mC m_LW_seen) 335 = .ok (.iload 8, 2) := by decide +kernel
theorem d_LW_seen_337 : decode (mC m_LW_seen) 337 = .ok (.if_icmp .ne 14, 3) := by decide +kernel
theorem d_LW_seen_340 : decode (mC m_LW_seen) 340 = .ok (.aload_n 0, 1) := by decide +kernel
theorem d_LW_seen_341 : decode (mC m_LW_seen) 341 = .ok (.iload 10, 2) := by decide +kernel
theorem d_LW_seen_343 : decode (mC m_LW_seen) 343 = .ok (.invokevirtual 311, 3) := by decide +kernel
theorem d_LW_seen_346 : decode (mC m_LW_seen) 346 = .ok (.iload 6, 2) := by decide +kernel
theorem d_LW_seen_348 : decode (mC m_LW_seen) 348 = .ok (.if_icmp .eq 5, 3) := by decide +kernel
theorem d_LW_seen_351 : decode (mC m_LW_seen) 351 = .ok (.iconst 0, 1) := by decide +kernel
theorem d_LW_seen_352 : decode (mC m_LW_seen) 352 = .ok (.ireturn, 1) := by decide +kernel
theorem d_LW_seen_353 : decode (mC m_LW_seen) 353 = .ok (.iinc 6 1, 3) := by decide +kernel
theorem d_LW_seen_356 : decode (mC m_LW_seen) 356 = .ok (.goto (-339), 3) := by decide +kernel
theorem d_LW_seen_359 : decode (mC m_LW_seen) 359 = .ok (.aload_n 0, 1) := by decide +kernel
theorem d_LW_seen_360 : decode (mC m_LW_seen) 360 = .ok (.iload 5, 2) := by decide +kernel
theorem d_LW_seen_362 : decode (mC m_LW_seen) 362 = .ok (.invokevirtual 311, 3) := by decide +kernel
theorem d_LW_seen_365 : decode (mC m_LW_seen) 365 = .ok (.iconst (-1), 1) := by decide +kernel
theorem d_LW_seen_366 : decode (mC m_LW_seen) 366 = .ok (.if_icmp .ne 53, 3) := by decide +kernel
theorem d_LW_seen_369 : decode (mC m_LW_seen) 369 = .ok (.aload_n 0, 1) := by decide +kernel
theorem d_LW_seen_370 : decode (mC m_LW_seen) 370 = .ok (.iconst (-1), 1) := by decide +kernel
theorem d_LW_seen_371 : decode (mC m_LW_seen) 371 = .ok (.invokevirtual 311, 3) := by decide +kernel
theorem d_LW_seen_374 : decode (mC m_LW_seen) 374 = .ok (.iconst (-1), 1) := by decide +kernel
theorem d_LW_seen_375 : decode (mC m_LW_seen) 375 = .ok (.if_icmp .ne 44, 3) := by decide +kernel
theorem d_LW_seen_378 : decode (mC m_LW_seen) 378 = .ok (.aload_n 0, 1) := by decide +kernel
theorem d_LW_seen_379 : decode (mC m_LW_seen) 379 = .ok (.invokevirtual 314, 3) := by decide +kernel
theorem d_LW_seen_382 : decode (mC m_LW_seen) 382 = .ok (.iload 4, 2) := by decide +kernel
theorem d_LW_seen_384 : decode (mC m_LW_seen) 384 = .ok (.if_icmp .ne 35, 3) := by decide +kernel
theorem d_LW_seen_387 : decode (mC m_LW_seen) 387 = .ok (.aload_n 0, 1) := by decide +kernel
theorem d_LW_seen_388 : decode (mC m_LW_seen) 388 = .ok (.invokevirtual 317, 3) := by decide +kernel
theorem d_LW_seen_391 : decode (mC m_LW_seen) 391 = .ok (.iload_n 2, 1) := by decide +kernel
theorem d_LW_seen_392 : decode (mC m_LW_seen) 392 = .ok (.i2d, 1) := by decide +kernel
theorem d_LW_seen_393 : decode (mC m_LW_seen) 393 = .ok (.iload 5, 2) := by decide +kernel
theorem d_LW_seen_395 : decode (mC m_LW_seen) 395 = .ok (.i2d, 1) := by decide +kernel
theorem d_LW_seen_396 : decode (mC m_LW_seen) 396 = .ok (.ddiv, 1) := by decide +kernel
theorem d_LW_seen_397 : decode (mC m_LW_seen) 397 = .ok (.dcmp .l, 1) := by decide +kernel
theorem d_LW_seen_398 : decode (mC m_LW_seen) 398 = .ok (.ifCond .ne 21, 3) := by decide +kernel
theorem d_LW_seen_401 : decode (mC m_LW_seen) 401 = .ok (.aload_n 0, 1) := by decide +kernel
theorem d_LW_seen_402 : decode (mC m_LW_seen) 402 = .ok (.invokevirtual 321, 3) := by decide +kernel
theorem d_LW_seen_405 : decode (mC m_LW_seen) 405 = .ok (.iload_n 3, 1) := by decide +kernel
theorem d_LW_seen_406 : decode (mC m_LW_seen) 406 = .ok (.i2f, 1) := by decide +kernel
theorem d_LW_seen_407 : decode (mC m_LW_seen) 407 = .ok (.iload 5, 2) := by decide +kernel
theorem d_LW_seen_409 : decode (mC m_LW_seen) 409 = .ok (.i2f, 1) := by decide +kernel
theorem d_LW_seen_410 : decode (mC m_LW_seen) 410 = .ok (.fdiv, 1) := by decide +kernel
theorem d_LW_seen_411 : decode (mC m_LW_seen) 411 = .ok (.fcmp .l, 1) := by decide +kernel
theorem d_LW_seen_412 : decode (mC m_LW_seen) 412 = .ok (.ifCond .ne 7, 3) := by decide +kernel
theorem d_LW_seen_415 : decode (mC m_LW_seen) 415 = .ok (.iconst 1, 1) := by decide +kernel
theorem d_LW_seen_416 : decode (mC m_LW_seen) 416 = .ok (.goto 4, 3) := by decide +kernel
theorem d_LW_seen_419 : decode (mC m_LW_seen) 419 = .ok (.iconst 0, 1) := by decide +kernel
theorem d_LW_seen_420 : decode (mC m_LW_seen) 420 = .ok (.ireturn, 1) := by decide +kernel
theorem d_LW_chosen_0 : decode (mC m_LW_chosen) 0 = .ok (.iconst (-1), 1) := by decide +kernel
theorem d_LW_chosen_1 : decode (mC m_LW_chosen) 1 = .ok (.istore_n 1, 1) := by decide +kernel
theorem d_LW_chosen_2 : decode (mC m_LW_chosen) 2 = .ok (.iconst 0, 1) := by decide +kernel
theorem d_LW_chosen_3 : decode (mC m_LW_chosen) 3 = .ok (.istore_n 2, 1) := by decide +kernel
theorem d_LW_chosen_4 : decode (mC m_LW_chosen) 4 = .ok (.aload_n 0, 1) := by decide +kernel
theorem d_LW_chosen_5 : decode (mC m_LW_chosen) 5 = .ok (.getfield 45, 3) := by decide +kernel
theorem d_LW_chosen_8 : decode (mC m_LW_chosen) 8 = .ok (.arraylength, 1) := by decide +kernel
theorem d_LW_chosen_9 : decode (mC m_LW_chosen) 9 = .ok (.istore_n 3, 1) := by decide +kernel
theorem d_LW_chosen_10 : decode (mC m_LW_chosen) 10 = .ok (.iconst 0, 1) := by decide +kernel
theorem d_LW_chosen_11 : decode (mC m_LW_chosen) 11 = .ok (.istore 4, 2) := by decide +kernel
theorem d_LW_chosen_13 : decode (mC m_LW_chosen) 13 = .ok (.iload 4, 2) := by decide +kernel
theorem d_LW_chosen_15 : decode (mC m_LW_chosen) 15 = .ok (.iload_n 3, 1) := by decide +kernel
theorem d_LW_chosen_16 : decode (mC m_LW_chosen) 16 = .ok (.if_icmp .ge 79, 3) := by decide +kernel
theorem d_LW_chosen_19 : decode (mC m_LW_chosen) 19 = .ok (.aload_n 0, 1) := by decide +kernel
theorem d_LW_chosen_20 : decode (mC m_LW_chosen) 20 = .ok (.getfield 45, 3) := by decide +kernel
theorem d_LW_chosen_23 : decode (mC m_LW_chosen) 23 = .ok (.iload 4, 2) := by decide +kernel
theorem d_LW_chosen_25 : decode (mC m_LW_chosen) 25 = .ok (.aaload, 1) := by decide +kernel
theorem d_LW_chosen_26 : decode (mC m_LW_chosen) 26 = .ok (.astore 5, 2) := by decide +kernel
theorem d_LW_chosen_28 : decode (mC m_LW_chosen) 28 = .ok (.aload 5, 2) := by decide +kernel
theorem d_LW_chosen_30 : decode (mC m_LW_chosen) 30 = .ok (.getfield 157, 3) := by decide +kernel
theorem d_LW_chosen_33 : decode (mC m_LW_chosen) 33 = .ok (.ifCond .eq 56, 3) := by decide +kernel
theorem d_LW_chosen_36 : decode (mC m_LW_chosen) 36 = .ok (.aload 5, 2) := by decide +kernel
theorem d_LW_chosen_38 : decode (mC m_LW_chosen) 38 = .ok (.getfield 141, 3) := by decide +kernel
theorem d_LW_chosen_41 : decode (mC m_LW_chosen) 41 = .ok (.aload_n 0, 1) := by decide +kernel
theorem d_LW_chosen_42 : decode (mC m_LW_chosen) 42 = .ok (.getfield 30, 3) := by decide +kernel
theorem d_LW_chosen_45 : decode (mC m_LW_chosen) 45 = .ok (.bipush 7, 2) := by decide +kernel
theorem d_LW_chosen_47 : decode (mC m_LW_chosen) 47 = .ok (.iaload, 1) := by decide +kernel
theorem d_LW_chosen_48 : decode (mC m_LW_chosen) 48 = .ok (.if_icmp .ne 6, 3) := by decide +kernel
theorem d_LW_chosen_51 : decode (mC m_LW_chosen) 51 = .ok (.goto 38, 3) := by decide +kernel
theorem d_LW_chosen_54 : decode (mC m_LW_chosen) 54 = .ok (.iinc 2 1, 3) := by decide +kernel
theorem d_LW_chosen_57 : decode (mC m_LW_chosen) 57 = .ok (.aload 5, 2) := by decide +kernel
theorem d_LW_chosen_59 : decode (mC m_LW_chosen) 59 = .ok (.getfield 144, 3) := by decide +kernel
theorem d_LW_chosen_62 : decode (mC m_LW_chosen) 62 = .ok (.ifCond .le 27, 3) := by decide +kernel
theorem d_LW_chosen_65 : decode (mC m_LW_chosen) 65 = .ok (.iload_n 1, 1) := by decide +kernel
theorem d_LW_chosen_66 : decode (mC m_LW_chosen) 66 = .ok (.ifCond .lt 20, 3) := by decide +kernel
theorem d_LW_chosen_69 : decode (mC m_LW_chosen) 69 = .ok (.aload 5, 2) := by decide +kernel
theorem d_LW_chosen_71 : decode (mC m_LW_chosen) 71 = .ok (.getfield 144, 3) := by decide +kernel
theorem d_LW_chosen_74 : decode (mC m_LW_chosen) 74 = .ok (.aload_n 0, 1) := by decide +kernel
theorem d_LW_chosen_75 : decode (mC m_LW_chosen) 75 = .ok (.getfield 45, 3) := by decide +kernel
theorem d_LW_chosen_78 : decode (mC m_LW_chosen) 78 = .ok (.iload_n 1, 1) := by decide +kernel
theorem d_LW_chosen_79 : decode (mC m_LW_chosen) 79 = .ok (.aaload, 1) := by decide +kernel
theorem d_LW_chosen_80 : decode (mC m_LW_chosen) 80 = .ok (.getfield 144, 3) := by decide +kernel
theorem d_LW_chosen_83 : decode (mC m_LW_chosen) 83 = .ok (.if_icmp .le 6, 3) := by decide +kernel
theorem d_LW_chosen_86 : decode (mC m_LW_chosen) 86 = .ok (.iload 4, 2) := by decide +kernel
theorem d_LW_chosen_88 : decode (mC m_LW_chosen) 88 = .ok (.istore_n 1, 1) := by decide +kernel
theorem d_LW_chosen_89 : decode (mC m_LW_chosen) 89 = .ok (.iinc 4 1, 3) := by decide +kernel
theorem d_LW_chosen_92 : decode (mC m_LW_chosen) 92 = .ok (.goto (-79), 3) := by decide +kernel
theorem d_LW_chosen_95 : decode (mC m_LW_chosen) 95 = .ok (.iload_n 2, 1) := by decide +kernel
theorem d_LW_chosen_96 : decode (mC m_LW_chosen) 96 = .ok (.ifCond .eq 7, 3) := by decide +kernel
theorem d_LW_chosen_99 : decode (mC m_LW_chosen) 99 = .ok (.iload_n 1, 1) := by decide +kernel
theorem d_LW_chosen_100 : decode (mC m_LW_chosen) 100 = .ok (.ifCond .lt 5, 3) := by decide +kernel
theorem d_LW_chosen_103 : decode (mC m_LW_chosen) 103 = .ok (.iload_n 1, 1) := by decide +kernel
theorem d_LW_chosen_104 : decode (mC m_LW_chosen) 104 = .ok (.ireturn, 1) := by decide +kernel
theorem d_LW_chosen_105 : decode (mC m_LW_chosen) 105 = .ok (.aload_n 0, 1) := by decide +kernel
theorem d_LW_chosen_106 : decode (mC m_LW_chosen) 106 = .ok (.getfield 30, 3) := by decide +kernel
theorem d_LW_chosen_109 : decode (mC m_LW_chosen) 109 = .ok (.bipush 6, 2) := by decide +kernel
theorem d_LW_chosen_111 : decode (mC m_LW_chosen) 111 = .ok (.ldc2_w 161, 3) := by decide +kernel
theorem d_LW_chosen_114 : decode (mC m_LW_chosen) 114 = .ok (.aload_n 0, 1) := by decide +kernel
theorem d_LW_chosen_115 : decode (mC m_LW_chosen) 115 = .ok (.getfield 30, 3) := by decide +kernel
theorem d_LW_chosen_118 : decode (mC m_LW_chosen) 118 = .ok (.bipush 6, 2) := by decide +kernel
theorem d_LW_chosen_120 : decode (mC m_LW_chosen) 120 = .ok (.iaload, 1) := by decide +kernel
theorem d_LW_chosen_121 : decode (mC m_LW_chosen) 121 = .ok (.i2l, 1) := by decide +kernel
theorem d_LW_chosen_122 : decode (mC m_LW_chosen) 122 = .ok (.lmul, 1) := by decide +kernel
theorem d_LW_chosen_123 : decode (mC m_LW_chosen) 123 = .ok (.ldc2_w 163, 3) := by decide +kernel
theorem d_LW_chosen_126 : decode (mC m_LW_chosen) 126 = .ok (.ladd, 1) := by decide +kernel
theorem d_LW_chosen_127 : decode (mC m_LW_chosen) 127 = .ok (.ldc2_w 165, 3) := by decide +kernel
theorem d_LW_chosen_130 : decode (mC m_LW_chosen) 130 = .ok (.lrem, 1) := by decide +kernel
theorem d_LW_chosen_131 : decode (mC m_LW_chosen) 131 = .ok (.l2i, 1) := by decide +kernel
theorem d_LW_chosen_132 : decode (mC m_LW_chosen) 132 = .ok (.iastore, 1) := by decide +kernel
theorem d_LW_chosen_133 : decode (mC m_LW_chosen) 133 = .ok (.iconst 0, 1) := by decide +kernel
theorem d_LW_chosen_134 : decode (mC m_LW_chosen) 134 = .ok (.istore 4, 2) := by decide +kernel
theorem d_LW_chosen_136 : decode (mC m_LW_chosen) 136 = .ok (.iload 4, 2) := by decide +kernel
theorem d_LW_chosen_138 : decode (mC m_LW_chosen) 138 = .ok (.iload_n 3, 1) := by decide +kernel
theorem d_LW_chosen_139 : decode (mC m_LW_chosen) 139 = .ok (.if_icmp .ge 59, 3) := by decide +kernel
theorem d_LW_chosen_142 : decode (mC m_LW_chosen) 142 = .ok (.aload_n 0, 1) := by decide +kernel
theorem d_LW_chosen_143 : decode (mC m_LW_chosen) 143 = .ok (.getfield 30, 3) := by decide +kernel
theorem d_LW_chosen_146 : decode (mC m_LW_chosen) 146 = .ok (.bipush 6, 2) := by decide +kernel
theorem d_LW_chosen_148 : decode (mC m_LW_chosen) 148 = .ok (.iaload, 1) := by decide +kernel
theorem d_LW_chosen_149 : decode (mC m_LW_chosen) 149 = .ok (.iload 4, 2) := by decide +kernel
theorem d_LW_chosen_151 : decode (mC m_LW_chosen) 151 = .ok (.iadd, 1) := by decide +kernel
theorem d_LW_chosen_152 : decode (mC m_LW_chosen) 152 = .ok (.iload_n 3, 1) := by decide +kernel
theorem d_LW_chosen_153 : decode (mC m_LW_chosen) 153 = .ok (.irem, 1) := by decide +kernel
theorem d_LW_chosen_154 : decode (mC m_LW_chosen) 154 = .ok (.istore 5, 2) := by decide +kernel
theorem d_LW_chosen_156 : decode (mC m_LW_chosen) 156 = .ok (.aload_n 0, 1) := by decide +kernel
theorem d_LW_chosen_157 : decode (mC m_LW_chosen) 157 = .ok (.getfield 45, 3) := by decide +kernel
theorem d_LW_chosen_160 : decode (mC m_LW_chosen) 160 = .ok (.iload 5, 2) := by decide +kernel
theorem d_LW_chosen_162 : decode (mC m_LW_chosen) 162 = .ok (.aaload, 1) := by decide +kernel
theorem d_LW_chosen_163 : decode (mC m_LW_chosen) 163 = .ok (.getfield 157, 3) := by decide +kernel
theorem d_LW_chosen_166 : decode (mC m_LW_chosen) 166 = .ok (.ifCond .eq 26, 3) := by decide +kernel
theorem d_LW_chosen_169 : decode (mC m_LW_chosen) 169 = .ok (.aload_n 0, 1) := by decide +kernel
theorem d_LW_chosen_170 : decode (mC m_LW_chosen) 170 = .ok (.getfield 45, 3) := by decide +kernel
theorem d_LW_chosen_173 : decode (mC m_LW_chosen) 173 = .ok (.iload 5, 2) := by decide +kernel
theorem d_LW_chosen_175 : decode (mC m_LW_chosen) 175 = .ok (.aaload, 1) := by decide +kernel
theorem d_LW_chosen_176 : decode (mC m_LW_chosen) 176 = .ok (.getfield 141, 3) := by decide +kernel
theorem d_LW_chosen_179 : decode (mC m_LW_chosen) 179 = .ok (.aload_n 0, 1) := by decide +kernel
theorem d_LW_chosen_180 : decode (mC m_LW_chosen) 180 = .ok (.getfield 30, 3) := by decide +kernel
theorem d_LW_chosen_183 : decode (mC m_LW_chosen) 183 = .ok (.bipush 7, 2) := by decide +kernel
theorem d_LW_chosen_185 : decode (mC m_LW_chosen) 185 = .ok (.iaload, 1) := by decide +kernel
theorem d_LW_chosen_186 : decode (mC m_LW_chosen) 186 = .ok (.if_icmp .eq 6, 3) := by decide +kernel
theorem d_LW_chosen_189 : decode (mC m_LW_chosen) 189 = .ok (.iload 5, 2) := by decide +kernel
theorem d_LW_chosen_191 : decode (mC m_LW_chosen) 191 = .ok (.ireturn, 1) := by decide +kernel
theorem d_LW_chosen_192 : decode (mC m_LW_chosen) 192 = .ok (.iinc 4 1, 3) := by decide +kernel
theorem d_LW_chosen_195 : decode (mC m_LW_chosen) 195 = .ok (.goto (-59), 3) := by decide +kernel
theorem d_LW_chosen_198 : decode (mC m_LW_chosen) 198 = .ok (.iconst (-1), 1) := by decide +kernel
theorem d_LW_chosen_199 : decode (mC m_LW_chosen) 199 = .ok (.ireturn, 1) := by decide +kernel
theorem d_LW_visit_0 : decode (mC m_LW_visit) 0 = .ok (.aload_n 0, 1) := by decide +kernel
theorem d_LW_visit_1 : decode (mC m_LW_visit) 1 = .ok (.aload_n 1, 1) := by decide +kernel
theorem d_LW_visit_2 : decode (mC m_LW_visit) 2 = .ok (.invokestatic 138, 3) := by decide +kernel
theorem d_LW_visit_5 : decode (mC m_LW_visit) 5 = .ok (.istore_n 2, 1) := by decide +kernel
theorem d_LW_visit_6 : decode (mC m_LW_visit) 6 = .ok (.aload_n 0, 1) := by decide +kernel
theorem d_LW_visit_7 : decode (mC m_LW_visit) 7 = .ok (.getfield 30, 3) := by decide +kernel
theorem d_LW_visit_10 : decode (mC m_LW_visit) 10 = .ok (.bipush 9, 2) := by decide +kernel
theorem d_LW_visit_12 : decode (mC m_LW_visit) 12 = .ok (.dup2, 1) := by decide +kernel
theorem d_LW_visit_13 : decode (mC m_LW_visit) 13 = .ok (.iaload, 1) := by decide +kernel
theorem d_LW_visit_14 : decode (mC m_LW_visit) 14 = .ok (.iconst 1, 1) := by decide +kernel
theorem d_LW_visit_15 : decode (mC m_LW_visit) 15 = .ok (.iadd, 1) := by decide +kernel
theorem d_LW_visit_16 : decode (mC m_LW_visit) 16 = .ok (.iastore, 1) := by decide +kernel
theorem d_LW_visit_17 : decode (mC m_LW_visit) 17 = .ok (.aload_n 1, 1) := by decide +kernel
theorem d_LW_visit_18 : decode (mC m_LW_visit) 18 = .ok (.aload_n 0, 1) := by decide +kernel
theorem d_LW_visit_19 : decode (mC m_LW_visit) 19 = .ok (.getfield 30, 3) := by decide +kernel
theorem d_LW_visit_22 : decode (mC m_LW_visit) 22 = .ok (.bipush 7, 2) := by decide +kernel
theorem d_LW_visit_24 : decode (mC m_LW_visit) 24 = .ok (.iaload, 1) := by decide +kernel
theorem d_LW_visit_25 : decode (mC m_LW_visit) 25 = .ok (.putfield 141, 3) := by decide +kernel
theorem d_LW_visit_28 : decode (mC m_LW_visit) 28 = .ok (.aload_n 1, 1) := by decide +kernel
theorem d_LW_visit_29 : decode (mC m_LW_visit) 29 = .ok (.iconst 0, 1) := by decide +kernel
theorem d_LW_visit_30 : decode (mC m_LW_visit) 30 = .ok (.putfield 144, 3) := by decide +kernel
theorem d_LW_visit_33 : decode (mC m_LW_visit) 33 = .ok (.aload_n 0, 1) := by decide +kernel
theorem d_LW_visit_34 : decode (mC m_LW_visit) 34 = .ok (.aload_n 1, 1) := by decide +kernel
theorem d_LW_visit_35 : decode (mC m_LW_visit) 35 = .ok (.invokestatic 147, 3) := by decide +kernel
theorem d_LW_visit_38 : decode (mC m_LW_visit) 38 = .ok (.ifCond .eq 44, 3) := by decide +kernel
theorem d_LW_visit_41 : decode (mC m_LW_visit) 41 = .ok (.aload_n 1, 1) := by decide +kernel
theorem d_LW_visit_42 : decode (mC m_LW_visit) 42 = .ok (.dup, 1) := by decide +kernel
theorem d_LW_visit_43 : decode (mC m_LW_visit) 43 = .ok (.getfield 71, 3) := by decide +kernel
theorem d_LW_visit_46 : decode (mC m_LW_visit) 46 = .ok (.iload_n 2, 1) := by decide +kernel
theorem d_LW_visit_47 : decode (mC m_LW_visit) 47 = .ok (.isub, 1) := by decide +kernel
theorem d_LW_visit_48 : decode (mC m_LW_visit) 48 = .ok (.putfield 71, 3) := by decide +kernel
theorem d_LW_visit_51 : decode (mC m_LW_visit) 51 = .ok (.aload_n 1, 1) := by decide +kernel
theorem d_LW_visit_52 : decode (mC m_LW_visit) 52 = .ok (.dup, 1) := by decide +kernel
theorem d_LW_visit_53 : decode (mC m_LW_visit) 53 = .ok (.getfield 151, 3) := by decide +kernel
theorem d_LW_visit_56 : decode (mC m_LW_visit) 56 = .ok (.iload_n 2, 1) := by decide +kernel
theorem d_LW_visit_57 : decode (mC m_LW_visit) 57 = .ok (.iadd, 1) := by decide +kernel
theorem d_LW_visit_58 : decode (mC m_LW_visit) 58 = .ok (.putfield 151, 3) := by decide +kernel
theorem d_LW_visit_61 : decode (mC m_LW_visit) 61 = .ok (.aload_n 1, 1) := by decide +kernel
theorem d_LW_visit_62 : decode (mC m_LW_visit) 62 = .ok (.dup, 1) := by decide +kernel
theorem d_LW_visit_63 : decode (mC m_LW_visit) 63 = .ok (.getfield 154, 3) := by decide +kernel
theorem d_LW_visit_66 : decode (mC m_LW_visit) 66 = .ok (.iconst 1, 1) := by decide +kernel
theorem d_LW_visit_67 : decode (mC m_LW_visit) 67 = .ok (.iadd, 1) := by decide +kernel
theorem d_LW_visit_68 : decode (mC m_LW_visit) 68 = .ok (.putfield 154, 3) := by decide +kernel
theorem d_LW_visit_71 : decode (mC m_LW_visit) 71 = .ok (.aload_n 0, 1) := by decide +kernel
theorem d_LW_visit_72 : decode (mC m_LW_visit) 72 = .ok (.getfield 30, 3) := by decide +kernel
theorem d_LW_visit_75 : decode (mC m_LW_visit) 75 = .ok (.bipush 8, 2) := by decide +kernel
theorem d_LW_visit_77 : decode (mC m_LW_visit) 77 = .ok (.dup2, 1) := by decide +kernel
theorem d_LW_visit_78 : decode (mC m_LW_visit) 78 = .ok (.iaload, 1) := by decide +kernel
theorem d_LW_visit_79 : decode (mC m_LW_visit) 79 = .ok (.iload_n 2, 1) := by decide +kernel
theorem d_LW_visit_80 : decode (mC m_LW_visit) 80 = .ok (.iadd, 1) := by decide +kernel
theorem d_LW_visit_81 : decode (mC m_LW_visit) 81 = .ok (.iastore, 1) := by decide +kernel
theorem d_LW_visit_82 : decode (mC m_LW_visit) 82 = .ok (.aload_n 0, 1) := by decide +kernel
theorem d_LW_visit_83 : decode (mC m_LW_visit) 83 = .ok (.aload_n 1, 1) := by decide +kernel
theorem d_LW_visit_84 : decode (mC m_LW_visit) 84 = .ok (.invokestatic 131, 3) := by decide +kernel
theorem d_LW_visit_87 : decode (mC m_LW_visit) 87 = .ok (.ifCond .le 13, 3) := by decide +kernel
theorem d_LW_visit_90 : decode (mC m_LW_visit) 90 = .ok (.aload_n 1, 1) := by decide +kernel
theorem d_LW_visit_91 : decode (mC m_LW_visit) 91 = .ok (.iconst 0, 1) := by decide +kernel
theorem d_LW_visit_92 : decode (mC m_LW_visit) 92 = .ok (.putfield 75, 3) := by decide +kernel
theorem d_LW_visit_95 : decode (mC m_LW_visit) 95 = .ok (.aload_n 1, 1) := by decide +kernel
theorem d_LW_visit_96 : decode (mC m_LW_visit) 96 = .ok (.iconst 0, 1) := by decide +kernel
theorem d_LW_visit_97 : decode (mC m_LW_visit) 97 = .ok (.putfield 78, 3) := by decide +kernel
theorem d_LW_visit_100 : decode (mC m_LW_visit) 100 = .ok (.aload_n 1, 1) := by decide +kernel
theorem d_LW_visit_101 : decode (mC m_LW_visit) 101 = .ok (.aload_n 0, 1) := by decide +kernel
theorem d_LW_visit_102 : decode (mC m_LW_visit) 102 = .ok (.getfield 30, 3) := by decide +kernel
theorem d_LW_visit_105 : decode (mC m_LW_visit) 105 = .ok (.bipush 7, 2) := by decide +kernel
theorem d_LW_visit_107 : decode (mC m_LW_visit) 107 = .ok (.iaload, 1) := by decide +kernel
theorem d_LW_visit_108 : decode (mC m_LW_visit) 108 = .ok (.aload_n 0, 1) := by decide +kernel
theorem d_LW_visit_109 : decode (mC m_LW_visit) 109 = .ok (.getfield 30, 3) := by decide +kernel
theorem d_LW_visit_112 : decode (mC m_LW_visit) 112 = .ok (.iconst 3, 1) := by decide +kernel
theorem d_LW_visit_113 : decode (mC m_LW_visit) 113 = .ok (.iaload, 1) := by decide +kernel
theorem d_LW_visit_114 : decode (mC m_LW_visit) 114 = .ok (.iadd, 1) := by decide +kernel
theorem d_LW_visit_115 : decode (mC m_LW_visit) 115 = .ok (.putfield 135, 3) := by decide +kernel
theorem d_LW_visit_118 : decode (mC m_LW_visit) 118 = .ok (.aload_n 1, 1) := by decide +kernel
theorem d_LW_visit_119 : decode (mC m_LW_visit) 119 = .ok (.getfield 154, 3) := by decide +kernel
theorem d_LW_visit_122 : decode (mC m_LW_visit) 122 = .ok (.iconst 3, 1) := by decide +kernel
theorem d_LW_visit_123 : decode (mC m_LW_visit) 123 = .ok (.if_icmp .lt 8, 3) := by decide +kernel
theorem d_LW_visit_126 : decode (mC m_LW_visit) 126 = .ok (.aload_n 1, 1) := by decide +kernel
theorem d_LW_visit_127 : decode (mC m_LW_visit) 127 = .ok (.iconst 0, 1) := by decide +kernel
theorem d_LW_visit_128 : decode (mC m_LW_visit) 128 = .ok (.putfield 157, 3) := by decide +kernel
theorem d_LW_visit_131 : decode (mC m_LW_visit) 131 = .ok (.iload_n 2, 1) := by decide +kernel
theorem d_LW_visit_132 : decode (mC m_LW_visit) 132 = .ok (.ireturn, 1) := by decide +kernel
