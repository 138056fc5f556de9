/-! THE LAW: its code -/
theorem d_LW_acted_0 : decode (mC m_LW_acted) 0 = .ok (.aload_n 2, 1) := by decide +kernel
theorem d_LW_acted_1 : decode (mC m_LW_acted) 1 = .ok (.iload_n 3, 1) := by decide +kernel
theorem d_LW_acted_2 : decode (mC m_LW_acted) 2 = .ok (.iconst 1, 1) := by decide +kernel
theorem d_LW_acted_3 : decode (mC m_LW_acted) 3 = .ok (.iadd, 1) := by decide +kernel
theorem d_LW_acted_4 : decode (mC m_LW_acted) 4 = .ok (.aload_n 1, 1) := by decide +kernel
theorem d_LW_acted_5 : decode (mC m_LW_acted) 5 = .ok (.getfield 45, 3) := by decide +kernel
theorem d_LW_acted_8 : decode (mC m_LW_acted) 8 = .ok (.arraylength, 1) := by decide +kernel
theorem d_LW_acted_9 : decode (mC m_LW_acted) 9 = .ok (.invokestatic 34, 3) := by decide +kernel
theorem d_LW_acted_12 : decode (mC m_LW_acted) 12 = .ok (.istore 4, 2) := by decide +kernel
theorem d_LW_acted_14 : decode (mC m_LW_acted) 14 = .ok (.aload_n 1, 1) := by decide +kernel
theorem d_LW_acted_15 : decode (mC m_LW_acted) 15 = .ok (.getfield 45, 3) := by decide +kernel
theorem d_LW_acted_18 : decode (mC m_LW_acted) 18 = .ok (.iload 4, 2) := by decide +kernel
theorem d_LW_acted_20 : decode (mC m_LW_acted) 20 = .ok (.aaload, 1) := by decide +kernel
theorem d_LW_acted_21 : decode (mC m_LW_acted) 21 = .ok (.astore 5, 2) := by decide +kernel
theorem d_LW_acted_23 : decode (mC m_LW_acted) 23 = .ok (.aload_n 2, 1) := by decide +kernel
theorem d_LW_acted_24 : decode (mC m_LW_acted) 24 = .ok (.iload_n 3, 1) := by decide +kernel
theorem d_LW_acted_25 : decode (mC m_LW_acted) 25 = .ok (.bipush 13, 2) := by decide +kernel
theorem d_LW_acted_27 : decode (mC m_LW_acted) 27 = .ok (.invokestatic 34, 3) := by decide +kernel
theorem d_LW_acted_30 : decode (mC m_LW_acted) 30 = .ok (.tableswitch 637 0 7 #[46, 46, 194, 302, 345, 397, 397, 556], 46) := by decide +kernel
theorem d_LW_acted_76 : decode (mC m_LW_acted) 76 = .ok (.aload_n 1, 1) := by decide +kernel
theorem d_LW_acted_77 : decode (mC m_LW_acted) 77 = .ok (.aload 5, 2) := by decide +kernel
theorem d_LW_acted_79 : decode (mC m_LW_acted) 79 = .ok (.invokestatic 131, 3) := by decide +kernel
theorem d_LW_acted_82 : decode (mC m_LW_acted) 82 = .ok (.ifCond .le 7, 3) := by decide +kernel
theorem d_LW_acted_85 : decode (mC m_LW_acted) 85 = .ok (.iconst 1, 1) := by decide +kernel
theorem d_LW_acted_86 : decode (mC m_LW_acted) 86 = .ok (.goto 4, 3) := by decide +kernel
theorem d_LW_acted_89 : decode (mC m_LW_acted) 89 = .ok (.iconst 0, 1) := by decide +kernel
theorem d_LW_acted_90 : decode (mC m_LW_acted) 90 = .ok (.aload 5, 2) := by decide +kernel
theorem d_LW_acted_92 : decode (mC m_LW_acted) 92 = .ok (.getfield 135, 3) := by decide +kernel
theorem d_LW_acted_95 : decode (mC m_LW_acted) 95 = .ok (.aload_n 1, 1) := by decide +kernel
theorem d_LW_acted_96 : decode (mC m_LW_acted) 96 = .ok (.getfield 30, 3) := by decide +kernel
theorem d_LW_acted_99 : decode (mC m_LW_acted) 99 = .ok (.bipush 7, 2) := by decide +kernel
theorem d_LW_acted_101 : decode (mC m_LW_acted) 101 = .ok (.iaload, 1) := by decide +kernel
theorem d_LW_acted_102 : decode (mC m_LW_acted) 102 = .ok (.if_icmp .ge 7, 3) := by decide +kernel
theorem d_LW_acted_105 : decode (mC m_LW_acted) 105 = .ok (.iconst 2, 1) := by decide +kernel
theorem d_LW_acted_106 : decode (mC m_LW_acted) 106 = .ok (.goto 4, 3) := by decide +kernel
theorem d_LW_acted_109 : decode (mC m_LW_acted) 109 = .ok (.iconst 0, 1) := by decide +kernel
theorem d_LW_acted_110 : decode (mC m_LW_acted) 110 = .ok (.iadd, 1) := by decide +kernel
theorem d_LW_acted_111 : decode (mC m_LW_acted) 111 = .ok (.istore 6, 2) := by decide +kernel
theorem d_LW_acted_113 : decode (mC m_LW_acted) 113 = .ok (.aload_n 1, 1) := by decide +kernel
theorem d_LW_acted_114 : decode (mC m_LW_acted) 114 = .ok (.aload 5, 2) := by decide +kernel
theorem d_LW_acted_116 : decode (mC m_LW_acted) 116 = .ok (.invokestatic 147, 3) := by decide +kernel
theorem d_LW_acted_119 : decode (mC m_LW_acted) 119 = .ok (.ifCond .eq 12, 3) := by decide +kernel
theorem d_LW_acted_122 : decode (mC m_LW_acted) 122 = .ok (.aload_n 1, 1) := by decide +kernel
theorem d_LW_acted_123 : decode (mC m_LW_acted) 123 = .ok (.aload 5, 2) := by decide +kernel
theorem d_LW_acted_125 : decode (mC m_LW_acted) 125 = .ok (.invokestatic 138, 3) := by decide +kernel
theorem d_LW_acted_128 : decode (mC m_LW_acted) 128 = .ok (.goto 4, 3) := by decide +kernel
theorem d_LW_acted_131 : decode (mC m_LW_acted) 131 = .ok (.iconst 0, 1) := by decide +kernel
theorem d_LW_acted_132 : decode (mC m_LW_acted) 132 = .ok (.istore 7, 2) := by decide +kernel
theorem d_LW_acted_134 : decode (mC m_LW_acted) 134 = .ok (.aload_n 0, 1) := by decide +kernel
theorem d_LW_acted_135 : decode (mC m_LW_acted) 135 = .ok (.iload 4, 2) := by decide +kernel
theorem d_LW_acted_137 : decode (mC m_LW_acted) 137 = .ok (.invokevirtual 259, 3) := by decide +kernel
theorem d_LW_acted_140 : decode (mC m_LW_acted) 140 = .ok (.iload 6, 2) := by decide +kernel
theorem d_LW_acted_142 : decode (mC m_LW_acted) 142 = .ok (.if_icmp .ne 14, 3) := by decide +kernel
theorem d_LW_acted_145 : decode (mC m_LW_acted) 145 = .ok (.aload_n 0, 1) := by decide +kernel
theorem d_LW_acted_146 : decode (mC m_LW_acted) 146 = .ok (.iload 4, 2) := by decide +kernel
theorem d_LW_acted_148 : decode (mC m_LW_acted) 148 = .ok (.invokevirtual 262, 3) := by decide +kernel
theorem d_LW_acted_151 : decode (mC m_LW_acted) 151 = .ok (.iload 7, 2) := by decide +kernel
theorem d_LW_acted_153 : decode (mC m_LW_acted) 153 = .ok (.if_icmp .eq 5, 3) := by decide +kernel
theorem d_LW_acted_156 : decode (mC m_LW_acted) 156 = .ok (.iconst 0, 1) := by decide +kernel
theorem d_LW_acted_157 : decode (mC m_LW_acted) 157 = .ok (.ireturn, 1) := by decide +kernel
theorem d_LW_acted_158 : decode (mC m_LW_acted) 158 = .ok (.aload 5, 2) := by decide +kernel
theorem d_LW_acted_160 : decode (mC m_LW_acted) 160 = .ok (.getfield 157, 3) := by decide +kernel
theorem d_LW_acted_163 : decode (mC m_LW_acted) 163 = .ok (.ifCond .ne 20, 3) := by decide +kernel
theorem d_LW_acted_166 : decode (mC m_LW_acted) 166 = .ok (.aload_n 0, 1) := by decide +kernel
theorem d_LW_acted_167 : decode (mC m_LW_acted) 167 = .ok (.iload 4, 2) := by decide +kernel
theorem d_LW_acted_169 : decode (mC m_LW_acted) 169 = .ok (.invokestatic 265, 3) := by decide +kernel
theorem d_LW_acted_172 : decode (mC m_LW_acted) 172 = .ok (.bipush (-100), 2) := by decide +kernel
theorem d_LW_acted_174 : decode (mC m_LW_acted) 174 = .ok (.if_icmp .ne 7, 3) := by decide +kernel
theorem d_LW_acted_177 : decode (mC m_LW_acted) 177 = .ok (.iconst 1, 1) := by decide +kernel
theorem d_LW_acted_178 : decode (mC m_LW_acted) 178 = .ok (.goto 4, 3) := by decide +kernel
theorem d_LW_acted_181 : decode (mC m_LW_acted) 181 = .ok (.iconst 0, 1) := by decide +kernel
theorem d_LW_acted_182 : decode (mC m_LW_acted) 182 = .ok (.ireturn, 1) := by decide +kernel
theorem d_LW_acted_183 : decode (mC m_LW_acted) 183 = .ok (.aload_n 1, 1) := by decide +kernel
theorem d_LW_acted_184 : decode (mC m_LW_acted) 184 = .ok (.aload 5, 2) := by decide +kernel
theorem d_LW_acted_186 : decode (mC m_LW_acted) 186 = .ok (.invokestatic 190, 3) := by decide +kernel
theorem d_LW_acted_189 : decode (mC m_LW_acted) 189 = .ok (.pop, 1) := by decide +kernel
theorem d_LW_acted_190 : decode (mC m_LW_acted) 190 = .ok (.aload_n 0, 1) := by decide +kernel
theorem d_LW_acted_191 : decode (mC m_LW_acted) 191 = .ok (.iload 4, 2) := by decide +kernel
theorem d_LW_acted_193 : decode (mC m_LW_acted) 193 = .ok (.invokestatic 265, 3) := by decide +kernel
theorem d_LW_acted_196 : decode (mC m_LW_acted) 196 = .ok (.iload 7, 2) := by decide +kernel
theorem d_LW_acted_198 : decode (mC m_LW_acted) 198 = .ok (.if_icmp .ne 24, 3) := by decide +kernel
theorem d_LW_acted_201 : decode (mC m_LW_acted) 201 = .ok (.aload_n 0, 1) := by decide +kernel
theorem d_LW_acted_202 : decode (mC m_LW_acted) 202 = .ok (.aload_n 1, 1) := by decide +kernel
theorem d_LW_acted_203 : decode (mC m_LW_acted) 203 = .ok (.invokestatic 196, 3) := by decide +kernel
theorem d_LW_acted_206 : decode (mC m_LW_acted) 206 = .ok (.ifCond .eq 16, 3) := by decide +kernel
theorem d_LW_acted_209 : decode (mC m_LW_acted) 209 = .ok (.aload_n 0, 1) := by decide +kernel
theorem d_LW_acted_210 : decode (mC m_LW_acted) 210 = .ok (.iload 4, 2) := by decide +kernel
theorem d_LW_acted_212 : decode (mC m_LW_acted) 212 = .ok (.invokevirtual 268, 3) := by decide +kernel
theorem d_LW_acted_215 : decode (mC m_LW_acted) 215 = .ok (.ifCond .eq 7, 3) := by decide +kernel
theorem d_LW_acted_218 : decode (mC m_LW_acted) 218 = .ok (.iconst 1, 1) := by decide +kernel
theorem d_LW_acted_219 : decode (mC m_LW_acted) 219 = .ok (.goto 4, 3) := by decide +kernel
theorem d_LW_acted_222 : decode (mC m_LW_acted) 222 = .ok (.iconst 0, 1) := by decide +kernel
theorem d_LW_acted_223 : decode (mC m_LW_acted) 223 = .ok (.ireturn, 1) := by decide +kernel
theorem d_LW_acted_224 : decode (mC m_LW_acted) 224 = .ok (.aload 5, 2) := by decide +kernel
theorem d_LW_acted_226 : decode (mC m_LW_acted) 226 = .ok (.getfield 157, 3) := by decide +kernel
theorem d_LW_acted_229 : decode (mC m_LW_acted) 229 = .ok (.ifCond .eq 13, 3) := by decide +kernel
theorem d_LW_acted_232 : decode (mC m_LW_acted) 232 = .ok (.aload 5, 2) := by decide +kernel
theorem d_LW_acted_234 : decode (mC m_LW_acted) 234 = .ok (.getfield 71, 3) := by decide +kernel
theorem d_LW_acted_237 : decode (mC m_LW_acted) 237 = .ok (.bipush 10, 2) := by decide +kernel
theorem d_LW_acted_239 : decode (mC m_LW_acted) 239 = .ok (.if_icmp .ge 28, 3) := by decide +kernel
theorem d_LW_acted_242 : decode (mC m_LW_acted) 242 = .ok (.aload_n 0, 1) := by decide +kernel
theorem d_LW_acted_243 : decode (mC m_LW_acted) 243 = .ok (.iload 4, 2) := by decide +kernel
theorem d_LW_acted_245 : decode (mC m_LW_acted) 245 = .ok (.invokestatic 271, 3) := by decide +kernel
theorem d_LW_acted_248 : decode (mC m_LW_acted) 248 = .ok (.ldc 252, 2) := by decide +kernel
theorem d_LW_acted_250 : decode (mC m_LW_acted) 250 = .ok (.if_icmp .ne 15, 3) := by decide +kernel
theorem d_LW_acted_253 : decode (mC m_LW_acted) 253 = .ok (.aload_n 0, 1) := by decide +kernel
theorem d_LW_acted_254 : decode (mC m_LW_acted) 254 = .ok (.aload_n 1, 1) := by decide +kernel
theorem d_LW_acted_255 : decode (mC m_LW_acted) 255 = .ok (.invokestatic 196, 3) := by decide +kernel
theorem d_LW_acted_258 : decode (mC m_LW_acted) 258 = .ok (.ifCond .eq 7, 3) := by decide +kernel
theorem d_LW_acted_261 : decode (mC m_LW_acted) 261 = .ok (.iconst 1, 1) := by decide +kernel
theorem d_LW_acted_262 : decode (mC m_LW_acted) 262 = .ok (.goto 4, 3) := by decide +kernel
theorem d_LW_acted_265 : decode (mC m_LW_acted) 265 = .ok (.iconst 0, 1) := by decide +kernel
theorem d_LW_acted_266 : decode (mC m_LW_acted) 266 = .ok (.ireturn, 1) := by decide +kernel
theorem d_LW_acted_267 : decode (mC m_LW_acted) 267 = .ok (.aload 5, 2) := by decide +kernel
theorem d_LW_acted_269 : decode (mC m_LW_acted) 269 = .ok (.dup, 1) := by decide +kernel
theorem d_LW_acted_270 : decode (mC m_LW_acted) 270 = .ok (.getfield 71, 3) := by decide +kernel
theorem d_LW_acted_273 : decode (mC m_LW_acted) 273 = .ok (.bipush 10, 2) := by decide +kernel
theorem d_LW_acted_275 : decode (mC m_LW_acted) 275 = .ok (.isub, 1) := by decide +kernel
theorem d_LW_acted_276 : decode (mC m_LW_acted) 276 = .ok (.putfield 71, 3) := by decide +kernel
theorem d_LW_acted_279 : decode (mC m_LW_acted) 279 = .ok (.aload_n 1, 1) := by decide +kernel
theorem d_LW_acted_280 : decode (mC m_LW_acted) 280 = .ok (.getfield 30, 3) := by decide +kernel
theorem d_LW_acted_283 : decode (mC m_LW_acted) 283 = .ok (.bipush 8, 2) := by decide +kernel
theorem d_LW_acted_285 : decode (mC m_LW_acted) 285 = .ok (.dup2, 1) := by decide +kernel
theorem d_LW_acted_286 : decode (mC m_LW_acted) 286 = .ok (.iaload, 1) := by decide +kernel
theorem d_LW_acted_287 : decode (mC m_LW_acted) 287 = .ok (.bipush 10, 2) := by decide +kernel
theorem d_LW_acted_289 : decode (mC m_LW_acted) 289 = .ok (.iadd, 1) := by decide +kernel
theorem d_LW_acted_290 : decode (mC m_LW_acted) 290 = .ok (.iastore, 1) := by decide +kernel
theorem d_LW_acted_291 : decode (mC m_LW_acted) 291 = .ok (.aload 5, 2) := by decide +kernel
theorem d_LW_acted_293 : decode (mC m_LW_acted) 293 = .ok (.iconst 0, 1) := by decide +kernel
theorem d_LW_acted_294 : decode (mC m_LW_acted) 294 = .ok (.putfield 75, 3) := by decide +kernel
theorem d_LW_acted_297 : decode (mC m_LW_acted) 297 = .ok (.aload 5, 2) := by decide +kernel
theorem d_LW_acted_299 : decode (mC m_LW_acted) 299 = .ok (.iconst 0, 1) := by decide +kernel
theorem d_LW_acted_300 : decode (mC m_LW_acted) 300 = .ok (.putfield 78, 3) := by decide +kernel
theorem d_LW_acted_303 : decode (mC m_LW_acted) 303 = .ok (.aload_n 0, 1) := by decide +kernel
theorem d_LW_acted_304 : decode (mC m_LW_acted) 304 = .ok (.iload 4, 2) := by decide +kernel
theorem d_LW_acted_306 : decode (mC m_LW_acted) 306 = .ok (.invokestatic 271, 3) := by decide +kernel
theorem d_LW_acted_309 : decode (mC m_LW_acted) 309 = .ok (.aload 5, 2) := by decide +kernel
theorem d_LW_acted_311 : decode (mC m_LW_acted) 311 = .ok (.getfield 71, 3) := by decide +kernel
theorem d_LW_acted_314 : decode (mC m_LW_acted) 314 = .ok (.if_icmp .ne 16, 3) := by decide +kernel
theorem d_LW_acted_317 : decode (mC m_LW_acted) 317 = .ok (.aload_n 0, 1) := by decide +kernel
theorem d_LW_acted_318 : decode (mC m_LW_acted) 318 = .ok (.iload 4, 2) := by decide +kernel
theorem d_LW_acted_320 : decode (mC m_LW_acted) 320 = .ok (.invokevirtual 273, 3) := by decide +kernel
theorem d_LW_acted_323 : decode (mC m_LW_acted) 323 = .ok (.ifCond .eq 7, 3) := by decide +kernel
theorem d_LW_acted_326 : decode (mC m_LW_acted) 326 = .ok (.iconst 1, 1) := by decide +kernel
theorem d_LW_acted_327 : decode (mC m_LW_acted) 327 = .ok (.goto 4, 3) := by decide +kernel
theorem d_LW_acted_330 : decode (mC m_LW_acted) 330 = .ok (.iconst 0, 1) := by decide +kernel
theorem d_LW_acted_331 : decode (mC m_LW_acted) 331 = .ok (.ireturn, 1) := by decide +kernel
theorem d_LW_acted_332 : decode (mC m_LW_acted) 332 = .ok (.aload 5, 2) := by decide +kernel
theorem d_LW_acted_334 : decode (mC m_LW_acted) 334 = .ok (.getfield 90, 3) := by decide +kernel
theorem d_LW_acted_337 : decode (mC m_LW_acted) 337 = .ok (.istore 8, 2) := by decide +kernel
theorem d_LW_acted_339 : decode (mC m_LW_acted) 339 = .ok (.aload 5, 2) := by decide +kernel
theorem d_LW_acted_341 : decode (mC m_LW_acted) 341 = .ok (.aload_n 2, 1) := by decide +kernel
theorem d_LW_acted_342 : decode (mC m_LW_acted) 342 = .ok (.iload_n 3, 1) := by decide +kernel
theorem d_LW_acted_343 : decode (mC m_LW_acted) 343 = .ok (.iconst 2, 1) := by decide +kernel
theorem d_LW_acted_344 : decode (mC m_LW_acted) 344 = .ok (.iadd, 1) := by decide +kernel
theorem d_LW_acted_345 : decode (mC m_LW_acted) 345 = .ok (.bipush 101, 2) := by decide +kernel
theorem d_LW_acted_347 : decode (mC m_LW_acted) 347 = .ok (.invokestatic 34, 3) := by decide +kernel
theorem d_LW_acted_350 : decode (mC m_LW_acted) 350 = .ok (.putfield 90, 3) := by decide +kernel
theorem d_LW_acted_353 : decode (mC m_LW_acted) 353 = .ok (.aload_n 0, 1) := by decide +kernel
theorem d_LW_acted_354 : decode (mC m_LW_acted) 354 = .ok (.iload 4, 2) := by decide +kernel
theorem d_LW_acted_356 : decode (mC m_LW_acted) 356 = .ok (.aload 5, 2) := by decide +kernel
theorem d_LW_acted_358 : decode (mC m_LW_acted) 358 = .ok (.getfield 90, 3) := by decide +kernel
theorem d_LW_acted_361 : decode (mC m_LW_acted) 361 = .ok (.invokevirtual 276, 3) := by decide +kernel
theorem d_LW_acted_364 : decode (mC m_LW_acted) 364 = .ok (.iload 8, 2) := by decide +kernel
theorem d_LW_acted_366 : decode (mC m_LW_acted) 366 = .ok (.if_icmp .ne 7, 3) := by decide +kernel
theorem d_LW_acted_369 : decode (mC m_LW_acted) 369 = .ok (.iconst 1, 1) := by decide +kernel
theorem d_LW_acted_370 : decode (mC m_LW_acted) 370 = .ok (.goto 4, 3) := by decide +kernel
theorem d_LW_acted_373 : decode (mC m_LW_acted) 373 = .ok (.iconst 0, 1) := by decide +kernel
theorem d_LW_acted_374 : decode (mC m_LW_acted) 374 = .ok (.ireturn, 1) := by decide +kernel
theorem d_LW_acted_375 : decode (mC m_LW_acted) 375 = .ok (.aload 5, 2) := by decide +kernel
theorem d_LW_acted_377 : decode (mC m_LW_acted) 377 = .ok (.getfield 157, 3) := by decide +kernel
theorem d_LW_acted_380 : decode (mC m_LW_acted) 380 = .ok (.ifCond .eq 14, 3) := by decide +kernel
theorem d_LW_acted_383 : decode (mC m_LW_acted) 383 = .ok (.aload 5, 2) := by decide +kernel
theorem d_LW_acted_385 : decode (mC m_LW_acted) 385 = .ok (.dup, 1) := by decide +kernel
theorem d_LW_acted_386 : decode (mC m_LW_acted) 386 = .ok (.getfield 144, 3) := by decide +kernel
theorem d_LW_acted_389 : decode (mC m_LW_acted) 389 = .ok (.iconst 1, 1) := by decide +kernel
theorem d_LW_acted_390 : decode (mC m_LW_acted) 390 = .ok (.iadd, 1) := by decide +kernel
theorem d_LW_acted_391 : decode (mC m_LW_acted) 391 = .ok (.putfield 144, 3) := by decide +kernel
theorem d_LW_acted_394 : decode (mC m_LW_acted) 394 = .ok (.aload_n 0, 1) := by decide +kernel
theorem d_LW_acted_395 : decode (mC m_LW_acted) 395 = .ok (.iload 4, 2) := by decide +kernel
theorem d_LW_acted_397 : decode (mC m_LW_acted) 397 = .ok (.invokestatic 279, 3) := by decide +kernel
theorem d_LW_acted_400 : decode (mC m_LW_acted) 400 = .ok (.aload 5, 2) := by decide +kernel
theorem d_LW_acted_402 : decode (mC m_LW_acted) 402 = .ok (.getfield 157, 3) := by decide +kernel
theorem d_LW_acted_405 : decode (mC m_LW_acted) 405 = .ok (.ifCond .eq 11, 3) := by decide +kernel
theorem d_LW_acted_408 : decode (mC m_LW_acted) 408 = .ok (.aload 5, 2) := by decide +kernel
theorem d_LW_acted_410 : decode (mC m_LW_acted) 410 = .ok (.getfield 144, 3) := by decide +kernel
theorem d_LW_acted_413 : decode (mC m_LW_acted) 413 = .ok (.goto 5, 3) := by decide +kernel
theorem d_LW_acted_416 : decode (mC m_LW_acted) 416 = .ok (.bipush (-100), 2) := by decide +kernel
theorem d_LW_acted_418 : decode (mC m_LW_acted) 418 = .ok (.if_icmp .ne 7, 3) := by decide +kernel
theorem d_LW_acted_421 : decode (mC m_LW_acted) 421 = .ok (.iconst 1, 1) := by decide +kernel
theorem d_LW_acted_422 : decode (mC m_LW_acted) 422 = .ok (.goto 4, 3) := by decide +kernel
theorem d_LW_acted_425 : decode (mC m_LW_acted) 425 = .ok (.iconst 0, 1) := by decide +kernel
theorem d_LW_acted_426 : decode (mC m_LW_acted) 426 = .ok (.ireturn, 1) := by decide +kernel
theorem d_LW_acted_427 : decode (mC m_LW_acted) 427 = .ok (.iload 4, 2) := by decide +kernel
theorem d_LW_acted_429 : decode (mC m_LW_acted) 429 = .ok (.istore 9, 2) := by decide +kernel
theorem d_LW_acted_431 : decode (mC m_LW_acted) 431 = .ok (.iconst 0, 1) := by decide +kernel
theorem d_LW_acted_432 : decode (mC m_LW_acted) 432 = .ok (.istore 10, 2) := by decide +kernel
theorem d_LW_acted_434 : decode (mC m_LW_acted) 434 = .ok (.iload 10, 2) := by decide +kernel
theorem d_LW_acted_436 : decode (mC m_LW_acted) 436 = .ok (.aload_n 1, 1) := by decide +kernel
theorem d_LW_acted_437 : decode (mC m_LW_acted) 437 = .ok (.getfield 45, 3) := by decide +kernel
theorem d_LW_acted_440 : decode (mC m_LW_acted) 440 = .ok (.arraylength, 1) := by decide +kernel
theorem d_LW_acted_441 : decode (mC m_LW_acted) 441 = .ok (.if_icmp .ge 26, 3) := by decide +kernel
theorem d_LW_acted_444 : decode (mC m_LW_acted) 444 = .ok (.aload_n 1, 1) := by decide +kernel
theorem d_LW_acted_445 : decode (mC m_LW_acted) 445 = .ok (.getfield 45, 3) := by decide +kernel
theorem d_LW_acted_448 : decode (mC m_LW_acted) 448 = .ok (.iload 10, 2) := by decide +kernel
theorem d_LW_acted_450 : decode (mC m_LW_acted) 450 = .ok (.aaload, 1) := by decide +kernel
theorem d_LW_acted_451 : decode (mC m_LW_acted) 451 = .ok (.getfield 157, 3) := by decide +kernel
theorem d_LW_acted_454 : decode (mC m_LW_acted) 454 = .ok (.ifCond .ne 7, 3) := by decide +kernel
theorem d_LW_acted_457 : decode (mC m_LW_acted) 457 = .ok (.iload 10, 2) := by decide +kernel
theorem d_LW_acted_459 : decode (mC m_LW_acted) 459 = .ok (.istore 9, 2) := by decide +kernel
theorem d_LW_acted_461 : decode (mC m_LW_acted) 461 = .ok (.iinc 10 1, 3) := by decide +kernel
theorem d_LW_acted_464 : decode (mC m_LW_acted) 464 = .ok (.goto (-30), 3) := by decide +kernel
theorem d_LW_acted_467 : decode (mC m_LW_acted) 467 = .ok (.aload_n 1, 1) := by decide +kernel
theorem d_LW_acted_468 : decode (mC m_LW_acted) 468 = .ok (.getfield 45, 3) := by decide +kernel
theorem d_LW_acted_471 : decode (mC m_LW_acted) 471 = .ok (.iload 9, 2) := by decide +kernel
theorem d_LW_acted_473 : decode (mC m_LW_acted) 473 = .ok (.aaload, 1) := by decide +kernel
theorem d_LW_acted_474 : decode (mC m_LW_acted) 474 = .ok (.astore 10, 2) := by decide +kernel
theorem d_LW_acted_476 : decode (mC m_LW_acted) 476 = .ok (.aload 10, 2) := by decide +kernel
theorem d_LW_acted_478 : decode (mC m_LW_acted) 478 = .ok (.getfield 157, 3) := by decide +kernel
theorem d_LW_acted_481 : decode (mC m_LW_acted) 481 = .ok (.ifCond .eq 20, 3) := by decide +kernel
theorem d_LW_acted_484 : decode (mC m_LW_acted) 484 = .ok (.aload_n 0, 1) := by decide +kernel
theorem d_LW_acted_485 : decode (mC m_LW_acted) 485 = .ok (.iload 9, 2) := by decide +kernel
theorem d_LW_acted_487 : decode (mC m_LW_acted) 487 = .ok (.invokestatic 281, 3) := by decide +kernel
theorem d_LW_acted_490 : decode (mC m_LW_acted) 490 = .ok (.bipush (-100), 2) := by decide +kernel
theorem d_LW_acted_492 : decode (mC m_LW_acted) 492 = .ok (.if_icmp .ne 7, 3) := by decide +kernel
theorem d_LW_acted_495 : decode (mC m_LW_acted) 495 = .ok (.iconst 1, 1) := by decide +kernel
theorem d_LW_acted_496 : decode (mC m_LW_acted) 496 = .ok (.goto 4, 3) := by decide +kernel
theorem d_LW_acted_499 : decode (mC m_LW_acted) 499 = .ok (.iconst 0, 1) := by decide +kernel
theorem d_LW_acted_500 : decode (mC m_LW_acted) 500 = .ok (.ireturn, 1) := by decide +kernel
theorem d_LW_acted_501 : decode (mC m_LW_acted) 501 = .ok (.aload 10, 2) := by decide +kernel
theorem d_LW_acted_503 : decode (mC m_LW_acted) 503 = .ok (.iconst 1, 1) := by decide +kernel
theorem d_LW_acted_504 : decode (mC m_LW_acted) 504 = .ok (.putfield 157, 3) := by decide +kernel
theorem d_LW_acted_507 : decode (mC m_LW_acted) 507 = .ok (.aload 10, 2) := by decide +kernel
theorem d_LW_acted_509 : decode (mC m_LW_acted) 509 = .ok (.iconst 0, 1) := by decide +kernel
theorem d_LW_acted_510 : decode (mC m_LW_acted) 510 = .ok (.putfield 154, 3) := by decide +kernel
theorem d_LW_acted_513 : decode (mC m_LW_acted) 513 = .ok (.iconst 0, 1) := by decide +kernel
theorem d_LW_acted_514 : decode (mC m_LW_acted) 514 = .ok (.istore 11, 2) := by decide +kernel
theorem d_LW_acted_516 : decode (mC m_LW_acted) 516 = .ok (.aload_n 1, 1) := by decide +kernel
theorem d_LW_acted_517 : decode (mC m_LW_acted) 517 = .ok (.getfield 45, 3) := by decide +kernel
theorem d_LW_acted_520 : decode (mC m_LW_acted) 520 = .ok (.astore 12, 2) := by decide +kernel
theorem d_LW_acted_522 : decode (mC m_LW_acted) 522 = .ok (.aload 12, 2) := by decide +kernel
theorem d_LW_acted_524 : decode (mC m_LW_acted) 524 = .ok (.arraylength, 1) := by decide +kernel
theorem d_LW_acted_525 : decode (mC m_LW_acted) 525 = .ok (.istore 13, 2) := by decide +kernel
theorem d_LW_acted_527 : decode (mC m_LW_acted) 527 = .ok (.iconst 0, 1) := by decide +kernel
theorem d_LW_acted_528 : decode (mC m_LW_acted) 528 = .ok (.istore 14, 2) := by decide +kernel
theorem d_LW_acted_530 : decode (mC m_LW_acted) 530 = .ok (.iload 14, 2) := by decide +kernel
theorem d_LW_acted_532 : decode (mC m_LW_acted) 532 = .ok (.iload 13, 2) := by decide +kernel
theorem d_LW_acted_534 : decode (mC m_LW_acted) 534 = .ok (.if_icmp .ge 27, 3) := by decide +kernel
theorem d_LW_acted_537 : decode (mC m_LW_acted) 537 = .ok (.aload 12, 2) := by decide +kernel
theorem d_LW_acted_539 : decode (mC m_LW_acted) 539 = .ok (.iload 14, 2) := by decide +kernel
theorem d_LW_acted_541 : decode (mC m_LW_acted) 541 = .ok (.aaload, 1) := by decide +kernel
theorem d_LW_acted_542 : decode (mC m_LW_acted) 542 = .ok (.astore 15, 2) := by decide +kernel
theorem d_LW_acted_544 : decode (mC m_LW_acted) 544 = .ok (.aload 15, 2) := by decide +kernel
theorem d_LW_acted_546 : decode (mC m_LW_acted) 546 = .ok (.getfield 157, 3) := by decide +kernel
theorem d_LW_acted_549 : decode (mC m_LW_acted) 549 = .ok (.ifCond .eq 6, 3) := by decide +kernel
theorem d_LW_acted_552 : decode (mC m_LW_acted) 552 = .ok (.iinc 11 1, 3) := by decide +kernel
theorem d_LW_acted_555 : decode (mC m_LW_acted) 555 = .ok (.iinc 14 1, 3) := by decide +kernel
theorem d_LW_acted_558 : decode (mC m_LW_acted) 558 = .ok (.goto (-28), 3) := by decide +kernel
theorem d_LW_acted_561 : decode (mC m_LW_acted) 561 = .ok (.aload_n 0, 1) := by decide +kernel
theorem d_LW_acted_562 : decode (mC m_LW_acted) 562 = .ok (.iload 9, 2) := by decide +kernel
theorem d_LW_acted_564 : decode (mC m_LW_acted) 564 = .ok (.invokestatic 281, 3) := by decide +kernel
theorem d_LW_acted_567 : decode (mC m_LW_acted) 567 = .ok (.iload 11, 2) := by decide +kernel
theorem d_LW_acted_569 : decode (mC m_LW_acted) 569 = .ok (.if_icmp .ne 15, 3) := by decide +kernel
theorem d_LW_acted_572 : decode (mC m_LW_acted) 572 = .ok (.aload_n 0, 1) := by decide +kernel
theorem d_LW_acted_573 : decode (mC m_LW_acted) 573 = .ok (.aload_n 1, 1) := by decide +kernel
theorem d_LW_acted_574 : decode (mC m_LW_acted) 574 = .ok (.invokestatic 196, 3) := by decide +kernel
theorem d_LW_acted_577 : decode (mC m_LW_acted) 577 = .ok (.ifCond .eq 7, 3) := by decide +kernel
theorem d_LW_acted_580 : decode (mC m_LW_acted) 580 = .ok (.iconst 1, 1) := by decide +kernel
theorem d_LW_acted_581 : decode (mC m_LW_acted) 581 = .ok (.goto 4, 3) := by decide +kernel
theorem d_LW_acted_584 : decode (mC m_LW_acted) 584 = .ok (.iconst 0, 1) := by decide +kernel
theorem d_LW_acted_585 : decode (mC m_LW_acted) 585 = .ok (.ireturn, 1) := by decide +kernel
theorem d_LW_acted_586 : decode (mC m_LW_acted) 586 = .ok (.aload_n 1, 1) := by decide +kernel
theorem d_LW_acted_587 : decode (mC m_LW_acted) 587 = .ok (.getfield 30, 3) := by decide +kernel
theorem d_LW_acted_590 : decode (mC m_LW_acted) 590 = .ok (.iconst 5, 1) := by decide +kernel
theorem d_LW_acted_591 : decode (mC m_LW_acted) 591 = .ok (.iaload, 1) := by decide +kernel
theorem d_LW_acted_592 : decode (mC m_LW_acted) 592 = .ok (.istore 12, 2) := by decide +kernel
theorem d_LW_acted_594 : decode (mC m_LW_acted) 594 = .ok (.aload_n 1, 1) := by decide +kernel
theorem d_LW_acted_595 : decode (mC m_LW_acted) 595 = .ok (.getfield 30, 3) := by decide +kernel
theorem d_LW_acted_598 : decode (mC m_LW_acted) 598 = .ok (.iconst 2, 1) := by decide +kernel
theorem d_LW_acted_599 : decode (mC m_LW_acted) 599 = .ok (.iaload, 1) := by decide +kernel
theorem d_LW_acted_600 : decode (mC m_LW_acted) 600 = .ok (.istore 13, 2) := by decide +kernel
theorem d_LW_acted_602 : decode (mC m_LW_acted) 602 = .ok (.aload_n 1, 1) := by decide +kernel
theorem d_LW_acted_603 : decode (mC m_LW_acted) 603 = .ok (.getfield 30, 3) := by decide +kernel
theorem d_LW_acted_606 : decode (mC m_LW_acted) 606 = .ok (.iconst 5, 1) := by decide +kernel
theorem d_LW_acted_607 : decode (mC m_LW_acted) 607 = .ok (.aload_n 2, 1) := by decide +kernel
theorem d_LW_acted_608 : decode (mC m_LW_acted) 608 = .ok (.iload_n 3, 1) := by decide +kernel
theorem d_LW_acted_609 : decode (mC m_LW_acted) 609 = .ok (.iconst 1, 1) := by decide +kernel
theorem d_LW_acted_610 : decode (mC m_LW_acted) 610 = .ok (.iadd, 1) := by decide +kernel
theorem d_LW_acted_611 : decode (mC m_LW_acted) 611 = .ok (.iconst 4, 1) := by decide +kernel
theorem d_LW_acted_612 : decode (mC m_LW_acted) 612 = .ok (.invokestatic 34, 3) := by decide +kernel
theorem d_LW_acted_615 : decode (mC m_LW_acted) 615 = .ok (.iastore, 1) := by decide +kernel
theorem d_LW_acted_616 : decode (mC m_LW_acted) 616 = .ok (.aload_n 1, 1) := by decide +kernel
theorem d_LW_acted_617 : decode (mC m_LW_acted) 617 = .ok (.getfield 30, 3) := by decide +kernel
theorem d_LW_acted_620 : decode (mC m_LW_acted) 620 = .ok (.iconst 2, 1) := by decide +kernel
theorem d_LW_acted_621 : decode (mC m_LW_acted) 621 = .ok (.aload_n 2, 1) := by decide +kernel
theorem d_LW_acted_622 : decode (mC m_LW_acted) 622 = .ok (.iload_n 3, 1) := by decide +kernel
theorem d_LW_acted_623 : decode (mC m_LW_acted) 623 = .ok (.iconst 2, 1) := by decide +kernel
theorem d_LW_acted_624 : decode (mC m_LW_acted) 624 = .ok (.iadd, 1) := by decide +kernel
theorem d_LW_acted_625 : decode (mC m_LW_acted) 625 = .ok (.bipush 30, 2) := by decide +kernel
theorem d_LW_acted_627 : decode (mC m_LW_acted) 627 = .ok (.invokestatic 34, 3) := by decide +kernel
theorem d_LW_acted_630 : decode (mC m_LW_acted) 630 = .ok (.iastore, 1) := by decide +kernel
theorem d_LW_acted_631 : decode (mC m_LW_acted) 631 = .ok (.aload_n 0, 1) := by decide +kernel
theorem d_LW_acted_632 : decode (mC m_LW_acted) 632 = .ok (.aload_n 1, 1) := by decide +kernel
theorem d_LW_acted_633 : decode (mC m_LW_acted) 633 = .ok (.getfield 30, 3) := by decide +kernel
theorem d_LW_acted_636 : decode (mC m_LW_acted) 636 = .ok (.iconst 5, 1) := by decide +kernel
theorem d_LW_acted_637 : decode (mC m_LW_acted) 637 = .ok (.iaload, 1) := by decide +kernel
theorem d_LW_acted_638 : decode (mC m_LW_acted) 638 = .ok (.invokevirtual 283, 3) := by decide +kernel
theorem d_LW_acted_641 : decode (mC m_LW_acted) 641 = .ok (.iload 12, 2) := by decide +kernel
theorem d_LW_acted_643 : decode (mC m_LW_acted) 643 = .ok (.if_icmp .ne 22, 3) := by decide +kernel
theorem d_LW_acted_646 : decode (mC m_LW_acted) 646 = .ok (.aload_n 0, 1) := by decide +kernel
theorem d_LW_acted_647 : decode (mC m_LW_acted) 647 = .ok (.aload_n 1, 1) := by decide +kernel
theorem d_LW_acted_648 : decode (mC m_LW_acted) 648 = .ok (.getfield 30, 3) := by decide +kernel
theorem d_LW_acted_651 : decode (mC m_LW_acted) 651 = .ok (.iconst 2, 1) := by decide +kernel
theorem d_LW_acted_652 : decode (mC m_LW_acted) 652 = .ok (.iaload, 1) := by decide +kernel
theorem d_LW_acted_653 : decode (mC m_LW_acted) 653 = .ok (.invokevirtual 286, 3) := by decide +kernel
theorem d_LW_acted_656 : decode (mC m_LW_acted) 656 = .ok (.iload 13, 2) := by decide +kernel
theorem d_LW_acted_658 : decode (mC m_LW_acted) 658 = .ok (.if_icmp .ne 7, 3) := by decide +kernel
theorem d_LW_acted_661 : decode (mC m_LW_acted) 661 = .ok (.iconst 1, 1) := by decide +kernel
theorem d_LW_acted_662 : decode (mC m_LW_acted) 662 = .ok (.goto 4, 3) := by decide +kernel
theorem d_LW_acted_665 : decode (mC m_LW_acted) 665 = .ok (.iconst 0, 1) := by decide +kernel
theorem d_LW_acted_666 : decode (mC m_LW_acted) 666 = .ok (.ireturn, 1) := by decide +kernel
theorem d_LW_acted_667 : decode (mC m_LW_acted) 667 = .ok (.aload_n 2, 1) := by decide +kernel
theorem d_LW_acted_668 : decode (mC m_LW_acted) 668 = .ok (.iload_n 3, 1) := by decide +kernel
theorem d_LW_acted_669 : decode (mC m_LW_acted) 669 = .ok (.iconst 2, 1) := by decide +kernel
theorem d_LW_acted_670 : decode (mC m_LW_acted) 670 = .ok (.iadd, 1) := by decide +kernel
theorem d_LW_acted_671 : decode (mC m_LW_acted) 671 = .ok (.bipush 6, 2) := by decide +kernel
theorem d_LW_acted_673 : decode (mC m_LW_acted) 673 = .ok (.invokestatic 34, 3) := by decide +kernel
theorem d_LW_acted_676 : decode (mC m_LW_acted) 676 = .ok (.istore 14, 2) := by decide +kernel
theorem d_LW_acted_678 : decode (mC m_LW_acted) 678 = .ok (.iload 14, 2) := by decide +kernel
theorem d_LW_acted_680 : decode (mC m_LW_acted) 680 = .ok (.ifCond .lt 19, 3) := by decide +kernel
theorem d_LW_acted_683 : decode (mC m_LW_acted) 683 = .ok (.aload_n 0, 1) := by decide +kernel
theorem d_LW_acted_684 : decode (mC m_LW_acted) 684 = .ok (.aload_n 1, 1) := by decide +kernel
theorem d_LW_acted_685 : decode (mC m_LW_acted) 685 = .ok (.invokestatic 289, 3) := by decide +kernel
theorem d_LW_acted_688 : decode (mC m_LW_acted) 688 = .ok (.ifCond .ne 5, 3) := by decide +kernel
theorem d_LW_acted_691 : decode (mC m_LW_acted) 691 = .ok (.iconst 0, 1) := by decide +kernel
theorem d_LW_acted_692 : decode (mC m_LW_acted) 692 = .ok (.ireturn, 1) := by decide +kernel
theorem d_LW_acted_693 : decode (mC m_LW_acted) 693 = .ok (.iinc 14 (-1), 3) := by decide +kernel
theorem d_LW_acted_696 : decode (mC m_LW_acted) 696 = .ok (.goto (-18), 3) := by decide +kernel
theorem d_LW_acted_699 : decode (mC m_LW_acted) 699 = .ok (.iconst 1, 1) := by decide +kernel
theorem d_LW_acted_700 : decode (mC m_LW_acted) 700 = .ok (.ireturn, 1) := by decide +kernel
