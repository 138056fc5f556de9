/-! THE LAW: its code -/
theorem d_LW_begun_0 : decode (mC m_LW_begun) 0 = .ok (.new 27, 3) := by decide +kernel
theorem d_LW_begun_3 : decode (mC m_LW_begun) 3 = .ok (.dup, 1) := by decide +kernel
theorem d_LW_begun_4 : decode (mC m_LW_begun) 4 = .ok (.invokespecial 29, 3) := by decide +kernel
theorem d_LW_begun_7 : decode (mC m_LW_begun) 7 = .ok (.astore_n 2, 1) := by decide +kernel
theorem d_LW_begun_8 : decode (mC m_LW_begun) 8 = .ok (.aload_n 2, 1) := by decide +kernel
theorem d_LW_begun_9 : decode (mC m_LW_begun) 9 = .ok (.getfield 30, 3) := by decide +kernel
theorem d_LW_begun_12 : decode (mC m_LW_begun) 12 = .ok (.iconst 0, 1) := by decide +kernel
theorem d_LW_begun_13 : decode (mC m_LW_begun) 13 = .ok (.aload_n 1, 1) := by decide +kernel
theorem d_LW_begun_14 : decode (mC m_LW_begun) 14 = .ok (.iconst 0, 1) := by decide +kernel
theorem d_LW_begun_15 : decode (mC m_LW_begun) 15 = .ok (.bipush 30, 2) := by decide +kernel
theorem d_LW_begun_17 : decode (mC m_LW_begun) 17 = .ok (.invokestatic 34, 3) := by decide +kernel
theorem d_LW_begun_20 : decode (mC m_LW_begun) 20 = .ok (.iastore, 1) := by decide +kernel
theorem d_LW_begun_21 : decode (mC m_LW_begun) 21 = .ok (.aload_n 2, 1) := by decide +kernel
theorem d_LW_begun_22 : decode (mC m_LW_begun) 22 = .ok (.getfield 30, 3) := by decide +kernel
theorem d_LW_begun_25 : decode (mC m_LW_begun) 25 = .ok (.iconst 1, 1) := by decide +kernel
theorem d_LW_begun_26 : decode (mC m_LW_begun) 26 = .ok (.aload_n 1, 1) := by decide +kernel
theorem d_LW_begun_27 : decode (mC m_LW_begun) 27 = .ok (.iconst 1, 1) := by decide +kernel
theorem d_LW_begun_28 : decode (mC m_LW_begun) 28 = .ok (.bipush 30, 2) := by decide +kernel
theorem d_LW_begun_30 : decode (mC m_LW_begun) 30 = .ok (.invokestatic 34, 3) := by decide +kernel
theorem d_LW_begun_33 : decode (mC m_LW_begun) 33 = .ok (.iastore, 1) := by decide +kernel
theorem d_LW_begun_34 : decode (mC m_LW_begun) 34 = .ok (.aload_n 2, 1) := by decide +kernel
theorem d_LW_begun_35 : decode (mC m_LW_begun) 35 = .ok (.getfield 30, 3) := by decide +kernel
theorem d_LW_begun_38 : decode (mC m_LW_begun) 38 = .ok (.iconst 2, 1) := by decide +kernel
theorem d_LW_begun_39 : decode (mC m_LW_begun) 39 = .ok (.aload_n 1, 1) := by decide +kernel
theorem d_LW_begun_40 : decode (mC m_LW_begun) 40 = .ok (.iconst 2, 1) := by decide +kernel
theorem d_LW_begun_41 : decode (mC m_LW_begun) 41 = .ok (.bipush 20, 2) := by decide +kernel
theorem d_LW_begun_43 : decode (mC m_LW_begun) 43 = .ok (.invokestatic 34, 3) := by decide +kernel
theorem d_LW_begun_46 : decode (mC m_LW_begun) 46 = .ok (.iastore, 1) := by decide +kernel
theorem d_LW_begun_47 : decode (mC m_LW_begun) 47 = .ok (.aload_n 2, 1) := by decide +kernel
theorem d_LW_begun_48 : decode (mC m_LW_begun) 48 = .ok (.getfield 30, 3) := by decide +kernel
theorem d_LW_begun_51 : decode (mC m_LW_begun) 51 = .ok (.iconst 3, 1) := by decide +kernel
theorem d_LW_begun_52 : decode (mC m_LW_begun) 52 = .ok (.iconst 1, 1) := by decide +kernel
theorem d_LW_begun_53 : decode (mC m_LW_begun) 53 = .ok (.aload_n 1, 1) := by decide +kernel
theorem d_LW_begun_54 : decode (mC m_LW_begun) 54 = .ok (.iconst 3, 1) := by decide +kernel
theorem d_LW_begun_55 : decode (mC m_LW_begun) 55 = .ok (.bipush 30, 2) := by decide +kernel
theorem d_LW_begun_57 : decode (mC m_LW_begun) 57 = .ok (.invokestatic 34, 3) := by decide +kernel
theorem d_LW_begun_60 : decode (mC m_LW_begun) 60 = .ok (.iadd, 1) := by decide +kernel
theorem d_LW_begun_61 : decode (mC m_LW_begun) 61 = .ok (.iastore, 1) := by decide +kernel
theorem d_LW_begun_62 : decode (mC m_LW_begun) 62 = .ok (.aload_n 2, 1) := by decide +kernel
theorem d_LW_begun_63 : decode (mC m_LW_begun) 63 = .ok (.getfield 30, 3) := by decide +kernel
theorem d_LW_begun_66 : decode (mC m_LW_begun) 66 = .ok (.iconst 4, 1) := by decide +kernel
theorem d_LW_begun_67 : decode (mC m_LW_begun) 67 = .ok (.iconst 1, 1) := by decide +kernel
theorem d_LW_begun_68 : decode (mC m_LW_begun) 68 = .ok (.aload_n 1, 1) := by decide +kernel
theorem d_LW_begun_69 : decode (mC m_LW_begun) 69 = .ok (.iconst 4, 1) := by decide +kernel
theorem d_LW_begun_70 : decode (mC m_LW_begun) 70 = .ok (.bipush 50, 2) := by decide +kernel
theorem d_LW_begun_72 : decode (mC m_LW_begun) 72 = .ok (.invokestatic 34, 3) := by decide +kernel
theorem d_LW_begun_75 : decode (mC m_LW_begun) 75 = .ok (.iadd, 1) := by decide +kernel
theorem d_LW_begun_76 : decode (mC m_LW_begun) 76 = .ok (.iastore, 1) := by decide +kernel
theorem d_LW_begun_77 : decode (mC m_LW_begun) 77 = .ok (.aload_n 2, 1) := by decide +kernel
theorem d_LW_begun_78 : decode (mC m_LW_begun) 78 = .ok (.getfield 30, 3) := by decide +kernel
theorem d_LW_begun_81 : decode (mC m_LW_begun) 81 = .ok (.iconst 5, 1) := by decide +kernel
theorem d_LW_begun_82 : decode (mC m_LW_begun) 82 = .ok (.aload_n 1, 1) := by decide +kernel
theorem d_LW_begun_83 : decode (mC m_LW_begun) 83 = .ok (.iconst 5, 1) := by decide +kernel
theorem d_LW_begun_84 : decode (mC m_LW_begun) 84 = .ok (.iconst 4, 1) := by decide +kernel
theorem d_LW_begun_85 : decode (mC m_LW_begun) 85 = .ok (.invokestatic 34, 3) := by decide +kernel
theorem d_LW_begun_88 : decode (mC m_LW_begun) 88 = .ok (.iastore, 1) := by decide +kernel
theorem d_LW_begun_89 : decode (mC m_LW_begun) 89 = .ok (.aload_n 2, 1) := by decide +kernel
theorem d_LW_begun_90 : decode (mC m_LW_begun) 90 = .ok (.getfield 30, 3) := by decide +kernel
theorem d_LW_begun_93 : decode (mC m_LW_begun) 93 = .ok (.bipush 6, 2) := by decide +kernel
theorem d_LW_begun_95 : decode (mC m_LW_begun) 95 = .ok (.bipush 16, 2) := by decide +kernel
theorem d_LW_begun_97 : decode (mC m_LW_begun) 97 = .ok (.aload_n 1, 1) := by decide +kernel
theorem d_LW_begun_98 : decode (mC m_LW_begun) 98 = .ok (.bipush 6, 2) := by decide +kernel
theorem d_LW_begun_100 : decode (mC m_LW_begun) 100 = .ok (.sipush 4096, 3) := by decide +kernel
theorem d_LW_begun_103 : decode (mC m_LW_begun) 103 = .ok (.invokestatic 34, 3) := by decide +kernel
theorem d_LW_begun_106 : decode (mC m_LW_begun) 106 = .ok (.imul, 1) := by decide +kernel
theorem d_LW_begun_107 : decode (mC m_LW_begun) 107 = .ok (.iastore, 1) := by decide +kernel
theorem d_LW_begun_108 : decode (mC m_LW_begun) 108 = .ok (.aload_n 2, 1) := by decide +kernel
theorem d_LW_begun_109 : decode (mC m_LW_begun) 109 = .ok (.iconst 1, 1) := by decide +kernel
theorem d_LW_begun_110 : decode (mC m_LW_begun) 110 = .ok (.aload_n 1, 1) := by decide +kernel
theorem d_LW_begun_111 : decode (mC m_LW_begun) 111 = .ok (.bipush 7, 2) := by decide +kernel
theorem d_LW_begun_113 : decode (mC m_LW_begun) 113 = .ok (.iconst 4, 1) := by decide +kernel
theorem d_LW_begun_114 : decode (mC m_LW_begun) 114 = .ok (.invokestatic 34, 3) := by decide +kernel
theorem d_LW_begun_117 : decode (mC m_LW_begun) 117 = .ok (.iadd, 1) := by decide +kernel
theorem d_LW_begun_118 : decode (mC m_LW_begun) 118 = .ok (.newarray .int, 2) := by decide +kernel
theorem d_LW_begun_120 : decode (mC m_LW_begun) 120 = .ok (.putfield 40, 3) := by decide +kernel
theorem d_LW_begun_123 : decode (mC m_LW_begun) 123 = .ok (.aload_n 2, 1) := by decide +kernel
theorem d_LW_begun_124 : decode (mC m_LW_begun) 124 = .ok (.iconst 1, 1) := by decide +kernel
theorem d_LW_begun_125 : decode (mC m_LW_begun) 125 = .ok (.aload_n 1, 1) := by decide +kernel
theorem d_LW_begun_126 : decode (mC m_LW_begun) 126 = .ok (.bipush 8, 2) := by decide +kernel
theorem d_LW_begun_128 : decode (mC m_LW_begun) 128 = .ok (.bipush 6, 2) := by decide +kernel
theorem d_LW_begun_130 : decode (mC m_LW_begun) 130 = .ok (.invokestatic 34, 3) := by decide +kernel
theorem d_LW_begun_133 : decode (mC m_LW_begun) 133 = .ok (.iadd, 1) := by decide +kernel
theorem d_LW_begun_134 : decode (mC m_LW_begun) 134 = .ok (.anewarray 43, 3) := by decide +kernel
theorem d_LW_begun_137 : decode (mC m_LW_begun) 137 = .ok (.putfield 45, 3) := by decide +kernel
theorem d_LW_begun_140 : decode (mC m_LW_begun) 140 = .ok (.ldc 49, 2) := by decide +kernel
theorem d_LW_begun_142 : decode (mC m_LW_begun) 142 = .ok (.astore_n 3, 1) := by decide +kernel
theorem d_LW_begun_143 : decode (mC m_LW_begun) 143 = .ok (.iconst 0, 1) := by decide +kernel
theorem d_LW_begun_144 : decode (mC m_LW_begun) 144 = .ok (.istore 4, 2) := by decide +kernel
theorem d_LW_begun_146 : decode (mC m_LW_begun) 146 = .ok (.iload 4, 2) := by decide +kernel
theorem d_LW_begun_148 : decode (mC m_LW_begun) 148 = .ok (.bipush 7, 2) := by decide +kernel
theorem d_LW_begun_150 : decode (mC m_LW_begun) 150 = .ok (.if_icmp .ge 39, 3) := by decide +kernel
theorem d_LW_begun_153 : decode (mC m_LW_begun) 153 = .ok (.new 51, 3) := by decide +kernel
theorem d_LW_begun_156 : decode (mC m_LW_begun) 156 = .ok (.dup, 1) := by decide +kernel
theorem d_LW_begun_157 : decode (mC m_LW_begun) 157 = .ok (.invokespecial 53, 3) := by decide +kernel
theorem d_LW_begun_160 : decode (mC m_LW_begun) 160 = .ok (.aload_n 3, 1) := by decide +kernel
theorem d_LW_begun_161 : decode (mC m_LW_begun) 161 = .ok (.invokevirtual 54, 3) := by decide +kernel
theorem d_LW_begun_164 : decode (mC m_LW_begun) 164 = .ok (.ldc 57, 2) := by decide +kernel
theorem d_LW_begun_166 : decode (mC m_LW_begun) 166 = .ok (.invokevirtual 54, 3) := by decide +kernel
theorem d_LW_begun_169 : decode (mC m_LW_begun) 169 = .ok (.aload_n 2, 1) := by decide +kernel
theorem d_LW_begun_170 : decode (mC m_LW_begun) 170 = .ok (.getfield 30, 3) := by decide +kernel
theorem d_LW_begun_173 : decode (mC m_LW_begun) 173 = .ok (.iload 4, 2) := by decide +kernel
theorem d_LW_begun_175 : decode (mC m_LW_begun) 175 = .ok (.iaload, 1) := by decide +kernel
theorem d_LW_begun_176 : decode (mC m_LW_begun) 176 = .ok (.invokevirtual 59, 3) := by decide +kernel
theorem d_LW_begun_179 : decode (mC m_LW_begun) 179 = .ok (.invokevirtual 62, 3) := by decide +kernel
theorem d_LW_begun_182 : decode (mC m_LW_begun) 182 = .ok (.astore_n 3, 1) := by decide +kernel
theorem d_LW_begun_183 : decode (mC m_LW_begun) 183 = .ok (.iinc 4 1, 3) := by decide +kernel
theorem d_LW_begun_186 : decode (mC m_LW_begun) 186 = .ok (.goto (-40), 3) := by decide +kernel
theorem d_LW_begun_189 : decode (mC m_LW_begun) 189 = .ok (.new 51, 3) := by decide +kernel
theorem d_LW_begun_192 : decode (mC m_LW_begun) 192 = .ok (.dup, 1) := by decide +kernel
theorem d_LW_begun_193 : decode (mC m_LW_begun) 193 = .ok (.invokespecial 53, 3) := by decide +kernel
theorem d_LW_begun_196 : decode (mC m_LW_begun) 196 = .ok (.aload_n 3, 1) := by decide +kernel
theorem d_LW_begun_197 : decode (mC m_LW_begun) 197 = .ok (.invokevirtual 54, 3) := by decide +kernel
theorem d_LW_begun_200 : decode (mC m_LW_begun) 200 = .ok (.ldc 66, 2) := by decide +kernel
theorem d_LW_begun_202 : decode (mC m_LW_begun) 202 = .ok (.invokevirtual 54, 3) := by decide +kernel
theorem d_LW_begun_205 : decode (mC m_LW_begun) 205 = .ok (.invokevirtual 62, 3) := by decide +kernel
theorem d_LW_begun_208 : decode (mC m_LW_begun) 208 = .ok (.astore_n 3, 1) := by decide +kernel
theorem d_LW_begun_209 : decode (mC m_LW_begun) 209 = .ok (.iconst 0, 1) := by decide +kernel
theorem d_LW_begun_210 : decode (mC m_LW_begun) 210 = .ok (.istore 4, 2) := by decide +kernel
theorem d_LW_begun_212 : decode (mC m_LW_begun) 212 = .ok (.iload 4, 2) := by decide +kernel
theorem d_LW_begun_214 : decode (mC m_LW_begun) 214 = .ok (.aload_n 2, 1) := by decide +kernel
theorem d_LW_begun_215 : decode (mC m_LW_begun) 215 = .ok (.getfield 40, 3) := by decide +kernel
theorem d_LW_begun_218 : decode (mC m_LW_begun) 218 = .ok (.arraylength, 1) := by decide +kernel
theorem d_LW_begun_219 : decode (mC m_LW_begun) 219 = .ok (.if_icmp .ge 66, 3) := by decide +kernel
theorem d_LW_begun_222 : decode (mC m_LW_begun) 222 = .ok (.aload_n 2, 1) := by decide +kernel
theorem d_LW_begun_223 : decode (mC m_LW_begun) 223 = .ok (.getfield 40, 3) := by decide +kernel
theorem d_LW_begun_226 : decode (mC m_LW_begun) 226 = .ok (.iload 4, 2) := by decide +kernel
theorem d_LW_begun_228 : decode (mC m_LW_begun) 228 = .ok (.iconst 1, 1) := by decide +kernel
theorem d_LW_begun_229 : decode (mC m_LW_begun) 229 = .ok (.iload 4, 2) := by decide +kernel
theorem d_LW_begun_231 : decode (mC m_LW_begun) 231 = .ok (.iadd, 1) := by decide +kernel
theorem d_LW_begun_232 : decode (mC m_LW_begun) 232 = .ok (.bipush 10, 2) := by decide +kernel
theorem d_LW_begun_234 : decode (mC m_LW_begun) 234 = .ok (.aload_n 1, 1) := by decide +kernel
theorem d_LW_begun_235 : decode (mC m_LW_begun) 235 = .ok (.bipush 9, 2) := by decide +kernel
theorem d_LW_begun_237 : decode (mC m_LW_begun) 237 = .ok (.iload 4, 2) := by decide +kernel
theorem d_LW_begun_239 : decode (mC m_LW_begun) 239 = .ok (.iadd, 1) := by decide +kernel
theorem d_LW_begun_240 : decode (mC m_LW_begun) 240 = .ok (.sipush 400, 3) := by decide +kernel
theorem d_LW_begun_243 : decode (mC m_LW_begun) 243 = .ok (.invokestatic 34, 3) := by decide +kernel
theorem d_LW_begun_246 : decode (mC m_LW_begun) 246 = .ok (.imul, 1) := by decide +kernel
theorem d_LW_begun_247 : decode (mC m_LW_begun) 247 = .ok (.iadd, 1) := by decide +kernel
theorem d_LW_begun_248 : decode (mC m_LW_begun) 248 = .ok (.iastore, 1) := by decide +kernel
theorem d_LW_begun_249 : decode (mC m_LW_begun) 249 = .ok (.new 51, 3) := by decide +kernel
theorem d_LW_begun_252 : decode (mC m_LW_begun) 252 = .ok (.dup, 1) := by decide +kernel
theorem d_LW_begun_253 : decode (mC m_LW_begun) 253 = .ok (.invokespecial 53, 3) := by decide +kernel
theorem d_LW_begun_256 : decode (mC m_LW_begun) 256 = .ok (.aload_n 3, 1) := by decide +kernel
theorem d_LW_begun_257 : decode (mC m_LW_begun) 257 = .ok (.invokevirtual 54, 3) := by decide +kernel
theorem d_LW_begun_260 : decode (mC m_LW_begun) 260 = .ok (.ldc 57, 2) := by decide +kernel
theorem d_LW_begun_262 : decode (mC m_LW_begun) 262 = .ok (.invokevirtual 54, 3) := by decide +kernel
theorem d_LW_begun_265 : decode (mC m_LW_begun) 265 = .ok (.aload_n 2, 1) := by decide +kernel
theorem d_LW_begun_266 : decode (mC m_LW_begun) 266 = .ok (.getfield 40, 3) := by decide +kernel
theorem d_LW_begun_269 : decode (mC m_LW_begun) 269 = .ok (.iload 4, 2) := by decide +kernel
theorem d_LW_begun_271 : decode (mC m_LW_begun) 271 = .ok (.iaload, 1) := by decide +kernel
theorem d_LW_begun_272 : decode (mC m_LW_begun) 272 = .ok (.invokevirtual 59, 3) := by decide +kernel
theorem d_LW_begun_275 : decode (mC m_LW_begun) 275 = .ok (.invokevirtual 62, 3) := by decide +kernel
theorem d_LW_begun_278 : decode (mC m_LW_begun) 278 = .ok (.astore_n 3, 1) := by decide +kernel
theorem d_LW_begun_279 : decode (mC m_LW_begun) 279 = .ok (.iinc 4 1, 3) := by decide +kernel
theorem d_LW_begun_282 : decode (mC m_LW_begun) 282 = .ok (.goto (-70), 3) := by decide +kernel
theorem d_LW_begun_285 : decode (mC m_LW_begun) 285 = .ok (.new 51, 3) := by decide +kernel
theorem d_LW_begun_288 : decode (mC m_LW_begun) 288 = .ok (.dup, 1) := by decide +kernel
theorem d_LW_begun_289 : decode (mC m_LW_begun) 289 = .ok (.invokespecial 53, 3) := by decide +kernel
theorem d_LW_begun_292 : decode (mC m_LW_begun) 292 = .ok (.aload_n 3, 1) := by decide +kernel
theorem d_LW_begun_293 : decode (mC m_LW_begun) 293 = .ok (.invokevirtual 54, 3) := by decide +kernel
theorem d_LW_begun_296 : decode (mC m_LW_begun) 296 = .ok (.ldc 68, 2) := by decide +kernel
theorem d_LW_begun_298 : decode (mC m_LW_begun) 298 = .ok (.invokevirtual 54, 3) := by decide +kernel
theorem d_LW_begun_301 : decode (mC m_LW_begun) 301 = .ok (.invokevirtual 62, 3) := by decide +kernel
theorem d_LW_begun_304 : decode (mC m_LW_begun) 304 = .ok (.astore_n 3, 1) := by decide +kernel
theorem d_LW_begun_305 : decode (mC m_LW_begun) 305 = .ok (.iconst 0, 1) := by decide +kernel
theorem d_LW_begun_306 : decode (mC m_LW_begun) 306 = .ok (.istore 4, 2) := by decide +kernel
theorem d_LW_begun_308 : decode (mC m_LW_begun) 308 = .ok (.iload 4, 2) := by decide +kernel
theorem d_LW_begun_310 : decode (mC m_LW_begun) 310 = .ok (.aload_n 2, 1) := by decide +kernel
theorem d_LW_begun_311 : decode (mC m_LW_begun) 311 = .ok (.getfield 45, 3) := by decide +kernel
theorem d_LW_begun_314 : decode (mC m_LW_begun) 314 = .ok (.arraylength, 1) := by decide +kernel
theorem d_LW_begun_315 : decode (mC m_LW_begun) 315 = .ok (.if_icmp .ge 317, 3) := by decide +kernel
theorem d_LW_begun_318 : decode (mC m_LW_begun) 318 = .ok (.new 43, 3) := by decide +kernel
theorem d_LW_begun_321 : decode (mC m_LW_begun) 321 = .ok (.dup, 1) := by decide +kernel
theorem d_LW_begun_322 : decode (mC m_LW_begun) 322 = .ok (.invokespecial 70, 3) := by decide +kernel
theorem d_LW_begun_325 : decode (mC m_LW_begun) 325 = .ok (.astore 5, 2) := by decide +kernel
theorem d_LW_begun_327 : decode (mC m_LW_begun) 327 = .ok (.aload 5, 2) := by decide +kernel
theorem d_LW_begun_329 : decode (mC m_LW_begun) 329 = .ok (.aload_n 1, 1) := by decide +kernel
theorem d_LW_begun_330 : decode (mC m_LW_begun) 330 = .ok (.bipush 13, 2) := by decide +kernel
theorem d_LW_begun_332 : decode (mC m_LW_begun) 332 = .ok (.iload 4, 2) := by decide +kernel
theorem d_LW_begun_334 : decode (mC m_LW_begun) 334 = .ok (.iadd, 1) := by decide +kernel
theorem d_LW_begun_335 : decode (mC m_LW_begun) 335 = .ok (.sipush 200, 3) := by decide +kernel
theorem d_LW_begun_338 : decode (mC m_LW_begun) 338 = .ok (.invokestatic 34, 3) := by decide +kernel
theorem d_LW_begun_341 : decode (mC m_LW_begun) 341 = .ok (.putfield 71, 3) := by decide +kernel
theorem d_LW_begun_344 : decode (mC m_LW_begun) 344 = .ok (.aload 5, 2) := by decide +kernel
theorem d_LW_begun_346 : decode (mC m_LW_begun) 346 = .ok (.aload_n 1, 1) := by decide +kernel
theorem d_LW_begun_347 : decode (mC m_LW_begun) 347 = .ok (.bipush 19, 2) := by decide +kernel
theorem d_LW_begun_349 : decode (mC m_LW_begun) 349 = .ok (.iload 4, 2) := by decide +kernel
theorem d_LW_begun_351 : decode (mC m_LW_begun) 351 = .ok (.iadd, 1) := by decide +kernel
theorem d_LW_begun_352 : decode (mC m_LW_begun) 352 = .ok (.bipush 60, 2) := by decide +kernel
theorem d_LW_begun_354 : decode (mC m_LW_begun) 354 = .ok (.invokestatic 34, 3) := by decide +kernel
theorem d_LW_begun_357 : decode (mC m_LW_begun) 357 = .ok (.bipush 30, 2) := by decide +kernel
theorem d_LW_begun_359 : decode (mC m_LW_begun) 359 = .ok (.isub, 1) := by decide +kernel
theorem d_LW_begun_360 : decode (mC m_LW_begun) 360 = .ok (.putfield 75, 3) := by decide +kernel
theorem d_LW_begun_363 : decode (mC m_LW_begun) 363 = .ok (.aload 5, 2) := by decide +kernel
theorem d_LW_begun_365 : decode (mC m_LW_begun) 365 = .ok (.aload_n 1, 1) := by decide +kernel
theorem d_LW_begun_366 : decode (mC m_LW_begun) 366 = .ok (.bipush 25, 2) := by decide +kernel
theorem d_LW_begun_368 : decode (mC m_LW_begun) 368 = .ok (.iload 4, 2) := by decide +kernel
theorem d_LW_begun_370 : decode (mC m_LW_begun) 370 = .ok (.iadd, 1) := by decide +kernel
theorem d_LW_begun_371 : decode (mC m_LW_begun) 371 = .ok (.bipush 41, 2) := by decide +kernel
theorem d_LW_begun_373 : decode (mC m_LW_begun) 373 = .ok (.invokestatic 34, 3) := by decide +kernel
theorem d_LW_begun_376 : decode (mC m_LW_begun) 376 = .ok (.bipush 20, 2) := by decide +kernel
theorem d_LW_begun_378 : decode (mC m_LW_begun) 378 = .ok (.isub, 1) := by decide +kernel
theorem d_LW_begun_379 : decode (mC m_LW_begun) 379 = .ok (.putfield 78, 3) := by decide +kernel
theorem d_LW_begun_382 : decode (mC m_LW_begun) 382 = .ok (.aload 5, 2) := by decide +kernel
theorem d_LW_begun_384 : decode (mC m_LW_begun) 384 = .ok (.aload_n 1, 1) := by decide +kernel
theorem d_LW_begun_385 : decode (mC m_LW_begun) 385 = .ok (.bipush 31, 2) := by decide +kernel
theorem d_LW_begun_387 : decode (mC m_LW_begun) 387 = .ok (.iload 4, 2) := by decide +kernel
theorem d_LW_begun_389 : decode (mC m_LW_begun) 389 = .ok (.iadd, 1) := by decide +kernel
theorem d_LW_begun_390 : decode (mC m_LW_begun) 390 = .ok (.bipush 11, 2) := by decide +kernel
theorem d_LW_begun_392 : decode (mC m_LW_begun) 392 = .ok (.invokestatic 34, 3) := by decide +kernel
theorem d_LW_begun_395 : decode (mC m_LW_begun) 395 = .ok (.iconst 5, 1) := by decide +kernel
theorem d_LW_begun_396 : decode (mC m_LW_begun) 396 = .ok (.isub, 1) := by decide +kernel
theorem d_LW_begun_397 : decode (mC m_LW_begun) 397 = .ok (.putfield 81, 3) := by decide +kernel
theorem d_LW_begun_400 : decode (mC m_LW_begun) 400 = .ok (.aload 5, 2) := by decide +kernel
theorem d_LW_begun_402 : decode (mC m_LW_begun) 402 = .ok (.iconst 1, 1) := by decide +kernel
theorem d_LW_begun_403 : decode (mC m_LW_begun) 403 = .ok (.aload_n 1, 1) := by decide +kernel
theorem d_LW_begun_404 : decode (mC m_LW_begun) 404 = .ok (.bipush 37, 2) := by decide +kernel
theorem d_LW_begun_406 : decode (mC m_LW_begun) 406 = .ok (.iload 4, 2) := by decide +kernel
theorem d_LW_begun_408 : decode (mC m_LW_begun) 408 = .ok (.iadd, 1) := by decide +kernel
theorem d_LW_begun_409 : decode (mC m_LW_begun) 409 = .ok (.sipush 1500, 3) := by decide +kernel
theorem d_LW_begun_412 : decode (mC m_LW_begun) 412 = .ok (.invokestatic 34, 3) := by decide +kernel
theorem d_LW_begun_415 : decode (mC m_LW_begun) 415 = .ok (.iadd, 1) := by decide +kernel
theorem d_LW_begun_416 : decode (mC m_LW_begun) 416 = .ok (.putfield 84, 3) := by decide +kernel
theorem d_LW_begun_419 : decode (mC m_LW_begun) 419 = .ok (.aload 5, 2) := by decide +kernel
theorem d_LW_begun_421 : decode (mC m_LW_begun) 421 = .ok (.aload_n 1, 1) := by decide +kernel
theorem d_LW_begun_422 : decode (mC m_LW_begun) 422 = .ok (.bipush 43, 2) := by decide +kernel
theorem d_LW_begun_424 : decode (mC m_LW_begun) 424 = .ok (.iload 4, 2) := by decide +kernel
theorem d_LW_begun_426 : decode (mC m_LW_begun) 426 = .ok (.iadd, 1) := by decide +kernel
theorem d_LW_begun_427 : decode (mC m_LW_begun) 427 = .ok (.bipush 30, 2) := by decide +kernel
theorem d_LW_begun_429 : decode (mC m_LW_begun) 429 = .ok (.invokestatic 34, 3) := by decide +kernel
theorem d_LW_begun_432 : decode (mC m_LW_begun) 432 = .ok (.putfield 87, 3) := by decide +kernel
theorem d_LW_begun_435 : decode (mC m_LW_begun) 435 = .ok (.aload 5, 2) := by decide +kernel
theorem d_LW_begun_437 : decode (mC m_LW_begun) 437 = .ok (.aload_n 1, 1) := by decide +kernel
theorem d_LW_begun_438 : decode (mC m_LW_begun) 438 = .ok (.bipush 49, 2) := by decide +kernel
theorem d_LW_begun_440 : decode (mC m_LW_begun) 440 = .ok (.iload 4, 2) := by decide +kernel
theorem d_LW_begun_442 : decode (mC m_LW_begun) 442 = .ok (.iadd, 1) := by decide +kernel
theorem d_LW_begun_443 : decode (mC m_LW_begun) 443 = .ok (.iconst 3, 1) := by decide +kernel
theorem d_LW_begun_444 : decode (mC m_LW_begun) 444 = .ok (.invokestatic 34, 3) := by decide +kernel
theorem d_LW_begun_447 : decode (mC m_LW_begun) 447 = .ok (.ifCond .ne 7, 3) := by decide +kernel
theorem d_LW_begun_450 : decode (mC m_LW_begun) 450 = .ok (.iconst 0, 1) := by decide +kernel
theorem d_LW_begun_451 : decode (mC m_LW_begun) 451 = .ok (.goto 14, 3) := by decide +kernel
theorem d_LW_begun_454 : decode (mC m_LW_begun) 454 = .ok (.aload_n 1, 1) := by decide +kernel
theorem d_LW_begun_455 : decode (mC m_LW_begun) 455 = .ok (.bipush 55, 2) := by decide +kernel
theorem d_LW_begun_457 : decode (mC m_LW_begun) 457 = .ok (.iload 4, 2) := by decide +kernel
theorem d_LW_begun_459 : decode (mC m_LW_begun) 459 = .ok (.iadd, 1) := by decide +kernel
theorem d_LW_begun_460 : decode (mC m_LW_begun) 460 = .ok (.bipush 60, 2) := by decide +kernel
theorem d_LW_begun_462 : decode (mC m_LW_begun) 462 = .ok (.invokestatic 34, 3) := by decide +kernel
theorem d_LW_begun_465 : decode (mC m_LW_begun) 465 = .ok (.putfield 90, 3) := by decide +kernel
theorem d_LW_begun_468 : decode (mC m_LW_begun) 468 = .ok (.aload 5, 2) := by decide +kernel
theorem d_LW_begun_470 : decode (mC m_LW_begun) 470 = .ok (.aload_n 1, 1) := by decide +kernel
theorem d_LW_begun_471 : decode (mC m_LW_begun) 471 = .ok (.bipush 61, 2) := by decide +kernel
theorem d_LW_begun_473 : decode (mC m_LW_begun) 473 = .ok (.iload 4, 2) := by decide +kernel
theorem d_LW_begun_475 : decode (mC m_LW_begun) 475 = .ok (.iadd, 1) := by decide +kernel
theorem d_LW_begun_476 : decode (mC m_LW_begun) 476 = .ok (.bipush 9, 2) := by decide +kernel
theorem d_LW_begun_478 : decode (mC m_LW_begun) 478 = .ok (.invokestatic 34, 3) := by decide +kernel
theorem d_LW_begun_481 : decode (mC m_LW_begun) 481 = .ok (.putfield 93, 3) := by decide +kernel
theorem d_LW_begun_484 : decode (mC m_LW_begun) 484 = .ok (.aload_n 2, 1) := by decide +kernel
theorem d_LW_begun_485 : decode (mC m_LW_begun) 485 = .ok (.getfield 45, 3) := by decide +kernel
theorem d_LW_begun_488 : decode (mC m_LW_begun) 488 = .ok (.iload 4, 2) := by decide +kernel
theorem d_LW_begun_490 : decode (mC m_LW_begun) 490 = .ok (.aload 5, 2) := by decide +kernel
theorem d_LW_begun_492 : decode (mC m_LW_begun) 492 = .ok (.aastore, 1) := by decide +kernel
theorem d_LW_begun_493 : decode (mC m_LW_begun) 493 = .ok (.new 51, 3) := by decide +kernel
theorem d_LW_begun_496 : decode (mC m_LW_begun) 496 = .ok (.dup, 1) := by decide +kernel
theorem d_LW_begun_497 : decode (mC m_LW_begun) 497 = .ok (.invokespecial 53, 3) := by decide +kernel
theorem d_LW_begun_500 : decode (mC m_LW_begun) 500 = .ok (.aload_n 3, 1) := by decide +kernel
theorem d_LW_begun_501 : decode (mC m_LW_begun) 501 = .ok (.invokevirtual 54, 3) := by decide +kernel
theorem d_LW_begun_504 : decode (mC m_LW_begun) 504 = .ok (.ldc 96, 2) := by decide +kernel
theorem d_LW_begun_506 : decode (mC m_LW_begun) 506 = .ok (.invokevirtual 54, 3) := by decide +kernel
theorem d_LW_begun_509 : decode (mC m_LW_begun) 509 = .ok (.aload 5, 2) := by decide +kernel
theorem d_LW_begun_511 : decode (mC m_LW_begun) 511 = .ok (.getfield 71, 3) := by decide +kernel
theorem d_LW_begun_514 : decode (mC m_LW_begun) 514 = .ok (.invokevirtual 59, 3) := by decide +kernel
theorem d_LW_begun_517 : decode (mC m_LW_begun) 517 = .ok (.ldc 57, 2) := by decide +kernel
theorem d_LW_begun_519 : decode (mC m_LW_begun) 519 = .ok (.invokevirtual 54, 3) := by decide +kernel
theorem d_LW_begun_522 : decode (mC m_LW_begun) 522 = .ok (.aload 5, 2) := by decide +kernel
theorem d_LW_begun_524 : decode (mC m_LW_begun) 524 = .ok (.getfield 75, 3) := by decide +kernel
theorem d_LW_begun_527 : decode (mC m_LW_begun) 527 = .ok (.sipush 500, 3) := by decide +kernel
theorem d_LW_begun_530 : decode (mC m_LW_begun) 530 = .ok (.iadd, 1) := by decide +kernel
theorem d_LW_begun_531 : decode (mC m_LW_begun) 531 = .ok (.invokevirtual 59, 3) := by decide +kernel
theorem d_LW_begun_534 : decode (mC m_LW_begun) 534 = .ok (.ldc 57, 2) := by decide +kernel
theorem d_LW_begun_536 : decode (mC m_LW_begun) 536 = .ok (.invokevirtual 54, 3) := by decide +kernel
theorem d_LW_begun_539 : decode (mC m_LW_begun) 539 = .ok (.aload 5, 2) := by decide +kernel
theorem d_LW_begun_541 : decode (mC m_LW_begun) 541 = .ok (.getfield 78, 3) := by decide +kernel
theorem d_LW_begun_544 : decode (mC m_LW_begun) 544 = .ok (.bipush 50, 2) := by decide +kernel
theorem d_LW_begun_546 : decode (mC m_LW_begun) 546 = .ok (.iadd, 1) := by decide +kernel
theorem d_LW_begun_547 : decode (mC m_LW_begun) 547 = .ok (.invokevirtual 59, 3) := by decide +kernel
theorem d_LW_begun_550 : decode (mC m_LW_begun) 550 = .ok (.ldc 57, 2) := by decide +kernel
theorem d_LW_begun_552 : decode (mC m_LW_begun) 552 = .ok (.invokevirtual 54, 3) := by decide +kernel
theorem d_LW_begun_555 : decode (mC m_LW_begun) 555 = .ok (.aload 5, 2) := by decide +kernel
theorem d_LW_begun_557 : decode (mC m_LW_begun) 557 = .ok (.getfield 81, 3) := by decide +kernel
theorem d_LW_begun_560 : decode (mC m_LW_begun) 560 = .ok (.iconst 5, 1) := by decide +kernel
theorem d_LW_begun_561 : decode (mC m_LW_begun) 561 = .ok (.iadd, 1) := by decide +kernel
theorem d_LW_begun_562 : decode (mC m_LW_begun) 562 = .ok (.invokevirtual 59, 3) := by decide +kernel
theorem d_LW_begun_565 : decode (mC m_LW_begun) 565 = .ok (.ldc 57, 2) := by decide +kernel
theorem d_LW_begun_567 : decode (mC m_LW_begun) 567 = .ok (.invokevirtual 54, 3) := by decide +kernel
theorem d_LW_begun_570 : decode (mC m_LW_begun) 570 = .ok (.aload 5, 2) := by decide +kernel
theorem d_LW_begun_572 : decode (mC m_LW_begun) 572 = .ok (.getfield 84, 3) := by decide +kernel
theorem d_LW_begun_575 : decode (mC m_LW_begun) 575 = .ok (.invokevirtual 59, 3) := by decide +kernel
theorem d_LW_begun_578 : decode (mC m_LW_begun) 578 = .ok (.ldc 57, 2) := by decide +kernel
theorem d_LW_begun_580 : decode (mC m_LW_begun) 580 = .ok (.invokevirtual 54, 3) := by decide +kernel
theorem d_LW_begun_583 : decode (mC m_LW_begun) 583 = .ok (.aload 5, 2) := by decide +kernel
theorem d_LW_begun_585 : decode (mC m_LW_begun) 585 = .ok (.getfield 87, 3) := by decide +kernel
theorem d_LW_begun_588 : decode (mC m_LW_begun) 588 = .ok (.invokevirtual 59, 3) := by decide +kernel
theorem d_LW_begun_591 : decode (mC m_LW_begun) 591 = .ok (.ldc 57, 2) := by decide +kernel
theorem d_LW_begun_593 : decode (mC m_LW_begun) 593 = .ok (.invokevirtual 54, 3) := by decide +kernel
theorem d_LW_begun_596 : decode (mC m_LW_begun) 596 = .ok (.aload 5, 2) := by decide +kernel
theorem d_LW_begun_598 : decode (mC m_LW_begun) 598 = .ok (.getfield 90, 3) := by decide +kernel
theorem d_LW_begun_601 : decode (mC m_LW_begun) 601 = .ok (.invokevirtual 59, 3) := by decide +kernel
theorem d_LW_begun_604 : decode (mC m_LW_begun) 604 = .ok (.ldc 57, 2) := by decide +kernel
theorem d_LW_begun_606 : decode (mC m_LW_begun) 606 = .ok (.invokevirtual 54, 3) := by decide +kernel
theorem d_LW_begun_609 : decode (mC m_LW_begun) 609 = .ok (.aload 5, 2) := by decide +kernel
theorem d_LW_begun_611 : decode (mC m_LW_begun) 611 = .ok (.getfield 93, 3) := by decide +kernel
theorem d_LW_begun_614 : decode (mC m_LW_begun) 614 = .ok (.invokevirtual 59, 3) := by decide +kernel
theorem d_LW_begun_617 : decode (mC m_LW_begun) 617 = .ok (.ldc 68, 2) := by decide +kernel
theorem d_LW_begun_619 : decode (mC m_LW_begun) 619 = .ok (.invokevirtual 54, 3) := by decide +kernel
theorem d_LW_begun_622 : decode (mC m_LW_begun) 622 = .ok (.invokevirtual 62, 3) := by decide +kernel
theorem d_LW_begun_625 : decode (mC m_LW_begun) 625 = .ok (.astore_n 3, 1) := by decide +kernel
theorem d_LW_begun_626 : decode (mC m_LW_begun) 626 = .ok (.iinc 4 1, 3) := by decide +kernel
theorem d_LW_begun_629 : decode (mC m_LW_begun) 629 = .ok (.goto (-321), 3) := by decide +kernel
theorem d_LW_begun_632 : decode (mC m_LW_begun) 632 = .ok (.aload_n 0, 1) := by decide +kernel
theorem d_LW_begun_633 : decode (mC m_LW_begun) 633 = .ok (.aload_n 3, 1) := by decide +kernel
theorem d_LW_begun_634 : decode (mC m_LW_begun) 634 = .ok (.invokestatic 98, 3) := by decide +kernel
theorem d_LW_begun_637 : decode (mC m_LW_begun) 637 = .ok (.aload_n 0, 1) := by decide +kernel
theorem d_LW_begun_638 : decode (mC m_LW_begun) 638 = .ok (.invokevirtual 102, 3) := by decide +kernel
theorem d_LW_begun_641 : decode (mC m_LW_begun) 641 = .ok (.aload_n 2, 1) := by decide +kernel
theorem d_LW_begun_642 : decode (mC m_LW_begun) 642 = .ok (.getfield 45, 3) := by decide +kernel
theorem d_LW_begun_645 : decode (mC m_LW_begun) 645 = .ok (.arraylength, 1) := by decide +kernel
theorem d_LW_begun_646 : decode (mC m_LW_begun) 646 = .ok (.if_icmp .ne 38, 3) := by decide +kernel
theorem d_LW_begun_649 : decode (mC m_LW_begun) 649 = .ok (.aload_n 0, 1) := by decide +kernel
theorem d_LW_begun_650 : decode (mC m_LW_begun) 650 = .ok (.invokevirtual 105, 3) := by decide +kernel
theorem d_LW_begun_653 : decode (mC m_LW_begun) 653 = .ok (.aload_n 2, 1) := by decide +kernel
theorem d_LW_begun_654 : decode (mC m_LW_begun) 654 = .ok (.getfield 40, 3) := by decide +kernel
theorem d_LW_begun_657 : decode (mC m_LW_begun) 657 = .ok (.arraylength, 1) := by decide +kernel
theorem d_LW_begun_658 : decode (mC m_LW_begun) 658 = .ok (.if_icmp .ne 26, 3) := by decide +kernel
theorem d_LW_begun_661 : decode (mC m_LW_begun) 661 = .ok (.aload_n 0, 1) := by decide +kernel
theorem d_LW_begun_662 : decode (mC m_LW_begun) 662 = .ok (.invokevirtual 108, 3) := by decide +kernel
theorem d_LW_begun_665 : decode (mC m_LW_begun) 665 = .ok (.ifCond .ne 19, 3) := by decide +kernel
theorem d_LW_begun_668 : decode (mC m_LW_begun) 668 = .ok (.aload_n 0, 1) := by decide +kernel
theorem d_LW_begun_669 : decode (mC m_LW_begun) 669 = .ok (.invokevirtual 111, 3) := by decide +kernel
theorem d_LW_begun_672 : decode (mC m_LW_begun) 672 = .ok (.aload_n 2, 1) := by decide +kernel
theorem d_LW_begun_673 : decode (mC m_LW_begun) 673 = .ok (.getfield 45, 3) := by decide +kernel
theorem d_LW_begun_676 : decode (mC m_LW_begun) 676 = .ok (.arraylength, 1) := by decide +kernel
theorem d_LW_begun_677 : decode (mC m_LW_begun) 677 = .ok (.if_icmp .ne 7, 3) := by decide +kernel
theorem d_LW_begun_680 : decode (mC m_LW_begun) 680 = .ok (.aload_n 2, 1) := by decide +kernel
theorem d_LW_begun_681 : decode (mC m_LW_begun) 681 = .ok (.goto 4, 3) := by decide +kernel
theorem d_LW_begun_684 : decode (mC m_LW_begun) 684 = .ok (.aconst_null, 1) := by decide +kernel
theorem d_LW_begun_685 : decode (mC m_LW_begun) 685 = .ok (.areturn, 1) := by decide +kernel
