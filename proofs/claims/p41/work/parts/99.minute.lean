/-! Pieces of a minute of the law. -/
theorem d296_28 : decode (m_code 296) 28 = .ok (.iload 8, 2) := by decide +kernel
theorem d296_30 : decode (m_code 296) 30 = .ok (.iconst 4, 1) := by decide +kernel
theorem d296_31 : decode (m_code 296) 31 = .ok (.if_icmp .ge 170, 3) := by decide +kernel
theorem d296_34 : decode (m_code 296) 34 = .ok (.iload 8, 2) := by decide +kernel
theorem d296_36 : decode (m_code 296) 36 = .ok (.aload_n 3, 1) := by decide +kernel
theorem d296_37 : decode (m_code 296) 37 = .ok (.invokestatic 24, 3) := by decide +kernel
theorem d296_40 : decode (m_code 296) 40 = .ok (.istore 9, 2) := by decide +kernel
theorem d296_42 : decode (m_code 296) 42 = .ok (.aload 7, 2) := by decide +kernel
theorem d296_44 : decode (m_code 296) 44 = .ok (.aload_n 0, 1) := by decide +kernel
theorem d296_45 : decode (m_code 296) 45 = .ok (.iconst 0, 1) := by decide +kernel
theorem d296_46 : decode (m_code 296) 46 = .ok (.iaload, 1) := by decide +kernel
theorem d296_47 : decode (m_code 296) 47 = .ok (.dup2, 1) := by decide +kernel
theorem d296_48 : decode (m_code 296) 48 = .ok (.iaload, 1) := by decide +kernel
theorem d296_49 : decode (m_code 296) 49 = .ok (.iload 9, 2) := by decide +kernel
theorem d296_51 : decode (m_code 296) 51 = .ok (.ifCond .eq 10, 3) := by decide +kernel
theorem d296_54 : decode (m_code 296) 54 = .ok (.iconst 1, 1) := by decide +kernel
theorem d296_55 : decode (m_code 296) 55 = .ok (.iload 8, 2) := by decide +kernel
theorem d296_57 : decode (m_code 296) 57 = .ok (.ishl, 1) := by decide +kernel
theorem d296_58 : decode (m_code 296) 58 = .ok (.goto 4, 3) := by decide +kernel
theorem d296_61 : decode (m_code 296) 61 = .ok (.iconst 0, 1) := by decide +kernel
theorem d296_62 : decode (m_code 296) 62 = .ok (.ior, 1) := by decide +kernel
theorem d296_63 : decode (m_code 296) 63 = .ok (.iastore, 1) := by decide +kernel
theorem d296_64 : decode (m_code 296) 64 = .ok (.aload_n 1, 1) := by decide +kernel
theorem d296_65 : decode (m_code 296) 65 = .ok (.bipush 6, 2) := by decide +kernel
theorem d296_67 : decode (m_code 296) 67 = .ok (.iload 8, 2) := by decide +kernel
theorem d296_69 : decode (m_code 296) 69 = .ok (.imul, 1) := by decide +kernel
theorem d296_70 : decode (m_code 296) 70 = .ok (.iconst 2, 1) := by decide +kernel
theorem d296_71 : decode (m_code 296) 71 = .ok (.iadd, 1) := by decide +kernel
theorem d296_72 : decode (m_code 296) 72 = .ok (.iload 9, 2) := by decide +kernel
theorem d296_74 : decode (m_code 296) 74 = .ok (.ifCond .eq 17, 3) := by decide +kernel
theorem d296_77 : decode (m_code 296) 77 = .ok (.aload_n 1, 1) := by decide +kernel
theorem d296_78 : decode (m_code 296) 78 = .ok (.bipush 6, 2) := by decide +kernel
theorem d296_80 : decode (m_code 296) 80 = .ok (.iload 8, 2) := by decide +kernel
theorem d296_82 : decode (m_code 296) 82 = .ok (.imul, 1) := by decide +kernel
theorem d296_83 : decode (m_code 296) 83 = .ok (.iconst 2, 1) := by decide +kernel
theorem d296_84 : decode (m_code 296) 84 = .ok (.iadd, 1) := by decide +kernel
theorem d296_85 : decode (m_code 296) 85 = .ok (.iaload, 1) := by decide +kernel
theorem d296_86 : decode (m_code 296) 86 = .ok (.iconst 1, 1) := by decide +kernel
theorem d296_87 : decode (m_code 296) 87 = .ok (.iadd, 1) := by decide +kernel
theorem d296_88 : decode (m_code 296) 88 = .ok (.goto 4, 3) := by decide +kernel
theorem d296_91 : decode (m_code 296) 91 = .ok (.iconst 0, 1) := by decide +kernel
theorem d296_92 : decode (m_code 296) 92 = .ok (.iastore, 1) := by decide +kernel
theorem d296_93 : decode (m_code 296) 93 = .ok (.aload_n 1, 1) := by decide +kernel
theorem d296_94 : decode (m_code 296) 94 = .ok (.bipush 6, 2) := by decide +kernel
theorem d296_96 : decode (m_code 296) 96 = .ok (.iload 8, 2) := by decide +kernel
theorem d296_98 : decode (m_code 296) 98 = .ok (.imul, 1) := by decide +kernel
theorem d296_99 : decode (m_code 296) 99 = .ok (.iconst 3, 1) := by decide +kernel
theorem d296_100 : decode (m_code 296) 100 = .ok (.iadd, 1) := by decide +kernel
theorem d296_101 : decode (m_code 296) 101 = .ok (.iload 9, 2) := by decide +kernel
theorem d296_103 : decode (m_code 296) 103 = .ok (.ifCond .eq 7, 3) := by decide +kernel
theorem d296_106 : decode (m_code 296) 106 = .ok (.iconst 0, 1) := by decide +kernel
theorem d296_107 : decode (m_code 296) 107 = .ok (.goto 14, 3) := by decide +kernel
theorem d296_110 : decode (m_code 296) 110 = .ok (.aload_n 1, 1) := by decide +kernel
theorem d296_111 : decode (m_code 296) 111 = .ok (.bipush 6, 2) := by decide +kernel
theorem d296_113 : decode (m_code 296) 113 = .ok (.iload 8, 2) := by decide +kernel
theorem d296_115 : decode (m_code 296) 115 = .ok (.imul, 1) := by decide +kernel
theorem d296_116 : decode (m_code 296) 116 = .ok (.iconst 3, 1) := by decide +kernel
theorem d296_117 : decode (m_code 296) 117 = .ok (.iadd, 1) := by decide +kernel
theorem d296_118 : decode (m_code 296) 118 = .ok (.iaload, 1) := by decide +kernel
theorem d296_119 : decode (m_code 296) 119 = .ok (.iconst 1, 1) := by decide +kernel
theorem d296_120 : decode (m_code 296) 120 = .ok (.iadd, 1) := by decide +kernel
theorem d296_121 : decode (m_code 296) 121 = .ok (.iastore, 1) := by decide +kernel
theorem d296_122 : decode (m_code 296) 122 = .ok (.aload_n 1, 1) := by decide +kernel
theorem d296_123 : decode (m_code 296) 123 = .ok (.bipush 6, 2) := by decide +kernel
theorem d296_125 : decode (m_code 296) 125 = .ok (.iload 8, 2) := by decide +kernel
theorem d296_127 : decode (m_code 296) 127 = .ok (.imul, 1) := by decide +kernel
theorem d296_128 : decode (m_code 296) 128 = .ok (.iconst 4, 1) := by decide +kernel
theorem d296_129 : decode (m_code 296) 129 = .ok (.iadd, 1) := by decide +kernel
theorem d296_130 : decode (m_code 296) 130 = .ok (.aload_n 1, 1) := by decide +kernel
theorem d296_131 : decode (m_code 296) 131 = .ok (.bipush 6, 2) := by decide +kernel
theorem d296_133 : decode (m_code 296) 133 = .ok (.iload 8, 2) := by decide +kernel
theorem d296_135 : decode (m_code 296) 135 = .ok (.imul, 1) := by decide +kernel
theorem d296_136 : decode (m_code 296) 136 = .ok (.iconst 3, 1) := by decide +kernel
theorem d296_137 : decode (m_code 296) 137 = .ok (.iadd, 1) := by decide +kernel
theorem d296_138 : decode (m_code 296) 138 = .ok (.iaload, 1) := by decide +kernel
theorem d296_139 : decode (m_code 296) 139 = .ok (.aload_n 1, 1) := by decide +kernel
theorem d296_140 : decode (m_code 296) 140 = .ok (.bipush 6, 2) := by decide +kernel
theorem d296_142 : decode (m_code 296) 142 = .ok (.iload 8, 2) := by decide +kernel
theorem d296_144 : decode (m_code 296) 144 = .ok (.imul, 1) := by decide +kernel
theorem d296_145 : decode (m_code 296) 145 = .ok (.iconst 4, 1) := by decide +kernel
theorem d296_146 : decode (m_code 296) 146 = .ok (.iadd, 1) := by decide +kernel
theorem d296_147 : decode (m_code 296) 147 = .ok (.iaload, 1) := by decide +kernel
theorem d296_148 : decode (m_code 296) 148 = .ok (.if_icmp .le 15, 3) := by decide +kernel
theorem d296_151 : decode (m_code 296) 151 = .ok (.aload_n 1, 1) := by decide +kernel
theorem d296_152 : decode (m_code 296) 152 = .ok (.bipush 6, 2) := by decide +kernel
theorem d296_154 : decode (m_code 296) 154 = .ok (.iload 8, 2) := by decide +kernel
theorem d296_156 : decode (m_code 296) 156 = .ok (.imul, 1) := by decide +kernel
theorem d296_157 : decode (m_code 296) 157 = .ok (.iconst 3, 1) := by decide +kernel
theorem d296_158 : decode (m_code 296) 158 = .ok (.iadd, 1) := by decide +kernel
theorem d296_159 : decode (m_code 296) 159 = .ok (.iaload, 1) := by decide +kernel
theorem d296_160 : decode (m_code 296) 160 = .ok (.goto 12, 3) := by decide +kernel
theorem d296_163 : decode (m_code 296) 163 = .ok (.aload_n 1, 1) := by decide +kernel
theorem d296_164 : decode (m_code 296) 164 = .ok (.bipush 6, 2) := by decide +kernel
theorem d296_166 : decode (m_code 296) 166 = .ok (.iload 8, 2) := by decide +kernel
theorem d296_168 : decode (m_code 296) 168 = .ok (.imul, 1) := by decide +kernel
theorem d296_169 : decode (m_code 296) 169 = .ok (.iconst 4, 1) := by decide +kernel
theorem d296_170 : decode (m_code 296) 170 = .ok (.iadd, 1) := by decide +kernel
theorem d296_171 : decode (m_code 296) 171 = .ok (.iaload, 1) := by decide +kernel
theorem d296_172 : decode (m_code 296) 172 = .ok (.iastore, 1) := by decide +kernel
theorem d296_173 : decode (m_code 296) 173 = .ok (.aload_n 1, 1) := by decide +kernel
theorem d296_174 : decode (m_code 296) 174 = .ok (.bipush 6, 2) := by decide +kernel
theorem d296_176 : decode (m_code 296) 176 = .ok (.iload 8, 2) := by decide +kernel
theorem d296_178 : decode (m_code 296) 178 = .ok (.imul, 1) := by decide +kernel
theorem d296_179 : decode (m_code 296) 179 = .ok (.iconst 5, 1) := by decide +kernel
theorem d296_180 : decode (m_code 296) 180 = .ok (.iadd, 1) := by decide +kernel
theorem d296_181 : decode (m_code 296) 181 = .ok (.dup2, 1) := by decide +kernel
theorem d296_182 : decode (m_code 296) 182 = .ok (.iaload, 1) := by decide +kernel
theorem d296_183 : decode (m_code 296) 183 = .ok (.iload 9, 2) := by decide +kernel
theorem d296_185 : decode (m_code 296) 185 = .ok (.ifCond .eq 7, 3) := by decide +kernel
theorem d296_188 : decode (m_code 296) 188 = .ok (.iconst 1, 1) := by decide +kernel
theorem d296_189 : decode (m_code 296) 189 = .ok (.goto 4, 3) := by decide +kernel
theorem d296_192 : decode (m_code 296) 192 = .ok (.iconst 0, 1) := by decide +kernel
theorem d296_193 : decode (m_code 296) 193 = .ok (.iadd, 1) := by decide +kernel
theorem d296_194 : decode (m_code 296) 194 = .ok (.iastore, 1) := by decide +kernel
theorem d296_195 : decode (m_code 296) 195 = .ok (.iinc 8 1, 3) := by decide +kernel
theorem d296_198 : decode (m_code 296) 198 = .ok (.goto (-170), 3) := by decide +kernel
theorem d296_222 : decode (m_code 296) 222 = .ok (.iload 8, 2) := by decide +kernel
theorem d296_224 : decode (m_code 296) 224 = .ok (.iconst 4, 1) := by decide +kernel
theorem d296_225 : decode (m_code 296) 225 = .ok (.if_icmp .ge 53, 3) := by decide +kernel
theorem d296_228 : decode (m_code 296) 228 = .ok (.aload_n 1, 1) := by decide +kernel
theorem d296_229 : decode (m_code 296) 229 = .ok (.bipush 6, 2) := by decide +kernel
theorem d296_231 : decode (m_code 296) 231 = .ok (.iload 8, 2) := by decide +kernel
theorem d296_233 : decode (m_code 296) 233 = .ok (.imul, 1) := by decide +kernel
theorem d296_234 : decode (m_code 296) 234 = .ok (.iconst 1, 1) := by decide +kernel
theorem d296_235 : decode (m_code 296) 235 = .ok (.iadd, 1) := by decide +kernel
theorem d296_236 : decode (m_code 296) 236 = .ok (.iaload, 1) := by decide +kernel
theorem d296_237 : decode (m_code 296) 237 = .ok (.ifCond .le 35, 3) := by decide +kernel
theorem d296_240 : decode (m_code 296) 240 = .ok (.aload_n 1, 1) := by decide +kernel
theorem d296_241 : decode (m_code 296) 241 = .ok (.bipush 6, 2) := by decide +kernel
theorem d296_243 : decode (m_code 296) 243 = .ok (.iload 8, 2) := by decide +kernel
theorem d296_245 : decode (m_code 296) 245 = .ok (.imul, 1) := by decide +kernel
theorem d296_246 : decode (m_code 296) 246 = .ok (.iconst 3, 1) := by decide +kernel
theorem d296_247 : decode (m_code 296) 247 = .ok (.iadd, 1) := by decide +kernel
theorem d296_248 : decode (m_code 296) 248 = .ok (.iaload, 1) := by decide +kernel
theorem d296_249 : decode (m_code 296) 249 = .ok (.aload_n 1, 1) := by decide +kernel
theorem d296_250 : decode (m_code 296) 250 = .ok (.bipush 6, 2) := by decide +kernel
theorem d296_252 : decode (m_code 296) 252 = .ok (.iload 8, 2) := by decide +kernel
theorem d296_254 : decode (m_code 296) 254 = .ok (.imul, 1) := by decide +kernel
theorem d296_255 : decode (m_code 296) 255 = .ok (.iconst 1, 1) := by decide +kernel
theorem d296_256 : decode (m_code 296) 256 = .ok (.iadd, 1) := by decide +kernel
theorem d296_257 : decode (m_code 296) 257 = .ok (.iaload, 1) := by decide +kernel
theorem d296_258 : decode (m_code 296) 258 = .ok (.iconst 1, 1) := by decide +kernel
theorem d296_259 : decode (m_code 296) 259 = .ok (.iadd, 1) := by decide +kernel
theorem d296_260 : decode (m_code 296) 260 = .ok (.if_icmp .ne 12, 3) := by decide +kernel
theorem d296_263 : decode (m_code 296) 263 = .ok (.iconst 1, 1) := by decide +kernel
theorem d296_264 : decode (m_code 296) 264 = .ok (.iload 8, 2) := by decide +kernel
theorem d296_266 : decode (m_code 296) 266 = .ok (.aload_n 0, 1) := by decide +kernel
theorem d296_267 : decode (m_code 296) 267 = .ok (.aload 6, 2) := by decide +kernel
theorem d296_269 : decode (m_code 296) 269 = .ok (.invokestatic 16, 3) := by decide +kernel
theorem d296_272 : decode (m_code 296) 272 = .ok (.iinc 8 1, 3) := by decide +kernel
theorem d296_275 : decode (m_code 296) 275 = .ok (.goto (-53), 3) := by decide +kernel
theorem d296_281 : decode (m_code 296) 281 = .ok (.iload 8, 2) := by decide +kernel
theorem d296_283 : decode (m_code 296) 283 = .ok (.iconst 2, 1) := by decide +kernel
theorem d296_284 : decode (m_code 296) 284 = .ok (.if_icmp .ge 186, 3) := by decide +kernel
theorem d296_287 : decode (m_code 296) 287 = .ok (.aload 5, 2) := by decide +kernel
theorem d296_289 : decode (m_code 296) 289 = .ok (.iconst 5, 1) := by decide +kernel
theorem d296_290 : decode (m_code 296) 290 = .ok (.iload 8, 2) := by decide +kernel
theorem d296_292 : decode (m_code 296) 292 = .ok (.imul, 1) := by decide +kernel
theorem d296_293 : decode (m_code 296) 293 = .ok (.iconst 3, 1) := by decide +kernel
theorem d296_294 : decode (m_code 296) 294 = .ok (.iadd, 1) := by decide +kernel
theorem d296_295 : decode (m_code 296) 295 = .ok (.iaload, 1) := by decide +kernel
theorem d296_296 : decode (m_code 296) 296 = .ok (.iconst 2, 1) := by decide +kernel
theorem d296_297 : decode (m_code 296) 297 = .ok (.if_icmp .ne 6, 3) := by decide +kernel
theorem d296_303 : decode (m_code 296) 303 = .ok (.aload 5, 2) := by decide +kernel
theorem d296_305 : decode (m_code 296) 305 = .ok (.iconst 5, 1) := by decide +kernel
theorem d296_306 : decode (m_code 296) 306 = .ok (.iload 8, 2) := by decide +kernel
theorem d296_308 : decode (m_code 296) 308 = .ok (.imul, 1) := by decide +kernel
theorem d296_309 : decode (m_code 296) 309 = .ok (.iconst 1, 1) := by decide +kernel
theorem d296_310 : decode (m_code 296) 310 = .ok (.iadd, 1) := by decide +kernel
theorem d296_311 : decode (m_code 296) 311 = .ok (.iaload, 1) := by decide +kernel
theorem d296_312 : decode (m_code 296) 312 = .ok (.istore 9, 2) := by decide +kernel
theorem d296_314 : decode (m_code 296) 314 = .ok (.aload 5, 2) := by decide +kernel
theorem d296_316 : decode (m_code 296) 316 = .ok (.iconst 5, 1) := by decide +kernel
theorem d296_317 : decode (m_code 296) 317 = .ok (.iload 8, 2) := by decide +kernel
theorem d296_319 : decode (m_code 296) 319 = .ok (.imul, 1) := by decide +kernel
theorem d296_320 : decode (m_code 296) 320 = .ok (.iaload, 1) := by decide +kernel
theorem d296_321 : decode (m_code 296) 321 = .ok (.ifCond .ne 42, 3) := by decide +kernel
theorem d296_324 : decode (m_code 296) 324 = .ok (.aload_n 0, 1) := by decide +kernel
theorem d296_325 : decode (m_code 296) 325 = .ok (.iconst 3, 1) := by decide +kernel
theorem d296_326 : decode (m_code 296) 326 = .ok (.iaload, 1) := by decide +kernel
theorem d296_327 : decode (m_code 296) 327 = .ok (.aload_n 1, 1) := by decide +kernel
theorem d296_328 : decode (m_code 296) 328 = .ok (.bipush 6, 2) := by decide +kernel
theorem d296_330 : decode (m_code 296) 330 = .ok (.iload 9, 2) := by decide +kernel
theorem d296_332 : decode (m_code 296) 332 = .ok (.imul, 1) := by decide +kernel
theorem d296_333 : decode (m_code 296) 333 = .ok (.iaload, 1) := by decide +kernel
theorem d296_334 : decode (m_code 296) 334 = .ok (.ishr, 1) := by decide +kernel
theorem d296_335 : decode (m_code 296) 335 = .ok (.iconst 1, 1) := by decide +kernel
theorem d296_336 : decode (m_code 296) 336 = .ok (.iand, 1) := by decide +kernel
theorem d296_337 : decode (m_code 296) 337 = .ok (.iconst 1, 1) := by decide +kernel
theorem d296_338 : decode (m_code 296) 338 = .ok (.if_icmp .ne 21, 3) := by decide +kernel
theorem d296_341 : decode (m_code 296) 341 = .ok (.aload 7, 2) := by decide +kernel
theorem d296_343 : decode (m_code 296) 343 = .ok (.aload_n 0, 1) := by decide +kernel
theorem d296_344 : decode (m_code 296) 344 = .ok (.iconst 0, 1) := by decide +kernel
theorem d296_345 : decode (m_code 296) 345 = .ok (.iaload, 1) := by decide +kernel
theorem d296_346 : decode (m_code 296) 346 = .ok (.iaload, 1) := by decide +kernel
theorem d296_347 : decode (m_code 296) 347 = .ok (.iload 9, 2) := by decide +kernel
theorem d296_349 : decode (m_code 296) 349 = .ok (.ishr, 1) := by decide +kernel
theorem d296_350 : decode (m_code 296) 350 = .ok (.iconst 1, 1) := by decide +kernel
theorem d296_351 : decode (m_code 296) 351 = .ok (.iand, 1) := by decide +kernel
theorem d296_352 : decode (m_code 296) 352 = .ok (.ifCond .ne 7, 3) := by decide +kernel
theorem d296_355 : decode (m_code 296) 355 = .ok (.iconst 1, 1) := by decide +kernel
theorem d296_356 : decode (m_code 296) 356 = .ok (.goto 48, 3) := by decide +kernel
theorem d296_359 : decode (m_code 296) 359 = .ok (.iconst 0, 1) := by decide +kernel
theorem d296_360 : decode (m_code 296) 360 = .ok (.goto 44, 3) := by decide +kernel
theorem d296_363 : decode (m_code 296) 363 = .ok (.aload_n 1, 1) := by decide +kernel
theorem d296_364 : decode (m_code 296) 364 = .ok (.bipush 6, 2) := by decide +kernel
theorem d296_366 : decode (m_code 296) 366 = .ok (.iload 9, 2) := by decide +kernel
theorem d296_368 : decode (m_code 296) 368 = .ok (.imul, 1) := by decide +kernel
theorem d296_369 : decode (m_code 296) 369 = .ok (.aload 5, 2) := by decide +kernel
theorem d296_371 : decode (m_code 296) 371 = .ok (.iconst 5, 1) := by decide +kernel
theorem d296_372 : decode (m_code 296) 372 = .ok (.iload 8, 2) := by decide +kernel
theorem d296_374 : decode (m_code 296) 374 = .ok (.imul, 1) := by decide +kernel
theorem d296_375 : decode (m_code 296) 375 = .ok (.iaload, 1) := by decide +kernel
theorem d296_376 : decode (m_code 296) 376 = .ok (.iconst 1, 1) := by decide +kernel
theorem d296_377 : decode (m_code 296) 377 = .ok (.if_icmp .ne 7, 3) := by decide +kernel
theorem d296_380 : decode (m_code 296) 380 = .ok (.iconst 2, 1) := by decide +kernel
theorem d296_381 : decode (m_code 296) 381 = .ok (.goto 4, 3) := by decide +kernel
theorem d296_384 : decode (m_code 296) 384 = .ok (.iconst 3, 1) := by decide +kernel
theorem d296_385 : decode (m_code 296) 385 = .ok (.iadd, 1) := by decide +kernel
theorem d296_386 : decode (m_code 296) 386 = .ok (.iaload, 1) := by decide +kernel
theorem d296_387 : decode (m_code 296) 387 = .ok (.aload 5, 2) := by decide +kernel
theorem d296_389 : decode (m_code 296) 389 = .ok (.iconst 5, 1) := by decide +kernel
theorem d296_390 : decode (m_code 296) 390 = .ok (.iload 8, 2) := by decide +kernel
theorem d296_392 : decode (m_code 296) 392 = .ok (.imul, 1) := by decide +kernel
theorem d296_393 : decode (m_code 296) 393 = .ok (.iconst 2, 1) := by decide +kernel
theorem d296_394 : decode (m_code 296) 394 = .ok (.iadd, 1) := by decide +kernel
theorem d296_395 : decode (m_code 296) 395 = .ok (.iaload, 1) := by decide +kernel
theorem d296_396 : decode (m_code 296) 396 = .ok (.if_icmp .le 7, 3) := by decide +kernel
theorem d296_399 : decode (m_code 296) 399 = .ok (.iconst 1, 1) := by decide +kernel
theorem d296_400 : decode (m_code 296) 400 = .ok (.goto 4, 3) := by decide +kernel
theorem d296_403 : decode (m_code 296) 403 = .ok (.iconst 0, 1) := by decide +kernel
theorem d296_404 : decode (m_code 296) 404 = .ok (.istore 10, 2) := by decide +kernel
theorem d296_406 : decode (m_code 296) 406 = .ok (.iload 10, 2) := by decide +kernel
theorem d296_408 : decode (m_code 296) 408 = .ok (.ifCond .eq 37, 3) := by decide +kernel
theorem d296_411 : decode (m_code 296) 411 = .ok (.aload 5, 2) := by decide +kernel
theorem d296_413 : decode (m_code 296) 413 = .ok (.iconst 5, 1) := by decide +kernel
theorem d296_414 : decode (m_code 296) 414 = .ok (.iload 8, 2) := by decide +kernel
theorem d296_416 : decode (m_code 296) 416 = .ok (.imul, 1) := by decide +kernel
theorem d296_417 : decode (m_code 296) 417 = .ok (.iconst 3, 1) := by decide +kernel
theorem d296_418 : decode (m_code 296) 418 = .ok (.iadd, 1) := by decide +kernel
theorem d296_419 : decode (m_code 296) 419 = .ok (.iaload, 1) := by decide +kernel
theorem d296_420 : decode (m_code 296) 420 = .ok (.ifCond .ne 25, 3) := by decide +kernel
theorem d296_423 : decode (m_code 296) 423 = .ok (.iconst 2, 1) := by decide +kernel
theorem d296_424 : decode (m_code 296) 424 = .ok (.iload 9, 2) := by decide +kernel
theorem d296_426 : decode (m_code 296) 426 = .ok (.aload_n 0, 1) := by decide +kernel
theorem d296_427 : decode (m_code 296) 427 = .ok (.aload 6, 2) := by decide +kernel
theorem d296_429 : decode (m_code 296) 429 = .ok (.invokestatic 16, 3) := by decide +kernel
theorem d296_432 : decode (m_code 296) 432 = .ok (.aload 5, 2) := by decide +kernel
theorem d296_434 : decode (m_code 296) 434 = .ok (.iconst 5, 1) := by decide +kernel
theorem d296_435 : decode (m_code 296) 435 = .ok (.iload 8, 2) := by decide +kernel
theorem d296_437 : decode (m_code 296) 437 = .ok (.imul, 1) := by decide +kernel
theorem d296_438 : decode (m_code 296) 438 = .ok (.iconst 4, 1) := by decide +kernel
theorem d296_439 : decode (m_code 296) 439 = .ok (.iadd, 1) := by decide +kernel
theorem d296_440 : decode (m_code 296) 440 = .ok (.dup2, 1) := by decide +kernel
theorem d296_441 : decode (m_code 296) 441 = .ok (.iaload, 1) := by decide +kernel
theorem d296_442 : decode (m_code 296) 442 = .ok (.iconst 1, 1) := by decide +kernel
theorem d296_443 : decode (m_code 296) 443 = .ok (.iadd, 1) := by decide +kernel
theorem d296_444 : decode (m_code 296) 444 = .ok (.iastore, 1) := by decide +kernel
theorem d296_445 : decode (m_code 296) 445 = .ok (.aload 5, 2) := by decide +kernel
theorem d296_447 : decode (m_code 296) 447 = .ok (.iconst 5, 1) := by decide +kernel
theorem d296_448 : decode (m_code 296) 448 = .ok (.iload 8, 2) := by decide +kernel
theorem d296_450 : decode (m_code 296) 450 = .ok (.imul, 1) := by decide +kernel
theorem d296_451 : decode (m_code 296) 451 = .ok (.iconst 3, 1) := by decide +kernel
theorem d296_452 : decode (m_code 296) 452 = .ok (.iadd, 1) := by decide +kernel
theorem d296_453 : decode (m_code 296) 453 = .ok (.iload 10, 2) := by decide +kernel
theorem d296_455 : decode (m_code 296) 455 = .ok (.ifCond .eq 7, 3) := by decide +kernel
theorem d296_458 : decode (m_code 296) 458 = .ok (.iconst 1, 1) := by decide +kernel
theorem d296_459 : decode (m_code 296) 459 = .ok (.goto 4, 3) := by decide +kernel
theorem d296_462 : decode (m_code 296) 462 = .ok (.iconst 0, 1) := by decide +kernel
theorem d296_463 : decode (m_code 296) 463 = .ok (.iastore, 1) := by decide +kernel
theorem d296_464 : decode (m_code 296) 464 = .ok (.iinc 8 1, 3) := by decide +kernel
theorem d296_467 : decode (m_code 296) 467 = .ok (.goto (-186), 3) := by decide +kernel
theorem k_watch_y {X : mX} {S : Nat → Nat → Int32} {h0 h : mH} {Q : Option Value → mH → Prop} (hL : La h S) (hF : Frm h0 h 313 8) {r mi : Nat} (hr : r < 4) (hmi : S 0 0 = nI mi) (hmi9 : mi < 60) {a e : Nat} (ha : S 1 (6 * r + 3) = nI a) (ha9 : a < 1000) (he : S 1 (6 * r + 4) = nI e) (he9 : e < 1000) (hp : S 3 0 = nI r ∨ S 3 10 = nI r) {l9 l10 : Option Value} (K : ∀ h1, La h1 ((updM (updM (updM (updM (updM S 7 (mi) (((S 7 mi) ||| ((nI 1) <<< ((nI r) &&& 31))))) 1 (6 * r + 2) (((S 1 (6 * r + 2)) + (nI 1)))) 1 (6 * r + 3) (nI 0)) 1 (6 * r + 4) (nI e)) 1 (6 * r + 5) (((S 1 (6 * r + 5)) + (nI 1))))) → Frm h0 h1 313 8 → ∀ x9 x10, m_wp X 296 28 [some (.ref 313), some (.ref 314), some (.ref 315), some (.ref 316), some (.ref 317), some (.ref 318), some (.ref 319), some (.ref 320), some (.int (nI (r + 1))), x9, x10] [] h1 Q) : m_wp X 296 28 [some (.ref 313), some (.ref 314), some (.ref 315), some (.ref 316), some (.ref 317), some (.ref 318), some (.ref 319), some (.ref 320), some (.int (nI r)), l9, l10] [] h Q := by
  refine wp_iload d296_28 rfl ?_
  refine wp_iconst d296_30 (v := nI 4) (by decide) ?_
  refine wp_icmp_ge d296_31 (tgt := 201) (by decide) (fun hq9 => absurd hq9 (fun z => absurd ((nI_leI (by omega) (by omega)).mp z) (by omega))) (fun _ => ?_)
  refine wp_iload d296_34 rfl ?_
  refine wp_aload_n d296_36 rfl ?_
  refine wp_invsT (e := 24) (j2 := 295) (n := 2) d296_37 (by decide +kernel) (by decide +kernel) rfl rfl rfl (Nat.le_of_ble_eq_true rfl) (Nat.le_of_ble_eq_true rfl) rfl rfl (Nat.le_of_ble_eq_true rfl) (by decide +kernel) (k_stands hL (r := r)) ?_
  refine wp_istore d296_40 (Nat.le_of_ble_eq_true rfl) rfl ?_
  refine wp_aload d296_42 rfl ?_
  refine wp_aload_n d296_44 rfl ?_
  refine wp_iconst d296_45 (v := nI 0) (by decide) ?_
  refine wp_iald d296_46 (la_0 hL) (nI_in (by omega) (by decide)) (v := nI mi) ((congrArg (S 0) (nI_nat (by omega))).trans hmi) ?_
  refine wp_dup2 d296_47 rfl rfl ?_
  refine wp_iald d296_48 (la_7 hL) (nI_in (by omega) (by decide)) (v := S 7 mi) ((congrArg (S 7) (nI_nat (by omega))).trans rfl) ?_
  refine wp_iload d296_49 rfl ?_
  refine wp_ifb_eq d296_51 (tgt := 61) (by decide) (fun hq9 => absurd hp hq9) (fun _ => ?_)
  refine wp_iconst d296_54 (v := nI 1) (by decide) ?_
  refine wp_iload d296_55 rfl ?_
  refine wp_ishl d296_57 ?_
  refine wp_goto d296_58 (tgt := 62) (by decide) ?_
  refine wp_ior d296_62 ?_
  refine wp_iast d296_63 (la_7 hL) (nI_in (by omega) (by decide)) ?_
  refine l_step (o := 7) (i := mi) (v := ((S 7 mi) ||| ((nI 1) <<< ((nI r) &&& 31)))) hL hF (by decide) (by rw [nI_nat (by omega)]; rfl) (fun h hL hF => ?_)
  refine wp_aload_n d296_64 rfl ?_
  refine wp_bipush d296_65 (v := nI 6) (by decide) ?_
  refine wp_iload d296_67 rfl ?_
  refine wp_imulv d296_69 (v := nI (6 * r)) (nI_mul _ _) ?_
  refine wp_iconst d296_70 (v := nI 2) (by decide) ?_
  refine wp_iaddv d296_71 (v := nI (6 * r + 2)) (nI_add _ _) ?_
  refine wp_iload d296_72 rfl ?_
  refine wp_ifb_eq d296_74 (tgt := 91) (by decide) (fun hq9 => absurd hp hq9) (fun _ => ?_)
  refine wp_aload_n d296_77 rfl ?_
  refine wp_bipush d296_78 (v := nI 6) (by decide) ?_
  refine wp_iload d296_80 rfl ?_
  refine wp_imulv d296_82 (v := nI (6 * r)) (nI_mul _ _) ?_
  refine wp_iconst d296_83 (v := nI 2) (by decide) ?_
  refine wp_iaddv d296_84 (v := nI (6 * r + 2)) (nI_add _ _) ?_
  refine wp_iald d296_85 (la_1 hL) (nI_in (by omega) (by decide)) (v := S 1 (6 * r + 2)) ((congrArg ((updM S 7 (mi) (((S 7 mi) ||| ((nI 1) <<< ((nI r) &&& 31))))) 1) (nI_nat (by omega))).trans ((updM_diff (by omega)).trans rfl)) ?_
  refine wp_iconst d296_86 (v := nI 1) (by decide) ?_
  refine wp_iadd d296_87 ?_
  refine wp_goto d296_88 (tgt := 92) (by decide) ?_
  refine wp_iast d296_92 (la_1 hL) (nI_in (by omega) (by decide)) ?_
  refine l_step (o := 1) (i := 6 * r + 2) (v := ((S 1 (6 * r + 2)) + (nI 1))) hL hF (by decide) (by rw [nI_nat (by omega)]; rfl) (fun h hL hF => ?_)
  refine wp_aload_n d296_93 rfl ?_
  refine wp_bipush d296_94 (v := nI 6) (by decide) ?_
  refine wp_iload d296_96 rfl ?_
  refine wp_imulv d296_98 (v := nI (6 * r)) (nI_mul _ _) ?_
  refine wp_iconst d296_99 (v := nI 3) (by decide) ?_
  refine wp_iaddv d296_100 (v := nI (6 * r + 3)) (nI_add _ _) ?_
  refine wp_iload d296_101 rfl ?_
  refine wp_ifb_eq d296_103 (tgt := 110) (by decide) (fun hq9 => absurd hp hq9) (fun _ => ?_)
  refine wp_iconst d296_106 (v := nI 0) (by decide) ?_
  refine wp_goto d296_107 (tgt := 121) (by decide) ?_
  refine wp_iast d296_121 (la_1 hL) (nI_in (by omega) (by decide)) ?_
  refine l_step (o := 1) (i := 6 * r + 3) (v := nI 0) hL hF (by decide) (by rw [nI_nat (by omega)]; rfl) (fun h hL hF => ?_)
  refine wp_aload_n d296_122 rfl ?_
  refine wp_bipush d296_123 (v := nI 6) (by decide) ?_
  refine wp_iload d296_125 rfl ?_
  refine wp_imulv d296_127 (v := nI (6 * r)) (nI_mul _ _) ?_
  refine wp_iconst d296_128 (v := nI 4) (by decide) ?_
  refine wp_iaddv d296_129 (v := nI (6 * r + 4)) (nI_add _ _) ?_
  refine wp_aload_n d296_130 rfl ?_
  refine wp_bipush d296_131 (v := nI 6) (by decide) ?_
  refine wp_iload d296_133 rfl ?_
  refine wp_imulv d296_135 (v := nI (6 * r)) (nI_mul _ _) ?_
  refine wp_iconst d296_136 (v := nI 3) (by decide) ?_
  refine wp_iaddv d296_137 (v := nI (6 * r + 3)) (nI_add _ _) ?_
  refine wp_iald d296_138 (la_1 hL) (nI_in (by omega) (by decide)) (v := nI 0) ((congrArg ((updM (updM (updM S 7 (mi) (((S 7 mi) ||| ((nI 1) <<< ((nI r) &&& 31))))) 1 (6 * r + 2) (((S 1 (6 * r + 2)) + (nI 1)))) 1 (6 * r + 3) (nI 0)) 1) (nI_nat (by omega))).trans updM_same) ?_
  refine wp_aload_n d296_139 rfl ?_
  refine wp_bipush d296_140 (v := nI 6) (by decide) ?_
  refine wp_iload d296_142 rfl ?_
  refine wp_imulv d296_144 (v := nI (6 * r)) (nI_mul _ _) ?_
  refine wp_iconst d296_145 (v := nI 4) (by decide) ?_
  refine wp_iaddv d296_146 (v := nI (6 * r + 4)) (nI_add _ _) ?_
  refine wp_iald d296_147 (la_1 hL) (nI_in (by omega) (by decide)) (v := nI e) ((congrArg ((updM (updM (updM S 7 (mi) (((S 7 mi) ||| ((nI 1) <<< ((nI r) &&& 31))))) 1 (6 * r + 2) (((S 1 (6 * r + 2)) + (nI 1)))) 1 (6 * r + 3) (nI 0)) 1) (nI_nat (by omega))).trans ((updM_diff (by omega)).trans ((updM_diff (by omega)).trans ((updM_diff (by omega)).trans he)))) ?_
  refine wp_icmp_le d296_148 (tgt := 163) (by decide) (fun _ => ?_) (fun hq9 => absurd (nI_pos' (by omega)) hq9)
  refine wp_aload_n d296_163 rfl ?_
  refine wp_bipush d296_164 (v := nI 6) (by decide) ?_
  refine wp_iload d296_166 rfl ?_
  refine wp_imulv d296_168 (v := nI (6 * r)) (nI_mul _ _) ?_
  refine wp_iconst d296_169 (v := nI 4) (by decide) ?_
  refine wp_iaddv d296_170 (v := nI (6 * r + 4)) (nI_add _ _) ?_
  refine wp_iald d296_171 (la_1 hL) (nI_in (by omega) (by decide)) (v := nI e) ((congrArg ((updM (updM (updM S 7 (mi) (((S 7 mi) ||| ((nI 1) <<< ((nI r) &&& 31))))) 1 (6 * r + 2) (((S 1 (6 * r + 2)) + (nI 1)))) 1 (6 * r + 3) (nI 0)) 1) (nI_nat (by omega))).trans ((updM_diff (by omega)).trans ((updM_diff (by omega)).trans ((updM_diff (by omega)).trans he)))) ?_
  refine wp_iast d296_172 (la_1 hL) (nI_in (by omega) (by decide)) ?_
  refine l_step (o := 1) (i := 6 * r + 4) (v := nI e) hL hF (by decide) (by rw [nI_nat (by omega)]; rfl) (fun h hL hF => ?_)
  refine wp_aload_n d296_173 rfl ?_
  refine wp_bipush d296_174 (v := nI 6) (by decide) ?_
  refine wp_iload d296_176 rfl ?_
  refine wp_imulv d296_178 (v := nI (6 * r)) (nI_mul _ _) ?_
  refine wp_iconst d296_179 (v := nI 5) (by decide) ?_
  refine wp_iaddv d296_180 (v := nI (6 * r + 5)) (nI_add _ _) ?_
  refine wp_dup2 d296_181 rfl rfl ?_
  refine wp_iald d296_182 (la_1 hL) (nI_in (by omega) (by decide)) (v := S 1 (6 * r + 5)) ((congrArg ((updM (updM (updM (updM S 7 (mi) (((S 7 mi) ||| ((nI 1) <<< ((nI r) &&& 31))))) 1 (6 * r + 2) (((S 1 (6 * r + 2)) + (nI 1)))) 1 (6 * r + 3) (nI 0)) 1 (6 * r + 4) (nI e)) 1) (nI_nat (by omega))).trans ((updM_diff (by omega)).trans ((updM_diff (by omega)).trans ((updM_diff (by omega)).trans ((updM_diff (by omega)).trans rfl))))) ?_
  refine wp_iload d296_183 rfl ?_
  refine wp_ifb_eq d296_185 (tgt := 192) (by decide) (fun hq9 => absurd hp hq9) (fun _ => ?_)
  refine wp_iconst d296_188 (v := nI 1) (by decide) ?_
  refine wp_goto d296_189 (tgt := 193) (by decide) ?_
  refine wp_iadd d296_193 ?_
  refine wp_iast d296_194 (la_1 hL) (nI_in (by omega) (by decide)) ?_
  refine l_step (o := 1) (i := 6 * r + 5) (v := ((S 1 (6 * r + 5)) + (nI 1))) hL hF (by decide) (by rw [nI_nat (by omega)]; rfl) (fun h hL hF => ?_)
  refine wp_iinc d296_195 rfl (v := nI (r + 1)) (nI_add _ 1) (Nat.le_of_ble_eq_true rfl) rfl ?_
  refine wp_goto d296_198 (tgt := 28) (by decide) ?_
  exact K h hL hF _ _
theorem k_watch_n {X : mX} {S : Nat → Nat → Int32} {h0 h : mH} {Q : Option Value → mH → Prop} (hL : La h S) (hF : Frm h0 h 313 8) {r mi : Nat} (hr : r < 4) (hmi : S 0 0 = nI mi) (hmi9 : mi < 60) {a e : Nat} (ha : S 1 (6 * r + 3) = nI a) (ha9 : a < 1000) (he : S 1 (6 * r + 4) = nI e) (he9 : e < 1000) (hp : ¬ (S 3 0 = nI r ∨ S 3 10 = nI r)) (hae : a + 1 ≤ e) {l9 l10 : Option Value} (K : ∀ h1, La h1 ((updM (updM (updM (updM (updM S 7 (mi) (((S 7 mi) ||| (nI 0)))) 1 (6 * r + 2) (nI 0)) 1 (6 * r + 3) (nI (a + 1))) 1 (6 * r + 4) (nI e)) 1 (6 * r + 5) (((S 1 (6 * r + 5)) + (nI 0))))) → Frm h0 h1 313 8 → ∀ x9 x10, m_wp X 296 28 [some (.ref 313), some (.ref 314), some (.ref 315), some (.ref 316), some (.ref 317), some (.ref 318), some (.ref 319), some (.ref 320), some (.int (nI (r + 1))), x9, x10] [] h1 Q) : m_wp X 296 28 [some (.ref 313), some (.ref 314), some (.ref 315), some (.ref 316), some (.ref 317), some (.ref 318), some (.ref 319), some (.ref 320), some (.int (nI r)), l9, l10] [] h Q := by
  refine wp_iload d296_28 rfl ?_
  refine wp_iconst d296_30 (v := nI 4) (by decide) ?_
  refine wp_icmp_ge d296_31 (tgt := 201) (by decide) (fun hq9 => absurd hq9 (fun z => absurd ((nI_leI (by omega) (by omega)).mp z) (by omega))) (fun _ => ?_)
  refine wp_iload d296_34 rfl ?_
  refine wp_aload_n d296_36 rfl ?_
  refine wp_invsT (e := 24) (j2 := 295) (n := 2) d296_37 (by decide +kernel) (by decide +kernel) rfl rfl rfl (Nat.le_of_ble_eq_true rfl) (Nat.le_of_ble_eq_true rfl) rfl rfl (Nat.le_of_ble_eq_true rfl) (by decide +kernel) (k_stands hL (r := r)) ?_
  refine wp_istore d296_40 (Nat.le_of_ble_eq_true rfl) rfl ?_
  refine wp_aload d296_42 rfl ?_
  refine wp_aload_n d296_44 rfl ?_
  refine wp_iconst d296_45 (v := nI 0) (by decide) ?_
  refine wp_iald d296_46 (la_0 hL) (nI_in (by omega) (by decide)) (v := nI mi) ((congrArg (S 0) (nI_nat (by omega))).trans hmi) ?_
  refine wp_dup2 d296_47 rfl rfl ?_
  refine wp_iald d296_48 (la_7 hL) (nI_in (by omega) (by decide)) (v := S 7 mi) ((congrArg (S 7) (nI_nat (by omega))).trans rfl) ?_
  refine wp_iload d296_49 rfl ?_
  refine wp_ifb_eq d296_51 (tgt := 61) (by decide) (fun _ => ?_) (fun hq9 => absurd hq9 hp)
  refine wp_iconst d296_61 (v := nI 0) (by decide) ?_
  refine wp_ior d296_62 ?_
  refine wp_iast d296_63 (la_7 hL) (nI_in (by omega) (by decide)) ?_
  refine l_step (o := 7) (i := mi) (v := ((S 7 mi) ||| (nI 0))) hL hF (by decide) (by rw [nI_nat (by omega)]; rfl) (fun h hL hF => ?_)
  refine wp_aload_n d296_64 rfl ?_
  refine wp_bipush d296_65 (v := nI 6) (by decide) ?_
  refine wp_iload d296_67 rfl ?_
  refine wp_imulv d296_69 (v := nI (6 * r)) (nI_mul _ _) ?_
  refine wp_iconst d296_70 (v := nI 2) (by decide) ?_
  refine wp_iaddv d296_71 (v := nI (6 * r + 2)) (nI_add _ _) ?_
  refine wp_iload d296_72 rfl ?_
  refine wp_ifb_eq d296_74 (tgt := 91) (by decide) (fun _ => ?_) (fun hq9 => absurd hq9 hp)
  refine wp_iconst d296_91 (v := nI 0) (by decide) ?_
  refine wp_iast d296_92 (la_1 hL) (nI_in (by omega) (by decide)) ?_
  refine l_step (o := 1) (i := 6 * r + 2) (v := nI 0) hL hF (by decide) (by rw [nI_nat (by omega)]; rfl) (fun h hL hF => ?_)
  refine wp_aload_n d296_93 rfl ?_
  refine wp_bipush d296_94 (v := nI 6) (by decide) ?_
  refine wp_iload d296_96 rfl ?_
  refine wp_imulv d296_98 (v := nI (6 * r)) (nI_mul _ _) ?_
  refine wp_iconst d296_99 (v := nI 3) (by decide) ?_
  refine wp_iaddv d296_100 (v := nI (6 * r + 3)) (nI_add _ _) ?_
  refine wp_iload d296_101 rfl ?_
  refine wp_ifb_eq d296_103 (tgt := 110) (by decide) (fun _ => ?_) (fun hq9 => absurd hq9 hp)
  refine wp_aload_n d296_110 rfl ?_
  refine wp_bipush d296_111 (v := nI 6) (by decide) ?_
  refine wp_iload d296_113 rfl ?_
  refine wp_imulv d296_115 (v := nI (6 * r)) (nI_mul _ _) ?_
  refine wp_iconst d296_116 (v := nI 3) (by decide) ?_
  refine wp_iaddv d296_117 (v := nI (6 * r + 3)) (nI_add _ _) ?_
  refine wp_iald d296_118 (la_1 hL) (nI_in (by omega) (by decide)) (v := nI a) ((congrArg ((updM (updM S 7 (mi) (((S 7 mi) ||| (nI 0)))) 1 (6 * r + 2) (nI 0)) 1) (nI_nat (by omega))).trans ((updM_diff (by omega)).trans ((updM_diff (by omega)).trans ha))) ?_
  refine wp_iconst d296_119 (v := nI 1) (by decide) ?_
  refine wp_iaddv d296_120 (v := nI (a + 1)) (nI_add _ _) ?_
  refine wp_iast d296_121 (la_1 hL) (nI_in (by omega) (by decide)) ?_
  refine l_step (o := 1) (i := 6 * r + 3) (v := nI (a + 1)) hL hF (by decide) (by rw [nI_nat (by omega)]; rfl) (fun h hL hF => ?_)
  refine wp_aload_n d296_122 rfl ?_
  refine wp_bipush d296_123 (v := nI 6) (by decide) ?_
  refine wp_iload d296_125 rfl ?_
  refine wp_imulv d296_127 (v := nI (6 * r)) (nI_mul _ _) ?_
  refine wp_iconst d296_128 (v := nI 4) (by decide) ?_
  refine wp_iaddv d296_129 (v := nI (6 * r + 4)) (nI_add _ _) ?_
  refine wp_aload_n d296_130 rfl ?_
  refine wp_bipush d296_131 (v := nI 6) (by decide) ?_
  refine wp_iload d296_133 rfl ?_
  refine wp_imulv d296_135 (v := nI (6 * r)) (nI_mul _ _) ?_
  refine wp_iconst d296_136 (v := nI 3) (by decide) ?_
  refine wp_iaddv d296_137 (v := nI (6 * r + 3)) (nI_add _ _) ?_
  refine wp_iald d296_138 (la_1 hL) (nI_in (by omega) (by decide)) (v := nI (a + 1)) ((congrArg ((updM (updM (updM S 7 (mi) (((S 7 mi) ||| (nI 0)))) 1 (6 * r + 2) (nI 0)) 1 (6 * r + 3) (nI (a + 1))) 1) (nI_nat (by omega))).trans updM_same) ?_
  refine wp_aload_n d296_139 rfl ?_
  refine wp_bipush d296_140 (v := nI 6) (by decide) ?_
  refine wp_iload d296_142 rfl ?_
  refine wp_imulv d296_144 (v := nI (6 * r)) (nI_mul _ _) ?_
  refine wp_iconst d296_145 (v := nI 4) (by decide) ?_
  refine wp_iaddv d296_146 (v := nI (6 * r + 4)) (nI_add _ _) ?_
  refine wp_iald d296_147 (la_1 hL) (nI_in (by omega) (by decide)) (v := nI e) ((congrArg ((updM (updM (updM S 7 (mi) (((S 7 mi) ||| (nI 0)))) 1 (6 * r + 2) (nI 0)) 1 (6 * r + 3) (nI (a + 1))) 1) (nI_nat (by omega))).trans ((updM_diff (by omega)).trans ((updM_diff (by omega)).trans ((updM_diff (by omega)).trans he)))) ?_
  refine wp_icmp_le d296_148 (tgt := 163) (by decide) (fun _ => ?_) (fun hq9 => absurd (nI_le hae (by omega)) hq9)
  refine wp_aload_n d296_163 rfl ?_
  refine wp_bipush d296_164 (v := nI 6) (by decide) ?_
  refine wp_iload d296_166 rfl ?_
  refine wp_imulv d296_168 (v := nI (6 * r)) (nI_mul _ _) ?_
  refine wp_iconst d296_169 (v := nI 4) (by decide) ?_
  refine wp_iaddv d296_170 (v := nI (6 * r + 4)) (nI_add _ _) ?_
  refine wp_iald d296_171 (la_1 hL) (nI_in (by omega) (by decide)) (v := nI e) ((congrArg ((updM (updM (updM S 7 (mi) (((S 7 mi) ||| (nI 0)))) 1 (6 * r + 2) (nI 0)) 1 (6 * r + 3) (nI (a + 1))) 1) (nI_nat (by omega))).trans ((updM_diff (by omega)).trans ((updM_diff (by omega)).trans ((updM_diff (by omega)).trans he)))) ?_
  refine wp_iast d296_172 (la_1 hL) (nI_in (by omega) (by decide)) ?_
  refine l_step (o := 1) (i := 6 * r + 4) (v := nI e) hL hF (by decide) (by rw [nI_nat (by omega)]; rfl) (fun h hL hF => ?_)
  refine wp_aload_n d296_173 rfl ?_
  refine wp_bipush d296_174 (v := nI 6) (by decide) ?_
  refine wp_iload d296_176 rfl ?_
  refine wp_imulv d296_178 (v := nI (6 * r)) (nI_mul _ _) ?_
  refine wp_iconst d296_179 (v := nI 5) (by decide) ?_
  refine wp_iaddv d296_180 (v := nI (6 * r + 5)) (nI_add _ _) ?_
  refine wp_dup2 d296_181 rfl rfl ?_
  refine wp_iald d296_182 (la_1 hL) (nI_in (by omega) (by decide)) (v := S 1 (6 * r + 5)) ((congrArg ((updM (updM (updM (updM S 7 (mi) (((S 7 mi) ||| (nI 0)))) 1 (6 * r + 2) (nI 0)) 1 (6 * r + 3) (nI (a + 1))) 1 (6 * r + 4) (nI e)) 1) (nI_nat (by omega))).trans ((updM_diff (by omega)).trans ((updM_diff (by omega)).trans ((updM_diff (by omega)).trans ((updM_diff (by omega)).trans rfl))))) ?_
  refine wp_iload d296_183 rfl ?_
  refine wp_ifb_eq d296_185 (tgt := 192) (by decide) (fun _ => ?_) (fun hq9 => absurd hq9 hp)
  refine wp_iconst d296_192 (v := nI 0) (by decide) ?_
  refine wp_iadd d296_193 ?_
  refine wp_iast d296_194 (la_1 hL) (nI_in (by omega) (by decide)) ?_
  refine l_step (o := 1) (i := 6 * r + 5) (v := ((S 1 (6 * r + 5)) + (nI 0))) hL hF (by decide) (by rw [nI_nat (by omega)]; rfl) (fun h hL hF => ?_)
  refine wp_iinc d296_195 rfl (v := nI (r + 1)) (nI_add _ 1) (Nat.le_of_ble_eq_true rfl) rfl ?_
  refine wp_goto d296_198 (tgt := 28) (by decide) ?_
  exact K h hL hF _ _
theorem k_watch_g {X : mX} {S : Nat → Nat → Int32} {h0 h : mH} {Q : Option Value → mH → Prop} (hL : La h S) (hF : Frm h0 h 313 8) {r mi : Nat} (hr : r < 4) (hmi : S 0 0 = nI mi) (hmi9 : mi < 60) {a e : Nat} (ha : S 1 (6 * r + 3) = nI a) (ha9 : a < 1000) (he : S 1 (6 * r + 4) = nI e) (he9 : e < 1000) (hp : ¬ (S 3 0 = nI r ∨ S 3 10 = nI r)) (hae : e < a + 1) {l9 l10 : Option Value} (K : ∀ h1, La h1 ((updM (updM (updM (updM (updM S 7 (mi) (((S 7 mi) ||| (nI 0)))) 1 (6 * r + 2) (nI 0)) 1 (6 * r + 3) (nI (a + 1))) 1 (6 * r + 4) (nI (a + 1))) 1 (6 * r + 5) (((S 1 (6 * r + 5)) + (nI 0))))) → Frm h0 h1 313 8 → ∀ x9 x10, m_wp X 296 28 [some (.ref 313), some (.ref 314), some (.ref 315), some (.ref 316), some (.ref 317), some (.ref 318), some (.ref 319), some (.ref 320), some (.int (nI (r + 1))), x9, x10] [] h1 Q) : m_wp X 296 28 [some (.ref 313), some (.ref 314), some (.ref 315), some (.ref 316), some (.ref 317), some (.ref 318), some (.ref 319), some (.ref 320), some (.int (nI r)), l9, l10] [] h Q := by
  refine wp_iload d296_28 rfl ?_
  refine wp_iconst d296_30 (v := nI 4) (by decide) ?_
  refine wp_icmp_ge d296_31 (tgt := 201) (by decide) (fun hq9 => absurd hq9 (fun z => absurd ((nI_leI (by omega) (by omega)).mp z) (by omega))) (fun _ => ?_)
  refine wp_iload d296_34 rfl ?_
  refine wp_aload_n d296_36 rfl ?_
  refine wp_invsT (e := 24) (j2 := 295) (n := 2) d296_37 (by decide +kernel) (by decide +kernel) rfl rfl rfl (Nat.le_of_ble_eq_true rfl) (Nat.le_of_ble_eq_true rfl) rfl rfl (Nat.le_of_ble_eq_true rfl) (by decide +kernel) (k_stands hL (r := r)) ?_
  refine wp_istore d296_40 (Nat.le_of_ble_eq_true rfl) rfl ?_
  refine wp_aload d296_42 rfl ?_
  refine wp_aload_n d296_44 rfl ?_
  refine wp_iconst d296_45 (v := nI 0) (by decide) ?_
  refine wp_iald d296_46 (la_0 hL) (nI_in (by omega) (by decide)) (v := nI mi) ((congrArg (S 0) (nI_nat (by omega))).trans hmi) ?_
  refine wp_dup2 d296_47 rfl rfl ?_
  refine wp_iald d296_48 (la_7 hL) (nI_in (by omega) (by decide)) (v := S 7 mi) ((congrArg (S 7) (nI_nat (by omega))).trans rfl) ?_
  refine wp_iload d296_49 rfl ?_
  refine wp_ifb_eq d296_51 (tgt := 61) (by decide) (fun _ => ?_) (fun hq9 => absurd hq9 hp)
  refine wp_iconst d296_61 (v := nI 0) (by decide) ?_
  refine wp_ior d296_62 ?_
  refine wp_iast d296_63 (la_7 hL) (nI_in (by omega) (by decide)) ?_
  refine l_step (o := 7) (i := mi) (v := ((S 7 mi) ||| (nI 0))) hL hF (by decide) (by rw [nI_nat (by omega)]; rfl) (fun h hL hF => ?_)
  refine wp_aload_n d296_64 rfl ?_
  refine wp_bipush d296_65 (v := nI 6) (by decide) ?_
  refine wp_iload d296_67 rfl ?_
  refine wp_imulv d296_69 (v := nI (6 * r)) (nI_mul _ _) ?_
  refine wp_iconst d296_70 (v := nI 2) (by decide) ?_
  refine wp_iaddv d296_71 (v := nI (6 * r + 2)) (nI_add _ _) ?_
  refine wp_iload d296_72 rfl ?_
  refine wp_ifb_eq d296_74 (tgt := 91) (by decide) (fun _ => ?_) (fun hq9 => absurd hq9 hp)
  refine wp_iconst d296_91 (v := nI 0) (by decide) ?_
  refine wp_iast d296_92 (la_1 hL) (nI_in (by omega) (by decide)) ?_
  refine l_step (o := 1) (i := 6 * r + 2) (v := nI 0) hL hF (by decide) (by rw [nI_nat (by omega)]; rfl) (fun h hL hF => ?_)
  refine wp_aload_n d296_93 rfl ?_
  refine wp_bipush d296_94 (v := nI 6) (by decide) ?_
  refine wp_iload d296_96 rfl ?_
  refine wp_imulv d296_98 (v := nI (6 * r)) (nI_mul _ _) ?_
  refine wp_iconst d296_99 (v := nI 3) (by decide) ?_
  refine wp_iaddv d296_100 (v := nI (6 * r + 3)) (nI_add _ _) ?_
  refine wp_iload d296_101 rfl ?_
  refine wp_ifb_eq d296_103 (tgt := 110) (by decide) (fun _ => ?_) (fun hq9 => absurd hq9 hp)
  refine wp_aload_n d296_110 rfl ?_
  refine wp_bipush d296_111 (v := nI 6) (by decide) ?_
  refine wp_iload d296_113 rfl ?_
  refine wp_imulv d296_115 (v := nI (6 * r)) (nI_mul _ _) ?_
  refine wp_iconst d296_116 (v := nI 3) (by decide) ?_
  refine wp_iaddv d296_117 (v := nI (6 * r + 3)) (nI_add _ _) ?_
  refine wp_iald d296_118 (la_1 hL) (nI_in (by omega) (by decide)) (v := nI a) ((congrArg ((updM (updM S 7 (mi) (((S 7 mi) ||| (nI 0)))) 1 (6 * r + 2) (nI 0)) 1) (nI_nat (by omega))).trans ((updM_diff (by omega)).trans ((updM_diff (by omega)).trans ha))) ?_
  refine wp_iconst d296_119 (v := nI 1) (by decide) ?_
  refine wp_iaddv d296_120 (v := nI (a + 1)) (nI_add _ _) ?_
  refine wp_iast d296_121 (la_1 hL) (nI_in (by omega) (by decide)) ?_
  refine l_step (o := 1) (i := 6 * r + 3) (v := nI (a + 1)) hL hF (by decide) (by rw [nI_nat (by omega)]; rfl) (fun h hL hF => ?_)
  refine wp_aload_n d296_122 rfl ?_
  refine wp_bipush d296_123 (v := nI 6) (by decide) ?_
  refine wp_iload d296_125 rfl ?_
  refine wp_imulv d296_127 (v := nI (6 * r)) (nI_mul _ _) ?_
  refine wp_iconst d296_128 (v := nI 4) (by decide) ?_
  refine wp_iaddv d296_129 (v := nI (6 * r + 4)) (nI_add _ _) ?_
  refine wp_aload_n d296_130 rfl ?_
  refine wp_bipush d296_131 (v := nI 6) (by decide) ?_
  refine wp_iload d296_133 rfl ?_
  refine wp_imulv d296_135 (v := nI (6 * r)) (nI_mul _ _) ?_
  refine wp_iconst d296_136 (v := nI 3) (by decide) ?_
  refine wp_iaddv d296_137 (v := nI (6 * r + 3)) (nI_add _ _) ?_
  refine wp_iald d296_138 (la_1 hL) (nI_in (by omega) (by decide)) (v := nI (a + 1)) ((congrArg ((updM (updM (updM S 7 (mi) (((S 7 mi) ||| (nI 0)))) 1 (6 * r + 2) (nI 0)) 1 (6 * r + 3) (nI (a + 1))) 1) (nI_nat (by omega))).trans updM_same) ?_
  refine wp_aload_n d296_139 rfl ?_
  refine wp_bipush d296_140 (v := nI 6) (by decide) ?_
  refine wp_iload d296_142 rfl ?_
  refine wp_imulv d296_144 (v := nI (6 * r)) (nI_mul _ _) ?_
  refine wp_iconst d296_145 (v := nI 4) (by decide) ?_
  refine wp_iaddv d296_146 (v := nI (6 * r + 4)) (nI_add _ _) ?_
  refine wp_iald d296_147 (la_1 hL) (nI_in (by omega) (by decide)) (v := nI e) ((congrArg ((updM (updM (updM S 7 (mi) (((S 7 mi) ||| (nI 0)))) 1 (6 * r + 2) (nI 0)) 1 (6 * r + 3) (nI (a + 1))) 1) (nI_nat (by omega))).trans ((updM_diff (by omega)).trans ((updM_diff (by omega)).trans ((updM_diff (by omega)).trans he)))) ?_
  refine wp_icmp_le d296_148 (tgt := 163) (by decide) (fun hq9 => absurd hq9 (fun z => absurd ((nI_leI (by omega) (by omega)).mp z) (by omega))) (fun _ => ?_)
  refine wp_aload_n d296_151 rfl ?_
  refine wp_bipush d296_152 (v := nI 6) (by decide) ?_
  refine wp_iload d296_154 rfl ?_
  refine wp_imulv d296_156 (v := nI (6 * r)) (nI_mul _ _) ?_
  refine wp_iconst d296_157 (v := nI 3) (by decide) ?_
  refine wp_iaddv d296_158 (v := nI (6 * r + 3)) (nI_add _ _) ?_
  refine wp_iald d296_159 (la_1 hL) (nI_in (by omega) (by decide)) (v := nI (a + 1)) ((congrArg ((updM (updM (updM S 7 (mi) (((S 7 mi) ||| (nI 0)))) 1 (6 * r + 2) (nI 0)) 1 (6 * r + 3) (nI (a + 1))) 1) (nI_nat (by omega))).trans updM_same) ?_
  refine wp_goto d296_160 (tgt := 172) (by decide) ?_
  refine wp_iast d296_172 (la_1 hL) (nI_in (by omega) (by decide)) ?_
  refine l_step (o := 1) (i := 6 * r + 4) (v := nI (a + 1)) hL hF (by decide) (by rw [nI_nat (by omega)]; rfl) (fun h hL hF => ?_)
  refine wp_aload_n d296_173 rfl ?_
  refine wp_bipush d296_174 (v := nI 6) (by decide) ?_
  refine wp_iload d296_176 rfl ?_
  refine wp_imulv d296_178 (v := nI (6 * r)) (nI_mul _ _) ?_
  refine wp_iconst d296_179 (v := nI 5) (by decide) ?_
  refine wp_iaddv d296_180 (v := nI (6 * r + 5)) (nI_add _ _) ?_
  refine wp_dup2 d296_181 rfl rfl ?_
  refine wp_iald d296_182 (la_1 hL) (nI_in (by omega) (by decide)) (v := S 1 (6 * r + 5)) ((congrArg ((updM (updM (updM (updM S 7 (mi) (((S 7 mi) ||| (nI 0)))) 1 (6 * r + 2) (nI 0)) 1 (6 * r + 3) (nI (a + 1))) 1 (6 * r + 4) (nI (a + 1))) 1) (nI_nat (by omega))).trans ((updM_diff (by omega)).trans ((updM_diff (by omega)).trans ((updM_diff (by omega)).trans ((updM_diff (by omega)).trans rfl))))) ?_
  refine wp_iload d296_183 rfl ?_
  refine wp_ifb_eq d296_185 (tgt := 192) (by decide) (fun _ => ?_) (fun hq9 => absurd hq9 hp)
  refine wp_iconst d296_192 (v := nI 0) (by decide) ?_
  refine wp_iadd d296_193 ?_
  refine wp_iast d296_194 (la_1 hL) (nI_in (by omega) (by decide)) ?_
  refine l_step (o := 1) (i := 6 * r + 5) (v := ((S 1 (6 * r + 5)) + (nI 0))) hL hF (by decide) (by rw [nI_nat (by omega)]; rfl) (fun h hL hF => ?_)
  refine wp_iinc d296_195 rfl (v := nI (r + 1)) (nI_add _ 1) (Nat.le_of_ble_eq_true rfl) rfl ?_
  refine wp_goto d296_198 (tgt := 28) (by decide) ?_
  exact K h hL hF _ _
theorem L_al_o {S : Nat → Nat → Int32} {na v o i : Nat} (h6 : o ≠ 6) (h0 : o ≠ 0 ∨ i ≠ 1) : L_al S na v o i = S o i := by
  unfold L_al
  split
  · rw [updM_diff (by omega), updM_diff (by omega)]
  · rw [updM_diff (by omega)]
theorem k_bd_y {X : mX} {S : Nat → Nat → Int32} {h0 h : mH} {Q : Option Value → mH → Prop} (hL : La h S) (hF : Frm h0 h 313 8) {r mi : Nat} (hr : r < 4) (hmi : S 0 0 = nI mi) (hmi9 : mi < 60) {bd a : Nat} (hbd : S 1 (6 * r + 1) = nI bd) (hbd9 : bd < 1000) (ha : S 1 (6 * r + 3) = nI a) (ha9 : a < 1000) {na : Nat} (hna : S 0 1 = nI na) (hna9 : na < 1000) (hy : 0 < bd ∧ a = bd + 1) {l9 l10 : Option Value} (K : ∀ h1, La h1 ((L_al S na (10000 * 1 + 1000 * r + mi))) → Frm h0 h1 313 8 → ∀ x9 x10, m_wp X 296 222 [some (.ref 313), some (.ref 314), some (.ref 315), some (.ref 316), some (.ref 317), some (.ref 318), some (.ref 319), some (.ref 320), some (.int (nI (r + 1))), x9, x10] [] h1 Q) : m_wp X 296 222 [some (.ref 313), some (.ref 314), some (.ref 315), some (.ref 316), some (.ref 317), some (.ref 318), some (.ref 319), some (.ref 320), some (.int (nI r)), l9, l10] [] h Q := by
  refine wp_iload d296_222 rfl ?_
  refine wp_iconst d296_224 (v := nI 4) (by decide) ?_
  refine wp_icmp_ge d296_225 (tgt := 278) (by decide) (fun hq9 => absurd hq9 (fun z => absurd ((nI_leI (by omega) (by omega)).mp z) (by omega))) (fun _ => ?_)
  refine wp_aload_n d296_228 rfl ?_
  refine wp_bipush d296_229 (v := nI 6) (by decide) ?_
  refine wp_iload d296_231 rfl ?_
  refine wp_imulv d296_233 (v := nI (6 * r)) (nI_mul _ _) ?_
  refine wp_iconst d296_234 (v := nI 1) (by decide) ?_
  refine wp_iaddv d296_235 (v := nI (6 * r + 1)) (nI_add _ _) ?_
  refine wp_iald d296_236 (la_1 hL) (nI_in (by omega) (by decide)) (v := nI bd) ((congrArg (S 1) (nI_nat (by omega))).trans hbd) ?_
  refine wp_if_le d296_237 (tgt := 272) (by decide) (fun hq9 => absurd hq9 (fun z => absurd ((nI_leI (b := 0) (by omega) (by omega)).mp z) (by omega))) (fun _ => ?_)
  refine wp_aload_n d296_240 rfl ?_
  refine wp_bipush d296_241 (v := nI 6) (by decide) ?_
  refine wp_iload d296_243 rfl ?_
  refine wp_imulv d296_245 (v := nI (6 * r)) (nI_mul _ _) ?_
  refine wp_iconst d296_246 (v := nI 3) (by decide) ?_
  refine wp_iaddv d296_247 (v := nI (6 * r + 3)) (nI_add _ _) ?_
  refine wp_iald d296_248 (la_1 hL) (nI_in (by omega) (by decide)) (v := nI a) ((congrArg (S 1) (nI_nat (by omega))).trans ha) ?_
  refine wp_aload_n d296_249 rfl ?_
  refine wp_bipush d296_250 (v := nI 6) (by decide) ?_
  refine wp_iload d296_252 rfl ?_
  refine wp_imulv d296_254 (v := nI (6 * r)) (nI_mul _ _) ?_
  refine wp_iconst d296_255 (v := nI 1) (by decide) ?_
  refine wp_iaddv d296_256 (v := nI (6 * r + 1)) (nI_add _ _) ?_
  refine wp_iald d296_257 (la_1 hL) (nI_in (by omega) (by decide)) (v := nI bd) ((congrArg (S 1) (nI_nat (by omega))).trans hbd) ?_
  refine wp_iconst d296_258 (v := nI 1) (by decide) ?_
  refine wp_iaddv d296_259 (v := nI (bd + 1)) (nI_add _ _) ?_
  refine wp_icmp_ne d296_260 (tgt := 272) (by decide) (fun hq9 => absurd (by rw [hy.2]) hq9) (fun _ => ?_)
  refine wp_iconst d296_263 (v := nI 1) (by decide) ?_
  refine wp_iload d296_264 rfl ?_
  refine wp_aload_n d296_266 rfl ?_
  refine wp_aload d296_267 rfl ?_
  refine wp_invsL (e := 16) (j2 := 299) (n := 4) d296_269 (by decide +kernel) (by decide +kernel) rfl rfl rfl (Nat.le_of_ble_eq_true rfl) (Nat.le_of_ble_eq_true rfl) rfl rfl (Nat.le_of_ble_eq_true rfl) (by decide +kernel) (k_alarm hL (c := 1) (r := r) hna hmi (by omega) (by omega) (by omega) hna9) hF ?_
  intro h hL hF
  refine wp_iinc d296_272 rfl (v := nI (r + 1)) (nI_add _ 1) (Nat.le_of_ble_eq_true rfl) rfl ?_
  refine wp_goto d296_275 (tgt := 222) (by decide) ?_
  exact K h hL hF _ _
theorem k_bd_n {X : mX} {S : Nat → Nat → Int32} {h0 h : mH} {Q : Option Value → mH → Prop} (hL : La h S) (hF : Frm h0 h 313 8) {r mi : Nat} (hr : r < 4) (hmi : S 0 0 = nI mi) (hmi9 : mi < 60) {bd a : Nat} (hbd : S 1 (6 * r + 1) = nI bd) (hbd9 : bd < 1000) (ha : S 1 (6 * r + 3) = nI a) (ha9 : a < 1000) (hy : ¬ (0 < bd ∧ a = bd + 1)) {l9 l10 : Option Value} (K : ∀ h1, La h1 S → Frm h0 h1 313 8 → ∀ x9 x10, m_wp X 296 222 [some (.ref 313), some (.ref 314), some (.ref 315), some (.ref 316), some (.ref 317), some (.ref 318), some (.ref 319), some (.ref 320), some (.int (nI (r + 1))), x9, x10] [] h1 Q) : m_wp X 296 222 [some (.ref 313), some (.ref 314), some (.ref 315), some (.ref 316), some (.ref 317), some (.ref 318), some (.ref 319), some (.ref 320), some (.int (nI r)), l9, l10] [] h Q := by
  refine wp_iload d296_222 rfl ?_
  refine wp_iconst d296_224 (v := nI 4) (by decide) ?_
  refine wp_icmp_ge d296_225 (tgt := 278) (by decide) (fun hq9 => absurd hq9 (fun z => absurd ((nI_leI (by omega) (by omega)).mp z) (by omega))) (fun _ => ?_)
  refine wp_aload_n d296_228 rfl ?_
  refine wp_bipush d296_229 (v := nI 6) (by decide) ?_
  refine wp_iload d296_231 rfl ?_
  refine wp_imulv d296_233 (v := nI (6 * r)) (nI_mul _ _) ?_
  refine wp_iconst d296_234 (v := nI 1) (by decide) ?_
  refine wp_iaddv d296_235 (v := nI (6 * r + 1)) (nI_add _ _) ?_
  refine wp_iald d296_236 (la_1 hL) (nI_in (by omega) (by decide)) (v := nI bd) ((congrArg (S 1) (nI_nat (by omega))).trans hbd) ?_
  refine wp_if_le d296_237 (tgt := 272) (by decide) (fun hc237 => ?_) (fun hc237 => ?_)
  · refine wp_iinc d296_272 rfl (v := nI (r + 1)) (nI_add _ 1) (Nat.le_of_ble_eq_true rfl) rfl ?_
    refine wp_goto d296_275 (tgt := 222) (by decide) ?_
    exact K h hL hF _ _
  · have hb0 : 0 < bd := Nat.pos_of_ne_zero (fun z => hc237 (by rw [z]; decide))
    refine wp_aload_n d296_240 rfl ?_
    refine wp_bipush d296_241 (v := nI 6) (by decide) ?_
    refine wp_iload d296_243 rfl ?_
    refine wp_imulv d296_245 (v := nI (6 * r)) (nI_mul _ _) ?_
    refine wp_iconst d296_246 (v := nI 3) (by decide) ?_
    refine wp_iaddv d296_247 (v := nI (6 * r + 3)) (nI_add _ _) ?_
    refine wp_iald d296_248 (la_1 hL) (nI_in (by omega) (by decide)) (v := nI a) ((congrArg (S 1) (nI_nat (by omega))).trans ha) ?_
    refine wp_aload_n d296_249 rfl ?_
    refine wp_bipush d296_250 (v := nI 6) (by decide) ?_
    refine wp_iload d296_252 rfl ?_
    refine wp_imulv d296_254 (v := nI (6 * r)) (nI_mul _ _) ?_
    refine wp_iconst d296_255 (v := nI 1) (by decide) ?_
    refine wp_iaddv d296_256 (v := nI (6 * r + 1)) (nI_add _ _) ?_
    refine wp_iald d296_257 (la_1 hL) (nI_in (by omega) (by decide)) (v := nI bd) ((congrArg (S 1) (nI_nat (by omega))).trans hbd) ?_
    refine wp_iconst d296_258 (v := nI 1) (by decide) ?_
    refine wp_iaddv d296_259 (v := nI (bd + 1)) (nI_add _ _) ?_
    refine wp_icmp_ne d296_260 (tgt := 272) (by decide) (fun hc260 => ?_) (fun hc260 => ?_)
    · refine wp_iinc d296_272 rfl (v := nI (r + 1)) (nI_add _ 1) (Nat.le_of_ble_eq_true rfl) rfl ?_
      refine wp_goto d296_275 (tgt := 222) (by decide) ?_
      exact K h hL hF _ _
    · exact absurd ⟨hb0, (nI_eq (by omega) (by omega)).mp hc260⟩ hy
theorem k_wk0_ya {X : mX} {S : Nat → Nat → Int32} {h0 h : mH} {Q : Option Value → mH → Prop} (hL : La h S) (hF : Frm h0 h 313 8) {w mi p : Nat} (hw : w < 2) (hmi : S 0 0 = nI mi) (hmi9 : mi < 60) (hp : S 5 (5 * w + 1) = nI p) (hp4 : p < 4) (hk : S 5 (5 * w) = nI 0) {z : Nat} (hz : S 1 (6 * p) = nI z) (hz6 : z < 6) (hst : S 5 (5 * w + 3) = nI 0) {na : Nat} (hna : S 0 1 = nI na) (hna9 : na < 1000) (h1 : ((S 0 3) >>> (nI z &&& 31)) &&& nI 1 = nI 1) (h2 : ((S 7 mi) >>> (nI p &&& 31)) &&& nI 1 = 0) {l9 l10 : Option Value} (K : ∀ h1, La h1 ((updM (updM (L_al S na (10000 * 2 + 1000 * p + mi)) 5 (5 * w + 4) (((S 5 (5 * w + 4)) + (nI 1)))) 5 (5 * w + 3) (nI 1))) → Frm h0 h1 313 8 → ∀ x9 x10, m_wp X 296 281 [some (.ref 313), some (.ref 314), some (.ref 315), some (.ref 316), some (.ref 317), some (.ref 318), some (.ref 319), some (.ref 320), some (.int (nI (w + 1))), x9, x10] [] h1 Q) : m_wp X 296 281 [some (.ref 313), some (.ref 314), some (.ref 315), some (.ref 316), some (.ref 317), some (.ref 318), some (.ref 319), some (.ref 320), some (.int (nI w)), l9, l10] [] h Q := by
  refine wp_iload d296_281 rfl ?_
  refine wp_iconst d296_283 (v := nI 2) (by decide) ?_
  refine wp_icmp_ge d296_284 (tgt := 470) (by decide) (fun hq9 => absurd hq9 (fun z => absurd ((nI_leI (by omega) (by omega)).mp z) (by omega))) (fun _ => ?_)
  refine wp_aload d296_287 rfl ?_
  refine wp_iconst d296_289 (v := nI 5) (by decide) ?_
  refine wp_iload d296_290 rfl ?_
  refine wp_imulv d296_292 (v := nI (5 * w)) (nI_mul _ _) ?_
  refine wp_iconst d296_293 (v := nI 3) (by decide) ?_
  refine wp_iaddv d296_294 (v := nI (5 * w + 3)) (nI_add _ _) ?_
  refine wp_iald d296_295 (la_5 hL) (nI_in (by omega) (by decide)) (v := nI 0) ((congrArg (S 5) (nI_nat (by omega))).trans hst) ?_
  refine wp_iconst d296_296 (v := nI 2) (by decide) ?_
  refine wp_icmp_ne d296_297 (tgt := 303) (by decide) (fun _ => ?_) (fun hz => absurd hz (by decide))
  refine wp_aload d296_303 rfl ?_
  refine wp_iconst d296_305 (v := nI 5) (by decide) ?_
  refine wp_iload d296_306 rfl ?_
  refine wp_imulv d296_308 (v := nI (5 * w)) (nI_mul _ _) ?_
  refine wp_iconst d296_309 (v := nI 1) (by decide) ?_
  refine wp_iaddv d296_310 (v := nI (5 * w + 1)) (nI_add _ _) ?_
  refine wp_iald d296_311 (la_5 hL) (nI_in (by omega) (by decide)) (v := nI p) ((congrArg (S 5) (nI_nat (by omega))).trans hp) ?_
  refine wp_istore d296_312 (Nat.le_of_ble_eq_true rfl) rfl ?_
  refine wp_aload d296_314 rfl ?_
  refine wp_iconst d296_316 (v := nI 5) (by decide) ?_
  refine wp_iload d296_317 rfl ?_
  refine wp_imulv d296_319 (v := nI (5 * w)) (nI_mul _ _) ?_
  refine wp_iald d296_320 (la_5 hL) (nI_in (by omega) (by decide)) (v := nI 0) ((congrArg (S 5) (nI_nat (by omega))).trans hk) ?_
  refine wp_if_ne d296_321 (tgt := 363) (by decide) (fun hz => absurd hz (by decide)) (fun _ => ?_)
  refine wp_aload_n d296_324 rfl ?_
  refine wp_iconst d296_325 (v := nI 3) (by decide) ?_
  refine wp_iald d296_326 (la_0 hL) (nI_in (by omega) (by decide)) (v := S 0 3) ((congrArg (S 0) (nI_nat (by omega))).trans rfl) ?_
  refine wp_aload_n d296_327 rfl ?_
  refine wp_bipush d296_328 (v := nI 6) (by decide) ?_
  refine wp_iload d296_330 rfl ?_
  refine wp_imulv d296_332 (v := nI (6 * p)) (nI_mul _ _) ?_
  refine wp_iald d296_333 (la_1 hL) (nI_in (by omega) (by decide)) (v := nI z) ((congrArg (S 1) (nI_nat (by omega))).trans hz) ?_
  refine wp_ishr d296_334 ?_
  refine wp_iconst d296_335 (v := nI 1) (by decide) ?_
  refine wp_iand d296_336 ?_
  refine wp_iconst d296_337 (v := nI 1) (by decide) ?_
  refine wp_icmp_ne d296_338 (tgt := 359) (by decide) (fun hc338 => ?_) (fun hc338 => ?_)
  · exact absurd h1 hc338
  · refine wp_aload d296_341 rfl ?_
    refine wp_aload_n d296_343 rfl ?_
    refine wp_iconst d296_344 (v := nI 0) (by decide) ?_
    refine wp_iald d296_345 (la_0 hL) (nI_in (by omega) (by decide)) (v := nI mi) ((congrArg (S 0) (nI_nat (by omega))).trans hmi) ?_
    refine wp_iald d296_346 (la_7 hL) (nI_in (by omega) (by decide)) (v := S 7 mi) ((congrArg (S 7) (nI_nat (by omega))).trans rfl) ?_
    refine wp_iload d296_347 rfl ?_
    refine wp_ishr d296_349 ?_
    refine wp_iconst d296_350 (v := nI 1) (by decide) ?_
    refine wp_iand d296_351 ?_
    refine wp_if_ne d296_352 (tgt := 359) (by decide) (fun hc352 => ?_) (fun hc352 => ?_)
    · exact absurd h2 hc352
    · refine wp_iconst d296_355 (v := nI 1) (by decide) ?_
      refine wp_goto d296_356 (tgt := 404) (by decide) ?_
      refine wp_istore d296_404 (Nat.le_of_ble_eq_true rfl) rfl ?_
      refine wp_iload d296_406 rfl ?_
      refine wp_if_eq d296_408 (tgt := 445) (by decide) (fun hz => absurd hz (by decide)) (fun _ => ?_)
      refine wp_aload d296_411 rfl ?_
      refine wp_iconst d296_413 (v := nI 5) (by decide) ?_
      refine wp_iload d296_414 rfl ?_
      refine wp_imulv d296_416 (v := nI (5 * w)) (nI_mul _ _) ?_
      refine wp_iconst d296_417 (v := nI 3) (by decide) ?_
      refine wp_iaddv d296_418 (v := nI (5 * w + 3)) (nI_add _ _) ?_
      refine wp_iald d296_419 (la_5 hL) (nI_in (by omega) (by decide)) (v := nI 0) ((congrArg (S 5) (nI_nat (by omega))).trans hst) ?_
      refine wp_if_ne d296_420 (tgt := 445) (by decide) (fun hz => absurd hz (by decide)) (fun _ => ?_)
      refine wp_iconst d296_423 (v := nI 2) (by decide) ?_
      refine wp_iload d296_424 rfl ?_
      refine wp_aload_n d296_426 rfl ?_
      refine wp_aload d296_427 rfl ?_
      refine wp_invsL (e := 16) (j2 := 299) (n := 4) d296_429 (by decide +kernel) (by decide +kernel) rfl rfl rfl (Nat.le_of_ble_eq_true rfl) (Nat.le_of_ble_eq_true rfl) rfl rfl (Nat.le_of_ble_eq_true rfl) (by decide +kernel) (k_alarm hL (c := 2) (r := p) hna hmi (by omega) (by omega) (by omega) hna9) hF ?_
      intro h hL hF
      refine wp_aload d296_432 rfl ?_
      refine wp_iconst d296_434 (v := nI 5) (by decide) ?_
      refine wp_iload d296_435 rfl ?_
      refine wp_imulv d296_437 (v := nI (5 * w)) (nI_mul _ _) ?_
      refine wp_iconst d296_438 (v := nI 4) (by decide) ?_
      refine wp_iaddv d296_439 (v := nI (5 * w + 4)) (nI_add _ _) ?_
      refine wp_dup2 d296_440 rfl rfl ?_
      refine wp_iald d296_441 (la_5 hL) (nI_in (by omega) (by decide)) (v := S 5 (5 * w + 4)) ((congrArg ((L_al S na (10000 * 2 + 1000 * p + mi)) 5) (nI_nat (by omega))).trans ((L_al_o (by omega) (by omega)).trans rfl)) ?_
      refine wp_iconst d296_442 (v := nI 1) (by decide) ?_
      refine wp_iadd d296_443 ?_
      refine wp_iast d296_444 (la_5 hL) (nI_in (by omega) (by decide)) ?_
      refine l_step (o := 5) (i := 5 * w + 4) (v := ((S 5 (5 * w + 4)) + (nI 1))) hL hF (by decide) (by rw [nI_nat (by omega)]; rfl) (fun h hL hF => ?_)
      refine wp_aload d296_445 rfl ?_
      refine wp_iconst d296_447 (v := nI 5) (by decide) ?_
      refine wp_iload d296_448 rfl ?_
      refine wp_imulv d296_450 (v := nI (5 * w)) (nI_mul _ _) ?_
      refine wp_iconst d296_451 (v := nI 3) (by decide) ?_
      refine wp_iaddv d296_452 (v := nI (5 * w + 3)) (nI_add _ _) ?_
      refine wp_iload d296_453 rfl ?_
      refine wp_if_eq d296_455 (tgt := 462) (by decide) (fun hz => absurd hz (by decide)) (fun _ => ?_)
      refine wp_iconst d296_458 (v := nI 1) (by decide) ?_
      refine wp_goto d296_459 (tgt := 463) (by decide) ?_
      refine wp_iast d296_463 (la_5 hL) (nI_in (by omega) (by decide)) ?_
      refine l_step (o := 5) (i := 5 * w + 3) (v := nI 1) hL hF (by decide) (by rw [nI_nat (by omega)]; rfl) (fun h hL hF => ?_)
      refine wp_iinc d296_464 rfl (v := nI (w + 1)) (nI_add _ 1) (Nat.le_of_ble_eq_true rfl) rfl ?_
      refine wp_goto d296_467 (tgt := 281) (by decide) ?_
      exact K h hL hF _ _
theorem k_wk0_yb {X : mX} {S : Nat → Nat → Int32} {h0 h : mH} {Q : Option Value → mH → Prop} (hL : La h S) (hF : Frm h0 h 313 8) {w mi p : Nat} (hw : w < 2) (hmi : S 0 0 = nI mi) (hmi9 : mi < 60) (hp : S 5 (5 * w + 1) = nI p) (hp4 : p < 4) (hk : S 5 (5 * w) = nI 0) {z : Nat} (hz : S 1 (6 * p) = nI z) (hz6 : z < 6) (hst : S 5 (5 * w + 3) = nI 1) (h1 : ((S 0 3) >>> (nI z &&& 31)) &&& nI 1 = nI 1) (h2 : ((S 7 mi) >>> (nI p &&& 31)) &&& nI 1 = 0) {l9 l10 : Option Value} (K : ∀ h1, La h1 ((updM S 5 (5 * w + 3) (nI 1))) → Frm h0 h1 313 8 → ∀ x9 x10, m_wp X 296 281 [some (.ref 313), some (.ref 314), some (.ref 315), some (.ref 316), some (.ref 317), some (.ref 318), some (.ref 319), some (.ref 320), some (.int (nI (w + 1))), x9, x10] [] h1 Q) : m_wp X 296 281 [some (.ref 313), some (.ref 314), some (.ref 315), some (.ref 316), some (.ref 317), some (.ref 318), some (.ref 319), some (.ref 320), some (.int (nI w)), l9, l10] [] h Q := by
  refine wp_iload d296_281 rfl ?_
  refine wp_iconst d296_283 (v := nI 2) (by decide) ?_
  refine wp_icmp_ge d296_284 (tgt := 470) (by decide) (fun hq9 => absurd hq9 (fun z => absurd ((nI_leI (by omega) (by omega)).mp z) (by omega))) (fun _ => ?_)
  refine wp_aload d296_287 rfl ?_
  refine wp_iconst d296_289 (v := nI 5) (by decide) ?_
  refine wp_iload d296_290 rfl ?_
  refine wp_imulv d296_292 (v := nI (5 * w)) (nI_mul _ _) ?_
  refine wp_iconst d296_293 (v := nI 3) (by decide) ?_
  refine wp_iaddv d296_294 (v := nI (5 * w + 3)) (nI_add _ _) ?_
  refine wp_iald d296_295 (la_5 hL) (nI_in (by omega) (by decide)) (v := nI 1) ((congrArg (S 5) (nI_nat (by omega))).trans hst) ?_
  refine wp_iconst d296_296 (v := nI 2) (by decide) ?_
  refine wp_icmp_ne d296_297 (tgt := 303) (by decide) (fun _ => ?_) (fun hz => absurd hz (by decide))
  refine wp_aload d296_303 rfl ?_
  refine wp_iconst d296_305 (v := nI 5) (by decide) ?_
  refine wp_iload d296_306 rfl ?_
  refine wp_imulv d296_308 (v := nI (5 * w)) (nI_mul _ _) ?_
  refine wp_iconst d296_309 (v := nI 1) (by decide) ?_
  refine wp_iaddv d296_310 (v := nI (5 * w + 1)) (nI_add _ _) ?_
  refine wp_iald d296_311 (la_5 hL) (nI_in (by omega) (by decide)) (v := nI p) ((congrArg (S 5) (nI_nat (by omega))).trans hp) ?_
  refine wp_istore d296_312 (Nat.le_of_ble_eq_true rfl) rfl ?_
  refine wp_aload d296_314 rfl ?_
  refine wp_iconst d296_316 (v := nI 5) (by decide) ?_
  refine wp_iload d296_317 rfl ?_
  refine wp_imulv d296_319 (v := nI (5 * w)) (nI_mul _ _) ?_
  refine wp_iald d296_320 (la_5 hL) (nI_in (by omega) (by decide)) (v := nI 0) ((congrArg (S 5) (nI_nat (by omega))).trans hk) ?_
  refine wp_if_ne d296_321 (tgt := 363) (by decide) (fun hz => absurd hz (by decide)) (fun _ => ?_)
  refine wp_aload_n d296_324 rfl ?_
  refine wp_iconst d296_325 (v := nI 3) (by decide) ?_
  refine wp_iald d296_326 (la_0 hL) (nI_in (by omega) (by decide)) (v := S 0 3) ((congrArg (S 0) (nI_nat (by omega))).trans rfl) ?_
  refine wp_aload_n d296_327 rfl ?_
  refine wp_bipush d296_328 (v := nI 6) (by decide) ?_
  refine wp_iload d296_330 rfl ?_
  refine wp_imulv d296_332 (v := nI (6 * p)) (nI_mul _ _) ?_
  refine wp_iald d296_333 (la_1 hL) (nI_in (by omega) (by decide)) (v := nI z) ((congrArg (S 1) (nI_nat (by omega))).trans hz) ?_
  refine wp_ishr d296_334 ?_
  refine wp_iconst d296_335 (v := nI 1) (by decide) ?_
  refine wp_iand d296_336 ?_
  refine wp_iconst d296_337 (v := nI 1) (by decide) ?_
  refine wp_icmp_ne d296_338 (tgt := 359) (by decide) (fun hc338 => ?_) (fun hc338 => ?_)
  · exact absurd h1 hc338
  · refine wp_aload d296_341 rfl ?_
    refine wp_aload_n d296_343 rfl ?_
    refine wp_iconst d296_344 (v := nI 0) (by decide) ?_
    refine wp_iald d296_345 (la_0 hL) (nI_in (by omega) (by decide)) (v := nI mi) ((congrArg (S 0) (nI_nat (by omega))).trans hmi) ?_
    refine wp_iald d296_346 (la_7 hL) (nI_in (by omega) (by decide)) (v := S 7 mi) ((congrArg (S 7) (nI_nat (by omega))).trans rfl) ?_
    refine wp_iload d296_347 rfl ?_
    refine wp_ishr d296_349 ?_
    refine wp_iconst d296_350 (v := nI 1) (by decide) ?_
    refine wp_iand d296_351 ?_
    refine wp_if_ne d296_352 (tgt := 359) (by decide) (fun hc352 => ?_) (fun hc352 => ?_)
    · exact absurd h2 hc352
    · refine wp_iconst d296_355 (v := nI 1) (by decide) ?_
      refine wp_goto d296_356 (tgt := 404) (by decide) ?_
      refine wp_istore d296_404 (Nat.le_of_ble_eq_true rfl) rfl ?_
      refine wp_iload d296_406 rfl ?_
      refine wp_if_eq d296_408 (tgt := 445) (by decide) (fun hz => absurd hz (by decide)) (fun _ => ?_)
      refine wp_aload d296_411 rfl ?_
      refine wp_iconst d296_413 (v := nI 5) (by decide) ?_
      refine wp_iload d296_414 rfl ?_
      refine wp_imulv d296_416 (v := nI (5 * w)) (nI_mul _ _) ?_
      refine wp_iconst d296_417 (v := nI 3) (by decide) ?_
      refine wp_iaddv d296_418 (v := nI (5 * w + 3)) (nI_add _ _) ?_
      refine wp_iald d296_419 (la_5 hL) (nI_in (by omega) (by decide)) (v := nI 1) ((congrArg (S 5) (nI_nat (by omega))).trans hst) ?_
      refine wp_if_ne d296_420 (tgt := 445) (by decide) (fun _ => ?_) (fun hz => absurd hz (by decide))
      refine wp_aload d296_445 rfl ?_
      refine wp_iconst d296_447 (v := nI 5) (by decide) ?_
      refine wp_iload d296_448 rfl ?_
      refine wp_imulv d296_450 (v := nI (5 * w)) (nI_mul _ _) ?_
      refine wp_iconst d296_451 (v := nI 3) (by decide) ?_
      refine wp_iaddv d296_452 (v := nI (5 * w + 3)) (nI_add _ _) ?_
      refine wp_iload d296_453 rfl ?_
      refine wp_if_eq d296_455 (tgt := 462) (by decide) (fun hz => absurd hz (by decide)) (fun _ => ?_)
      refine wp_iconst d296_458 (v := nI 1) (by decide) ?_
      refine wp_goto d296_459 (tgt := 463) (by decide) ?_
      refine wp_iast d296_463 (la_5 hL) (nI_in (by omega) (by decide)) ?_
      refine l_step (o := 5) (i := 5 * w + 3) (v := nI 1) hL hF (by decide) (by rw [nI_nat (by omega)]; rfl) (fun h hL hF => ?_)
      refine wp_iinc d296_464 rfl (v := nI (w + 1)) (nI_add _ 1) (Nat.le_of_ble_eq_true rfl) rfl ?_
      refine wp_goto d296_467 (tgt := 281) (by decide) ?_
      exact K h hL hF _ _
theorem k_wk0_n {X : mX} {S : Nat → Nat → Int32} {h0 h : mH} {Q : Option Value → mH → Prop} (hL : La h S) (hF : Frm h0 h 313 8) {w mi p : Nat} (hw : w < 2) (hmi : S 0 0 = nI mi) (hmi9 : mi < 60) (hp : S 5 (5 * w + 1) = nI p) (hp4 : p < 4) (hk : S 5 (5 * w) = nI 0) {z : Nat} (hz : S 1 (6 * p) = nI z) (hz6 : z < 6) {st : Nat} (hst : S 5 (5 * w + 3) = nI st) (hst2 : st < 2) (hno : ¬ (((S 0 3) >>> (nI z &&& 31)) &&& nI 1 = nI 1 ∧ ((S 7 mi) >>> (nI p &&& 31)) &&& nI 1 = 0)) {l9 l10 : Option Value} (K : ∀ h1, La h1 ((updM S 5 (5 * w + 3) (nI 0))) → Frm h0 h1 313 8 → ∀ x9 x10, m_wp X 296 281 [some (.ref 313), some (.ref 314), some (.ref 315), some (.ref 316), some (.ref 317), some (.ref 318), some (.ref 319), some (.ref 320), some (.int (nI (w + 1))), x9, x10] [] h1 Q) : m_wp X 296 281 [some (.ref 313), some (.ref 314), some (.ref 315), some (.ref 316), some (.ref 317), some (.ref 318), some (.ref 319), some (.ref 320), some (.int (nI w)), l9, l10] [] h Q := by
  refine wp_iload d296_281 rfl ?_
  refine wp_iconst d296_283 (v := nI 2) (by decide) ?_
  refine wp_icmp_ge d296_284 (tgt := 470) (by decide) (fun hq9 => absurd hq9 (fun z => absurd ((nI_leI (by omega) (by omega)).mp z) (by omega))) (fun _ => ?_)
  refine wp_aload d296_287 rfl ?_
  refine wp_iconst d296_289 (v := nI 5) (by decide) ?_
  refine wp_iload d296_290 rfl ?_
  refine wp_imulv d296_292 (v := nI (5 * w)) (nI_mul _ _) ?_
  refine wp_iconst d296_293 (v := nI 3) (by decide) ?_
  refine wp_iaddv d296_294 (v := nI (5 * w + 3)) (nI_add _ _) ?_
  refine wp_iald d296_295 (la_5 hL) (nI_in (by omega) (by decide)) (v := nI st) ((congrArg (S 5) (nI_nat (by omega))).trans hst) ?_
  refine wp_iconst d296_296 (v := nI 2) (by decide) ?_
  refine wp_icmp_ne d296_297 (tgt := 303) (by decide) (fun _ => ?_) (fun hq9 => absurd hq9 (nl_ne (by omega) (by omega) (by omega)))
  refine wp_aload d296_303 rfl ?_
  refine wp_iconst d296_305 (v := nI 5) (by decide) ?_
  refine wp_iload d296_306 rfl ?_
  refine wp_imulv d296_308 (v := nI (5 * w)) (nI_mul _ _) ?_
  refine wp_iconst d296_309 (v := nI 1) (by decide) ?_
  refine wp_iaddv d296_310 (v := nI (5 * w + 1)) (nI_add _ _) ?_
  refine wp_iald d296_311 (la_5 hL) (nI_in (by omega) (by decide)) (v := nI p) ((congrArg (S 5) (nI_nat (by omega))).trans hp) ?_
  refine wp_istore d296_312 (Nat.le_of_ble_eq_true rfl) rfl ?_
  refine wp_aload d296_314 rfl ?_
  refine wp_iconst d296_316 (v := nI 5) (by decide) ?_
  refine wp_iload d296_317 rfl ?_
  refine wp_imulv d296_319 (v := nI (5 * w)) (nI_mul _ _) ?_
  refine wp_iald d296_320 (la_5 hL) (nI_in (by omega) (by decide)) (v := nI 0) ((congrArg (S 5) (nI_nat (by omega))).trans hk) ?_
  refine wp_if_ne d296_321 (tgt := 363) (by decide) (fun hz => absurd hz (by decide)) (fun _ => ?_)
  refine wp_aload_n d296_324 rfl ?_
  refine wp_iconst d296_325 (v := nI 3) (by decide) ?_
  refine wp_iald d296_326 (la_0 hL) (nI_in (by omega) (by decide)) (v := S 0 3) ((congrArg (S 0) (nI_nat (by omega))).trans rfl) ?_
  refine wp_aload_n d296_327 rfl ?_
  refine wp_bipush d296_328 (v := nI 6) (by decide) ?_
  refine wp_iload d296_330 rfl ?_
  refine wp_imulv d296_332 (v := nI (6 * p)) (nI_mul _ _) ?_
  refine wp_iald d296_333 (la_1 hL) (nI_in (by omega) (by decide)) (v := nI z) ((congrArg (S 1) (nI_nat (by omega))).trans hz) ?_
  refine wp_ishr d296_334 ?_
  refine wp_iconst d296_335 (v := nI 1) (by decide) ?_
  refine wp_iand d296_336 ?_
  refine wp_iconst d296_337 (v := nI 1) (by decide) ?_
  refine wp_icmp_ne d296_338 (tgt := 359) (by decide) (fun hc338 => ?_) (fun hc338 => ?_)
  · refine wp_iconst d296_359 (v := nI 0) (by decide) ?_
    refine wp_goto d296_360 (tgt := 404) (by decide) ?_
    refine wp_istore d296_404 (Nat.le_of_ble_eq_true rfl) rfl ?_
    refine wp_iload d296_406 rfl ?_
    refine wp_if_eq d296_408 (tgt := 445) (by decide) (fun _ => ?_) (fun hz => absurd hz (by decide))
    refine wp_aload d296_445 rfl ?_
    refine wp_iconst d296_447 (v := nI 5) (by decide) ?_
    refine wp_iload d296_448 rfl ?_
    refine wp_imulv d296_450 (v := nI (5 * w)) (nI_mul _ _) ?_
    refine wp_iconst d296_451 (v := nI 3) (by decide) ?_
    refine wp_iaddv d296_452 (v := nI (5 * w + 3)) (nI_add _ _) ?_
    refine wp_iload d296_453 rfl ?_
    refine wp_if_eq d296_455 (tgt := 462) (by decide) (fun _ => ?_) (fun hz => absurd hz (by decide))
    refine wp_iconst d296_462 (v := nI 0) (by decide) ?_
    refine wp_iast d296_463 (la_5 hL) (nI_in (by omega) (by decide)) ?_
    refine l_step (o := 5) (i := 5 * w + 3) (v := nI 0) hL hF (by decide) (by rw [nI_nat (by omega)]; rfl) (fun h hL hF => ?_)
    refine wp_iinc d296_464 rfl (v := nI (w + 1)) (nI_add _ 1) (Nat.le_of_ble_eq_true rfl) rfl ?_
    refine wp_goto d296_467 (tgt := 281) (by decide) ?_
    exact K h hL hF _ _
  · refine wp_aload d296_341 rfl ?_
    refine wp_aload_n d296_343 rfl ?_
    refine wp_iconst d296_344 (v := nI 0) (by decide) ?_
    refine wp_iald d296_345 (la_0 hL) (nI_in (by omega) (by decide)) (v := nI mi) ((congrArg (S 0) (nI_nat (by omega))).trans hmi) ?_
    refine wp_iald d296_346 (la_7 hL) (nI_in (by omega) (by decide)) (v := S 7 mi) ((congrArg (S 7) (nI_nat (by omega))).trans rfl) ?_
    refine wp_iload d296_347 rfl ?_
    refine wp_ishr d296_349 ?_
    refine wp_iconst d296_350 (v := nI 1) (by decide) ?_
    refine wp_iand d296_351 ?_
    refine wp_if_ne d296_352 (tgt := 359) (by decide) (fun hc352 => ?_) (fun hc352 => ?_)
    · refine wp_iconst d296_359 (v := nI 0) (by decide) ?_
      refine wp_goto d296_360 (tgt := 404) (by decide) ?_
      refine wp_istore d296_404 (Nat.le_of_ble_eq_true rfl) rfl ?_
      refine wp_iload d296_406 rfl ?_
      refine wp_if_eq d296_408 (tgt := 445) (by decide) (fun _ => ?_) (fun hz => absurd hz (by decide))
      refine wp_aload d296_445 rfl ?_
      refine wp_iconst d296_447 (v := nI 5) (by decide) ?_
      refine wp_iload d296_448 rfl ?_
      refine wp_imulv d296_450 (v := nI (5 * w)) (nI_mul _ _) ?_
      refine wp_iconst d296_451 (v := nI 3) (by decide) ?_
      refine wp_iaddv d296_452 (v := nI (5 * w + 3)) (nI_add _ _) ?_
      refine wp_iload d296_453 rfl ?_
      refine wp_if_eq d296_455 (tgt := 462) (by decide) (fun _ => ?_) (fun hz => absurd hz (by decide))
      refine wp_iconst d296_462 (v := nI 0) (by decide) ?_
      refine wp_iast d296_463 (la_5 hL) (nI_in (by omega) (by decide)) ?_
      refine l_step (o := 5) (i := 5 * w + 3) (v := nI 0) hL hF (by decide) (by rw [nI_nat (by omega)]; rfl) (fun h hL hF => ?_)
      refine wp_iinc d296_464 rfl (v := nI (w + 1)) (nI_add _ 1) (Nat.le_of_ble_eq_true rfl) rfl ?_
      refine wp_goto d296_467 (tgt := 281) (by decide) ?_
      exact K h hL hF _ _
    · exact absurd ⟨hc338, hc352⟩ hno
theorem k_wk1_ya {X : mX} {S : Nat → Nat → Int32} {h0 h : mH} {Q : Option Value → mH → Prop} (hL : La h S) (hF : Frm h0 h 313 8) {w mi p : Nat} (hw : w < 2) (hmi : S 0 0 = nI mi) (hmi9 : mi < 60) (hp : S 5 (5 * w + 1) = nI p) (hp4 : p < 4) (hk : S 5 (5 * w) = nI 1) {u lm : Nat} (hu : S 1 (6 * p + 2) = nI u) (hu9 : u < 1000) (hlm : S 5 (5 * w + 2) = nI lm) (hlm9 : lm < 1000) (hst : S 5 (5 * w + 3) = nI 0) {na : Nat} (hna : S 0 1 = nI na) (hna9 : na < 1000) (h1 : lm < u) {l9 l10 : Option Value} (K : ∀ h1, La h1 ((updM (updM (L_al S na (10000 * 2 + 1000 * p + mi)) 5 (5 * w + 4) (((S 5 (5 * w + 4)) + (nI 1)))) 5 (5 * w + 3) (nI 1))) → Frm h0 h1 313 8 → ∀ x9 x10, m_wp X 296 281 [some (.ref 313), some (.ref 314), some (.ref 315), some (.ref 316), some (.ref 317), some (.ref 318), some (.ref 319), some (.ref 320), some (.int (nI (w + 1))), x9, x10] [] h1 Q) : m_wp X 296 281 [some (.ref 313), some (.ref 314), some (.ref 315), some (.ref 316), some (.ref 317), some (.ref 318), some (.ref 319), some (.ref 320), some (.int (nI w)), l9, l10] [] h Q := by
  refine wp_iload d296_281 rfl ?_
  refine wp_iconst d296_283 (v := nI 2) (by decide) ?_
  refine wp_icmp_ge d296_284 (tgt := 470) (by decide) (fun hq9 => absurd hq9 (fun z => absurd ((nI_leI (by omega) (by omega)).mp z) (by omega))) (fun _ => ?_)
  refine wp_aload d296_287 rfl ?_
  refine wp_iconst d296_289 (v := nI 5) (by decide) ?_
  refine wp_iload d296_290 rfl ?_
  refine wp_imulv d296_292 (v := nI (5 * w)) (nI_mul _ _) ?_
  refine wp_iconst d296_293 (v := nI 3) (by decide) ?_
  refine wp_iaddv d296_294 (v := nI (5 * w + 3)) (nI_add _ _) ?_
  refine wp_iald d296_295 (la_5 hL) (nI_in (by omega) (by decide)) (v := nI 0) ((congrArg (S 5) (nI_nat (by omega))).trans hst) ?_
  refine wp_iconst d296_296 (v := nI 2) (by decide) ?_
  refine wp_icmp_ne d296_297 (tgt := 303) (by decide) (fun _ => ?_) (fun hz => absurd hz (by decide))
  refine wp_aload d296_303 rfl ?_
  refine wp_iconst d296_305 (v := nI 5) (by decide) ?_
  refine wp_iload d296_306 rfl ?_
  refine wp_imulv d296_308 (v := nI (5 * w)) (nI_mul _ _) ?_
  refine wp_iconst d296_309 (v := nI 1) (by decide) ?_
  refine wp_iaddv d296_310 (v := nI (5 * w + 1)) (nI_add _ _) ?_
  refine wp_iald d296_311 (la_5 hL) (nI_in (by omega) (by decide)) (v := nI p) ((congrArg (S 5) (nI_nat (by omega))).trans hp) ?_
  refine wp_istore d296_312 (Nat.le_of_ble_eq_true rfl) rfl ?_
  refine wp_aload d296_314 rfl ?_
  refine wp_iconst d296_316 (v := nI 5) (by decide) ?_
  refine wp_iload d296_317 rfl ?_
  refine wp_imulv d296_319 (v := nI (5 * w)) (nI_mul _ _) ?_
  refine wp_iald d296_320 (la_5 hL) (nI_in (by omega) (by decide)) (v := nI 1) ((congrArg (S 5) (nI_nat (by omega))).trans hk) ?_
  refine wp_if_ne d296_321 (tgt := 363) (by decide) (fun _ => ?_) (fun hz => absurd hz (by decide))
  refine wp_aload_n d296_363 rfl ?_
  refine wp_bipush d296_364 (v := nI 6) (by decide) ?_
  refine wp_iload d296_366 rfl ?_
  refine wp_imulv d296_368 (v := nI (6 * p)) (nI_mul _ _) ?_
  refine wp_aload d296_369 rfl ?_
  refine wp_iconst d296_371 (v := nI 5) (by decide) ?_
  refine wp_iload d296_372 rfl ?_
  refine wp_imulv d296_374 (v := nI (5 * w)) (nI_mul _ _) ?_
  refine wp_iald d296_375 (la_5 hL) (nI_in (by omega) (by decide)) (v := nI 1) ((congrArg (S 5) (nI_nat (by omega))).trans hk) ?_
  refine wp_iconst d296_376 (v := nI 1) (by decide) ?_
  refine wp_icmp_ne d296_377 (tgt := 384) (by decide) (fun hz => absurd hz (by decide)) (fun _ => ?_)
  refine wp_iconst d296_380 (v := nI 2) (by decide) ?_
  refine wp_goto d296_381 (tgt := 385) (by decide) ?_
  refine wp_iaddv d296_385 (v := nI (6 * p + 2)) (nI_add _ _) ?_
  refine wp_iald d296_386 (la_1 hL) (nI_in (by omega) (by decide)) (v := nI u) ((congrArg (S 1) (nI_nat (by omega))).trans hu) ?_
  refine wp_aload d296_387 rfl ?_
  refine wp_iconst d296_389 (v := nI 5) (by decide) ?_
  refine wp_iload d296_390 rfl ?_
  refine wp_imulv d296_392 (v := nI (5 * w)) (nI_mul _ _) ?_
  refine wp_iconst d296_393 (v := nI 2) (by decide) ?_
  refine wp_iaddv d296_394 (v := nI (5 * w + 2)) (nI_add _ _) ?_
  refine wp_iald d296_395 (la_5 hL) (nI_in (by omega) (by decide)) (v := nI lm) ((congrArg (S 5) (nI_nat (by omega))).trans hlm) ?_
  refine wp_icmp_le d296_396 (tgt := 403) (by decide) (fun hq9 => absurd hq9 (fun z => absurd ((nI_leI (by omega) (by omega)).mp z) (by omega))) (fun _ => ?_)
  refine wp_iconst d296_399 (v := nI 1) (by decide) ?_
  refine wp_goto d296_400 (tgt := 404) (by decide) ?_
  refine wp_istore d296_404 (Nat.le_of_ble_eq_true rfl) rfl ?_
  refine wp_iload d296_406 rfl ?_
  refine wp_if_eq d296_408 (tgt := 445) (by decide) (fun hz => absurd hz (by decide)) (fun _ => ?_)
  refine wp_aload d296_411 rfl ?_
  refine wp_iconst d296_413 (v := nI 5) (by decide) ?_
  refine wp_iload d296_414 rfl ?_
  refine wp_imulv d296_416 (v := nI (5 * w)) (nI_mul _ _) ?_
  refine wp_iconst d296_417 (v := nI 3) (by decide) ?_
  refine wp_iaddv d296_418 (v := nI (5 * w + 3)) (nI_add _ _) ?_
  refine wp_iald d296_419 (la_5 hL) (nI_in (by omega) (by decide)) (v := nI 0) ((congrArg (S 5) (nI_nat (by omega))).trans hst) ?_
  refine wp_if_ne d296_420 (tgt := 445) (by decide) (fun hz => absurd hz (by decide)) (fun _ => ?_)
  refine wp_iconst d296_423 (v := nI 2) (by decide) ?_
  refine wp_iload d296_424 rfl ?_
  refine wp_aload_n d296_426 rfl ?_
  refine wp_aload d296_427 rfl ?_
  refine wp_invsL (e := 16) (j2 := 299) (n := 4) d296_429 (by decide +kernel) (by decide +kernel) rfl rfl rfl (Nat.le_of_ble_eq_true rfl) (Nat.le_of_ble_eq_true rfl) rfl rfl (Nat.le_of_ble_eq_true rfl) (by decide +kernel) (k_alarm hL (c := 2) (r := p) hna hmi (by omega) (by omega) (by omega) hna9) hF ?_
  intro h hL hF
  refine wp_aload d296_432 rfl ?_
  refine wp_iconst d296_434 (v := nI 5) (by decide) ?_
  refine wp_iload d296_435 rfl ?_
  refine wp_imulv d296_437 (v := nI (5 * w)) (nI_mul _ _) ?_
  refine wp_iconst d296_438 (v := nI 4) (by decide) ?_
  refine wp_iaddv d296_439 (v := nI (5 * w + 4)) (nI_add _ _) ?_
  refine wp_dup2 d296_440 rfl rfl ?_
  refine wp_iald d296_441 (la_5 hL) (nI_in (by omega) (by decide)) (v := S 5 (5 * w + 4)) ((congrArg ((L_al S na (10000 * 2 + 1000 * p + mi)) 5) (nI_nat (by omega))).trans ((L_al_o (by omega) (by omega)).trans rfl)) ?_
  refine wp_iconst d296_442 (v := nI 1) (by decide) ?_
  refine wp_iadd d296_443 ?_
  refine wp_iast d296_444 (la_5 hL) (nI_in (by omega) (by decide)) ?_
  refine l_step (o := 5) (i := 5 * w + 4) (v := ((S 5 (5 * w + 4)) + (nI 1))) hL hF (by decide) (by rw [nI_nat (by omega)]; rfl) (fun h hL hF => ?_)
  refine wp_aload d296_445 rfl ?_
  refine wp_iconst d296_447 (v := nI 5) (by decide) ?_
  refine wp_iload d296_448 rfl ?_
  refine wp_imulv d296_450 (v := nI (5 * w)) (nI_mul _ _) ?_
  refine wp_iconst d296_451 (v := nI 3) (by decide) ?_
  refine wp_iaddv d296_452 (v := nI (5 * w + 3)) (nI_add _ _) ?_
  refine wp_iload d296_453 rfl ?_
  refine wp_if_eq d296_455 (tgt := 462) (by decide) (fun hz => absurd hz (by decide)) (fun _ => ?_)
  refine wp_iconst d296_458 (v := nI 1) (by decide) ?_
  refine wp_goto d296_459 (tgt := 463) (by decide) ?_
  refine wp_iast d296_463 (la_5 hL) (nI_in (by omega) (by decide)) ?_
  refine l_step (o := 5) (i := 5 * w + 3) (v := nI 1) hL hF (by decide) (by rw [nI_nat (by omega)]; rfl) (fun h hL hF => ?_)
  refine wp_iinc d296_464 rfl (v := nI (w + 1)) (nI_add _ 1) (Nat.le_of_ble_eq_true rfl) rfl ?_
  refine wp_goto d296_467 (tgt := 281) (by decide) ?_
  exact K h hL hF _ _
theorem k_wk1_yb {X : mX} {S : Nat → Nat → Int32} {h0 h : mH} {Q : Option Value → mH → Prop} (hL : La h S) (hF : Frm h0 h 313 8) {w mi p : Nat} (hw : w < 2) (hmi : S 0 0 = nI mi) (hmi9 : mi < 60) (hp : S 5 (5 * w + 1) = nI p) (hp4 : p < 4) (hk : S 5 (5 * w) = nI 1) {u lm : Nat} (hu : S 1 (6 * p + 2) = nI u) (hu9 : u < 1000) (hlm : S 5 (5 * w + 2) = nI lm) (hlm9 : lm < 1000) (hst : S 5 (5 * w + 3) = nI 1) (h1 : lm < u) {l9 l10 : Option Value} (K : ∀ h1, La h1 ((updM S 5 (5 * w + 3) (nI 1))) → Frm h0 h1 313 8 → ∀ x9 x10, m_wp X 296 281 [some (.ref 313), some (.ref 314), some (.ref 315), some (.ref 316), some (.ref 317), some (.ref 318), some (.ref 319), some (.ref 320), some (.int (nI (w + 1))), x9, x10] [] h1 Q) : m_wp X 296 281 [some (.ref 313), some (.ref 314), some (.ref 315), some (.ref 316), some (.ref 317), some (.ref 318), some (.ref 319), some (.ref 320), some (.int (nI w)), l9, l10] [] h Q := by
  refine wp_iload d296_281 rfl ?_
  refine wp_iconst d296_283 (v := nI 2) (by decide) ?_
  refine wp_icmp_ge d296_284 (tgt := 470) (by decide) (fun hq9 => absurd hq9 (fun z => absurd ((nI_leI (by omega) (by omega)).mp z) (by omega))) (fun _ => ?_)
  refine wp_aload d296_287 rfl ?_
  refine wp_iconst d296_289 (v := nI 5) (by decide) ?_
  refine wp_iload d296_290 rfl ?_
  refine wp_imulv d296_292 (v := nI (5 * w)) (nI_mul _ _) ?_
  refine wp_iconst d296_293 (v := nI 3) (by decide) ?_
  refine wp_iaddv d296_294 (v := nI (5 * w + 3)) (nI_add _ _) ?_
  refine wp_iald d296_295 (la_5 hL) (nI_in (by omega) (by decide)) (v := nI 1) ((congrArg (S 5) (nI_nat (by omega))).trans hst) ?_
  refine wp_iconst d296_296 (v := nI 2) (by decide) ?_
  refine wp_icmp_ne d296_297 (tgt := 303) (by decide) (fun _ => ?_) (fun hz => absurd hz (by decide))
  refine wp_aload d296_303 rfl ?_
  refine wp_iconst d296_305 (v := nI 5) (by decide) ?_
  refine wp_iload d296_306 rfl ?_
  refine wp_imulv d296_308 (v := nI (5 * w)) (nI_mul _ _) ?_
  refine wp_iconst d296_309 (v := nI 1) (by decide) ?_
  refine wp_iaddv d296_310 (v := nI (5 * w + 1)) (nI_add _ _) ?_
  refine wp_iald d296_311 (la_5 hL) (nI_in (by omega) (by decide)) (v := nI p) ((congrArg (S 5) (nI_nat (by omega))).trans hp) ?_
  refine wp_istore d296_312 (Nat.le_of_ble_eq_true rfl) rfl ?_
  refine wp_aload d296_314 rfl ?_
  refine wp_iconst d296_316 (v := nI 5) (by decide) ?_
  refine wp_iload d296_317 rfl ?_
  refine wp_imulv d296_319 (v := nI (5 * w)) (nI_mul _ _) ?_
  refine wp_iald d296_320 (la_5 hL) (nI_in (by omega) (by decide)) (v := nI 1) ((congrArg (S 5) (nI_nat (by omega))).trans hk) ?_
  refine wp_if_ne d296_321 (tgt := 363) (by decide) (fun _ => ?_) (fun hz => absurd hz (by decide))
  refine wp_aload_n d296_363 rfl ?_
  refine wp_bipush d296_364 (v := nI 6) (by decide) ?_
  refine wp_iload d296_366 rfl ?_
  refine wp_imulv d296_368 (v := nI (6 * p)) (nI_mul _ _) ?_
  refine wp_aload d296_369 rfl ?_
  refine wp_iconst d296_371 (v := nI 5) (by decide) ?_
  refine wp_iload d296_372 rfl ?_
  refine wp_imulv d296_374 (v := nI (5 * w)) (nI_mul _ _) ?_
  refine wp_iald d296_375 (la_5 hL) (nI_in (by omega) (by decide)) (v := nI 1) ((congrArg (S 5) (nI_nat (by omega))).trans hk) ?_
  refine wp_iconst d296_376 (v := nI 1) (by decide) ?_
  refine wp_icmp_ne d296_377 (tgt := 384) (by decide) (fun hz => absurd hz (by decide)) (fun _ => ?_)
  refine wp_iconst d296_380 (v := nI 2) (by decide) ?_
  refine wp_goto d296_381 (tgt := 385) (by decide) ?_
  refine wp_iaddv d296_385 (v := nI (6 * p + 2)) (nI_add _ _) ?_
  refine wp_iald d296_386 (la_1 hL) (nI_in (by omega) (by decide)) (v := nI u) ((congrArg (S 1) (nI_nat (by omega))).trans hu) ?_
  refine wp_aload d296_387 rfl ?_
  refine wp_iconst d296_389 (v := nI 5) (by decide) ?_
  refine wp_iload d296_390 rfl ?_
  refine wp_imulv d296_392 (v := nI (5 * w)) (nI_mul _ _) ?_
  refine wp_iconst d296_393 (v := nI 2) (by decide) ?_
  refine wp_iaddv d296_394 (v := nI (5 * w + 2)) (nI_add _ _) ?_
  refine wp_iald d296_395 (la_5 hL) (nI_in (by omega) (by decide)) (v := nI lm) ((congrArg (S 5) (nI_nat (by omega))).trans hlm) ?_
  refine wp_icmp_le d296_396 (tgt := 403) (by decide) (fun hq9 => absurd hq9 (fun z => absurd ((nI_leI (by omega) (by omega)).mp z) (by omega))) (fun _ => ?_)
  refine wp_iconst d296_399 (v := nI 1) (by decide) ?_
  refine wp_goto d296_400 (tgt := 404) (by decide) ?_
  refine wp_istore d296_404 (Nat.le_of_ble_eq_true rfl) rfl ?_
  refine wp_iload d296_406 rfl ?_
  refine wp_if_eq d296_408 (tgt := 445) (by decide) (fun hz => absurd hz (by decide)) (fun _ => ?_)
  refine wp_aload d296_411 rfl ?_
  refine wp_iconst d296_413 (v := nI 5) (by decide) ?_
  refine wp_iload d296_414 rfl ?_
  refine wp_imulv d296_416 (v := nI (5 * w)) (nI_mul _ _) ?_
  refine wp_iconst d296_417 (v := nI 3) (by decide) ?_
  refine wp_iaddv d296_418 (v := nI (5 * w + 3)) (nI_add _ _) ?_
  refine wp_iald d296_419 (la_5 hL) (nI_in (by omega) (by decide)) (v := nI 1) ((congrArg (S 5) (nI_nat (by omega))).trans hst) ?_
  refine wp_if_ne d296_420 (tgt := 445) (by decide) (fun _ => ?_) (fun hz => absurd hz (by decide))
  refine wp_aload d296_445 rfl ?_
  refine wp_iconst d296_447 (v := nI 5) (by decide) ?_
  refine wp_iload d296_448 rfl ?_
  refine wp_imulv d296_450 (v := nI (5 * w)) (nI_mul _ _) ?_
  refine wp_iconst d296_451 (v := nI 3) (by decide) ?_
  refine wp_iaddv d296_452 (v := nI (5 * w + 3)) (nI_add _ _) ?_
  refine wp_iload d296_453 rfl ?_
  refine wp_if_eq d296_455 (tgt := 462) (by decide) (fun hz => absurd hz (by decide)) (fun _ => ?_)
  refine wp_iconst d296_458 (v := nI 1) (by decide) ?_
  refine wp_goto d296_459 (tgt := 463) (by decide) ?_
  refine wp_iast d296_463 (la_5 hL) (nI_in (by omega) (by decide)) ?_
  refine l_step (o := 5) (i := 5 * w + 3) (v := nI 1) hL hF (by decide) (by rw [nI_nat (by omega)]; rfl) (fun h hL hF => ?_)
  refine wp_iinc d296_464 rfl (v := nI (w + 1)) (nI_add _ 1) (Nat.le_of_ble_eq_true rfl) rfl ?_
  refine wp_goto d296_467 (tgt := 281) (by decide) ?_
  exact K h hL hF _ _
theorem k_wk1_n {X : mX} {S : Nat → Nat → Int32} {h0 h : mH} {Q : Option Value → mH → Prop} (hL : La h S) (hF : Frm h0 h 313 8) {w mi p : Nat} (hw : w < 2) (hmi : S 0 0 = nI mi) (hmi9 : mi < 60) (hp : S 5 (5 * w + 1) = nI p) (hp4 : p < 4) (hk : S 5 (5 * w) = nI 1) {u lm : Nat} (hu : S 1 (6 * p + 2) = nI u) (hu9 : u < 1000) (hlm : S 5 (5 * w + 2) = nI lm) (hlm9 : lm < 1000) {st : Nat} (hst : S 5 (5 * w + 3) = nI st) (hst2 : st < 2) (hno : ¬ lm < u) {l9 l10 : Option Value} (K : ∀ h1, La h1 ((updM S 5 (5 * w + 3) (nI 0))) → Frm h0 h1 313 8 → ∀ x9 x10, m_wp X 296 281 [some (.ref 313), some (.ref 314), some (.ref 315), some (.ref 316), some (.ref 317), some (.ref 318), some (.ref 319), some (.ref 320), some (.int (nI (w + 1))), x9, x10] [] h1 Q) : m_wp X 296 281 [some (.ref 313), some (.ref 314), some (.ref 315), some (.ref 316), some (.ref 317), some (.ref 318), some (.ref 319), some (.ref 320), some (.int (nI w)), l9, l10] [] h Q := by
  refine wp_iload d296_281 rfl ?_
  refine wp_iconst d296_283 (v := nI 2) (by decide) ?_
  refine wp_icmp_ge d296_284 (tgt := 470) (by decide) (fun hq9 => absurd hq9 (fun z => absurd ((nI_leI (by omega) (by omega)).mp z) (by omega))) (fun _ => ?_)
  refine wp_aload d296_287 rfl ?_
  refine wp_iconst d296_289 (v := nI 5) (by decide) ?_
  refine wp_iload d296_290 rfl ?_
  refine wp_imulv d296_292 (v := nI (5 * w)) (nI_mul _ _) ?_
  refine wp_iconst d296_293 (v := nI 3) (by decide) ?_
  refine wp_iaddv d296_294 (v := nI (5 * w + 3)) (nI_add _ _) ?_
  refine wp_iald d296_295 (la_5 hL) (nI_in (by omega) (by decide)) (v := nI st) ((congrArg (S 5) (nI_nat (by omega))).trans hst) ?_
  refine wp_iconst d296_296 (v := nI 2) (by decide) ?_
  refine wp_icmp_ne d296_297 (tgt := 303) (by decide) (fun _ => ?_) (fun hq9 => absurd hq9 (nl_ne (by omega) (by omega) (by omega)))
  refine wp_aload d296_303 rfl ?_
  refine wp_iconst d296_305 (v := nI 5) (by decide) ?_
  refine wp_iload d296_306 rfl ?_
  refine wp_imulv d296_308 (v := nI (5 * w)) (nI_mul _ _) ?_
  refine wp_iconst d296_309 (v := nI 1) (by decide) ?_
  refine wp_iaddv d296_310 (v := nI (5 * w + 1)) (nI_add _ _) ?_
  refine wp_iald d296_311 (la_5 hL) (nI_in (by omega) (by decide)) (v := nI p) ((congrArg (S 5) (nI_nat (by omega))).trans hp) ?_
  refine wp_istore d296_312 (Nat.le_of_ble_eq_true rfl) rfl ?_
  refine wp_aload d296_314 rfl ?_
  refine wp_iconst d296_316 (v := nI 5) (by decide) ?_
  refine wp_iload d296_317 rfl ?_
  refine wp_imulv d296_319 (v := nI (5 * w)) (nI_mul _ _) ?_
  refine wp_iald d296_320 (la_5 hL) (nI_in (by omega) (by decide)) (v := nI 1) ((congrArg (S 5) (nI_nat (by omega))).trans hk) ?_
  refine wp_if_ne d296_321 (tgt := 363) (by decide) (fun _ => ?_) (fun hz => absurd hz (by decide))
  refine wp_aload_n d296_363 rfl ?_
  refine wp_bipush d296_364 (v := nI 6) (by decide) ?_
  refine wp_iload d296_366 rfl ?_
  refine wp_imulv d296_368 (v := nI (6 * p)) (nI_mul _ _) ?_
  refine wp_aload d296_369 rfl ?_
  refine wp_iconst d296_371 (v := nI 5) (by decide) ?_
  refine wp_iload d296_372 rfl ?_
  refine wp_imulv d296_374 (v := nI (5 * w)) (nI_mul _ _) ?_
  refine wp_iald d296_375 (la_5 hL) (nI_in (by omega) (by decide)) (v := nI 1) ((congrArg (S 5) (nI_nat (by omega))).trans hk) ?_
  refine wp_iconst d296_376 (v := nI 1) (by decide) ?_
  refine wp_icmp_ne d296_377 (tgt := 384) (by decide) (fun hz => absurd hz (by decide)) (fun _ => ?_)
  refine wp_iconst d296_380 (v := nI 2) (by decide) ?_
  refine wp_goto d296_381 (tgt := 385) (by decide) ?_
  refine wp_iaddv d296_385 (v := nI (6 * p + 2)) (nI_add _ _) ?_
  refine wp_iald d296_386 (la_1 hL) (nI_in (by omega) (by decide)) (v := nI u) ((congrArg (S 1) (nI_nat (by omega))).trans hu) ?_
  refine wp_aload d296_387 rfl ?_
  refine wp_iconst d296_389 (v := nI 5) (by decide) ?_
  refine wp_iload d296_390 rfl ?_
  refine wp_imulv d296_392 (v := nI (5 * w)) (nI_mul _ _) ?_
  refine wp_iconst d296_393 (v := nI 2) (by decide) ?_
  refine wp_iaddv d296_394 (v := nI (5 * w + 2)) (nI_add _ _) ?_
  refine wp_iald d296_395 (la_5 hL) (nI_in (by omega) (by decide)) (v := nI lm) ((congrArg (S 5) (nI_nat (by omega))).trans hlm) ?_
  refine wp_icmp_le d296_396 (tgt := 403) (by decide) (fun _ => ?_) (fun hq9 => absurd (nI_le (by omega) (by omega)) hq9)
  refine wp_iconst d296_403 (v := nI 0) (by decide) ?_
  refine wp_istore d296_404 (Nat.le_of_ble_eq_true rfl) rfl ?_
  refine wp_iload d296_406 rfl ?_
  refine wp_if_eq d296_408 (tgt := 445) (by decide) (fun _ => ?_) (fun hz => absurd hz (by decide))
  refine wp_aload d296_445 rfl ?_
  refine wp_iconst d296_447 (v := nI 5) (by decide) ?_
  refine wp_iload d296_448 rfl ?_
  refine wp_imulv d296_450 (v := nI (5 * w)) (nI_mul _ _) ?_
  refine wp_iconst d296_451 (v := nI 3) (by decide) ?_
  refine wp_iaddv d296_452 (v := nI (5 * w + 3)) (nI_add _ _) ?_
  refine wp_iload d296_453 rfl ?_
  refine wp_if_eq d296_455 (tgt := 462) (by decide) (fun _ => ?_) (fun hz => absurd hz (by decide))
  refine wp_iconst d296_462 (v := nI 0) (by decide) ?_
  refine wp_iast d296_463 (la_5 hL) (nI_in (by omega) (by decide)) ?_
  refine l_step (o := 5) (i := 5 * w + 3) (v := nI 0) hL hF (by decide) (by rw [nI_nat (by omega)]; rfl) (fun h hL hF => ?_)
  refine wp_iinc d296_464 rfl (v := nI (w + 1)) (nI_add _ 1) (Nat.le_of_ble_eq_true rfl) rfl ?_
  refine wp_goto d296_467 (tgt := 281) (by decide) ?_
  exact K h hL hF _ _
theorem k_wk2_ya {X : mX} {S : Nat → Nat → Int32} {h0 h : mH} {Q : Option Value → mH → Prop} (hL : La h S) (hF : Frm h0 h 313 8) {w mi p : Nat} (hw : w < 2) (hmi : S 0 0 = nI mi) (hmi9 : mi < 60) (hp : S 5 (5 * w + 1) = nI p) (hp4 : p < 4) (hk : S 5 (5 * w) = nI 2) {u lm : Nat} (hu : S 1 (6 * p + 3) = nI u) (hu9 : u < 1000) (hlm : S 5 (5 * w + 2) = nI lm) (hlm9 : lm < 1000) (hst : S 5 (5 * w + 3) = nI 0) {na : Nat} (hna : S 0 1 = nI na) (hna9 : na < 1000) (h1 : lm < u) {l9 l10 : Option Value} (K : ∀ h1, La h1 ((updM (updM (L_al S na (10000 * 2 + 1000 * p + mi)) 5 (5 * w + 4) (((S 5 (5 * w + 4)) + (nI 1)))) 5 (5 * w + 3) (nI 1))) → Frm h0 h1 313 8 → ∀ x9 x10, m_wp X 296 281 [some (.ref 313), some (.ref 314), some (.ref 315), some (.ref 316), some (.ref 317), some (.ref 318), some (.ref 319), some (.ref 320), some (.int (nI (w + 1))), x9, x10] [] h1 Q) : m_wp X 296 281 [some (.ref 313), some (.ref 314), some (.ref 315), some (.ref 316), some (.ref 317), some (.ref 318), some (.ref 319), some (.ref 320), some (.int (nI w)), l9, l10] [] h Q := by
  refine wp_iload d296_281 rfl ?_
  refine wp_iconst d296_283 (v := nI 2) (by decide) ?_
  refine wp_icmp_ge d296_284 (tgt := 470) (by decide) (fun hq9 => absurd hq9 (fun z => absurd ((nI_leI (by omega) (by omega)).mp z) (by omega))) (fun _ => ?_)
  refine wp_aload d296_287 rfl ?_
  refine wp_iconst d296_289 (v := nI 5) (by decide) ?_
  refine wp_iload d296_290 rfl ?_
  refine wp_imulv d296_292 (v := nI (5 * w)) (nI_mul _ _) ?_
  refine wp_iconst d296_293 (v := nI 3) (by decide) ?_
  refine wp_iaddv d296_294 (v := nI (5 * w + 3)) (nI_add _ _) ?_
  refine wp_iald d296_295 (la_5 hL) (nI_in (by omega) (by decide)) (v := nI 0) ((congrArg (S 5) (nI_nat (by omega))).trans hst) ?_
  refine wp_iconst d296_296 (v := nI 2) (by decide) ?_
  refine wp_icmp_ne d296_297 (tgt := 303) (by decide) (fun _ => ?_) (fun hz => absurd hz (by decide))
  refine wp_aload d296_303 rfl ?_
  refine wp_iconst d296_305 (v := nI 5) (by decide) ?_
  refine wp_iload d296_306 rfl ?_
  refine wp_imulv d296_308 (v := nI (5 * w)) (nI_mul _ _) ?_
  refine wp_iconst d296_309 (v := nI 1) (by decide) ?_
  refine wp_iaddv d296_310 (v := nI (5 * w + 1)) (nI_add _ _) ?_
  refine wp_iald d296_311 (la_5 hL) (nI_in (by omega) (by decide)) (v := nI p) ((congrArg (S 5) (nI_nat (by omega))).trans hp) ?_
  refine wp_istore d296_312 (Nat.le_of_ble_eq_true rfl) rfl ?_
  refine wp_aload d296_314 rfl ?_
  refine wp_iconst d296_316 (v := nI 5) (by decide) ?_
  refine wp_iload d296_317 rfl ?_
  refine wp_imulv d296_319 (v := nI (5 * w)) (nI_mul _ _) ?_
  refine wp_iald d296_320 (la_5 hL) (nI_in (by omega) (by decide)) (v := nI 2) ((congrArg (S 5) (nI_nat (by omega))).trans hk) ?_
  refine wp_if_ne d296_321 (tgt := 363) (by decide) (fun _ => ?_) (fun hz => absurd hz (by decide))
  refine wp_aload_n d296_363 rfl ?_
  refine wp_bipush d296_364 (v := nI 6) (by decide) ?_
  refine wp_iload d296_366 rfl ?_
  refine wp_imulv d296_368 (v := nI (6 * p)) (nI_mul _ _) ?_
  refine wp_aload d296_369 rfl ?_
  refine wp_iconst d296_371 (v := nI 5) (by decide) ?_
  refine wp_iload d296_372 rfl ?_
  refine wp_imulv d296_374 (v := nI (5 * w)) (nI_mul _ _) ?_
  refine wp_iald d296_375 (la_5 hL) (nI_in (by omega) (by decide)) (v := nI 2) ((congrArg (S 5) (nI_nat (by omega))).trans hk) ?_
  refine wp_iconst d296_376 (v := nI 1) (by decide) ?_
  refine wp_icmp_ne d296_377 (tgt := 384) (by decide) (fun _ => ?_) (fun hz => absurd hz (by decide))
  refine wp_iconst d296_384 (v := nI 3) (by decide) ?_
  refine wp_iaddv d296_385 (v := nI (6 * p + 3)) (nI_add _ _) ?_
  refine wp_iald d296_386 (la_1 hL) (nI_in (by omega) (by decide)) (v := nI u) ((congrArg (S 1) (nI_nat (by omega))).trans hu) ?_
  refine wp_aload d296_387 rfl ?_
  refine wp_iconst d296_389 (v := nI 5) (by decide) ?_
  refine wp_iload d296_390 rfl ?_
  refine wp_imulv d296_392 (v := nI (5 * w)) (nI_mul _ _) ?_
  refine wp_iconst d296_393 (v := nI 2) (by decide) ?_
  refine wp_iaddv d296_394 (v := nI (5 * w + 2)) (nI_add _ _) ?_
  refine wp_iald d296_395 (la_5 hL) (nI_in (by omega) (by decide)) (v := nI lm) ((congrArg (S 5) (nI_nat (by omega))).trans hlm) ?_
  refine wp_icmp_le d296_396 (tgt := 403) (by decide) (fun hq9 => absurd hq9 (fun z => absurd ((nI_leI (by omega) (by omega)).mp z) (by omega))) (fun _ => ?_)
  refine wp_iconst d296_399 (v := nI 1) (by decide) ?_
  refine wp_goto d296_400 (tgt := 404) (by decide) ?_
  refine wp_istore d296_404 (Nat.le_of_ble_eq_true rfl) rfl ?_
  refine wp_iload d296_406 rfl ?_
  refine wp_if_eq d296_408 (tgt := 445) (by decide) (fun hz => absurd hz (by decide)) (fun _ => ?_)
  refine wp_aload d296_411 rfl ?_
  refine wp_iconst d296_413 (v := nI 5) (by decide) ?_
  refine wp_iload d296_414 rfl ?_
  refine wp_imulv d296_416 (v := nI (5 * w)) (nI_mul _ _) ?_
  refine wp_iconst d296_417 (v := nI 3) (by decide) ?_
  refine wp_iaddv d296_418 (v := nI (5 * w + 3)) (nI_add _ _) ?_
  refine wp_iald d296_419 (la_5 hL) (nI_in (by omega) (by decide)) (v := nI 0) ((congrArg (S 5) (nI_nat (by omega))).trans hst) ?_
  refine wp_if_ne d296_420 (tgt := 445) (by decide) (fun hz => absurd hz (by decide)) (fun _ => ?_)
  refine wp_iconst d296_423 (v := nI 2) (by decide) ?_
  refine wp_iload d296_424 rfl ?_
  refine wp_aload_n d296_426 rfl ?_
  refine wp_aload d296_427 rfl ?_
  refine wp_invsL (e := 16) (j2 := 299) (n := 4) d296_429 (by decide +kernel) (by decide +kernel) rfl rfl rfl (Nat.le_of_ble_eq_true rfl) (Nat.le_of_ble_eq_true rfl) rfl rfl (Nat.le_of_ble_eq_true rfl) (by decide +kernel) (k_alarm hL (c := 2) (r := p) hna hmi (by omega) (by omega) (by omega) hna9) hF ?_
  intro h hL hF
  refine wp_aload d296_432 rfl ?_
  refine wp_iconst d296_434 (v := nI 5) (by decide) ?_
  refine wp_iload d296_435 rfl ?_
  refine wp_imulv d296_437 (v := nI (5 * w)) (nI_mul _ _) ?_
  refine wp_iconst d296_438 (v := nI 4) (by decide) ?_
  refine wp_iaddv d296_439 (v := nI (5 * w + 4)) (nI_add _ _) ?_
  refine wp_dup2 d296_440 rfl rfl ?_
  refine wp_iald d296_441 (la_5 hL) (nI_in (by omega) (by decide)) (v := S 5 (5 * w + 4)) ((congrArg ((L_al S na (10000 * 2 + 1000 * p + mi)) 5) (nI_nat (by omega))).trans ((L_al_o (by omega) (by omega)).trans rfl)) ?_
  refine wp_iconst d296_442 (v := nI 1) (by decide) ?_
  refine wp_iadd d296_443 ?_
  refine wp_iast d296_444 (la_5 hL) (nI_in (by omega) (by decide)) ?_
  refine l_step (o := 5) (i := 5 * w + 4) (v := ((S 5 (5 * w + 4)) + (nI 1))) hL hF (by decide) (by rw [nI_nat (by omega)]; rfl) (fun h hL hF => ?_)
  refine wp_aload d296_445 rfl ?_
  refine wp_iconst d296_447 (v := nI 5) (by decide) ?_
  refine wp_iload d296_448 rfl ?_
  refine wp_imulv d296_450 (v := nI (5 * w)) (nI_mul _ _) ?_
  refine wp_iconst d296_451 (v := nI 3) (by decide) ?_
  refine wp_iaddv d296_452 (v := nI (5 * w + 3)) (nI_add _ _) ?_
  refine wp_iload d296_453 rfl ?_
  refine wp_if_eq d296_455 (tgt := 462) (by decide) (fun hz => absurd hz (by decide)) (fun _ => ?_)
  refine wp_iconst d296_458 (v := nI 1) (by decide) ?_
  refine wp_goto d296_459 (tgt := 463) (by decide) ?_
  refine wp_iast d296_463 (la_5 hL) (nI_in (by omega) (by decide)) ?_
  refine l_step (o := 5) (i := 5 * w + 3) (v := nI 1) hL hF (by decide) (by rw [nI_nat (by omega)]; rfl) (fun h hL hF => ?_)
  refine wp_iinc d296_464 rfl (v := nI (w + 1)) (nI_add _ 1) (Nat.le_of_ble_eq_true rfl) rfl ?_
  refine wp_goto d296_467 (tgt := 281) (by decide) ?_
  exact K h hL hF _ _
theorem k_wk2_yb {X : mX} {S : Nat → Nat → Int32} {h0 h : mH} {Q : Option Value → mH → Prop} (hL : La h S) (hF : Frm h0 h 313 8) {w mi p : Nat} (hw : w < 2) (hmi : S 0 0 = nI mi) (hmi9 : mi < 60) (hp : S 5 (5 * w + 1) = nI p) (hp4 : p < 4) (hk : S 5 (5 * w) = nI 2) {u lm : Nat} (hu : S 1 (6 * p + 3) = nI u) (hu9 : u < 1000) (hlm : S 5 (5 * w + 2) = nI lm) (hlm9 : lm < 1000) (hst : S 5 (5 * w + 3) = nI 1) (h1 : lm < u) {l9 l10 : Option Value} (K : ∀ h1, La h1 ((updM S 5 (5 * w + 3) (nI 1))) → Frm h0 h1 313 8 → ∀ x9 x10, m_wp X 296 281 [some (.ref 313), some (.ref 314), some (.ref 315), some (.ref 316), some (.ref 317), some (.ref 318), some (.ref 319), some (.ref 320), some (.int (nI (w + 1))), x9, x10] [] h1 Q) : m_wp X 296 281 [some (.ref 313), some (.ref 314), some (.ref 315), some (.ref 316), some (.ref 317), some (.ref 318), some (.ref 319), some (.ref 320), some (.int (nI w)), l9, l10] [] h Q := by
  refine wp_iload d296_281 rfl ?_
  refine wp_iconst d296_283 (v := nI 2) (by decide) ?_
  refine wp_icmp_ge d296_284 (tgt := 470) (by decide) (fun hq9 => absurd hq9 (fun z => absurd ((nI_leI (by omega) (by omega)).mp z) (by omega))) (fun _ => ?_)
  refine wp_aload d296_287 rfl ?_
  refine wp_iconst d296_289 (v := nI 5) (by decide) ?_
  refine wp_iload d296_290 rfl ?_
  refine wp_imulv d296_292 (v := nI (5 * w)) (nI_mul _ _) ?_
  refine wp_iconst d296_293 (v := nI 3) (by decide) ?_
  refine wp_iaddv d296_294 (v := nI (5 * w + 3)) (nI_add _ _) ?_
  refine wp_iald d296_295 (la_5 hL) (nI_in (by omega) (by decide)) (v := nI 1) ((congrArg (S 5) (nI_nat (by omega))).trans hst) ?_
  refine wp_iconst d296_296 (v := nI 2) (by decide) ?_
  refine wp_icmp_ne d296_297 (tgt := 303) (by decide) (fun _ => ?_) (fun hz => absurd hz (by decide))
  refine wp_aload d296_303 rfl ?_
  refine wp_iconst d296_305 (v := nI 5) (by decide) ?_
  refine wp_iload d296_306 rfl ?_
  refine wp_imulv d296_308 (v := nI (5 * w)) (nI_mul _ _) ?_
  refine wp_iconst d296_309 (v := nI 1) (by decide) ?_
  refine wp_iaddv d296_310 (v := nI (5 * w + 1)) (nI_add _ _) ?_
  refine wp_iald d296_311 (la_5 hL) (nI_in (by omega) (by decide)) (v := nI p) ((congrArg (S 5) (nI_nat (by omega))).trans hp) ?_
  refine wp_istore d296_312 (Nat.le_of_ble_eq_true rfl) rfl ?_
  refine wp_aload d296_314 rfl ?_
  refine wp_iconst d296_316 (v := nI 5) (by decide) ?_
  refine wp_iload d296_317 rfl ?_
  refine wp_imulv d296_319 (v := nI (5 * w)) (nI_mul _ _) ?_
  refine wp_iald d296_320 (la_5 hL) (nI_in (by omega) (by decide)) (v := nI 2) ((congrArg (S 5) (nI_nat (by omega))).trans hk) ?_
  refine wp_if_ne d296_321 (tgt := 363) (by decide) (fun _ => ?_) (fun hz => absurd hz (by decide))
  refine wp_aload_n d296_363 rfl ?_
  refine wp_bipush d296_364 (v := nI 6) (by decide) ?_
  refine wp_iload d296_366 rfl ?_
  refine wp_imulv d296_368 (v := nI (6 * p)) (nI_mul _ _) ?_
  refine wp_aload d296_369 rfl ?_
  refine wp_iconst d296_371 (v := nI 5) (by decide) ?_
  refine wp_iload d296_372 rfl ?_
  refine wp_imulv d296_374 (v := nI (5 * w)) (nI_mul _ _) ?_
  refine wp_iald d296_375 (la_5 hL) (nI_in (by omega) (by decide)) (v := nI 2) ((congrArg (S 5) (nI_nat (by omega))).trans hk) ?_
  refine wp_iconst d296_376 (v := nI 1) (by decide) ?_
  refine wp_icmp_ne d296_377 (tgt := 384) (by decide) (fun _ => ?_) (fun hz => absurd hz (by decide))
  refine wp_iconst d296_384 (v := nI 3) (by decide) ?_
  refine wp_iaddv d296_385 (v := nI (6 * p + 3)) (nI_add _ _) ?_
  refine wp_iald d296_386 (la_1 hL) (nI_in (by omega) (by decide)) (v := nI u) ((congrArg (S 1) (nI_nat (by omega))).trans hu) ?_
  refine wp_aload d296_387 rfl ?_
  refine wp_iconst d296_389 (v := nI 5) (by decide) ?_
  refine wp_iload d296_390 rfl ?_
  refine wp_imulv d296_392 (v := nI (5 * w)) (nI_mul _ _) ?_
  refine wp_iconst d296_393 (v := nI 2) (by decide) ?_
  refine wp_iaddv d296_394 (v := nI (5 * w + 2)) (nI_add _ _) ?_
  refine wp_iald d296_395 (la_5 hL) (nI_in (by omega) (by decide)) (v := nI lm) ((congrArg (S 5) (nI_nat (by omega))).trans hlm) ?_
  refine wp_icmp_le d296_396 (tgt := 403) (by decide) (fun hq9 => absurd hq9 (fun z => absurd ((nI_leI (by omega) (by omega)).mp z) (by omega))) (fun _ => ?_)
  refine wp_iconst d296_399 (v := nI 1) (by decide) ?_
  refine wp_goto d296_400 (tgt := 404) (by decide) ?_
  refine wp_istore d296_404 (Nat.le_of_ble_eq_true rfl) rfl ?_
  refine wp_iload d296_406 rfl ?_
  refine wp_if_eq d296_408 (tgt := 445) (by decide) (fun hz => absurd hz (by decide)) (fun _ => ?_)
  refine wp_aload d296_411 rfl ?_
  refine wp_iconst d296_413 (v := nI 5) (by decide) ?_
  refine wp_iload d296_414 rfl ?_
  refine wp_imulv d296_416 (v := nI (5 * w)) (nI_mul _ _) ?_
  refine wp_iconst d296_417 (v := nI 3) (by decide) ?_
  refine wp_iaddv d296_418 (v := nI (5 * w + 3)) (nI_add _ _) ?_
  refine wp_iald d296_419 (la_5 hL) (nI_in (by omega) (by decide)) (v := nI 1) ((congrArg (S 5) (nI_nat (by omega))).trans hst) ?_
  refine wp_if_ne d296_420 (tgt := 445) (by decide) (fun _ => ?_) (fun hz => absurd hz (by decide))
  refine wp_aload d296_445 rfl ?_
  refine wp_iconst d296_447 (v := nI 5) (by decide) ?_
  refine wp_iload d296_448 rfl ?_
  refine wp_imulv d296_450 (v := nI (5 * w)) (nI_mul _ _) ?_
  refine wp_iconst d296_451 (v := nI 3) (by decide) ?_
  refine wp_iaddv d296_452 (v := nI (5 * w + 3)) (nI_add _ _) ?_
  refine wp_iload d296_453 rfl ?_
  refine wp_if_eq d296_455 (tgt := 462) (by decide) (fun hz => absurd hz (by decide)) (fun _ => ?_)
  refine wp_iconst d296_458 (v := nI 1) (by decide) ?_
  refine wp_goto d296_459 (tgt := 463) (by decide) ?_
  refine wp_iast d296_463 (la_5 hL) (nI_in (by omega) (by decide)) ?_
  refine l_step (o := 5) (i := 5 * w + 3) (v := nI 1) hL hF (by decide) (by rw [nI_nat (by omega)]; rfl) (fun h hL hF => ?_)
  refine wp_iinc d296_464 rfl (v := nI (w + 1)) (nI_add _ 1) (Nat.le_of_ble_eq_true rfl) rfl ?_
  refine wp_goto d296_467 (tgt := 281) (by decide) ?_
  exact K h hL hF _ _
theorem k_wk2_n {X : mX} {S : Nat → Nat → Int32} {h0 h : mH} {Q : Option Value → mH → Prop} (hL : La h S) (hF : Frm h0 h 313 8) {w mi p : Nat} (hw : w < 2) (hmi : S 0 0 = nI mi) (hmi9 : mi < 60) (hp : S 5 (5 * w + 1) = nI p) (hp4 : p < 4) (hk : S 5 (5 * w) = nI 2) {u lm : Nat} (hu : S 1 (6 * p + 3) = nI u) (hu9 : u < 1000) (hlm : S 5 (5 * w + 2) = nI lm) (hlm9 : lm < 1000) {st : Nat} (hst : S 5 (5 * w + 3) = nI st) (hst2 : st < 2) (hno : ¬ lm < u) {l9 l10 : Option Value} (K : ∀ h1, La h1 ((updM S 5 (5 * w + 3) (nI 0))) → Frm h0 h1 313 8 → ∀ x9 x10, m_wp X 296 281 [some (.ref 313), some (.ref 314), some (.ref 315), some (.ref 316), some (.ref 317), some (.ref 318), some (.ref 319), some (.ref 320), some (.int (nI (w + 1))), x9, x10] [] h1 Q) : m_wp X 296 281 [some (.ref 313), some (.ref 314), some (.ref 315), some (.ref 316), some (.ref 317), some (.ref 318), some (.ref 319), some (.ref 320), some (.int (nI w)), l9, l10] [] h Q := by
  refine wp_iload d296_281 rfl ?_
  refine wp_iconst d296_283 (v := nI 2) (by decide) ?_
  refine wp_icmp_ge d296_284 (tgt := 470) (by decide) (fun hq9 => absurd hq9 (fun z => absurd ((nI_leI (by omega) (by omega)).mp z) (by omega))) (fun _ => ?_)
  refine wp_aload d296_287 rfl ?_
  refine wp_iconst d296_289 (v := nI 5) (by decide) ?_
  refine wp_iload d296_290 rfl ?_
  refine wp_imulv d296_292 (v := nI (5 * w)) (nI_mul _ _) ?_
  refine wp_iconst d296_293 (v := nI 3) (by decide) ?_
  refine wp_iaddv d296_294 (v := nI (5 * w + 3)) (nI_add _ _) ?_
  refine wp_iald d296_295 (la_5 hL) (nI_in (by omega) (by decide)) (v := nI st) ((congrArg (S 5) (nI_nat (by omega))).trans hst) ?_
  refine wp_iconst d296_296 (v := nI 2) (by decide) ?_
  refine wp_icmp_ne d296_297 (tgt := 303) (by decide) (fun _ => ?_) (fun hq9 => absurd hq9 (nl_ne (by omega) (by omega) (by omega)))
  refine wp_aload d296_303 rfl ?_
  refine wp_iconst d296_305 (v := nI 5) (by decide) ?_
  refine wp_iload d296_306 rfl ?_
  refine wp_imulv d296_308 (v := nI (5 * w)) (nI_mul _ _) ?_
  refine wp_iconst d296_309 (v := nI 1) (by decide) ?_
  refine wp_iaddv d296_310 (v := nI (5 * w + 1)) (nI_add _ _) ?_
  refine wp_iald d296_311 (la_5 hL) (nI_in (by omega) (by decide)) (v := nI p) ((congrArg (S 5) (nI_nat (by omega))).trans hp) ?_
  refine wp_istore d296_312 (Nat.le_of_ble_eq_true rfl) rfl ?_
  refine wp_aload d296_314 rfl ?_
  refine wp_iconst d296_316 (v := nI 5) (by decide) ?_
  refine wp_iload d296_317 rfl ?_
  refine wp_imulv d296_319 (v := nI (5 * w)) (nI_mul _ _) ?_
  refine wp_iald d296_320 (la_5 hL) (nI_in (by omega) (by decide)) (v := nI 2) ((congrArg (S 5) (nI_nat (by omega))).trans hk) ?_
  refine wp_if_ne d296_321 (tgt := 363) (by decide) (fun _ => ?_) (fun hz => absurd hz (by decide))
  refine wp_aload_n d296_363 rfl ?_
  refine wp_bipush d296_364 (v := nI 6) (by decide) ?_
  refine wp_iload d296_366 rfl ?_
  refine wp_imulv d296_368 (v := nI (6 * p)) (nI_mul _ _) ?_
  refine wp_aload d296_369 rfl ?_
  refine wp_iconst d296_371 (v := nI 5) (by decide) ?_
  refine wp_iload d296_372 rfl ?_
  refine wp_imulv d296_374 (v := nI (5 * w)) (nI_mul _ _) ?_
  refine wp_iald d296_375 (la_5 hL) (nI_in (by omega) (by decide)) (v := nI 2) ((congrArg (S 5) (nI_nat (by omega))).trans hk) ?_
  refine wp_iconst d296_376 (v := nI 1) (by decide) ?_
  refine wp_icmp_ne d296_377 (tgt := 384) (by decide) (fun _ => ?_) (fun hz => absurd hz (by decide))
  refine wp_iconst d296_384 (v := nI 3) (by decide) ?_
  refine wp_iaddv d296_385 (v := nI (6 * p + 3)) (nI_add _ _) ?_
  refine wp_iald d296_386 (la_1 hL) (nI_in (by omega) (by decide)) (v := nI u) ((congrArg (S 1) (nI_nat (by omega))).trans hu) ?_
  refine wp_aload d296_387 rfl ?_
  refine wp_iconst d296_389 (v := nI 5) (by decide) ?_
  refine wp_iload d296_390 rfl ?_
  refine wp_imulv d296_392 (v := nI (5 * w)) (nI_mul _ _) ?_
  refine wp_iconst d296_393 (v := nI 2) (by decide) ?_
  refine wp_iaddv d296_394 (v := nI (5 * w + 2)) (nI_add _ _) ?_
  refine wp_iald d296_395 (la_5 hL) (nI_in (by omega) (by decide)) (v := nI lm) ((congrArg (S 5) (nI_nat (by omega))).trans hlm) ?_
  refine wp_icmp_le d296_396 (tgt := 403) (by decide) (fun _ => ?_) (fun hq9 => absurd (nI_le (by omega) (by omega)) hq9)
  refine wp_iconst d296_403 (v := nI 0) (by decide) ?_
  refine wp_istore d296_404 (Nat.le_of_ble_eq_true rfl) rfl ?_
  refine wp_iload d296_406 rfl ?_
  refine wp_if_eq d296_408 (tgt := 445) (by decide) (fun _ => ?_) (fun hz => absurd hz (by decide))
  refine wp_aload d296_445 rfl ?_
  refine wp_iconst d296_447 (v := nI 5) (by decide) ?_
  refine wp_iload d296_448 rfl ?_
  refine wp_imulv d296_450 (v := nI (5 * w)) (nI_mul _ _) ?_
  refine wp_iconst d296_451 (v := nI 3) (by decide) ?_
  refine wp_iaddv d296_452 (v := nI (5 * w + 3)) (nI_add _ _) ?_
  refine wp_iload d296_453 rfl ?_
  refine wp_if_eq d296_455 (tgt := 462) (by decide) (fun _ => ?_) (fun hz => absurd hz (by decide))
  refine wp_iconst d296_462 (v := nI 0) (by decide) ?_
  refine wp_iast d296_463 (la_5 hL) (nI_in (by omega) (by decide)) ?_
  refine l_step (o := 5) (i := 5 * w + 3) (v := nI 0) hL hF (by decide) (by rw [nI_nat (by omega)]; rfl) (fun h hL hF => ?_)
  refine wp_iinc d296_464 rfl (v := nI (w + 1)) (nI_add _ 1) (Nat.le_of_ble_eq_true rfl) rfl ?_
  refine wp_goto d296_467 (tgt := 281) (by decide) ?_
  exact K h hL hF _ _
