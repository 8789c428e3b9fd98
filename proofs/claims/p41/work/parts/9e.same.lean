/-! The law holds the class against its cells. -/
theorem d300_0 : decode (m_code 300) 0 = .ok (.iconst 0, 1) := by decide +kernel
theorem d300_1 : decode (m_code 300) 1 = .ok (.istore 8, 2) := by decide +kernel
theorem d300_3 : decode (m_code 300) 3 = .ok (.iload 8, 2) := by decide +kernel
theorem d300_5 : decode (m_code 300) 5 = .ok (.iconst 4, 1) := by decide +kernel
theorem d300_6 : decode (m_code 300) 6 = .ok (.if_icmp .ge 219, 3) := by decide +kernel
theorem d300_9 : decode (m_code 300) 9 = .ok (.aload_n 3, 1) := by decide +kernel
theorem d300_10 : decode (m_code 300) 10 = .ok (.iconst 0, 1) := by decide +kernel
theorem d300_11 : decode (m_code 300) 11 = .ok (.iaload, 1) := by decide +kernel
theorem d300_12 : decode (m_code 300) 12 = .ok (.iload 8, 2) := by decide +kernel
theorem d300_14 : decode (m_code 300) 14 = .ok (.if_icmp .ne 7, 3) := by decide +kernel
theorem d300_17 : decode (m_code 300) 17 = .ok (.iconst 1, 1) := by decide +kernel
theorem d300_18 : decode (m_code 300) 18 = .ok (.goto 4, 3) := by decide +kernel
theorem d300_21 : decode (m_code 300) 21 = .ok (.iconst 0, 1) := by decide +kernel
theorem d300_22 : decode (m_code 300) 22 = .ok (.aload_n 3, 1) := by decide +kernel
theorem d300_23 : decode (m_code 300) 23 = .ok (.bipush 10, 2) := by decide +kernel
theorem d300_25 : decode (m_code 300) 25 = .ok (.iaload, 1) := by decide +kernel
theorem d300_26 : decode (m_code 300) 26 = .ok (.iload 8, 2) := by decide +kernel
theorem d300_28 : decode (m_code 300) 28 = .ok (.if_icmp .ne 7, 3) := by decide +kernel
theorem d300_31 : decode (m_code 300) 31 = .ok (.iconst 1, 1) := by decide +kernel
theorem d300_32 : decode (m_code 300) 32 = .ok (.goto 4, 3) := by decide +kernel
theorem d300_35 : decode (m_code 300) 35 = .ok (.iconst 0, 1) := by decide +kernel
theorem d300_36 : decode (m_code 300) 36 = .ok (.iadd, 1) := by decide +kernel
theorem d300_37 : decode (m_code 300) 37 = .ok (.istore 9, 2) := by decide +kernel
theorem d300_39 : decode (m_code 300) 39 = .ok (.aload_n 0, 1) := by decide +kernel
theorem d300_40 : decode (m_code 300) 40 = .ok (.iload 8, 2) := by decide +kernel
theorem d300_42 : decode (m_code 300) 42 = .ok (.iconst 2, 1) := by decide +kernel
theorem d300_43 : decode (m_code 300) 43 = .ok (.invokevirtual 31, 3) := by decide +kernel
theorem d300_46 : decode (m_code 300) 46 = .ok (.aload_n 2, 1) := by decide +kernel
theorem d300_47 : decode (m_code 300) 47 = .ok (.bipush 6, 2) := by decide +kernel
theorem d300_49 : decode (m_code 300) 49 = .ok (.iload 8, 2) := by decide +kernel
theorem d300_51 : decode (m_code 300) 51 = .ok (.imul, 1) := by decide +kernel
theorem d300_52 : decode (m_code 300) 52 = .ok (.iconst 2, 1) := by decide +kernel
theorem d300_53 : decode (m_code 300) 53 = .ok (.iadd, 1) := by decide +kernel
theorem d300_54 : decode (m_code 300) 54 = .ok (.iaload, 1) := by decide +kernel
theorem d300_55 : decode (m_code 300) 55 = .ok (.if_icmp .ne 73, 3) := by decide +kernel
theorem d300_58 : decode (m_code 300) 58 = .ok (.aload_n 0, 1) := by decide +kernel
theorem d300_59 : decode (m_code 300) 59 = .ok (.iload 8, 2) := by decide +kernel
theorem d300_61 : decode (m_code 300) 61 = .ok (.iconst 3, 1) := by decide +kernel
theorem d300_62 : decode (m_code 300) 62 = .ok (.invokevirtual 31, 3) := by decide +kernel
theorem d300_65 : decode (m_code 300) 65 = .ok (.aload_n 2, 1) := by decide +kernel
theorem d300_66 : decode (m_code 300) 66 = .ok (.bipush 6, 2) := by decide +kernel
theorem d300_68 : decode (m_code 300) 68 = .ok (.iload 8, 2) := by decide +kernel
theorem d300_70 : decode (m_code 300) 70 = .ok (.imul, 1) := by decide +kernel
theorem d300_71 : decode (m_code 300) 71 = .ok (.iconst 3, 1) := by decide +kernel
theorem d300_72 : decode (m_code 300) 72 = .ok (.iadd, 1) := by decide +kernel
theorem d300_73 : decode (m_code 300) 73 = .ok (.iaload, 1) := by decide +kernel
theorem d300_74 : decode (m_code 300) 74 = .ok (.if_icmp .ne 54, 3) := by decide +kernel
theorem d300_77 : decode (m_code 300) 77 = .ok (.aload_n 0, 1) := by decide +kernel
theorem d300_78 : decode (m_code 300) 78 = .ok (.iload 8, 2) := by decide +kernel
theorem d300_80 : decode (m_code 300) 80 = .ok (.iconst 4, 1) := by decide +kernel
theorem d300_81 : decode (m_code 300) 81 = .ok (.invokevirtual 31, 3) := by decide +kernel
theorem d300_84 : decode (m_code 300) 84 = .ok (.aload_n 2, 1) := by decide +kernel
theorem d300_85 : decode (m_code 300) 85 = .ok (.bipush 6, 2) := by decide +kernel
theorem d300_87 : decode (m_code 300) 87 = .ok (.iload 8, 2) := by decide +kernel
theorem d300_89 : decode (m_code 300) 89 = .ok (.imul, 1) := by decide +kernel
theorem d300_90 : decode (m_code 300) 90 = .ok (.iconst 4, 1) := by decide +kernel
theorem d300_91 : decode (m_code 300) 91 = .ok (.iadd, 1) := by decide +kernel
theorem d300_92 : decode (m_code 300) 92 = .ok (.iaload, 1) := by decide +kernel
theorem d300_93 : decode (m_code 300) 93 = .ok (.if_icmp .ne 35, 3) := by decide +kernel
theorem d300_96 : decode (m_code 300) 96 = .ok (.aload_n 0, 1) := by decide +kernel
theorem d300_97 : decode (m_code 300) 97 = .ok (.iload 8, 2) := by decide +kernel
theorem d300_99 : decode (m_code 300) 99 = .ok (.iconst 5, 1) := by decide +kernel
theorem d300_100 : decode (m_code 300) 100 = .ok (.invokevirtual 31, 3) := by decide +kernel
theorem d300_103 : decode (m_code 300) 103 = .ok (.aload_n 2, 1) := by decide +kernel
theorem d300_104 : decode (m_code 300) 104 = .ok (.bipush 6, 2) := by decide +kernel
theorem d300_106 : decode (m_code 300) 106 = .ok (.iload 8, 2) := by decide +kernel
theorem d300_108 : decode (m_code 300) 108 = .ok (.imul, 1) := by decide +kernel
theorem d300_109 : decode (m_code 300) 109 = .ok (.iconst 5, 1) := by decide +kernel
theorem d300_110 : decode (m_code 300) 110 = .ok (.iadd, 1) := by decide +kernel
theorem d300_111 : decode (m_code 300) 111 = .ok (.iaload, 1) := by decide +kernel
theorem d300_112 : decode (m_code 300) 112 = .ok (.if_icmp .ne 16, 3) := by decide +kernel
theorem d300_115 : decode (m_code 300) 115 = .ok (.aload_n 0, 1) := by decide +kernel
theorem d300_116 : decode (m_code 300) 116 = .ok (.iload 8, 2) := by decide +kernel
theorem d300_118 : decode (m_code 300) 118 = .ok (.bipush 6, 2) := by decide +kernel
theorem d300_120 : decode (m_code 300) 120 = .ok (.invokevirtual 31, 3) := by decide +kernel
theorem d300_123 : decode (m_code 300) 123 = .ok (.iload 9, 2) := by decide +kernel
theorem d300_125 : decode (m_code 300) 125 = .ok (.if_icmp .eq 5, 3) := by decide +kernel
theorem d300_130 : decode (m_code 300) 130 = .ok (.aload_n 1, 1) := by decide +kernel
theorem d300_131 : decode (m_code 300) 131 = .ok (.iconst 0, 1) := by decide +kernel
theorem d300_132 : decode (m_code 300) 132 = .ok (.iaload, 1) := by decide +kernel
theorem d300_133 : decode (m_code 300) 133 = .ok (.iconst 3, 1) := by decide +kernel
theorem d300_134 : decode (m_code 300) 134 = .ok (.idiv, 1) := by decide +kernel
theorem d300_135 : decode (m_code 300) 135 = .ok (.istore 10, 2) := by decide +kernel
theorem d300_137 : decode (m_code 300) 137 = .ok (.iconst 0, 1) := by decide +kernel
theorem d300_138 : decode (m_code 300) 138 = .ok (.istore 11, 2) := by decide +kernel
theorem d300_140 : decode (m_code 300) 140 = .ok (.iconst 0, 1) := by decide +kernel
theorem d300_141 : decode (m_code 300) 141 = .ok (.istore 12, 2) := by decide +kernel
theorem d300_143 : decode (m_code 300) 143 = .ok (.iload 10, 2) := by decide +kernel
theorem d300_145 : decode (m_code 300) 145 = .ok (.istore 13, 2) := by decide +kernel
theorem d300_147 : decode (m_code 300) 147 = .ok (.iload 13, 2) := by decide +kernel
theorem d300_149 : decode (m_code 300) 149 = .ok (.aload_n 1, 1) := by decide +kernel
theorem d300_150 : decode (m_code 300) 150 = .ok (.iconst 0, 1) := by decide +kernel
theorem d300_151 : decode (m_code 300) 151 = .ok (.iaload, 1) := by decide +kernel
theorem d300_152 : decode (m_code 300) 152 = .ok (.if_icmp .ge 49, 3) := by decide +kernel
theorem d300_155 : decode (m_code 300) 155 = .ok (.aload 7, 2) := by decide +kernel
theorem d300_157 : decode (m_code 300) 157 = .ok (.iload 13, 2) := by decide +kernel
theorem d300_159 : decode (m_code 300) 159 = .ok (.iaload, 1) := by decide +kernel
theorem d300_160 : decode (m_code 300) 160 = .ok (.iload 8, 2) := by decide +kernel
theorem d300_162 : decode (m_code 300) 162 = .ok (.ishr, 1) := by decide +kernel
theorem d300_163 : decode (m_code 300) 163 = .ok (.iconst 1, 1) := by decide +kernel
theorem d300_164 : decode (m_code 300) 164 = .ok (.iand, 1) := by decide +kernel
theorem d300_165 : decode (m_code 300) 165 = .ok (.iconst 1, 1) := by decide +kernel
theorem d300_166 : decode (m_code 300) 166 = .ok (.if_icmp .ne 7, 3) := by decide +kernel
theorem d300_169 : decode (m_code 300) 169 = .ok (.iconst 0, 1) := by decide +kernel
theorem d300_170 : decode (m_code 300) 170 = .ok (.goto 7, 3) := by decide +kernel
theorem d300_173 : decode (m_code 300) 173 = .ok (.iload 11, 2) := by decide +kernel
theorem d300_175 : decode (m_code 300) 175 = .ok (.iconst 1, 1) := by decide +kernel
theorem d300_176 : decode (m_code 300) 176 = .ok (.iadd, 1) := by decide +kernel
theorem d300_177 : decode (m_code 300) 177 = .ok (.istore 11, 2) := by decide +kernel
theorem d300_179 : decode (m_code 300) 179 = .ok (.iload 11, 2) := by decide +kernel
theorem d300_181 : decode (m_code 300) 181 = .ok (.iload 12, 2) := by decide +kernel
theorem d300_183 : decode (m_code 300) 183 = .ok (.if_icmp .le 8, 3) := by decide +kernel
theorem d300_186 : decode (m_code 300) 186 = .ok (.iload 11, 2) := by decide +kernel
theorem d300_188 : decode (m_code 300) 188 = .ok (.goto 5, 3) := by decide +kernel
theorem d300_191 : decode (m_code 300) 191 = .ok (.iload 12, 2) := by decide +kernel
theorem d300_193 : decode (m_code 300) 193 = .ok (.istore 12, 2) := by decide +kernel
theorem d300_195 : decode (m_code 300) 195 = .ok (.iinc 13 1, 3) := by decide +kernel
theorem d300_198 : decode (m_code 300) 198 = .ok (.goto (-51), 3) := by decide +kernel
theorem d300_201 : decode (m_code 300) 201 = .ok (.aload_n 0, 1) := by decide +kernel
theorem d300_202 : decode (m_code 300) 202 = .ok (.iload 8, 2) := by decide +kernel
theorem d300_204 : decode (m_code 300) 204 = .ok (.iload 10, 2) := by decide +kernel
theorem d300_206 : decode (m_code 300) 206 = .ok (.aload_n 1, 1) := by decide +kernel
theorem d300_207 : decode (m_code 300) 207 = .ok (.iconst 0, 1) := by decide +kernel
theorem d300_208 : decode (m_code 300) 208 = .ok (.iaload, 1) := by decide +kernel
theorem d300_209 : decode (m_code 300) 209 = .ok (.invokevirtual 37, 3) := by decide +kernel
theorem d300_212 : decode (m_code 300) 212 = .ok (.iload 12, 2) := by decide +kernel
theorem d300_214 : decode (m_code 300) 214 = .ok (.if_icmp .eq 5, 3) := by decide +kernel
theorem d300_219 : decode (m_code 300) 219 = .ok (.iinc 8 1, 3) := by decide +kernel
theorem d300_222 : decode (m_code 300) 222 = .ok (.goto (-219), 3) := by decide +kernel
theorem d300_225 : decode (m_code 300) 225 = .ok (.iconst 0, 1) := by decide +kernel
theorem d300_226 : decode (m_code 300) 226 = .ok (.istore 8, 2) := by decide +kernel
theorem d300_228 : decode (m_code 300) 228 = .ok (.iload 8, 2) := by decide +kernel
theorem d300_230 : decode (m_code 300) 230 = .ok (.iconst 2, 1) := by decide +kernel
theorem d300_231 : decode (m_code 300) 231 = .ok (.if_icmp .ge 264, 3) := by decide +kernel
theorem d300_234 : decode (m_code 300) 234 = .ok (.bipush 10, 2) := by decide +kernel
theorem d300_236 : decode (m_code 300) 236 = .ok (.iload 8, 2) := by decide +kernel
theorem d300_238 : decode (m_code 300) 238 = .ok (.imul, 1) := by decide +kernel
theorem d300_239 : decode (m_code 300) 239 = .ok (.istore 9, 2) := by decide +kernel
theorem d300_241 : decode (m_code 300) 241 = .ok (.aload_n 3, 1) := by decide +kernel
theorem d300_242 : decode (m_code 300) 242 = .ok (.iload 9, 2) := by decide +kernel
theorem d300_244 : decode (m_code 300) 244 = .ok (.iaload, 1) := by decide +kernel
theorem d300_245 : decode (m_code 300) 245 = .ok (.ifCond .ge 7, 3) := by decide +kernel
theorem d300_248 : decode (m_code 300) 248 = .ok (.iconst 1, 1) := by decide +kernel
theorem d300_249 : decode (m_code 300) 249 = .ok (.goto 4, 3) := by decide +kernel
theorem d300_252 : decode (m_code 300) 252 = .ok (.iconst 0, 1) := by decide +kernel
theorem d300_253 : decode (m_code 300) 253 = .ok (.istore 10, 2) := by decide +kernel
theorem d300_255 : decode (m_code 300) 255 = .ok (.aload_n 0, 1) := by decide +kernel
theorem d300_256 : decode (m_code 300) 256 = .ok (.iload 8, 2) := by decide +kernel
theorem d300_258 : decode (m_code 300) 258 = .ok (.iconst 0, 1) := by decide +kernel
theorem d300_259 : decode (m_code 300) 259 = .ok (.invokevirtual 41, 3) := by decide +kernel
theorem d300_262 : decode (m_code 300) 262 = .ok (.iload 10, 2) := by decide +kernel
theorem d300_264 : decode (m_code 300) 264 = .ok (.ifCond .eq 8, 3) := by decide +kernel
theorem d300_267 : decode (m_code 300) 267 = .ok (.bipush (-5), 2) := by decide +kernel
theorem d300_269 : decode (m_code 300) 269 = .ok (.goto 7, 3) := by decide +kernel
theorem d300_272 : decode (m_code 300) 272 = .ok (.aload_n 3, 1) := by decide +kernel
theorem d300_273 : decode (m_code 300) 273 = .ok (.iload 9, 2) := by decide +kernel
theorem d300_275 : decode (m_code 300) 275 = .ok (.iaload, 1) := by decide +kernel
theorem d300_276 : decode (m_code 300) 276 = .ok (.if_icmp .ne 80, 3) := by decide +kernel
theorem d300_279 : decode (m_code 300) 279 = .ok (.aload_n 0, 1) := by decide +kernel
theorem d300_280 : decode (m_code 300) 280 = .ok (.iload 8, 2) := by decide +kernel
theorem d300_282 : decode (m_code 300) 282 = .ok (.iconst 1, 1) := by decide +kernel
theorem d300_283 : decode (m_code 300) 283 = .ok (.invokevirtual 41, 3) := by decide +kernel
theorem d300_286 : decode (m_code 300) 286 = .ok (.iload 10, 2) := by decide +kernel
theorem d300_288 : decode (m_code 300) 288 = .ok (.ifCond .eq 12, 3) := by decide +kernel
theorem d300_291 : decode (m_code 300) 291 = .ok (.aload_n 3, 1) := by decide +kernel
theorem d300_292 : decode (m_code 300) 292 = .ok (.iload 9, 2) := by decide +kernel
theorem d300_294 : decode (m_code 300) 294 = .ok (.iconst 1, 1) := by decide +kernel
theorem d300_295 : decode (m_code 300) 295 = .ok (.iadd, 1) := by decide +kernel
theorem d300_296 : decode (m_code 300) 296 = .ok (.iaload, 1) := by decide +kernel
theorem d300_297 : decode (m_code 300) 297 = .ok (.goto 5, 3) := by decide +kernel
theorem d300_300 : decode (m_code 300) 300 = .ok (.bipush (-5), 2) := by decide +kernel
theorem d300_302 : decode (m_code 300) 302 = .ok (.if_icmp .ne 54, 3) := by decide +kernel
theorem d300_305 : decode (m_code 300) 305 = .ok (.aload_n 0, 1) := by decide +kernel
theorem d300_306 : decode (m_code 300) 306 = .ok (.iload 8, 2) := by decide +kernel
theorem d300_308 : decode (m_code 300) 308 = .ok (.iconst 2, 1) := by decide +kernel
theorem d300_309 : decode (m_code 300) 309 = .ok (.invokevirtual 41, 3) := by decide +kernel
theorem d300_312 : decode (m_code 300) 312 = .ok (.iload 10, 2) := by decide +kernel
theorem d300_314 : decode (m_code 300) 314 = .ok (.ifCond .eq 12, 3) := by decide +kernel
theorem d300_317 : decode (m_code 300) 317 = .ok (.aload_n 3, 1) := by decide +kernel
theorem d300_318 : decode (m_code 300) 318 = .ok (.iload 9, 2) := by decide +kernel
theorem d300_320 : decode (m_code 300) 320 = .ok (.iconst 2, 1) := by decide +kernel
theorem d300_321 : decode (m_code 300) 321 = .ok (.iadd, 1) := by decide +kernel
theorem d300_322 : decode (m_code 300) 322 = .ok (.iaload, 1) := by decide +kernel
theorem d300_323 : decode (m_code 300) 323 = .ok (.goto 5, 3) := by decide +kernel
theorem d300_326 : decode (m_code 300) 326 = .ok (.bipush (-5), 2) := by decide +kernel
theorem d300_328 : decode (m_code 300) 328 = .ok (.if_icmp .ne 28, 3) := by decide +kernel
theorem d300_331 : decode (m_code 300) 331 = .ok (.aload_n 0, 1) := by decide +kernel
theorem d300_332 : decode (m_code 300) 332 = .ok (.iload 8, 2) := by decide +kernel
theorem d300_334 : decode (m_code 300) 334 = .ok (.iconst 3, 1) := by decide +kernel
theorem d300_335 : decode (m_code 300) 335 = .ok (.invokevirtual 41, 3) := by decide +kernel
theorem d300_338 : decode (m_code 300) 338 = .ok (.iload 10, 2) := by decide +kernel
theorem d300_340 : decode (m_code 300) 340 = .ok (.ifCond .eq 7, 3) := by decide +kernel
theorem d300_343 : decode (m_code 300) 343 = .ok (.iconst 0, 1) := by decide +kernel
theorem d300_344 : decode (m_code 300) 344 = .ok (.goto 9, 3) := by decide +kernel
theorem d300_347 : decode (m_code 300) 347 = .ok (.aload_n 3, 1) := by decide +kernel
theorem d300_348 : decode (m_code 300) 348 = .ok (.iload 9, 2) := by decide +kernel
theorem d300_350 : decode (m_code 300) 350 = .ok (.iconst 3, 1) := by decide +kernel
theorem d300_351 : decode (m_code 300) 351 = .ok (.iadd, 1) := by decide +kernel
theorem d300_352 : decode (m_code 300) 352 = .ok (.iaload, 1) := by decide +kernel
theorem d300_353 : decode (m_code 300) 353 = .ok (.if_icmp .eq 5, 3) := by decide +kernel
theorem d300_358 : decode (m_code 300) 358 = .ok (.aload_n 0, 1) := by decide +kernel
theorem d300_359 : decode (m_code 300) 359 = .ok (.iload 8, 2) := by decide +kernel
theorem d300_361 : decode (m_code 300) 361 = .ok (.iconst 4, 1) := by decide +kernel
theorem d300_362 : decode (m_code 300) 362 = .ok (.invokevirtual 41, 3) := by decide +kernel
theorem d300_365 : decode (m_code 300) 365 = .ok (.aload_n 3, 1) := by decide +kernel
theorem d300_366 : decode (m_code 300) 366 = .ok (.iload 9, 2) := by decide +kernel
theorem d300_368 : decode (m_code 300) 368 = .ok (.iconst 5, 1) := by decide +kernel
theorem d300_369 : decode (m_code 300) 369 = .ok (.iadd, 1) := by decide +kernel
theorem d300_370 : decode (m_code 300) 370 = .ok (.iaload, 1) := by decide +kernel
theorem d300_371 : decode (m_code 300) 371 = .ok (.if_icmp .ne 56, 3) := by decide +kernel
theorem d300_374 : decode (m_code 300) 374 = .ok (.aload_n 0, 1) := by decide +kernel
theorem d300_375 : decode (m_code 300) 375 = .ok (.iload 8, 2) := by decide +kernel
theorem d300_377 : decode (m_code 300) 377 = .ok (.iconst 5, 1) := by decide +kernel
theorem d300_378 : decode (m_code 300) 378 = .ok (.invokevirtual 41, 3) := by decide +kernel
theorem d300_381 : decode (m_code 300) 381 = .ok (.aload_n 3, 1) := by decide +kernel
theorem d300_382 : decode (m_code 300) 382 = .ok (.iload 9, 2) := by decide +kernel
theorem d300_384 : decode (m_code 300) 384 = .ok (.bipush 6, 2) := by decide +kernel
theorem d300_386 : decode (m_code 300) 386 = .ok (.iadd, 1) := by decide +kernel
theorem d300_387 : decode (m_code 300) 387 = .ok (.iaload, 1) := by decide +kernel
theorem d300_388 : decode (m_code 300) 388 = .ok (.if_icmp .ne 39, 3) := by decide +kernel
theorem d300_391 : decode (m_code 300) 391 = .ok (.aload_n 0, 1) := by decide +kernel
theorem d300_392 : decode (m_code 300) 392 = .ok (.iload 8, 2) := by decide +kernel
theorem d300_394 : decode (m_code 300) 394 = .ok (.bipush 6, 2) := by decide +kernel
theorem d300_396 : decode (m_code 300) 396 = .ok (.invokevirtual 41, 3) := by decide +kernel
theorem d300_399 : decode (m_code 300) 399 = .ok (.aload_n 3, 1) := by decide +kernel
theorem d300_400 : decode (m_code 300) 400 = .ok (.iload 9, 2) := by decide +kernel
theorem d300_402 : decode (m_code 300) 402 = .ok (.bipush 7, 2) := by decide +kernel
theorem d300_404 : decode (m_code 300) 404 = .ok (.iadd, 1) := by decide +kernel
theorem d300_405 : decode (m_code 300) 405 = .ok (.iaload, 1) := by decide +kernel
theorem d300_406 : decode (m_code 300) 406 = .ok (.if_icmp .ne 21, 3) := by decide +kernel
theorem d300_409 : decode (m_code 300) 409 = .ok (.aload_n 0, 1) := by decide +kernel
theorem d300_410 : decode (m_code 300) 410 = .ok (.iload 8, 2) := by decide +kernel
theorem d300_412 : decode (m_code 300) 412 = .ok (.bipush 7, 2) := by decide +kernel
theorem d300_414 : decode (m_code 300) 414 = .ok (.invokevirtual 41, 3) := by decide +kernel
theorem d300_417 : decode (m_code 300) 417 = .ok (.aload_n 3, 1) := by decide +kernel
theorem d300_418 : decode (m_code 300) 418 = .ok (.iload 9, 2) := by decide +kernel
theorem d300_420 : decode (m_code 300) 420 = .ok (.bipush 8, 2) := by decide +kernel
theorem d300_422 : decode (m_code 300) 422 = .ok (.iadd, 1) := by decide +kernel
theorem d300_423 : decode (m_code 300) 423 = .ok (.iaload, 1) := by decide +kernel
theorem d300_424 : decode (m_code 300) 424 = .ok (.if_icmp .eq 5, 3) := by decide +kernel
theorem d300_429 : decode (m_code 300) 429 = .ok (.iconst 0, 1) := by decide +kernel
theorem d300_430 : decode (m_code 300) 430 = .ok (.istore 11, 2) := by decide +kernel
theorem d300_432 : decode (m_code 300) 432 = .ok (.iload 11, 2) := by decide +kernel
theorem d300_434 : decode (m_code 300) 434 = .ok (.aload_n 3, 1) := by decide +kernel
theorem d300_435 : decode (m_code 300) 435 = .ok (.iload 9, 2) := by decide +kernel
theorem d300_437 : decode (m_code 300) 437 = .ok (.iconst 5, 1) := by decide +kernel
theorem d300_438 : decode (m_code 300) 438 = .ok (.iadd, 1) := by decide +kernel
theorem d300_439 : decode (m_code 300) 439 = .ok (.iaload, 1) := by decide +kernel
theorem d300_440 : decode (m_code 300) 440 = .ok (.if_icmp .gt 49, 3) := by decide +kernel
theorem d300_443 : decode (m_code 300) 443 = .ok (.aload_n 0, 1) := by decide +kernel
theorem d300_444 : decode (m_code 300) 444 = .ok (.iload 8, 2) := by decide +kernel
theorem d300_446 : decode (m_code 300) 446 = .ok (.iload 11, 2) := by decide +kernel
theorem d300_448 : decode (m_code 300) 448 = .ok (.invokevirtual 44, 3) := by decide +kernel
theorem d300_451 : decode (m_code 300) 451 = .ok (.iload 11, 2) := by decide +kernel
theorem d300_453 : decode (m_code 300) 453 = .ok (.aload_n 3, 1) := by decide +kernel
theorem d300_454 : decode (m_code 300) 454 = .ok (.iload 9, 2) := by decide +kernel
theorem d300_456 : decode (m_code 300) 456 = .ok (.iconst 5, 1) := by decide +kernel
theorem d300_457 : decode (m_code 300) 457 = .ok (.iadd, 1) := by decide +kernel
theorem d300_458 : decode (m_code 300) 458 = .ok (.iaload, 1) := by decide +kernel
theorem d300_459 : decode (m_code 300) 459 = .ok (.if_icmp .ge 17, 3) := by decide +kernel
theorem d300_462 : decode (m_code 300) 462 = .ok (.aload 4, 2) := by decide +kernel
theorem d300_464 : decode (m_code 300) 464 = .ok (.bipush 8, 2) := by decide +kernel
theorem d300_466 : decode (m_code 300) 466 = .ok (.iload 8, 2) := by decide +kernel
theorem d300_468 : decode (m_code 300) 468 = .ok (.imul, 1) := by decide +kernel
theorem d300_469 : decode (m_code 300) 469 = .ok (.iload 11, 2) := by decide +kernel
theorem d300_471 : decode (m_code 300) 471 = .ok (.iadd, 1) := by decide +kernel
theorem d300_472 : decode (m_code 300) 472 = .ok (.iaload, 1) := by decide +kernel
theorem d300_473 : decode (m_code 300) 473 = .ok (.goto 5, 3) := by decide +kernel
theorem d300_476 : decode (m_code 300) 476 = .ok (.bipush (-5), 2) := by decide +kernel
theorem d300_478 : decode (m_code 300) 478 = .ok (.if_icmp .eq 5, 3) := by decide +kernel
theorem d300_483 : decode (m_code 300) 483 = .ok (.iinc 11 1, 3) := by decide +kernel
theorem d300_486 : decode (m_code 300) 486 = .ok (.goto (-54), 3) := by decide +kernel
theorem d300_489 : decode (m_code 300) 489 = .ok (.iinc 8 1, 3) := by decide +kernel
theorem d300_492 : decode (m_code 300) 492 = .ok (.goto (-264), 3) := by decide +kernel
theorem d300_495 : decode (m_code 300) 495 = .ok (.iconst 0, 1) := by decide +kernel
theorem d300_496 : decode (m_code 300) 496 = .ok (.istore 8, 2) := by decide +kernel
theorem d300_498 : decode (m_code 300) 498 = .ok (.iload 8, 2) := by decide +kernel
theorem d300_500 : decode (m_code 300) 500 = .ok (.iconst 2, 1) := by decide +kernel
theorem d300_501 : decode (m_code 300) 501 = .ok (.if_icmp .ge 68, 3) := by decide +kernel
theorem d300_504 : decode (m_code 300) 504 = .ok (.aload_n 0, 1) := by decide +kernel
theorem d300_505 : decode (m_code 300) 505 = .ok (.iload 8, 2) := by decide +kernel
theorem d300_507 : decode (m_code 300) 507 = .ok (.iconst 1, 1) := by decide +kernel
theorem d300_508 : decode (m_code 300) 508 = .ok (.invokevirtual 47, 3) := by decide +kernel
theorem d300_511 : decode (m_code 300) 511 = .ok (.aload 5, 2) := by decide +kernel
theorem d300_513 : decode (m_code 300) 513 = .ok (.iconst 5, 1) := by decide +kernel
theorem d300_514 : decode (m_code 300) 514 = .ok (.iload 8, 2) := by decide +kernel
theorem d300_516 : decode (m_code 300) 516 = .ok (.imul, 1) := by decide +kernel
theorem d300_517 : decode (m_code 300) 517 = .ok (.iconst 1, 1) := by decide +kernel
theorem d300_518 : decode (m_code 300) 518 = .ok (.iadd, 1) := by decide +kernel
theorem d300_519 : decode (m_code 300) 519 = .ok (.iaload, 1) := by decide +kernel
theorem d300_520 : decode (m_code 300) 520 = .ok (.if_icmp .ne 41, 3) := by decide +kernel
theorem d300_523 : decode (m_code 300) 523 = .ok (.aload_n 0, 1) := by decide +kernel
theorem d300_524 : decode (m_code 300) 524 = .ok (.iload 8, 2) := by decide +kernel
theorem d300_526 : decode (m_code 300) 526 = .ok (.iconst 3, 1) := by decide +kernel
theorem d300_527 : decode (m_code 300) 527 = .ok (.invokevirtual 47, 3) := by decide +kernel
theorem d300_530 : decode (m_code 300) 530 = .ok (.aload 5, 2) := by decide +kernel
theorem d300_532 : decode (m_code 300) 532 = .ok (.iconst 5, 1) := by decide +kernel
theorem d300_533 : decode (m_code 300) 533 = .ok (.iload 8, 2) := by decide +kernel
theorem d300_535 : decode (m_code 300) 535 = .ok (.imul, 1) := by decide +kernel
theorem d300_536 : decode (m_code 300) 536 = .ok (.iconst 3, 1) := by decide +kernel
theorem d300_537 : decode (m_code 300) 537 = .ok (.iadd, 1) := by decide +kernel
theorem d300_538 : decode (m_code 300) 538 = .ok (.iaload, 1) := by decide +kernel
theorem d300_539 : decode (m_code 300) 539 = .ok (.if_icmp .ne 22, 3) := by decide +kernel
theorem d300_542 : decode (m_code 300) 542 = .ok (.aload_n 0, 1) := by decide +kernel
theorem d300_543 : decode (m_code 300) 543 = .ok (.iload 8, 2) := by decide +kernel
theorem d300_545 : decode (m_code 300) 545 = .ok (.iconst 4, 1) := by decide +kernel
theorem d300_546 : decode (m_code 300) 546 = .ok (.invokevirtual 47, 3) := by decide +kernel
theorem d300_549 : decode (m_code 300) 549 = .ok (.aload 5, 2) := by decide +kernel
theorem d300_551 : decode (m_code 300) 551 = .ok (.iconst 5, 1) := by decide +kernel
theorem d300_552 : decode (m_code 300) 552 = .ok (.iload 8, 2) := by decide +kernel
theorem d300_554 : decode (m_code 300) 554 = .ok (.imul, 1) := by decide +kernel
theorem d300_555 : decode (m_code 300) 555 = .ok (.iconst 4, 1) := by decide +kernel
theorem d300_556 : decode (m_code 300) 556 = .ok (.iadd, 1) := by decide +kernel
theorem d300_557 : decode (m_code 300) 557 = .ok (.iaload, 1) := by decide +kernel
theorem d300_558 : decode (m_code 300) 558 = .ok (.if_icmp .eq 5, 3) := by decide +kernel
theorem d300_563 : decode (m_code 300) 563 = .ok (.iinc 8 1, 3) := by decide +kernel
theorem d300_566 : decode (m_code 300) 566 = .ok (.goto (-68), 3) := by decide +kernel
theorem d300_569 : decode (m_code 300) 569 = .ok (.aload_n 1, 1) := by decide +kernel
theorem d300_570 : decode (m_code 300) 570 = .ok (.iconst 1, 1) := by decide +kernel
theorem d300_571 : decode (m_code 300) 571 = .ok (.iaload, 1) := by decide +kernel
theorem d300_572 : decode (m_code 300) 572 = .ok (.bipush 40, 2) := by decide +kernel
theorem d300_574 : decode (m_code 300) 574 = .ok (.if_icmp .le 12, 3) := by decide +kernel
theorem d300_577 : decode (m_code 300) 577 = .ok (.aload_n 1, 1) := by decide +kernel
theorem d300_578 : decode (m_code 300) 578 = .ok (.iconst 1, 1) := by decide +kernel
theorem d300_579 : decode (m_code 300) 579 = .ok (.iaload, 1) := by decide +kernel
theorem d300_580 : decode (m_code 300) 580 = .ok (.bipush 40, 2) := by decide +kernel
theorem d300_582 : decode (m_code 300) 582 = .ok (.isub, 1) := by decide +kernel
theorem d300_583 : decode (m_code 300) 583 = .ok (.goto 4, 3) := by decide +kernel
theorem d300_586 : decode (m_code 300) 586 = .ok (.iconst 0, 1) := by decide +kernel
theorem d300_587 : decode (m_code 300) 587 = .ok (.istore 8, 2) := by decide +kernel
theorem d300_589 : decode (m_code 300) 589 = .ok (.iconst 0, 1) := by decide +kernel
theorem d300_590 : decode (m_code 300) 590 = .ok (.istore 9, 2) := by decide +kernel
theorem d300_592 : decode (m_code 300) 592 = .ok (.iload 9, 2) := by decide +kernel
theorem d300_594 : decode (m_code 300) 594 = .ok (.aload_n 1, 1) := by decide +kernel
theorem d300_595 : decode (m_code 300) 595 = .ok (.iconst 1, 1) := by decide +kernel
theorem d300_596 : decode (m_code 300) 596 = .ok (.iaload, 1) := by decide +kernel
theorem d300_597 : decode (m_code 300) 597 = .ok (.iload 8, 2) := by decide +kernel
theorem d300_599 : decode (m_code 300) 599 = .ok (.isub, 1) := by decide +kernel
theorem d300_600 : decode (m_code 300) 600 = .ok (.if_icmp .ge 50, 3) := by decide +kernel
theorem d300_603 : decode (m_code 300) 603 = .ok (.sipush 10000, 3) := by decide +kernel
theorem d300_606 : decode (m_code 300) 606 = .ok (.aload_n 0, 1) := by decide +kernel
theorem d300_607 : decode (m_code 300) 607 = .ok (.iload 9, 2) := by decide +kernel
theorem d300_609 : decode (m_code 300) 609 = .ok (.iconst 0, 1) := by decide +kernel
theorem d300_610 : decode (m_code 300) 610 = .ok (.invokevirtual 50, 3) := by decide +kernel
theorem d300_613 : decode (m_code 300) 613 = .ok (.imul, 1) := by decide +kernel
theorem d300_614 : decode (m_code 300) 614 = .ok (.sipush 1000, 3) := by decide +kernel
theorem d300_617 : decode (m_code 300) 617 = .ok (.aload_n 0, 1) := by decide +kernel
theorem d300_618 : decode (m_code 300) 618 = .ok (.iload 9, 2) := by decide +kernel
theorem d300_620 : decode (m_code 300) 620 = .ok (.iconst 1, 1) := by decide +kernel
theorem d300_621 : decode (m_code 300) 621 = .ok (.invokevirtual 50, 3) := by decide +kernel
theorem d300_624 : decode (m_code 300) 624 = .ok (.imul, 1) := by decide +kernel
theorem d300_625 : decode (m_code 300) 625 = .ok (.iadd, 1) := by decide +kernel
theorem d300_626 : decode (m_code 300) 626 = .ok (.aload_n 0, 1) := by decide +kernel
theorem d300_627 : decode (m_code 300) 627 = .ok (.iload 9, 2) := by decide +kernel
theorem d300_629 : decode (m_code 300) 629 = .ok (.iconst 2, 1) := by decide +kernel
theorem d300_630 : decode (m_code 300) 630 = .ok (.invokevirtual 50, 3) := by decide +kernel
theorem d300_633 : decode (m_code 300) 633 = .ok (.iadd, 1) := by decide +kernel
theorem d300_634 : decode (m_code 300) 634 = .ok (.aload 6, 2) := by decide +kernel
theorem d300_636 : decode (m_code 300) 636 = .ok (.iload 9, 2) := by decide +kernel
theorem d300_638 : decode (m_code 300) 638 = .ok (.iaload, 1) := by decide +kernel
theorem d300_639 : decode (m_code 300) 639 = .ok (.if_icmp .eq 5, 3) := by decide +kernel
theorem d300_644 : decode (m_code 300) 644 = .ok (.iinc 9 1, 3) := by decide +kernel
theorem d300_647 : decode (m_code 300) 647 = .ok (.goto (-55), 3) := by decide +kernel
theorem d300_650 : decode (m_code 300) 650 = .ok (.aload_n 0, 1) := by decide +kernel
theorem d300_651 : decode (m_code 300) 651 = .ok (.iconst 0, 1) := by decide +kernel
theorem d300_652 : decode (m_code 300) 652 = .ok (.invokevirtual 52, 3) := by decide +kernel
theorem d300_655 : decode (m_code 300) 655 = .ok (.aload_n 1, 1) := by decide +kernel
theorem d300_656 : decode (m_code 300) 656 = .ok (.iconst 0, 1) := by decide +kernel
theorem d300_657 : decode (m_code 300) 657 = .ok (.iaload, 1) := by decide +kernel
theorem d300_658 : decode (m_code 300) 658 = .ok (.if_icmp .ne 45, 3) := by decide +kernel
theorem d300_661 : decode (m_code 300) 661 = .ok (.aload_n 0, 1) := by decide +kernel
theorem d300_662 : decode (m_code 300) 662 = .ok (.bipush 7, 2) := by decide +kernel
theorem d300_664 : decode (m_code 300) 664 = .ok (.invokevirtual 52, 3) := by decide +kernel
theorem d300_667 : decode (m_code 300) 667 = .ok (.aload_n 1, 1) := by decide +kernel
theorem d300_668 : decode (m_code 300) 668 = .ok (.iconst 1, 1) := by decide +kernel
theorem d300_669 : decode (m_code 300) 669 = .ok (.iaload, 1) := by decide +kernel
theorem d300_670 : decode (m_code 300) 670 = .ok (.iload 8, 2) := by decide +kernel
theorem d300_672 : decode (m_code 300) 672 = .ok (.isub, 1) := by decide +kernel
theorem d300_673 : decode (m_code 300) 673 = .ok (.if_icmp .ne 30, 3) := by decide +kernel
theorem d300_676 : decode (m_code 300) 676 = .ok (.aload_n 0, 1) := by decide +kernel
theorem d300_677 : decode (m_code 300) 677 = .ok (.bipush 9, 2) := by decide +kernel
theorem d300_679 : decode (m_code 300) 679 = .ok (.invokevirtual 52, 3) := by decide +kernel
theorem d300_682 : decode (m_code 300) 682 = .ok (.iload 8, 2) := by decide +kernel
theorem d300_684 : decode (m_code 300) 684 = .ok (.if_icmp .ne 19, 3) := by decide +kernel
theorem d300_687 : decode (m_code 300) 687 = .ok (.aload_n 0, 1) := by decide +kernel
theorem d300_688 : decode (m_code 300) 688 = .ok (.bipush 12, 2) := by decide +kernel
theorem d300_690 : decode (m_code 300) 690 = .ok (.invokevirtual 52, 3) := by decide +kernel
theorem d300_693 : decode (m_code 300) 693 = .ok (.aload_n 1, 1) := by decide +kernel
theorem d300_694 : decode (m_code 300) 694 = .ok (.iconst 2, 1) := by decide +kernel
theorem d300_695 : decode (m_code 300) 695 = .ok (.iaload, 1) := by decide +kernel
theorem d300_696 : decode (m_code 300) 696 = .ok (.if_icmp .ne 7, 3) := by decide +kernel
theorem d300_699 : decode (m_code 300) 699 = .ok (.iconst 1, 1) := by decide +kernel
theorem d300_700 : decode (m_code 300) 700 = .ok (.goto 4, 3) := by decide +kernel
theorem d300_704 : decode (m_code 300) 704 = .ok (.ireturn, 1) := by decide +kernel
theorem d301_0 : decode (m_code 301) 0 = .ok (.iconst 0, 1) := by decide +kernel
theorem d301_1 : decode (m_code 301) 1 = .ok (.istore_n 1, 1) := by decide +kernel
theorem d301_2 : decode (m_code 301) 2 = .ok (.iconst 0, 1) := by decide +kernel
theorem d301_3 : decode (m_code 301) 3 = .ok (.istore_n 2, 1) := by decide +kernel
theorem d301_4 : decode (m_code 301) 4 = .ok (.iload_n 2, 1) := by decide +kernel
theorem d301_5 : decode (m_code 301) 5 = .ok (.bipush 8, 2) := by decide +kernel
theorem d301_7 : decode (m_code 301) 7 = .ok (.if_icmp .ge 17, 3) := by decide +kernel
theorem d301_10 : decode (m_code 301) 10 = .ok (.iload_n 1, 1) := by decide +kernel
theorem d301_11 : decode (m_code 301) 11 = .ok (.iload_n 0, 1) := by decide +kernel
theorem d301_12 : decode (m_code 301) 12 = .ok (.iload_n 2, 1) := by decide +kernel
theorem d301_13 : decode (m_code 301) 13 = .ok (.ishr, 1) := by decide +kernel
theorem d301_14 : decode (m_code 301) 14 = .ok (.iconst 1, 1) := by decide +kernel
theorem d301_15 : decode (m_code 301) 15 = .ok (.iand, 1) := by decide +kernel
theorem d301_16 : decode (m_code 301) 16 = .ok (.iadd, 1) := by decide +kernel
theorem d301_17 : decode (m_code 301) 17 = .ok (.istore_n 1, 1) := by decide +kernel
theorem d301_18 : decode (m_code 301) 18 = .ok (.iinc 2 1, 3) := by decide +kernel
theorem d301_21 : decode (m_code 301) 21 = .ok (.goto (-17), 3) := by decide +kernel
theorem d301_24 : decode (m_code 301) 24 = .ok (.iload_n 1, 1) := by decide +kernel
theorem d301_25 : decode (m_code 301) 25 = .ok (.ireturn, 1) := by decide +kernel
theorem Qs.gi {S : Nat → Nat → Int32} {σ : Nat → Int32} {mi na ub ns wm r : Nat} (h : Qs S σ mi na ub ns wm) (hr : r < 4) : F_gi σ (nI r) 2 = (if S 3 0 = nI r then 1 else 0) + (if S 3 10 = nI r then 1 else 0) := by
  have key : ∀ g, g < 2 → (S 3 (10 * g) = nI r ↔ σ (192 + 10 * g + 0) = nI r) := by
    intro g hg
    rcases (h.2.2.2.2.2.2.1 g hg).2 with ⟨a, b, -⟩ | ⟨r2, a, b, d⟩
    · rw [a, b]
      exact ⟨fun z => absurd z.symm (fun y => absurd (nI_pos' (n := r) (by omega)) (by rw [y]; decide)), fun z => absurd z.symm (nI_ne5 (by omega))⟩
    · rw [b, d]
  have k0 : S 3 0 = nI r ↔ σ (192 + 10 * 0 + 0) = nI r := key 0 (by omega)
  have k1 : S 3 10 = nI r ↔ σ (192 + 10 * 1 + 0) = nI r := key 1 (by omega)
  unfold F_gi F_gi F_gi
  simp only [k0, k1]
  omega
theorem cl_gap2 {X : mX} {h : mH} {σ : Nat → Int32} {mi nR nD nG nW nA : Nat} (hI : Iv h σ mi nR nD nG nW nA) {r lo hi : Nat} (hr : r < nR) (h1 : lo ≤ hi) (h2 : hi ≤ mi) : Tells X 190 [.ref 0, .int (nI r), .int (nI lo), .int (nI hi)] h (F_gm σ (nI r) lo (hi - lo)) := by
  have e : hi = lo + (hi - lo) := by omega
  have q := cl_gap (X := X) hI (r := r) (lo := lo) (N := hi - lo) hr (by omega)
  rw [← e] at q
  exact q
theorem sm_in {X : mX} {h : mH} {σ : Nat → Int32} {S : Nat → Nat → Int32} {mi na : Nat} {Q : Option Value → mH → Prop} (hI : Iv h σ mi 4 4 2 2 (min na 40)) (hL : La h S) (hQ : Qs S σ mi na mi (4 * mi) mi) {l9 l10 l11 l12 l13 : Option Value} {r : Nat} (hr : r < 4) (K : m_wp X 300 39 [some (.ref 0), some (.ref 313), some (.ref 314), some (.ref 316), some (.ref 317), some (.ref 318), some (.ref 319), some (.ref 320), some (.int (nI r)), some (.int (nI (F_gi σ (nI r) 2))), l10, l11, l12, l13] [] h Q) : m_wp X 300 3 [some (.ref 0), some (.ref 313), some (.ref 314), some (.ref 316), some (.ref 317), some (.ref 318), some (.ref 319), some (.ref 320), some (.int (nI r)), l9, l10, l11, l12, l13] [] h Q := by
  obtain ⟨fs0, h00⟩ := hI.at0
  refine wp_iload d300_3 rfl ?_
  refine wp_iconst d300_5 (v := nI 4) (by decide) ?_
  refine wp_icmp_ge d300_6 (tgt := 225) (by decide) (fun hq9 => absurd hq9 (fun z => absurd ((nI_leI (by omega) (by omega)).mp z) (by omega))) (fun _ => ?_)
  refine wp_aload_n d300_9 rfl ?_
  refine wp_iconst d300_10 (v := nI 0) (by decide) ?_
  refine wp_iald d300_11 (la_3 hL) (nI_in (by omega) (by decide)) (v := S 3 0) ((congrArg (S 3) (nI_nat (by omega))).trans rfl) ?_
  refine wp_iload d300_12 rfl ?_
  refine wp_icmp_ne d300_14 (tgt := 21) (by decide) (fun hc14 => ?_) (fun hc14 => ?_)
  · refine wp_iconst d300_21 (v := nI 0) (by decide) ?_
    refine wp_aload_n d300_22 rfl ?_
    refine wp_bipush d300_23 (v := nI 10) (by decide) ?_
    refine wp_iald d300_25 (la_3 hL) (nI_in (by omega) (by decide)) (v := S 3 10) ((congrArg (S 3) (nI_nat (by omega))).trans rfl) ?_
    refine wp_iload d300_26 rfl ?_
    refine wp_icmp_ne d300_28 (tgt := 35) (by decide) (fun hc28 => ?_) (fun hc28 => ?_)
    · refine wp_iconst d300_35 (v := nI 0) (by decide) ?_
      refine wp_iaddv d300_36 (v := nI 0) (nI_add _ _) ?_
      refine wp_istore d300_37 (Nat.le_of_ble_eq_true rfl) rfl ?_
      rw [hQ.gi hr, if_neg hc14, if_neg hc28] at K
      exact K
    · refine wp_iconst d300_31 (v := nI 1) (by decide) ?_
      refine wp_goto d300_32 (tgt := 36) (by decide) ?_
      refine wp_iaddv d300_36 (v := nI 1) (nI_add _ _) ?_
      refine wp_istore d300_37 (Nat.le_of_ble_eq_true rfl) rfl ?_
      rw [hQ.gi hr, if_neg hc14, if_pos hc28] at K
      exact K
  · refine wp_iconst d300_17 (v := nI 1) (by decide) ?_
    refine wp_goto d300_18 (tgt := 22) (by decide) ?_
    refine wp_aload_n d300_22 rfl ?_
    refine wp_bipush d300_23 (v := nI 10) (by decide) ?_
    refine wp_iald d300_25 (la_3 hL) (nI_in (by omega) (by decide)) (v := S 3 10) ((congrArg (S 3) (nI_nat (by omega))).trans rfl) ?_
    refine wp_iload d300_26 rfl ?_
    refine wp_icmp_ne d300_28 (tgt := 35) (by decide) (fun hc28 => ?_) (fun hc28 => ?_)
    · refine wp_iconst d300_35 (v := nI 0) (by decide) ?_
      refine wp_iaddv d300_36 (v := nI 1) (nI_add _ _) ?_
      refine wp_istore d300_37 (Nat.le_of_ble_eq_true rfl) rfl ?_
      rw [hQ.gi hr, if_pos hc14, if_neg hc28] at K
      exact K
    · refine wp_iconst d300_31 (v := nI 1) (by decide) ?_
      refine wp_goto d300_32 (tgt := 36) (by decide) ?_
      refine wp_iaddv d300_36 (v := nI 2) (nI_add _ _) ?_
      refine wp_istore d300_37 (Nat.le_of_ble_eq_true rfl) rfl ?_
      rw [hQ.gi hr, if_pos hc14, if_pos hc28] at K
      exact K
theorem sm_room {X : mX} {h : mH} {σ : Nat → Int32} {S : Nat → Nat → Int32} {mi na : Nat} {Q : Option Value → mH → Prop} (hI : Iv h σ mi 4 4 2 2 (min na 40)) (hL : La h S) (hQ : Qs S σ mi na mi (4 * mi) mi) {l10 l11 l12 l13 : Option Value} {r : Nat} (hr : r < 4) (hmi : mi ≤ 60) (K : m_wp X 300 147 [some (.ref 0), some (.ref 313), some (.ref 314), some (.ref 316), some (.ref 317), some (.ref 318), some (.ref 319), some (.ref 320), some (.int (nI r)), some (.int (nI (F_gi σ (nI r) 2))), some (.int (nI (mi / 3))), some (.int (nI 0)), some (.int (nI 0)), some (.int (nI (mi / 3)))] [] h Q) : m_wp X 300 39 [some (.ref 0), some (.ref 313), some (.ref 314), some (.ref 316), some (.ref 317), some (.ref 318), some (.ref 319), some (.ref 320), some (.int (nI r)), some (.int (nI (F_gi σ (nI r) 2))), l10, l11, l12, l13] [] h Q := by
  obtain ⟨fs0, h00⟩ := hI.at0
  have v : ∀ p, 0 < p → p < 6 → S 1 (6 * r + p) = σ (20 + 6 * r + p) := fun p p0 p6 => (hQ.2.2.2.1.2 (6 * r + p) (by omega) (by omega)).trans (congrArg σ (by omega))
  have hm := hQ.1.1
  refine wp_aload_n d300_39 rfl ?_
  refine wp_iload d300_40 rfl ?_
  refine wp_iconst d300_42 (v := nI 2) (by decide) ?_
  refine wp_invvT (e := 31) (j2 := 165) (n := 2) d300_43 (by decide +kernel) (by decide +kernel) rfl rfl rfl h00 (by decide +kernel) (Nat.le_of_ble_eq_true rfl) rfl rfl (Nat.le_of_ble_eq_true rfl) (by decide +kernel) (cl_room2 hI (r := r) (by omega)) ?_
  refine wp_aload_n d300_46 rfl ?_
  refine wp_bipush d300_47 (v := nI 6) (by decide) ?_
  refine wp_iload d300_49 rfl ?_
  refine wp_imulv d300_51 (v := nI (6 * r)) (nI_mul _ _) ?_
  refine wp_iconst d300_52 (v := nI 2) (by decide) ?_
  refine wp_iaddv d300_53 (v := nI (6 * r + 2)) (nI_add _ _) ?_
  refine wp_iald d300_54 (la_1 hL) (nI_in (by omega) (by decide)) (v := σ (20 + 6 * r + 2)) ((congrArg (S 1) (nI_nat (by omega))).trans (v 2 (by omega) (by omega))) ?_
  refine wp_icmp_ne d300_55 (tgt := 128) (by decide) (fun hq9 => absurd rfl hq9) (fun _ => ?_)
  refine wp_aload_n d300_58 rfl ?_
  refine wp_iload d300_59 rfl ?_
  refine wp_iconst d300_61 (v := nI 3) (by decide) ?_
  refine wp_invvT (e := 31) (j2 := 165) (n := 2) d300_62 (by decide +kernel) (by decide +kernel) rfl rfl rfl h00 (by decide +kernel) (Nat.le_of_ble_eq_true rfl) rfl rfl (Nat.le_of_ble_eq_true rfl) (by decide +kernel) (cl_room3 hI (r := r) (by omega)) ?_
  refine wp_aload_n d300_65 rfl ?_
  refine wp_bipush d300_66 (v := nI 6) (by decide) ?_
  refine wp_iload d300_68 rfl ?_
  refine wp_imulv d300_70 (v := nI (6 * r)) (nI_mul _ _) ?_
  refine wp_iconst d300_71 (v := nI 3) (by decide) ?_
  refine wp_iaddv d300_72 (v := nI (6 * r + 3)) (nI_add _ _) ?_
  refine wp_iald d300_73 (la_1 hL) (nI_in (by omega) (by decide)) (v := σ (20 + 6 * r + 3)) ((congrArg (S 1) (nI_nat (by omega))).trans (v 3 (by omega) (by omega))) ?_
  refine wp_icmp_ne d300_74 (tgt := 128) (by decide) (fun hq9 => absurd rfl hq9) (fun _ => ?_)
  refine wp_aload_n d300_77 rfl ?_
  refine wp_iload d300_78 rfl ?_
  refine wp_iconst d300_80 (v := nI 4) (by decide) ?_
  refine wp_invvT (e := 31) (j2 := 165) (n := 2) d300_81 (by decide +kernel) (by decide +kernel) rfl rfl rfl h00 (by decide +kernel) (Nat.le_of_ble_eq_true rfl) rfl rfl (Nat.le_of_ble_eq_true rfl) (by decide +kernel) (cl_room4 hI (r := r) (by omega)) ?_
  refine wp_aload_n d300_84 rfl ?_
  refine wp_bipush d300_85 (v := nI 6) (by decide) ?_
  refine wp_iload d300_87 rfl ?_
  refine wp_imulv d300_89 (v := nI (6 * r)) (nI_mul _ _) ?_
  refine wp_iconst d300_90 (v := nI 4) (by decide) ?_
  refine wp_iaddv d300_91 (v := nI (6 * r + 4)) (nI_add _ _) ?_
  refine wp_iald d300_92 (la_1 hL) (nI_in (by omega) (by decide)) (v := σ (20 + 6 * r + 4)) ((congrArg (S 1) (nI_nat (by omega))).trans (v 4 (by omega) (by omega))) ?_
  refine wp_icmp_ne d300_93 (tgt := 128) (by decide) (fun hq9 => absurd rfl hq9) (fun _ => ?_)
  refine wp_aload_n d300_96 rfl ?_
  refine wp_iload d300_97 rfl ?_
  refine wp_iconst d300_99 (v := nI 5) (by decide) ?_
  refine wp_invvT (e := 31) (j2 := 165) (n := 2) d300_100 (by decide +kernel) (by decide +kernel) rfl rfl rfl h00 (by decide +kernel) (Nat.le_of_ble_eq_true rfl) rfl rfl (Nat.le_of_ble_eq_true rfl) (by decide +kernel) (cl_room5 hI (r := r) (by omega)) ?_
  refine wp_aload_n d300_103 rfl ?_
  refine wp_bipush d300_104 (v := nI 6) (by decide) ?_
  refine wp_iload d300_106 rfl ?_
  refine wp_imulv d300_108 (v := nI (6 * r)) (nI_mul _ _) ?_
  refine wp_iconst d300_109 (v := nI 5) (by decide) ?_
  refine wp_iaddv d300_110 (v := nI (6 * r + 5)) (nI_add _ _) ?_
  refine wp_iald d300_111 (la_1 hL) (nI_in (by omega) (by decide)) (v := σ (20 + 6 * r + 5)) ((congrArg (S 1) (nI_nat (by omega))).trans (v 5 (by omega) (by omega))) ?_
  refine wp_icmp_ne d300_112 (tgt := 128) (by decide) (fun hq9 => absurd rfl hq9) (fun _ => ?_)
  refine wp_aload_n d300_115 rfl ?_
  refine wp_iload d300_116 rfl ?_
  refine wp_bipush d300_118 (v := nI 6) (by decide) ?_
  refine wp_invvT (e := 31) (j2 := 165) (n := 2) d300_120 (by decide +kernel) (by decide +kernel) rfl rfl rfl h00 (by decide +kernel) (Nat.le_of_ble_eq_true rfl) rfl rfl (Nat.le_of_ble_eq_true rfl) (by decide +kernel) (cl_room6 hI (r := r) (by omega)) ?_
  refine wp_iload d300_123 rfl ?_
  refine wp_icmp_eq d300_125 (tgt := 130) (by decide) (fun _ => ?_) (fun hq9 => absurd rfl hq9)
  refine wp_aload_n d300_130 rfl ?_
  refine wp_iconst d300_131 (v := nI 0) (by decide) ?_
  refine wp_iald d300_132 (la_0 hL) (nI_in (by omega) (by decide)) (v := nI mi) ((congrArg (S 0) (nI_nat (by omega))).trans hm) ?_
  refine wp_iconst d300_133 (v := nI 3) (by decide) ?_
  refine wp_idivv d300_134 (v := nI (mi / 3)) (by decide) (nI_div (by omega) (by omega)) ?_
  refine wp_istore d300_135 (Nat.le_of_ble_eq_true rfl) rfl ?_
  refine wp_iconst d300_137 (v := nI 0) (by decide) ?_
  refine wp_istore d300_138 (Nat.le_of_ble_eq_true rfl) rfl ?_
  refine wp_iconst d300_140 (v := nI 0) (by decide) ?_
  refine wp_istore d300_141 (Nat.le_of_ble_eq_true rfl) rfl ?_
  refine wp_iload d300_143 rfl ?_
  refine wp_istore d300_145 (Nat.le_of_ble_eq_true rfl) rfl ?_
  exact K
theorem sm_gap {X : mX} {h : mH} {σ : Nat → Int32} {S : Nat → Nat → Int32} {mi na : Nat} {Q : Option Value → mH → Prop} (hI : Iv h σ mi 4 4 2 2 (min na 40)) (hL : La h S) (hQ : Qs S σ mi na mi (4 * mi) mi) {r : Nat} (hr : r < 4) (hmi : mi ≤ 60) (K : ∀ x11 x13, m_wp X 300 201 [some (.ref 0), some (.ref 313), some (.ref 314), some (.ref 316), some (.ref 317), some (.ref 318), some (.ref 319), some (.ref 320), some (.int (nI r)), some (.int (nI (F_gi σ (nI r) 2))), some (.int (nI (mi / 3))), x11, some (.int (F_gm σ (nI r) (mi / 3) (mi - mi / 3))), x13] [] h Q) : ∀ (d k : Nat) (a b2 : Int32), mi - mi / 3 - k = d → k ≤ mi - mi / 3 → a = F_gr σ (nI r) (mi / 3) k → b2 = F_gm σ (nI r) (mi / 3) k → m_wp X 300 147 [some (.ref 0), some (.ref 313), some (.ref 314), some (.ref 316), some (.ref 317), some (.ref 318), some (.ref 319), some (.ref 320), some (.int (nI r)), some (.int (nI (F_gi σ (nI r) 2))), some (.int (nI (mi / 3))), some (.int (a)), some (.int (b2)), some (.int (nI (mi / 3 + k)))] [] h Q := by
  have hm := hQ.1.1
  intro d
  induction d using Nat.strongRecOn with
  | ind d ih =>
    intro k a b2 hd hk ha hb
    subst hd
    by_cases hlt : k < mi - mi / 3
    · refine wp_iload d300_147 rfl ?_
      refine wp_aload_n d300_149 rfl ?_
      refine wp_iconst d300_150 (v := nI 0) (by decide) ?_
      refine wp_iald d300_151 (la_0 hL) (nI_in (by omega) (by decide)) (v := nI mi) ((congrArg (S 0) (nI_nat (by omega))).trans hm) ?_
      refine wp_icmp_ge d300_152 (tgt := 201) (by decide) (fun hq9 => absurd hq9 (fun z => absurd ((nI_leI (by omega) (by omega)).mp z) (by omega))) (fun _ => ?_)
      refine wp_aload d300_155 rfl ?_
      refine wp_iload d300_157 rfl ?_
      refine wp_iald d300_159 (la_7 hL) (nI_in (by omega) (by decide)) (v := σ (578 + (mi / 3 + k))) ((congrArg (S 7) (nI_nat (by omega))).trans (hQ.2.2.2.2.2.2.2.2.2.2.2 (mi / 3 + k) (by omega))) ?_
      refine wp_iload d300_160 rfl ?_
      refine wp_ishr d300_162 ?_
      refine wp_iconst d300_163 (v := nI 1) (by decide) ?_
      refine wp_iand d300_164 ?_
      refine wp_iconst d300_165 (v := nI 1) (by decide) ?_
      refine wp_icmp_ne d300_166 (tgt := 173) (by decide) (fun hc166 => ?_) (fun hc166 => ?_)
      · refine wp_iload d300_173 rfl ?_
        refine wp_iconst d300_175 (v := nI 1) (by decide) ?_
        refine wp_iadd d300_176 ?_
        refine wp_istore d300_177 (Nat.le_of_ble_eq_true rfl) rfl ?_
        refine wp_iload d300_179 rfl ?_
        refine wp_iload d300_181 rfl ?_
        refine wp_icmp_le d300_183 (tgt := 191) (by decide) (fun hc183 => ?_) (fun hc183 => ?_)
        · refine wp_iload d300_191 rfl ?_
          refine wp_istore d300_193 (Nat.le_of_ble_eq_true rfl) rfl ?_
          refine wp_iinc d300_195 rfl (v := nI (mi / 3 + k + 1)) (nI_add _ 1) (Nat.le_of_ble_eq_true rfl) rfl ?_
          refine wp_goto d300_198 (tgt := 147) (by decide) ?_
          have e1 : F_gr σ (nI r) (mi / 3) (k + 1) = (a + (nI 1)) := (if_neg hc166).trans (by rw [ha])
          have e2 : F_gm σ (nI r) (mi / 3) (k + 1) = b2 := (if_neg (Int32.not_lt.mpr (by rw [e1, ← hb]; exact hc183))).trans hb.symm
          exact ih (mi - mi / 3 - (k + 1)) (by omega) (k + 1) _ _ rfl (by omega) e1.symm e2.symm
        · refine wp_iload d300_186 rfl ?_
          refine wp_goto d300_188 (tgt := 193) (by decide) ?_
          refine wp_istore d300_193 (Nat.le_of_ble_eq_true rfl) rfl ?_
          refine wp_iinc d300_195 rfl (v := nI (mi / 3 + k + 1)) (nI_add _ 1) (Nat.le_of_ble_eq_true rfl) rfl ?_
          refine wp_goto d300_198 (tgt := 147) (by decide) ?_
          have e1 : F_gr σ (nI r) (mi / 3) (k + 1) = (a + (nI 1)) := (if_neg hc166).trans (by rw [ha])
          have e2 : F_gm σ (nI r) (mi / 3) (k + 1) = (a + (nI 1)) := (if_pos (by rw [e1, ← hb]; exact Int32.not_le.mp hc183)).trans e1
          exact ih (mi - mi / 3 - (k + 1)) (by omega) (k + 1) _ _ rfl (by omega) e1.symm e2.symm
      · refine wp_iconst d300_169 (v := nI 0) (by decide) ?_
        refine wp_goto d300_170 (tgt := 177) (by decide) ?_
        refine wp_istore d300_177 (Nat.le_of_ble_eq_true rfl) rfl ?_
        refine wp_iload d300_179 rfl ?_
        refine wp_iload d300_181 rfl ?_
        refine wp_icmp_le d300_183 (tgt := 191) (by decide) (fun hc183 => ?_) (fun hc183 => ?_)
        · refine wp_iload d300_191 rfl ?_
          refine wp_istore d300_193 (Nat.le_of_ble_eq_true rfl) rfl ?_
          refine wp_iinc d300_195 rfl (v := nI (mi / 3 + k + 1)) (nI_add _ 1) (Nat.le_of_ble_eq_true rfl) rfl ?_
          refine wp_goto d300_198 (tgt := 147) (by decide) ?_
          have e1 : F_gr σ (nI r) (mi / 3) (k + 1) = nI 0 := if_pos hc166
          have e2 : F_gm σ (nI r) (mi / 3) (k + 1) = b2 := (if_neg (Int32.not_lt.mpr (by rw [e1, ← hb]; exact hc183))).trans hb.symm
          exact ih (mi - mi / 3 - (k + 1)) (by omega) (k + 1) _ _ rfl (by omega) e1.symm e2.symm
        · refine wp_iload d300_186 rfl ?_
          refine wp_goto d300_188 (tgt := 193) (by decide) ?_
          refine wp_istore d300_193 (Nat.le_of_ble_eq_true rfl) rfl ?_
          refine wp_iinc d300_195 rfl (v := nI (mi / 3 + k + 1)) (nI_add _ 1) (Nat.le_of_ble_eq_true rfl) rfl ?_
          refine wp_goto d300_198 (tgt := 147) (by decide) ?_
          have e1 : F_gr σ (nI r) (mi / 3) (k + 1) = nI 0 := if_pos hc166
          have e2 : F_gm σ (nI r) (mi / 3) (k + 1) = nI 0 := (if_pos (by rw [e1, ← hb]; exact Int32.not_le.mp hc183)).trans e1
          exact ih (mi - mi / 3 - (k + 1)) (by omega) (k + 1) _ _ rfl (by omega) e1.symm e2.symm
    · have e : k = mi - mi / 3 := by omega
      rw [show F_gm σ (nI r) (mi / 3) k = F_gm σ (nI r) (mi / 3) (mi - mi / 3) from by rw [e]] at hb
      subst hb
      refine wp_iload d300_147 rfl ?_
      refine wp_aload_n d300_149 rfl ?_
      refine wp_iconst d300_150 (v := nI 0) (by decide) ?_
      refine wp_iald d300_151 (la_0 hL) (nI_in (by omega) (by decide)) (v := nI mi) ((congrArg (S 0) (nI_nat (by omega))).trans hm) ?_
      refine wp_icmp_ge d300_152 (tgt := 201) (by decide) (fun _ => ?_) (fun hq9 => absurd (nI_le (by omega) (by omega)) hq9)
      exact K _ _
theorem sm_gapt {X : mX} {h : mH} {σ : Nat → Int32} {S : Nat → Nat → Int32} {mi na : Nat} {Q : Option Value → mH → Prop} (hI : Iv h σ mi 4 4 2 2 (min na 40)) (hL : La h S) (hQ : Qs S σ mi na mi (4 * mi) mi) {l11 l13 : Option Value} {r : Nat} (hr : r < 4) (hmi : mi ≤ 60) (K : ∀ x9 x10 x11 x12 x13, m_wp X 300 3 [some (.ref 0), some (.ref 313), some (.ref 314), some (.ref 316), some (.ref 317), some (.ref 318), some (.ref 319), some (.ref 320), some (.int (nI (r + 1))), x9, x10, x11, x12, x13] [] h Q) : m_wp X 300 201 [some (.ref 0), some (.ref 313), some (.ref 314), some (.ref 316), some (.ref 317), some (.ref 318), some (.ref 319), some (.ref 320), some (.int (nI r)), some (.int (nI (F_gi σ (nI r) 2))), some (.int (nI (mi / 3))), l11, some (.int (F_gm σ (nI r) (mi / 3) (mi - mi / 3))), l13] [] h Q := by
  obtain ⟨fs0, h00⟩ := hI.at0
  have hm := hQ.1.1
  refine wp_aload_n d300_201 rfl ?_
  refine wp_iload d300_202 rfl ?_
  refine wp_iload d300_204 rfl ?_
  refine wp_aload_n d300_206 rfl ?_
  refine wp_iconst d300_207 (v := nI 0) (by decide) ?_
  refine wp_iald d300_208 (la_0 hL) (nI_in (by omega) (by decide)) (v := nI mi) ((congrArg (S 0) (nI_nat (by omega))).trans hm) ?_
  refine wp_invvT (e := 37) (j2 := 190) (n := 3) d300_209 (by decide +kernel) (by decide +kernel) rfl rfl rfl h00 (by decide +kernel) (Nat.le_of_ble_eq_true rfl) rfl rfl (Nat.le_of_ble_eq_true rfl) (by decide +kernel) (cl_gap2 hI hr (by omega) (by omega)) ?_
  refine wp_iload d300_212 rfl ?_
  refine wp_icmp_eq d300_214 (tgt := 219) (by decide) (fun _ => ?_) (fun hq9 => absurd rfl hq9)
  refine wp_iinc d300_219 rfl (v := nI (r + 1)) (nI_add _ 1) (Nat.le_of_ble_eq_true rfl) rfl ?_
  refine wp_goto d300_222 (tgt := 3) (by decide) ?_
  exact K _ _ _ _ _
theorem sm_r {X : mX} {h : mH} {σ : Nat → Int32} {S : Nat → Nat → Int32} {mi na : Nat} {Q : Option Value → mH → Prop} (hI : Iv h σ mi 4 4 2 2 (min na 40)) (hL : La h S) (hQ : Qs S σ mi na mi (4 * mi) mi) {l9 l10 l11 l12 l13 : Option Value} {r : Nat} (hr : r < 4) (hmi : mi ≤ 60) (K : ∀ x9 x10 x11 x12 x13, m_wp X 300 3 [some (.ref 0), some (.ref 313), some (.ref 314), some (.ref 316), some (.ref 317), some (.ref 318), some (.ref 319), some (.ref 320), some (.int (nI (r + 1))), x9, x10, x11, x12, x13] [] h Q) : m_wp X 300 3 [some (.ref 0), some (.ref 313), some (.ref 314), some (.ref 316), some (.ref 317), some (.ref 318), some (.ref 319), some (.ref 320), some (.int (nI r)), l9, l10, l11, l12, l13] [] h Q := by
  refine sm_in hI hL hQ hr (sm_room hI hL hQ hr hmi ?_)
  refine sm_gap hI hL hQ hr hmi (fun x11 x13 => sm_gapt hI hL hQ hr hmi K) (mi - mi / 3) 0 _ _ rfl (Nat.zero_le _) rfl rfl
theorem sm_rs {X : mX} {h : mH} {σ : Nat → Int32} {S : Nat → Nat → Int32} {mi na : Nat} {Q : Option Value → mH → Prop} (hI : Iv h σ mi 4 4 2 2 (min na 40)) (hL : La h S) (hQ : Qs S σ mi na mi (4 * mi) mi) {l9 l10 l11 l12 l13 : Option Value} (hmi : mi ≤ 60) (K : ∀ x9 x10 x11 x12 x13, m_wp X 300 3 [some (.ref 0), some (.ref 313), some (.ref 314), some (.ref 316), some (.ref 317), some (.ref 318), some (.ref 319), some (.ref 320), some (.int (nI 4)), x9, x10, x11, x12, x13] [] h Q) : m_wp X 300 3 [some (.ref 0), some (.ref 313), some (.ref 314), some (.ref 316), some (.ref 317), some (.ref 318), some (.ref 319), some (.ref 320), some (.int (nI 0)), l9, l10, l11, l12, l13] [] h Q := by
  refine sm_r hI hL hQ (r := 0) (by omega) hmi (fun x9 x10 x11 x12 x13 => ?_)
  refine sm_r hI hL hQ (r := 1) (by omega) hmi (fun x9 x10 x11 x12 x13 => ?_)
  refine sm_r hI hL hQ (r := 2) (by omega) hmi (fun x9 x10 x11 x12 x13 => ?_)
  exact sm_r hI hL hQ (r := 3) (by omega) hmi (fun x9 x10 x11 x12 x13 => K x9 x10 x11 x12 x13)
theorem sm_gs {X : mX} {h : mH} {σ : Nat → Int32} {S : Nat → Nat → Int32} {mi na : Nat} {Q : Option Value → mH → Prop} (hI : Iv h σ mi 4 4 2 2 (min na 40)) (hL : La h S) (hQ : Qs S σ mi na mi (4 * mi) mi) {l9 l10 l11 l12 l13 : Option Value} {g r : Nat} (hg : g < 2) (hr : r < 4) (e0 : σ (192 + 10 * g + 0) = nI r) (s0 : S 3 (10 * g) = nI r) (e1 : σ (192 + 10 * g + 1) = -5) (K : ∀ x10 x12 x13, m_wp X 300 432 [some (.ref 0), some (.ref 313), some (.ref 314), some (.ref 316), some (.ref 317), some (.ref 318), some (.ref 319), some (.ref 320), some (.int (nI g)), some (.int (nI (10 * g))), x10, some (.int (nI 0)), x12, x13] [] h Q) : m_wp X 300 228 [some (.ref 0), some (.ref 313), some (.ref 314), some (.ref 316), some (.ref 317), some (.ref 318), some (.ref 319), some (.ref 320), some (.int (nI g)), l9, l10, l11, l12, l13] [] h Q := by
  obtain ⟨fs0, h00⟩ := hI.at0
  have w : ∀ p, 2 ≤ p → p ≤ 8 → S 3 (10 * g + p) = σ (192 + 10 * g + p) := (hQ.2.2.2.2.2.2.1 g hg).1
  refine wp_iload d300_228 rfl ?_
  refine wp_iconst d300_230 (v := nI 2) (by decide) ?_
  refine wp_icmp_ge d300_231 (tgt := 495) (by decide) (fun hq9 => absurd hq9 (fun z => absurd ((nI_leI (by omega) (by omega)).mp z) (by omega))) (fun _ => ?_)
  refine wp_bipush d300_234 (v := nI 10) (by decide) ?_
  refine wp_iload d300_236 rfl ?_
  refine wp_imulv d300_238 (v := nI (10 * g)) (nI_mul _ _) ?_
  refine wp_istore d300_239 (Nat.le_of_ble_eq_true rfl) rfl ?_
  refine wp_aload_n d300_241 rfl ?_
  refine wp_iload d300_242 rfl ?_
  refine wp_iald d300_244 (la_3 hL) (nI_in (by omega) (by decide)) (v := nI r) ((congrArg (S 3) (nI_nat (by omega))).trans s0) ?_
  refine wp_if_ge d300_245 (tgt := 252) (by decide) (fun _ => ?_) (fun hq9 => absurd (nI_pos' (by omega)) hq9)
  refine wp_iconst d300_252 (v := nI 0) (by decide) ?_
  refine wp_istore d300_253 (Nat.le_of_ble_eq_true rfl) rfl ?_
  refine wp_aload_n d300_255 rfl ?_
  refine wp_iload d300_256 rfl ?_
  refine wp_iconst d300_258 (v := nI 0) (by decide) ?_
  refine wp_invvT (e := 41) (j2 := 178) (n := 2) d300_259 (by decide +kernel) (by decide +kernel) rfl rfl rfl h00 (by decide +kernel) (Nat.le_of_ble_eq_true rfl) rfl rfl (Nat.le_of_ble_eq_true rfl) (by decide +kernel) (tells_to e0 (cl_guard0 hI (g := g) (by omega))) ?_
  refine wp_iload d300_262 rfl ?_
  refine wp_if_eq d300_264 (tgt := 272) (by decide) (fun _ => ?_) (fun hz => absurd hz (by decide))
  refine wp_aload_n d300_272 rfl ?_
  refine wp_iload d300_273 rfl ?_
  refine wp_iald d300_275 (la_3 hL) (nI_in (by omega) (by decide)) (v := nI r) ((congrArg (S 3) (nI_nat (by omega))).trans s0) ?_
  refine wp_icmp_ne d300_276 (tgt := 356) (by decide) (fun hq9 => absurd rfl hq9) (fun _ => ?_)
  refine wp_aload_n d300_279 rfl ?_
  refine wp_iload d300_280 rfl ?_
  refine wp_iconst d300_282 (v := nI 1) (by decide) ?_
  refine wp_invvT (e := 41) (j2 := 178) (n := 2) d300_283 (by decide +kernel) (by decide +kernel) rfl rfl rfl h00 (by decide +kernel) (Nat.le_of_ble_eq_true rfl) rfl rfl (Nat.le_of_ble_eq_true rfl) (by decide +kernel) (tells_to e1 (cl_guard1 hI (g := g) (by omega))) ?_
  refine wp_iload d300_286 rfl ?_
  refine wp_if_eq d300_288 (tgt := 300) (by decide) (fun _ => ?_) (fun hz => absurd hz (by decide))
  refine wp_bipush d300_300 (v := (-5 : Int32)) (by decide) ?_
  refine wp_icmp_ne d300_302 (tgt := 356) (by decide) (fun hq9 => absurd rfl hq9) (fun _ => ?_)
  refine wp_aload_n d300_305 rfl ?_
  refine wp_iload d300_306 rfl ?_
  refine wp_iconst d300_308 (v := nI 2) (by decide) ?_
  refine wp_invvT (e := 41) (j2 := 178) (n := 2) d300_309 (by decide +kernel) (by decide +kernel) rfl rfl rfl h00 (by decide +kernel) (Nat.le_of_ble_eq_true rfl) rfl rfl (Nat.le_of_ble_eq_true rfl) (by decide +kernel) (tells_to (if_neg (by rw [e0]; exact Int32.not_lt.mpr (nI_pos' (by omega)))) (cl_guard2 hI (g := g) (by omega))) ?_
  refine wp_iload d300_312 rfl ?_
  refine wp_if_eq d300_314 (tgt := 326) (by decide) (fun _ => ?_) (fun hz => absurd hz (by decide))
  refine wp_bipush d300_326 (v := (-5 : Int32)) (by decide) ?_
  refine wp_icmp_ne d300_328 (tgt := 356) (by decide) (fun hq9 => absurd rfl hq9) (fun _ => ?_)
  refine wp_aload_n d300_331 rfl ?_
  refine wp_iload d300_332 rfl ?_
  refine wp_iconst d300_334 (v := nI 3) (by decide) ?_
  refine wp_invvT (e := 41) (j2 := 178) (n := 2) d300_335 (by decide +kernel) (by decide +kernel) rfl rfl rfl h00 (by decide +kernel) (Nat.le_of_ble_eq_true rfl) rfl rfl (Nat.le_of_ble_eq_true rfl) (by decide +kernel) (cl_guard3 hI (g := g) (by omega)) ?_
  refine wp_iload d300_338 rfl ?_
  refine wp_if_eq d300_340 (tgt := 347) (by decide) (fun _ => ?_) (fun hz => absurd hz (by decide))
  refine wp_aload_n d300_347 rfl ?_
  refine wp_iload d300_348 rfl ?_
  refine wp_iconst d300_350 (v := nI 3) (by decide) ?_
  refine wp_iaddv d300_351 (v := nI (10 * g + 3)) (nI_add _ _) ?_
  refine wp_iald d300_352 (la_3 hL) (nI_in (by omega) (by decide)) (v := σ (192 + 10 * g + 3)) ((congrArg (S 3) (nI_nat (by omega))).trans (w 3 (by omega) (by omega))) ?_
  refine wp_icmp_eq d300_353 (tgt := 358) (by decide) (fun _ => ?_) (fun hq9 => absurd rfl hq9)
  refine wp_aload_n d300_358 rfl ?_
  refine wp_iload d300_359 rfl ?_
  refine wp_iconst d300_361 (v := nI 4) (by decide) ?_
  refine wp_invvT (e := 41) (j2 := 178) (n := 2) d300_362 (by decide +kernel) (by decide +kernel) rfl rfl rfl h00 (by decide +kernel) (Nat.le_of_ble_eq_true rfl) rfl rfl (Nat.le_of_ble_eq_true rfl) (by decide +kernel) (cl_guard4 hI (g := g) (by omega)) ?_
  refine wp_aload_n d300_365 rfl ?_
  refine wp_iload d300_366 rfl ?_
  refine wp_iconst d300_368 (v := nI 5) (by decide) ?_
  refine wp_iaddv d300_369 (v := nI (10 * g + 5)) (nI_add _ _) ?_
  refine wp_iald d300_370 (la_3 hL) (nI_in (by omega) (by decide)) (v := σ (192 + 10 * g + 5)) ((congrArg (S 3) (nI_nat (by omega))).trans (w 5 (by omega) (by omega))) ?_
  refine wp_icmp_ne d300_371 (tgt := 427) (by decide) (fun hq9 => absurd rfl hq9) (fun _ => ?_)
  refine wp_aload_n d300_374 rfl ?_
  refine wp_iload d300_375 rfl ?_
  refine wp_iconst d300_377 (v := nI 5) (by decide) ?_
  refine wp_invvT (e := 41) (j2 := 178) (n := 2) d300_378 (by decide +kernel) (by decide +kernel) rfl rfl rfl h00 (by decide +kernel) (Nat.le_of_ble_eq_true rfl) rfl rfl (Nat.le_of_ble_eq_true rfl) (by decide +kernel) (cl_guard5 hI (g := g) (by omega)) ?_
  refine wp_aload_n d300_381 rfl ?_
  refine wp_iload d300_382 rfl ?_
  refine wp_bipush d300_384 (v := nI 6) (by decide) ?_
  refine wp_iaddv d300_386 (v := nI (10 * g + 6)) (nI_add _ _) ?_
  refine wp_iald d300_387 (la_3 hL) (nI_in (by omega) (by decide)) (v := σ (192 + 10 * g + 6)) ((congrArg (S 3) (nI_nat (by omega))).trans (w 6 (by omega) (by omega))) ?_
  refine wp_icmp_ne d300_388 (tgt := 427) (by decide) (fun hq9 => absurd rfl hq9) (fun _ => ?_)
  refine wp_aload_n d300_391 rfl ?_
  refine wp_iload d300_392 rfl ?_
  refine wp_bipush d300_394 (v := nI 6) (by decide) ?_
  refine wp_invvT (e := 41) (j2 := 178) (n := 2) d300_396 (by decide +kernel) (by decide +kernel) rfl rfl rfl h00 (by decide +kernel) (Nat.le_of_ble_eq_true rfl) rfl rfl (Nat.le_of_ble_eq_true rfl) (by decide +kernel) (cl_guard6 hI (g := g) (by omega)) ?_
  refine wp_aload_n d300_399 rfl ?_
  refine wp_iload d300_400 rfl ?_
  refine wp_bipush d300_402 (v := nI 7) (by decide) ?_
  refine wp_iaddv d300_404 (v := nI (10 * g + 7)) (nI_add _ _) ?_
  refine wp_iald d300_405 (la_3 hL) (nI_in (by omega) (by decide)) (v := σ (192 + 10 * g + 7)) ((congrArg (S 3) (nI_nat (by omega))).trans (w 7 (by omega) (by omega))) ?_
  refine wp_icmp_ne d300_406 (tgt := 427) (by decide) (fun hq9 => absurd rfl hq9) (fun _ => ?_)
  refine wp_aload_n d300_409 rfl ?_
  refine wp_iload d300_410 rfl ?_
  refine wp_bipush d300_412 (v := nI 7) (by decide) ?_
  refine wp_invvT (e := 41) (j2 := 178) (n := 2) d300_414 (by decide +kernel) (by decide +kernel) rfl rfl rfl h00 (by decide +kernel) (Nat.le_of_ble_eq_true rfl) rfl rfl (Nat.le_of_ble_eq_true rfl) (by decide +kernel) (cl_guard7 hI (g := g) (by omega)) ?_
  refine wp_aload_n d300_417 rfl ?_
  refine wp_iload d300_418 rfl ?_
  refine wp_bipush d300_420 (v := nI 8) (by decide) ?_
  refine wp_iaddv d300_422 (v := nI (10 * g + 8)) (nI_add _ _) ?_
  refine wp_iald d300_423 (la_3 hL) (nI_in (by omega) (by decide)) (v := σ (192 + 10 * g + 8)) ((congrArg (S 3) (nI_nat (by omega))).trans (w 8 (by omega) (by omega))) ?_
  refine wp_icmp_eq d300_424 (tgt := 429) (by decide) (fun _ => ?_) (fun hq9 => absurd rfl hq9)
  refine wp_iconst d300_429 (v := nI 0) (by decide) ?_
  refine wp_istore d300_430 (Nat.le_of_ble_eq_true rfl) rfl ?_
  exact K _ _ _
theorem sm_gw {X : mX} {h : mH} {σ : Nat → Int32} {S : Nat → Nat → Int32} {mi na : Nat} {Q : Option Value → mH → Prop} (hI : Iv h σ mi 4 4 2 2 (min na 40)) (hL : La h S) (hQ : Qs S σ mi na mi (4 * mi) mi) {l9 l10 l11 l12 l13 : Option Value} {g t : Nat} (hg : g < 2) (e0 : σ (192 + 10 * g + 0) = -5) (s0 : S 3 (10 * g) = -1) (e1 : S 3 (10 * g + 1) = σ (192 + 10 * g + 1)) (e3 : σ (192 + 10 * g + 3) = nI 0) (K : ∀ x10 x12 x13, m_wp X 300 432 [some (.ref 0), some (.ref 313), some (.ref 314), some (.ref 316), some (.ref 317), some (.ref 318), some (.ref 319), some (.ref 320), some (.int (nI g)), some (.int (nI (10 * g))), x10, some (.int (nI 0)), x12, x13] [] h Q) : m_wp X 300 228 [some (.ref 0), some (.ref 313), some (.ref 314), some (.ref 316), some (.ref 317), some (.ref 318), some (.ref 319), some (.ref 320), some (.int (nI g)), l9, l10, l11, l12, l13] [] h Q := by
  obtain ⟨fs0, h00⟩ := hI.at0
  have w : ∀ p, 2 ≤ p → p ≤ 8 → S 3 (10 * g + p) = σ (192 + 10 * g + p) := (hQ.2.2.2.2.2.2.1 g hg).1
  refine wp_iload d300_228 rfl ?_
  refine wp_iconst d300_230 (v := nI 2) (by decide) ?_
  refine wp_icmp_ge d300_231 (tgt := 495) (by decide) (fun hq9 => absurd hq9 (fun z => absurd ((nI_leI (by omega) (by omega)).mp z) (by omega))) (fun _ => ?_)
  refine wp_bipush d300_234 (v := nI 10) (by decide) ?_
  refine wp_iload d300_236 rfl ?_
  refine wp_imulv d300_238 (v := nI (10 * g)) (nI_mul _ _) ?_
  refine wp_istore d300_239 (Nat.le_of_ble_eq_true rfl) rfl ?_
  refine wp_aload_n d300_241 rfl ?_
  refine wp_iload d300_242 rfl ?_
  refine wp_iald d300_244 (la_3 hL) (nI_in (by omega) (by decide)) (v := (-1 : Int32)) ((congrArg (S 3) (nI_nat (by omega))).trans s0) ?_
  refine wp_if_ge d300_245 (tgt := 252) (by decide) (fun hq9 => absurd hq9 (by decide)) (fun _ => ?_)
  refine wp_iconst d300_248 (v := nI 1) (by decide) ?_
  refine wp_goto d300_249 (tgt := 253) (by decide) ?_
  refine wp_istore d300_253 (Nat.le_of_ble_eq_true rfl) rfl ?_
  refine wp_aload_n d300_255 rfl ?_
  refine wp_iload d300_256 rfl ?_
  refine wp_iconst d300_258 (v := nI 0) (by decide) ?_
  refine wp_invvT (e := 41) (j2 := 178) (n := 2) d300_259 (by decide +kernel) (by decide +kernel) rfl rfl rfl h00 (by decide +kernel) (Nat.le_of_ble_eq_true rfl) rfl rfl (Nat.le_of_ble_eq_true rfl) (by decide +kernel) (tells_to e0 (cl_guard0 hI (g := g) (by omega))) ?_
  refine wp_iload d300_262 rfl ?_
  refine wp_if_eq d300_264 (tgt := 272) (by decide) (fun hz => absurd hz (by decide)) (fun _ => ?_)
  refine wp_bipush d300_267 (v := (-5 : Int32)) (by decide) ?_
  refine wp_goto d300_269 (tgt := 276) (by decide) ?_
  refine wp_icmp_ne d300_276 (tgt := 356) (by decide) (fun hq9 => absurd rfl hq9) (fun _ => ?_)
  refine wp_aload_n d300_279 rfl ?_
  refine wp_iload d300_280 rfl ?_
  refine wp_iconst d300_282 (v := nI 1) (by decide) ?_
  refine wp_invvT (e := 41) (j2 := 178) (n := 2) d300_283 (by decide +kernel) (by decide +kernel) rfl rfl rfl h00 (by decide +kernel) (Nat.le_of_ble_eq_true rfl) rfl rfl (Nat.le_of_ble_eq_true rfl) (by decide +kernel) (cl_guard1 hI (g := g) (by omega)) ?_
  refine wp_iload d300_286 rfl ?_
  refine wp_if_eq d300_288 (tgt := 300) (by decide) (fun hz => absurd hz (by decide)) (fun _ => ?_)
  refine wp_aload_n d300_291 rfl ?_
  refine wp_iload d300_292 rfl ?_
  refine wp_iconst d300_294 (v := nI 1) (by decide) ?_
  refine wp_iaddv d300_295 (v := nI (10 * g + 1)) (nI_add _ _) ?_
  refine wp_iald d300_296 (la_3 hL) (nI_in (by omega) (by decide)) (v := σ (192 + 10 * g + 1)) ((congrArg (S 3) (nI_nat (by omega))).trans e1) ?_
  refine wp_goto d300_297 (tgt := 302) (by decide) ?_
  refine wp_icmp_ne d300_302 (tgt := 356) (by decide) (fun hq9 => absurd rfl hq9) (fun _ => ?_)
  refine wp_aload_n d300_305 rfl ?_
  refine wp_iload d300_306 rfl ?_
  refine wp_iconst d300_308 (v := nI 2) (by decide) ?_
  refine wp_invvT (e := 41) (j2 := 178) (n := 2) d300_309 (by decide +kernel) (by decide +kernel) rfl rfl rfl h00 (by decide +kernel) (Nat.le_of_ble_eq_true rfl) rfl rfl (Nat.le_of_ble_eq_true rfl) (by decide +kernel) (tells_to (if_pos (by rw [e0]; decide)) (cl_guard2 hI (g := g) (by omega))) ?_
  refine wp_iload d300_312 rfl ?_
  refine wp_if_eq d300_314 (tgt := 326) (by decide) (fun hz => absurd hz (by decide)) (fun _ => ?_)
  refine wp_aload_n d300_317 rfl ?_
  refine wp_iload d300_318 rfl ?_
  refine wp_iconst d300_320 (v := nI 2) (by decide) ?_
  refine wp_iaddv d300_321 (v := nI (10 * g + 2)) (nI_add _ _) ?_
  refine wp_iald d300_322 (la_3 hL) (nI_in (by omega) (by decide)) (v := σ (192 + 10 * g + 2)) ((congrArg (S 3) (nI_nat (by omega))).trans (w 2 (by omega) (by omega))) ?_
  refine wp_goto d300_323 (tgt := 328) (by decide) ?_
  refine wp_icmp_ne d300_328 (tgt := 356) (by decide) (fun hq9 => absurd rfl hq9) (fun _ => ?_)
  refine wp_aload_n d300_331 rfl ?_
  refine wp_iload d300_332 rfl ?_
  refine wp_iconst d300_334 (v := nI 3) (by decide) ?_
  refine wp_invvT (e := 41) (j2 := 178) (n := 2) d300_335 (by decide +kernel) (by decide +kernel) rfl rfl rfl h00 (by decide +kernel) (Nat.le_of_ble_eq_true rfl) rfl rfl (Nat.le_of_ble_eq_true rfl) (by decide +kernel) (tells_to e3 (cl_guard3 hI (g := g) (by omega))) ?_
  refine wp_iload d300_338 rfl ?_
  refine wp_if_eq d300_340 (tgt := 347) (by decide) (fun hz => absurd hz (by decide)) (fun _ => ?_)
  refine wp_iconst d300_343 (v := nI 0) (by decide) ?_
  refine wp_goto d300_344 (tgt := 353) (by decide) ?_
  refine wp_icmp_eq d300_353 (tgt := 358) (by decide) (fun _ => ?_) (fun hz => absurd hz (by decide))
  refine wp_aload_n d300_358 rfl ?_
  refine wp_iload d300_359 rfl ?_
  refine wp_iconst d300_361 (v := nI 4) (by decide) ?_
  refine wp_invvT (e := 41) (j2 := 178) (n := 2) d300_362 (by decide +kernel) (by decide +kernel) rfl rfl rfl h00 (by decide +kernel) (Nat.le_of_ble_eq_true rfl) rfl rfl (Nat.le_of_ble_eq_true rfl) (by decide +kernel) (cl_guard4 hI (g := g) (by omega)) ?_
  refine wp_aload_n d300_365 rfl ?_
  refine wp_iload d300_366 rfl ?_
  refine wp_iconst d300_368 (v := nI 5) (by decide) ?_
  refine wp_iaddv d300_369 (v := nI (10 * g + 5)) (nI_add _ _) ?_
  refine wp_iald d300_370 (la_3 hL) (nI_in (by omega) (by decide)) (v := σ (192 + 10 * g + 5)) ((congrArg (S 3) (nI_nat (by omega))).trans (w 5 (by omega) (by omega))) ?_
  refine wp_icmp_ne d300_371 (tgt := 427) (by decide) (fun hq9 => absurd rfl hq9) (fun _ => ?_)
  refine wp_aload_n d300_374 rfl ?_
  refine wp_iload d300_375 rfl ?_
  refine wp_iconst d300_377 (v := nI 5) (by decide) ?_
  refine wp_invvT (e := 41) (j2 := 178) (n := 2) d300_378 (by decide +kernel) (by decide +kernel) rfl rfl rfl h00 (by decide +kernel) (Nat.le_of_ble_eq_true rfl) rfl rfl (Nat.le_of_ble_eq_true rfl) (by decide +kernel) (cl_guard5 hI (g := g) (by omega)) ?_
  refine wp_aload_n d300_381 rfl ?_
  refine wp_iload d300_382 rfl ?_
  refine wp_bipush d300_384 (v := nI 6) (by decide) ?_
  refine wp_iaddv d300_386 (v := nI (10 * g + 6)) (nI_add _ _) ?_
  refine wp_iald d300_387 (la_3 hL) (nI_in (by omega) (by decide)) (v := σ (192 + 10 * g + 6)) ((congrArg (S 3) (nI_nat (by omega))).trans (w 6 (by omega) (by omega))) ?_
  refine wp_icmp_ne d300_388 (tgt := 427) (by decide) (fun hq9 => absurd rfl hq9) (fun _ => ?_)
  refine wp_aload_n d300_391 rfl ?_
  refine wp_iload d300_392 rfl ?_
  refine wp_bipush d300_394 (v := nI 6) (by decide) ?_
  refine wp_invvT (e := 41) (j2 := 178) (n := 2) d300_396 (by decide +kernel) (by decide +kernel) rfl rfl rfl h00 (by decide +kernel) (Nat.le_of_ble_eq_true rfl) rfl rfl (Nat.le_of_ble_eq_true rfl) (by decide +kernel) (cl_guard6 hI (g := g) (by omega)) ?_
  refine wp_aload_n d300_399 rfl ?_
  refine wp_iload d300_400 rfl ?_
  refine wp_bipush d300_402 (v := nI 7) (by decide) ?_
  refine wp_iaddv d300_404 (v := nI (10 * g + 7)) (nI_add _ _) ?_
  refine wp_iald d300_405 (la_3 hL) (nI_in (by omega) (by decide)) (v := σ (192 + 10 * g + 7)) ((congrArg (S 3) (nI_nat (by omega))).trans (w 7 (by omega) (by omega))) ?_
  refine wp_icmp_ne d300_406 (tgt := 427) (by decide) (fun hq9 => absurd rfl hq9) (fun _ => ?_)
  refine wp_aload_n d300_409 rfl ?_
  refine wp_iload d300_410 rfl ?_
  refine wp_bipush d300_412 (v := nI 7) (by decide) ?_
  refine wp_invvT (e := 41) (j2 := 178) (n := 2) d300_414 (by decide +kernel) (by decide +kernel) rfl rfl rfl h00 (by decide +kernel) (Nat.le_of_ble_eq_true rfl) rfl rfl (Nat.le_of_ble_eq_true rfl) (by decide +kernel) (cl_guard7 hI (g := g) (by omega)) ?_
  refine wp_aload_n d300_417 rfl ?_
  refine wp_iload d300_418 rfl ?_
  refine wp_bipush d300_420 (v := nI 8) (by decide) ?_
  refine wp_iaddv d300_422 (v := nI (10 * g + 8)) (nI_add _ _) ?_
  refine wp_iald d300_423 (la_3 hL) (nI_in (by omega) (by decide)) (v := σ (192 + 10 * g + 8)) ((congrArg (S 3) (nI_nat (by omega))).trans (w 8 (by omega) (by omega))) ?_
  refine wp_icmp_eq d300_424 (tgt := 429) (by decide) (fun _ => ?_) (fun hq9 => absurd rfl hq9)
  refine wp_iconst d300_429 (v := nI 0) (by decide) ?_
  refine wp_istore d300_430 (Nat.le_of_ble_eq_true rfl) rfl ?_
  exact K _ _ _
theorem sm_or {X : mX} {h : mH} {σ : Nat → Int32} {S : Nat → Nat → Int32} {mi na : Nat} {Q : Option Value → mH → Prop} (hI : Iv h σ mi 4 4 2 2 (min na 40)) (hL : La h S) (hQ : Qs S σ mi na mi (4 * mi) mi) {l10 l12 l13 : Option Value} {g m : Nat} (hg : g < 2) (hm : σ (192 + 10 * g + 5) = nI m) (m8 : m ≤ 8) (s5 : S 3 (10 * g + 5) = nI m) (hO : ∀ k, k < m → S 4 (8 * g + k) = nI 100 * σ (232 + 24 * g + 2 * k) + σ (232 + 24 * g + 2 * k + 1)) (K : ∀ x9 x10 x11 x12 x13, m_wp X 300 228 [some (.ref 0), some (.ref 313), some (.ref 314), some (.ref 316), some (.ref 317), some (.ref 318), some (.ref 319), some (.ref 320), some (.int (nI (g + 1))), x9, x10, x11, x12, x13] [] h Q) : ∀ (d k : Nat), m + 1 - k = d → k ≤ m + 1 → m_wp X 300 432 [some (.ref 0), some (.ref 313), some (.ref 314), some (.ref 316), some (.ref 317), some (.ref 318), some (.ref 319), some (.ref 320), some (.int (nI g)), some (.int (nI (10 * g))), l10, some (.int (nI k)), l12, l13] [] h Q := by
  obtain ⟨fs0, h00⟩ := hI.at0
  intro d
  induction d using Nat.strongRecOn with
  | ind d ih =>
    intro k hd hk
    subst hd
    rcases (show k < m ∨ k = m ∨ k = m + 1 by omega) with z | z | z
    · refine wp_iload d300_432 rfl ?_
      refine wp_aload_n d300_434 rfl ?_
      refine wp_iload d300_435 rfl ?_
      refine wp_iconst d300_437 (v := nI 5) (by decide) ?_
      refine wp_iaddv d300_438 (v := nI (10 * g + 5)) (nI_add _ _) ?_
      refine wp_iald d300_439 (la_3 hL) (nI_in (by omega) (by decide)) (v := nI m) ((congrArg (S 3) (nI_nat (by omega))).trans s5) ?_
      refine wp_icmp_gt d300_440 (tgt := 489) (by decide) (fun hq9 => absurd hq9 (fun z => absurd ((nI_ltI (by omega) (by omega)).mp z) (by omega))) (fun _ => ?_)
      refine wp_aload_n d300_443 rfl ?_
      refine wp_iload d300_444 rfl ?_
      refine wp_iload d300_446 rfl ?_
      refine wp_invvT (e := 44) (j2 := 181) (n := 2) d300_448 (by decide +kernel) (by decide +kernel) rfl rfl rfl h00 (by decide +kernel) (Nat.le_of_ble_eq_true rfl) rfl rfl (Nat.le_of_ble_eq_true rfl) (by decide +kernel) (tells_to (if_pos (by omega)) (cl_orderAt hI (g := g) (k := k) (by omega) hm (by omega) (by omega))) ?_
      refine wp_iload d300_451 rfl ?_
      refine wp_aload_n d300_453 rfl ?_
      refine wp_iload d300_454 rfl ?_
      refine wp_iconst d300_456 (v := nI 5) (by decide) ?_
      refine wp_iaddv d300_457 (v := nI (10 * g + 5)) (nI_add _ _) ?_
      refine wp_iald d300_458 (la_3 hL) (nI_in (by omega) (by decide)) (v := nI m) ((congrArg (S 3) (nI_nat (by omega))).trans s5) ?_
      refine wp_icmp_ge d300_459 (tgt := 476) (by decide) (fun hq9 => absurd hq9 (fun z => absurd ((nI_leI (by omega) (by omega)).mp z) (by omega))) (fun _ => ?_)
      refine wp_aload d300_462 rfl ?_
      refine wp_bipush d300_464 (v := nI 8) (by decide) ?_
      refine wp_iload d300_466 rfl ?_
      refine wp_imulv d300_468 (v := nI (8 * g)) (nI_mul _ _) ?_
      refine wp_iload d300_469 rfl ?_
      refine wp_iaddv d300_471 (v := nI (8 * g + k)) (nI_add _ _) ?_
      refine wp_iald d300_472 (la_4 hL) (nI_in (by omega) (by decide)) (v := (nI 100 * σ (232 + 24 * g + 2 * k) + σ (232 + 24 * g + 2 * k + 1))) ((congrArg (S 4) (nI_nat (by omega))).trans (hO k (by omega))) ?_
      refine wp_goto d300_473 (tgt := 478) (by decide) ?_
      refine wp_icmp_eq d300_478 (tgt := 483) (by decide) (fun _ => ?_) (fun hq9 => absurd rfl hq9)
      refine wp_iinc d300_483 rfl (v := nI (k + 1)) (nI_add _ 1) (Nat.le_of_ble_eq_true rfl) rfl ?_
      refine wp_goto d300_486 (tgt := 432) (by decide) ?_
      exact ih (m + 1 - (k + 1)) (by omega) (k + 1) rfl (by omega)
    · refine wp_iload d300_432 rfl ?_
      refine wp_aload_n d300_434 rfl ?_
      refine wp_iload d300_435 rfl ?_
      refine wp_iconst d300_437 (v := nI 5) (by decide) ?_
      refine wp_iaddv d300_438 (v := nI (10 * g + 5)) (nI_add _ _) ?_
      refine wp_iald d300_439 (la_3 hL) (nI_in (by omega) (by decide)) (v := nI m) ((congrArg (S 3) (nI_nat (by omega))).trans s5) ?_
      refine wp_icmp_gt d300_440 (tgt := 489) (by decide) (fun hq9 => absurd hq9 (fun z => absurd ((nI_ltI (by omega) (by omega)).mp z) (by omega))) (fun _ => ?_)
      refine wp_aload_n d300_443 rfl ?_
      refine wp_iload d300_444 rfl ?_
      refine wp_iload d300_446 rfl ?_
      refine wp_invvT (e := 44) (j2 := 181) (n := 2) d300_448 (by decide +kernel) (by decide +kernel) rfl rfl rfl h00 (by decide +kernel) (Nat.le_of_ble_eq_true rfl) rfl rfl (Nat.le_of_ble_eq_true rfl) (by decide +kernel) (tells_to (if_neg (by omega)) (cl_orderAt hI (g := g) (k := k) (by omega) hm (by omega) (by omega))) ?_
      refine wp_iload d300_451 rfl ?_
      refine wp_aload_n d300_453 rfl ?_
      refine wp_iload d300_454 rfl ?_
      refine wp_iconst d300_456 (v := nI 5) (by decide) ?_
      refine wp_iaddv d300_457 (v := nI (10 * g + 5)) (nI_add _ _) ?_
      refine wp_iald d300_458 (la_3 hL) (nI_in (by omega) (by decide)) (v := nI m) ((congrArg (S 3) (nI_nat (by omega))).trans s5) ?_
      refine wp_icmp_ge d300_459 (tgt := 476) (by decide) (fun _ => ?_) (fun hq9 => absurd (nI_le (by omega) (by omega)) hq9)
      refine wp_bipush d300_476 (v := (-5 : Int32)) (by decide) ?_
      refine wp_icmp_eq d300_478 (tgt := 483) (by decide) (fun _ => ?_) (fun hq9 => absurd rfl hq9)
      refine wp_iinc d300_483 rfl (v := nI (k + 1)) (nI_add _ 1) (Nat.le_of_ble_eq_true rfl) rfl ?_
      refine wp_goto d300_486 (tgt := 432) (by decide) ?_
      exact ih (m + 1 - (k + 1)) (by omega) (k + 1) rfl (by omega)
    · refine wp_iload d300_432 rfl ?_
      refine wp_aload_n d300_434 rfl ?_
      refine wp_iload d300_435 rfl ?_
      refine wp_iconst d300_437 (v := nI 5) (by decide) ?_
      refine wp_iaddv d300_438 (v := nI (10 * g + 5)) (nI_add _ _) ?_
      refine wp_iald d300_439 (la_3 hL) (nI_in (by omega) (by decide)) (v := nI m) ((congrArg (S 3) (nI_nat (by omega))).trans s5) ?_
      refine wp_icmp_gt d300_440 (tgt := 489) (by decide) (fun _ => ?_) (fun hq9 => absurd (nI_lt (by omega) (by omega)) hq9)
      refine wp_iinc d300_489 rfl (v := nI (g + 1)) (nI_add _ 1) (Nat.le_of_ble_eq_true rfl) rfl ?_
      refine wp_goto d300_492 (tgt := 228) (by decide) ?_
      exact K _ _ _ _ _
theorem sm_g {X : mX} {h : mH} {σ : Nat → Int32} {S : Nat → Nat → Int32} {mi na : Nat} {Q : Option Value → mH → Prop} (hI : Iv h σ mi 4 4 2 2 (min na 40)) (hL : La h S) (hQ : Qs S σ mi na mi (4 * mi) mi) {l9 l10 l11 l12 l13 : Option Value} {g : Nat} (hg : g < 2) (K : ∀ x9 x10 x11 x12 x13, m_wp X 300 228 [some (.ref 0), some (.ref 313), some (.ref 314), some (.ref 316), some (.ref 317), some (.ref 318), some (.ref 319), some (.ref 320), some (.int (nI (g + 1))), x9, x10, x11, x12, x13] [] h Q) : m_wp X 300 228 [some (.ref 0), some (.ref 313), some (.ref 314), some (.ref 316), some (.ref 317), some (.ref 318), some (.ref 319), some (.ref 320), some (.int (nI g)), l9, l10, l11, l12, l13] [] h Q := by
  obtain ⟨m, m8, hm, hO⟩ := hQ.2.2.2.2.2.2.2.2.1 g hg
  have hG := hQ.2.2.2.2.2.2.1 g hg
  have s5 := (hG.1 5 (by omega) (by omega)).trans hm
  have K2 : ∀ l10 l12 l13, m_wp X 300 432 [some (.ref 0), some (.ref 313), some (.ref 314), some (.ref 316), some (.ref 317), some (.ref 318), some (.ref 319), some (.ref 320), some (.int (nI g)), some (.int (nI (10 * g))), l10, some (.int (nI 0)), l12, l13] [] h Q := fun l10 l12 l13 => sm_or hI hL hQ hg hm m8 s5 hO K (m + 1) 0 rfl (Nat.zero_le _)
  obtain ⟨V, p, q, u, v, n, hk, -, -, -, -, hC⟩ := id hI
  obtain ⟨-, -, -, p4⟩ := hC.2.2.2.2.2.2.1 g hg
  rcases hG.2 with ⟨z1, z2, z3⟩ | ⟨r, z1, z2, z3⟩
  · rcases p4 with ⟨r, s, a1, a2, a3, -⟩ | ⟨t, l, s, -, -, -, -, -, -, -, -, -, -, e3, -⟩
    · exact absurd (a3.symm.trans z1) (nI_ne5 (by omega))
    · exact sm_gw hI hL hQ (t := t) hg z1 z2 z3 e3 K2
  · rcases p4 with ⟨r', s, a1, a2, a3, a4, a5, -⟩ | ⟨t, l, s, -, -, -, -, e0, -⟩
    · exact sm_gs hI hL hQ hg z1 z2 z3 a5 K2
    · exact absurd (z2.symm.trans e0) (nI_ne5 (by omega))
theorem sm_w {X : mX} {h : mH} {σ : Nat → Int32} {S : Nat → Nat → Int32} {mi na : Nat} {Q : Option Value → mH → Prop} (hI : Iv h σ mi 4 4 2 2 (min na 40)) (hL : La h S) (hQ : Qs S σ mi na mi (4 * mi) mi) {l9 l10 l11 l12 l13 : Option Value} {w : Nat} (hw : w < 2) (K : m_wp X 300 498 [some (.ref 0), some (.ref 313), some (.ref 314), some (.ref 316), some (.ref 317), some (.ref 318), some (.ref 319), some (.ref 320), some (.int (nI (w + 1))), l9, l10, l11, l12, l13] [] h Q) : m_wp X 300 498 [some (.ref 0), some (.ref 313), some (.ref 314), some (.ref 316), some (.ref 317), some (.ref 318), some (.ref 319), some (.ref 320), some (.int (nI w)), l9, l10, l11, l12, l13] [] h Q := by
  obtain ⟨fs0, h00⟩ := hI.at0
  have v5 : ∀ q, q < 5 → S 5 (5 * w + q) = σ (328 + 5 * w + q) := fun q hq => (hQ.2.2.2.2.2.2.2.2.2.1.1 (5 * w + q) (by omega)).trans (congrArg σ (by omega))
  refine wp_iload d300_498 rfl ?_
  refine wp_iconst d300_500 (v := nI 2) (by decide) ?_
  refine wp_icmp_ge d300_501 (tgt := 569) (by decide) (fun hq9 => absurd hq9 (fun z => absurd ((nI_leI (by omega) (by omega)).mp z) (by omega))) (fun _ => ?_)
  refine wp_aload_n d300_504 rfl ?_
  refine wp_iload d300_505 rfl ?_
  refine wp_iconst d300_507 (v := nI 1) (by decide) ?_
  refine wp_invvT (e := 47) (j2 := 183) (n := 2) d300_508 (by decide +kernel) (by decide +kernel) rfl rfl rfl h00 (by decide +kernel) (Nat.le_of_ble_eq_true rfl) rfl rfl (Nat.le_of_ble_eq_true rfl) (by decide +kernel) (cl_work1 hI (w0 := w) (by omega)) ?_
  refine wp_aload d300_511 rfl ?_
  refine wp_iconst d300_513 (v := nI 5) (by decide) ?_
  refine wp_iload d300_514 rfl ?_
  refine wp_imulv d300_516 (v := nI (5 * w)) (nI_mul _ _) ?_
  refine wp_iconst d300_517 (v := nI 1) (by decide) ?_
  refine wp_iaddv d300_518 (v := nI (5 * w + 1)) (nI_add _ _) ?_
  refine wp_iald d300_519 (la_5 hL) (nI_in (by omega) (by decide)) (v := σ (328 + 5 * w + 1)) ((congrArg (S 5) (nI_nat (by omega))).trans (v5 1 (by omega))) ?_
  refine wp_icmp_ne d300_520 (tgt := 561) (by decide) (fun hq9 => absurd rfl hq9) (fun _ => ?_)
  refine wp_aload_n d300_523 rfl ?_
  refine wp_iload d300_524 rfl ?_
  refine wp_iconst d300_526 (v := nI 3) (by decide) ?_
  refine wp_invvT (e := 47) (j2 := 183) (n := 2) d300_527 (by decide +kernel) (by decide +kernel) rfl rfl rfl h00 (by decide +kernel) (Nat.le_of_ble_eq_true rfl) rfl rfl (Nat.le_of_ble_eq_true rfl) (by decide +kernel) (cl_work3 hI (w0 := w) (by omega)) ?_
  refine wp_aload d300_530 rfl ?_
  refine wp_iconst d300_532 (v := nI 5) (by decide) ?_
  refine wp_iload d300_533 rfl ?_
  refine wp_imulv d300_535 (v := nI (5 * w)) (nI_mul _ _) ?_
  refine wp_iconst d300_536 (v := nI 3) (by decide) ?_
  refine wp_iaddv d300_537 (v := nI (5 * w + 3)) (nI_add _ _) ?_
  refine wp_iald d300_538 (la_5 hL) (nI_in (by omega) (by decide)) (v := σ (328 + 5 * w + 3)) ((congrArg (S 5) (nI_nat (by omega))).trans (v5 3 (by omega))) ?_
  refine wp_icmp_ne d300_539 (tgt := 561) (by decide) (fun hq9 => absurd rfl hq9) (fun _ => ?_)
  refine wp_aload_n d300_542 rfl ?_
  refine wp_iload d300_543 rfl ?_
  refine wp_iconst d300_545 (v := nI 4) (by decide) ?_
  refine wp_invvT (e := 47) (j2 := 183) (n := 2) d300_546 (by decide +kernel) (by decide +kernel) rfl rfl rfl h00 (by decide +kernel) (Nat.le_of_ble_eq_true rfl) rfl rfl (Nat.le_of_ble_eq_true rfl) (by decide +kernel) (cl_work4 hI (w0 := w) (by omega)) ?_
  refine wp_aload d300_549 rfl ?_
  refine wp_iconst d300_551 (v := nI 5) (by decide) ?_
  refine wp_iload d300_552 rfl ?_
  refine wp_imulv d300_554 (v := nI (5 * w)) (nI_mul _ _) ?_
  refine wp_iconst d300_555 (v := nI 4) (by decide) ?_
  refine wp_iaddv d300_556 (v := nI (5 * w + 4)) (nI_add _ _) ?_
  refine wp_iald d300_557 (la_5 hL) (nI_in (by omega) (by decide)) (v := σ (328 + 5 * w + 4)) ((congrArg (S 5) (nI_nat (by omega))).trans (v5 4 (by omega))) ?_
  refine wp_icmp_eq d300_558 (tgt := 563) (by decide) (fun _ => ?_) (fun hq9 => absurd rfl hq9)
  refine wp_iinc d300_563 rfl (v := nI (w + 1)) (nI_add _ 1) (Nat.le_of_ble_eq_true rfl) rfl ?_
  refine wp_goto d300_566 (tgt := 498) (by decide) ?_
  exact K
theorem sm_lost {X : mX} {h : mH} {σ : Nat → Int32} {S : Nat → Nat → Int32} {mi na : Nat} {Q : Option Value → mH → Prop} (hI : Iv h σ mi 4 4 2 2 (min na 40)) (hL : La h S) (hQ : Qs S σ mi na mi (4 * mi) mi) {l8 l9 l10 l11 l12 l13 : Option Value} (hna9 : na < 1000) (K : ∀ x10 x11 x12 x13, m_wp X 300 592 [some (.ref 0), some (.ref 313), some (.ref 314), some (.ref 316), some (.ref 317), some (.ref 318), some (.ref 319), some (.ref 320), some (.int (nI ((na - 40)))), some (.int (nI 0)), x10, x11, x12, x13] [] h Q) : m_wp X 300 569 [some (.ref 0), some (.ref 313), some (.ref 314), some (.ref 316), some (.ref 317), some (.ref 318), some (.ref 319), some (.ref 320), l8, l9, l10, l11, l12, l13] [] h Q := by
  obtain ⟨fs0, h00⟩ := hI.at0
  have hna := hQ.1.2.1
  refine wp_aload_n d300_569 rfl ?_
  refine wp_iconst d300_570 (v := nI 1) (by decide) ?_
  refine wp_iald d300_571 (la_0 hL) (nI_in (by omega) (by decide)) (v := nI na) ((congrArg (S 0) (nI_nat (by omega))).trans hna) ?_
  refine wp_bipush d300_572 (v := nI 40) (by decide) ?_
  refine wp_icmp_le d300_574 (tgt := 586) (by decide) (fun hc574 => ?_) (fun hc574 => ?_)
  · have hc574 : na ≤ 40 := (nI_leI (by omega) (by omega)).mp hc574
    refine wp_iconst d300_586 (v := nI 0) (by decide) ?_
    refine wp_istore d300_587 (Nat.le_of_ble_eq_true rfl) rfl ?_
    refine wp_iconst d300_589 (v := nI 0) (by decide) ?_
    refine wp_istore d300_590 (Nat.le_of_ble_eq_true rfl) rfl ?_
    have e : na - 40 = 0 := by omega
    rw [e] at K
    exact K _ _ _ _
  · have hc574 : ¬ (na ≤ 40) := fun z => hc574 ((nI_leI (by omega) (by omega)).mpr z)
    refine wp_aload_n d300_577 rfl ?_
    refine wp_iconst d300_578 (v := nI 1) (by decide) ?_
    refine wp_iald d300_579 (la_0 hL) (nI_in (by omega) (by decide)) (v := nI na) ((congrArg (S 0) (nI_nat (by omega))).trans hna) ?_
    refine wp_bipush d300_580 (v := nI 40) (by decide) ?_
    refine wp_isubv d300_582 (v := nI (na - 40)) (nI_sub (by omega) (by omega)) ?_
    refine wp_goto d300_583 (tgt := 587) (by decide) ?_
    refine wp_istore d300_587 (Nat.le_of_ble_eq_true rfl) rfl ?_
    refine wp_iconst d300_589 (v := nI 0) (by decide) ?_
    refine wp_istore d300_590 (Nat.le_of_ble_eq_true rfl) rfl ?_
    exact K _ _ _ _
theorem sm_al {X : mX} {h : mH} {σ : Nat → Int32} {S : Nat → Nat → Int32} {mi na : Nat} {Q : Option Value → mH → Prop} (hI : Iv h σ mi 4 4 2 2 (min na 40)) (hL : La h S) (hQ : Qs S σ mi na mi (4 * mi) mi) {l10 l11 l12 l13 : Option Value} (hna9 : na < 1000) (K : ∀ x9, m_wp X 300 650 [some (.ref 0), some (.ref 313), some (.ref 314), some (.ref 316), some (.ref 317), some (.ref 318), some (.ref 319), some (.ref 320), some (.int (nI ((na - 40)))), x9, l10, l11, l12, l13] [] h Q) : ∀ (d a : Nat), min na 40 - a = d → a ≤ min na 40 → m_wp X 300 592 [some (.ref 0), some (.ref 313), some (.ref 314), some (.ref 316), some (.ref 317), some (.ref 318), some (.ref 319), some (.ref 320), some (.int (nI ((na - 40)))), some (.int (nI a)), l10, l11, l12, l13] [] h Q := by
  obtain ⟨fs0, h00⟩ := hI.at0
  have hna := hQ.1.2.1
  have hA := hQ.2.2.2.2.2.2.2.2.2.2.1
  intro d
  induction d using Nat.strongRecOn with
  | ind d ih =>
    intro a hd hk
    subst hd
    by_cases hlt : a < min na 40
    · refine wp_iload d300_592 rfl ?_
      refine wp_aload_n d300_594 rfl ?_
      refine wp_iconst d300_595 (v := nI 1) (by decide) ?_
      refine wp_iald d300_596 (la_0 hL) (nI_in (by omega) (by decide)) (v := nI na) ((congrArg (S 0) (nI_nat (by omega))).trans hna) ?_
      refine wp_iload d300_597 rfl ?_
      refine wp_isubv d300_599 (v := nI (min na 40)) ((nI_sub (by omega) (by omega)).trans (congrArg nI (by omega))) ?_
      refine wp_icmp_ge d300_600 (tgt := 650) (by decide) (fun hq9 => absurd hq9 (fun z => absurd ((nI_leI (by omega) (by omega)).mp z) (by omega))) (fun _ => ?_)
      refine wp_sipush d300_603 (v := nI 10000) (by decide) ?_
      refine wp_aload_n d300_606 rfl ?_
      refine wp_iload d300_607 rfl ?_
      refine wp_iconst d300_609 (v := nI 0) (by decide) ?_
      refine wp_invvT (e := 50) (j2 := 185) (n := 2) d300_610 (by decide +kernel) (by decide +kernel) rfl rfl rfl h00 (by decide +kernel) (Nat.le_of_ble_eq_true rfl) rfl rfl (Nat.le_of_ble_eq_true rfl) (by decide +kernel) (cl_alarm0 hI (a := a) (by omega)) ?_
      refine wp_imul d300_613 ?_
      refine wp_sipush d300_614 (v := nI 1000) (by decide) ?_
      refine wp_aload_n d300_617 rfl ?_
      refine wp_iload d300_618 rfl ?_
      refine wp_iconst d300_620 (v := nI 1) (by decide) ?_
      refine wp_invvT (e := 50) (j2 := 185) (n := 2) d300_621 (by decide +kernel) (by decide +kernel) rfl rfl rfl h00 (by decide +kernel) (Nat.le_of_ble_eq_true rfl) rfl rfl (Nat.le_of_ble_eq_true rfl) (by decide +kernel) (cl_alarm1 hI (a := a) (by omega)) ?_
      refine wp_imul d300_624 ?_
      refine wp_iadd d300_625 ?_
      refine wp_aload_n d300_626 rfl ?_
      refine wp_iload d300_627 rfl ?_
      refine wp_iconst d300_629 (v := nI 2) (by decide) ?_
      refine wp_invvT (e := 50) (j2 := 185) (n := 2) d300_630 (by decide +kernel) (by decide +kernel) rfl rfl rfl h00 (by decide +kernel) (Nat.le_of_ble_eq_true rfl) rfl rfl (Nat.le_of_ble_eq_true rfl) (by decide +kernel) (cl_alarm2 hI (a := a) (by omega)) ?_
      refine wp_iadd d300_633 ?_
      refine wp_aload d300_634 rfl ?_
      refine wp_iload d300_636 rfl ?_
      refine wp_iald d300_638 (la_6 hL) (nI_in (by omega) (by decide)) (v := ((((nI 10000) * (σ (378 + 5 * a + 0))) + ((nI 1000) * (σ (378 + 5 * a + 1)))) + (σ (378 + 5 * a + 2)))) ((congrArg (S 6) (nI_nat (by omega))).trans (hA a (by omega))) ?_
      refine wp_icmp_eq d300_639 (tgt := 644) (by decide) (fun _ => ?_) (fun hq9 => absurd rfl hq9)
      refine wp_iinc d300_644 rfl (v := nI (a + 1)) (nI_add _ 1) (Nat.le_of_ble_eq_true rfl) rfl ?_
      refine wp_goto d300_647 (tgt := 592) (by decide) ?_
      exact ih (min na 40 - (a + 1)) (by omega) (a + 1) rfl (by omega)
    · refine wp_iload d300_592 rfl ?_
      refine wp_aload_n d300_594 rfl ?_
      refine wp_iconst d300_595 (v := nI 1) (by decide) ?_
      refine wp_iald d300_596 (la_0 hL) (nI_in (by omega) (by decide)) (v := nI na) ((congrArg (S 0) (nI_nat (by omega))).trans hna) ?_
      refine wp_iload d300_597 rfl ?_
      refine wp_isubv d300_599 (v := nI (min na 40)) ((nI_sub (by omega) (by omega)).trans (congrArg nI (by omega))) ?_
      refine wp_icmp_ge d300_600 (tgt := 650) (by decide) (fun _ => ?_) (fun hq9 => absurd (nI_le (by omega) (by omega)) hq9)
      exact K _
theorem sm_end {X : mX} {h : mH} {σ : Nat → Int32} {S : Nat → Nat → Int32} {mi na : Nat} {Q : Option Value → mH → Prop} (hI : Iv h σ mi 4 4 2 2 (min na 40)) (hL : La h S) (hQ : Qs S σ mi na mi (4 * mi) mi) {l9 l10 l11 l12 l13 : Option Value} (hna9 : na < 1000) (K : Q (some (.int (nI 1))) h) : m_wp X 300 650 [some (.ref 0), some (.ref 313), some (.ref 314), some (.ref 316), some (.ref 317), some (.ref 318), some (.ref 319), some (.ref 320), some (.int (nI ((na - 40)))), l9, l10, l11, l12, l13] [] h Q := by
  obtain ⟨fs0, h00⟩ := hI.at0
  have hm := hQ.1.1
  have hna := hQ.1.2.1
  have hs := hQ.1.2.2.1
  refine wp_aload_n d300_650 rfl ?_
  refine wp_iconst d300_651 (v := nI 0) (by decide) ?_
  refine wp_invvT (e := 52) (j2 := 200) (n := 1) d300_652 (by decide +kernel) (by decide +kernel) rfl rfl rfl h00 (by decide +kernel) (Nat.le_of_ble_eq_true rfl) rfl rfl (Nat.le_of_ble_eq_true rfl) (by decide +kernel) (cl_count0 hI) ?_
  refine wp_aload_n d300_655 rfl ?_
  refine wp_iconst d300_656 (v := nI 0) (by decide) ?_
  refine wp_iald d300_657 (la_0 hL) (nI_in (by omega) (by decide)) (v := nI mi) ((congrArg (S 0) (nI_nat (by omega))).trans hm) ?_
  refine wp_icmp_ne d300_658 (tgt := 703) (by decide) (fun hq9 => absurd rfl hq9) (fun _ => ?_)
  refine wp_aload_n d300_661 rfl ?_
  refine wp_bipush d300_662 (v := nI 7) (by decide) ?_
  refine wp_invvT (e := 52) (j2 := 200) (n := 1) d300_664 (by decide +kernel) (by decide +kernel) rfl rfl rfl h00 (by decide +kernel) (Nat.le_of_ble_eq_true rfl) rfl rfl (Nat.le_of_ble_eq_true rfl) (by decide +kernel) (cl_count7 hI) ?_
  refine wp_aload_n d300_667 rfl ?_
  refine wp_iconst d300_668 (v := nI 1) (by decide) ?_
  refine wp_iald d300_669 (la_0 hL) (nI_in (by omega) (by decide)) (v := nI na) ((congrArg (S 0) (nI_nat (by omega))).trans hna) ?_
  refine wp_iload d300_670 rfl ?_
  refine wp_isubv d300_672 (v := nI (min na 40)) ((nI_sub (by omega) (by omega)).trans (congrArg nI (by omega))) ?_
  refine wp_icmp_ne d300_673 (tgt := 703) (by decide) (fun hq9 => absurd rfl hq9) (fun _ => ?_)
  refine wp_aload_n d300_676 rfl ?_
  refine wp_bipush d300_677 (v := nI 9) (by decide) ?_
  refine wp_invvT (e := 52) (j2 := 200) (n := 1) d300_679 (by decide +kernel) (by decide +kernel) rfl rfl rfl h00 (by decide +kernel) (Nat.le_of_ble_eq_true rfl) rfl rfl (Nat.le_of_ble_eq_true rfl) (by decide +kernel) (tells_to hQ.1.2.2.2.1 (cl_count9 hI)) ?_
  refine wp_iload d300_682 rfl ?_
  refine wp_icmp_ne d300_684 (tgt := 703) (by decide) (fun hq9 => absurd rfl hq9) (fun _ => ?_)
  refine wp_aload_n d300_687 rfl ?_
  refine wp_bipush d300_688 (v := nI 12) (by decide) ?_
  refine wp_invvT (e := 52) (j2 := 200) (n := 1) d300_690 (by decide +kernel) (by decide +kernel) rfl rfl rfl h00 (by decide +kernel) (Nat.le_of_ble_eq_true rfl) rfl rfl (Nat.le_of_ble_eq_true rfl) (by decide +kernel) (cl_count12 hI) ?_
  refine wp_aload_n d300_693 rfl ?_
  refine wp_iconst d300_694 (v := nI 2) (by decide) ?_
  refine wp_iald d300_695 (la_0 hL) (nI_in (by omega) (by decide)) (v := nI ((F_sy σ (4 * mi)))) ((congrArg (S 0) (nI_nat (by omega))).trans hs) ?_
  refine wp_icmp_ne d300_696 (tgt := 703) (by decide) (fun hq9 => absurd rfl hq9) (fun _ => ?_)
  refine wp_iconst d300_699 (v := nI 1) (by decide) ?_
  refine wp_goto d300_700 (tgt := 704) (by decide) ?_
  refine wp_zret d300_704 (by decide +kernel) (by decide) ?_
  exact K
theorem k_same {X : mX} {h : mH} {σ : Nat → Int32} {S : Nat → Nat → Int32} {mi na : Nat} (hI : Iv h σ mi 4 4 2 2 (min na 40)) (hL : La h S) (hQ : Qs S σ mi na mi (4 * mi) mi) (hmi : mi ≤ 60) (hna9 : na < 1000) : Tells X 300 [.ref 0, .ref 313, .ref 314, .ref 316, .ref 317, .ref 318, .ref 319, .ref 320] h (nI 1) := by
  refine wp_iconst d300_0 (v := nI 0) (by decide) ?_
  refine wp_istore d300_1 (Nat.le_of_ble_eq_true rfl) rfl ?_
  refine sm_rs hI hL hQ hmi (fun x9 x10 x11 x12 x13 => ?_)
  refine wp_iload d300_3 rfl ?_
  refine wp_iconst d300_5 (v := nI 4) (by decide) ?_
  refine wp_icmp_ge d300_6 (tgt := 225) (by decide) (fun _ => ?_) (fun hz => absurd hz (by decide))
  refine wp_iconst d300_225 (v := nI 0) (by decide) ?_
  refine wp_istore d300_226 (Nat.le_of_ble_eq_true rfl) rfl ?_
  refine sm_g hI hL hQ (g := 0) (by omega) (fun x9 x10 x11 x12 x13 => ?_)
  refine sm_g hI hL hQ (g := 1) (by omega) (fun x9 x10 x11 x12 x13 => ?_)
  refine wp_iload d300_228 rfl ?_
  refine wp_iconst d300_230 (v := nI 2) (by decide) ?_
  refine wp_icmp_ge d300_231 (tgt := 495) (by decide) (fun _ => ?_) (fun hz => absurd hz (by decide))
  refine wp_iconst d300_495 (v := nI 0) (by decide) ?_
  refine wp_istore d300_496 (Nat.le_of_ble_eq_true rfl) rfl ?_
  refine sm_w hI hL hQ (w := 0) (by omega) ?_
  refine sm_w hI hL hQ (w := 1) (by omega) ?_
  refine wp_iload d300_498 rfl ?_
  refine wp_iconst d300_500 (v := nI 2) (by decide) ?_
  refine wp_icmp_ge d300_501 (tgt := 569) (by decide) (fun _ => ?_) (fun hz => absurd hz (by decide))
  refine sm_lost hI hL hQ hna9 (fun x10 x11 x12 x13 => ?_)
  exact sm_al hI hL hQ hna9 (fun x9 => sm_end hI hL hQ hna9 ⟨rfl, rfl⟩) (min na 40) 0 rfl (Nat.zero_le _)
theorem k_bits_l {X : mX} {h : mH} (x : Int32) : ∀ (d k : Nat), 8 - k = d → k ≤ 8 → m_wp X 301 4 [some (.int (x)), some (.int ((F_bits x k))), some (.int (nI k))] [] h (fun w h1 => w = some (.int (F_bits x 8)) ∧ h1 = h) := by
  intro d
  induction d using Nat.strongRecOn with
  | ind d ih =>
    intro k hd hk
    subst hd
    by_cases hlt : k < 8
    · refine wp_iload_n d301_4 rfl ?_
      refine wp_bipush d301_5 (v := nI 8) (by decide) ?_
      refine wp_icmp_ge d301_7 (tgt := 24) (by decide) (fun hq9 => absurd hq9 (fun z => absurd ((nI_leI (by omega) (by omega)).mp z) (by omega))) (fun _ => ?_)
      refine wp_iload_n d301_10 rfl ?_
      refine wp_iload_n d301_11 rfl ?_
      refine wp_iload_n d301_12 rfl ?_
      refine wp_ishr d301_13 ?_
      refine wp_iconst d301_14 (v := nI 1) (by decide) ?_
      refine wp_iand d301_15 ?_
      refine wp_iadd d301_16 ?_
      refine wp_istore_n d301_17 (Nat.le_of_ble_eq_true rfl) rfl ?_
      refine wp_iinc d301_18 rfl (v := nI (k + 1)) (nI_add _ 1) (Nat.le_of_ble_eq_true rfl) rfl ?_
      refine wp_goto d301_21 (tgt := 4) (by decide) ?_
      exact ih (8 - (k + 1)) (by omega) (k + 1) rfl (by omega)
    · have e : k = 8 := by omega
      refine wp_iload_n d301_4 rfl ?_
      refine wp_bipush d301_5 (v := nI 8) (by decide) ?_
      refine wp_icmp_ge d301_7 (tgt := 24) (by decide) (fun _ => ?_) (fun hq9 => absurd (nI_le (by omega) (by omega)) hq9)
      refine wp_iload_n d301_24 rfl ?_
      refine wp_iret d301_25 (by decide +kernel) ?_
      exact ⟨by rw [e], rfl⟩
theorem k_bits {X : mX} {h : mH} (x : Int32) : Tells X 301 [.int x] h (F_bits x 8) := by
  refine wp_iconst d301_0 (v := nI 0) (by decide) ?_
  refine wp_istore_n d301_1 (Nat.le_of_ble_eq_true rfl) rfl ?_
  refine wp_iconst d301_2 (v := nI 0) (by decide) ?_
  refine wp_istore_n d301_3 (Nat.le_of_ble_eq_true rfl) rfl ?_
  exact k_bits_l x 8 0 rfl (Nat.zero_le _)
