/-! The law builds its house. -/
theorem d0_0 : decode (m_code 0) 0 = .ok (.new 32, 3) := by decide +kernel
theorem d0_3 : decode (m_code 0) 3 = .ok (.dup, 1) := by decide +kernel
theorem d0_4 : decode (m_code 0) 4 = .ok (.invokespecial 56, 3) := by decide +kernel
theorem d0_7 : decode (m_code 0) 7 = .ok (.astore_n 1, 1) := by decide +kernel
theorem d0_8 : decode (m_code 0) 8 = .ok (.iconst 4, 1) := by decide +kernel
theorem d0_9 : decode (m_code 0) 9 = .ok (.newarray .int, 2) := by decide +kernel
theorem d0_11 : decode (m_code 0) 11 = .ok (.astore_n 2, 1) := by decide +kernel
theorem d0_12 : decode (m_code 0) 12 = .ok (.bipush 24, 2) := by decide +kernel
theorem d0_14 : decode (m_code 0) 14 = .ok (.newarray .int, 2) := by decide +kernel
theorem d0_16 : decode (m_code 0) 16 = .ok (.astore_n 3, 1) := by decide +kernel
theorem d0_17 : decode (m_code 0) 17 = .ok (.bipush 16, 2) := by decide +kernel
theorem d0_19 : decode (m_code 0) 19 = .ok (.newarray .int, 2) := by decide +kernel
theorem d0_21 : decode (m_code 0) 21 = .ok (.astore 4, 2) := by decide +kernel
theorem d0_23 : decode (m_code 0) 23 = .ok (.bipush 20, 2) := by decide +kernel
theorem d0_25 : decode (m_code 0) 25 = .ok (.newarray .int, 2) := by decide +kernel
theorem d0_27 : decode (m_code 0) 27 = .ok (.astore 5, 2) := by decide +kernel
theorem d0_29 : decode (m_code 0) 29 = .ok (.bipush 16, 2) := by decide +kernel
theorem d0_31 : decode (m_code 0) 31 = .ok (.newarray .int, 2) := by decide +kernel
theorem d0_33 : decode (m_code 0) 33 = .ok (.astore 6, 2) := by decide +kernel
theorem d0_35 : decode (m_code 0) 35 = .ok (.bipush 10, 2) := by decide +kernel
theorem d0_37 : decode (m_code 0) 37 = .ok (.newarray .int, 2) := by decide +kernel
theorem d0_39 : decode (m_code 0) 39 = .ok (.astore 7, 2) := by decide +kernel
theorem d0_41 : decode (m_code 0) 41 = .ok (.bipush 64, 2) := by decide +kernel
theorem d0_43 : decode (m_code 0) 43 = .ok (.newarray .int, 2) := by decide +kernel
theorem d0_45 : decode (m_code 0) 45 = .ok (.astore 8, 2) := by decide +kernel
theorem d0_47 : decode (m_code 0) 47 = .ok (.bipush 64, 2) := by decide +kernel
theorem d0_49 : decode (m_code 0) 49 = .ok (.newarray .int, 2) := by decide +kernel
theorem d0_51 : decode (m_code 0) 51 = .ok (.astore 9, 2) := by decide +kernel
theorem d0_53 : decode (m_code 0) 53 = .ok (.aload_n 3, 1) := by decide +kernel
theorem d0_54 : decode (m_code 0) 54 = .ok (.iconst 0, 1) := by decide +kernel
theorem d0_55 : decode (m_code 0) 55 = .ok (.iconst (-1), 1) := by decide +kernel
theorem d0_56 : decode (m_code 0) 56 = .ok (.iastore, 1) := by decide +kernel
theorem d0_57 : decode (m_code 0) 57 = .ok (.iconst 1, 1) := by decide +kernel
theorem d0_58 : decode (m_code 0) 58 = .ok (.istore 10, 2) := by decide +kernel
theorem d0_60 : decode (m_code 0) 60 = .ok (.iload 10, 2) := by decide +kernel
theorem d0_62 : decode (m_code 0) 62 = .ok (.iconst 4, 1) := by decide +kernel
theorem d0_63 : decode (m_code 0) 63 = .ok (.if_icmp .ge 75, 3) := by decide +kernel
theorem d0_66 : decode (m_code 0) 66 = .ok (.aload_n 0, 1) := by decide +kernel
theorem d0_67 : decode (m_code 0) 67 = .ok (.iload 10, 2) := by decide +kernel
theorem d0_69 : decode (m_code 0) 69 = .ok (.invokestatic 57, 3) := by decide +kernel
theorem d0_72 : decode (m_code 0) 72 = .ok (.istore 11, 2) := by decide +kernel
theorem d0_74 : decode (m_code 0) 74 = .ok (.aload_n 3, 1) := by decide +kernel
theorem d0_75 : decode (m_code 0) 75 = .ok (.bipush 6, 2) := by decide +kernel
theorem d0_77 : decode (m_code 0) 77 = .ok (.iload 10, 2) := by decide +kernel
theorem d0_79 : decode (m_code 0) 79 = .ok (.imul, 1) := by decide +kernel
theorem d0_80 : decode (m_code 0) 80 = .ok (.iload 11, 2) := by decide +kernel
theorem d0_82 : decode (m_code 0) 82 = .ok (.iconst 2, 1) := by decide +kernel
theorem d0_83 : decode (m_code 0) 83 = .ok (.invokestatic 61, 3) := by decide +kernel
theorem d0_86 : decode (m_code 0) 86 = .ok (.iastore, 1) := by decide +kernel
theorem d0_87 : decode (m_code 0) 87 = .ok (.aload_n 3, 1) := by decide +kernel
theorem d0_88 : decode (m_code 0) 88 = .ok (.bipush 6, 2) := by decide +kernel
theorem d0_90 : decode (m_code 0) 90 = .ok (.iload 10, 2) := by decide +kernel
theorem d0_92 : decode (m_code 0) 92 = .ok (.imul, 1) := by decide +kernel
theorem d0_93 : decode (m_code 0) 93 = .ok (.iconst 1, 1) := by decide +kernel
theorem d0_94 : decode (m_code 0) 94 = .ok (.iadd, 1) := by decide +kernel
theorem d0_95 : decode (m_code 0) 95 = .ok (.iload 11, 2) := by decide +kernel
theorem d0_97 : decode (m_code 0) 97 = .ok (.iconst 2, 1) := by decide +kernel
theorem d0_98 : decode (m_code 0) 98 = .ok (.ishr, 1) := by decide +kernel
theorem d0_99 : decode (m_code 0) 99 = .ok (.bipush 9, 2) := by decide +kernel
theorem d0_101 : decode (m_code 0) 101 = .ok (.invokestatic 61, 3) := by decide +kernel
theorem d0_104 : decode (m_code 0) 104 = .ok (.iastore, 1) := by decide +kernel
theorem d0_105 : decode (m_code 0) 105 = .ok (.aload_n 1, 1) := by decide +kernel
theorem d0_106 : decode (m_code 0) 106 = .ok (.aload_n 3, 1) := by decide +kernel
theorem d0_107 : decode (m_code 0) 107 = .ok (.bipush 6, 2) := by decide +kernel
theorem d0_109 : decode (m_code 0) 109 = .ok (.iload 10, 2) := by decide +kernel
theorem d0_111 : decode (m_code 0) 111 = .ok (.imul, 1) := by decide +kernel
theorem d0_112 : decode (m_code 0) 112 = .ok (.iaload, 1) := by decide +kernel
theorem d0_113 : decode (m_code 0) 113 = .ok (.aload_n 3, 1) := by decide +kernel
theorem d0_114 : decode (m_code 0) 114 = .ok (.bipush 6, 2) := by decide +kernel
theorem d0_116 : decode (m_code 0) 116 = .ok (.iload 10, 2) := by decide +kernel
theorem d0_118 : decode (m_code 0) 118 = .ok (.imul, 1) := by decide +kernel
theorem d0_119 : decode (m_code 0) 119 = .ok (.iconst 1, 1) := by decide +kernel
theorem d0_120 : decode (m_code 0) 120 = .ok (.iadd, 1) := by decide +kernel
theorem d0_121 : decode (m_code 0) 121 = .ok (.iaload, 1) := by decide +kernel
theorem d0_122 : decode (m_code 0) 122 = .ok (.invokevirtual 64, 3) := by decide +kernel
theorem d0_125 : decode (m_code 0) 125 = .ok (.iload 10, 2) := by decide +kernel
theorem d0_127 : decode (m_code 0) 127 = .ok (.if_icmp .eq 5, 3) := by decide +kernel
theorem d0_132 : decode (m_code 0) 132 = .ok (.iinc 10 1, 3) := by decide +kernel
theorem d0_135 : decode (m_code 0) 135 = .ok (.goto (-75), 3) := by decide +kernel
theorem d0_138 : decode (m_code 0) 138 = .ok (.iconst 0, 1) := by decide +kernel
theorem d0_139 : decode (m_code 0) 139 = .ok (.istore 10, 2) := by decide +kernel
theorem d0_141 : decode (m_code 0) 141 = .ok (.iload 10, 2) := by decide +kernel
theorem d0_143 : decode (m_code 0) 143 = .ok (.iconst 4, 1) := by decide +kernel
theorem d0_144 : decode (m_code 0) 144 = .ok (.if_icmp .ge 116, 3) := by decide +kernel
theorem d0_147 : decode (m_code 0) 147 = .ok (.aload_n 0, 1) := by decide +kernel
theorem d0_148 : decode (m_code 0) 148 = .ok (.iconst 4, 1) := by decide +kernel
theorem d0_149 : decode (m_code 0) 149 = .ok (.iload 10, 2) := by decide +kernel
theorem d0_151 : decode (m_code 0) 151 = .ok (.iadd, 1) := by decide +kernel
theorem d0_152 : decode (m_code 0) 152 = .ok (.invokestatic 57, 3) := by decide +kernel
theorem d0_155 : decode (m_code 0) 155 = .ok (.istore 11, 2) := by decide +kernel
theorem d0_157 : decode (m_code 0) 157 = .ok (.aload 4, 2) := by decide +kernel
theorem d0_159 : decode (m_code 0) 159 = .ok (.iconst 4, 1) := by decide +kernel
theorem d0_160 : decode (m_code 0) 160 = .ok (.iload 10, 2) := by decide +kernel
theorem d0_162 : decode (m_code 0) 162 = .ok (.imul, 1) := by decide +kernel
theorem d0_163 : decode (m_code 0) 163 = .ok (.iload 10, 2) := by decide +kernel
theorem d0_165 : decode (m_code 0) 165 = .ok (.iastore, 1) := by decide +kernel
theorem d0_166 : decode (m_code 0) 166 = .ok (.aload 4, 2) := by decide +kernel
theorem d0_168 : decode (m_code 0) 168 = .ok (.iconst 4, 1) := by decide +kernel
theorem d0_169 : decode (m_code 0) 169 = .ok (.iload 10, 2) := by decide +kernel
theorem d0_171 : decode (m_code 0) 171 = .ok (.imul, 1) := by decide +kernel
theorem d0_172 : decode (m_code 0) 172 = .ok (.iconst 1, 1) := by decide +kernel
theorem d0_173 : decode (m_code 0) 173 = .ok (.iadd, 1) := by decide +kernel
theorem d0_174 : decode (m_code 0) 174 = .ok (.iload 10, 2) := by decide +kernel
theorem d0_176 : decode (m_code 0) 176 = .ok (.iconst 1, 1) := by decide +kernel
theorem d0_177 : decode (m_code 0) 177 = .ok (.iadd, 1) := by decide +kernel
theorem d0_178 : decode (m_code 0) 178 = .ok (.iconst 4, 1) := by decide +kernel
theorem d0_179 : decode (m_code 0) 179 = .ok (.irem, 1) := by decide +kernel
theorem d0_180 : decode (m_code 0) 180 = .ok (.iastore, 1) := by decide +kernel
theorem d0_181 : decode (m_code 0) 181 = .ok (.aload 4, 2) := by decide +kernel
theorem d0_183 : decode (m_code 0) 183 = .ok (.iconst 4, 1) := by decide +kernel
theorem d0_184 : decode (m_code 0) 184 = .ok (.iload 10, 2) := by decide +kernel
theorem d0_186 : decode (m_code 0) 186 = .ok (.imul, 1) := by decide +kernel
theorem d0_187 : decode (m_code 0) 187 = .ok (.iconst 2, 1) := by decide +kernel
theorem d0_188 : decode (m_code 0) 188 = .ok (.iadd, 1) := by decide +kernel
theorem d0_189 : decode (m_code 0) 189 = .ok (.iconst 1, 1) := by decide +kernel
theorem d0_190 : decode (m_code 0) 190 = .ok (.iload 11, 2) := by decide +kernel
theorem d0_192 : decode (m_code 0) 192 = .ok (.iconst 3, 1) := by decide +kernel
theorem d0_193 : decode (m_code 0) 193 = .ok (.invokestatic 61, 3) := by decide +kernel
theorem d0_196 : decode (m_code 0) 196 = .ok (.iadd, 1) := by decide +kernel
theorem d0_197 : decode (m_code 0) 197 = .ok (.iastore, 1) := by decide +kernel
theorem d0_198 : decode (m_code 0) 198 = .ok (.aload 4, 2) := by decide +kernel
theorem d0_200 : decode (m_code 0) 200 = .ok (.iconst 4, 1) := by decide +kernel
theorem d0_201 : decode (m_code 0) 201 = .ok (.iload 10, 2) := by decide +kernel
theorem d0_203 : decode (m_code 0) 203 = .ok (.imul, 1) := by decide +kernel
theorem d0_204 : decode (m_code 0) 204 = .ok (.iconst 3, 1) := by decide +kernel
theorem d0_205 : decode (m_code 0) 205 = .ok (.iadd, 1) := by decide +kernel
theorem d0_206 : decode (m_code 0) 206 = .ok (.iload 11, 2) := by decide +kernel
theorem d0_208 : decode (m_code 0) 208 = .ok (.iconst 2, 1) := by decide +kernel
theorem d0_209 : decode (m_code 0) 209 = .ok (.ishr, 1) := by decide +kernel
theorem d0_210 : decode (m_code 0) 210 = .ok (.iconst 3, 1) := by decide +kernel
theorem d0_211 : decode (m_code 0) 211 = .ok (.invokestatic 61, 3) := by decide +kernel
theorem d0_214 : decode (m_code 0) 214 = .ok (.iconst 1, 1) := by decide +kernel
theorem d0_215 : decode (m_code 0) 215 = .ok (.isub, 1) := by decide +kernel
theorem d0_216 : decode (m_code 0) 216 = .ok (.iastore, 1) := by decide +kernel
theorem d0_217 : decode (m_code 0) 217 = .ok (.aload_n 1, 1) := by decide +kernel
theorem d0_218 : decode (m_code 0) 218 = .ok (.iload 10, 2) := by decide +kernel
theorem d0_220 : decode (m_code 0) 220 = .ok (.iload 10, 2) := by decide +kernel
theorem d0_222 : decode (m_code 0) 222 = .ok (.iconst 1, 1) := by decide +kernel
theorem d0_223 : decode (m_code 0) 223 = .ok (.iadd, 1) := by decide +kernel
theorem d0_224 : decode (m_code 0) 224 = .ok (.iconst 4, 1) := by decide +kernel
theorem d0_225 : decode (m_code 0) 225 = .ok (.irem, 1) := by decide +kernel
theorem d0_226 : decode (m_code 0) 226 = .ok (.aload 4, 2) := by decide +kernel
theorem d0_228 : decode (m_code 0) 228 = .ok (.iconst 4, 1) := by decide +kernel
theorem d0_229 : decode (m_code 0) 229 = .ok (.iload 10, 2) := by decide +kernel
theorem d0_231 : decode (m_code 0) 231 = .ok (.imul, 1) := by decide +kernel
theorem d0_232 : decode (m_code 0) 232 = .ok (.iconst 2, 1) := by decide +kernel
theorem d0_233 : decode (m_code 0) 233 = .ok (.iadd, 1) := by decide +kernel
theorem d0_234 : decode (m_code 0) 234 = .ok (.iaload, 1) := by decide +kernel
theorem d0_235 : decode (m_code 0) 235 = .ok (.aload 4, 2) := by decide +kernel
theorem d0_237 : decode (m_code 0) 237 = .ok (.iconst 4, 1) := by decide +kernel
theorem d0_238 : decode (m_code 0) 238 = .ok (.iload 10, 2) := by decide +kernel
theorem d0_240 : decode (m_code 0) 240 = .ok (.imul, 1) := by decide +kernel
theorem d0_241 : decode (m_code 0) 241 = .ok (.iconst 3, 1) := by decide +kernel
theorem d0_242 : decode (m_code 0) 242 = .ok (.iadd, 1) := by decide +kernel
theorem d0_243 : decode (m_code 0) 243 = .ok (.iaload, 1) := by decide +kernel
theorem d0_244 : decode (m_code 0) 244 = .ok (.invokevirtual 67, 3) := by decide +kernel
theorem d0_247 : decode (m_code 0) 247 = .ok (.iload 10, 2) := by decide +kernel
theorem d0_249 : decode (m_code 0) 249 = .ok (.if_icmp .eq 5, 3) := by decide +kernel
theorem d0_254 : decode (m_code 0) 254 = .ok (.iinc 10 1, 3) := by decide +kernel
theorem d0_257 : decode (m_code 0) 257 = .ok (.goto (-116), 3) := by decide +kernel
theorem d0_260 : decode (m_code 0) 260 = .ok (.iconst 0, 1) := by decide +kernel
theorem d0_261 : decode (m_code 0) 261 = .ok (.istore 10, 2) := by decide +kernel
theorem d0_263 : decode (m_code 0) 263 = .ok (.iload 10, 2) := by decide +kernel
theorem d0_265 : decode (m_code 0) 265 = .ok (.iconst 2, 1) := by decide +kernel
theorem d0_266 : decode (m_code 0) 266 = .ok (.if_icmp .ge 106, 3) := by decide +kernel
theorem d0_269 : decode (m_code 0) 269 = .ok (.aload_n 0, 1) := by decide +kernel
theorem d0_270 : decode (m_code 0) 270 = .ok (.bipush 8, 2) := by decide +kernel
theorem d0_272 : decode (m_code 0) 272 = .ok (.iload 10, 2) := by decide +kernel
theorem d0_274 : decode (m_code 0) 274 = .ok (.iadd, 1) := by decide +kernel
theorem d0_275 : decode (m_code 0) 275 = .ok (.invokestatic 57, 3) := by decide +kernel
theorem d0_278 : decode (m_code 0) 278 = .ok (.istore 11, 2) := by decide +kernel
theorem d0_280 : decode (m_code 0) 280 = .ok (.aload 7, 2) := by decide +kernel
theorem d0_282 : decode (m_code 0) 282 = .ok (.iconst 5, 1) := by decide +kernel
theorem d0_283 : decode (m_code 0) 283 = .ok (.iload 10, 2) := by decide +kernel
theorem d0_285 : decode (m_code 0) 285 = .ok (.imul, 1) := by decide +kernel
theorem d0_286 : decode (m_code 0) 286 = .ok (.iload 11, 2) := by decide +kernel
theorem d0_288 : decode (m_code 0) 288 = .ok (.iconst 3, 1) := by decide +kernel
theorem d0_289 : decode (m_code 0) 289 = .ok (.invokestatic 61, 3) := by decide +kernel
theorem d0_292 : decode (m_code 0) 292 = .ok (.iastore, 1) := by decide +kernel
theorem d0_293 : decode (m_code 0) 293 = .ok (.aload 7, 2) := by decide +kernel
theorem d0_295 : decode (m_code 0) 295 = .ok (.iconst 5, 1) := by decide +kernel
theorem d0_296 : decode (m_code 0) 296 = .ok (.iload 10, 2) := by decide +kernel
theorem d0_298 : decode (m_code 0) 298 = .ok (.imul, 1) := by decide +kernel
theorem d0_299 : decode (m_code 0) 299 = .ok (.iconst 1, 1) := by decide +kernel
theorem d0_300 : decode (m_code 0) 300 = .ok (.iadd, 1) := by decide +kernel
theorem d0_301 : decode (m_code 0) 301 = .ok (.iconst 1, 1) := by decide +kernel
theorem d0_302 : decode (m_code 0) 302 = .ok (.iload 11, 2) := by decide +kernel
theorem d0_304 : decode (m_code 0) 304 = .ok (.iconst 2, 1) := by decide +kernel
theorem d0_305 : decode (m_code 0) 305 = .ok (.ishr, 1) := by decide +kernel
theorem d0_306 : decode (m_code 0) 306 = .ok (.iconst 3, 1) := by decide +kernel
theorem d0_307 : decode (m_code 0) 307 = .ok (.invokestatic 61, 3) := by decide +kernel
theorem d0_310 : decode (m_code 0) 310 = .ok (.iadd, 1) := by decide +kernel
theorem d0_311 : decode (m_code 0) 311 = .ok (.iastore, 1) := by decide +kernel
theorem d0_312 : decode (m_code 0) 312 = .ok (.aload 7, 2) := by decide +kernel
theorem d0_314 : decode (m_code 0) 314 = .ok (.iconst 5, 1) := by decide +kernel
theorem d0_315 : decode (m_code 0) 315 = .ok (.iload 10, 2) := by decide +kernel
theorem d0_317 : decode (m_code 0) 317 = .ok (.imul, 1) := by decide +kernel
theorem d0_318 : decode (m_code 0) 318 = .ok (.iconst 2, 1) := by decide +kernel
theorem d0_319 : decode (m_code 0) 319 = .ok (.iadd, 1) := by decide +kernel
theorem d0_320 : decode (m_code 0) 320 = .ok (.iload 11, 2) := by decide +kernel
theorem d0_322 : decode (m_code 0) 322 = .ok (.iconst 4, 1) := by decide +kernel
theorem d0_323 : decode (m_code 0) 323 = .ok (.ishr, 1) := by decide +kernel
theorem d0_324 : decode (m_code 0) 324 = .ok (.bipush 6, 2) := by decide +kernel
theorem d0_326 : decode (m_code 0) 326 = .ok (.invokestatic 61, 3) := by decide +kernel
theorem d0_329 : decode (m_code 0) 329 = .ok (.iastore, 1) := by decide +kernel
theorem d0_330 : decode (m_code 0) 330 = .ok (.aload_n 1, 1) := by decide +kernel
theorem d0_331 : decode (m_code 0) 331 = .ok (.aload 7, 2) := by decide +kernel
theorem d0_333 : decode (m_code 0) 333 = .ok (.iconst 5, 1) := by decide +kernel
theorem d0_334 : decode (m_code 0) 334 = .ok (.iload 10, 2) := by decide +kernel
theorem d0_336 : decode (m_code 0) 336 = .ok (.imul, 1) := by decide +kernel
theorem d0_337 : decode (m_code 0) 337 = .ok (.iaload, 1) := by decide +kernel
theorem d0_338 : decode (m_code 0) 338 = .ok (.aload 7, 2) := by decide +kernel
theorem d0_340 : decode (m_code 0) 340 = .ok (.iconst 5, 1) := by decide +kernel
theorem d0_341 : decode (m_code 0) 341 = .ok (.iload 10, 2) := by decide +kernel
theorem d0_343 : decode (m_code 0) 343 = .ok (.imul, 1) := by decide +kernel
theorem d0_344 : decode (m_code 0) 344 = .ok (.iconst 1, 1) := by decide +kernel
theorem d0_345 : decode (m_code 0) 345 = .ok (.iadd, 1) := by decide +kernel
theorem d0_346 : decode (m_code 0) 346 = .ok (.iaload, 1) := by decide +kernel
theorem d0_347 : decode (m_code 0) 347 = .ok (.aload 7, 2) := by decide +kernel
theorem d0_349 : decode (m_code 0) 349 = .ok (.iconst 5, 1) := by decide +kernel
theorem d0_350 : decode (m_code 0) 350 = .ok (.iload 10, 2) := by decide +kernel
theorem d0_352 : decode (m_code 0) 352 = .ok (.imul, 1) := by decide +kernel
theorem d0_353 : decode (m_code 0) 353 = .ok (.iconst 2, 1) := by decide +kernel
theorem d0_354 : decode (m_code 0) 354 = .ok (.iadd, 1) := by decide +kernel
theorem d0_355 : decode (m_code 0) 355 = .ok (.iaload, 1) := by decide +kernel
theorem d0_356 : decode (m_code 0) 356 = .ok (.invokevirtual 71, 3) := by decide +kernel
theorem d0_359 : decode (m_code 0) 359 = .ok (.iload 10, 2) := by decide +kernel
theorem d0_361 : decode (m_code 0) 361 = .ok (.if_icmp .eq 5, 3) := by decide +kernel
theorem d0_366 : decode (m_code 0) 366 = .ok (.iinc 10 1, 3) := by decide +kernel
theorem d0_369 : decode (m_code 0) 369 = .ok (.goto (-106), 3) := by decide +kernel
theorem d0_372 : decode (m_code 0) 372 = .ok (.aload_n 1, 1) := by decide +kernel
theorem d0_373 : decode (m_code 0) 373 = .ok (.invokevirtual 74, 3) := by decide +kernel
theorem d0_376 : decode (m_code 0) 376 = .ok (.ifCond .ne 11, 3) := by decide +kernel
theorem d0_379 : decode (m_code 0) 379 = .ok (.aload_n 1, 1) := by decide +kernel
theorem d0_380 : decode (m_code 0) 380 = .ok (.invokevirtual 74, 3) := by decide +kernel
theorem d0_383 : decode (m_code 0) 383 = .ok (.iconst 1, 1) := by decide +kernel
theorem d0_384 : decode (m_code 0) 384 = .ok (.if_icmp .eq 5, 3) := by decide +kernel
theorem d0_389 : decode (m_code 0) 389 = .ok (.iconst 0, 1) := by decide +kernel
theorem d0_390 : decode (m_code 0) 390 = .ok (.istore 10, 2) := by decide +kernel
theorem Qp.ndb {S : Nat → Nat → Int32} {σ : Nat → Int32} {d : Nat} (h : Qp S σ 4 d 0 0) (hd : d < 4) : F_db σ (nI d) (nI ((d + 1) % 4)) d = -5 := by
  have c := h.2.2.1
  rcases (show d = 0 ∨ d = 1 ∨ d = 2 ∨ d = 3 by omega) with rfl | rfl | rfl | rfl
  · rfl
  · obtain ⟨-, -, -, -, a0, b0⟩ := c 0 (by omega)
    unfold F_db F_db
    rw [a0, b0]
    decide
  · obtain ⟨-, -, -, -, a0, b0⟩ := c 0 (by omega)
    obtain ⟨-, -, -, -, a1, b1⟩ := c 1 (by omega)
    unfold F_db F_db F_db
    rw [a0, b0, a1, b1]
    decide
  · obtain ⟨-, -, -, -, a0, b0⟩ := c 0 (by omega)
    obtain ⟨-, -, -, -, a1, b1⟩ := c 1 (by omega)
    obtain ⟨-, -, -, -, a2, b2⟩ := c 2 (by omega)
    unfold F_db F_db F_db F_db
    rw [a0, b0, a1, b1, a2, b2]
    decide
theorem key9 {k : Nat} (hk : k < 3) : (nI k - nI 1 = (-1 : Int32)) ∨ (nI 0 ≤ nI k - nI 1 ∧ nI k - nI 1 < nI 8) := by
  rcases (show k = 0 ∨ k = 1 ∨ k = 2 by omega) with rfl | rfl | rfl <;> decide
theorem lw_room {L : Nat} {xs : Nat → Int32} {Q : Option Value → mH → Prop} {h : mH} {σ : Nat → Int32} {S : Nat → Nat → Int32} (hL9 : L ≤ 260) {r : Nat} (hr1 : 1 ≤ r) (hr4 : r < 4) (hI : Iv h σ 0 r 0 0 0 0) (hL : La h S) (hQ : Qp S σ r 0 0 0) {l11 l12 l13 l14 l15 l16 l17 l18 l19 l20 l21 : Option Value} (K : ∀ h1 S1 σ1, Iv h1 σ1 0 (r + 1) 0 0 0 0 → La h1 S1 → Qp S1 σ1 (r + 1) 0 0 0 → ∀ x11 x12 x13 x14 x15 x16 x17 x18 x19 x20 x21, m_wp (L, xs) 0 60 [some (.float 0), some (.ref 0), some (.ref 313), some (.ref 314), some (.ref 315), some (.ref 316), some (.ref 317), some (.ref 318), some (.ref 319), some (.ref 320), some (.int (nI (r + 1))), x11, x12, x13, x14, x15, x16, x17, x18, x19, x20, x21] [] h1 Q) : m_wp (L, xs) 0 60 [some (.float 0), some (.ref 0), some (.ref 313), some (.ref 314), some (.ref 315), some (.ref 316), some (.ref 317), some (.ref 318), some (.ref 319), some (.ref 320), some (.int (nI r)), l11, l12, l13, l14, l15, l16, l17, l18, l19, l20, l21] [] h Q := by
  have hF : Frm h h 313 8 := Frm.rf
  obtain ⟨fs0, h00⟩ := hI.at0
  refine wp_iload d0_60 rfl ?_
  refine wp_iconst d0_62 (v := nI 4) (by decide) ?_
  refine wp_icmp_ge d0_63 (tgt := 138) (by decide) (fun hq9 => absurd hq9 (fun z => absurd ((nI_leI (by omega) (by omega)).mp z) (by omega))) (fun _ => ?_)
  refine wp_sload_n d0_66 rfl ?_
  refine wp_iload d0_67 rfl ?_
  refine wp_invsT (e := 57) (j2 := 292) (n := 2) d0_69 (by decide +kernel) (by decide +kernel) rfl rfl rfl (Nat.le_of_ble_eq_true rfl) (Nat.le_of_ble_eq_true rfl) rfl rfl (Nat.le_of_ble_eq_true rfl) (by decide +kernel) (k_cellD hL9 (k := r) (by omega)) ?_
  generalize cellV L xs (r) = x
  refine wp_istore d0_72 (Nat.le_of_ble_eq_true rfl) rfl ?_
  refine wp_aload_n d0_74 rfl ?_
  refine wp_bipush d0_75 (v := nI 6) (by decide) ?_
  refine wp_iload d0_77 rfl ?_
  refine wp_imulv d0_79 (v := nI (6 * r)) (nI_mul _ _) ?_
  refine wp_iload d0_80 rfl ?_
  refine wp_iconst d0_82 (v := nI 2) (by decide) ?_
  refine wp_invsT (e := 61) (j2 := 293) (n := 2) d0_83 (by decide +kernel) (by decide +kernel) rfl rfl rfl (Nat.le_of_ble_eq_true rfl) (Nat.le_of_ble_eq_true rfl) rfl rfl (Nat.le_of_ble_eq_true rfl) (by decide +kernel) (k_lowD (x) (n := 2) (by decide) (by decide)) ?_
  obtain ⟨z, hz, ez⟩ : ∃ y, y < 2 ∧ lowN (x) 2 = y := ⟨_, lowN_lt _ (by decide), rfl⟩
  rw [ez]
  refine wp_iast d0_86 (la_1 hL) (nI_in (by omega) (by decide)) ?_
  refine l_step (o := 1) (i := 6 * r) (v := nI z) hL hF (by decide) (by rw [nI_nat (by omega)]; rfl) (fun h hL hF => ?_)
  refine wp_aload_n d0_87 rfl ?_
  refine wp_bipush d0_88 (v := nI 6) (by decide) ?_
  refine wp_iload d0_90 rfl ?_
  refine wp_imulv d0_92 (v := nI (6 * r)) (nI_mul _ _) ?_
  refine wp_iconst d0_93 (v := nI 1) (by decide) ?_
  refine wp_iaddv d0_94 (v := nI (6 * r + 1)) (nI_add _ _) ?_
  refine wp_iload d0_95 rfl ?_
  refine wp_iconst d0_97 (v := nI 2) (by decide) ?_
  refine wp_ishr d0_98 ?_
  refine wp_bipush d0_99 (v := nI 9) (by decide) ?_
  refine wp_invsT (e := 61) (j2 := 293) (n := 2) d0_101 (by decide +kernel) (by decide +kernel) rfl rfl rfl (Nat.le_of_ble_eq_true rfl) (Nat.le_of_ble_eq_true rfl) rfl rfl (Nat.le_of_ble_eq_true rfl) (by decide +kernel) (k_lowD ((x >>> ((nI 2) &&& 31))) (n := 9) (by decide) (by decide)) ?_
  obtain ⟨y, hy, ey⟩ : ∃ y, y < 9 ∧ lowN ((x >>> ((nI 2) &&& 31))) 9 = y := ⟨_, lowN_lt _ (by decide), rfl⟩
  rw [ey]
  refine wp_iast d0_104 (la_1 hL) (nI_in (by omega) (by decide)) ?_
  refine l_step (o := 1) (i := 6 * r + 1) (v := nI y) hL hF (by decide) (by rw [nI_nat (by omega)]; rfl) (fun h hL hF => ?_)
  refine wp_aload_n d0_105 rfl ?_
  refine wp_aload_n d0_106 rfl ?_
  refine wp_bipush d0_107 (v := nI 6) (by decide) ?_
  refine wp_iload d0_109 rfl ?_
  refine wp_imulv d0_111 (v := nI (6 * r)) (nI_mul _ _) ?_
  refine wp_iald d0_112 (la_1 hL) (nI_in (by omega) (by decide)) (v := nI z) ((congrArg ((updM (updM S 1 (6 * r) (nI z)) 1 (6 * r + 1) (nI y)) 1) (nI_nat (by omega))).trans ((updM_diff (by omega)).trans updM_same)) ?_
  refine wp_aload_n d0_113 rfl ?_
  refine wp_bipush d0_114 (v := nI 6) (by decide) ?_
  refine wp_iload d0_116 rfl ?_
  refine wp_imulv d0_118 (v := nI (6 * r)) (nI_mul _ _) ?_
  refine wp_iconst d0_119 (v := nI 1) (by decide) ?_
  refine wp_iaddv d0_120 (v := nI (6 * r + 1)) (nI_add _ _) ?_
  refine wp_iald d0_121 (la_1 hL) (nI_in (by omega) (by decide)) (v := nI y) ((congrArg ((updM (updM S 1 (6 * r) (nI z)) 1 (6 * r + 1) (nI y)) 1) (nI_nat (by omega))).trans updM_same) ?_
  refine wp_invv (e := 64) (j2 := 14) (n := 2) d0_122 (by decide +kernel) (by decide +kernel) rfl rfl rfl ((hF.2.2 0 (Or.inl (by omega))).trans h00) (by decide +kernel) (Nat.le_of_ble_eq_true rfl) rfl rfl (Nat.le_of_ble_eq_true rfl) (by decide +kernel) (cl_addRoom (hI.ref hF) (z := z) (y := y) (by omega) (by omega) (by omega)) (fun v h hq => ?_)
  obtain ⟨rfl, hI, hO⟩ := hq
  show m_wp (L, xs) 0 _ _ [.int _] _ _
  have hL := hL.oth hO
  have hF : Frm h h 313 8 := Frm.rf
  obtain ⟨fs0, h00⟩ := hI.at0
  have hQ := hQ.room (z := z) (y := y) hr1 hr4
  refine wp_iload d0_125 rfl ?_
  refine wp_icmp_eq d0_127 (tgt := 132) (by decide) (fun _ => ?_) (fun hq9 => absurd rfl hq9)
  refine wp_iinc d0_132 rfl (v := nI (r + 1)) (nI_add _ 1) (Nat.le_of_ble_eq_true rfl) rfl ?_
  refine wp_goto d0_135 (tgt := 60) (by decide) ?_
  exact K _ _ _ hI hL hQ _ _ _ _ _ _ _ _ _ _ _
theorem lw_door {L : Nat} {xs : Nat → Int32} {Q : Option Value → mH → Prop} {h : mH} {σ : Nat → Int32} {S : Nat → Nat → Int32} (hL9 : L ≤ 260) {d : Nat} (hd4 : d < 4) (hI : Iv h σ 0 4 d 0 0 0) (hL : La h S) (hQ : Qp S σ 4 d 0 0) {l11 l12 l13 l14 l15 l16 l17 l18 l19 l20 l21 : Option Value} (K : ∀ h1 S1 σ1, Iv h1 σ1 0 4 (d + 1) 0 0 0 → La h1 S1 → Qp S1 σ1 4 (d + 1) 0 0 → ∀ x11 x12 x13 x14 x15 x16 x17 x18 x19 x20 x21, m_wp (L, xs) 0 141 [some (.float 0), some (.ref 0), some (.ref 313), some (.ref 314), some (.ref 315), some (.ref 316), some (.ref 317), some (.ref 318), some (.ref 319), some (.ref 320), some (.int (nI (d + 1))), x11, x12, x13, x14, x15, x16, x17, x18, x19, x20, x21] [] h1 Q) : m_wp (L, xs) 0 141 [some (.float 0), some (.ref 0), some (.ref 313), some (.ref 314), some (.ref 315), some (.ref 316), some (.ref 317), some (.ref 318), some (.ref 319), some (.ref 320), some (.int (nI d)), l11, l12, l13, l14, l15, l16, l17, l18, l19, l20, l21] [] h Q := by
  have hF : Frm h h 313 8 := Frm.rf
  obtain ⟨fs0, h00⟩ := hI.at0
  refine wp_iload d0_141 rfl ?_
  refine wp_iconst d0_143 (v := nI 4) (by decide) ?_
  refine wp_icmp_ge d0_144 (tgt := 260) (by decide) (fun hq9 => absurd hq9 (fun z => absurd ((nI_leI (by omega) (by omega)).mp z) (by omega))) (fun _ => ?_)
  refine wp_sload_n d0_147 rfl ?_
  refine wp_iconst d0_148 (v := nI 4) (by decide) ?_
  refine wp_iload d0_149 rfl ?_
  refine wp_iaddv d0_151 (v := nI (4 + d)) (nI_add _ _) ?_
  refine wp_invsT (e := 57) (j2 := 292) (n := 2) d0_152 (by decide +kernel) (by decide +kernel) rfl rfl rfl (Nat.le_of_ble_eq_true rfl) (Nat.le_of_ble_eq_true rfl) rfl rfl (Nat.le_of_ble_eq_true rfl) (by decide +kernel) (k_cellD hL9 (k := 4 + d) (by omega)) ?_
  generalize cellV L xs (4 + d) = x
  refine wp_istore d0_155 (Nat.le_of_ble_eq_true rfl) rfl ?_
  refine wp_aload d0_157 rfl ?_
  refine wp_iconst d0_159 (v := nI 4) (by decide) ?_
  refine wp_iload d0_160 rfl ?_
  refine wp_imulv d0_162 (v := nI (4 * d)) (nI_mul _ _) ?_
  refine wp_iload d0_163 rfl ?_
  refine wp_iast d0_165 (la_2 hL) (nI_in (by omega) (by decide)) ?_
  refine l_step (o := 2) (i := 4 * d) (v := nI d) hL hF (by decide) (by rw [nI_nat (by omega)]; rfl) (fun h hL hF => ?_)
  refine wp_aload d0_166 rfl ?_
  refine wp_iconst d0_168 (v := nI 4) (by decide) ?_
  refine wp_iload d0_169 rfl ?_
  refine wp_imulv d0_171 (v := nI (4 * d)) (nI_mul _ _) ?_
  refine wp_iconst d0_172 (v := nI 1) (by decide) ?_
  refine wp_iaddv d0_173 (v := nI (4 * d + 1)) (nI_add _ _) ?_
  refine wp_iload d0_174 rfl ?_
  refine wp_iconst d0_176 (v := nI 1) (by decide) ?_
  refine wp_iaddv d0_177 (v := nI (d + 1)) (nI_add _ _) ?_
  refine wp_iconst d0_178 (v := nI 4) (by decide) ?_
  refine wp_iremv d0_179 (v := nI ((d + 1) % 4)) (by decide) (nI_rem (by omega) (by omega)) ?_
  refine wp_iast d0_180 (la_2 hL) (nI_in (by omega) (by decide)) ?_
  refine l_step (o := 2) (i := 4 * d + 1) (v := nI ((d + 1) % 4)) hL hF (by decide) (by rw [nI_nat (by omega)]; rfl) (fun h hL hF => ?_)
  refine wp_aload d0_181 rfl ?_
  refine wp_iconst d0_183 (v := nI 4) (by decide) ?_
  refine wp_iload d0_184 rfl ?_
  refine wp_imulv d0_186 (v := nI (4 * d)) (nI_mul _ _) ?_
  refine wp_iconst d0_187 (v := nI 2) (by decide) ?_
  refine wp_iaddv d0_188 (v := nI (4 * d + 2)) (nI_add _ _) ?_
  refine wp_iconst d0_189 (v := nI 1) (by decide) ?_
  refine wp_iload d0_190 rfl ?_
  refine wp_iconst d0_192 (v := nI 3) (by decide) ?_
  refine wp_invsT (e := 61) (j2 := 293) (n := 2) d0_193 (by decide +kernel) (by decide +kernel) rfl rfl rfl (Nat.le_of_ble_eq_true rfl) (Nat.le_of_ble_eq_true rfl) rfl rfl (Nat.le_of_ble_eq_true rfl) (by decide +kernel) (k_lowD (x) (n := 3) (by decide) (by decide)) ?_
  obtain ⟨w, hw, ew⟩ : ∃ y, y < 3 ∧ lowN (x) 3 = y := ⟨_, lowN_lt _ (by decide), rfl⟩
  rw [ew]
  refine wp_iaddv d0_196 (v := nI (1 + w)) (nI_add _ _) ?_
  refine wp_iast d0_197 (la_2 hL) (nI_in (by omega) (by decide)) ?_
  refine l_step (o := 2) (i := 4 * d + 2) (v := nI (1 + w)) hL hF (by decide) (by rw [nI_nat (by omega)]; rfl) (fun h hL hF => ?_)
  refine wp_aload d0_198 rfl ?_
  refine wp_iconst d0_200 (v := nI 4) (by decide) ?_
  refine wp_iload d0_201 rfl ?_
  refine wp_imulv d0_203 (v := nI (4 * d)) (nI_mul _ _) ?_
  refine wp_iconst d0_204 (v := nI 3) (by decide) ?_
  refine wp_iaddv d0_205 (v := nI (4 * d + 3)) (nI_add _ _) ?_
  refine wp_iload d0_206 rfl ?_
  refine wp_iconst d0_208 (v := nI 2) (by decide) ?_
  refine wp_ishr d0_209 ?_
  refine wp_iconst d0_210 (v := nI 3) (by decide) ?_
  refine wp_invsT (e := 61) (j2 := 293) (n := 2) d0_211 (by decide +kernel) (by decide +kernel) rfl rfl rfl (Nat.le_of_ble_eq_true rfl) (Nat.le_of_ble_eq_true rfl) rfl rfl (Nat.le_of_ble_eq_true rfl) (by decide +kernel) (k_lowD ((x >>> ((nI 2) &&& 31))) (n := 3) (by decide) (by decide)) ?_
  obtain ⟨kk, hkk, ekk⟩ : ∃ y, y < 3 ∧ lowN ((x >>> ((nI 2) &&& 31))) 3 = y := ⟨_, lowN_lt _ (by decide), rfl⟩
  rw [ekk]
  refine wp_iconst d0_214 (v := nI 1) (by decide) ?_
  refine wp_isub d0_215 ?_
  refine wp_iast d0_216 (la_2 hL) (nI_in (by omega) (by decide)) ?_
  refine l_step (o := 2) (i := 4 * d + 3) (v := ((nI kk) - (nI 1))) hL hF (by decide) (by rw [nI_nat (by omega)]; rfl) (fun h hL hF => ?_)
  refine wp_aload_n d0_217 rfl ?_
  refine wp_iload d0_218 rfl ?_
  refine wp_iload d0_220 rfl ?_
  refine wp_iconst d0_222 (v := nI 1) (by decide) ?_
  refine wp_iaddv d0_223 (v := nI (d + 1)) (nI_add _ _) ?_
  refine wp_iconst d0_224 (v := nI 4) (by decide) ?_
  refine wp_iremv d0_225 (v := nI ((d + 1) % 4)) (by decide) (nI_rem (by omega) (by omega)) ?_
  refine wp_aload d0_226 rfl ?_
  refine wp_iconst d0_228 (v := nI 4) (by decide) ?_
  refine wp_iload d0_229 rfl ?_
  refine wp_imulv d0_231 (v := nI (4 * d)) (nI_mul _ _) ?_
  refine wp_iconst d0_232 (v := nI 2) (by decide) ?_
  refine wp_iaddv d0_233 (v := nI (4 * d + 2)) (nI_add _ _) ?_
  refine wp_iald d0_234 (la_2 hL) (nI_in (by omega) (by decide)) (v := nI (1 + w)) ((congrArg ((updM (updM (updM (updM S 2 (4 * d) (nI d)) 2 (4 * d + 1) (nI ((d + 1) % 4))) 2 (4 * d + 2) (nI (1 + w))) 2 (4 * d + 3) (((nI kk) - (nI 1)))) 2) (nI_nat (by omega))).trans ((updM_diff (by omega)).trans updM_same)) ?_
  refine wp_aload d0_235 rfl ?_
  refine wp_iconst d0_237 (v := nI 4) (by decide) ?_
  refine wp_iload d0_238 rfl ?_
  refine wp_imulv d0_240 (v := nI (4 * d)) (nI_mul _ _) ?_
  refine wp_iconst d0_241 (v := nI 3) (by decide) ?_
  refine wp_iaddv d0_242 (v := nI (4 * d + 3)) (nI_add _ _) ?_
  refine wp_iald d0_243 (la_2 hL) (nI_in (by omega) (by decide)) (v := ((nI kk) - (nI 1))) ((congrArg ((updM (updM (updM (updM S 2 (4 * d) (nI d)) 2 (4 * d + 1) (nI ((d + 1) % 4))) 2 (4 * d + 2) (nI (1 + w))) 2 (4 * d + 3) (((nI kk) - (nI 1)))) 2) (nI_nat (by omega))).trans updM_same) ?_
  refine wp_invv (e := 67) (j2 := 34) (n := 4) d0_244 (by decide +kernel) (by decide +kernel) rfl rfl rfl ((hF.2.2 0 (Or.inl (by omega))).trans h00) (by decide +kernel) (Nat.le_of_ble_eq_true rfl) rfl rfl (Nat.le_of_ble_eq_true rfl) (by decide +kernel) (cl_addDoor (hI.ref hF) (ra := d) (rb := (d + 1) % 4) (w1 := 1 + w) (k9 := (nI kk - nI 1)) (by omega) (by omega) (by omega) (by omega) (by omega) (key9 hkk) (hQ.ndb hd4) (by omega)) (fun v h hq => ?_)
  obtain ⟨rfl, hI, hO⟩ := hq
  show m_wp (L, xs) 0 _ _ [.int _] _ _
  have hL := hL.oth hO
  have hF : Frm h h 313 8 := Frm.rf
  obtain ⟨fs0, h00⟩ := hI.at0
  have hQ := hQ.door (w := 1 + w) (k9 := (nI kk - nI 1)) hd4
  refine wp_iload d0_247 rfl ?_
  refine wp_icmp_eq d0_249 (tgt := 254) (by decide) (fun _ => ?_) (fun hq9 => absurd rfl hq9)
  refine wp_iinc d0_254 rfl (v := nI (d + 1)) (nI_add _ 1) (Nat.le_of_ble_eq_true rfl) rfl ?_
  refine wp_goto d0_257 (tgt := 141) (by decide) ?_
  exact K _ _ _ hI hL hQ _ _ _ _ _ _ _ _ _ _ _
theorem lw_work {L : Nat} {xs : Nat → Int32} {Q : Option Value → mH → Prop} {h : mH} {σ : Nat → Int32} {S : Nat → Nat → Int32} (hL9 : L ≤ 260) {w : Nat} (hw2 : w < 2) (hI : Iv h σ 0 4 4 0 w 0) (hL : La h S) (hQ : Qp S σ 4 4 w 0) {l11 l12 l13 l14 l15 l16 l17 l18 l19 l20 l21 : Option Value} (K : ∀ h1 S1 σ1, Iv h1 σ1 0 4 4 0 (w + 1) 0 → La h1 S1 → Qp S1 σ1 4 4 (w + 1) 0 → ∀ x11 x12 x13 x14 x15 x16 x17 x18 x19 x20 x21, m_wp (L, xs) 0 263 [some (.float 0), some (.ref 0), some (.ref 313), some (.ref 314), some (.ref 315), some (.ref 316), some (.ref 317), some (.ref 318), some (.ref 319), some (.ref 320), some (.int (nI (w + 1))), x11, x12, x13, x14, x15, x16, x17, x18, x19, x20, x21] [] h1 Q) : m_wp (L, xs) 0 263 [some (.float 0), some (.ref 0), some (.ref 313), some (.ref 314), some (.ref 315), some (.ref 316), some (.ref 317), some (.ref 318), some (.ref 319), some (.ref 320), some (.int (nI w)), l11, l12, l13, l14, l15, l16, l17, l18, l19, l20, l21] [] h Q := by
  have hF : Frm h h 313 8 := Frm.rf
  obtain ⟨fs0, h00⟩ := hI.at0
  refine wp_iload d0_263 rfl ?_
  refine wp_iconst d0_265 (v := nI 2) (by decide) ?_
  refine wp_icmp_ge d0_266 (tgt := 372) (by decide) (fun hq9 => absurd hq9 (fun z => absurd ((nI_leI (by omega) (by omega)).mp z) (by omega))) (fun _ => ?_)
  refine wp_sload_n d0_269 rfl ?_
  refine wp_bipush d0_270 (v := nI 8) (by decide) ?_
  refine wp_iload d0_272 rfl ?_
  refine wp_iaddv d0_274 (v := nI (8 + w)) (nI_add _ _) ?_
  refine wp_invsT (e := 57) (j2 := 292) (n := 2) d0_275 (by decide +kernel) (by decide +kernel) rfl rfl rfl (Nat.le_of_ble_eq_true rfl) (Nat.le_of_ble_eq_true rfl) rfl rfl (Nat.le_of_ble_eq_true rfl) (by decide +kernel) (k_cellD hL9 (k := 8 + w) (by omega)) ?_
  generalize cellV L xs (8 + w) = x
  refine wp_istore d0_278 (Nat.le_of_ble_eq_true rfl) rfl ?_
  refine wp_aload d0_280 rfl ?_
  refine wp_iconst d0_282 (v := nI 5) (by decide) ?_
  refine wp_iload d0_283 rfl ?_
  refine wp_imulv d0_285 (v := nI (5 * w)) (nI_mul _ _) ?_
  refine wp_iload d0_286 rfl ?_
  refine wp_iconst d0_288 (v := nI 3) (by decide) ?_
  refine wp_invsT (e := 61) (j2 := 293) (n := 2) d0_289 (by decide +kernel) (by decide +kernel) rfl rfl rfl (Nat.le_of_ble_eq_true rfl) (Nat.le_of_ble_eq_true rfl) rfl rfl (Nat.le_of_ble_eq_true rfl) (by decide +kernel) (k_lowD (x) (n := 3) (by decide) (by decide)) ?_
  obtain ⟨k, hk, ek⟩ : ∃ y, y < 3 ∧ lowN (x) 3 = y := ⟨_, lowN_lt _ (by decide), rfl⟩
  rw [ek]
  refine wp_iast d0_292 (la_5 hL) (nI_in (by omega) (by decide)) ?_
  refine l_step (o := 5) (i := 5 * w) (v := nI k) hL hF (by decide) (by rw [nI_nat (by omega)]; rfl) (fun h hL hF => ?_)
  refine wp_aload d0_293 rfl ?_
  refine wp_iconst d0_295 (v := nI 5) (by decide) ?_
  refine wp_iload d0_296 rfl ?_
  refine wp_imulv d0_298 (v := nI (5 * w)) (nI_mul _ _) ?_
  refine wp_iconst d0_299 (v := nI 1) (by decide) ?_
  refine wp_iaddv d0_300 (v := nI (5 * w + 1)) (nI_add _ _) ?_
  refine wp_iconst d0_301 (v := nI 1) (by decide) ?_
  refine wp_iload d0_302 rfl ?_
  refine wp_iconst d0_304 (v := nI 2) (by decide) ?_
  refine wp_ishr d0_305 ?_
  refine wp_iconst d0_306 (v := nI 3) (by decide) ?_
  refine wp_invsT (e := 61) (j2 := 293) (n := 2) d0_307 (by decide +kernel) (by decide +kernel) rfl rfl rfl (Nat.le_of_ble_eq_true rfl) (Nat.le_of_ble_eq_true rfl) rfl rfl (Nat.le_of_ble_eq_true rfl) (by decide +kernel) (k_lowD ((x >>> ((nI 2) &&& 31))) (n := 3) (by decide) (by decide)) ?_
  obtain ⟨r, hr, er⟩ : ∃ y, y < 3 ∧ lowN ((x >>> ((nI 2) &&& 31))) 3 = y := ⟨_, lowN_lt _ (by decide), rfl⟩
  rw [er]
  refine wp_iaddv d0_310 (v := nI (1 + r)) (nI_add _ _) ?_
  refine wp_iast d0_311 (la_5 hL) (nI_in (by omega) (by decide)) ?_
  refine l_step (o := 5) (i := 5 * w + 1) (v := nI (1 + r)) hL hF (by decide) (by rw [nI_nat (by omega)]; rfl) (fun h hL hF => ?_)
  refine wp_aload d0_312 rfl ?_
  refine wp_iconst d0_314 (v := nI 5) (by decide) ?_
  refine wp_iload d0_315 rfl ?_
  refine wp_imulv d0_317 (v := nI (5 * w)) (nI_mul _ _) ?_
  refine wp_iconst d0_318 (v := nI 2) (by decide) ?_
  refine wp_iaddv d0_319 (v := nI (5 * w + 2)) (nI_add _ _) ?_
  refine wp_iload d0_320 rfl ?_
  refine wp_iconst d0_322 (v := nI 4) (by decide) ?_
  refine wp_ishr d0_323 ?_
  refine wp_bipush d0_324 (v := nI 6) (by decide) ?_
  refine wp_invsT (e := 61) (j2 := 293) (n := 2) d0_326 (by decide +kernel) (by decide +kernel) rfl rfl rfl (Nat.le_of_ble_eq_true rfl) (Nat.le_of_ble_eq_true rfl) rfl rfl (Nat.le_of_ble_eq_true rfl) (by decide +kernel) (k_lowD ((x >>> ((nI 4) &&& 31))) (n := 6) (by decide) (by decide)) ?_
  obtain ⟨lm, hlm, elm⟩ : ∃ y, y < 6 ∧ lowN ((x >>> ((nI 4) &&& 31))) 6 = y := ⟨_, lowN_lt _ (by decide), rfl⟩
  rw [elm]
  refine wp_iast d0_329 (la_5 hL) (nI_in (by omega) (by decide)) ?_
  refine l_step (o := 5) (i := 5 * w + 2) (v := nI lm) hL hF (by decide) (by rw [nI_nat (by omega)]; rfl) (fun h hL hF => ?_)
  refine wp_aload_n d0_330 rfl ?_
  refine wp_aload d0_331 rfl ?_
  refine wp_iconst d0_333 (v := nI 5) (by decide) ?_
  refine wp_iload d0_334 rfl ?_
  refine wp_imulv d0_336 (v := nI (5 * w)) (nI_mul _ _) ?_
  refine wp_iald d0_337 (la_5 hL) (nI_in (by omega) (by decide)) (v := nI k) ((congrArg ((updM (updM (updM S 5 (5 * w) (nI k)) 5 (5 * w + 1) (nI (1 + r))) 5 (5 * w + 2) (nI lm)) 5) (nI_nat (by omega))).trans ((updM_diff (by omega)).trans ((updM_diff (by omega)).trans updM_same))) ?_
  refine wp_aload d0_338 rfl ?_
  refine wp_iconst d0_340 (v := nI 5) (by decide) ?_
  refine wp_iload d0_341 rfl ?_
  refine wp_imulv d0_343 (v := nI (5 * w)) (nI_mul _ _) ?_
  refine wp_iconst d0_344 (v := nI 1) (by decide) ?_
  refine wp_iaddv d0_345 (v := nI (5 * w + 1)) (nI_add _ _) ?_
  refine wp_iald d0_346 (la_5 hL) (nI_in (by omega) (by decide)) (v := nI (1 + r)) ((congrArg ((updM (updM (updM S 5 (5 * w) (nI k)) 5 (5 * w + 1) (nI (1 + r))) 5 (5 * w + 2) (nI lm)) 5) (nI_nat (by omega))).trans ((updM_diff (by omega)).trans updM_same)) ?_
  refine wp_aload d0_347 rfl ?_
  refine wp_iconst d0_349 (v := nI 5) (by decide) ?_
  refine wp_iload d0_350 rfl ?_
  refine wp_imulv d0_352 (v := nI (5 * w)) (nI_mul _ _) ?_
  refine wp_iconst d0_353 (v := nI 2) (by decide) ?_
  refine wp_iaddv d0_354 (v := nI (5 * w + 2)) (nI_add _ _) ?_
  refine wp_iald d0_355 (la_5 hL) (nI_in (by omega) (by decide)) (v := nI lm) ((congrArg ((updM (updM (updM S 5 (5 * w) (nI k)) 5 (5 * w + 1) (nI (1 + r))) 5 (5 * w + 2) (nI lm)) 5) (nI_nat (by omega))).trans updM_same) ?_
  refine wp_invv (e := 71) (j2 := 82) (n := 3) d0_356 (by decide +kernel) (by decide +kernel) rfl rfl rfl ((hF.2.2 0 (Or.inl (by omega))).trans h00) (by decide +kernel) (Nat.le_of_ble_eq_true rfl) rfl rfl (Nat.le_of_ble_eq_true rfl) (by decide +kernel) (cl_addWork (hI.ref hF) (k := k) (r := 1 + r) (lm := lm) (by omega) (by omega) (by omega) (by omega) (by omega)) (fun v h hq => ?_)
  obtain ⟨rfl, hI, hO⟩ := hq
  show m_wp (L, xs) 0 _ _ [.int _] _ _
  have hL := hL.oth hO
  have hF : Frm h h 313 8 := Frm.rf
  obtain ⟨fs0, h00⟩ := hI.at0
  have hQ := hQ.work (k := k) (r := 1 + r) (lm := lm) hw2 hlm
  refine wp_iload d0_359 rfl ?_
  refine wp_icmp_eq d0_361 (tgt := 366) (by decide) (fun _ => ?_) (fun hq9 => absurd rfl hq9)
  refine wp_iinc d0_366 rfl (v := nI (w + 1)) (nI_add _ 1) (Nat.le_of_ble_eq_true rfl) rfl ?_
  refine wp_goto d0_369 (tgt := 263) (by decide) ?_
  exact K _ _ _ hI hL hQ _ _ _ _ _ _ _ _ _ _ _
theorem lw_setup {L : Nat} {xs : Nat → Int32} {Q : Option Value → mH → Prop} (hL9 : L ≤ 260) (K : ∀ h1 S1 σ1, Iv h1 σ1 0 4 4 2 2 0 → La h1 S1 → Qs S1 σ1 0 0 0 (4 * 0) 0 → ∀ x11 x12 x13 x14 x15 x16 x17 x18 x19 x20 x21, m_wp (L, xs) 0 392 [some (.float 0), some (.ref 0), some (.ref 313), some (.ref 314), some (.ref 315), some (.ref 316), some (.ref 317), some (.ref 318), some (.ref 319), some (.ref 320), some (.int (nI 0)), x11, x12, x13, x14, x15, x16, x17, x18, x19, x20, x21] [] h1 Q) : m_wp (L, xs) 0 0 (m_entry 0 [.float 0]) [] ([], 0) Q := by
  refine wp_newo (e := 32) (ci := 0) d0_0 (by decide +kernel) ?_
  refine lw_new0 (fun hA l0 w0 g0 => ?_)
  refine wp_dup d0_3 rfl ?_
  refine wp_invi (e := 56) (j2 := 1) (n := 0) (kind := 0) d0_4 (by decide +kernel) (by decide) (by decide +kernel) rfl rfl rfl (Nat.le_of_ble_eq_true rfl) rfl rfl (Nat.le_of_ble_eq_true rfl) (by decide +kernel) (ctor_1 g0 l0) (fun v h hq => ?_)
  obtain ⟨rfl, b1⟩ := hq
  show m_wp (L, xs) 0 _ _ [_] _ _
  have hp : Pr h h 0 0 := ⟨(b1.lenN cAll_len).trans (by rw [l0]), by rw [b1.2.1, w0], fun _ _ => rfl, fun o ho => by omega⟩
  refine wp_astore_n d0_7 (Nat.le_of_ble_eq_true rfl) rfl ?_
  refine wp_iconst d0_8 (v := nI 4) (by decide) ?_
  refine wp_newi d0_9 (nI_nn _ (by decide)) (N := 4) (nI_nat (by decide)) (by decide) ?_
  refine hp.new rfl (fun h hp => ?_)
  refine wp_astore_n d0_11 (Nat.le_of_ble_eq_true rfl) rfl ?_
  refine wp_bipush d0_12 (v := nI 24) (by decide) ?_
  refine wp_newi d0_14 (nI_nn _ (by decide)) (N := 24) (nI_nat (by decide)) (by decide) ?_
  refine hp.new rfl (fun h hp => ?_)
  refine wp_astore_n d0_16 (Nat.le_of_ble_eq_true rfl) rfl ?_
  refine wp_bipush d0_17 (v := nI 16) (by decide) ?_
  refine wp_newi d0_19 (nI_nn _ (by decide)) (N := 16) (nI_nat (by decide)) (by decide) ?_
  refine hp.new rfl (fun h hp => ?_)
  refine wp_astore d0_21 (Nat.le_of_ble_eq_true rfl) rfl ?_
  refine wp_bipush d0_23 (v := nI 20) (by decide) ?_
  refine wp_newi d0_25 (nI_nn _ (by decide)) (N := 20) (nI_nat (by decide)) (by decide) ?_
  refine hp.new rfl (fun h hp => ?_)
  refine wp_astore d0_27 (Nat.le_of_ble_eq_true rfl) rfl ?_
  refine wp_bipush d0_29 (v := nI 16) (by decide) ?_
  refine wp_newi d0_31 (nI_nn _ (by decide)) (N := 16) (nI_nat (by decide)) (by decide) ?_
  refine hp.new rfl (fun h hp => ?_)
  refine wp_astore d0_33 (Nat.le_of_ble_eq_true rfl) rfl ?_
  refine wp_bipush d0_35 (v := nI 10) (by decide) ?_
  refine wp_newi d0_37 (nI_nn _ (by decide)) (N := 10) (nI_nat (by decide)) (by decide) ?_
  refine hp.new rfl (fun h hp => ?_)
  refine wp_astore d0_39 (Nat.le_of_ble_eq_true rfl) rfl ?_
  refine wp_bipush d0_41 (v := nI 64) (by decide) ?_
  refine wp_newi d0_43 (nI_nn _ (by decide)) (N := 64) (nI_nat (by decide)) (by decide) ?_
  refine hp.new rfl (fun h hp => ?_)
  refine wp_astore d0_45 (Nat.le_of_ble_eq_true rfl) rfl ?_
  refine wp_bipush d0_47 (v := nI 64) (by decide) ?_
  refine wp_newi d0_49 (nI_nn _ (by decide)) (N := 64) (nI_nat (by decide)) (by decide) ?_
  refine hp.new rfl (fun h hp => ?_)
  obtain ⟨hI, hL⟩ := iv_fresh l0 b1 hp
  have hF : Frm h h 313 8 := Frm.rf
  obtain ⟨fs0, h00⟩ := hI.at0
  refine wp_astore d0_51 (Nat.le_of_ble_eq_true rfl) rfl ?_
  refine wp_aload_n d0_53 rfl ?_
  refine wp_iconst d0_54 (v := nI 0) (by decide) ?_
  refine wp_iconst d0_55 (v := (-1 : Int32)) (by decide) ?_
  refine wp_iast d0_56 (la_1 hL) (nI_in (by omega) (by decide)) ?_
  refine l_step (o := 1) (i := 0) (v := (-1 : Int32)) hL hF (by decide) (by rw [nI_nat (by omega)]; rfl) (fun h hL hF => ?_)
  refine wp_iconst d0_57 (v := nI 1) (by decide) ?_
  refine wp_istore d0_58 (Nat.le_of_ble_eq_true rfl) rfl ?_
  have hQ := Qp.fresh
  replace hI := hI.ref hF
  refine lw_room hL9 (r := 1) (by omega) (by omega) hI hL hQ (fun h S σ hI hL hQ x11 x12 x13 x14 x15 x16 x17 x18 x19 x20 x21 => ?_)
  refine lw_room hL9 (r := 2) (by omega) (by omega) hI hL hQ (fun h S σ hI hL hQ x11 x12 x13 x14 x15 x16 x17 x18 x19 x20 x21 => ?_)
  refine lw_room hL9 (r := 3) (by omega) (by omega) hI hL hQ (fun h S σ hI hL hQ x11 x12 x13 x14 x15 x16 x17 x18 x19 x20 x21 => ?_)
  have hF : Frm h h 313 8 := Frm.rf
  obtain ⟨fs0, h00⟩ := hI.at0
  refine wp_iload d0_60 rfl ?_
  refine wp_iconst d0_62 (v := nI 4) (by decide) ?_
  refine wp_icmp_ge d0_63 (tgt := 138) (by decide) (fun _ => ?_) (fun hz => absurd hz (by decide))
  refine wp_iconst d0_138 (v := nI 0) (by decide) ?_
  refine wp_istore d0_139 (Nat.le_of_ble_eq_true rfl) rfl ?_
  refine lw_door hL9 (d := 0) (by omega) hI hL hQ (fun h S σ hI hL hQ x11 x12 x13 x14 x15 x16 x17 x18 x19 x20 x21 => ?_)
  refine lw_door hL9 (d := 1) (by omega) hI hL hQ (fun h S σ hI hL hQ x11 x12 x13 x14 x15 x16 x17 x18 x19 x20 x21 => ?_)
  refine lw_door hL9 (d := 2) (by omega) hI hL hQ (fun h S σ hI hL hQ x11 x12 x13 x14 x15 x16 x17 x18 x19 x20 x21 => ?_)
  refine lw_door hL9 (d := 3) (by omega) hI hL hQ (fun h S σ hI hL hQ x11 x12 x13 x14 x15 x16 x17 x18 x19 x20 x21 => ?_)
  have hF : Frm h h 313 8 := Frm.rf
  obtain ⟨fs0, h00⟩ := hI.at0
  refine wp_iload d0_141 rfl ?_
  refine wp_iconst d0_143 (v := nI 4) (by decide) ?_
  refine wp_icmp_ge d0_144 (tgt := 260) (by decide) (fun _ => ?_) (fun hz => absurd hz (by decide))
  refine wp_iconst d0_260 (v := nI 0) (by decide) ?_
  refine wp_istore d0_261 (Nat.le_of_ble_eq_true rfl) rfl ?_
  refine lw_work hL9 (w := 0) (by omega) hI hL hQ (fun h S σ hI hL hQ x11 x12 x13 x14 x15 x16 x17 x18 x19 x20 x21 => ?_)
  refine lw_work hL9 (w := 1) (by omega) hI hL hQ (fun h S σ hI hL hQ x11 x12 x13 x14 x15 x16 x17 x18 x19 x20 x21 => ?_)
  have hF : Frm h h 313 8 := Frm.rf
  obtain ⟨fs0, h00⟩ := hI.at0
  refine wp_iload d0_263 rfl ?_
  refine wp_iconst d0_265 (v := nI 2) (by decide) ?_
  refine wp_icmp_ge d0_266 (tgt := 372) (by decide) (fun _ => ?_) (fun hz => absurd hz (by decide))
  refine wp_aload_n d0_372 rfl ?_
  refine wp_invv (e := 74) (j2 := 62) (n := 0) d0_373 (by decide +kernel) (by decide +kernel) rfl rfl rfl ((hF.2.2 0 (Or.inl (by omega))).trans h00) (by decide +kernel) (Nat.le_of_ble_eq_true rfl) rfl rfl (Nat.le_of_ble_eq_true rfl) (by decide +kernel) (cl_addGuard (hI.ref hF) (by omega)) (fun v h hq => ?_)
  obtain ⟨rfl, hI, hO⟩ := hq
  show m_wp (L, xs) 0 _ _ [.int _] _ _
  have hL := hL.oth hO
  have hF : Frm h h 313 8 := Frm.rf
  obtain ⟨fs0, h00⟩ := hI.at0
  have hQ := hQ.guard (g := 0) (by omega)
  refine wp_if_ne d0_376 (tgt := 387) (by decide) (fun hz => absurd hz (by decide)) (fun _ => ?_)
  refine wp_aload_n d0_379 rfl ?_
  refine wp_invv (e := 74) (j2 := 62) (n := 0) d0_380 (by decide +kernel) (by decide +kernel) rfl rfl rfl ((hF.2.2 0 (Or.inl (by omega))).trans h00) (by decide +kernel) (Nat.le_of_ble_eq_true rfl) rfl rfl (Nat.le_of_ble_eq_true rfl) (by decide +kernel) (cl_addGuard (hI.ref hF) (by omega)) (fun v h hq => ?_)
  obtain ⟨rfl, hI, hO⟩ := hq
  show m_wp (L, xs) 0 _ _ [.int _] _ _
  have hL := hL.oth hO
  have hF : Frm h h 313 8 := Frm.rf
  obtain ⟨fs0, h00⟩ := hI.at0
  have hQ := hQ.guard (g := 1) (by omega)
  refine wp_iconst d0_383 (v := nI 1) (by decide) ?_
  refine wp_icmp_eq d0_384 (tgt := 389) (by decide) (fun _ => ?_) (fun hz => absurd hz (by decide))
  refine wp_iconst d0_389 (v := nI 0) (by decide) ?_
  refine wp_istore d0_390 (Nat.le_of_ble_eq_true rfl) rfl ?_
  exact K _ _ _ hI hL (hQ.done hI.cn.2.2.2.2.2.1) _ _ _ _ _ _ _ _ _ _ _
