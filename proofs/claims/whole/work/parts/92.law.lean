/-! The law: call after call both answer alike. -/
theorem d0_18 : decode (m_code 0) 18 = .ok (.iload_n 3, 1) := by decide +kernel
theorem d0_19 : decode (m_code 0) 19 = .ok (.aload_n 0, 1) := by decide +kernel
theorem d0_20 : decode (m_code 0) 20 = .ok (.arraylength, 1) := by decide +kernel
theorem d0_21 : decode (m_code 0) 21 = .ok (.iconst 5, 1) := by decide +kernel
theorem d0_22 : decode (m_code 0) 22 = .ok (.isub, 1) := by decide +kernel
theorem d0_23 : decode (m_code 0) 23 = .ok (.if_icmp .gt 1285, 3) := by decide +kernel
theorem d0_26 : decode (m_code 0) 26 = .ok (.aload_n 0, 1) := by decide +kernel
theorem d0_27 : decode (m_code 0) 27 = .ok (.iload_n 3, 1) := by decide +kernel
theorem d0_28 : decode (m_code 0) 28 = .ok (.iaload, 1) := by decide +kernel
theorem d0_29 : decode (m_code 0) 29 = .ok (.bipush 63, 2) := by decide +kernel
theorem d0_31 : decode (m_code 0) 31 = .ok (.iand, 1) := by decide +kernel
theorem d0_32 : decode (m_code 0) 32 = .ok (.tableswitch 1270 0 37 #[168, 201, 254, 287, 346, 369, 392, 405, 438, 471, 514, 557, 580, 623, 656, 679, 712, 735, 748, 773, 786, 809, 822, 835, 848, 881, 914, 947, 980, 1013, 1036, 1069, 1102, 1135, 1178, 1211, 1224, 1247], 168) := by decide +kernel
theorem d0_200 : decode (m_code 0) 200 = .ok (.aload_n 1, 1) := by decide +kernel
theorem d0_201 : decode (m_code 0) 201 = .ok (.aload_n 0, 1) := by decide +kernel
theorem d0_202 : decode (m_code 0) 202 = .ok (.iload_n 3, 1) := by decide +kernel
theorem d0_203 : decode (m_code 0) 203 = .ok (.iconst 1, 1) := by decide +kernel
theorem d0_204 : decode (m_code 0) 204 = .ok (.iadd, 1) := by decide +kernel
theorem d0_205 : decode (m_code 0) 205 = .ok (.iaload, 1) := by decide +kernel
theorem d0_206 : decode (m_code 0) 206 = .ok (.aload_n 0, 1) := by decide +kernel
theorem d0_207 : decode (m_code 0) 207 = .ok (.iload_n 3, 1) := by decide +kernel
theorem d0_208 : decode (m_code 0) 208 = .ok (.iconst 2, 1) := by decide +kernel
theorem d0_209 : decode (m_code 0) 209 = .ok (.iadd, 1) := by decide +kernel
theorem d0_210 : decode (m_code 0) 210 = .ok (.iaload, 1) := by decide +kernel
theorem d0_211 : decode (m_code 0) 211 = .ok (.invokevirtual 13, 3) := by decide +kernel
theorem d0_214 : decode (m_code 0) 214 = .ok (.aload_n 2, 1) := by decide +kernel
theorem d0_215 : decode (m_code 0) 215 = .ok (.aload_n 0, 1) := by decide +kernel
theorem d0_216 : decode (m_code 0) 216 = .ok (.iload_n 3, 1) := by decide +kernel
theorem d0_217 : decode (m_code 0) 217 = .ok (.iconst 1, 1) := by decide +kernel
theorem d0_218 : decode (m_code 0) 218 = .ok (.iadd, 1) := by decide +kernel
theorem d0_219 : decode (m_code 0) 219 = .ok (.iaload, 1) := by decide +kernel
theorem d0_220 : decode (m_code 0) 220 = .ok (.aload_n 0, 1) := by decide +kernel
theorem d0_221 : decode (m_code 0) 221 = .ok (.iload_n 3, 1) := by decide +kernel
theorem d0_222 : decode (m_code 0) 222 = .ok (.iconst 2, 1) := by decide +kernel
theorem d0_223 : decode (m_code 0) 223 = .ok (.iadd, 1) := by decide +kernel
theorem d0_224 : decode (m_code 0) 224 = .ok (.iaload, 1) := by decide +kernel
theorem d0_225 : decode (m_code 0) 225 = .ok (.invokevirtual 17, 3) := by decide +kernel
theorem d0_228 : decode (m_code 0) 228 = .ok (.if_icmp .eq 1074, 3) := by decide +kernel
theorem d0_233 : decode (m_code 0) 233 = .ok (.aload_n 1, 1) := by decide +kernel
theorem d0_234 : decode (m_code 0) 234 = .ok (.aload_n 0, 1) := by decide +kernel
theorem d0_235 : decode (m_code 0) 235 = .ok (.iload_n 3, 1) := by decide +kernel
theorem d0_236 : decode (m_code 0) 236 = .ok (.iconst 1, 1) := by decide +kernel
theorem d0_237 : decode (m_code 0) 237 = .ok (.iadd, 1) := by decide +kernel
theorem d0_238 : decode (m_code 0) 238 = .ok (.iaload, 1) := by decide +kernel
theorem d0_239 : decode (m_code 0) 239 = .ok (.aload_n 0, 1) := by decide +kernel
theorem d0_240 : decode (m_code 0) 240 = .ok (.iload_n 3, 1) := by decide +kernel
theorem d0_241 : decode (m_code 0) 241 = .ok (.iconst 2, 1) := by decide +kernel
theorem d0_242 : decode (m_code 0) 242 = .ok (.iadd, 1) := by decide +kernel
theorem d0_243 : decode (m_code 0) 243 = .ok (.iaload, 1) := by decide +kernel
theorem d0_244 : decode (m_code 0) 244 = .ok (.aload_n 0, 1) := by decide +kernel
theorem d0_245 : decode (m_code 0) 245 = .ok (.iload_n 3, 1) := by decide +kernel
theorem d0_246 : decode (m_code 0) 246 = .ok (.iconst 3, 1) := by decide +kernel
theorem d0_247 : decode (m_code 0) 247 = .ok (.iadd, 1) := by decide +kernel
theorem d0_248 : decode (m_code 0) 248 = .ok (.iaload, 1) := by decide +kernel
theorem d0_249 : decode (m_code 0) 249 = .ok (.aload_n 0, 1) := by decide +kernel
theorem d0_250 : decode (m_code 0) 250 = .ok (.iload_n 3, 1) := by decide +kernel
theorem d0_251 : decode (m_code 0) 251 = .ok (.iconst 4, 1) := by decide +kernel
theorem d0_252 : decode (m_code 0) 252 = .ok (.iadd, 1) := by decide +kernel
theorem d0_253 : decode (m_code 0) 253 = .ok (.iaload, 1) := by decide +kernel
theorem d0_254 : decode (m_code 0) 254 = .ok (.invokevirtual 18, 3) := by decide +kernel
theorem d0_257 : decode (m_code 0) 257 = .ok (.aload_n 2, 1) := by decide +kernel
theorem d0_258 : decode (m_code 0) 258 = .ok (.aload_n 0, 1) := by decide +kernel
theorem d0_259 : decode (m_code 0) 259 = .ok (.iload_n 3, 1) := by decide +kernel
theorem d0_260 : decode (m_code 0) 260 = .ok (.iconst 1, 1) := by decide +kernel
theorem d0_261 : decode (m_code 0) 261 = .ok (.iadd, 1) := by decide +kernel
theorem d0_262 : decode (m_code 0) 262 = .ok (.iaload, 1) := by decide +kernel
theorem d0_263 : decode (m_code 0) 263 = .ok (.aload_n 0, 1) := by decide +kernel
theorem d0_264 : decode (m_code 0) 264 = .ok (.iload_n 3, 1) := by decide +kernel
theorem d0_265 : decode (m_code 0) 265 = .ok (.iconst 2, 1) := by decide +kernel
theorem d0_266 : decode (m_code 0) 266 = .ok (.iadd, 1) := by decide +kernel
theorem d0_267 : decode (m_code 0) 267 = .ok (.iaload, 1) := by decide +kernel
theorem d0_268 : decode (m_code 0) 268 = .ok (.aload_n 0, 1) := by decide +kernel
theorem d0_269 : decode (m_code 0) 269 = .ok (.iload_n 3, 1) := by decide +kernel
theorem d0_270 : decode (m_code 0) 270 = .ok (.iconst 3, 1) := by decide +kernel
theorem d0_271 : decode (m_code 0) 271 = .ok (.iadd, 1) := by decide +kernel
theorem d0_272 : decode (m_code 0) 272 = .ok (.iaload, 1) := by decide +kernel
theorem d0_273 : decode (m_code 0) 273 = .ok (.aload_n 0, 1) := by decide +kernel
theorem d0_274 : decode (m_code 0) 274 = .ok (.iload_n 3, 1) := by decide +kernel
theorem d0_275 : decode (m_code 0) 275 = .ok (.iconst 4, 1) := by decide +kernel
theorem d0_276 : decode (m_code 0) 276 = .ok (.iadd, 1) := by decide +kernel
theorem d0_277 : decode (m_code 0) 277 = .ok (.iaload, 1) := by decide +kernel
theorem d0_278 : decode (m_code 0) 278 = .ok (.invokevirtual 22, 3) := by decide +kernel
theorem d0_281 : decode (m_code 0) 281 = .ok (.if_icmp .eq 1021, 3) := by decide +kernel
theorem d0_286 : decode (m_code 0) 286 = .ok (.aload_n 1, 1) := by decide +kernel
theorem d0_287 : decode (m_code 0) 287 = .ok (.aload_n 0, 1) := by decide +kernel
theorem d0_288 : decode (m_code 0) 288 = .ok (.iload_n 3, 1) := by decide +kernel
theorem d0_289 : decode (m_code 0) 289 = .ok (.iconst 1, 1) := by decide +kernel
theorem d0_290 : decode (m_code 0) 290 = .ok (.iadd, 1) := by decide +kernel
theorem d0_291 : decode (m_code 0) 291 = .ok (.iaload, 1) := by decide +kernel
theorem d0_292 : decode (m_code 0) 292 = .ok (.aload_n 0, 1) := by decide +kernel
theorem d0_293 : decode (m_code 0) 293 = .ok (.iload_n 3, 1) := by decide +kernel
theorem d0_294 : decode (m_code 0) 294 = .ok (.iconst 2, 1) := by decide +kernel
theorem d0_295 : decode (m_code 0) 295 = .ok (.iadd, 1) := by decide +kernel
theorem d0_296 : decode (m_code 0) 296 = .ok (.iaload, 1) := by decide +kernel
theorem d0_297 : decode (m_code 0) 297 = .ok (.invokevirtual 23, 3) := by decide +kernel
theorem d0_300 : decode (m_code 0) 300 = .ok (.aload_n 2, 1) := by decide +kernel
theorem d0_301 : decode (m_code 0) 301 = .ok (.aload_n 0, 1) := by decide +kernel
theorem d0_302 : decode (m_code 0) 302 = .ok (.iload_n 3, 1) := by decide +kernel
theorem d0_303 : decode (m_code 0) 303 = .ok (.iconst 1, 1) := by decide +kernel
theorem d0_304 : decode (m_code 0) 304 = .ok (.iadd, 1) := by decide +kernel
theorem d0_305 : decode (m_code 0) 305 = .ok (.iaload, 1) := by decide +kernel
theorem d0_306 : decode (m_code 0) 306 = .ok (.aload_n 0, 1) := by decide +kernel
theorem d0_307 : decode (m_code 0) 307 = .ok (.iload_n 3, 1) := by decide +kernel
theorem d0_308 : decode (m_code 0) 308 = .ok (.iconst 2, 1) := by decide +kernel
theorem d0_309 : decode (m_code 0) 309 = .ok (.iadd, 1) := by decide +kernel
theorem d0_310 : decode (m_code 0) 310 = .ok (.iaload, 1) := by decide +kernel
theorem d0_311 : decode (m_code 0) 311 = .ok (.invokevirtual 26, 3) := by decide +kernel
theorem d0_314 : decode (m_code 0) 314 = .ok (.if_icmp .eq 988, 3) := by decide +kernel
theorem d0_319 : decode (m_code 0) 319 = .ok (.aload_n 1, 1) := by decide +kernel
theorem d0_320 : decode (m_code 0) 320 = .ok (.aload_n 0, 1) := by decide +kernel
theorem d0_321 : decode (m_code 0) 321 = .ok (.iload_n 3, 1) := by decide +kernel
theorem d0_322 : decode (m_code 0) 322 = .ok (.iconst 1, 1) := by decide +kernel
theorem d0_323 : decode (m_code 0) 323 = .ok (.iadd, 1) := by decide +kernel
theorem d0_324 : decode (m_code 0) 324 = .ok (.iaload, 1) := by decide +kernel
theorem d0_325 : decode (m_code 0) 325 = .ok (.aload_n 0, 1) := by decide +kernel
theorem d0_326 : decode (m_code 0) 326 = .ok (.iload_n 3, 1) := by decide +kernel
theorem d0_327 : decode (m_code 0) 327 = .ok (.iconst 2, 1) := by decide +kernel
theorem d0_328 : decode (m_code 0) 328 = .ok (.iadd, 1) := by decide +kernel
theorem d0_329 : decode (m_code 0) 329 = .ok (.iaload, 1) := by decide +kernel
theorem d0_330 : decode (m_code 0) 330 = .ok (.aload_n 0, 1) := by decide +kernel
theorem d0_331 : decode (m_code 0) 331 = .ok (.iload_n 3, 1) := by decide +kernel
theorem d0_332 : decode (m_code 0) 332 = .ok (.iconst 3, 1) := by decide +kernel
theorem d0_333 : decode (m_code 0) 333 = .ok (.iadd, 1) := by decide +kernel
theorem d0_334 : decode (m_code 0) 334 = .ok (.iaload, 1) := by decide +kernel
theorem d0_335 : decode (m_code 0) 335 = .ok (.ifCond .eq 7, 3) := by decide +kernel
theorem d0_338 : decode (m_code 0) 338 = .ok (.iconst 1, 1) := by decide +kernel
theorem d0_339 : decode (m_code 0) 339 = .ok (.goto 4, 3) := by decide +kernel
theorem d0_342 : decode (m_code 0) 342 = .ok (.iconst 0, 1) := by decide +kernel
theorem d0_343 : decode (m_code 0) 343 = .ok (.invokevirtual 27, 3) := by decide +kernel
theorem d0_346 : decode (m_code 0) 346 = .ok (.aload_n 2, 1) := by decide +kernel
theorem d0_347 : decode (m_code 0) 347 = .ok (.aload_n 0, 1) := by decide +kernel
theorem d0_348 : decode (m_code 0) 348 = .ok (.iload_n 3, 1) := by decide +kernel
theorem d0_349 : decode (m_code 0) 349 = .ok (.iconst 1, 1) := by decide +kernel
theorem d0_350 : decode (m_code 0) 350 = .ok (.iadd, 1) := by decide +kernel
theorem d0_351 : decode (m_code 0) 351 = .ok (.iaload, 1) := by decide +kernel
theorem d0_352 : decode (m_code 0) 352 = .ok (.aload_n 0, 1) := by decide +kernel
theorem d0_353 : decode (m_code 0) 353 = .ok (.iload_n 3, 1) := by decide +kernel
theorem d0_354 : decode (m_code 0) 354 = .ok (.iconst 2, 1) := by decide +kernel
theorem d0_355 : decode (m_code 0) 355 = .ok (.iadd, 1) := by decide +kernel
theorem d0_356 : decode (m_code 0) 356 = .ok (.iaload, 1) := by decide +kernel
theorem d0_357 : decode (m_code 0) 357 = .ok (.aload_n 0, 1) := by decide +kernel
theorem d0_358 : decode (m_code 0) 358 = .ok (.iload_n 3, 1) := by decide +kernel
theorem d0_359 : decode (m_code 0) 359 = .ok (.iconst 3, 1) := by decide +kernel
theorem d0_360 : decode (m_code 0) 360 = .ok (.iadd, 1) := by decide +kernel
theorem d0_361 : decode (m_code 0) 361 = .ok (.iaload, 1) := by decide +kernel
theorem d0_362 : decode (m_code 0) 362 = .ok (.ifCond .eq 7, 3) := by decide +kernel
theorem d0_365 : decode (m_code 0) 365 = .ok (.iconst 1, 1) := by decide +kernel
theorem d0_366 : decode (m_code 0) 366 = .ok (.goto 4, 3) := by decide +kernel
theorem d0_369 : decode (m_code 0) 369 = .ok (.iconst 0, 1) := by decide +kernel
theorem d0_370 : decode (m_code 0) 370 = .ok (.invokevirtual 31, 3) := by decide +kernel
theorem d0_373 : decode (m_code 0) 373 = .ok (.if_icmp .eq 929, 3) := by decide +kernel
theorem d0_378 : decode (m_code 0) 378 = .ok (.aload_n 1, 1) := by decide +kernel
theorem d0_379 : decode (m_code 0) 379 = .ok (.aload_n 0, 1) := by decide +kernel
theorem d0_380 : decode (m_code 0) 380 = .ok (.iload_n 3, 1) := by decide +kernel
theorem d0_381 : decode (m_code 0) 381 = .ok (.iconst 1, 1) := by decide +kernel
theorem d0_382 : decode (m_code 0) 382 = .ok (.iadd, 1) := by decide +kernel
theorem d0_383 : decode (m_code 0) 383 = .ok (.iaload, 1) := by decide +kernel
theorem d0_384 : decode (m_code 0) 384 = .ok (.invokevirtual 32, 3) := by decide +kernel
theorem d0_387 : decode (m_code 0) 387 = .ok (.aload_n 2, 1) := by decide +kernel
theorem d0_388 : decode (m_code 0) 388 = .ok (.aload_n 0, 1) := by decide +kernel
theorem d0_389 : decode (m_code 0) 389 = .ok (.iload_n 3, 1) := by decide +kernel
theorem d0_390 : decode (m_code 0) 390 = .ok (.iconst 1, 1) := by decide +kernel
theorem d0_391 : decode (m_code 0) 391 = .ok (.iadd, 1) := by decide +kernel
theorem d0_392 : decode (m_code 0) 392 = .ok (.iaload, 1) := by decide +kernel
theorem d0_393 : decode (m_code 0) 393 = .ok (.invokevirtual 36, 3) := by decide +kernel
theorem d0_396 : decode (m_code 0) 396 = .ok (.if_icmp .eq 906, 3) := by decide +kernel
theorem d0_401 : decode (m_code 0) 401 = .ok (.aload_n 1, 1) := by decide +kernel
theorem d0_402 : decode (m_code 0) 402 = .ok (.aload_n 0, 1) := by decide +kernel
theorem d0_403 : decode (m_code 0) 403 = .ok (.iload_n 3, 1) := by decide +kernel
theorem d0_404 : decode (m_code 0) 404 = .ok (.iconst 1, 1) := by decide +kernel
theorem d0_405 : decode (m_code 0) 405 = .ok (.iadd, 1) := by decide +kernel
theorem d0_406 : decode (m_code 0) 406 = .ok (.iaload, 1) := by decide +kernel
theorem d0_407 : decode (m_code 0) 407 = .ok (.invokevirtual 37, 3) := by decide +kernel
theorem d0_410 : decode (m_code 0) 410 = .ok (.aload_n 2, 1) := by decide +kernel
theorem d0_411 : decode (m_code 0) 411 = .ok (.aload_n 0, 1) := by decide +kernel
theorem d0_412 : decode (m_code 0) 412 = .ok (.iload_n 3, 1) := by decide +kernel
theorem d0_413 : decode (m_code 0) 413 = .ok (.iconst 1, 1) := by decide +kernel
theorem d0_414 : decode (m_code 0) 414 = .ok (.iadd, 1) := by decide +kernel
theorem d0_415 : decode (m_code 0) 415 = .ok (.iaload, 1) := by decide +kernel
theorem d0_416 : decode (m_code 0) 416 = .ok (.invokevirtual 40, 3) := by decide +kernel
theorem d0_419 : decode (m_code 0) 419 = .ok (.if_icmp .eq 883, 3) := by decide +kernel
theorem d0_424 : decode (m_code 0) 424 = .ok (.aload_n 1, 1) := by decide +kernel
theorem d0_425 : decode (m_code 0) 425 = .ok (.invokevirtual 41, 3) := by decide +kernel
theorem d0_428 : decode (m_code 0) 428 = .ok (.aload_n 2, 1) := by decide +kernel
theorem d0_429 : decode (m_code 0) 429 = .ok (.invokevirtual 45, 3) := by decide +kernel
theorem d0_432 : decode (m_code 0) 432 = .ok (.if_icmp .eq 870, 3) := by decide +kernel
theorem d0_437 : decode (m_code 0) 437 = .ok (.aload_n 1, 1) := by decide +kernel
theorem d0_438 : decode (m_code 0) 438 = .ok (.aload_n 0, 1) := by decide +kernel
theorem d0_439 : decode (m_code 0) 439 = .ok (.iload_n 3, 1) := by decide +kernel
theorem d0_440 : decode (m_code 0) 440 = .ok (.iconst 1, 1) := by decide +kernel
theorem d0_441 : decode (m_code 0) 441 = .ok (.iadd, 1) := by decide +kernel
theorem d0_442 : decode (m_code 0) 442 = .ok (.iaload, 1) := by decide +kernel
theorem d0_443 : decode (m_code 0) 443 = .ok (.aload_n 0, 1) := by decide +kernel
theorem d0_444 : decode (m_code 0) 444 = .ok (.iload_n 3, 1) := by decide +kernel
theorem d0_445 : decode (m_code 0) 445 = .ok (.iconst 2, 1) := by decide +kernel
theorem d0_446 : decode (m_code 0) 446 = .ok (.iadd, 1) := by decide +kernel
theorem d0_447 : decode (m_code 0) 447 = .ok (.iaload, 1) := by decide +kernel
theorem d0_448 : decode (m_code 0) 448 = .ok (.invokevirtual 46, 3) := by decide +kernel
theorem d0_451 : decode (m_code 0) 451 = .ok (.aload_n 2, 1) := by decide +kernel
theorem d0_452 : decode (m_code 0) 452 = .ok (.aload_n 0, 1) := by decide +kernel
theorem d0_453 : decode (m_code 0) 453 = .ok (.iload_n 3, 1) := by decide +kernel
theorem d0_454 : decode (m_code 0) 454 = .ok (.iconst 1, 1) := by decide +kernel
theorem d0_455 : decode (m_code 0) 455 = .ok (.iadd, 1) := by decide +kernel
theorem d0_456 : decode (m_code 0) 456 = .ok (.iaload, 1) := by decide +kernel
theorem d0_457 : decode (m_code 0) 457 = .ok (.aload_n 0, 1) := by decide +kernel
theorem d0_458 : decode (m_code 0) 458 = .ok (.iload_n 3, 1) := by decide +kernel
theorem d0_459 : decode (m_code 0) 459 = .ok (.iconst 2, 1) := by decide +kernel
theorem d0_460 : decode (m_code 0) 460 = .ok (.iadd, 1) := by decide +kernel
theorem d0_461 : decode (m_code 0) 461 = .ok (.iaload, 1) := by decide +kernel
theorem d0_462 : decode (m_code 0) 462 = .ok (.invokevirtual 49, 3) := by decide +kernel
theorem d0_465 : decode (m_code 0) 465 = .ok (.if_icmp .eq 837, 3) := by decide +kernel
theorem d0_470 : decode (m_code 0) 470 = .ok (.aload_n 1, 1) := by decide +kernel
theorem d0_471 : decode (m_code 0) 471 = .ok (.aload_n 0, 1) := by decide +kernel
theorem d0_472 : decode (m_code 0) 472 = .ok (.iload_n 3, 1) := by decide +kernel
theorem d0_473 : decode (m_code 0) 473 = .ok (.iconst 1, 1) := by decide +kernel
theorem d0_474 : decode (m_code 0) 474 = .ok (.iadd, 1) := by decide +kernel
theorem d0_475 : decode (m_code 0) 475 = .ok (.iaload, 1) := by decide +kernel
theorem d0_476 : decode (m_code 0) 476 = .ok (.aload_n 0, 1) := by decide +kernel
theorem d0_477 : decode (m_code 0) 477 = .ok (.iload_n 3, 1) := by decide +kernel
theorem d0_478 : decode (m_code 0) 478 = .ok (.iconst 2, 1) := by decide +kernel
theorem d0_479 : decode (m_code 0) 479 = .ok (.iadd, 1) := by decide +kernel
theorem d0_480 : decode (m_code 0) 480 = .ok (.iaload, 1) := by decide +kernel
theorem d0_481 : decode (m_code 0) 481 = .ok (.invokevirtual 50, 3) := by decide +kernel
theorem d0_484 : decode (m_code 0) 484 = .ok (.aload_n 2, 1) := by decide +kernel
theorem d0_485 : decode (m_code 0) 485 = .ok (.aload_n 0, 1) := by decide +kernel
theorem d0_486 : decode (m_code 0) 486 = .ok (.iload_n 3, 1) := by decide +kernel
theorem d0_487 : decode (m_code 0) 487 = .ok (.iconst 1, 1) := by decide +kernel
theorem d0_488 : decode (m_code 0) 488 = .ok (.iadd, 1) := by decide +kernel
theorem d0_489 : decode (m_code 0) 489 = .ok (.iaload, 1) := by decide +kernel
theorem d0_490 : decode (m_code 0) 490 = .ok (.aload_n 0, 1) := by decide +kernel
theorem d0_491 : decode (m_code 0) 491 = .ok (.iload_n 3, 1) := by decide +kernel
theorem d0_492 : decode (m_code 0) 492 = .ok (.iconst 2, 1) := by decide +kernel
theorem d0_493 : decode (m_code 0) 493 = .ok (.iadd, 1) := by decide +kernel
theorem d0_494 : decode (m_code 0) 494 = .ok (.iaload, 1) := by decide +kernel
theorem d0_495 : decode (m_code 0) 495 = .ok (.invokevirtual 53, 3) := by decide +kernel
theorem d0_498 : decode (m_code 0) 498 = .ok (.if_icmp .eq 804, 3) := by decide +kernel
theorem d0_503 : decode (m_code 0) 503 = .ok (.aload_n 1, 1) := by decide +kernel
theorem d0_504 : decode (m_code 0) 504 = .ok (.aload_n 0, 1) := by decide +kernel
theorem d0_505 : decode (m_code 0) 505 = .ok (.iload_n 3, 1) := by decide +kernel
theorem d0_506 : decode (m_code 0) 506 = .ok (.iconst 1, 1) := by decide +kernel
theorem d0_507 : decode (m_code 0) 507 = .ok (.iadd, 1) := by decide +kernel
theorem d0_508 : decode (m_code 0) 508 = .ok (.iaload, 1) := by decide +kernel
theorem d0_509 : decode (m_code 0) 509 = .ok (.aload_n 0, 1) := by decide +kernel
theorem d0_510 : decode (m_code 0) 510 = .ok (.iload_n 3, 1) := by decide +kernel
theorem d0_511 : decode (m_code 0) 511 = .ok (.iconst 2, 1) := by decide +kernel
theorem d0_512 : decode (m_code 0) 512 = .ok (.iadd, 1) := by decide +kernel
theorem d0_513 : decode (m_code 0) 513 = .ok (.iaload, 1) := by decide +kernel
theorem d0_514 : decode (m_code 0) 514 = .ok (.aload_n 0, 1) := by decide +kernel
theorem d0_515 : decode (m_code 0) 515 = .ok (.iload_n 3, 1) := by decide +kernel
theorem d0_516 : decode (m_code 0) 516 = .ok (.iconst 3, 1) := by decide +kernel
theorem d0_517 : decode (m_code 0) 517 = .ok (.iadd, 1) := by decide +kernel
theorem d0_518 : decode (m_code 0) 518 = .ok (.iaload, 1) := by decide +kernel
theorem d0_519 : decode (m_code 0) 519 = .ok (.invokevirtual 54, 3) := by decide +kernel
theorem d0_522 : decode (m_code 0) 522 = .ok (.aload_n 2, 1) := by decide +kernel
theorem d0_523 : decode (m_code 0) 523 = .ok (.aload_n 0, 1) := by decide +kernel
theorem d0_524 : decode (m_code 0) 524 = .ok (.iload_n 3, 1) := by decide +kernel
theorem d0_525 : decode (m_code 0) 525 = .ok (.iconst 1, 1) := by decide +kernel
theorem d0_526 : decode (m_code 0) 526 = .ok (.iadd, 1) := by decide +kernel
theorem d0_527 : decode (m_code 0) 527 = .ok (.iaload, 1) := by decide +kernel
theorem d0_528 : decode (m_code 0) 528 = .ok (.aload_n 0, 1) := by decide +kernel
theorem d0_529 : decode (m_code 0) 529 = .ok (.iload_n 3, 1) := by decide +kernel
theorem d0_530 : decode (m_code 0) 530 = .ok (.iconst 2, 1) := by decide +kernel
theorem d0_531 : decode (m_code 0) 531 = .ok (.iadd, 1) := by decide +kernel
theorem d0_532 : decode (m_code 0) 532 = .ok (.iaload, 1) := by decide +kernel
theorem d0_533 : decode (m_code 0) 533 = .ok (.aload_n 0, 1) := by decide +kernel
theorem d0_534 : decode (m_code 0) 534 = .ok (.iload_n 3, 1) := by decide +kernel
theorem d0_535 : decode (m_code 0) 535 = .ok (.iconst 3, 1) := by decide +kernel
theorem d0_536 : decode (m_code 0) 536 = .ok (.iadd, 1) := by decide +kernel
theorem d0_537 : decode (m_code 0) 537 = .ok (.iaload, 1) := by decide +kernel
theorem d0_538 : decode (m_code 0) 538 = .ok (.invokevirtual 58, 3) := by decide +kernel
theorem d0_541 : decode (m_code 0) 541 = .ok (.if_icmp .eq 761, 3) := by decide +kernel
theorem d0_546 : decode (m_code 0) 546 = .ok (.aload_n 1, 1) := by decide +kernel
theorem d0_547 : decode (m_code 0) 547 = .ok (.aload_n 0, 1) := by decide +kernel
theorem d0_548 : decode (m_code 0) 548 = .ok (.iload_n 3, 1) := by decide +kernel
theorem d0_549 : decode (m_code 0) 549 = .ok (.iconst 1, 1) := by decide +kernel
theorem d0_550 : decode (m_code 0) 550 = .ok (.iadd, 1) := by decide +kernel
theorem d0_551 : decode (m_code 0) 551 = .ok (.iaload, 1) := by decide +kernel
theorem d0_552 : decode (m_code 0) 552 = .ok (.aload_n 0, 1) := by decide +kernel
theorem d0_553 : decode (m_code 0) 553 = .ok (.iload_n 3, 1) := by decide +kernel
theorem d0_554 : decode (m_code 0) 554 = .ok (.iconst 2, 1) := by decide +kernel
theorem d0_555 : decode (m_code 0) 555 = .ok (.iadd, 1) := by decide +kernel
theorem d0_556 : decode (m_code 0) 556 = .ok (.iaload, 1) := by decide +kernel
theorem d0_557 : decode (m_code 0) 557 = .ok (.aload_n 0, 1) := by decide +kernel
theorem d0_558 : decode (m_code 0) 558 = .ok (.iload_n 3, 1) := by decide +kernel
theorem d0_559 : decode (m_code 0) 559 = .ok (.iconst 3, 1) := by decide +kernel
theorem d0_560 : decode (m_code 0) 560 = .ok (.iadd, 1) := by decide +kernel
theorem d0_561 : decode (m_code 0) 561 = .ok (.iaload, 1) := by decide +kernel
theorem d0_562 : decode (m_code 0) 562 = .ok (.invokevirtual 59, 3) := by decide +kernel
theorem d0_565 : decode (m_code 0) 565 = .ok (.aload_n 2, 1) := by decide +kernel
theorem d0_566 : decode (m_code 0) 566 = .ok (.aload_n 0, 1) := by decide +kernel
theorem d0_567 : decode (m_code 0) 567 = .ok (.iload_n 3, 1) := by decide +kernel
theorem d0_568 : decode (m_code 0) 568 = .ok (.iconst 1, 1) := by decide +kernel
theorem d0_569 : decode (m_code 0) 569 = .ok (.iadd, 1) := by decide +kernel
theorem d0_570 : decode (m_code 0) 570 = .ok (.iaload, 1) := by decide +kernel
theorem d0_571 : decode (m_code 0) 571 = .ok (.aload_n 0, 1) := by decide +kernel
theorem d0_572 : decode (m_code 0) 572 = .ok (.iload_n 3, 1) := by decide +kernel
theorem d0_573 : decode (m_code 0) 573 = .ok (.iconst 2, 1) := by decide +kernel
theorem d0_574 : decode (m_code 0) 574 = .ok (.iadd, 1) := by decide +kernel
theorem d0_575 : decode (m_code 0) 575 = .ok (.iaload, 1) := by decide +kernel
theorem d0_576 : decode (m_code 0) 576 = .ok (.aload_n 0, 1) := by decide +kernel
theorem d0_577 : decode (m_code 0) 577 = .ok (.iload_n 3, 1) := by decide +kernel
theorem d0_578 : decode (m_code 0) 578 = .ok (.iconst 3, 1) := by decide +kernel
theorem d0_579 : decode (m_code 0) 579 = .ok (.iadd, 1) := by decide +kernel
theorem d0_580 : decode (m_code 0) 580 = .ok (.iaload, 1) := by decide +kernel
theorem d0_581 : decode (m_code 0) 581 = .ok (.invokevirtual 62, 3) := by decide +kernel
theorem d0_584 : decode (m_code 0) 584 = .ok (.if_icmp .eq 718, 3) := by decide +kernel
theorem d0_589 : decode (m_code 0) 589 = .ok (.aload_n 1, 1) := by decide +kernel
theorem d0_590 : decode (m_code 0) 590 = .ok (.aload_n 0, 1) := by decide +kernel
theorem d0_591 : decode (m_code 0) 591 = .ok (.iload_n 3, 1) := by decide +kernel
theorem d0_592 : decode (m_code 0) 592 = .ok (.iconst 1, 1) := by decide +kernel
theorem d0_593 : decode (m_code 0) 593 = .ok (.iadd, 1) := by decide +kernel
theorem d0_594 : decode (m_code 0) 594 = .ok (.iaload, 1) := by decide +kernel
theorem d0_595 : decode (m_code 0) 595 = .ok (.invokevirtual 63, 3) := by decide +kernel
theorem d0_598 : decode (m_code 0) 598 = .ok (.aload_n 2, 1) := by decide +kernel
theorem d0_599 : decode (m_code 0) 599 = .ok (.aload_n 0, 1) := by decide +kernel
theorem d0_600 : decode (m_code 0) 600 = .ok (.iload_n 3, 1) := by decide +kernel
theorem d0_601 : decode (m_code 0) 601 = .ok (.iconst 1, 1) := by decide +kernel
theorem d0_602 : decode (m_code 0) 602 = .ok (.iadd, 1) := by decide +kernel
theorem d0_603 : decode (m_code 0) 603 = .ok (.iaload, 1) := by decide +kernel
theorem d0_604 : decode (m_code 0) 604 = .ok (.invokevirtual 66, 3) := by decide +kernel
theorem d0_607 : decode (m_code 0) 607 = .ok (.if_icmp .eq 695, 3) := by decide +kernel
theorem d0_612 : decode (m_code 0) 612 = .ok (.aload_n 1, 1) := by decide +kernel
theorem d0_613 : decode (m_code 0) 613 = .ok (.aload_n 0, 1) := by decide +kernel
theorem d0_614 : decode (m_code 0) 614 = .ok (.iload_n 3, 1) := by decide +kernel
theorem d0_615 : decode (m_code 0) 615 = .ok (.iconst 1, 1) := by decide +kernel
theorem d0_616 : decode (m_code 0) 616 = .ok (.iadd, 1) := by decide +kernel
theorem d0_617 : decode (m_code 0) 617 = .ok (.iaload, 1) := by decide +kernel
theorem d0_618 : decode (m_code 0) 618 = .ok (.aload_n 0, 1) := by decide +kernel
theorem d0_619 : decode (m_code 0) 619 = .ok (.iload_n 3, 1) := by decide +kernel
theorem d0_620 : decode (m_code 0) 620 = .ok (.iconst 2, 1) := by decide +kernel
theorem d0_621 : decode (m_code 0) 621 = .ok (.iadd, 1) := by decide +kernel
theorem d0_622 : decode (m_code 0) 622 = .ok (.iaload, 1) := by decide +kernel
theorem d0_623 : decode (m_code 0) 623 = .ok (.aload_n 0, 1) := by decide +kernel
theorem d0_624 : decode (m_code 0) 624 = .ok (.iload_n 3, 1) := by decide +kernel
theorem d0_625 : decode (m_code 0) 625 = .ok (.iconst 3, 1) := by decide +kernel
theorem d0_626 : decode (m_code 0) 626 = .ok (.iadd, 1) := by decide +kernel
theorem d0_627 : decode (m_code 0) 627 = .ok (.iaload, 1) := by decide +kernel
theorem d0_628 : decode (m_code 0) 628 = .ok (.invokevirtual 67, 3) := by decide +kernel
theorem d0_631 : decode (m_code 0) 631 = .ok (.aload_n 2, 1) := by decide +kernel
theorem d0_632 : decode (m_code 0) 632 = .ok (.aload_n 0, 1) := by decide +kernel
theorem d0_633 : decode (m_code 0) 633 = .ok (.iload_n 3, 1) := by decide +kernel
theorem d0_634 : decode (m_code 0) 634 = .ok (.iconst 1, 1) := by decide +kernel
theorem d0_635 : decode (m_code 0) 635 = .ok (.iadd, 1) := by decide +kernel
theorem d0_636 : decode (m_code 0) 636 = .ok (.iaload, 1) := by decide +kernel
theorem d0_637 : decode (m_code 0) 637 = .ok (.aload_n 0, 1) := by decide +kernel
theorem d0_638 : decode (m_code 0) 638 = .ok (.iload_n 3, 1) := by decide +kernel
theorem d0_639 : decode (m_code 0) 639 = .ok (.iconst 2, 1) := by decide +kernel
theorem d0_640 : decode (m_code 0) 640 = .ok (.iadd, 1) := by decide +kernel
theorem d0_641 : decode (m_code 0) 641 = .ok (.iaload, 1) := by decide +kernel
theorem d0_642 : decode (m_code 0) 642 = .ok (.aload_n 0, 1) := by decide +kernel
theorem d0_643 : decode (m_code 0) 643 = .ok (.iload_n 3, 1) := by decide +kernel
theorem d0_644 : decode (m_code 0) 644 = .ok (.iconst 3, 1) := by decide +kernel
theorem d0_645 : decode (m_code 0) 645 = .ok (.iadd, 1) := by decide +kernel
theorem d0_646 : decode (m_code 0) 646 = .ok (.iaload, 1) := by decide +kernel
theorem d0_647 : decode (m_code 0) 647 = .ok (.invokevirtual 70, 3) := by decide +kernel
theorem d0_650 : decode (m_code 0) 650 = .ok (.if_icmp .eq 652, 3) := by decide +kernel
theorem d0_655 : decode (m_code 0) 655 = .ok (.aload_n 1, 1) := by decide +kernel
theorem d0_656 : decode (m_code 0) 656 = .ok (.aload_n 0, 1) := by decide +kernel
theorem d0_657 : decode (m_code 0) 657 = .ok (.iload_n 3, 1) := by decide +kernel
theorem d0_658 : decode (m_code 0) 658 = .ok (.iconst 1, 1) := by decide +kernel
theorem d0_659 : decode (m_code 0) 659 = .ok (.iadd, 1) := by decide +kernel
theorem d0_660 : decode (m_code 0) 660 = .ok (.iaload, 1) := by decide +kernel
theorem d0_661 : decode (m_code 0) 661 = .ok (.aload_n 0, 1) := by decide +kernel
theorem d0_662 : decode (m_code 0) 662 = .ok (.iload_n 3, 1) := by decide +kernel
theorem d0_663 : decode (m_code 0) 663 = .ok (.iconst 2, 1) := by decide +kernel
theorem d0_664 : decode (m_code 0) 664 = .ok (.iadd, 1) := by decide +kernel
theorem d0_665 : decode (m_code 0) 665 = .ok (.iaload, 1) := by decide +kernel
theorem d0_666 : decode (m_code 0) 666 = .ok (.invokevirtual 71, 3) := by decide +kernel
theorem d0_669 : decode (m_code 0) 669 = .ok (.aload_n 2, 1) := by decide +kernel
theorem d0_670 : decode (m_code 0) 670 = .ok (.aload_n 0, 1) := by decide +kernel
theorem d0_671 : decode (m_code 0) 671 = .ok (.iload_n 3, 1) := by decide +kernel
theorem d0_672 : decode (m_code 0) 672 = .ok (.iconst 1, 1) := by decide +kernel
theorem d0_673 : decode (m_code 0) 673 = .ok (.iadd, 1) := by decide +kernel
theorem d0_674 : decode (m_code 0) 674 = .ok (.iaload, 1) := by decide +kernel
theorem d0_675 : decode (m_code 0) 675 = .ok (.aload_n 0, 1) := by decide +kernel
theorem d0_676 : decode (m_code 0) 676 = .ok (.iload_n 3, 1) := by decide +kernel
theorem d0_677 : decode (m_code 0) 677 = .ok (.iconst 2, 1) := by decide +kernel
theorem d0_678 : decode (m_code 0) 678 = .ok (.iadd, 1) := by decide +kernel
theorem d0_679 : decode (m_code 0) 679 = .ok (.iaload, 1) := by decide +kernel
theorem d0_680 : decode (m_code 0) 680 = .ok (.invokevirtual 74, 3) := by decide +kernel
theorem d0_683 : decode (m_code 0) 683 = .ok (.if_icmp .eq 619, 3) := by decide +kernel
theorem d0_688 : decode (m_code 0) 688 = .ok (.aload_n 1, 1) := by decide +kernel
theorem d0_689 : decode (m_code 0) 689 = .ok (.aload_n 0, 1) := by decide +kernel
theorem d0_690 : decode (m_code 0) 690 = .ok (.iload_n 3, 1) := by decide +kernel
theorem d0_691 : decode (m_code 0) 691 = .ok (.iconst 1, 1) := by decide +kernel
theorem d0_692 : decode (m_code 0) 692 = .ok (.iadd, 1) := by decide +kernel
theorem d0_693 : decode (m_code 0) 693 = .ok (.iaload, 1) := by decide +kernel
theorem d0_694 : decode (m_code 0) 694 = .ok (.invokevirtual 75, 3) := by decide +kernel
theorem d0_697 : decode (m_code 0) 697 = .ok (.aload_n 2, 1) := by decide +kernel
theorem d0_698 : decode (m_code 0) 698 = .ok (.aload_n 0, 1) := by decide +kernel
theorem d0_699 : decode (m_code 0) 699 = .ok (.iload_n 3, 1) := by decide +kernel
theorem d0_700 : decode (m_code 0) 700 = .ok (.iconst 1, 1) := by decide +kernel
theorem d0_701 : decode (m_code 0) 701 = .ok (.iadd, 1) := by decide +kernel
theorem d0_702 : decode (m_code 0) 702 = .ok (.iaload, 1) := by decide +kernel
theorem d0_703 : decode (m_code 0) 703 = .ok (.invokevirtual 78, 3) := by decide +kernel
theorem d0_706 : decode (m_code 0) 706 = .ok (.if_icmp .eq 596, 3) := by decide +kernel
theorem d0_711 : decode (m_code 0) 711 = .ok (.aload_n 1, 1) := by decide +kernel
theorem d0_712 : decode (m_code 0) 712 = .ok (.aload_n 0, 1) := by decide +kernel
theorem d0_713 : decode (m_code 0) 713 = .ok (.iload_n 3, 1) := by decide +kernel
theorem d0_714 : decode (m_code 0) 714 = .ok (.iconst 1, 1) := by decide +kernel
theorem d0_715 : decode (m_code 0) 715 = .ok (.iadd, 1) := by decide +kernel
theorem d0_716 : decode (m_code 0) 716 = .ok (.iaload, 1) := by decide +kernel
theorem d0_717 : decode (m_code 0) 717 = .ok (.aload_n 0, 1) := by decide +kernel
theorem d0_718 : decode (m_code 0) 718 = .ok (.iload_n 3, 1) := by decide +kernel
theorem d0_719 : decode (m_code 0) 719 = .ok (.iconst 2, 1) := by decide +kernel
theorem d0_720 : decode (m_code 0) 720 = .ok (.iadd, 1) := by decide +kernel
theorem d0_721 : decode (m_code 0) 721 = .ok (.iaload, 1) := by decide +kernel
theorem d0_722 : decode (m_code 0) 722 = .ok (.invokevirtual 79, 3) := by decide +kernel
theorem d0_725 : decode (m_code 0) 725 = .ok (.aload_n 2, 1) := by decide +kernel
theorem d0_726 : decode (m_code 0) 726 = .ok (.aload_n 0, 1) := by decide +kernel
theorem d0_727 : decode (m_code 0) 727 = .ok (.iload_n 3, 1) := by decide +kernel
theorem d0_728 : decode (m_code 0) 728 = .ok (.iconst 1, 1) := by decide +kernel
theorem d0_729 : decode (m_code 0) 729 = .ok (.iadd, 1) := by decide +kernel
theorem d0_730 : decode (m_code 0) 730 = .ok (.iaload, 1) := by decide +kernel
theorem d0_731 : decode (m_code 0) 731 = .ok (.aload_n 0, 1) := by decide +kernel
theorem d0_732 : decode (m_code 0) 732 = .ok (.iload_n 3, 1) := by decide +kernel
theorem d0_733 : decode (m_code 0) 733 = .ok (.iconst 2, 1) := by decide +kernel
theorem d0_734 : decode (m_code 0) 734 = .ok (.iadd, 1) := by decide +kernel
theorem d0_735 : decode (m_code 0) 735 = .ok (.iaload, 1) := by decide +kernel
theorem d0_736 : decode (m_code 0) 736 = .ok (.invokevirtual 82, 3) := by decide +kernel
theorem d0_739 : decode (m_code 0) 739 = .ok (.if_icmp .eq 563, 3) := by decide +kernel
theorem d0_744 : decode (m_code 0) 744 = .ok (.aload_n 1, 1) := by decide +kernel
theorem d0_745 : decode (m_code 0) 745 = .ok (.aload_n 0, 1) := by decide +kernel
theorem d0_746 : decode (m_code 0) 746 = .ok (.iload_n 3, 1) := by decide +kernel
theorem d0_747 : decode (m_code 0) 747 = .ok (.iconst 1, 1) := by decide +kernel
theorem d0_748 : decode (m_code 0) 748 = .ok (.iadd, 1) := by decide +kernel
theorem d0_749 : decode (m_code 0) 749 = .ok (.iaload, 1) := by decide +kernel
theorem d0_750 : decode (m_code 0) 750 = .ok (.invokevirtual 83, 3) := by decide +kernel
theorem d0_753 : decode (m_code 0) 753 = .ok (.aload_n 2, 1) := by decide +kernel
theorem d0_754 : decode (m_code 0) 754 = .ok (.aload_n 0, 1) := by decide +kernel
theorem d0_755 : decode (m_code 0) 755 = .ok (.iload_n 3, 1) := by decide +kernel
theorem d0_756 : decode (m_code 0) 756 = .ok (.iconst 1, 1) := by decide +kernel
theorem d0_757 : decode (m_code 0) 757 = .ok (.iadd, 1) := by decide +kernel
theorem d0_758 : decode (m_code 0) 758 = .ok (.iaload, 1) := by decide +kernel
theorem d0_759 : decode (m_code 0) 759 = .ok (.invokevirtual 86, 3) := by decide +kernel
theorem d0_762 : decode (m_code 0) 762 = .ok (.if_icmp .eq 540, 3) := by decide +kernel
theorem d0_767 : decode (m_code 0) 767 = .ok (.aload_n 1, 1) := by decide +kernel
theorem d0_768 : decode (m_code 0) 768 = .ok (.invokevirtual 87, 3) := by decide +kernel
theorem d0_771 : decode (m_code 0) 771 = .ok (.aload_n 2, 1) := by decide +kernel
theorem d0_772 : decode (m_code 0) 772 = .ok (.invokevirtual 90, 3) := by decide +kernel
theorem d0_775 : decode (m_code 0) 775 = .ok (.if_icmp .eq 527, 3) := by decide +kernel
theorem d0_780 : decode (m_code 0) 780 = .ok (.aload_n 1, 1) := by decide +kernel
theorem d0_781 : decode (m_code 0) 781 = .ok (.aload_n 0, 1) := by decide +kernel
theorem d0_782 : decode (m_code 0) 782 = .ok (.iload_n 3, 1) := by decide +kernel
theorem d0_783 : decode (m_code 0) 783 = .ok (.iconst 1, 1) := by decide +kernel
theorem d0_784 : decode (m_code 0) 784 = .ok (.iadd, 1) := by decide +kernel
theorem d0_785 : decode (m_code 0) 785 = .ok (.iaload, 1) := by decide +kernel
theorem d0_786 : decode (m_code 0) 786 = .ok (.i2c, 1) := by decide +kernel
theorem d0_787 : decode (m_code 0) 787 = .ok (.invokevirtual 91, 3) := by decide +kernel
theorem d0_790 : decode (m_code 0) 790 = .ok (.aload_n 2, 1) := by decide +kernel
theorem d0_791 : decode (m_code 0) 791 = .ok (.aload_n 0, 1) := by decide +kernel
theorem d0_792 : decode (m_code 0) 792 = .ok (.iload_n 3, 1) := by decide +kernel
theorem d0_793 : decode (m_code 0) 793 = .ok (.iconst 1, 1) := by decide +kernel
theorem d0_794 : decode (m_code 0) 794 = .ok (.iadd, 1) := by decide +kernel
theorem d0_795 : decode (m_code 0) 795 = .ok (.iaload, 1) := by decide +kernel
theorem d0_796 : decode (m_code 0) 796 = .ok (.i2c, 1) := by decide +kernel
theorem d0_797 : decode (m_code 0) 797 = .ok (.invokevirtual 95, 3) := by decide +kernel
theorem d0_800 : decode (m_code 0) 800 = .ok (.if_icmp .eq 502, 3) := by decide +kernel
theorem d0_805 : decode (m_code 0) 805 = .ok (.aload_n 1, 1) := by decide +kernel
theorem d0_806 : decode (m_code 0) 806 = .ok (.invokevirtual 96, 3) := by decide +kernel
theorem d0_809 : decode (m_code 0) 809 = .ok (.aload_n 2, 1) := by decide +kernel
theorem d0_810 : decode (m_code 0) 810 = .ok (.invokevirtual 99, 3) := by decide +kernel
theorem d0_813 : decode (m_code 0) 813 = .ok (.if_icmp .eq 489, 3) := by decide +kernel
theorem d0_818 : decode (m_code 0) 818 = .ok (.aload_n 1, 1) := by decide +kernel
theorem d0_819 : decode (m_code 0) 819 = .ok (.aload_n 0, 1) := by decide +kernel
theorem d0_820 : decode (m_code 0) 820 = .ok (.iload_n 3, 1) := by decide +kernel
theorem d0_821 : decode (m_code 0) 821 = .ok (.iconst 1, 1) := by decide +kernel
theorem d0_822 : decode (m_code 0) 822 = .ok (.iadd, 1) := by decide +kernel
theorem d0_823 : decode (m_code 0) 823 = .ok (.iaload, 1) := by decide +kernel
theorem d0_824 : decode (m_code 0) 824 = .ok (.invokevirtual 100, 3) := by decide +kernel
theorem d0_827 : decode (m_code 0) 827 = .ok (.aload_n 2, 1) := by decide +kernel
theorem d0_828 : decode (m_code 0) 828 = .ok (.aload_n 0, 1) := by decide +kernel
theorem d0_829 : decode (m_code 0) 829 = .ok (.iload_n 3, 1) := by decide +kernel
theorem d0_830 : decode (m_code 0) 830 = .ok (.iconst 1, 1) := by decide +kernel
theorem d0_831 : decode (m_code 0) 831 = .ok (.iadd, 1) := by decide +kernel
theorem d0_832 : decode (m_code 0) 832 = .ok (.iaload, 1) := by decide +kernel
theorem d0_833 : decode (m_code 0) 833 = .ok (.invokevirtual 103, 3) := by decide +kernel
theorem d0_836 : decode (m_code 0) 836 = .ok (.if_icmp .eq 466, 3) := by decide +kernel
theorem d0_841 : decode (m_code 0) 841 = .ok (.aload_n 1, 1) := by decide +kernel
theorem d0_842 : decode (m_code 0) 842 = .ok (.invokevirtual 104, 3) := by decide +kernel
theorem d0_845 : decode (m_code 0) 845 = .ok (.aload_n 2, 1) := by decide +kernel
theorem d0_846 : decode (m_code 0) 846 = .ok (.invokevirtual 107, 3) := by decide +kernel
theorem d0_849 : decode (m_code 0) 849 = .ok (.if_icmp .eq 453, 3) := by decide +kernel
theorem d0_854 : decode (m_code 0) 854 = .ok (.aload_n 1, 1) := by decide +kernel
theorem d0_855 : decode (m_code 0) 855 = .ok (.invokevirtual 108, 3) := by decide +kernel
theorem d0_858 : decode (m_code 0) 858 = .ok (.aload_n 2, 1) := by decide +kernel
theorem d0_859 : decode (m_code 0) 859 = .ok (.invokevirtual 111, 3) := by decide +kernel
theorem d0_862 : decode (m_code 0) 862 = .ok (.if_icmp .eq 440, 3) := by decide +kernel
theorem d0_867 : decode (m_code 0) 867 = .ok (.aload_n 1, 1) := by decide +kernel
theorem d0_868 : decode (m_code 0) 868 = .ok (.invokevirtual 112, 3) := by decide +kernel
theorem d0_871 : decode (m_code 0) 871 = .ok (.aload_n 2, 1) := by decide +kernel
theorem d0_872 : decode (m_code 0) 872 = .ok (.invokevirtual 115, 3) := by decide +kernel
theorem d0_875 : decode (m_code 0) 875 = .ok (.if_icmp .eq 427, 3) := by decide +kernel
theorem d0_880 : decode (m_code 0) 880 = .ok (.aload_n 1, 1) := by decide +kernel
theorem d0_881 : decode (m_code 0) 881 = .ok (.aload_n 0, 1) := by decide +kernel
theorem d0_882 : decode (m_code 0) 882 = .ok (.iload_n 3, 1) := by decide +kernel
theorem d0_883 : decode (m_code 0) 883 = .ok (.iconst 1, 1) := by decide +kernel
theorem d0_884 : decode (m_code 0) 884 = .ok (.iadd, 1) := by decide +kernel
theorem d0_885 : decode (m_code 0) 885 = .ok (.iaload, 1) := by decide +kernel
theorem d0_886 : decode (m_code 0) 886 = .ok (.aload_n 0, 1) := by decide +kernel
theorem d0_887 : decode (m_code 0) 887 = .ok (.iload_n 3, 1) := by decide +kernel
theorem d0_888 : decode (m_code 0) 888 = .ok (.iconst 2, 1) := by decide +kernel
theorem d0_889 : decode (m_code 0) 889 = .ok (.iadd, 1) := by decide +kernel
theorem d0_890 : decode (m_code 0) 890 = .ok (.iaload, 1) := by decide +kernel
theorem d0_891 : decode (m_code 0) 891 = .ok (.invokevirtual 116, 3) := by decide +kernel
theorem d0_894 : decode (m_code 0) 894 = .ok (.aload_n 2, 1) := by decide +kernel
theorem d0_895 : decode (m_code 0) 895 = .ok (.aload_n 0, 1) := by decide +kernel
theorem d0_896 : decode (m_code 0) 896 = .ok (.iload_n 3, 1) := by decide +kernel
theorem d0_897 : decode (m_code 0) 897 = .ok (.iconst 1, 1) := by decide +kernel
theorem d0_898 : decode (m_code 0) 898 = .ok (.iadd, 1) := by decide +kernel
theorem d0_899 : decode (m_code 0) 899 = .ok (.iaload, 1) := by decide +kernel
theorem d0_900 : decode (m_code 0) 900 = .ok (.aload_n 0, 1) := by decide +kernel
theorem d0_901 : decode (m_code 0) 901 = .ok (.iload_n 3, 1) := by decide +kernel
theorem d0_902 : decode (m_code 0) 902 = .ok (.iconst 2, 1) := by decide +kernel
theorem d0_903 : decode (m_code 0) 903 = .ok (.iadd, 1) := by decide +kernel
theorem d0_904 : decode (m_code 0) 904 = .ok (.iaload, 1) := by decide +kernel
theorem d0_905 : decode (m_code 0) 905 = .ok (.invokevirtual 119, 3) := by decide +kernel
theorem d0_908 : decode (m_code 0) 908 = .ok (.if_icmp .eq 394, 3) := by decide +kernel
theorem d0_913 : decode (m_code 0) 913 = .ok (.aload_n 1, 1) := by decide +kernel
theorem d0_914 : decode (m_code 0) 914 = .ok (.aload_n 0, 1) := by decide +kernel
theorem d0_915 : decode (m_code 0) 915 = .ok (.iload_n 3, 1) := by decide +kernel
theorem d0_916 : decode (m_code 0) 916 = .ok (.iconst 1, 1) := by decide +kernel
theorem d0_917 : decode (m_code 0) 917 = .ok (.iadd, 1) := by decide +kernel
theorem d0_918 : decode (m_code 0) 918 = .ok (.iaload, 1) := by decide +kernel
theorem d0_919 : decode (m_code 0) 919 = .ok (.aload_n 0, 1) := by decide +kernel
theorem d0_920 : decode (m_code 0) 920 = .ok (.iload_n 3, 1) := by decide +kernel
theorem d0_921 : decode (m_code 0) 921 = .ok (.iconst 2, 1) := by decide +kernel
theorem d0_922 : decode (m_code 0) 922 = .ok (.iadd, 1) := by decide +kernel
theorem d0_923 : decode (m_code 0) 923 = .ok (.iaload, 1) := by decide +kernel
theorem d0_924 : decode (m_code 0) 924 = .ok (.invokevirtual 120, 3) := by decide +kernel
theorem d0_927 : decode (m_code 0) 927 = .ok (.aload_n 2, 1) := by decide +kernel
theorem d0_928 : decode (m_code 0) 928 = .ok (.aload_n 0, 1) := by decide +kernel
theorem d0_929 : decode (m_code 0) 929 = .ok (.iload_n 3, 1) := by decide +kernel
theorem d0_930 : decode (m_code 0) 930 = .ok (.iconst 1, 1) := by decide +kernel
theorem d0_931 : decode (m_code 0) 931 = .ok (.iadd, 1) := by decide +kernel
theorem d0_932 : decode (m_code 0) 932 = .ok (.iaload, 1) := by decide +kernel
theorem d0_933 : decode (m_code 0) 933 = .ok (.aload_n 0, 1) := by decide +kernel
theorem d0_934 : decode (m_code 0) 934 = .ok (.iload_n 3, 1) := by decide +kernel
theorem d0_935 : decode (m_code 0) 935 = .ok (.iconst 2, 1) := by decide +kernel
theorem d0_936 : decode (m_code 0) 936 = .ok (.iadd, 1) := by decide +kernel
theorem d0_937 : decode (m_code 0) 937 = .ok (.iaload, 1) := by decide +kernel
theorem d0_938 : decode (m_code 0) 938 = .ok (.invokevirtual 123, 3) := by decide +kernel
theorem d0_941 : decode (m_code 0) 941 = .ok (.if_icmp .eq 361, 3) := by decide +kernel
theorem d0_946 : decode (m_code 0) 946 = .ok (.aload_n 1, 1) := by decide +kernel
theorem d0_947 : decode (m_code 0) 947 = .ok (.aload_n 0, 1) := by decide +kernel
theorem d0_948 : decode (m_code 0) 948 = .ok (.iload_n 3, 1) := by decide +kernel
theorem d0_949 : decode (m_code 0) 949 = .ok (.iconst 1, 1) := by decide +kernel
theorem d0_950 : decode (m_code 0) 950 = .ok (.iadd, 1) := by decide +kernel
theorem d0_951 : decode (m_code 0) 951 = .ok (.iaload, 1) := by decide +kernel
theorem d0_952 : decode (m_code 0) 952 = .ok (.aload_n 0, 1) := by decide +kernel
theorem d0_953 : decode (m_code 0) 953 = .ok (.iload_n 3, 1) := by decide +kernel
theorem d0_954 : decode (m_code 0) 954 = .ok (.iconst 2, 1) := by decide +kernel
theorem d0_955 : decode (m_code 0) 955 = .ok (.iadd, 1) := by decide +kernel
theorem d0_956 : decode (m_code 0) 956 = .ok (.iaload, 1) := by decide +kernel
theorem d0_957 : decode (m_code 0) 957 = .ok (.invokevirtual 124, 3) := by decide +kernel
theorem d0_960 : decode (m_code 0) 960 = .ok (.aload_n 2, 1) := by decide +kernel
theorem d0_961 : decode (m_code 0) 961 = .ok (.aload_n 0, 1) := by decide +kernel
theorem d0_962 : decode (m_code 0) 962 = .ok (.iload_n 3, 1) := by decide +kernel
theorem d0_963 : decode (m_code 0) 963 = .ok (.iconst 1, 1) := by decide +kernel
theorem d0_964 : decode (m_code 0) 964 = .ok (.iadd, 1) := by decide +kernel
theorem d0_965 : decode (m_code 0) 965 = .ok (.iaload, 1) := by decide +kernel
theorem d0_966 : decode (m_code 0) 966 = .ok (.aload_n 0, 1) := by decide +kernel
theorem d0_967 : decode (m_code 0) 967 = .ok (.iload_n 3, 1) := by decide +kernel
theorem d0_968 : decode (m_code 0) 968 = .ok (.iconst 2, 1) := by decide +kernel
theorem d0_969 : decode (m_code 0) 969 = .ok (.iadd, 1) := by decide +kernel
theorem d0_970 : decode (m_code 0) 970 = .ok (.iaload, 1) := by decide +kernel
theorem d0_971 : decode (m_code 0) 971 = .ok (.invokevirtual 127, 3) := by decide +kernel
theorem d0_974 : decode (m_code 0) 974 = .ok (.if_icmp .eq 328, 3) := by decide +kernel
theorem d0_979 : decode (m_code 0) 979 = .ok (.aload_n 1, 1) := by decide +kernel
theorem d0_980 : decode (m_code 0) 980 = .ok (.aload_n 0, 1) := by decide +kernel
theorem d0_981 : decode (m_code 0) 981 = .ok (.iload_n 3, 1) := by decide +kernel
theorem d0_982 : decode (m_code 0) 982 = .ok (.iconst 1, 1) := by decide +kernel
theorem d0_983 : decode (m_code 0) 983 = .ok (.iadd, 1) := by decide +kernel
theorem d0_984 : decode (m_code 0) 984 = .ok (.iaload, 1) := by decide +kernel
theorem d0_985 : decode (m_code 0) 985 = .ok (.aload_n 0, 1) := by decide +kernel
theorem d0_986 : decode (m_code 0) 986 = .ok (.iload_n 3, 1) := by decide +kernel
theorem d0_987 : decode (m_code 0) 987 = .ok (.iconst 2, 1) := by decide +kernel
theorem d0_988 : decode (m_code 0) 988 = .ok (.iadd, 1) := by decide +kernel
theorem d0_989 : decode (m_code 0) 989 = .ok (.iaload, 1) := by decide +kernel
theorem d0_990 : decode (m_code 0) 990 = .ok (.invokevirtual 128, 3) := by decide +kernel
theorem d0_993 : decode (m_code 0) 993 = .ok (.aload_n 2, 1) := by decide +kernel
theorem d0_994 : decode (m_code 0) 994 = .ok (.aload_n 0, 1) := by decide +kernel
theorem d0_995 : decode (m_code 0) 995 = .ok (.iload_n 3, 1) := by decide +kernel
theorem d0_996 : decode (m_code 0) 996 = .ok (.iconst 1, 1) := by decide +kernel
theorem d0_997 : decode (m_code 0) 997 = .ok (.iadd, 1) := by decide +kernel
theorem d0_998 : decode (m_code 0) 998 = .ok (.iaload, 1) := by decide +kernel
theorem d0_999 : decode (m_code 0) 999 = .ok (.aload_n 0, 1) := by decide +kernel
theorem d0_1000 : decode (m_code 0) 1000 = .ok (.iload_n 3, 1) := by decide +kernel
theorem d0_1001 : decode (m_code 0) 1001 = .ok (.iconst 2, 1) := by decide +kernel
theorem d0_1002 : decode (m_code 0) 1002 = .ok (.iadd, 1) := by decide +kernel
theorem d0_1003 : decode (m_code 0) 1003 = .ok (.iaload, 1) := by decide +kernel
theorem d0_1004 : decode (m_code 0) 1004 = .ok (.invokevirtual 131, 3) := by decide +kernel
theorem d0_1007 : decode (m_code 0) 1007 = .ok (.if_icmp .eq 295, 3) := by decide +kernel
theorem d0_1012 : decode (m_code 0) 1012 = .ok (.aload_n 1, 1) := by decide +kernel
theorem d0_1013 : decode (m_code 0) 1013 = .ok (.aload_n 0, 1) := by decide +kernel
theorem d0_1014 : decode (m_code 0) 1014 = .ok (.iload_n 3, 1) := by decide +kernel
theorem d0_1015 : decode (m_code 0) 1015 = .ok (.iconst 1, 1) := by decide +kernel
theorem d0_1016 : decode (m_code 0) 1016 = .ok (.iadd, 1) := by decide +kernel
theorem d0_1017 : decode (m_code 0) 1017 = .ok (.iaload, 1) := by decide +kernel
theorem d0_1018 : decode (m_code 0) 1018 = .ok (.aload_n 0, 1) := by decide +kernel
theorem d0_1019 : decode (m_code 0) 1019 = .ok (.iload_n 3, 1) := by decide +kernel
theorem d0_1020 : decode (m_code 0) 1020 = .ok (.iconst 2, 1) := by decide +kernel
theorem d0_1021 : decode (m_code 0) 1021 = .ok (.iadd, 1) := by decide +kernel
theorem d0_1022 : decode (m_code 0) 1022 = .ok (.iaload, 1) := by decide +kernel
theorem d0_1023 : decode (m_code 0) 1023 = .ok (.invokevirtual 132, 3) := by decide +kernel
theorem d0_1026 : decode (m_code 0) 1026 = .ok (.aload_n 2, 1) := by decide +kernel
theorem d0_1027 : decode (m_code 0) 1027 = .ok (.aload_n 0, 1) := by decide +kernel
theorem d0_1028 : decode (m_code 0) 1028 = .ok (.iload_n 3, 1) := by decide +kernel
theorem d0_1029 : decode (m_code 0) 1029 = .ok (.iconst 1, 1) := by decide +kernel
theorem d0_1030 : decode (m_code 0) 1030 = .ok (.iadd, 1) := by decide +kernel
theorem d0_1031 : decode (m_code 0) 1031 = .ok (.iaload, 1) := by decide +kernel
theorem d0_1032 : decode (m_code 0) 1032 = .ok (.aload_n 0, 1) := by decide +kernel
theorem d0_1033 : decode (m_code 0) 1033 = .ok (.iload_n 3, 1) := by decide +kernel
theorem d0_1034 : decode (m_code 0) 1034 = .ok (.iconst 2, 1) := by decide +kernel
theorem d0_1035 : decode (m_code 0) 1035 = .ok (.iadd, 1) := by decide +kernel
theorem d0_1036 : decode (m_code 0) 1036 = .ok (.iaload, 1) := by decide +kernel
theorem d0_1037 : decode (m_code 0) 1037 = .ok (.invokevirtual 135, 3) := by decide +kernel
theorem d0_1040 : decode (m_code 0) 1040 = .ok (.if_icmp .eq 262, 3) := by decide +kernel
theorem d0_1045 : decode (m_code 0) 1045 = .ok (.aload_n 1, 1) := by decide +kernel
theorem d0_1046 : decode (m_code 0) 1046 = .ok (.aload_n 0, 1) := by decide +kernel
theorem d0_1047 : decode (m_code 0) 1047 = .ok (.iload_n 3, 1) := by decide +kernel
theorem d0_1048 : decode (m_code 0) 1048 = .ok (.iconst 1, 1) := by decide +kernel
theorem d0_1049 : decode (m_code 0) 1049 = .ok (.iadd, 1) := by decide +kernel
theorem d0_1050 : decode (m_code 0) 1050 = .ok (.iaload, 1) := by decide +kernel
theorem d0_1051 : decode (m_code 0) 1051 = .ok (.invokevirtual 136, 3) := by decide +kernel
theorem d0_1054 : decode (m_code 0) 1054 = .ok (.aload_n 2, 1) := by decide +kernel
theorem d0_1055 : decode (m_code 0) 1055 = .ok (.aload_n 0, 1) := by decide +kernel
theorem d0_1056 : decode (m_code 0) 1056 = .ok (.iload_n 3, 1) := by decide +kernel
theorem d0_1057 : decode (m_code 0) 1057 = .ok (.iconst 1, 1) := by decide +kernel
theorem d0_1058 : decode (m_code 0) 1058 = .ok (.iadd, 1) := by decide +kernel
theorem d0_1059 : decode (m_code 0) 1059 = .ok (.iaload, 1) := by decide +kernel
theorem d0_1060 : decode (m_code 0) 1060 = .ok (.invokevirtual 139, 3) := by decide +kernel
theorem d0_1063 : decode (m_code 0) 1063 = .ok (.if_icmp .eq 239, 3) := by decide +kernel
theorem d0_1068 : decode (m_code 0) 1068 = .ok (.aload_n 1, 1) := by decide +kernel
theorem d0_1069 : decode (m_code 0) 1069 = .ok (.aload_n 0, 1) := by decide +kernel
theorem d0_1070 : decode (m_code 0) 1070 = .ok (.iload_n 3, 1) := by decide +kernel
theorem d0_1071 : decode (m_code 0) 1071 = .ok (.iconst 1, 1) := by decide +kernel
theorem d0_1072 : decode (m_code 0) 1072 = .ok (.iadd, 1) := by decide +kernel
theorem d0_1073 : decode (m_code 0) 1073 = .ok (.iaload, 1) := by decide +kernel
theorem d0_1074 : decode (m_code 0) 1074 = .ok (.aload_n 0, 1) := by decide +kernel
theorem d0_1075 : decode (m_code 0) 1075 = .ok (.iload_n 3, 1) := by decide +kernel
theorem d0_1076 : decode (m_code 0) 1076 = .ok (.iconst 2, 1) := by decide +kernel
theorem d0_1077 : decode (m_code 0) 1077 = .ok (.iadd, 1) := by decide +kernel
theorem d0_1078 : decode (m_code 0) 1078 = .ok (.iaload, 1) := by decide +kernel
theorem d0_1079 : decode (m_code 0) 1079 = .ok (.invokevirtual 140, 3) := by decide +kernel
theorem d0_1082 : decode (m_code 0) 1082 = .ok (.aload_n 2, 1) := by decide +kernel
theorem d0_1083 : decode (m_code 0) 1083 = .ok (.aload_n 0, 1) := by decide +kernel
theorem d0_1084 : decode (m_code 0) 1084 = .ok (.iload_n 3, 1) := by decide +kernel
theorem d0_1085 : decode (m_code 0) 1085 = .ok (.iconst 1, 1) := by decide +kernel
theorem d0_1086 : decode (m_code 0) 1086 = .ok (.iadd, 1) := by decide +kernel
theorem d0_1087 : decode (m_code 0) 1087 = .ok (.iaload, 1) := by decide +kernel
theorem d0_1088 : decode (m_code 0) 1088 = .ok (.aload_n 0, 1) := by decide +kernel
theorem d0_1089 : decode (m_code 0) 1089 = .ok (.iload_n 3, 1) := by decide +kernel
theorem d0_1090 : decode (m_code 0) 1090 = .ok (.iconst 2, 1) := by decide +kernel
theorem d0_1091 : decode (m_code 0) 1091 = .ok (.iadd, 1) := by decide +kernel
theorem d0_1092 : decode (m_code 0) 1092 = .ok (.iaload, 1) := by decide +kernel
theorem d0_1093 : decode (m_code 0) 1093 = .ok (.invokevirtual 143, 3) := by decide +kernel
theorem d0_1096 : decode (m_code 0) 1096 = .ok (.if_icmp .eq 206, 3) := by decide +kernel
theorem d0_1101 : decode (m_code 0) 1101 = .ok (.aload_n 1, 1) := by decide +kernel
theorem d0_1102 : decode (m_code 0) 1102 = .ok (.aload_n 0, 1) := by decide +kernel
theorem d0_1103 : decode (m_code 0) 1103 = .ok (.iload_n 3, 1) := by decide +kernel
theorem d0_1104 : decode (m_code 0) 1104 = .ok (.iconst 1, 1) := by decide +kernel
theorem d0_1105 : decode (m_code 0) 1105 = .ok (.iadd, 1) := by decide +kernel
theorem d0_1106 : decode (m_code 0) 1106 = .ok (.iaload, 1) := by decide +kernel
theorem d0_1107 : decode (m_code 0) 1107 = .ok (.aload_n 0, 1) := by decide +kernel
theorem d0_1108 : decode (m_code 0) 1108 = .ok (.iload_n 3, 1) := by decide +kernel
theorem d0_1109 : decode (m_code 0) 1109 = .ok (.iconst 2, 1) := by decide +kernel
theorem d0_1110 : decode (m_code 0) 1110 = .ok (.iadd, 1) := by decide +kernel
theorem d0_1111 : decode (m_code 0) 1111 = .ok (.iaload, 1) := by decide +kernel
theorem d0_1112 : decode (m_code 0) 1112 = .ok (.invokevirtual 144, 3) := by decide +kernel
theorem d0_1115 : decode (m_code 0) 1115 = .ok (.aload_n 2, 1) := by decide +kernel
theorem d0_1116 : decode (m_code 0) 1116 = .ok (.aload_n 0, 1) := by decide +kernel
theorem d0_1117 : decode (m_code 0) 1117 = .ok (.iload_n 3, 1) := by decide +kernel
theorem d0_1118 : decode (m_code 0) 1118 = .ok (.iconst 1, 1) := by decide +kernel
theorem d0_1119 : decode (m_code 0) 1119 = .ok (.iadd, 1) := by decide +kernel
theorem d0_1120 : decode (m_code 0) 1120 = .ok (.iaload, 1) := by decide +kernel
theorem d0_1121 : decode (m_code 0) 1121 = .ok (.aload_n 0, 1) := by decide +kernel
theorem d0_1122 : decode (m_code 0) 1122 = .ok (.iload_n 3, 1) := by decide +kernel
theorem d0_1123 : decode (m_code 0) 1123 = .ok (.iconst 2, 1) := by decide +kernel
theorem d0_1124 : decode (m_code 0) 1124 = .ok (.iadd, 1) := by decide +kernel
theorem d0_1125 : decode (m_code 0) 1125 = .ok (.iaload, 1) := by decide +kernel
theorem d0_1126 : decode (m_code 0) 1126 = .ok (.invokevirtual 147, 3) := by decide +kernel
theorem d0_1129 : decode (m_code 0) 1129 = .ok (.if_icmp .eq 173, 3) := by decide +kernel
theorem d0_1134 : decode (m_code 0) 1134 = .ok (.aload_n 1, 1) := by decide +kernel
theorem d0_1135 : decode (m_code 0) 1135 = .ok (.aload_n 0, 1) := by decide +kernel
theorem d0_1136 : decode (m_code 0) 1136 = .ok (.iload_n 3, 1) := by decide +kernel
theorem d0_1137 : decode (m_code 0) 1137 = .ok (.iconst 1, 1) := by decide +kernel
theorem d0_1138 : decode (m_code 0) 1138 = .ok (.iadd, 1) := by decide +kernel
theorem d0_1139 : decode (m_code 0) 1139 = .ok (.iaload, 1) := by decide +kernel
theorem d0_1140 : decode (m_code 0) 1140 = .ok (.aload_n 0, 1) := by decide +kernel
theorem d0_1141 : decode (m_code 0) 1141 = .ok (.iload_n 3, 1) := by decide +kernel
theorem d0_1142 : decode (m_code 0) 1142 = .ok (.iconst 2, 1) := by decide +kernel
theorem d0_1143 : decode (m_code 0) 1143 = .ok (.iadd, 1) := by decide +kernel
theorem d0_1144 : decode (m_code 0) 1144 = .ok (.iaload, 1) := by decide +kernel
theorem d0_1145 : decode (m_code 0) 1145 = .ok (.invokevirtual 148, 3) := by decide +kernel
theorem d0_1148 : decode (m_code 0) 1148 = .ok (.aload_n 2, 1) := by decide +kernel
theorem d0_1149 : decode (m_code 0) 1149 = .ok (.aload_n 0, 1) := by decide +kernel
theorem d0_1150 : decode (m_code 0) 1150 = .ok (.iload_n 3, 1) := by decide +kernel
theorem d0_1151 : decode (m_code 0) 1151 = .ok (.iconst 1, 1) := by decide +kernel
theorem d0_1152 : decode (m_code 0) 1152 = .ok (.iadd, 1) := by decide +kernel
theorem d0_1153 : decode (m_code 0) 1153 = .ok (.iaload, 1) := by decide +kernel
theorem d0_1154 : decode (m_code 0) 1154 = .ok (.aload_n 0, 1) := by decide +kernel
theorem d0_1155 : decode (m_code 0) 1155 = .ok (.iload_n 3, 1) := by decide +kernel
theorem d0_1156 : decode (m_code 0) 1156 = .ok (.iconst 2, 1) := by decide +kernel
theorem d0_1157 : decode (m_code 0) 1157 = .ok (.iadd, 1) := by decide +kernel
theorem d0_1158 : decode (m_code 0) 1158 = .ok (.iaload, 1) := by decide +kernel
theorem d0_1159 : decode (m_code 0) 1159 = .ok (.invokevirtual 151, 3) := by decide +kernel
theorem d0_1162 : decode (m_code 0) 1162 = .ok (.if_icmp .eq 140, 3) := by decide +kernel
theorem d0_1167 : decode (m_code 0) 1167 = .ok (.aload_n 1, 1) := by decide +kernel
theorem d0_1168 : decode (m_code 0) 1168 = .ok (.aload_n 0, 1) := by decide +kernel
theorem d0_1169 : decode (m_code 0) 1169 = .ok (.iload_n 3, 1) := by decide +kernel
theorem d0_1170 : decode (m_code 0) 1170 = .ok (.iconst 1, 1) := by decide +kernel
theorem d0_1171 : decode (m_code 0) 1171 = .ok (.iadd, 1) := by decide +kernel
theorem d0_1172 : decode (m_code 0) 1172 = .ok (.iaload, 1) := by decide +kernel
theorem d0_1173 : decode (m_code 0) 1173 = .ok (.aload_n 0, 1) := by decide +kernel
theorem d0_1174 : decode (m_code 0) 1174 = .ok (.iload_n 3, 1) := by decide +kernel
theorem d0_1175 : decode (m_code 0) 1175 = .ok (.iconst 2, 1) := by decide +kernel
theorem d0_1176 : decode (m_code 0) 1176 = .ok (.iadd, 1) := by decide +kernel
theorem d0_1177 : decode (m_code 0) 1177 = .ok (.iaload, 1) := by decide +kernel
theorem d0_1178 : decode (m_code 0) 1178 = .ok (.aload_n 0, 1) := by decide +kernel
theorem d0_1179 : decode (m_code 0) 1179 = .ok (.iload_n 3, 1) := by decide +kernel
theorem d0_1180 : decode (m_code 0) 1180 = .ok (.iconst 3, 1) := by decide +kernel
theorem d0_1181 : decode (m_code 0) 1181 = .ok (.iadd, 1) := by decide +kernel
theorem d0_1182 : decode (m_code 0) 1182 = .ok (.iaload, 1) := by decide +kernel
theorem d0_1183 : decode (m_code 0) 1183 = .ok (.invokevirtual 152, 3) := by decide +kernel
theorem d0_1186 : decode (m_code 0) 1186 = .ok (.aload_n 2, 1) := by decide +kernel
theorem d0_1187 : decode (m_code 0) 1187 = .ok (.aload_n 0, 1) := by decide +kernel
theorem d0_1188 : decode (m_code 0) 1188 = .ok (.iload_n 3, 1) := by decide +kernel
theorem d0_1189 : decode (m_code 0) 1189 = .ok (.iconst 1, 1) := by decide +kernel
theorem d0_1190 : decode (m_code 0) 1190 = .ok (.iadd, 1) := by decide +kernel
theorem d0_1191 : decode (m_code 0) 1191 = .ok (.iaload, 1) := by decide +kernel
theorem d0_1192 : decode (m_code 0) 1192 = .ok (.aload_n 0, 1) := by decide +kernel
theorem d0_1193 : decode (m_code 0) 1193 = .ok (.iload_n 3, 1) := by decide +kernel
theorem d0_1194 : decode (m_code 0) 1194 = .ok (.iconst 2, 1) := by decide +kernel
theorem d0_1195 : decode (m_code 0) 1195 = .ok (.iadd, 1) := by decide +kernel
theorem d0_1196 : decode (m_code 0) 1196 = .ok (.iaload, 1) := by decide +kernel
theorem d0_1197 : decode (m_code 0) 1197 = .ok (.aload_n 0, 1) := by decide +kernel
theorem d0_1198 : decode (m_code 0) 1198 = .ok (.iload_n 3, 1) := by decide +kernel
theorem d0_1199 : decode (m_code 0) 1199 = .ok (.iconst 3, 1) := by decide +kernel
theorem d0_1200 : decode (m_code 0) 1200 = .ok (.iadd, 1) := by decide +kernel
theorem d0_1201 : decode (m_code 0) 1201 = .ok (.iaload, 1) := by decide +kernel
theorem d0_1202 : decode (m_code 0) 1202 = .ok (.invokevirtual 155, 3) := by decide +kernel
theorem d0_1205 : decode (m_code 0) 1205 = .ok (.if_icmp .eq 97, 3) := by decide +kernel
theorem d0_1210 : decode (m_code 0) 1210 = .ok (.aload_n 1, 1) := by decide +kernel
theorem d0_1211 : decode (m_code 0) 1211 = .ok (.aload_n 0, 1) := by decide +kernel
theorem d0_1212 : decode (m_code 0) 1212 = .ok (.iload_n 3, 1) := by decide +kernel
theorem d0_1213 : decode (m_code 0) 1213 = .ok (.iconst 1, 1) := by decide +kernel
theorem d0_1214 : decode (m_code 0) 1214 = .ok (.iadd, 1) := by decide +kernel
theorem d0_1215 : decode (m_code 0) 1215 = .ok (.iaload, 1) := by decide +kernel
theorem d0_1216 : decode (m_code 0) 1216 = .ok (.aload_n 0, 1) := by decide +kernel
theorem d0_1217 : decode (m_code 0) 1217 = .ok (.iload_n 3, 1) := by decide +kernel
theorem d0_1218 : decode (m_code 0) 1218 = .ok (.iconst 2, 1) := by decide +kernel
theorem d0_1219 : decode (m_code 0) 1219 = .ok (.iadd, 1) := by decide +kernel
theorem d0_1220 : decode (m_code 0) 1220 = .ok (.iaload, 1) := by decide +kernel
theorem d0_1221 : decode (m_code 0) 1221 = .ok (.invokevirtual 156, 3) := by decide +kernel
theorem d0_1224 : decode (m_code 0) 1224 = .ok (.aload_n 2, 1) := by decide +kernel
theorem d0_1225 : decode (m_code 0) 1225 = .ok (.aload_n 0, 1) := by decide +kernel
theorem d0_1226 : decode (m_code 0) 1226 = .ok (.iload_n 3, 1) := by decide +kernel
theorem d0_1227 : decode (m_code 0) 1227 = .ok (.iconst 1, 1) := by decide +kernel
theorem d0_1228 : decode (m_code 0) 1228 = .ok (.iadd, 1) := by decide +kernel
theorem d0_1229 : decode (m_code 0) 1229 = .ok (.iaload, 1) := by decide +kernel
theorem d0_1230 : decode (m_code 0) 1230 = .ok (.aload_n 0, 1) := by decide +kernel
theorem d0_1231 : decode (m_code 0) 1231 = .ok (.iload_n 3, 1) := by decide +kernel
theorem d0_1232 : decode (m_code 0) 1232 = .ok (.iconst 2, 1) := by decide +kernel
theorem d0_1233 : decode (m_code 0) 1233 = .ok (.iadd, 1) := by decide +kernel
theorem d0_1234 : decode (m_code 0) 1234 = .ok (.iaload, 1) := by decide +kernel
theorem d0_1235 : decode (m_code 0) 1235 = .ok (.invokevirtual 159, 3) := by decide +kernel
theorem d0_1238 : decode (m_code 0) 1238 = .ok (.if_icmp .eq 64, 3) := by decide +kernel
theorem d0_1243 : decode (m_code 0) 1243 = .ok (.aload_n 1, 1) := by decide +kernel
theorem d0_1244 : decode (m_code 0) 1244 = .ok (.invokevirtual 160, 3) := by decide +kernel
theorem d0_1247 : decode (m_code 0) 1247 = .ok (.aload_n 2, 1) := by decide +kernel
theorem d0_1248 : decode (m_code 0) 1248 = .ok (.invokevirtual 163, 3) := by decide +kernel
theorem d0_1251 : decode (m_code 0) 1251 = .ok (.if_icmp .eq 51, 3) := by decide +kernel
theorem d0_1256 : decode (m_code 0) 1256 = .ok (.aload_n 1, 1) := by decide +kernel
theorem d0_1257 : decode (m_code 0) 1257 = .ok (.aload_n 0, 1) := by decide +kernel
theorem d0_1258 : decode (m_code 0) 1258 = .ok (.iload_n 3, 1) := by decide +kernel
theorem d0_1259 : decode (m_code 0) 1259 = .ok (.iconst 1, 1) := by decide +kernel
theorem d0_1260 : decode (m_code 0) 1260 = .ok (.iadd, 1) := by decide +kernel
theorem d0_1261 : decode (m_code 0) 1261 = .ok (.iaload, 1) := by decide +kernel
theorem d0_1262 : decode (m_code 0) 1262 = .ok (.invokevirtual 164, 3) := by decide +kernel
theorem d0_1265 : decode (m_code 0) 1265 = .ok (.aload_n 2, 1) := by decide +kernel
theorem d0_1266 : decode (m_code 0) 1266 = .ok (.aload_n 0, 1) := by decide +kernel
theorem d0_1267 : decode (m_code 0) 1267 = .ok (.iload_n 3, 1) := by decide +kernel
theorem d0_1268 : decode (m_code 0) 1268 = .ok (.iconst 1, 1) := by decide +kernel
theorem d0_1269 : decode (m_code 0) 1269 = .ok (.iadd, 1) := by decide +kernel
theorem d0_1270 : decode (m_code 0) 1270 = .ok (.iaload, 1) := by decide +kernel
theorem d0_1271 : decode (m_code 0) 1271 = .ok (.invokevirtual 167, 3) := by decide +kernel
theorem d0_1274 : decode (m_code 0) 1274 = .ok (.if_icmp .eq 28, 3) := by decide +kernel
theorem d0_1279 : decode (m_code 0) 1279 = .ok (.aload_n 1, 1) := by decide +kernel
theorem d0_1280 : decode (m_code 0) 1280 = .ok (.aload_n 0, 1) := by decide +kernel
theorem d0_1281 : decode (m_code 0) 1281 = .ok (.iload_n 3, 1) := by decide +kernel
theorem d0_1282 : decode (m_code 0) 1282 = .ok (.iconst 1, 1) := by decide +kernel
theorem d0_1283 : decode (m_code 0) 1283 = .ok (.iadd, 1) := by decide +kernel
theorem d0_1284 : decode (m_code 0) 1284 = .ok (.iaload, 1) := by decide +kernel
theorem d0_1285 : decode (m_code 0) 1285 = .ok (.invokevirtual 168, 3) := by decide +kernel
theorem d0_1288 : decode (m_code 0) 1288 = .ok (.aload_n 2, 1) := by decide +kernel
theorem d0_1289 : decode (m_code 0) 1289 = .ok (.aload_n 0, 1) := by decide +kernel
theorem d0_1290 : decode (m_code 0) 1290 = .ok (.iload_n 3, 1) := by decide +kernel
theorem d0_1291 : decode (m_code 0) 1291 = .ok (.iconst 1, 1) := by decide +kernel
theorem d0_1292 : decode (m_code 0) 1292 = .ok (.iadd, 1) := by decide +kernel
theorem d0_1293 : decode (m_code 0) 1293 = .ok (.iaload, 1) := by decide +kernel
theorem d0_1294 : decode (m_code 0) 1294 = .ok (.invokevirtual 171, 3) := by decide +kernel
theorem d0_1297 : decode (m_code 0) 1297 = .ok (.if_icmp .eq 5, 3) := by decide +kernel
theorem d0_1302 : decode (m_code 0) 1302 = .ok (.iinc 3 5, 3) := by decide +kernel
theorem d0_1305 : decode (m_code 0) 1305 = .ok (.goto (-1287), 3) := by decide +kernel
theorem d0_1308 : decode (m_code 0) 1308 = .ok (.iconst 1, 1) := by decide +kernel
theorem d0_1309 : decode (m_code 0) 1309 = .ok (.ireturn, 1) := by decide +kernel
theorem Inv.at0 {h : mH} (hI : Inv h) : ∃ fs, m_get h 0 = some (.inr (0, fs)) := by
  obtain ⟨V, p, q, u, v, n, hk, tl, sg, R, σ, hP, hW, hCel, -⟩ := hI
  exact ⟨_, hCel.1⟩
theorem Inv.bnd {h : mH} (hI : Inv h) : h.1.length ≤ 600000 ∧ h.2 ≤ 7302250 := by
  obtain ⟨V, p, q, u, v, n, hk, tl, sg, R, σ, hP, hW, -⟩ := hI
  exact hW.bnd
theorem lw_cmp {L k : Nat} (hL : L ≤ 2560) (hk : k ≤ L) (h : ¬ nI L - nI 5 < nI k) : k + 5 ≤ L := by
  apply Classical.byContradiction
  intro z
  refine h ?_
  rw [Int32.lt_iff_toInt_lt, Int32.toInt_sub, nI_int (by omega), nI_int (by omega), nI_int (by omega), Int.bmod_eq_of_le (by omega) (by omega)]
  omega
theorem lw_loop {L : Nat} {xs : Nat → Int32} (hL : L ≤ 2560) : ∀ (d k : Nat) (h : mH), L - k = d → k ≤ L → Inv h → m_wp (L, xs) 0 18 [some (.float 0), some (.ref 0), some (.ref 313), some (.int (nI k))] [] h (fun v h1 => v = some (.int 1) ∧ Inv h1) := by
  intro d
  induction d using Nat.strongRecOn with
  | ind d ih =>
    intro k h hd hk hI
    subst hd
    obtain ⟨f0, h0⟩ := hI.at0
    refine wp_iload_n d0_18 rfl ?_
    refine wp_sload_n d0_19 rfl ?_
    refine wp_slen d0_20 (v := nI L) rfl ?_
    refine wp_iconst d0_21 (v := nI 5) (by decide) ?_
    refine wp_isub d0_22 ?_
    refine wp_icmp_gt d0_23 (tgt := 1308) (by decide) (fun hc23 => ?_) (fun hc23 => ?_)
    · refine wp_iconst d0_1308 (v := nI 1) (by decide) ?_
      refine wp_zret d0_1309 (by decide +kernel) (by decide) ?_
      exact ⟨rfl, hI⟩
    · have hk5 := lw_cmp hL hk hc23
      obtain ⟨sw, hsw⟩ : ∃ v, (xs k &&& nI 63) = v := ⟨_, rfl⟩
      refine wp_sload_n d0_26 rfl ?_
      refine wp_iload_n d0_27 rfl ?_
      refine wp_sald d0_28 (nI_in (by omega) (by omega)) (v := xs k) (congrArg xs (nI_nat (by omega))) ?_
      refine wp_bipush d0_29 (v := nI 63) (by decide) ?_
      refine wp_iandv d0_31 (v := sw) hsw ?_
      by_cases hx : sw.toInt < 0 ∨ 37 < sw.toInt
      · refine wp_tswOut d0_32 hx (tgt := 1302) (by decide) ?_
        refine wp_iinc d0_1302 rfl (v := nI (k + 5)) (nI_add _ 5) (Nat.le_of_ble_eq_true rfl) rfl ?_
        refine wp_goto d0_1305 (tgt := 18) (by decide) ?_
        exact ih _ (by omega) (k + 5) h rfl (by omega) hI
      · obtain ⟨k0, hk0, rfl⟩ := nI_rng (n := 38) (by decide) hx
        rcases (show k0 = 0 ∨ k0 = 1 ∨ k0 = 2 ∨ k0 = 3 ∨ k0 = 4 ∨ k0 = 5 ∨ k0 = 6 ∨ k0 = 7 ∨ k0 = 8 ∨ k0 = 9 ∨ k0 = 10 ∨ k0 = 11 ∨ k0 = 12 ∨ k0 = 13 ∨ k0 = 14 ∨ k0 = 15 ∨ k0 = 16 ∨ k0 = 17 ∨ k0 = 18 ∨ k0 = 19 ∨ k0 = 20 ∨ k0 = 21 ∨ k0 = 22 ∨ k0 = 23 ∨ k0 = 24 ∨ k0 = 25 ∨ k0 = 26 ∨ k0 = 27 ∨ k0 = 28 ∨ k0 = 29 ∨ k0 = 30 ∨ k0 = 31 ∨ k0 = 32 ∨ k0 = 33 ∨ k0 = 34 ∨ k0 = 35 ∨ k0 = 36 ∨ k0 = 37 by omega) with rfl | rfl | rfl | rfl | rfl | rfl | rfl | rfl | rfl | rfl | rfl | rfl | rfl | rfl | rfl | rfl | rfl | rfl | rfl | rfl | rfl | rfl | rfl | rfl | rfl | rfl | rfl | rfl | rfl | rfl | rfl | rfl | rfl | rfl | rfl | rfl | rfl | rfl
        · refine wp_tswIn d0_32 (by decide) (by decide) (off := 168) (by decide) (tgt := 200) (by decide) ?_
          refine wp_aload_n d0_200 rfl ?_
          refine wp_sload_n d0_201 rfl ?_
          refine wp_iload_n d0_202 rfl ?_
          refine wp_iconst d0_203 (v := nI 1) (by decide) ?_
          refine wp_iaddv d0_204 (v := nI (k + 1)) (nI_add _ _) ?_
          refine wp_sald d0_205 (nI_in (by omega) (by omega)) (v := xs (k + 1)) (congrArg xs (nI_nat (by omega))) ?_
          refine wp_sload_n d0_206 rfl ?_
          refine wp_iload_n d0_207 rfl ?_
          refine wp_iconst d0_208 (v := nI 2) (by decide) ?_
          refine wp_iaddv d0_209 (v := nI (k + 2)) (nI_add _ _) ?_
          refine wp_sald d0_210 (nI_in (by omega) (by omega)) (v := xs (k + 2)) (congrArg xs (nI_nat (by omega))) ?_
          refine wp_invv (e := 13) (j2 := 14) (n := 2) d0_211 (by decide +kernel) (by decide +kernel) rfl rfl rfl h0 (by decide +kernel) (Nat.le_of_ble_eq_true rfl) rfl rfl (Nat.le_of_ble_eq_true rfl) (by decide +kernel) (ag_addRoom hI (xs (k + 1)) (xs (k + 2))) (fun v h hq => ?_)
          obtain ⟨r, rfl, ⟨fs, hfs⟩, hm⟩ := hq
          show m_wp (L, xs) 0 _ _ [.int _] _ _
          refine wp_aload_n d0_214 rfl ?_
          refine wp_sload_n d0_215 rfl ?_
          refine wp_iload_n d0_216 rfl ?_
          refine wp_iconst d0_217 (v := nI 1) (by decide) ?_
          refine wp_iaddv d0_218 (v := nI (k + 1)) (nI_add _ _) ?_
          refine wp_sald d0_219 (nI_in (by omega) (by omega)) (v := xs (k + 1)) (congrArg xs (nI_nat (by omega))) ?_
          refine wp_sload_n d0_220 rfl ?_
          refine wp_iload_n d0_221 rfl ?_
          refine wp_iconst d0_222 (v := nI 2) (by decide) ?_
          refine wp_iaddv d0_223 (v := nI (k + 2)) (nI_add _ _) ?_
          refine wp_sald d0_224 (nI_in (by omega) (by omega)) (v := xs (k + 2)) (congrArg xs (nI_nat (by omega))) ?_
          refine wp_invv (e := 17) (j2 := 208) (n := 2) d0_225 (by decide +kernel) (by decide +kernel) rfl rfl rfl hfs (by decide +kernel) (Nat.le_of_ble_eq_true rfl) rfl rfl (Nat.le_of_ble_eq_true rfl) (by decide +kernel) hm (fun v h hq => ?_)
          obtain ⟨rfl, hI⟩ := hq
          show m_wp (L, xs) 0 _ _ [.int _, .int _] _ _
          refine wp_icmp_eq d0_228 (tgt := 1302) (by decide) (fun _ => ?_) (fun hq9 => absurd rfl hq9)
          refine wp_iinc d0_1302 rfl (v := nI (k + 5)) (nI_add _ 5) (Nat.le_of_ble_eq_true rfl) rfl ?_
          refine wp_goto d0_1305 (tgt := 18) (by decide) ?_
          exact ih _ (by omega) (k + 5) h rfl (by omega) hI
        · refine wp_tswIn d0_32 (by decide) (by decide) (off := 201) (by decide) (tgt := 233) (by decide) ?_
          refine wp_aload_n d0_233 rfl ?_
          refine wp_sload_n d0_234 rfl ?_
          refine wp_iload_n d0_235 rfl ?_
          refine wp_iconst d0_236 (v := nI 1) (by decide) ?_
          refine wp_iaddv d0_237 (v := nI (k + 1)) (nI_add _ _) ?_
          refine wp_sald d0_238 (nI_in (by omega) (by omega)) (v := xs (k + 1)) (congrArg xs (nI_nat (by omega))) ?_
          refine wp_sload_n d0_239 rfl ?_
          refine wp_iload_n d0_240 rfl ?_
          refine wp_iconst d0_241 (v := nI 2) (by decide) ?_
          refine wp_iaddv d0_242 (v := nI (k + 2)) (nI_add _ _) ?_
          refine wp_sald d0_243 (nI_in (by omega) (by omega)) (v := xs (k + 2)) (congrArg xs (nI_nat (by omega))) ?_
          refine wp_sload_n d0_244 rfl ?_
          refine wp_iload_n d0_245 rfl ?_
          refine wp_iconst d0_246 (v := nI 3) (by decide) ?_
          refine wp_iaddv d0_247 (v := nI (k + 3)) (nI_add _ _) ?_
          refine wp_sald d0_248 (nI_in (by omega) (by omega)) (v := xs (k + 3)) (congrArg xs (nI_nat (by omega))) ?_
          refine wp_sload_n d0_249 rfl ?_
          refine wp_iload_n d0_250 rfl ?_
          refine wp_iconst d0_251 (v := nI 4) (by decide) ?_
          refine wp_iaddv d0_252 (v := nI (k + 4)) (nI_add _ _) ?_
          refine wp_sald d0_253 (nI_in (by omega) (by omega)) (v := xs (k + 4)) (congrArg xs (nI_nat (by omega))) ?_
          refine wp_invv (e := 18) (j2 := 34) (n := 4) d0_254 (by decide +kernel) (by decide +kernel) rfl rfl rfl h0 (by decide +kernel) (Nat.le_of_ble_eq_true rfl) rfl rfl (Nat.le_of_ble_eq_true rfl) (by decide +kernel) (ag_addDoor hI (xs (k + 1)) (xs (k + 2)) (xs (k + 3)) (xs (k + 4))) (fun v h hq => ?_)
          obtain ⟨r, rfl, ⟨fs, hfs⟩, hm⟩ := hq
          show m_wp (L, xs) 0 _ _ [.int _] _ _
          refine wp_aload_n d0_257 rfl ?_
          refine wp_sload_n d0_258 rfl ?_
          refine wp_iload_n d0_259 rfl ?_
          refine wp_iconst d0_260 (v := nI 1) (by decide) ?_
          refine wp_iaddv d0_261 (v := nI (k + 1)) (nI_add _ _) ?_
          refine wp_sald d0_262 (nI_in (by omega) (by omega)) (v := xs (k + 1)) (congrArg xs (nI_nat (by omega))) ?_
          refine wp_sload_n d0_263 rfl ?_
          refine wp_iload_n d0_264 rfl ?_
          refine wp_iconst d0_265 (v := nI 2) (by decide) ?_
          refine wp_iaddv d0_266 (v := nI (k + 2)) (nI_add _ _) ?_
          refine wp_sald d0_267 (nI_in (by omega) (by omega)) (v := xs (k + 2)) (congrArg xs (nI_nat (by omega))) ?_
          refine wp_sload_n d0_268 rfl ?_
          refine wp_iload_n d0_269 rfl ?_
          refine wp_iconst d0_270 (v := nI 3) (by decide) ?_
          refine wp_iaddv d0_271 (v := nI (k + 3)) (nI_add _ _) ?_
          refine wp_sald d0_272 (nI_in (by omega) (by omega)) (v := xs (k + 3)) (congrArg xs (nI_nat (by omega))) ?_
          refine wp_sload_n d0_273 rfl ?_
          refine wp_iload_n d0_274 rfl ?_
          refine wp_iconst d0_275 (v := nI 4) (by decide) ?_
          refine wp_iaddv d0_276 (v := nI (k + 4)) (nI_add _ _) ?_
          refine wp_sald d0_277 (nI_in (by omega) (by omega)) (v := xs (k + 4)) (congrArg xs (nI_nat (by omega))) ?_
          refine wp_invv (e := 22) (j2 := 214) (n := 4) d0_278 (by decide +kernel) (by decide +kernel) rfl rfl rfl hfs (by decide +kernel) (Nat.le_of_ble_eq_true rfl) rfl rfl (Nat.le_of_ble_eq_true rfl) (by decide +kernel) hm (fun v h hq => ?_)
          obtain ⟨rfl, hI⟩ := hq
          show m_wp (L, xs) 0 _ _ [.int _, .int _] _ _
          refine wp_icmp_eq d0_281 (tgt := 1302) (by decide) (fun _ => ?_) (fun hq9 => absurd rfl hq9)
          refine wp_iinc d0_1302 rfl (v := nI (k + 5)) (nI_add _ 5) (Nat.le_of_ble_eq_true rfl) rfl ?_
          refine wp_goto d0_1305 (tgt := 18) (by decide) ?_
          exact ih _ (by omega) (k + 5) h rfl (by omega) hI
        · refine wp_tswIn d0_32 (by decide) (by decide) (off := 254) (by decide) (tgt := 286) (by decide) ?_
          refine wp_aload_n d0_286 rfl ?_
          refine wp_sload_n d0_287 rfl ?_
          refine wp_iload_n d0_288 rfl ?_
          refine wp_iconst d0_289 (v := nI 1) (by decide) ?_
          refine wp_iaddv d0_290 (v := nI (k + 1)) (nI_add _ _) ?_
          refine wp_sald d0_291 (nI_in (by omega) (by omega)) (v := xs (k + 1)) (congrArg xs (nI_nat (by omega))) ?_
          refine wp_sload_n d0_292 rfl ?_
          refine wp_iload_n d0_293 rfl ?_
          refine wp_iconst d0_294 (v := nI 2) (by decide) ?_
          refine wp_iaddv d0_295 (v := nI (k + 2)) (nI_add _ _) ?_
          refine wp_sald d0_296 (nI_in (by omega) (by omega)) (v := xs (k + 2)) (congrArg xs (nI_nat (by omega))) ?_
          refine wp_invv (e := 23) (j2 := 41) (n := 2) d0_297 (by decide +kernel) (by decide +kernel) rfl rfl rfl h0 (by decide +kernel) (Nat.le_of_ble_eq_true rfl) rfl rfl (Nat.le_of_ble_eq_true rfl) (by decide +kernel) (ag_setBound hI (xs (k + 1)) (xs (k + 2))) (fun v h hq => ?_)
          obtain ⟨r, rfl, ⟨fs, hfs⟩, hm⟩ := hq
          show m_wp (L, xs) 0 _ _ [.int _] _ _
          refine wp_aload_n d0_300 rfl ?_
          refine wp_sload_n d0_301 rfl ?_
          refine wp_iload_n d0_302 rfl ?_
          refine wp_iconst d0_303 (v := nI 1) (by decide) ?_
          refine wp_iaddv d0_304 (v := nI (k + 1)) (nI_add _ _) ?_
          refine wp_sald d0_305 (nI_in (by omega) (by omega)) (v := xs (k + 1)) (congrArg xs (nI_nat (by omega))) ?_
          refine wp_sload_n d0_306 rfl ?_
          refine wp_iload_n d0_307 rfl ?_
          refine wp_iconst d0_308 (v := nI 2) (by decide) ?_
          refine wp_iaddv d0_309 (v := nI (k + 2)) (nI_add _ _) ?_
          refine wp_sald d0_310 (nI_in (by omega) (by omega)) (v := xs (k + 2)) (congrArg xs (nI_nat (by omega))) ?_
          refine wp_invv (e := 26) (j2 := 218) (n := 2) d0_311 (by decide +kernel) (by decide +kernel) rfl rfl rfl hfs (by decide +kernel) (Nat.le_of_ble_eq_true rfl) rfl rfl (Nat.le_of_ble_eq_true rfl) (by decide +kernel) hm (fun v h hq => ?_)
          obtain ⟨rfl, hI⟩ := hq
          show m_wp (L, xs) 0 _ _ [.int _, .int _] _ _
          refine wp_icmp_eq d0_314 (tgt := 1302) (by decide) (fun _ => ?_) (fun hq9 => absurd rfl hq9)
          refine wp_iinc d0_1302 rfl (v := nI (k + 5)) (nI_add _ 5) (Nat.le_of_ble_eq_true rfl) rfl ?_
          refine wp_goto d0_1305 (tgt := 18) (by decide) ?_
          exact ih _ (by omega) (k + 5) h rfl (by omega) hI
        · refine wp_tswIn d0_32 (by decide) (by decide) (off := 287) (by decide) (tgt := 319) (by decide) ?_
          refine wp_aload_n d0_319 rfl ?_
          refine wp_sload_n d0_320 rfl ?_
          refine wp_iload_n d0_321 rfl ?_
          refine wp_iconst d0_322 (v := nI 1) (by decide) ?_
          refine wp_iaddv d0_323 (v := nI (k + 1)) (nI_add _ _) ?_
          refine wp_sald d0_324 (nI_in (by omega) (by omega)) (v := xs (k + 1)) (congrArg xs (nI_nat (by omega))) ?_
          refine wp_sload_n d0_325 rfl ?_
          refine wp_iload_n d0_326 rfl ?_
          refine wp_iconst d0_327 (v := nI 2) (by decide) ?_
          refine wp_iaddv d0_328 (v := nI (k + 2)) (nI_add _ _) ?_
          refine wp_sald d0_329 (nI_in (by omega) (by omega)) (v := xs (k + 2)) (congrArg xs (nI_nat (by omega))) ?_
          refine wp_sload_n d0_330 rfl ?_
          refine wp_iload_n d0_331 rfl ?_
          refine wp_iconst d0_332 (v := nI 3) (by decide) ?_
          refine wp_iaddv d0_333 (v := nI (k + 3)) (nI_add _ _) ?_
          refine wp_sald d0_334 (nI_in (by omega) (by omega)) (v := xs (k + 3)) (congrArg xs (nI_nat (by omega))) ?_
          refine wp_if_eq d0_335 (tgt := 342) (by decide) (fun hc335 => ?_) (fun hc335 => ?_)
          · refine wp_iconst d0_342 (v := nI 0) (by decide) ?_
            refine wp_invv (e := 27) (j2 := 44) (n := 3) d0_343 (by decide +kernel) (by decide +kernel) rfl rfl rfl h0 (by decide +kernel) (Nat.le_of_ble_eq_true rfl) rfl rfl (Nat.le_of_ble_eq_true rfl) (by decide +kernel) (ag_exclude_0 hI (xs (k + 1)) (xs (k + 2))) (fun v h hq => ?_)
            obtain ⟨r, rfl, ⟨fs, hfs⟩, hm⟩ := hq
            show m_wp (L, xs) 0 _ _ [.int _] _ _
            refine wp_aload_n d0_346 rfl ?_
            refine wp_sload_n d0_347 rfl ?_
            refine wp_iload_n d0_348 rfl ?_
            refine wp_iconst d0_349 (v := nI 1) (by decide) ?_
            refine wp_iaddv d0_350 (v := nI (k + 1)) (nI_add _ _) ?_
            refine wp_sald d0_351 (nI_in (by omega) (by omega)) (v := xs (k + 1)) (congrArg xs (nI_nat (by omega))) ?_
            refine wp_sload_n d0_352 rfl ?_
            refine wp_iload_n d0_353 rfl ?_
            refine wp_iconst d0_354 (v := nI 2) (by decide) ?_
            refine wp_iaddv d0_355 (v := nI (k + 2)) (nI_add _ _) ?_
            refine wp_sald d0_356 (nI_in (by omega) (by omega)) (v := xs (k + 2)) (congrArg xs (nI_nat (by omega))) ?_
            refine wp_sload_n d0_357 rfl ?_
            refine wp_iload_n d0_358 rfl ?_
            refine wp_iconst d0_359 (v := nI 3) (by decide) ?_
            refine wp_iaddv d0_360 (v := nI (k + 3)) (nI_add _ _) ?_
            refine wp_sald d0_361 (nI_in (by omega) (by omega)) (v := xs (k + 3)) (congrArg xs (nI_nat (by omega))) ?_
            refine wp_if_eq d0_362 (tgt := 369) (by decide) (fun _ => ?_) (fun hz => absurd hz (fun q => q hc335))
            refine wp_iconst d0_369 (v := nI 0) (by decide) ?_
            refine wp_invv (e := 31) (j2 := 220) (n := 3) d0_370 (by decide +kernel) (by decide +kernel) rfl rfl rfl hfs (by decide +kernel) (Nat.le_of_ble_eq_true rfl) rfl rfl (Nat.le_of_ble_eq_true rfl) (by decide +kernel) hm (fun v h hq => ?_)
            obtain ⟨rfl, hI⟩ := hq
            show m_wp (L, xs) 0 _ _ [.int _, .int _] _ _
            refine wp_icmp_eq d0_373 (tgt := 1302) (by decide) (fun _ => ?_) (fun hq9 => absurd rfl hq9)
            refine wp_iinc d0_1302 rfl (v := nI (k + 5)) (nI_add _ 5) (Nat.le_of_ble_eq_true rfl) rfl ?_
            refine wp_goto d0_1305 (tgt := 18) (by decide) ?_
            exact ih _ (by omega) (k + 5) h rfl (by omega) hI
          · refine wp_iconst d0_338 (v := nI 1) (by decide) ?_
            refine wp_goto d0_339 (tgt := 343) (by decide) ?_
            refine wp_invv (e := 27) (j2 := 44) (n := 3) d0_343 (by decide +kernel) (by decide +kernel) rfl rfl rfl h0 (by decide +kernel) (Nat.le_of_ble_eq_true rfl) rfl rfl (Nat.le_of_ble_eq_true rfl) (by decide +kernel) (ag_exclude_1 hI (xs (k + 1)) (xs (k + 2))) (fun v h hq => ?_)
            obtain ⟨r, rfl, ⟨fs, hfs⟩, hm⟩ := hq
            show m_wp (L, xs) 0 _ _ [.int _] _ _
            refine wp_aload_n d0_346 rfl ?_
            refine wp_sload_n d0_347 rfl ?_
            refine wp_iload_n d0_348 rfl ?_
            refine wp_iconst d0_349 (v := nI 1) (by decide) ?_
            refine wp_iaddv d0_350 (v := nI (k + 1)) (nI_add _ _) ?_
            refine wp_sald d0_351 (nI_in (by omega) (by omega)) (v := xs (k + 1)) (congrArg xs (nI_nat (by omega))) ?_
            refine wp_sload_n d0_352 rfl ?_
            refine wp_iload_n d0_353 rfl ?_
            refine wp_iconst d0_354 (v := nI 2) (by decide) ?_
            refine wp_iaddv d0_355 (v := nI (k + 2)) (nI_add _ _) ?_
            refine wp_sald d0_356 (nI_in (by omega) (by omega)) (v := xs (k + 2)) (congrArg xs (nI_nat (by omega))) ?_
            refine wp_sload_n d0_357 rfl ?_
            refine wp_iload_n d0_358 rfl ?_
            refine wp_iconst d0_359 (v := nI 3) (by decide) ?_
            refine wp_iaddv d0_360 (v := nI (k + 3)) (nI_add _ _) ?_
            refine wp_sald d0_361 (nI_in (by omega) (by omega)) (v := xs (k + 3)) (congrArg xs (nI_nat (by omega))) ?_
            refine wp_if_eq d0_362 (tgt := 369) (by decide) (fun hz => absurd hz hc335) (fun _ => ?_)
            refine wp_iconst d0_365 (v := nI 1) (by decide) ?_
            refine wp_goto d0_366 (tgt := 370) (by decide) ?_
            refine wp_invv (e := 31) (j2 := 220) (n := 3) d0_370 (by decide +kernel) (by decide +kernel) rfl rfl rfl hfs (by decide +kernel) (Nat.le_of_ble_eq_true rfl) rfl rfl (Nat.le_of_ble_eq_true rfl) (by decide +kernel) hm (fun v h hq => ?_)
            obtain ⟨rfl, hI⟩ := hq
            show m_wp (L, xs) 0 _ _ [.int _, .int _] _ _
            refine wp_icmp_eq d0_373 (tgt := 1302) (by decide) (fun _ => ?_) (fun hq9 => absurd rfl hq9)
            refine wp_iinc d0_1302 rfl (v := nI (k + 5)) (nI_add _ 5) (Nat.le_of_ble_eq_true rfl) rfl ?_
            refine wp_goto d0_1305 (tgt := 18) (by decide) ?_
            exact ih _ (by omega) (k + 5) h rfl (by omega) hI
        · refine wp_tswIn d0_32 (by decide) (by decide) (off := 346) (by decide) (tgt := 378) (by decide) ?_
          refine wp_aload_n d0_378 rfl ?_
          refine wp_sload_n d0_379 rfl ?_
          refine wp_iload_n d0_380 rfl ?_
          refine wp_iconst d0_381 (v := nI 1) (by decide) ?_
          refine wp_iaddv d0_382 (v := nI (k + 1)) (nI_add _ _) ?_
          refine wp_sald d0_383 (nI_in (by omega) (by omega)) (v := xs (k + 1)) (congrArg xs (nI_nat (by omega))) ?_
          refine wp_invv (e := 32) (j2 := 51) (n := 1) d0_384 (by decide +kernel) (by decide +kernel) rfl rfl rfl h0 (by decide +kernel) (Nat.le_of_ble_eq_true rfl) rfl rfl (Nat.le_of_ble_eq_true rfl) (by decide +kernel) (ag_openZone hI (xs (k + 1))) (fun v h hq => ?_)
          obtain ⟨r, rfl, ⟨fs, hfs⟩, hm⟩ := hq
          show m_wp (L, xs) 0 _ _ [.int _] _ _
          refine wp_aload_n d0_387 rfl ?_
          refine wp_sload_n d0_388 rfl ?_
          refine wp_iload_n d0_389 rfl ?_
          refine wp_iconst d0_390 (v := nI 1) (by decide) ?_
          refine wp_iaddv d0_391 (v := nI (k + 1)) (nI_add _ _) ?_
          refine wp_sald d0_392 (nI_in (by omega) (by omega)) (v := xs (k + 1)) (congrArg xs (nI_nat (by omega))) ?_
          refine wp_invv (e := 36) (j2 := 223) (n := 1) d0_393 (by decide +kernel) (by decide +kernel) rfl rfl rfl hfs (by decide +kernel) (Nat.le_of_ble_eq_true rfl) rfl rfl (Nat.le_of_ble_eq_true rfl) (by decide +kernel) hm (fun v h hq => ?_)
          obtain ⟨rfl, hI⟩ := hq
          show m_wp (L, xs) 0 _ _ [.int _, .int _] _ _
          refine wp_icmp_eq d0_396 (tgt := 1302) (by decide) (fun _ => ?_) (fun hq9 => absurd rfl hq9)
          refine wp_iinc d0_1302 rfl (v := nI (k + 5)) (nI_add _ 5) (Nat.le_of_ble_eq_true rfl) rfl ?_
          refine wp_goto d0_1305 (tgt := 18) (by decide) ?_
          exact ih _ (by omega) (k + 5) h rfl (by omega) hI
        · refine wp_tswIn d0_32 (by decide) (by decide) (off := 369) (by decide) (tgt := 401) (by decide) ?_
          refine wp_aload_n d0_401 rfl ?_
          refine wp_sload_n d0_402 rfl ?_
          refine wp_iload_n d0_403 rfl ?_
          refine wp_iconst d0_404 (v := nI 1) (by decide) ?_
          refine wp_iaddv d0_405 (v := nI (k + 1)) (nI_add _ _) ?_
          refine wp_sald d0_406 (nI_in (by omega) (by omega)) (v := xs (k + 1)) (congrArg xs (nI_nat (by omega))) ?_
          refine wp_invv (e := 37) (j2 := 55) (n := 1) d0_407 (by decide +kernel) (by decide +kernel) rfl rfl rfl h0 (by decide +kernel) (Nat.le_of_ble_eq_true rfl) rfl rfl (Nat.le_of_ble_eq_true rfl) (by decide +kernel) (ag_closeZone hI (xs (k + 1))) (fun v h hq => ?_)
          obtain ⟨r, rfl, ⟨fs, hfs⟩, hm⟩ := hq
          show m_wp (L, xs) 0 _ _ [.int _] _ _
          refine wp_aload_n d0_410 rfl ?_
          refine wp_sload_n d0_411 rfl ?_
          refine wp_iload_n d0_412 rfl ?_
          refine wp_iconst d0_413 (v := nI 1) (by decide) ?_
          refine wp_iaddv d0_414 (v := nI (k + 1)) (nI_add _ _) ?_
          refine wp_sald d0_415 (nI_in (by omega) (by omega)) (v := xs (k + 1)) (congrArg xs (nI_nat (by omega))) ?_
          refine wp_invv (e := 40) (j2 := 226) (n := 1) d0_416 (by decide +kernel) (by decide +kernel) rfl rfl rfl hfs (by decide +kernel) (Nat.le_of_ble_eq_true rfl) rfl rfl (Nat.le_of_ble_eq_true rfl) (by decide +kernel) hm (fun v h hq => ?_)
          obtain ⟨rfl, hI⟩ := hq
          show m_wp (L, xs) 0 _ _ [.int _, .int _] _ _
          refine wp_icmp_eq d0_419 (tgt := 1302) (by decide) (fun _ => ?_) (fun hq9 => absurd rfl hq9)
          refine wp_iinc d0_1302 rfl (v := nI (k + 5)) (nI_add _ 5) (Nat.le_of_ble_eq_true rfl) rfl ?_
          refine wp_goto d0_1305 (tgt := 18) (by decide) ?_
          exact ih _ (by omega) (k + 5) h rfl (by omega) hI
        · refine wp_tswIn d0_32 (by decide) (by decide) (off := 392) (by decide) (tgt := 424) (by decide) ?_
          refine wp_aload_n d0_424 rfl ?_
          refine wp_invv (e := 41) (j2 := 62) (n := 0) d0_425 (by decide +kernel) (by decide +kernel) rfl rfl rfl h0 (by decide +kernel) (Nat.le_of_ble_eq_true rfl) rfl rfl (Nat.le_of_ble_eq_true rfl) (by decide +kernel) (ag_addGuard hI) (fun v h hq => ?_)
          obtain ⟨r, rfl, ⟨fs, hfs⟩, hm⟩ := hq
          show m_wp (L, xs) 0 _ _ [.int _] _ _
          refine wp_aload_n d0_428 rfl ?_
          refine wp_invv (e := 45) (j2 := 229) (n := 0) d0_429 (by decide +kernel) (by decide +kernel) rfl rfl rfl hfs (by decide +kernel) (Nat.le_of_ble_eq_true rfl) rfl rfl (Nat.le_of_ble_eq_true rfl) (by decide +kernel) hm (fun v h hq => ?_)
          obtain ⟨rfl, hI⟩ := hq
          show m_wp (L, xs) 0 _ _ [.int _, .int _] _ _
          refine wp_icmp_eq d0_432 (tgt := 1302) (by decide) (fun _ => ?_) (fun hq9 => absurd rfl hq9)
          refine wp_iinc d0_1302 rfl (v := nI (k + 5)) (nI_add _ 5) (Nat.le_of_ble_eq_true rfl) rfl ?_
          refine wp_goto d0_1305 (tgt := 18) (by decide) ?_
          exact ih _ (by omega) (k + 5) h rfl (by omega) hI
        · refine wp_tswIn d0_32 (by decide) (by decide) (off := 405) (by decide) (tgt := 437) (by decide) ?_
          refine wp_aload_n d0_437 rfl ?_
          refine wp_sload_n d0_438 rfl ?_
          refine wp_iload_n d0_439 rfl ?_
          refine wp_iconst d0_440 (v := nI 1) (by decide) ?_
          refine wp_iaddv d0_441 (v := nI (k + 1)) (nI_add _ _) ?_
          refine wp_sald d0_442 (nI_in (by omega) (by omega)) (v := xs (k + 1)) (congrArg xs (nI_nat (by omega))) ?_
          refine wp_sload_n d0_443 rfl ?_
          refine wp_iload_n d0_444 rfl ?_
          refine wp_iconst d0_445 (v := nI 2) (by decide) ?_
          refine wp_iaddv d0_446 (v := nI (k + 2)) (nI_add _ _) ?_
          refine wp_sald d0_447 (nI_in (by omega) (by omega)) (v := xs (k + 2)) (congrArg xs (nI_nat (by omega))) ?_
          refine wp_invv (e := 46) (j2 := 65) (n := 2) d0_448 (by decide +kernel) (by decide +kernel) rfl rfl rfl h0 (by decide +kernel) (Nat.le_of_ble_eq_true rfl) rfl rfl (Nat.le_of_ble_eq_true rfl) (by decide +kernel) (ag_takeKey hI (xs (k + 1)) (xs (k + 2))) (fun v h hq => ?_)
          obtain ⟨r, rfl, ⟨fs, hfs⟩, hm⟩ := hq
          show m_wp (L, xs) 0 _ _ [.int _] _ _
          refine wp_aload_n d0_451 rfl ?_
          refine wp_sload_n d0_452 rfl ?_
          refine wp_iload_n d0_453 rfl ?_
          refine wp_iconst d0_454 (v := nI 1) (by decide) ?_
          refine wp_iaddv d0_455 (v := nI (k + 1)) (nI_add _ _) ?_
          refine wp_sald d0_456 (nI_in (by omega) (by omega)) (v := xs (k + 1)) (congrArg xs (nI_nat (by omega))) ?_
          refine wp_sload_n d0_457 rfl ?_
          refine wp_iload_n d0_458 rfl ?_
          refine wp_iconst d0_459 (v := nI 2) (by decide) ?_
          refine wp_iaddv d0_460 (v := nI (k + 2)) (nI_add _ _) ?_
          refine wp_sald d0_461 (nI_in (by omega) (by omega)) (v := xs (k + 2)) (congrArg xs (nI_nat (by omega))) ?_
          refine wp_invv (e := 49) (j2 := 231) (n := 2) d0_462 (by decide +kernel) (by decide +kernel) rfl rfl rfl hfs (by decide +kernel) (Nat.le_of_ble_eq_true rfl) rfl rfl (Nat.le_of_ble_eq_true rfl) (by decide +kernel) hm (fun v h hq => ?_)
          obtain ⟨rfl, hI⟩ := hq
          show m_wp (L, xs) 0 _ _ [.int _, .int _] _ _
          refine wp_icmp_eq d0_465 (tgt := 1302) (by decide) (fun _ => ?_) (fun hq9 => absurd rfl hq9)
          refine wp_iinc d0_1302 rfl (v := nI (k + 5)) (nI_add _ 5) (Nat.le_of_ble_eq_true rfl) rfl ?_
          refine wp_goto d0_1305 (tgt := 18) (by decide) ?_
          exact ih _ (by omega) (k + 5) h rfl (by omega) hI
        · refine wp_tswIn d0_32 (by decide) (by decide) (off := 438) (by decide) (tgt := 470) (by decide) ?_
          refine wp_aload_n d0_470 rfl ?_
          refine wp_sload_n d0_471 rfl ?_
          refine wp_iload_n d0_472 rfl ?_
          refine wp_iconst d0_473 (v := nI 1) (by decide) ?_
          refine wp_iaddv d0_474 (v := nI (k + 1)) (nI_add _ _) ?_
          refine wp_sald d0_475 (nI_in (by omega) (by omega)) (v := xs (k + 1)) (congrArg xs (nI_nat (by omega))) ?_
          refine wp_sload_n d0_476 rfl ?_
          refine wp_iload_n d0_477 rfl ?_
          refine wp_iconst d0_478 (v := nI 2) (by decide) ?_
          refine wp_iaddv d0_479 (v := nI (k + 2)) (nI_add _ _) ?_
          refine wp_sald d0_480 (nI_in (by omega) (by omega)) (v := xs (k + 2)) (congrArg xs (nI_nat (by omega))) ?_
          refine wp_invv (e := 50) (j2 := 71) (n := 2) d0_481 (by decide +kernel) (by decide +kernel) rfl rfl rfl h0 (by decide +kernel) (Nat.le_of_ble_eq_true rfl) rfl rfl (Nat.le_of_ble_eq_true rfl) (by decide +kernel) (ag_bringKey hI (xs (k + 1)) (xs (k + 2))) (fun v h hq => ?_)
          obtain ⟨r, rfl, ⟨fs, hfs⟩, hm⟩ := hq
          show m_wp (L, xs) 0 _ _ [.int _] _ _
          refine wp_aload_n d0_484 rfl ?_
          refine wp_sload_n d0_485 rfl ?_
          refine wp_iload_n d0_486 rfl ?_
          refine wp_iconst d0_487 (v := nI 1) (by decide) ?_
          refine wp_iaddv d0_488 (v := nI (k + 1)) (nI_add _ _) ?_
          refine wp_sald d0_489 (nI_in (by omega) (by omega)) (v := xs (k + 1)) (congrArg xs (nI_nat (by omega))) ?_
          refine wp_sload_n d0_490 rfl ?_
          refine wp_iload_n d0_491 rfl ?_
          refine wp_iconst d0_492 (v := nI 2) (by decide) ?_
          refine wp_iaddv d0_493 (v := nI (k + 2)) (nI_add _ _) ?_
          refine wp_sald d0_494 (nI_in (by omega) (by omega)) (v := xs (k + 2)) (congrArg xs (nI_nat (by omega))) ?_
          refine wp_invv (e := 53) (j2 := 238) (n := 2) d0_495 (by decide +kernel) (by decide +kernel) rfl rfl rfl hfs (by decide +kernel) (Nat.le_of_ble_eq_true rfl) rfl rfl (Nat.le_of_ble_eq_true rfl) (by decide +kernel) hm (fun v h hq => ?_)
          obtain ⟨rfl, hI⟩ := hq
          show m_wp (L, xs) 0 _ _ [.int _, .int _] _ _
          refine wp_icmp_eq d0_498 (tgt := 1302) (by decide) (fun _ => ?_) (fun hq9 => absurd rfl hq9)
          refine wp_iinc d0_1302 rfl (v := nI (k + 5)) (nI_add _ 5) (Nat.le_of_ble_eq_true rfl) rfl ?_
          refine wp_goto d0_1305 (tgt := 18) (by decide) ?_
          exact ih _ (by omega) (k + 5) h rfl (by omega) hI
        · refine wp_tswIn d0_32 (by decide) (by decide) (off := 471) (by decide) (tgt := 503) (by decide) ?_
          refine wp_aload_n d0_503 rfl ?_
          refine wp_sload_n d0_504 rfl ?_
          refine wp_iload_n d0_505 rfl ?_
          refine wp_iconst d0_506 (v := nI 1) (by decide) ?_
          refine wp_iaddv d0_507 (v := nI (k + 1)) (nI_add _ _) ?_
          refine wp_sald d0_508 (nI_in (by omega) (by omega)) (v := xs (k + 1)) (congrArg xs (nI_nat (by omega))) ?_
          refine wp_sload_n d0_509 rfl ?_
          refine wp_iload_n d0_510 rfl ?_
          refine wp_iconst d0_511 (v := nI 2) (by decide) ?_
          refine wp_iaddv d0_512 (v := nI (k + 2)) (nI_add _ _) ?_
          refine wp_sald d0_513 (nI_in (by omega) (by omega)) (v := xs (k + 2)) (congrArg xs (nI_nat (by omega))) ?_
          refine wp_sload_n d0_514 rfl ?_
          refine wp_iload_n d0_515 rfl ?_
          refine wp_iconst d0_516 (v := nI 3) (by decide) ?_
          refine wp_iaddv d0_517 (v := nI (k + 3)) (nI_add _ _) ?_
          refine wp_sald d0_518 (nI_in (by omega) (by omega)) (v := xs (k + 3)) (congrArg xs (nI_nat (by omega))) ?_
          refine wp_invv (e := 54) (j2 := 72) (n := 3) d0_519 (by decide +kernel) (by decide +kernel) rfl rfl rfl h0 (by decide +kernel) (Nat.le_of_ble_eq_true rfl) rfl rfl (Nat.le_of_ble_eq_true rfl) (by decide +kernel) (ag_handKey hI (xs (k + 1)) (xs (k + 2)) (xs (k + 3))) (fun v h hq => ?_)
          obtain ⟨r, rfl, ⟨fs, hfs⟩, hm⟩ := hq
          show m_wp (L, xs) 0 _ _ [.int _] _ _
          refine wp_aload_n d0_522 rfl ?_
          refine wp_sload_n d0_523 rfl ?_
          refine wp_iload_n d0_524 rfl ?_
          refine wp_iconst d0_525 (v := nI 1) (by decide) ?_
          refine wp_iaddv d0_526 (v := nI (k + 1)) (nI_add _ _) ?_
          refine wp_sald d0_527 (nI_in (by omega) (by omega)) (v := xs (k + 1)) (congrArg xs (nI_nat (by omega))) ?_
          refine wp_sload_n d0_528 rfl ?_
          refine wp_iload_n d0_529 rfl ?_
          refine wp_iconst d0_530 (v := nI 2) (by decide) ?_
          refine wp_iaddv d0_531 (v := nI (k + 2)) (nI_add _ _) ?_
          refine wp_sald d0_532 (nI_in (by omega) (by omega)) (v := xs (k + 2)) (congrArg xs (nI_nat (by omega))) ?_
          refine wp_sload_n d0_533 rfl ?_
          refine wp_iload_n d0_534 rfl ?_
          refine wp_iconst d0_535 (v := nI 3) (by decide) ?_
          refine wp_iaddv d0_536 (v := nI (k + 3)) (nI_add _ _) ?_
          refine wp_sald d0_537 (nI_in (by omega) (by omega)) (v := xs (k + 3)) (congrArg xs (nI_nat (by omega))) ?_
          refine wp_invv (e := 58) (j2 := 239) (n := 3) d0_538 (by decide +kernel) (by decide +kernel) rfl rfl rfl hfs (by decide +kernel) (Nat.le_of_ble_eq_true rfl) rfl rfl (Nat.le_of_ble_eq_true rfl) (by decide +kernel) hm (fun v h hq => ?_)
          obtain ⟨rfl, hI⟩ := hq
          show m_wp (L, xs) 0 _ _ [.int _, .int _] _ _
          refine wp_icmp_eq d0_541 (tgt := 1302) (by decide) (fun _ => ?_) (fun hq9 => absurd rfl hq9)
          refine wp_iinc d0_1302 rfl (v := nI (k + 5)) (nI_add _ 5) (Nat.le_of_ble_eq_true rfl) rfl ?_
          refine wp_goto d0_1305 (tgt := 18) (by decide) ?_
          exact ih _ (by omega) (k + 5) h rfl (by omega) hI
        · refine wp_tswIn d0_32 (by decide) (by decide) (off := 514) (by decide) (tgt := 546) (by decide) ?_
          refine wp_aload_n d0_546 rfl ?_
          refine wp_sload_n d0_547 rfl ?_
          refine wp_iload_n d0_548 rfl ?_
          refine wp_iconst d0_549 (v := nI 1) (by decide) ?_
          refine wp_iaddv d0_550 (v := nI (k + 1)) (nI_add _ _) ?_
          refine wp_sald d0_551 (nI_in (by omega) (by omega)) (v := xs (k + 1)) (congrArg xs (nI_nat (by omega))) ?_
          refine wp_sload_n d0_552 rfl ?_
          refine wp_iload_n d0_553 rfl ?_
          refine wp_iconst d0_554 (v := nI 2) (by decide) ?_
          refine wp_iaddv d0_555 (v := nI (k + 2)) (nI_add _ _) ?_
          refine wp_sald d0_556 (nI_in (by omega) (by omega)) (v := xs (k + 2)) (congrArg xs (nI_nat (by omega))) ?_
          refine wp_sload_n d0_557 rfl ?_
          refine wp_iload_n d0_558 rfl ?_
          refine wp_iconst d0_559 (v := nI 3) (by decide) ?_
          refine wp_iaddv d0_560 (v := nI (k + 3)) (nI_add _ _) ?_
          refine wp_sald d0_561 (nI_in (by omega) (by omega)) (v := xs (k + 3)) (congrArg xs (nI_nat (by omega))) ?_
          refine wp_invv (e := 59) (j2 := 75) (n := 3) d0_562 (by decide +kernel) (by decide +kernel) rfl rfl rfl h0 (by decide +kernel) (Nat.le_of_ble_eq_true rfl) rfl rfl (Nat.le_of_ble_eq_true rfl) (by decide +kernel) (ag_go hI (xs (k + 1)) (xs (k + 2)) (xs (k + 3))) (fun v h hq => ?_)
          obtain ⟨r, rfl, ⟨fs, hfs⟩, hm⟩ := hq
          show m_wp (L, xs) 0 _ _ [.int _] _ _
          refine wp_aload_n d0_565 rfl ?_
          refine wp_sload_n d0_566 rfl ?_
          refine wp_iload_n d0_567 rfl ?_
          refine wp_iconst d0_568 (v := nI 1) (by decide) ?_
          refine wp_iaddv d0_569 (v := nI (k + 1)) (nI_add _ _) ?_
          refine wp_sald d0_570 (nI_in (by omega) (by omega)) (v := xs (k + 1)) (congrArg xs (nI_nat (by omega))) ?_
          refine wp_sload_n d0_571 rfl ?_
          refine wp_iload_n d0_572 rfl ?_
          refine wp_iconst d0_573 (v := nI 2) (by decide) ?_
          refine wp_iaddv d0_574 (v := nI (k + 2)) (nI_add _ _) ?_
          refine wp_sald d0_575 (nI_in (by omega) (by omega)) (v := xs (k + 2)) (congrArg xs (nI_nat (by omega))) ?_
          refine wp_sload_n d0_576 rfl ?_
          refine wp_iload_n d0_577 rfl ?_
          refine wp_iconst d0_578 (v := nI 3) (by decide) ?_
          refine wp_iaddv d0_579 (v := nI (k + 3)) (nI_add _ _) ?_
          refine wp_sald d0_580 (nI_in (by omega) (by omega)) (v := xs (k + 3)) (congrArg xs (nI_nat (by omega))) ?_
          refine wp_invv (e := 62) (j2 := 240) (n := 3) d0_581 (by decide +kernel) (by decide +kernel) rfl rfl rfl hfs (by decide +kernel) (Nat.le_of_ble_eq_true rfl) rfl rfl (Nat.le_of_ble_eq_true rfl) (by decide +kernel) hm (fun v h hq => ?_)
          obtain ⟨rfl, hI⟩ := hq
          show m_wp (L, xs) 0 _ _ [.int _, .int _] _ _
          refine wp_icmp_eq d0_584 (tgt := 1302) (by decide) (fun _ => ?_) (fun hq9 => absurd rfl hq9)
          refine wp_iinc d0_1302 rfl (v := nI (k + 5)) (nI_add _ 5) (Nat.le_of_ble_eq_true rfl) rfl ?_
          refine wp_goto d0_1305 (tgt := 18) (by decide) ?_
          exact ih _ (by omega) (k + 5) h rfl (by omega) hI
        · refine wp_tswIn d0_32 (by decide) (by decide) (off := 557) (by decide) (tgt := 589) (by decide) ?_
          refine wp_aload_n d0_589 rfl ?_
          refine wp_sload_n d0_590 rfl ?_
          refine wp_iload_n d0_591 rfl ?_
          refine wp_iconst d0_592 (v := nI 1) (by decide) ?_
          refine wp_iaddv d0_593 (v := nI (k + 1)) (nI_add _ _) ?_
          refine wp_sald d0_594 (nI_in (by omega) (by omega)) (v := xs (k + 1)) (congrArg xs (nI_nat (by omega))) ?_
          refine wp_invv (e := 63) (j2 := 78) (n := 1) d0_595 (by decide +kernel) (by decide +kernel) rfl rfl rfl h0 (by decide +kernel) (Nat.le_of_ble_eq_true rfl) rfl rfl (Nat.le_of_ble_eq_true rfl) (by decide +kernel) (ag_stop hI (xs (k + 1))) (fun v h hq => ?_)
          obtain ⟨r, rfl, ⟨fs, hfs⟩, hm⟩ := hq
          show m_wp (L, xs) 0 _ _ [.int _] _ _
          refine wp_aload_n d0_598 rfl ?_
          refine wp_sload_n d0_599 rfl ?_
          refine wp_iload_n d0_600 rfl ?_
          refine wp_iconst d0_601 (v := nI 1) (by decide) ?_
          refine wp_iaddv d0_602 (v := nI (k + 1)) (nI_add _ _) ?_
          refine wp_sald d0_603 (nI_in (by omega) (by omega)) (v := xs (k + 1)) (congrArg xs (nI_nat (by omega))) ?_
          refine wp_invv (e := 66) (j2 := 242) (n := 1) d0_604 (by decide +kernel) (by decide +kernel) rfl rfl rfl hfs (by decide +kernel) (Nat.le_of_ble_eq_true rfl) rfl rfl (Nat.le_of_ble_eq_true rfl) (by decide +kernel) hm (fun v h hq => ?_)
          obtain ⟨rfl, hI⟩ := hq
          show m_wp (L, xs) 0 _ _ [.int _, .int _] _ _
          refine wp_icmp_eq d0_607 (tgt := 1302) (by decide) (fun _ => ?_) (fun hq9 => absurd rfl hq9)
          refine wp_iinc d0_1302 rfl (v := nI (k + 5)) (nI_add _ 5) (Nat.le_of_ble_eq_true rfl) rfl ?_
          refine wp_goto d0_1305 (tgt := 18) (by decide) ?_
          exact ih _ (by omega) (k + 5) h rfl (by omega) hI
        · refine wp_tswIn d0_32 (by decide) (by decide) (off := 580) (by decide) (tgt := 612) (by decide) ?_
          refine wp_aload_n d0_612 rfl ?_
          refine wp_sload_n d0_613 rfl ?_
          refine wp_iload_n d0_614 rfl ?_
          refine wp_iconst d0_615 (v := nI 1) (by decide) ?_
          refine wp_iaddv d0_616 (v := nI (k + 1)) (nI_add _ _) ?_
          refine wp_sald d0_617 (nI_in (by omega) (by omega)) (v := xs (k + 1)) (congrArg xs (nI_nat (by omega))) ?_
          refine wp_sload_n d0_618 rfl ?_
          refine wp_iload_n d0_619 rfl ?_
          refine wp_iconst d0_620 (v := nI 2) (by decide) ?_
          refine wp_iaddv d0_621 (v := nI (k + 2)) (nI_add _ _) ?_
          refine wp_sald d0_622 (nI_in (by omega) (by omega)) (v := xs (k + 2)) (congrArg xs (nI_nat (by omega))) ?_
          refine wp_sload_n d0_623 rfl ?_
          refine wp_iload_n d0_624 rfl ?_
          refine wp_iconst d0_625 (v := nI 3) (by decide) ?_
          refine wp_iaddv d0_626 (v := nI (k + 3)) (nI_add _ _) ?_
          refine wp_sald d0_627 (nI_in (by omega) (by omega)) (v := xs (k + 3)) (congrArg xs (nI_nat (by omega))) ?_
          refine wp_invv (e := 67) (j2 := 82) (n := 3) d0_628 (by decide +kernel) (by decide +kernel) rfl rfl rfl h0 (by decide +kernel) (Nat.le_of_ble_eq_true rfl) rfl rfl (Nat.le_of_ble_eq_true rfl) (by decide +kernel) (ag_addWork hI (xs (k + 1)) (xs (k + 2)) (xs (k + 3))) (fun v h hq => ?_)
          obtain ⟨r, rfl, ⟨fs, hfs⟩, hm⟩ := hq
          show m_wp (L, xs) 0 _ _ [.int _] _ _
          refine wp_aload_n d0_631 rfl ?_
          refine wp_sload_n d0_632 rfl ?_
          refine wp_iload_n d0_633 rfl ?_
          refine wp_iconst d0_634 (v := nI 1) (by decide) ?_
          refine wp_iaddv d0_635 (v := nI (k + 1)) (nI_add _ _) ?_
          refine wp_sald d0_636 (nI_in (by omega) (by omega)) (v := xs (k + 1)) (congrArg xs (nI_nat (by omega))) ?_
          refine wp_sload_n d0_637 rfl ?_
          refine wp_iload_n d0_638 rfl ?_
          refine wp_iconst d0_639 (v := nI 2) (by decide) ?_
          refine wp_iaddv d0_640 (v := nI (k + 2)) (nI_add _ _) ?_
          refine wp_sald d0_641 (nI_in (by omega) (by omega)) (v := xs (k + 2)) (congrArg xs (nI_nat (by omega))) ?_
          refine wp_sload_n d0_642 rfl ?_
          refine wp_iload_n d0_643 rfl ?_
          refine wp_iconst d0_644 (v := nI 3) (by decide) ?_
          refine wp_iaddv d0_645 (v := nI (k + 3)) (nI_add _ _) ?_
          refine wp_sald d0_646 (nI_in (by omega) (by omega)) (v := xs (k + 3)) (congrArg xs (nI_nat (by omega))) ?_
          refine wp_invv (e := 70) (j2 := 243) (n := 3) d0_647 (by decide +kernel) (by decide +kernel) rfl rfl rfl hfs (by decide +kernel) (Nat.le_of_ble_eq_true rfl) rfl rfl (Nat.le_of_ble_eq_true rfl) (by decide +kernel) hm (fun v h hq => ?_)
          obtain ⟨rfl, hI⟩ := hq
          show m_wp (L, xs) 0 _ _ [.int _, .int _] _ _
          refine wp_icmp_eq d0_650 (tgt := 1302) (by decide) (fun _ => ?_) (fun hq9 => absurd rfl hq9)
          refine wp_iinc d0_1302 rfl (v := nI (k + 5)) (nI_add _ 5) (Nat.le_of_ble_eq_true rfl) rfl ?_
          refine wp_goto d0_1305 (tgt := 18) (by decide) ?_
          exact ih _ (by omega) (k + 5) h rfl (by omega) hI
        · refine wp_tswIn d0_32 (by decide) (by decide) (off := 623) (by decide) (tgt := 655) (by decide) ?_
          refine wp_aload_n d0_655 rfl ?_
          refine wp_sload_n d0_656 rfl ?_
          refine wp_iload_n d0_657 rfl ?_
          refine wp_iconst d0_658 (v := nI 1) (by decide) ?_
          refine wp_iaddv d0_659 (v := nI (k + 1)) (nI_add _ _) ?_
          refine wp_sald d0_660 (nI_in (by omega) (by omega)) (v := xs (k + 1)) (congrArg xs (nI_nat (by omega))) ?_
          refine wp_sload_n d0_661 rfl ?_
          refine wp_iload_n d0_662 rfl ?_
          refine wp_iconst d0_663 (v := nI 2) (by decide) ?_
          refine wp_iaddv d0_664 (v := nI (k + 2)) (nI_add _ _) ?_
          refine wp_sald d0_665 (nI_in (by omega) (by omega)) (v := xs (k + 2)) (congrArg xs (nI_nat (by omega))) ?_
          refine wp_invv (e := 71) (j2 := 86) (n := 2) d0_666 (by decide +kernel) (by decide +kernel) rfl rfl rfl h0 (by decide +kernel) (Nat.le_of_ble_eq_true rfl) rfl rfl (Nat.le_of_ble_eq_true rfl) (by decide +kernel) (ag_moveWork hI (xs (k + 1)) (xs (k + 2))) (fun v h hq => ?_)
          obtain ⟨r, rfl, ⟨fs, hfs⟩, hm⟩ := hq
          show m_wp (L, xs) 0 _ _ [.int _] _ _
          refine wp_aload_n d0_669 rfl ?_
          refine wp_sload_n d0_670 rfl ?_
          refine wp_iload_n d0_671 rfl ?_
          refine wp_iconst d0_672 (v := nI 1) (by decide) ?_
          refine wp_iaddv d0_673 (v := nI (k + 1)) (nI_add _ _) ?_
          refine wp_sald d0_674 (nI_in (by omega) (by omega)) (v := xs (k + 1)) (congrArg xs (nI_nat (by omega))) ?_
          refine wp_sload_n d0_675 rfl ?_
          refine wp_iload_n d0_676 rfl ?_
          refine wp_iconst d0_677 (v := nI 2) (by decide) ?_
          refine wp_iaddv d0_678 (v := nI (k + 2)) (nI_add _ _) ?_
          refine wp_sald d0_679 (nI_in (by omega) (by omega)) (v := xs (k + 2)) (congrArg xs (nI_nat (by omega))) ?_
          refine wp_invv (e := 74) (j2 := 244) (n := 2) d0_680 (by decide +kernel) (by decide +kernel) rfl rfl rfl hfs (by decide +kernel) (Nat.le_of_ble_eq_true rfl) rfl rfl (Nat.le_of_ble_eq_true rfl) (by decide +kernel) hm (fun v h hq => ?_)
          obtain ⟨rfl, hI⟩ := hq
          show m_wp (L, xs) 0 _ _ [.int _, .int _] _ _
          refine wp_icmp_eq d0_683 (tgt := 1302) (by decide) (fun _ => ?_) (fun hq9 => absurd rfl hq9)
          refine wp_iinc d0_1302 rfl (v := nI (k + 5)) (nI_add _ 5) (Nat.le_of_ble_eq_true rfl) rfl ?_
          refine wp_goto d0_1305 (tgt := 18) (by decide) ?_
          exact ih _ (by omega) (k + 5) h rfl (by omega) hI
        · refine wp_tswIn d0_32 (by decide) (by decide) (off := 656) (by decide) (tgt := 688) (by decide) ?_
          refine wp_aload_n d0_688 rfl ?_
          refine wp_sload_n d0_689 rfl ?_
          refine wp_iload_n d0_690 rfl ?_
          refine wp_iconst d0_691 (v := nI 1) (by decide) ?_
          refine wp_iaddv d0_692 (v := nI (k + 1)) (nI_add _ _) ?_
          refine wp_sald d0_693 (nI_in (by omega) (by omega)) (v := xs (k + 1)) (congrArg xs (nI_nat (by omega))) ?_
          refine wp_invv (e := 75) (j2 := 95) (n := 1) d0_694 (by decide +kernel) (by decide +kernel) rfl rfl rfl h0 (by decide +kernel) (Nat.le_of_ble_eq_true rfl) rfl rfl (Nat.le_of_ble_eq_true rfl) (by decide +kernel) (ag_takeAway hI (xs (k + 1))) (fun v h hq => ?_)
          obtain ⟨r, rfl, ⟨fs, hfs⟩, hm⟩ := hq
          show m_wp (L, xs) 0 _ _ [.int _] _ _
          refine wp_aload_n d0_697 rfl ?_
          refine wp_sload_n d0_698 rfl ?_
          refine wp_iload_n d0_699 rfl ?_
          refine wp_iconst d0_700 (v := nI 1) (by decide) ?_
          refine wp_iaddv d0_701 (v := nI (k + 1)) (nI_add _ _) ?_
          refine wp_sald d0_702 (nI_in (by omega) (by omega)) (v := xs (k + 1)) (congrArg xs (nI_nat (by omega))) ?_
          refine wp_invv (e := 78) (j2 := 248) (n := 1) d0_703 (by decide +kernel) (by decide +kernel) rfl rfl rfl hfs (by decide +kernel) (Nat.le_of_ble_eq_true rfl) rfl rfl (Nat.le_of_ble_eq_true rfl) (by decide +kernel) hm (fun v h hq => ?_)
          obtain ⟨rfl, hI⟩ := hq
          show m_wp (L, xs) 0 _ _ [.int _, .int _] _ _
          refine wp_icmp_eq d0_706 (tgt := 1302) (by decide) (fun _ => ?_) (fun hq9 => absurd rfl hq9)
          refine wp_iinc d0_1302 rfl (v := nI (k + 5)) (nI_add _ 5) (Nat.le_of_ble_eq_true rfl) rfl ?_
          refine wp_goto d0_1305 (tgt := 18) (by decide) ?_
          exact ih _ (by omega) (k + 5) h rfl (by omega) hI
        · refine wp_tswIn d0_32 (by decide) (by decide) (off := 679) (by decide) (tgt := 711) (by decide) ?_
          refine wp_aload_n d0_711 rfl ?_
          refine wp_sload_n d0_712 rfl ?_
          refine wp_iload_n d0_713 rfl ?_
          refine wp_iconst d0_714 (v := nI 1) (by decide) ?_
          refine wp_iaddv d0_715 (v := nI (k + 1)) (nI_add _ _) ?_
          refine wp_sald d0_716 (nI_in (by omega) (by omega)) (v := xs (k + 1)) (congrArg xs (nI_nat (by omega))) ?_
          refine wp_sload_n d0_717 rfl ?_
          refine wp_iload_n d0_718 rfl ?_
          refine wp_iconst d0_719 (v := nI 2) (by decide) ?_
          refine wp_iaddv d0_720 (v := nI (k + 2)) (nI_add _ _) ?_
          refine wp_sald d0_721 (nI_in (by omega) (by omega)) (v := xs (k + 2)) (congrArg xs (nI_nat (by omega))) ?_
          refine wp_invv (e := 79) (j2 := 98) (n := 2) d0_722 (by decide +kernel) (by decide +kernel) rfl rfl rfl h0 (by decide +kernel) (Nat.le_of_ble_eq_true rfl) rfl rfl (Nat.le_of_ble_eq_true rfl) (by decide +kernel) (ag_clearAlarm hI (xs (k + 1)) (xs (k + 2))) (fun v h hq => ?_)
          obtain ⟨r, rfl, ⟨fs, hfs⟩, hm⟩ := hq
          show m_wp (L, xs) 0 _ _ [.int _] _ _
          refine wp_aload_n d0_725 rfl ?_
          refine wp_sload_n d0_726 rfl ?_
          refine wp_iload_n d0_727 rfl ?_
          refine wp_iconst d0_728 (v := nI 1) (by decide) ?_
          refine wp_iaddv d0_729 (v := nI (k + 1)) (nI_add _ _) ?_
          refine wp_sald d0_730 (nI_in (by omega) (by omega)) (v := xs (k + 1)) (congrArg xs (nI_nat (by omega))) ?_
          refine wp_sload_n d0_731 rfl ?_
          refine wp_iload_n d0_732 rfl ?_
          refine wp_iconst d0_733 (v := nI 2) (by decide) ?_
          refine wp_iaddv d0_734 (v := nI (k + 2)) (nI_add _ _) ?_
          refine wp_sald d0_735 (nI_in (by omega) (by omega)) (v := xs (k + 2)) (congrArg xs (nI_nat (by omega))) ?_
          refine wp_invv (e := 82) (j2 := 249) (n := 2) d0_736 (by decide +kernel) (by decide +kernel) rfl rfl rfl hfs (by decide +kernel) (Nat.le_of_ble_eq_true rfl) rfl rfl (Nat.le_of_ble_eq_true rfl) (by decide +kernel) hm (fun v h hq => ?_)
          obtain ⟨rfl, hI⟩ := hq
          show m_wp (L, xs) 0 _ _ [.int _, .int _] _ _
          refine wp_icmp_eq d0_739 (tgt := 1302) (by decide) (fun _ => ?_) (fun hq9 => absurd rfl hq9)
          refine wp_iinc d0_1302 rfl (v := nI (k + 5)) (nI_add _ 5) (Nat.le_of_ble_eq_true rfl) rfl ?_
          refine wp_goto d0_1305 (tgt := 18) (by decide) ?_
          exact ih _ (by omega) (k + 5) h rfl (by omega) hI
        · refine wp_tswIn d0_32 (by decide) (by decide) (off := 712) (by decide) (tgt := 744) (by decide) ?_
          refine wp_aload_n d0_744 rfl ?_
          refine wp_sload_n d0_745 rfl ?_
          refine wp_iload_n d0_746 rfl ?_
          refine wp_iconst d0_747 (v := nI 1) (by decide) ?_
          refine wp_iaddv d0_748 (v := nI (k + 1)) (nI_add _ _) ?_
          refine wp_sald d0_749 (nI_in (by omega) (by omega)) (v := xs (k + 1)) (congrArg xs (nI_nat (by omega))) ?_
          refine wp_invv (e := 83) (j2 := 105) (n := 1) d0_750 (by decide +kernel) (by decide +kernel) rfl rfl rfl h0 (by decide +kernel) (Nat.le_of_ble_eq_true rfl) rfl rfl (Nat.le_of_ble_eq_true rfl) (by decide +kernel) (ag_pass hI (xs (k + 1))) (fun v h hq => ?_)
          obtain ⟨r, rfl, ⟨fs, hfs⟩, hm⟩ := hq
          show m_wp (L, xs) 0 _ _ [.int _] _ _
          refine wp_aload_n d0_753 rfl ?_
          refine wp_sload_n d0_754 rfl ?_
          refine wp_iload_n d0_755 rfl ?_
          refine wp_iconst d0_756 (v := nI 1) (by decide) ?_
          refine wp_iaddv d0_757 (v := nI (k + 1)) (nI_add _ _) ?_
          refine wp_sald d0_758 (nI_in (by omega) (by omega)) (v := xs (k + 1)) (congrArg xs (nI_nat (by omega))) ?_
          refine wp_invv (e := 86) (j2 := 252) (n := 1) d0_759 (by decide +kernel) (by decide +kernel) rfl rfl rfl hfs (by decide +kernel) (Nat.le_of_ble_eq_true rfl) rfl rfl (Nat.le_of_ble_eq_true rfl) (by decide +kernel) hm (fun v h hq => ?_)
          obtain ⟨rfl, hI⟩ := hq
          show m_wp (L, xs) 0 _ _ [.int _, .int _] _ _
          refine wp_icmp_eq d0_762 (tgt := 1302) (by decide) (fun _ => ?_) (fun hq9 => absurd rfl hq9)
          refine wp_iinc d0_1302 rfl (v := nI (k + 5)) (nI_add _ 5) (Nat.le_of_ble_eq_true rfl) rfl ?_
          refine wp_goto d0_1305 (tgt := 18) (by decide) ?_
          exact ih _ (by omega) (k + 5) h rfl (by omega) hI
        · refine wp_tswIn d0_32 (by decide) (by decide) (off := 735) (by decide) (tgt := 767) (by decide) ?_
          refine wp_aload_n d0_767 rfl ?_
          refine wp_invv (e := 87) (j2 := 137) (n := 0) d0_768 (by decide +kernel) (by decide +kernel) rfl rfl rfl h0 (by decide +kernel) (Nat.le_of_ble_eq_true rfl) rfl rfl (Nat.le_of_ble_eq_true rfl) (by decide +kernel) (ag_nextNight hI) (fun v h hq => ?_)
          obtain ⟨r, rfl, ⟨fs, hfs⟩, hm⟩ := hq
          show m_wp (L, xs) 0 _ _ [.int _] _ _
          refine wp_aload_n d0_771 rfl ?_
          refine wp_invv (e := 90) (j2 := 263) (n := 0) d0_772 (by decide +kernel) (by decide +kernel) rfl rfl rfl hfs (by decide +kernel) (Nat.le_of_ble_eq_true rfl) rfl rfl (Nat.le_of_ble_eq_true rfl) (by decide +kernel) hm (fun v h hq => ?_)
          obtain ⟨rfl, hI⟩ := hq
          show m_wp (L, xs) 0 _ _ [.int _, .int _] _ _
          refine wp_icmp_eq d0_775 (tgt := 1302) (by decide) (fun _ => ?_) (fun hq9 => absurd rfl hq9)
          refine wp_iinc d0_1302 rfl (v := nI (k + 5)) (nI_add _ 5) (Nat.le_of_ble_eq_true rfl) rfl ?_
          refine wp_goto d0_1305 (tgt := 18) (by decide) ?_
          exact ih _ (by omega) (k + 5) h rfl (by omega) hI
        · refine wp_tswIn d0_32 (by decide) (by decide) (off := 748) (by decide) (tgt := 780) (by decide) ?_
          refine wp_aload_n d0_780 rfl ?_
          refine wp_sload_n d0_781 rfl ?_
          refine wp_iload_n d0_782 rfl ?_
          refine wp_iconst d0_783 (v := nI 1) (by decide) ?_
          refine wp_iaddv d0_784 (v := nI (k + 1)) (nI_add _ _) ?_
          refine wp_sald d0_785 (nI_in (by omega) (by omega)) (v := xs (k + 1)) (congrArg xs (nI_nat (by omega))) ?_
          refine wp_i2c d0_786 ?_
          refine wp_invv (e := 91) (j2 := 146) (n := 1) d0_787 (by decide +kernel) (by decide +kernel) rfl rfl rfl h0 (by decide +kernel) (Nat.le_of_ble_eq_true rfl) rfl rfl (Nat.le_of_ble_eq_true rfl) (by decide +kernel) (ag_type hI (xs (k + 1))) (fun v h hq => ?_)
          obtain ⟨r, rfl, ⟨fs, hfs⟩, hm⟩ := hq
          show m_wp (L, xs) 0 _ _ [.int _] _ _
          refine wp_aload_n d0_790 rfl ?_
          refine wp_sload_n d0_791 rfl ?_
          refine wp_iload_n d0_792 rfl ?_
          refine wp_iconst d0_793 (v := nI 1) (by decide) ?_
          refine wp_iaddv d0_794 (v := nI (k + 1)) (nI_add _ _) ?_
          refine wp_sald d0_795 (nI_in (by omega) (by omega)) (v := xs (k + 1)) (congrArg xs (nI_nat (by omega))) ?_
          refine wp_i2c d0_796 ?_
          refine wp_invv (e := 95) (j2 := 265) (n := 1) d0_797 (by decide +kernel) (by decide +kernel) rfl rfl rfl hfs (by decide +kernel) (Nat.le_of_ble_eq_true rfl) rfl rfl (Nat.le_of_ble_eq_true rfl) (by decide +kernel) hm (fun v h hq => ?_)
          obtain ⟨rfl, hI⟩ := hq
          show m_wp (L, xs) 0 _ _ [.int _, .int _] _ _
          refine wp_icmp_eq d0_800 (tgt := 1302) (by decide) (fun _ => ?_) (fun hq9 => absurd rfl hq9)
          refine wp_iinc d0_1302 rfl (v := nI (k + 5)) (nI_add _ 5) (Nat.le_of_ble_eq_true rfl) rfl ?_
          refine wp_goto d0_1305 (tgt := 18) (by decide) ?_
          exact ih _ (by omega) (k + 5) h rfl (by omega) hI
        · refine wp_tswIn d0_32 (by decide) (by decide) (off := 773) (by decide) (tgt := 805) (by decide) ?_
          refine wp_aload_n d0_805 rfl ?_
          refine wp_invv (e := 96) (j2 := 149) (n := 0) d0_806 (by decide +kernel) (by decide +kernel) rfl rfl rfl h0 (by decide +kernel) (Nat.le_of_ble_eq_true rfl) rfl rfl (Nat.le_of_ble_eq_true rfl) (by decide +kernel) (ag_clearText hI) (fun v h hq => ?_)
          obtain ⟨r, rfl, ⟨fs, hfs⟩, hm⟩ := hq
          show m_wp (L, xs) 0 _ _ [.int _] _ _
          refine wp_aload_n d0_809 rfl ?_
          refine wp_invv (e := 99) (j2 := 266) (n := 0) d0_810 (by decide +kernel) (by decide +kernel) rfl rfl rfl hfs (by decide +kernel) (Nat.le_of_ble_eq_true rfl) rfl rfl (Nat.le_of_ble_eq_true rfl) (by decide +kernel) hm (fun v h hq => ?_)
          obtain ⟨rfl, hI⟩ := hq
          show m_wp (L, xs) 0 _ _ [.int _, .int _] _ _
          refine wp_icmp_eq d0_813 (tgt := 1302) (by decide) (fun _ => ?_) (fun hq9 => absurd rfl hq9)
          refine wp_iinc d0_1302 rfl (v := nI (k + 5)) (nI_add _ 5) (Nat.le_of_ble_eq_true rfl) rfl ?_
          refine wp_goto d0_1305 (tgt := 18) (by decide) ?_
          exact ih _ (by omega) (k + 5) h rfl (by omega) hI
        · refine wp_tswIn d0_32 (by decide) (by decide) (off := 786) (by decide) (tgt := 818) (by decide) ?_
          refine wp_aload_n d0_818 rfl ?_
          refine wp_sload_n d0_819 rfl ?_
          refine wp_iload_n d0_820 rfl ?_
          refine wp_iconst d0_821 (v := nI 1) (by decide) ?_
          refine wp_iaddv d0_822 (v := nI (k + 1)) (nI_add _ _) ?_
          refine wp_sald d0_823 (nI_in (by omega) (by omega)) (v := xs (k + 1)) (congrArg xs (nI_nat (by omega))) ?_
          refine wp_invv (e := 100) (j2 := 151) (n := 1) d0_824 (by decide +kernel) (by decide +kernel) rfl rfl rfl h0 (by decide +kernel) (Nat.le_of_ble_eq_true rfl) rfl rfl (Nat.le_of_ble_eq_true rfl) (by decide +kernel) (ag_readOrders hI (xs (k + 1))) (fun v h hq => ?_)
          obtain ⟨r, rfl, ⟨fs, hfs⟩, hm⟩ := hq
          show m_wp (L, xs) 0 _ _ [.int _] _ _
          refine wp_aload_n d0_827 rfl ?_
          refine wp_sload_n d0_828 rfl ?_
          refine wp_iload_n d0_829 rfl ?_
          refine wp_iconst d0_830 (v := nI 1) (by decide) ?_
          refine wp_iaddv d0_831 (v := nI (k + 1)) (nI_add _ _) ?_
          refine wp_sald d0_832 (nI_in (by omega) (by omega)) (v := xs (k + 1)) (congrArg xs (nI_nat (by omega))) ?_
          refine wp_invv (e := 103) (j2 := 267) (n := 1) d0_833 (by decide +kernel) (by decide +kernel) rfl rfl rfl hfs (by decide +kernel) (Nat.le_of_ble_eq_true rfl) rfl rfl (Nat.le_of_ble_eq_true rfl) (by decide +kernel) hm (fun v h hq => ?_)
          obtain ⟨rfl, hI⟩ := hq
          show m_wp (L, xs) 0 _ _ [.int _, .int _] _ _
          refine wp_icmp_eq d0_836 (tgt := 1302) (by decide) (fun _ => ?_) (fun hq9 => absurd rfl hq9)
          refine wp_iinc d0_1302 rfl (v := nI (k + 5)) (nI_add _ 5) (Nat.le_of_ble_eq_true rfl) rfl ?_
          refine wp_goto d0_1305 (tgt := 18) (by decide) ?_
          exact ih _ (by omega) (k + 5) h rfl (by omega) hI
        · refine wp_tswIn d0_32 (by decide) (by decide) (off := 809) (by decide) (tgt := 841) (by decide) ?_
          refine wp_aload_n d0_841 rfl ?_
          refine wp_invv (e := 104) (j2 := 160) (n := 0) d0_842 (by decide +kernel) (by decide +kernel) rfl rfl rfl h0 (by decide +kernel) (Nat.le_of_ble_eq_true rfl) rfl rfl (Nat.le_of_ble_eq_true rfl) (by decide +kernel) (ag_undo hI) (fun v h hq => ?_)
          obtain ⟨r, rfl, ⟨fs, hfs⟩, hm⟩ := hq
          show m_wp (L, xs) 0 _ _ [.int _] _ _
          refine wp_aload_n d0_845 rfl ?_
          refine wp_invv (e := 107) (j2 := 273) (n := 0) d0_846 (by decide +kernel) (by decide +kernel) rfl rfl rfl hfs (by decide +kernel) (Nat.le_of_ble_eq_true rfl) rfl rfl (Nat.le_of_ble_eq_true rfl) (by decide +kernel) hm (fun v h hq => ?_)
          obtain ⟨rfl, hI⟩ := hq
          show m_wp (L, xs) 0 _ _ [.int _, .int _] _ _
          refine wp_icmp_eq d0_849 (tgt := 1302) (by decide) (fun _ => ?_) (fun hq9 => absurd rfl hq9)
          refine wp_iinc d0_1302 rfl (v := nI (k + 5)) (nI_add _ 5) (Nat.le_of_ble_eq_true rfl) rfl ?_
          refine wp_goto d0_1305 (tgt := 18) (by decide) ?_
          exact ih _ (by omega) (k + 5) h rfl (by omega) hI
        · refine wp_tswIn d0_32 (by decide) (by decide) (off := 822) (by decide) (tgt := 854) (by decide) ?_
          refine wp_aload_n d0_854 rfl ?_
          refine wp_invv (e := 108) (j2 := 163) (n := 0) d0_855 (by decide +kernel) (by decide +kernel) rfl rfl rfl h0 (by decide +kernel) (Nat.le_of_ble_eq_true rfl) rfl rfl (Nat.le_of_ble_eq_true rfl) (by decide +kernel) (ag_keep hI) (fun v h hq => ?_)
          obtain ⟨r, rfl, ⟨fs, hfs⟩, hm⟩ := hq
          show m_wp (L, xs) 0 _ _ [.int _] _ _
          refine wp_aload_n d0_858 rfl ?_
          refine wp_invv (e := 111) (j2 := 274) (n := 0) d0_859 (by decide +kernel) (by decide +kernel) rfl rfl rfl hfs (by decide +kernel) (Nat.le_of_ble_eq_true rfl) rfl rfl (Nat.le_of_ble_eq_true rfl) (by decide +kernel) hm (fun v h hq => ?_)
          obtain ⟨rfl, hI⟩ := hq
          show m_wp (L, xs) 0 _ _ [.int _, .int _] _ _
          refine wp_icmp_eq d0_862 (tgt := 1302) (by decide) (fun _ => ?_) (fun hq9 => absurd rfl hq9)
          refine wp_iinc d0_1302 rfl (v := nI (k + 5)) (nI_add _ 5) (Nat.le_of_ble_eq_true rfl) rfl ?_
          refine wp_goto d0_1305 (tgt := 18) (by decide) ?_
          exact ih _ (by omega) (k + 5) h rfl (by omega) hI
        · refine wp_tswIn d0_32 (by decide) (by decide) (off := 835) (by decide) (tgt := 867) (by decide) ?_
          refine wp_aload_n d0_867 rfl ?_
          refine wp_invv (e := 112) (j2 := 164) (n := 0) d0_868 (by decide +kernel) (by decide +kernel) rfl rfl rfl h0 (by decide +kernel) (Nat.le_of_ble_eq_true rfl) rfl rfl (Nat.le_of_ble_eq_true rfl) (by decide +kernel) (ag_restore hI) (fun v h hq => ?_)
          obtain ⟨r, rfl, ⟨fs, hfs⟩, hm⟩ := hq
          show m_wp (L, xs) 0 _ _ [.int _] _ _
          refine wp_aload_n d0_871 rfl ?_
          refine wp_invv (e := 115) (j2 := 275) (n := 0) d0_872 (by decide +kernel) (by decide +kernel) rfl rfl rfl hfs (by decide +kernel) (Nat.le_of_ble_eq_true rfl) rfl rfl (Nat.le_of_ble_eq_true rfl) (by decide +kernel) hm (fun v h hq => ?_)
          obtain ⟨rfl, hI⟩ := hq
          show m_wp (L, xs) 0 _ _ [.int _, .int _] _ _
          refine wp_icmp_eq d0_875 (tgt := 1302) (by decide) (fun _ => ?_) (fun hq9 => absurd rfl hq9)
          refine wp_iinc d0_1302 rfl (v := nI (k + 5)) (nI_add _ 5) (Nat.le_of_ble_eq_true rfl) rfl ?_
          refine wp_goto d0_1305 (tgt := 18) (by decide) ?_
          exact ih _ (by omega) (k + 5) h rfl (by omega) hI
        · refine wp_tswIn d0_32 (by decide) (by decide) (off := 848) (by decide) (tgt := 880) (by decide) ?_
          refine wp_aload_n d0_880 rfl ?_
          refine wp_sload_n d0_881 rfl ?_
          refine wp_iload_n d0_882 rfl ?_
          refine wp_iconst d0_883 (v := nI 1) (by decide) ?_
          refine wp_iaddv d0_884 (v := nI (k + 1)) (nI_add _ _) ?_
          refine wp_sald d0_885 (nI_in (by omega) (by omega)) (v := xs (k + 1)) (congrArg xs (nI_nat (by omega))) ?_
          refine wp_sload_n d0_886 rfl ?_
          refine wp_iload_n d0_887 rfl ?_
          refine wp_iconst d0_888 (v := nI 2) (by decide) ?_
          refine wp_iaddv d0_889 (v := nI (k + 2)) (nI_add _ _) ?_
          refine wp_sald d0_890 (nI_in (by omega) (by omega)) (v := xs (k + 2)) (congrArg xs (nI_nat (by omega))) ?_
          refine wp_invv (e := 116) (j2 := 165) (n := 2) d0_891 (by decide +kernel) (by decide +kernel) rfl rfl rfl h0 (by decide +kernel) (Nat.le_of_ble_eq_true rfl) rfl rfl (Nat.le_of_ble_eq_true rfl) (by decide +kernel) (ag_room hI (xs (k + 1)) (xs (k + 2))) (fun v h hq => ?_)
          obtain ⟨r, rfl, ⟨fs, hfs⟩, hm⟩ := hq
          show m_wp (L, xs) 0 _ _ [.int _] _ _
          refine wp_aload_n d0_894 rfl ?_
          refine wp_sload_n d0_895 rfl ?_
          refine wp_iload_n d0_896 rfl ?_
          refine wp_iconst d0_897 (v := nI 1) (by decide) ?_
          refine wp_iaddv d0_898 (v := nI (k + 1)) (nI_add _ _) ?_
          refine wp_sald d0_899 (nI_in (by omega) (by omega)) (v := xs (k + 1)) (congrArg xs (nI_nat (by omega))) ?_
          refine wp_sload_n d0_900 rfl ?_
          refine wp_iload_n d0_901 rfl ?_
          refine wp_iconst d0_902 (v := nI 2) (by decide) ?_
          refine wp_iaddv d0_903 (v := nI (k + 2)) (nI_add _ _) ?_
          refine wp_sald d0_904 (nI_in (by omega) (by omega)) (v := xs (k + 2)) (congrArg xs (nI_nat (by omega))) ?_
          refine wp_invv (e := 119) (j2 := 276) (n := 2) d0_905 (by decide +kernel) (by decide +kernel) rfl rfl rfl hfs (by decide +kernel) (Nat.le_of_ble_eq_true rfl) rfl rfl (Nat.le_of_ble_eq_true rfl) (by decide +kernel) hm (fun v h hq => ?_)
          obtain ⟨rfl, hI⟩ := hq
          show m_wp (L, xs) 0 _ _ [.int _, .int _] _ _
          refine wp_icmp_eq d0_908 (tgt := 1302) (by decide) (fun _ => ?_) (fun hq9 => absurd rfl hq9)
          refine wp_iinc d0_1302 rfl (v := nI (k + 5)) (nI_add _ 5) (Nat.le_of_ble_eq_true rfl) rfl ?_
          refine wp_goto d0_1305 (tgt := 18) (by decide) ?_
          exact ih _ (by omega) (k + 5) h rfl (by omega) hI
        · refine wp_tswIn d0_32 (by decide) (by decide) (off := 881) (by decide) (tgt := 913) (by decide) ?_
          refine wp_aload_n d0_913 rfl ?_
          refine wp_sload_n d0_914 rfl ?_
          refine wp_iload_n d0_915 rfl ?_
          refine wp_iconst d0_916 (v := nI 1) (by decide) ?_
          refine wp_iaddv d0_917 (v := nI (k + 1)) (nI_add _ _) ?_
          refine wp_sald d0_918 (nI_in (by omega) (by omega)) (v := xs (k + 1)) (congrArg xs (nI_nat (by omega))) ?_
          refine wp_sload_n d0_919 rfl ?_
          refine wp_iload_n d0_920 rfl ?_
          refine wp_iconst d0_921 (v := nI 2) (by decide) ?_
          refine wp_iaddv d0_922 (v := nI (k + 2)) (nI_add _ _) ?_
          refine wp_sald d0_923 (nI_in (by omega) (by omega)) (v := xs (k + 2)) (congrArg xs (nI_nat (by omega))) ?_
          refine wp_invv (e := 120) (j2 := 170) (n := 2) d0_924 (by decide +kernel) (by decide +kernel) rfl rfl rfl h0 (by decide +kernel) (Nat.le_of_ble_eq_true rfl) rfl rfl (Nat.le_of_ble_eq_true rfl) (by decide +kernel) (ag_door hI (xs (k + 1)) (xs (k + 2))) (fun v h hq => ?_)
          obtain ⟨r, rfl, ⟨fs, hfs⟩, hm⟩ := hq
          show m_wp (L, xs) 0 _ _ [.int _] _ _
          refine wp_aload_n d0_927 rfl ?_
          refine wp_sload_n d0_928 rfl ?_
          refine wp_iload_n d0_929 rfl ?_
          refine wp_iconst d0_930 (v := nI 1) (by decide) ?_
          refine wp_iaddv d0_931 (v := nI (k + 1)) (nI_add _ _) ?_
          refine wp_sald d0_932 (nI_in (by omega) (by omega)) (v := xs (k + 1)) (congrArg xs (nI_nat (by omega))) ?_
          refine wp_sload_n d0_933 rfl ?_
          refine wp_iload_n d0_934 rfl ?_
          refine wp_iconst d0_935 (v := nI 2) (by decide) ?_
          refine wp_iaddv d0_936 (v := nI (k + 2)) (nI_add _ _) ?_
          refine wp_sald d0_937 (nI_in (by omega) (by omega)) (v := xs (k + 2)) (congrArg xs (nI_nat (by omega))) ?_
          refine wp_invv (e := 123) (j2 := 277) (n := 2) d0_938 (by decide +kernel) (by decide +kernel) rfl rfl rfl hfs (by decide +kernel) (Nat.le_of_ble_eq_true rfl) rfl rfl (Nat.le_of_ble_eq_true rfl) (by decide +kernel) hm (fun v h hq => ?_)
          obtain ⟨rfl, hI⟩ := hq
          show m_wp (L, xs) 0 _ _ [.int _, .int _] _ _
          refine wp_icmp_eq d0_941 (tgt := 1302) (by decide) (fun _ => ?_) (fun hq9 => absurd rfl hq9)
          refine wp_iinc d0_1302 rfl (v := nI (k + 5)) (nI_add _ 5) (Nat.le_of_ble_eq_true rfl) rfl ?_
          refine wp_goto d0_1305 (tgt := 18) (by decide) ?_
          exact ih _ (by omega) (k + 5) h rfl (by omega) hI
        · refine wp_tswIn d0_32 (by decide) (by decide) (off := 914) (by decide) (tgt := 946) (by decide) ?_
          refine wp_aload_n d0_946 rfl ?_
          refine wp_sload_n d0_947 rfl ?_
          refine wp_iload_n d0_948 rfl ?_
          refine wp_iconst d0_949 (v := nI 1) (by decide) ?_
          refine wp_iaddv d0_950 (v := nI (k + 1)) (nI_add _ _) ?_
          refine wp_sald d0_951 (nI_in (by omega) (by omega)) (v := xs (k + 1)) (congrArg xs (nI_nat (by omega))) ?_
          refine wp_sload_n d0_952 rfl ?_
          refine wp_iload_n d0_953 rfl ?_
          refine wp_iconst d0_954 (v := nI 2) (by decide) ?_
          refine wp_iaddv d0_955 (v := nI (k + 2)) (nI_add _ _) ?_
          refine wp_sald d0_956 (nI_in (by omega) (by omega)) (v := xs (k + 2)) (congrArg xs (nI_nat (by omega))) ?_
          refine wp_invv (e := 124) (j2 := 175) (n := 2) d0_957 (by decide +kernel) (by decide +kernel) rfl rfl rfl h0 (by decide +kernel) (Nat.le_of_ble_eq_true rfl) rfl rfl (Nat.le_of_ble_eq_true rfl) (by decide +kernel) (ag_zone hI (xs (k + 1)) (xs (k + 2))) (fun v h hq => ?_)
          obtain ⟨r, rfl, ⟨fs, hfs⟩, hm⟩ := hq
          show m_wp (L, xs) 0 _ _ [.int _] _ _
          refine wp_aload_n d0_960 rfl ?_
          refine wp_sload_n d0_961 rfl ?_
          refine wp_iload_n d0_962 rfl ?_
          refine wp_iconst d0_963 (v := nI 1) (by decide) ?_
          refine wp_iaddv d0_964 (v := nI (k + 1)) (nI_add _ _) ?_
          refine wp_sald d0_965 (nI_in (by omega) (by omega)) (v := xs (k + 1)) (congrArg xs (nI_nat (by omega))) ?_
          refine wp_sload_n d0_966 rfl ?_
          refine wp_iload_n d0_967 rfl ?_
          refine wp_iconst d0_968 (v := nI 2) (by decide) ?_
          refine wp_iaddv d0_969 (v := nI (k + 2)) (nI_add _ _) ?_
          refine wp_sald d0_970 (nI_in (by omega) (by omega)) (v := xs (k + 2)) (congrArg xs (nI_nat (by omega))) ?_
          refine wp_invv (e := 127) (j2 := 279) (n := 2) d0_971 (by decide +kernel) (by decide +kernel) rfl rfl rfl hfs (by decide +kernel) (Nat.le_of_ble_eq_true rfl) rfl rfl (Nat.le_of_ble_eq_true rfl) (by decide +kernel) hm (fun v h hq => ?_)
          obtain ⟨rfl, hI⟩ := hq
          show m_wp (L, xs) 0 _ _ [.int _, .int _] _ _
          refine wp_icmp_eq d0_974 (tgt := 1302) (by decide) (fun _ => ?_) (fun hq9 => absurd rfl hq9)
          refine wp_iinc d0_1302 rfl (v := nI (k + 5)) (nI_add _ 5) (Nat.le_of_ble_eq_true rfl) rfl ?_
          refine wp_goto d0_1305 (tgt := 18) (by decide) ?_
          exact ih _ (by omega) (k + 5) h rfl (by omega) hI
        · refine wp_tswIn d0_32 (by decide) (by decide) (off := 947) (by decide) (tgt := 979) (by decide) ?_
          refine wp_aload_n d0_979 rfl ?_
          refine wp_sload_n d0_980 rfl ?_
          refine wp_iload_n d0_981 rfl ?_
          refine wp_iconst d0_982 (v := nI 1) (by decide) ?_
          refine wp_iaddv d0_983 (v := nI (k + 1)) (nI_add _ _) ?_
          refine wp_sald d0_984 (nI_in (by omega) (by omega)) (v := xs (k + 1)) (congrArg xs (nI_nat (by omega))) ?_
          refine wp_sload_n d0_985 rfl ?_
          refine wp_iload_n d0_986 rfl ?_
          refine wp_iconst d0_987 (v := nI 2) (by decide) ?_
          refine wp_iaddv d0_988 (v := nI (k + 2)) (nI_add _ _) ?_
          refine wp_sald d0_989 (nI_in (by omega) (by omega)) (v := xs (k + 2)) (congrArg xs (nI_nat (by omega))) ?_
          refine wp_invv (e := 128) (j2 := 178) (n := 2) d0_990 (by decide +kernel) (by decide +kernel) rfl rfl rfl h0 (by decide +kernel) (Nat.le_of_ble_eq_true rfl) rfl rfl (Nat.le_of_ble_eq_true rfl) (by decide +kernel) (ag_guard hI (xs (k + 1)) (xs (k + 2))) (fun v h hq => ?_)
          obtain ⟨r, rfl, ⟨fs, hfs⟩, hm⟩ := hq
          show m_wp (L, xs) 0 _ _ [.int _] _ _
          refine wp_aload_n d0_993 rfl ?_
          refine wp_sload_n d0_994 rfl ?_
          refine wp_iload_n d0_995 rfl ?_
          refine wp_iconst d0_996 (v := nI 1) (by decide) ?_
          refine wp_iaddv d0_997 (v := nI (k + 1)) (nI_add _ _) ?_
          refine wp_sald d0_998 (nI_in (by omega) (by omega)) (v := xs (k + 1)) (congrArg xs (nI_nat (by omega))) ?_
          refine wp_sload_n d0_999 rfl ?_
          refine wp_iload_n d0_1000 rfl ?_
          refine wp_iconst d0_1001 (v := nI 2) (by decide) ?_
          refine wp_iaddv d0_1002 (v := nI (k + 2)) (nI_add _ _) ?_
          refine wp_sald d0_1003 (nI_in (by omega) (by omega)) (v := xs (k + 2)) (congrArg xs (nI_nat (by omega))) ?_
          refine wp_invv (e := 131) (j2 := 280) (n := 2) d0_1004 (by decide +kernel) (by decide +kernel) rfl rfl rfl hfs (by decide +kernel) (Nat.le_of_ble_eq_true rfl) rfl rfl (Nat.le_of_ble_eq_true rfl) (by decide +kernel) hm (fun v h hq => ?_)
          obtain ⟨rfl, hI⟩ := hq
          show m_wp (L, xs) 0 _ _ [.int _, .int _] _ _
          refine wp_icmp_eq d0_1007 (tgt := 1302) (by decide) (fun _ => ?_) (fun hq9 => absurd rfl hq9)
          refine wp_iinc d0_1302 rfl (v := nI (k + 5)) (nI_add _ 5) (Nat.le_of_ble_eq_true rfl) rfl ?_
          refine wp_goto d0_1305 (tgt := 18) (by decide) ?_
          exact ih _ (by omega) (k + 5) h rfl (by omega) hI
        · refine wp_tswIn d0_32 (by decide) (by decide) (off := 980) (by decide) (tgt := 1012) (by decide) ?_
          refine wp_aload_n d0_1012 rfl ?_
          refine wp_sload_n d0_1013 rfl ?_
          refine wp_iload_n d0_1014 rfl ?_
          refine wp_iconst d0_1015 (v := nI 1) (by decide) ?_
          refine wp_iaddv d0_1016 (v := nI (k + 1)) (nI_add _ _) ?_
          refine wp_sald d0_1017 (nI_in (by omega) (by omega)) (v := xs (k + 1)) (congrArg xs (nI_nat (by omega))) ?_
          refine wp_sload_n d0_1018 rfl ?_
          refine wp_iload_n d0_1019 rfl ?_
          refine wp_iconst d0_1020 (v := nI 2) (by decide) ?_
          refine wp_iaddv d0_1021 (v := nI (k + 2)) (nI_add _ _) ?_
          refine wp_sald d0_1022 (nI_in (by omega) (by omega)) (v := xs (k + 2)) (congrArg xs (nI_nat (by omega))) ?_
          refine wp_invv (e := 132) (j2 := 181) (n := 2) d0_1023 (by decide +kernel) (by decide +kernel) rfl rfl rfl h0 (by decide +kernel) (Nat.le_of_ble_eq_true rfl) rfl rfl (Nat.le_of_ble_eq_true rfl) (by decide +kernel) (ag_orderAt hI (xs (k + 1)) (xs (k + 2))) (fun v h hq => ?_)
          obtain ⟨r, rfl, ⟨fs, hfs⟩, hm⟩ := hq
          show m_wp (L, xs) 0 _ _ [.int _] _ _
          refine wp_aload_n d0_1026 rfl ?_
          refine wp_sload_n d0_1027 rfl ?_
          refine wp_iload_n d0_1028 rfl ?_
          refine wp_iconst d0_1029 (v := nI 1) (by decide) ?_
          refine wp_iaddv d0_1030 (v := nI (k + 1)) (nI_add _ _) ?_
          refine wp_sald d0_1031 (nI_in (by omega) (by omega)) (v := xs (k + 1)) (congrArg xs (nI_nat (by omega))) ?_
          refine wp_sload_n d0_1032 rfl ?_
          refine wp_iload_n d0_1033 rfl ?_
          refine wp_iconst d0_1034 (v := nI 2) (by decide) ?_
          refine wp_iaddv d0_1035 (v := nI (k + 2)) (nI_add _ _) ?_
          refine wp_sald d0_1036 (nI_in (by omega) (by omega)) (v := xs (k + 2)) (congrArg xs (nI_nat (by omega))) ?_
          refine wp_invv (e := 135) (j2 := 281) (n := 2) d0_1037 (by decide +kernel) (by decide +kernel) rfl rfl rfl hfs (by decide +kernel) (Nat.le_of_ble_eq_true rfl) rfl rfl (Nat.le_of_ble_eq_true rfl) (by decide +kernel) hm (fun v h hq => ?_)
          obtain ⟨rfl, hI⟩ := hq
          show m_wp (L, xs) 0 _ _ [.int _, .int _] _ _
          refine wp_icmp_eq d0_1040 (tgt := 1302) (by decide) (fun _ => ?_) (fun hq9 => absurd rfl hq9)
          refine wp_iinc d0_1302 rfl (v := nI (k + 5)) (nI_add _ 5) (Nat.le_of_ble_eq_true rfl) rfl ?_
          refine wp_goto d0_1305 (tgt := 18) (by decide) ?_
          exact ih _ (by omega) (k + 5) h rfl (by omega) hI
        · refine wp_tswIn d0_32 (by decide) (by decide) (off := 1013) (by decide) (tgt := 1045) (by decide) ?_
          refine wp_aload_n d0_1045 rfl ?_
          refine wp_sload_n d0_1046 rfl ?_
          refine wp_iload_n d0_1047 rfl ?_
          refine wp_iconst d0_1048 (v := nI 1) (by decide) ?_
          refine wp_iaddv d0_1049 (v := nI (k + 1)) (nI_add _ _) ?_
          refine wp_sald d0_1050 (nI_in (by omega) (by omega)) (v := xs (k + 1)) (congrArg xs (nI_nat (by omega))) ?_
          refine wp_invv (e := 136) (j2 := 182) (n := 1) d0_1051 (by decide +kernel) (by decide +kernel) rfl rfl rfl h0 (by decide +kernel) (Nat.le_of_ble_eq_true rfl) rfl rfl (Nat.le_of_ble_eq_true rfl) (by decide +kernel) (ag_holder hI (xs (k + 1))) (fun v h hq => ?_)
          obtain ⟨r, rfl, ⟨fs, hfs⟩, hm⟩ := hq
          show m_wp (L, xs) 0 _ _ [.int _] _ _
          refine wp_aload_n d0_1054 rfl ?_
          refine wp_sload_n d0_1055 rfl ?_
          refine wp_iload_n d0_1056 rfl ?_
          refine wp_iconst d0_1057 (v := nI 1) (by decide) ?_
          refine wp_iaddv d0_1058 (v := nI (k + 1)) (nI_add _ _) ?_
          refine wp_sald d0_1059 (nI_in (by omega) (by omega)) (v := xs (k + 1)) (congrArg xs (nI_nat (by omega))) ?_
          refine wp_invv (e := 139) (j2 := 282) (n := 1) d0_1060 (by decide +kernel) (by decide +kernel) rfl rfl rfl hfs (by decide +kernel) (Nat.le_of_ble_eq_true rfl) rfl rfl (Nat.le_of_ble_eq_true rfl) (by decide +kernel) hm (fun v h hq => ?_)
          obtain ⟨rfl, hI⟩ := hq
          show m_wp (L, xs) 0 _ _ [.int _, .int _] _ _
          refine wp_icmp_eq d0_1063 (tgt := 1302) (by decide) (fun _ => ?_) (fun hq9 => absurd rfl hq9)
          refine wp_iinc d0_1302 rfl (v := nI (k + 5)) (nI_add _ 5) (Nat.le_of_ble_eq_true rfl) rfl ?_
          refine wp_goto d0_1305 (tgt := 18) (by decide) ?_
          exact ih _ (by omega) (k + 5) h rfl (by omega) hI
        · refine wp_tswIn d0_32 (by decide) (by decide) (off := 1036) (by decide) (tgt := 1068) (by decide) ?_
          refine wp_aload_n d0_1068 rfl ?_
          refine wp_sload_n d0_1069 rfl ?_
          refine wp_iload_n d0_1070 rfl ?_
          refine wp_iconst d0_1071 (v := nI 1) (by decide) ?_
          refine wp_iaddv d0_1072 (v := nI (k + 1)) (nI_add _ _) ?_
          refine wp_sald d0_1073 (nI_in (by omega) (by omega)) (v := xs (k + 1)) (congrArg xs (nI_nat (by omega))) ?_
          refine wp_sload_n d0_1074 rfl ?_
          refine wp_iload_n d0_1075 rfl ?_
          refine wp_iconst d0_1076 (v := nI 2) (by decide) ?_
          refine wp_iaddv d0_1077 (v := nI (k + 2)) (nI_add _ _) ?_
          refine wp_sald d0_1078 (nI_in (by omega) (by omega)) (v := xs (k + 2)) (congrArg xs (nI_nat (by omega))) ?_
          refine wp_invv (e := 140) (j2 := 183) (n := 2) d0_1079 (by decide +kernel) (by decide +kernel) rfl rfl rfl h0 (by decide +kernel) (Nat.le_of_ble_eq_true rfl) rfl rfl (Nat.le_of_ble_eq_true rfl) (by decide +kernel) (ag_work hI (xs (k + 1)) (xs (k + 2))) (fun v h hq => ?_)
          obtain ⟨r, rfl, ⟨fs, hfs⟩, hm⟩ := hq
          show m_wp (L, xs) 0 _ _ [.int _] _ _
          refine wp_aload_n d0_1082 rfl ?_
          refine wp_sload_n d0_1083 rfl ?_
          refine wp_iload_n d0_1084 rfl ?_
          refine wp_iconst d0_1085 (v := nI 1) (by decide) ?_
          refine wp_iaddv d0_1086 (v := nI (k + 1)) (nI_add _ _) ?_
          refine wp_sald d0_1087 (nI_in (by omega) (by omega)) (v := xs (k + 1)) (congrArg xs (nI_nat (by omega))) ?_
          refine wp_sload_n d0_1088 rfl ?_
          refine wp_iload_n d0_1089 rfl ?_
          refine wp_iconst d0_1090 (v := nI 2) (by decide) ?_
          refine wp_iaddv d0_1091 (v := nI (k + 2)) (nI_add _ _) ?_
          refine wp_sald d0_1092 (nI_in (by omega) (by omega)) (v := xs (k + 2)) (congrArg xs (nI_nat (by omega))) ?_
          refine wp_invv (e := 143) (j2 := 283) (n := 2) d0_1093 (by decide +kernel) (by decide +kernel) rfl rfl rfl hfs (by decide +kernel) (Nat.le_of_ble_eq_true rfl) rfl rfl (Nat.le_of_ble_eq_true rfl) (by decide +kernel) hm (fun v h hq => ?_)
          obtain ⟨rfl, hI⟩ := hq
          show m_wp (L, xs) 0 _ _ [.int _, .int _] _ _
          refine wp_icmp_eq d0_1096 (tgt := 1302) (by decide) (fun _ => ?_) (fun hq9 => absurd rfl hq9)
          refine wp_iinc d0_1302 rfl (v := nI (k + 5)) (nI_add _ 5) (Nat.le_of_ble_eq_true rfl) rfl ?_
          refine wp_goto d0_1305 (tgt := 18) (by decide) ?_
          exact ih _ (by omega) (k + 5) h rfl (by omega) hI
        · refine wp_tswIn d0_32 (by decide) (by decide) (off := 1069) (by decide) (tgt := 1101) (by decide) ?_
          refine wp_aload_n d0_1101 rfl ?_
          refine wp_sload_n d0_1102 rfl ?_
          refine wp_iload_n d0_1103 rfl ?_
          refine wp_iconst d0_1104 (v := nI 1) (by decide) ?_
          refine wp_iaddv d0_1105 (v := nI (k + 1)) (nI_add _ _) ?_
          refine wp_sald d0_1106 (nI_in (by omega) (by omega)) (v := xs (k + 1)) (congrArg xs (nI_nat (by omega))) ?_
          refine wp_sload_n d0_1107 rfl ?_
          refine wp_iload_n d0_1108 rfl ?_
          refine wp_iconst d0_1109 (v := nI 2) (by decide) ?_
          refine wp_iaddv d0_1110 (v := nI (k + 2)) (nI_add _ _) ?_
          refine wp_sald d0_1111 (nI_in (by omega) (by omega)) (v := xs (k + 2)) (congrArg xs (nI_nat (by omega))) ?_
          refine wp_invv (e := 144) (j2 := 185) (n := 2) d0_1112 (by decide +kernel) (by decide +kernel) rfl rfl rfl h0 (by decide +kernel) (Nat.le_of_ble_eq_true rfl) rfl rfl (Nat.le_of_ble_eq_true rfl) (by decide +kernel) (ag_alarm hI (xs (k + 1)) (xs (k + 2))) (fun v h hq => ?_)
          obtain ⟨r, rfl, ⟨fs, hfs⟩, hm⟩ := hq
          show m_wp (L, xs) 0 _ _ [.int _] _ _
          refine wp_aload_n d0_1115 rfl ?_
          refine wp_sload_n d0_1116 rfl ?_
          refine wp_iload_n d0_1117 rfl ?_
          refine wp_iconst d0_1118 (v := nI 1) (by decide) ?_
          refine wp_iaddv d0_1119 (v := nI (k + 1)) (nI_add _ _) ?_
          refine wp_sald d0_1120 (nI_in (by omega) (by omega)) (v := xs (k + 1)) (congrArg xs (nI_nat (by omega))) ?_
          refine wp_sload_n d0_1121 rfl ?_
          refine wp_iload_n d0_1122 rfl ?_
          refine wp_iconst d0_1123 (v := nI 2) (by decide) ?_
          refine wp_iaddv d0_1124 (v := nI (k + 2)) (nI_add _ _) ?_
          refine wp_sald d0_1125 (nI_in (by omega) (by omega)) (v := xs (k + 2)) (congrArg xs (nI_nat (by omega))) ?_
          refine wp_invv (e := 147) (j2 := 284) (n := 2) d0_1126 (by decide +kernel) (by decide +kernel) rfl rfl rfl hfs (by decide +kernel) (Nat.le_of_ble_eq_true rfl) rfl rfl (Nat.le_of_ble_eq_true rfl) (by decide +kernel) hm (fun v h hq => ?_)
          obtain ⟨rfl, hI⟩ := hq
          show m_wp (L, xs) 0 _ _ [.int _, .int _] _ _
          refine wp_icmp_eq d0_1129 (tgt := 1302) (by decide) (fun _ => ?_) (fun hq9 => absurd rfl hq9)
          refine wp_iinc d0_1302 rfl (v := nI (k + 5)) (nI_add _ 5) (Nat.le_of_ble_eq_true rfl) rfl ?_
          refine wp_goto d0_1305 (tgt := 18) (by decide) ?_
          exact ih _ (by omega) (k + 5) h rfl (by omega) hI
        · refine wp_tswIn d0_32 (by decide) (by decide) (off := 1102) (by decide) (tgt := 1134) (by decide) ?_
          refine wp_aload_n d0_1134 rfl ?_
          refine wp_sload_n d0_1135 rfl ?_
          refine wp_iload_n d0_1136 rfl ?_
          refine wp_iconst d0_1137 (v := nI 1) (by decide) ?_
          refine wp_iaddv d0_1138 (v := nI (k + 1)) (nI_add _ _) ?_
          refine wp_sald d0_1139 (nI_in (by omega) (by omega)) (v := xs (k + 1)) (congrArg xs (nI_nat (by omega))) ?_
          refine wp_sload_n d0_1140 rfl ?_
          refine wp_iload_n d0_1141 rfl ?_
          refine wp_iconst d0_1142 (v := nI 2) (by decide) ?_
          refine wp_iaddv d0_1143 (v := nI (k + 2)) (nI_add _ _) ?_
          refine wp_sald d0_1144 (nI_in (by omega) (by omega)) (v := xs (k + 2)) (congrArg xs (nI_nat (by omega))) ?_
          refine wp_invv (e := 148) (j2 := 188) (n := 2) d0_1145 (by decide +kernel) (by decide +kernel) rfl rfl rfl h0 (by decide +kernel) (Nat.le_of_ble_eq_true rfl) rfl rfl (Nat.le_of_ble_eq_true rfl) (by decide +kernel) (ag_stay hI (xs (k + 1)) (xs (k + 2))) (fun v h hq => ?_)
          obtain ⟨r, rfl, ⟨fs, hfs⟩, hm⟩ := hq
          show m_wp (L, xs) 0 _ _ [.int _] _ _
          refine wp_aload_n d0_1148 rfl ?_
          refine wp_sload_n d0_1149 rfl ?_
          refine wp_iload_n d0_1150 rfl ?_
          refine wp_iconst d0_1151 (v := nI 1) (by decide) ?_
          refine wp_iaddv d0_1152 (v := nI (k + 1)) (nI_add _ _) ?_
          refine wp_sald d0_1153 (nI_in (by omega) (by omega)) (v := xs (k + 1)) (congrArg xs (nI_nat (by omega))) ?_
          refine wp_sload_n d0_1154 rfl ?_
          refine wp_iload_n d0_1155 rfl ?_
          refine wp_iconst d0_1156 (v := nI 2) (by decide) ?_
          refine wp_iaddv d0_1157 (v := nI (k + 2)) (nI_add _ _) ?_
          refine wp_sald d0_1158 (nI_in (by omega) (by omega)) (v := xs (k + 2)) (congrArg xs (nI_nat (by omega))) ?_
          refine wp_invv (e := 151) (j2 := 285) (n := 2) d0_1159 (by decide +kernel) (by decide +kernel) rfl rfl rfl hfs (by decide +kernel) (Nat.le_of_ble_eq_true rfl) rfl rfl (Nat.le_of_ble_eq_true rfl) (by decide +kernel) hm (fun v h hq => ?_)
          obtain ⟨rfl, hI⟩ := hq
          show m_wp (L, xs) 0 _ _ [.int _, .int _] _ _
          refine wp_icmp_eq d0_1162 (tgt := 1302) (by decide) (fun _ => ?_) (fun hq9 => absurd rfl hq9)
          refine wp_iinc d0_1302 rfl (v := nI (k + 5)) (nI_add _ 5) (Nat.le_of_ble_eq_true rfl) rfl ?_
          refine wp_goto d0_1305 (tgt := 18) (by decide) ?_
          exact ih _ (by omega) (k + 5) h rfl (by omega) hI
        · refine wp_tswIn d0_32 (by decide) (by decide) (off := 1135) (by decide) (tgt := 1167) (by decide) ?_
          refine wp_aload_n d0_1167 rfl ?_
          refine wp_sload_n d0_1168 rfl ?_
          refine wp_iload_n d0_1169 rfl ?_
          refine wp_iconst d0_1170 (v := nI 1) (by decide) ?_
          refine wp_iaddv d0_1171 (v := nI (k + 1)) (nI_add _ _) ?_
          refine wp_sald d0_1172 (nI_in (by omega) (by omega)) (v := xs (k + 1)) (congrArg xs (nI_nat (by omega))) ?_
          refine wp_sload_n d0_1173 rfl ?_
          refine wp_iload_n d0_1174 rfl ?_
          refine wp_iconst d0_1175 (v := nI 2) (by decide) ?_
          refine wp_iaddv d0_1176 (v := nI (k + 2)) (nI_add _ _) ?_
          refine wp_sald d0_1177 (nI_in (by omega) (by omega)) (v := xs (k + 2)) (congrArg xs (nI_nat (by omega))) ?_
          refine wp_sload_n d0_1178 rfl ?_
          refine wp_iload_n d0_1179 rfl ?_
          refine wp_iconst d0_1180 (v := nI 3) (by decide) ?_
          refine wp_iaddv d0_1181 (v := nI (k + 3)) (nI_add _ _) ?_
          refine wp_sald d0_1182 (nI_in (by omega) (by omega)) (v := xs (k + 3)) (congrArg xs (nI_nat (by omega))) ?_
          refine wp_invv (e := 152) (j2 := 190) (n := 3) d0_1183 (by decide +kernel) (by decide +kernel) rfl rfl rfl h0 (by decide +kernel) (Nat.le_of_ble_eq_true rfl) rfl rfl (Nat.le_of_ble_eq_true rfl) (by decide +kernel) (ag_gap hI (xs (k + 1)) (xs (k + 2)) (xs (k + 3))) (fun v h hq => ?_)
          obtain ⟨r, rfl, ⟨fs, hfs⟩, hm⟩ := hq
          show m_wp (L, xs) 0 _ _ [.int _] _ _
          refine wp_aload_n d0_1186 rfl ?_
          refine wp_sload_n d0_1187 rfl ?_
          refine wp_iload_n d0_1188 rfl ?_
          refine wp_iconst d0_1189 (v := nI 1) (by decide) ?_
          refine wp_iaddv d0_1190 (v := nI (k + 1)) (nI_add _ _) ?_
          refine wp_sald d0_1191 (nI_in (by omega) (by omega)) (v := xs (k + 1)) (congrArg xs (nI_nat (by omega))) ?_
          refine wp_sload_n d0_1192 rfl ?_
          refine wp_iload_n d0_1193 rfl ?_
          refine wp_iconst d0_1194 (v := nI 2) (by decide) ?_
          refine wp_iaddv d0_1195 (v := nI (k + 2)) (nI_add _ _) ?_
          refine wp_sald d0_1196 (nI_in (by omega) (by omega)) (v := xs (k + 2)) (congrArg xs (nI_nat (by omega))) ?_
          refine wp_sload_n d0_1197 rfl ?_
          refine wp_iload_n d0_1198 rfl ?_
          refine wp_iconst d0_1199 (v := nI 3) (by decide) ?_
          refine wp_iaddv d0_1200 (v := nI (k + 3)) (nI_add _ _) ?_
          refine wp_sald d0_1201 (nI_in (by omega) (by omega)) (v := xs (k + 3)) (congrArg xs (nI_nat (by omega))) ?_
          refine wp_invv (e := 155) (j2 := 286) (n := 3) d0_1202 (by decide +kernel) (by decide +kernel) rfl rfl rfl hfs (by decide +kernel) (Nat.le_of_ble_eq_true rfl) rfl rfl (Nat.le_of_ble_eq_true rfl) (by decide +kernel) hm (fun v h hq => ?_)
          obtain ⟨rfl, hI⟩ := hq
          show m_wp (L, xs) 0 _ _ [.int _, .int _] _ _
          refine wp_icmp_eq d0_1205 (tgt := 1302) (by decide) (fun _ => ?_) (fun hq9 => absurd rfl hq9)
          refine wp_iinc d0_1302 rfl (v := nI (k + 5)) (nI_add _ 5) (Nat.le_of_ble_eq_true rfl) rfl ?_
          refine wp_goto d0_1305 (tgt := 18) (by decide) ?_
          exact ih _ (by omega) (k + 5) h rfl (by omega) hI
        · refine wp_tswIn d0_32 (by decide) (by decide) (off := 1178) (by decide) (tgt := 1210) (by decide) ?_
          refine wp_aload_n d0_1210 rfl ?_
          refine wp_sload_n d0_1211 rfl ?_
          refine wp_iload_n d0_1212 rfl ?_
          refine wp_iconst d0_1213 (v := nI 1) (by decide) ?_
          refine wp_iaddv d0_1214 (v := nI (k + 1)) (nI_add _ _) ?_
          refine wp_sald d0_1215 (nI_in (by omega) (by omega)) (v := xs (k + 1)) (congrArg xs (nI_nat (by omega))) ?_
          refine wp_sload_n d0_1216 rfl ?_
          refine wp_iload_n d0_1217 rfl ?_
          refine wp_iconst d0_1218 (v := nI 2) (by decide) ?_
          refine wp_iaddv d0_1219 (v := nI (k + 2)) (nI_add _ _) ?_
          refine wp_sald d0_1220 (nI_in (by omega) (by omega)) (v := xs (k + 2)) (congrArg xs (nI_nat (by omega))) ?_
          refine wp_invv (e := 156) (j2 := 192) (n := 2) d0_1221 (by decide +kernel) (by decide +kernel) rfl rfl rfl h0 (by decide +kernel) (Nat.le_of_ble_eq_true rfl) rfl rfl (Nat.le_of_ble_eq_true rfl) (by decide +kernel) (ag_way hI (xs (k + 1)) (xs (k + 2))) (fun v h hq => ?_)
          obtain ⟨r, rfl, ⟨fs, hfs⟩, hm⟩ := hq
          show m_wp (L, xs) 0 _ _ [.int _] _ _
          refine wp_aload_n d0_1224 rfl ?_
          refine wp_sload_n d0_1225 rfl ?_
          refine wp_iload_n d0_1226 rfl ?_
          refine wp_iconst d0_1227 (v := nI 1) (by decide) ?_
          refine wp_iaddv d0_1228 (v := nI (k + 1)) (nI_add _ _) ?_
          refine wp_sald d0_1229 (nI_in (by omega) (by omega)) (v := xs (k + 1)) (congrArg xs (nI_nat (by omega))) ?_
          refine wp_sload_n d0_1230 rfl ?_
          refine wp_iload_n d0_1231 rfl ?_
          refine wp_iconst d0_1232 (v := nI 2) (by decide) ?_
          refine wp_iaddv d0_1233 (v := nI (k + 2)) (nI_add _ _) ?_
          refine wp_sald d0_1234 (nI_in (by omega) (by omega)) (v := xs (k + 2)) (congrArg xs (nI_nat (by omega))) ?_
          refine wp_invv (e := 159) (j2 := 287) (n := 2) d0_1235 (by decide +kernel) (by decide +kernel) rfl rfl rfl hfs (by decide +kernel) (Nat.le_of_ble_eq_true rfl) rfl rfl (Nat.le_of_ble_eq_true rfl) (by decide +kernel) hm (fun v h hq => ?_)
          obtain ⟨rfl, hI⟩ := hq
          show m_wp (L, xs) 0 _ _ [.int _, .int _] _ _
          refine wp_icmp_eq d0_1238 (tgt := 1302) (by decide) (fun _ => ?_) (fun hq9 => absurd rfl hq9)
          refine wp_iinc d0_1302 rfl (v := nI (k + 5)) (nI_add _ 5) (Nat.le_of_ble_eq_true rfl) rfl ?_
          refine wp_goto d0_1305 (tgt := 18) (by decide) ?_
          exact ih _ (by omega) (k + 5) h rfl (by omega) hI
        · refine wp_tswIn d0_32 (by decide) (by decide) (off := 1211) (by decide) (tgt := 1243) (by decide) ?_
          refine wp_aload_n d0_1243 rfl ?_
          refine wp_invv (e := 160) (j2 := 197) (n := 0) d0_1244 (by decide +kernel) (by decide +kernel) rfl rfl rfl h0 (by decide +kernel) (Nat.le_of_ble_eq_true rfl) rfl rfl (Nat.le_of_ble_eq_true rfl) (by decide +kernel) (ag_firstDue hI) (fun v h hq => ?_)
          obtain ⟨r, rfl, ⟨fs, hfs⟩, hm⟩ := hq
          show m_wp (L, xs) 0 _ _ [.int _] _ _
          refine wp_aload_n d0_1247 rfl ?_
          refine wp_invv (e := 163) (j2 := 288) (n := 0) d0_1248 (by decide +kernel) (by decide +kernel) rfl rfl rfl hfs (by decide +kernel) (Nat.le_of_ble_eq_true rfl) rfl rfl (Nat.le_of_ble_eq_true rfl) (by decide +kernel) hm (fun v h hq => ?_)
          obtain ⟨rfl, hI⟩ := hq
          show m_wp (L, xs) 0 _ _ [.int _, .int _] _ _
          refine wp_icmp_eq d0_1251 (tgt := 1302) (by decide) (fun _ => ?_) (fun hq9 => absurd rfl hq9)
          refine wp_iinc d0_1302 rfl (v := nI (k + 5)) (nI_add _ 5) (Nat.le_of_ble_eq_true rfl) rfl ?_
          refine wp_goto d0_1305 (tgt := 18) (by decide) ?_
          exact ih _ (by omega) (k + 5) h rfl (by omega) hI
        · refine wp_tswIn d0_32 (by decide) (by decide) (off := 1224) (by decide) (tgt := 1256) (by decide) ?_
          refine wp_aload_n d0_1256 rfl ?_
          refine wp_sload_n d0_1257 rfl ?_
          refine wp_iload_n d0_1258 rfl ?_
          refine wp_iconst d0_1259 (v := nI 1) (by decide) ?_
          refine wp_iaddv d0_1260 (v := nI (k + 1)) (nI_add _ _) ?_
          refine wp_sald d0_1261 (nI_in (by omega) (by omega)) (v := xs (k + 1)) (congrArg xs (nI_nat (by omega))) ?_
          refine wp_invv (e := 164) (j2 := 199) (n := 1) d0_1262 (by decide +kernel) (by decide +kernel) rfl rfl rfl h0 (by decide +kernel) (Nat.le_of_ble_eq_true rfl) rfl rfl (Nat.le_of_ble_eq_true rfl) (by decide +kernel) (ag_alarmsIn hI (xs (k + 1))) (fun v h hq => ?_)
          obtain ⟨r, rfl, ⟨fs, hfs⟩, hm⟩ := hq
          show m_wp (L, xs) 0 _ _ [.int _] _ _
          refine wp_aload_n d0_1265 rfl ?_
          refine wp_sload_n d0_1266 rfl ?_
          refine wp_iload_n d0_1267 rfl ?_
          refine wp_iconst d0_1268 (v := nI 1) (by decide) ?_
          refine wp_iaddv d0_1269 (v := nI (k + 1)) (nI_add _ _) ?_
          refine wp_sald d0_1270 (nI_in (by omega) (by omega)) (v := xs (k + 1)) (congrArg xs (nI_nat (by omega))) ?_
          refine wp_invv (e := 167) (j2 := 289) (n := 1) d0_1271 (by decide +kernel) (by decide +kernel) rfl rfl rfl hfs (by decide +kernel) (Nat.le_of_ble_eq_true rfl) rfl rfl (Nat.le_of_ble_eq_true rfl) (by decide +kernel) hm (fun v h hq => ?_)
          obtain ⟨rfl, hI⟩ := hq
          show m_wp (L, xs) 0 _ _ [.int _, .int _] _ _
          refine wp_icmp_eq d0_1274 (tgt := 1302) (by decide) (fun _ => ?_) (fun hq9 => absurd rfl hq9)
          refine wp_iinc d0_1302 rfl (v := nI (k + 5)) (nI_add _ 5) (Nat.le_of_ble_eq_true rfl) rfl ?_
          refine wp_goto d0_1305 (tgt := 18) (by decide) ?_
          exact ih _ (by omega) (k + 5) h rfl (by omega) hI
        · refine wp_tswIn d0_32 (by decide) (by decide) (off := 1247) (by decide) (tgt := 1279) (by decide) ?_
          refine wp_aload_n d0_1279 rfl ?_
          refine wp_sload_n d0_1280 rfl ?_
          refine wp_iload_n d0_1281 rfl ?_
          refine wp_iconst d0_1282 (v := nI 1) (by decide) ?_
          refine wp_iaddv d0_1283 (v := nI (k + 1)) (nI_add _ _) ?_
          refine wp_sald d0_1284 (nI_in (by omega) (by omega)) (v := xs (k + 1)) (congrArg xs (nI_nat (by omega))) ?_
          refine wp_invv (e := 168) (j2 := 200) (n := 1) d0_1285 (by decide +kernel) (by decide +kernel) rfl rfl rfl h0 (by decide +kernel) (Nat.le_of_ble_eq_true rfl) rfl rfl (Nat.le_of_ble_eq_true rfl) (by decide +kernel) (ag_count hI (xs (k + 1))) (fun v h hq => ?_)
          obtain ⟨r, rfl, ⟨fs, hfs⟩, hm⟩ := hq
          show m_wp (L, xs) 0 _ _ [.int _] _ _
          refine wp_aload_n d0_1288 rfl ?_
          refine wp_sload_n d0_1289 rfl ?_
          refine wp_iload_n d0_1290 rfl ?_
          refine wp_iconst d0_1291 (v := nI 1) (by decide) ?_
          refine wp_iaddv d0_1292 (v := nI (k + 1)) (nI_add _ _) ?_
          refine wp_sald d0_1293 (nI_in (by omega) (by omega)) (v := xs (k + 1)) (congrArg xs (nI_nat (by omega))) ?_
          refine wp_invv (e := 171) (j2 := 290) (n := 1) d0_1294 (by decide +kernel) (by decide +kernel) rfl rfl rfl hfs (by decide +kernel) (Nat.le_of_ble_eq_true rfl) rfl rfl (Nat.le_of_ble_eq_true rfl) (by decide +kernel) hm (fun v h hq => ?_)
          obtain ⟨rfl, hI⟩ := hq
          show m_wp (L, xs) 0 _ _ [.int _, .int _] _ _
          refine wp_icmp_eq d0_1297 (tgt := 1302) (by decide) (fun _ => ?_) (fun hq9 => absurd rfl hq9)
          refine wp_iinc d0_1302 rfl (v := nI (k + 5)) (nI_add _ 5) (Nat.le_of_ble_eq_true rfl) rfl ?_
          refine wp_goto d0_1305 (tgt := 18) (by decide) ?_
          exact ih _ (by omega) (k + 5) h rfl (by omega) hI
