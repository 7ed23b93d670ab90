/-! the law: decode rows -/
theorem dL_18 : decode cL_law 18 = .ok (.iload_n 3, 1) := by decide +kernel
theorem dL_19 : decode cL_law 19 = .ok (.aload_n 0, 1) := by decide +kernel
theorem dL_20 : decode cL_law 20 = .ok (.arraylength, 1) := by decide +kernel
theorem dL_21 : decode cL_law 21 = .ok (.bipush 6, 2) := by decide +kernel
theorem dL_23 : decode cL_law 23 = .ok (.isub, 1) := by decide +kernel
theorem dL_24 : decode cL_law 24 = .ok (.if_icmp .gt 1090, 3) := by decide +kernel
theorem dL_27 : decode cL_law 27 = .ok (.aload_n 0, 1) := by decide +kernel
theorem dL_28 : decode cL_law 28 = .ok (.iload_n 3, 1) := by decide +kernel
theorem dL_29 : decode cL_law 29 = .ok (.iaload, 1) := by decide +kernel
theorem dL_30 : decode cL_law 30 = .ok (.bipush 63, 2) := by decide +kernel
theorem dL_32 : decode cL_law 32 = .ok (.iand, 1) := by decide +kernel
theorem dL_33 : decode cL_law 33 = .ok (.tableswitch 1075 0 33 #[151, 164, 227, 260, 293, 316, 339, 352, 365, 388, 411, 424, 457, 490, 523, 546, 579, 602, 635, 658, 681, 714, 767, 780, 803, 836, 869, 912, 945, 969, 992, 1015, 1038, 1061], 151) := by decide +kernel
theorem dL_184 : decode cL_law 184 = .ok (.aload_n 1, 1) := by decide +kernel
theorem dL_185 : decode cL_law 185 = .ok (.invokevirtual 13, 3) := by decide +kernel
theorem dL_188 : decode cL_law 188 = .ok (.aload_n 2, 1) := by decide +kernel
theorem dL_189 : decode cL_law 189 = .ok (.invokevirtual 17, 3) := by decide +kernel
theorem dL_192 : decode cL_law 192 = .ok (.if_icmp .eq 916, 3) := by decide +kernel
theorem dL_197 : decode cL_law 197 = .ok (.aload_n 1, 1) := by decide +kernel
theorem dL_198 : decode cL_law 198 = .ok (.aload_n 0, 1) := by decide +kernel
theorem dL_199 : decode cL_law 199 = .ok (.iload_n 3, 1) := by decide +kernel
theorem dL_200 : decode cL_law 200 = .ok (.iconst 1, 1) := by decide +kernel
theorem dL_201 : decode cL_law 201 = .ok (.iadd, 1) := by decide +kernel
theorem dL_202 : decode cL_law 202 = .ok (.iaload, 1) := by decide +kernel
theorem dL_203 : decode cL_law 203 = .ok (.aload_n 0, 1) := by decide +kernel
theorem dL_204 : decode cL_law 204 = .ok (.iload_n 3, 1) := by decide +kernel
theorem dL_205 : decode cL_law 205 = .ok (.iconst 2, 1) := by decide +kernel
theorem dL_206 : decode cL_law 206 = .ok (.iadd, 1) := by decide +kernel
theorem dL_207 : decode cL_law 207 = .ok (.iaload, 1) := by decide +kernel
theorem dL_208 : decode cL_law 208 = .ok (.aload_n 0, 1) := by decide +kernel
theorem dL_209 : decode cL_law 209 = .ok (.iload_n 3, 1) := by decide +kernel
theorem dL_210 : decode cL_law 210 = .ok (.iconst 3, 1) := by decide +kernel
theorem dL_211 : decode cL_law 211 = .ok (.iadd, 1) := by decide +kernel
theorem dL_212 : decode cL_law 212 = .ok (.iaload, 1) := by decide +kernel
theorem dL_213 : decode cL_law 213 = .ok (.aload_n 0, 1) := by decide +kernel
theorem dL_214 : decode cL_law 214 = .ok (.iload_n 3, 1) := by decide +kernel
theorem dL_215 : decode cL_law 215 = .ok (.iconst 4, 1) := by decide +kernel
theorem dL_216 : decode cL_law 216 = .ok (.iadd, 1) := by decide +kernel
theorem dL_217 : decode cL_law 217 = .ok (.iaload, 1) := by decide +kernel
theorem dL_218 : decode cL_law 218 = .ok (.aload_n 0, 1) := by decide +kernel
theorem dL_219 : decode cL_law 219 = .ok (.iload_n 3, 1) := by decide +kernel
theorem dL_220 : decode cL_law 220 = .ok (.iconst 5, 1) := by decide +kernel
theorem dL_221 : decode cL_law 221 = .ok (.iadd, 1) := by decide +kernel
theorem dL_222 : decode cL_law 222 = .ok (.iaload, 1) := by decide +kernel
theorem dL_223 : decode cL_law 223 = .ok (.invokevirtual 18, 3) := by decide +kernel
theorem dL_226 : decode cL_law 226 = .ok (.aload_n 2, 1) := by decide +kernel
theorem dL_227 : decode cL_law 227 = .ok (.aload_n 0, 1) := by decide +kernel
theorem dL_228 : decode cL_law 228 = .ok (.iload_n 3, 1) := by decide +kernel
theorem dL_229 : decode cL_law 229 = .ok (.iconst 1, 1) := by decide +kernel
theorem dL_230 : decode cL_law 230 = .ok (.iadd, 1) := by decide +kernel
theorem dL_231 : decode cL_law 231 = .ok (.iaload, 1) := by decide +kernel
theorem dL_232 : decode cL_law 232 = .ok (.aload_n 0, 1) := by decide +kernel
theorem dL_233 : decode cL_law 233 = .ok (.iload_n 3, 1) := by decide +kernel
theorem dL_234 : decode cL_law 234 = .ok (.iconst 2, 1) := by decide +kernel
theorem dL_235 : decode cL_law 235 = .ok (.iadd, 1) := by decide +kernel
theorem dL_236 : decode cL_law 236 = .ok (.iaload, 1) := by decide +kernel
theorem dL_237 : decode cL_law 237 = .ok (.aload_n 0, 1) := by decide +kernel
theorem dL_238 : decode cL_law 238 = .ok (.iload_n 3, 1) := by decide +kernel
theorem dL_239 : decode cL_law 239 = .ok (.iconst 3, 1) := by decide +kernel
theorem dL_240 : decode cL_law 240 = .ok (.iadd, 1) := by decide +kernel
theorem dL_241 : decode cL_law 241 = .ok (.iaload, 1) := by decide +kernel
theorem dL_242 : decode cL_law 242 = .ok (.aload_n 0, 1) := by decide +kernel
theorem dL_243 : decode cL_law 243 = .ok (.iload_n 3, 1) := by decide +kernel
theorem dL_244 : decode cL_law 244 = .ok (.iconst 4, 1) := by decide +kernel
theorem dL_245 : decode cL_law 245 = .ok (.iadd, 1) := by decide +kernel
theorem dL_246 : decode cL_law 246 = .ok (.iaload, 1) := by decide +kernel
theorem dL_247 : decode cL_law 247 = .ok (.aload_n 0, 1) := by decide +kernel
theorem dL_248 : decode cL_law 248 = .ok (.iload_n 3, 1) := by decide +kernel
theorem dL_249 : decode cL_law 249 = .ok (.iconst 5, 1) := by decide +kernel
theorem dL_250 : decode cL_law 250 = .ok (.iadd, 1) := by decide +kernel
theorem dL_251 : decode cL_law 251 = .ok (.iaload, 1) := by decide +kernel
theorem dL_252 : decode cL_law 252 = .ok (.invokevirtual 22, 3) := by decide +kernel
theorem dL_255 : decode cL_law 255 = .ok (.if_icmp .eq 853, 3) := by decide +kernel
theorem dL_260 : decode cL_law 260 = .ok (.aload_n 1, 1) := by decide +kernel
theorem dL_261 : decode cL_law 261 = .ok (.aload_n 0, 1) := by decide +kernel
theorem dL_262 : decode cL_law 262 = .ok (.iload_n 3, 1) := by decide +kernel
theorem dL_263 : decode cL_law 263 = .ok (.iconst 1, 1) := by decide +kernel
theorem dL_264 : decode cL_law 264 = .ok (.iadd, 1) := by decide +kernel
theorem dL_265 : decode cL_law 265 = .ok (.iaload, 1) := by decide +kernel
theorem dL_266 : decode cL_law 266 = .ok (.aload_n 0, 1) := by decide +kernel
theorem dL_267 : decode cL_law 267 = .ok (.iload_n 3, 1) := by decide +kernel
theorem dL_268 : decode cL_law 268 = .ok (.iconst 2, 1) := by decide +kernel
theorem dL_269 : decode cL_law 269 = .ok (.iadd, 1) := by decide +kernel
theorem dL_270 : decode cL_law 270 = .ok (.iaload, 1) := by decide +kernel
theorem dL_271 : decode cL_law 271 = .ok (.invokevirtual 23, 3) := by decide +kernel
theorem dL_274 : decode cL_law 274 = .ok (.aload_n 2, 1) := by decide +kernel
theorem dL_275 : decode cL_law 275 = .ok (.aload_n 0, 1) := by decide +kernel
theorem dL_276 : decode cL_law 276 = .ok (.iload_n 3, 1) := by decide +kernel
theorem dL_277 : decode cL_law 277 = .ok (.iconst 1, 1) := by decide +kernel
theorem dL_278 : decode cL_law 278 = .ok (.iadd, 1) := by decide +kernel
theorem dL_279 : decode cL_law 279 = .ok (.iaload, 1) := by decide +kernel
theorem dL_280 : decode cL_law 280 = .ok (.aload_n 0, 1) := by decide +kernel
theorem dL_281 : decode cL_law 281 = .ok (.iload_n 3, 1) := by decide +kernel
theorem dL_282 : decode cL_law 282 = .ok (.iconst 2, 1) := by decide +kernel
theorem dL_283 : decode cL_law 283 = .ok (.iadd, 1) := by decide +kernel
theorem dL_284 : decode cL_law 284 = .ok (.iaload, 1) := by decide +kernel
theorem dL_285 : decode cL_law 285 = .ok (.invokevirtual 27, 3) := by decide +kernel
theorem dL_288 : decode cL_law 288 = .ok (.if_icmp .eq 820, 3) := by decide +kernel
theorem dL_293 : decode cL_law 293 = .ok (.aload_n 1, 1) := by decide +kernel
theorem dL_294 : decode cL_law 294 = .ok (.aload_n 0, 1) := by decide +kernel
theorem dL_295 : decode cL_law 295 = .ok (.iload_n 3, 1) := by decide +kernel
theorem dL_296 : decode cL_law 296 = .ok (.iconst 1, 1) := by decide +kernel
theorem dL_297 : decode cL_law 297 = .ok (.iadd, 1) := by decide +kernel
theorem dL_298 : decode cL_law 298 = .ok (.iaload, 1) := by decide +kernel
theorem dL_299 : decode cL_law 299 = .ok (.aload_n 0, 1) := by decide +kernel
theorem dL_300 : decode cL_law 300 = .ok (.iload_n 3, 1) := by decide +kernel
theorem dL_301 : decode cL_law 301 = .ok (.iconst 2, 1) := by decide +kernel
theorem dL_302 : decode cL_law 302 = .ok (.iadd, 1) := by decide +kernel
theorem dL_303 : decode cL_law 303 = .ok (.iaload, 1) := by decide +kernel
theorem dL_304 : decode cL_law 304 = .ok (.invokevirtual 28, 3) := by decide +kernel
theorem dL_307 : decode cL_law 307 = .ok (.aload_n 2, 1) := by decide +kernel
theorem dL_308 : decode cL_law 308 = .ok (.aload_n 0, 1) := by decide +kernel
theorem dL_309 : decode cL_law 309 = .ok (.iload_n 3, 1) := by decide +kernel
theorem dL_310 : decode cL_law 310 = .ok (.iconst 1, 1) := by decide +kernel
theorem dL_311 : decode cL_law 311 = .ok (.iadd, 1) := by decide +kernel
theorem dL_312 : decode cL_law 312 = .ok (.iaload, 1) := by decide +kernel
theorem dL_313 : decode cL_law 313 = .ok (.aload_n 0, 1) := by decide +kernel
theorem dL_314 : decode cL_law 314 = .ok (.iload_n 3, 1) := by decide +kernel
theorem dL_315 : decode cL_law 315 = .ok (.iconst 2, 1) := by decide +kernel
theorem dL_316 : decode cL_law 316 = .ok (.iadd, 1) := by decide +kernel
theorem dL_317 : decode cL_law 317 = .ok (.iaload, 1) := by decide +kernel
theorem dL_318 : decode cL_law 318 = .ok (.invokevirtual 31, 3) := by decide +kernel
theorem dL_321 : decode cL_law 321 = .ok (.if_icmp .eq 787, 3) := by decide +kernel
theorem dL_326 : decode cL_law 326 = .ok (.aload_n 1, 1) := by decide +kernel
theorem dL_327 : decode cL_law 327 = .ok (.aload_n 0, 1) := by decide +kernel
theorem dL_328 : decode cL_law 328 = .ok (.iload_n 3, 1) := by decide +kernel
theorem dL_329 : decode cL_law 329 = .ok (.iconst 1, 1) := by decide +kernel
theorem dL_330 : decode cL_law 330 = .ok (.iadd, 1) := by decide +kernel
theorem dL_331 : decode cL_law 331 = .ok (.iaload, 1) := by decide +kernel
theorem dL_332 : decode cL_law 332 = .ok (.invokevirtual 32, 3) := by decide +kernel
theorem dL_335 : decode cL_law 335 = .ok (.aload_n 2, 1) := by decide +kernel
theorem dL_336 : decode cL_law 336 = .ok (.aload_n 0, 1) := by decide +kernel
theorem dL_337 : decode cL_law 337 = .ok (.iload_n 3, 1) := by decide +kernel
theorem dL_338 : decode cL_law 338 = .ok (.iconst 1, 1) := by decide +kernel
theorem dL_339 : decode cL_law 339 = .ok (.iadd, 1) := by decide +kernel
theorem dL_340 : decode cL_law 340 = .ok (.iaload, 1) := by decide +kernel
theorem dL_341 : decode cL_law 341 = .ok (.invokevirtual 36, 3) := by decide +kernel
theorem dL_344 : decode cL_law 344 = .ok (.if_icmp .eq 764, 3) := by decide +kernel
theorem dL_349 : decode cL_law 349 = .ok (.aload_n 1, 1) := by decide +kernel
theorem dL_350 : decode cL_law 350 = .ok (.aload_n 0, 1) := by decide +kernel
theorem dL_351 : decode cL_law 351 = .ok (.iload_n 3, 1) := by decide +kernel
theorem dL_352 : decode cL_law 352 = .ok (.iconst 1, 1) := by decide +kernel
theorem dL_353 : decode cL_law 353 = .ok (.iadd, 1) := by decide +kernel
theorem dL_354 : decode cL_law 354 = .ok (.iaload, 1) := by decide +kernel
theorem dL_355 : decode cL_law 355 = .ok (.invokevirtual 37, 3) := by decide +kernel
theorem dL_358 : decode cL_law 358 = .ok (.aload_n 2, 1) := by decide +kernel
theorem dL_359 : decode cL_law 359 = .ok (.aload_n 0, 1) := by decide +kernel
theorem dL_360 : decode cL_law 360 = .ok (.iload_n 3, 1) := by decide +kernel
theorem dL_361 : decode cL_law 361 = .ok (.iconst 1, 1) := by decide +kernel
theorem dL_362 : decode cL_law 362 = .ok (.iadd, 1) := by decide +kernel
theorem dL_363 : decode cL_law 363 = .ok (.iaload, 1) := by decide +kernel
theorem dL_364 : decode cL_law 364 = .ok (.invokevirtual 40, 3) := by decide +kernel
theorem dL_367 : decode cL_law 367 = .ok (.if_icmp .eq 741, 3) := by decide +kernel
theorem dL_372 : decode cL_law 372 = .ok (.aload_n 1, 1) := by decide +kernel
theorem dL_373 : decode cL_law 373 = .ok (.invokevirtual 41, 3) := by decide +kernel
theorem dL_376 : decode cL_law 376 = .ok (.aload_n 2, 1) := by decide +kernel
theorem dL_377 : decode cL_law 377 = .ok (.invokevirtual 44, 3) := by decide +kernel
theorem dL_380 : decode cL_law 380 = .ok (.if_icmp .eq 728, 3) := by decide +kernel
theorem dL_385 : decode cL_law 385 = .ok (.aload_n 1, 1) := by decide +kernel
theorem dL_386 : decode cL_law 386 = .ok (.invokevirtual 45, 3) := by decide +kernel
theorem dL_389 : decode cL_law 389 = .ok (.aload_n 2, 1) := by decide +kernel
theorem dL_390 : decode cL_law 390 = .ok (.invokevirtual 48, 3) := by decide +kernel
theorem dL_393 : decode cL_law 393 = .ok (.if_icmp .eq 715, 3) := by decide +kernel
theorem dL_398 : decode cL_law 398 = .ok (.aload_n 1, 1) := by decide +kernel
theorem dL_399 : decode cL_law 399 = .ok (.aload_n 0, 1) := by decide +kernel
theorem dL_400 : decode cL_law 400 = .ok (.iload_n 3, 1) := by decide +kernel
theorem dL_401 : decode cL_law 401 = .ok (.iconst 1, 1) := by decide +kernel
theorem dL_402 : decode cL_law 402 = .ok (.iadd, 1) := by decide +kernel
theorem dL_403 : decode cL_law 403 = .ok (.iaload, 1) := by decide +kernel
theorem dL_404 : decode cL_law 404 = .ok (.invokevirtual 49, 3) := by decide +kernel
theorem dL_407 : decode cL_law 407 = .ok (.aload_n 2, 1) := by decide +kernel
theorem dL_408 : decode cL_law 408 = .ok (.aload_n 0, 1) := by decide +kernel
theorem dL_409 : decode cL_law 409 = .ok (.iload_n 3, 1) := by decide +kernel
theorem dL_410 : decode cL_law 410 = .ok (.iconst 1, 1) := by decide +kernel
theorem dL_411 : decode cL_law 411 = .ok (.iadd, 1) := by decide +kernel
theorem dL_412 : decode cL_law 412 = .ok (.iaload, 1) := by decide +kernel
theorem dL_413 : decode cL_law 413 = .ok (.invokevirtual 52, 3) := by decide +kernel
theorem dL_416 : decode cL_law 416 = .ok (.if_icmp .eq 692, 3) := by decide +kernel
theorem dL_421 : decode cL_law 421 = .ok (.aload_n 1, 1) := by decide +kernel
theorem dL_422 : decode cL_law 422 = .ok (.aload_n 0, 1) := by decide +kernel
theorem dL_423 : decode cL_law 423 = .ok (.iload_n 3, 1) := by decide +kernel
theorem dL_424 : decode cL_law 424 = .ok (.iconst 1, 1) := by decide +kernel
theorem dL_425 : decode cL_law 425 = .ok (.iadd, 1) := by decide +kernel
theorem dL_426 : decode cL_law 426 = .ok (.iaload, 1) := by decide +kernel
theorem dL_427 : decode cL_law 427 = .ok (.invokevirtual 53, 3) := by decide +kernel
theorem dL_430 : decode cL_law 430 = .ok (.aload_n 2, 1) := by decide +kernel
theorem dL_431 : decode cL_law 431 = .ok (.aload_n 0, 1) := by decide +kernel
theorem dL_432 : decode cL_law 432 = .ok (.iload_n 3, 1) := by decide +kernel
theorem dL_433 : decode cL_law 433 = .ok (.iconst 1, 1) := by decide +kernel
theorem dL_434 : decode cL_law 434 = .ok (.iadd, 1) := by decide +kernel
theorem dL_435 : decode cL_law 435 = .ok (.iaload, 1) := by decide +kernel
theorem dL_436 : decode cL_law 436 = .ok (.invokevirtual 56, 3) := by decide +kernel
theorem dL_439 : decode cL_law 439 = .ok (.if_icmp .eq 669, 3) := by decide +kernel
theorem dL_444 : decode cL_law 444 = .ok (.aload_n 1, 1) := by decide +kernel
theorem dL_445 : decode cL_law 445 = .ok (.invokevirtual 57, 3) := by decide +kernel
theorem dL_448 : decode cL_law 448 = .ok (.aload_n 2, 1) := by decide +kernel
theorem dL_449 : decode cL_law 449 = .ok (.invokevirtual 60, 3) := by decide +kernel
theorem dL_452 : decode cL_law 452 = .ok (.if_icmp .eq 656, 3) := by decide +kernel
theorem dL_457 : decode cL_law 457 = .ok (.aload_n 1, 1) := by decide +kernel
theorem dL_458 : decode cL_law 458 = .ok (.aload_n 0, 1) := by decide +kernel
theorem dL_459 : decode cL_law 459 = .ok (.iload_n 3, 1) := by decide +kernel
theorem dL_460 : decode cL_law 460 = .ok (.iconst 1, 1) := by decide +kernel
theorem dL_461 : decode cL_law 461 = .ok (.iadd, 1) := by decide +kernel
theorem dL_462 : decode cL_law 462 = .ok (.iaload, 1) := by decide +kernel
theorem dL_463 : decode cL_law 463 = .ok (.aload_n 0, 1) := by decide +kernel
theorem dL_464 : decode cL_law 464 = .ok (.iload_n 3, 1) := by decide +kernel
theorem dL_465 : decode cL_law 465 = .ok (.iconst 2, 1) := by decide +kernel
theorem dL_466 : decode cL_law 466 = .ok (.iadd, 1) := by decide +kernel
theorem dL_467 : decode cL_law 467 = .ok (.iaload, 1) := by decide +kernel
theorem dL_468 : decode cL_law 468 = .ok (.invokevirtual 61, 3) := by decide +kernel
theorem dL_471 : decode cL_law 471 = .ok (.aload_n 2, 1) := by decide +kernel
theorem dL_472 : decode cL_law 472 = .ok (.aload_n 0, 1) := by decide +kernel
theorem dL_473 : decode cL_law 473 = .ok (.iload_n 3, 1) := by decide +kernel
theorem dL_474 : decode cL_law 474 = .ok (.iconst 1, 1) := by decide +kernel
theorem dL_475 : decode cL_law 475 = .ok (.iadd, 1) := by decide +kernel
theorem dL_476 : decode cL_law 476 = .ok (.iaload, 1) := by decide +kernel
theorem dL_477 : decode cL_law 477 = .ok (.aload_n 0, 1) := by decide +kernel
theorem dL_478 : decode cL_law 478 = .ok (.iload_n 3, 1) := by decide +kernel
theorem dL_479 : decode cL_law 479 = .ok (.iconst 2, 1) := by decide +kernel
theorem dL_480 : decode cL_law 480 = .ok (.iadd, 1) := by decide +kernel
theorem dL_481 : decode cL_law 481 = .ok (.iaload, 1) := by decide +kernel
theorem dL_482 : decode cL_law 482 = .ok (.invokevirtual 64, 3) := by decide +kernel
theorem dL_485 : decode cL_law 485 = .ok (.if_icmp .eq 623, 3) := by decide +kernel
theorem dL_490 : decode cL_law 490 = .ok (.aload_n 1, 1) := by decide +kernel
theorem dL_491 : decode cL_law 491 = .ok (.aload_n 0, 1) := by decide +kernel
theorem dL_492 : decode cL_law 492 = .ok (.iload_n 3, 1) := by decide +kernel
theorem dL_493 : decode cL_law 493 = .ok (.iconst 1, 1) := by decide +kernel
theorem dL_494 : decode cL_law 494 = .ok (.iadd, 1) := by decide +kernel
theorem dL_495 : decode cL_law 495 = .ok (.iaload, 1) := by decide +kernel
theorem dL_496 : decode cL_law 496 = .ok (.aload_n 0, 1) := by decide +kernel
theorem dL_497 : decode cL_law 497 = .ok (.iload_n 3, 1) := by decide +kernel
theorem dL_498 : decode cL_law 498 = .ok (.iconst 2, 1) := by decide +kernel
theorem dL_499 : decode cL_law 499 = .ok (.iadd, 1) := by decide +kernel
theorem dL_500 : decode cL_law 500 = .ok (.iaload, 1) := by decide +kernel
theorem dL_501 : decode cL_law 501 = .ok (.invokevirtual 65, 3) := by decide +kernel
theorem dL_504 : decode cL_law 504 = .ok (.aload_n 2, 1) := by decide +kernel
theorem dL_505 : decode cL_law 505 = .ok (.aload_n 0, 1) := by decide +kernel
theorem dL_506 : decode cL_law 506 = .ok (.iload_n 3, 1) := by decide +kernel
theorem dL_507 : decode cL_law 507 = .ok (.iconst 1, 1) := by decide +kernel
theorem dL_508 : decode cL_law 508 = .ok (.iadd, 1) := by decide +kernel
theorem dL_509 : decode cL_law 509 = .ok (.iaload, 1) := by decide +kernel
theorem dL_510 : decode cL_law 510 = .ok (.aload_n 0, 1) := by decide +kernel
theorem dL_511 : decode cL_law 511 = .ok (.iload_n 3, 1) := by decide +kernel
theorem dL_512 : decode cL_law 512 = .ok (.iconst 2, 1) := by decide +kernel
theorem dL_513 : decode cL_law 513 = .ok (.iadd, 1) := by decide +kernel
theorem dL_514 : decode cL_law 514 = .ok (.iaload, 1) := by decide +kernel
theorem dL_515 : decode cL_law 515 = .ok (.invokevirtual 68, 3) := by decide +kernel
theorem dL_518 : decode cL_law 518 = .ok (.if_icmp .eq 590, 3) := by decide +kernel
theorem dL_523 : decode cL_law 523 = .ok (.aload_n 1, 1) := by decide +kernel
theorem dL_524 : decode cL_law 524 = .ok (.aload_n 0, 1) := by decide +kernel
theorem dL_525 : decode cL_law 525 = .ok (.iload_n 3, 1) := by decide +kernel
theorem dL_526 : decode cL_law 526 = .ok (.iconst 1, 1) := by decide +kernel
theorem dL_527 : decode cL_law 527 = .ok (.iadd, 1) := by decide +kernel
theorem dL_528 : decode cL_law 528 = .ok (.iaload, 1) := by decide +kernel
theorem dL_529 : decode cL_law 529 = .ok (.aload_n 0, 1) := by decide +kernel
theorem dL_530 : decode cL_law 530 = .ok (.iload_n 3, 1) := by decide +kernel
theorem dL_531 : decode cL_law 531 = .ok (.iconst 2, 1) := by decide +kernel
theorem dL_532 : decode cL_law 532 = .ok (.iadd, 1) := by decide +kernel
theorem dL_533 : decode cL_law 533 = .ok (.iaload, 1) := by decide +kernel
theorem dL_534 : decode cL_law 534 = .ok (.invokevirtual 69, 3) := by decide +kernel
theorem dL_537 : decode cL_law 537 = .ok (.aload_n 2, 1) := by decide +kernel
theorem dL_538 : decode cL_law 538 = .ok (.aload_n 0, 1) := by decide +kernel
theorem dL_539 : decode cL_law 539 = .ok (.iload_n 3, 1) := by decide +kernel
theorem dL_540 : decode cL_law 540 = .ok (.iconst 1, 1) := by decide +kernel
theorem dL_541 : decode cL_law 541 = .ok (.iadd, 1) := by decide +kernel
theorem dL_542 : decode cL_law 542 = .ok (.iaload, 1) := by decide +kernel
theorem dL_543 : decode cL_law 543 = .ok (.aload_n 0, 1) := by decide +kernel
theorem dL_544 : decode cL_law 544 = .ok (.iload_n 3, 1) := by decide +kernel
theorem dL_545 : decode cL_law 545 = .ok (.iconst 2, 1) := by decide +kernel
theorem dL_546 : decode cL_law 546 = .ok (.iadd, 1) := by decide +kernel
theorem dL_547 : decode cL_law 547 = .ok (.iaload, 1) := by decide +kernel
theorem dL_548 : decode cL_law 548 = .ok (.invokevirtual 72, 3) := by decide +kernel
theorem dL_551 : decode cL_law 551 = .ok (.if_icmp .eq 557, 3) := by decide +kernel
theorem dL_556 : decode cL_law 556 = .ok (.aload_n 1, 1) := by decide +kernel
theorem dL_557 : decode cL_law 557 = .ok (.aload_n 0, 1) := by decide +kernel
theorem dL_558 : decode cL_law 558 = .ok (.iload_n 3, 1) := by decide +kernel
theorem dL_559 : decode cL_law 559 = .ok (.iconst 1, 1) := by decide +kernel
theorem dL_560 : decode cL_law 560 = .ok (.iadd, 1) := by decide +kernel
theorem dL_561 : decode cL_law 561 = .ok (.iaload, 1) := by decide +kernel
theorem dL_562 : decode cL_law 562 = .ok (.invokevirtual 73, 3) := by decide +kernel
theorem dL_565 : decode cL_law 565 = .ok (.aload_n 2, 1) := by decide +kernel
theorem dL_566 : decode cL_law 566 = .ok (.aload_n 0, 1) := by decide +kernel
theorem dL_567 : decode cL_law 567 = .ok (.iload_n 3, 1) := by decide +kernel
theorem dL_568 : decode cL_law 568 = .ok (.iconst 1, 1) := by decide +kernel
theorem dL_569 : decode cL_law 569 = .ok (.iadd, 1) := by decide +kernel
theorem dL_570 : decode cL_law 570 = .ok (.iaload, 1) := by decide +kernel
theorem dL_571 : decode cL_law 571 = .ok (.invokevirtual 76, 3) := by decide +kernel
theorem dL_574 : decode cL_law 574 = .ok (.if_icmp .eq 534, 3) := by decide +kernel
theorem dL_579 : decode cL_law 579 = .ok (.aload_n 1, 1) := by decide +kernel
theorem dL_580 : decode cL_law 580 = .ok (.aload_n 0, 1) := by decide +kernel
theorem dL_581 : decode cL_law 581 = .ok (.iload_n 3, 1) := by decide +kernel
theorem dL_582 : decode cL_law 582 = .ok (.iconst 1, 1) := by decide +kernel
theorem dL_583 : decode cL_law 583 = .ok (.iadd, 1) := by decide +kernel
theorem dL_584 : decode cL_law 584 = .ok (.iaload, 1) := by decide +kernel
theorem dL_585 : decode cL_law 585 = .ok (.aload_n 0, 1) := by decide +kernel
theorem dL_586 : decode cL_law 586 = .ok (.iload_n 3, 1) := by decide +kernel
theorem dL_587 : decode cL_law 587 = .ok (.iconst 2, 1) := by decide +kernel
theorem dL_588 : decode cL_law 588 = .ok (.iadd, 1) := by decide +kernel
theorem dL_589 : decode cL_law 589 = .ok (.iaload, 1) := by decide +kernel
theorem dL_590 : decode cL_law 590 = .ok (.invokevirtual 77, 3) := by decide +kernel
theorem dL_593 : decode cL_law 593 = .ok (.aload_n 2, 1) := by decide +kernel
theorem dL_594 : decode cL_law 594 = .ok (.aload_n 0, 1) := by decide +kernel
theorem dL_595 : decode cL_law 595 = .ok (.iload_n 3, 1) := by decide +kernel
theorem dL_596 : decode cL_law 596 = .ok (.iconst 1, 1) := by decide +kernel
theorem dL_597 : decode cL_law 597 = .ok (.iadd, 1) := by decide +kernel
theorem dL_598 : decode cL_law 598 = .ok (.iaload, 1) := by decide +kernel
theorem dL_599 : decode cL_law 599 = .ok (.aload_n 0, 1) := by decide +kernel
theorem dL_600 : decode cL_law 600 = .ok (.iload_n 3, 1) := by decide +kernel
theorem dL_601 : decode cL_law 601 = .ok (.iconst 2, 1) := by decide +kernel
theorem dL_602 : decode cL_law 602 = .ok (.iadd, 1) := by decide +kernel
theorem dL_603 : decode cL_law 603 = .ok (.iaload, 1) := by decide +kernel
theorem dL_604 : decode cL_law 604 = .ok (.invokevirtual 80, 3) := by decide +kernel
theorem dL_607 : decode cL_law 607 = .ok (.if_icmp .eq 501, 3) := by decide +kernel
theorem dL_612 : decode cL_law 612 = .ok (.aload_n 1, 1) := by decide +kernel
theorem dL_613 : decode cL_law 613 = .ok (.aload_n 0, 1) := by decide +kernel
theorem dL_614 : decode cL_law 614 = .ok (.iload_n 3, 1) := by decide +kernel
theorem dL_615 : decode cL_law 615 = .ok (.iconst 1, 1) := by decide +kernel
theorem dL_616 : decode cL_law 616 = .ok (.iadd, 1) := by decide +kernel
theorem dL_617 : decode cL_law 617 = .ok (.iaload, 1) := by decide +kernel
theorem dL_618 : decode cL_law 618 = .ok (.invokevirtual 81, 3) := by decide +kernel
theorem dL_621 : decode cL_law 621 = .ok (.aload_n 2, 1) := by decide +kernel
theorem dL_622 : decode cL_law 622 = .ok (.aload_n 0, 1) := by decide +kernel
theorem dL_623 : decode cL_law 623 = .ok (.iload_n 3, 1) := by decide +kernel
theorem dL_624 : decode cL_law 624 = .ok (.iconst 1, 1) := by decide +kernel
theorem dL_625 : decode cL_law 625 = .ok (.iadd, 1) := by decide +kernel
theorem dL_626 : decode cL_law 626 = .ok (.iaload, 1) := by decide +kernel
theorem dL_627 : decode cL_law 627 = .ok (.invokevirtual 84, 3) := by decide +kernel
theorem dL_630 : decode cL_law 630 = .ok (.if_icmp .eq 478, 3) := by decide +kernel
theorem dL_635 : decode cL_law 635 = .ok (.aload_n 1, 1) := by decide +kernel
theorem dL_636 : decode cL_law 636 = .ok (.aload_n 0, 1) := by decide +kernel
theorem dL_637 : decode cL_law 637 = .ok (.iload_n 3, 1) := by decide +kernel
theorem dL_638 : decode cL_law 638 = .ok (.iconst 1, 1) := by decide +kernel
theorem dL_639 : decode cL_law 639 = .ok (.iadd, 1) := by decide +kernel
theorem dL_640 : decode cL_law 640 = .ok (.iaload, 1) := by decide +kernel
theorem dL_641 : decode cL_law 641 = .ok (.aload_n 0, 1) := by decide +kernel
theorem dL_642 : decode cL_law 642 = .ok (.iload_n 3, 1) := by decide +kernel
theorem dL_643 : decode cL_law 643 = .ok (.iconst 2, 1) := by decide +kernel
theorem dL_644 : decode cL_law 644 = .ok (.iadd, 1) := by decide +kernel
theorem dL_645 : decode cL_law 645 = .ok (.iaload, 1) := by decide +kernel
theorem dL_646 : decode cL_law 646 = .ok (.invokevirtual 85, 3) := by decide +kernel
theorem dL_649 : decode cL_law 649 = .ok (.aload_n 2, 1) := by decide +kernel
theorem dL_650 : decode cL_law 650 = .ok (.aload_n 0, 1) := by decide +kernel
theorem dL_651 : decode cL_law 651 = .ok (.iload_n 3, 1) := by decide +kernel
theorem dL_652 : decode cL_law 652 = .ok (.iconst 1, 1) := by decide +kernel
theorem dL_653 : decode cL_law 653 = .ok (.iadd, 1) := by decide +kernel
theorem dL_654 : decode cL_law 654 = .ok (.iaload, 1) := by decide +kernel
theorem dL_655 : decode cL_law 655 = .ok (.aload_n 0, 1) := by decide +kernel
theorem dL_656 : decode cL_law 656 = .ok (.iload_n 3, 1) := by decide +kernel
theorem dL_657 : decode cL_law 657 = .ok (.iconst 2, 1) := by decide +kernel
theorem dL_658 : decode cL_law 658 = .ok (.iadd, 1) := by decide +kernel
theorem dL_659 : decode cL_law 659 = .ok (.iaload, 1) := by decide +kernel
theorem dL_660 : decode cL_law 660 = .ok (.invokevirtual 88, 3) := by decide +kernel
theorem dL_663 : decode cL_law 663 = .ok (.if_icmp .eq 445, 3) := by decide +kernel
theorem dL_668 : decode cL_law 668 = .ok (.aload_n 1, 1) := by decide +kernel
theorem dL_669 : decode cL_law 669 = .ok (.aload_n 0, 1) := by decide +kernel
theorem dL_670 : decode cL_law 670 = .ok (.iload_n 3, 1) := by decide +kernel
theorem dL_671 : decode cL_law 671 = .ok (.iconst 1, 1) := by decide +kernel
theorem dL_672 : decode cL_law 672 = .ok (.iadd, 1) := by decide +kernel
theorem dL_673 : decode cL_law 673 = .ok (.iaload, 1) := by decide +kernel
theorem dL_674 : decode cL_law 674 = .ok (.invokevirtual 89, 3) := by decide +kernel
theorem dL_677 : decode cL_law 677 = .ok (.aload_n 2, 1) := by decide +kernel
theorem dL_678 : decode cL_law 678 = .ok (.aload_n 0, 1) := by decide +kernel
theorem dL_679 : decode cL_law 679 = .ok (.iload_n 3, 1) := by decide +kernel
theorem dL_680 : decode cL_law 680 = .ok (.iconst 1, 1) := by decide +kernel
theorem dL_681 : decode cL_law 681 = .ok (.iadd, 1) := by decide +kernel
theorem dL_682 : decode cL_law 682 = .ok (.iaload, 1) := by decide +kernel
theorem dL_683 : decode cL_law 683 = .ok (.invokevirtual 92, 3) := by decide +kernel
theorem dL_686 : decode cL_law 686 = .ok (.if_icmp .eq 422, 3) := by decide +kernel
theorem dL_691 : decode cL_law 691 = .ok (.aload_n 1, 1) := by decide +kernel
theorem dL_692 : decode cL_law 692 = .ok (.aload_n 0, 1) := by decide +kernel
theorem dL_693 : decode cL_law 693 = .ok (.iload_n 3, 1) := by decide +kernel
theorem dL_694 : decode cL_law 694 = .ok (.iconst 1, 1) := by decide +kernel
theorem dL_695 : decode cL_law 695 = .ok (.iadd, 1) := by decide +kernel
theorem dL_696 : decode cL_law 696 = .ok (.iaload, 1) := by decide +kernel
theorem dL_697 : decode cL_law 697 = .ok (.invokevirtual 93, 3) := by decide +kernel
theorem dL_700 : decode cL_law 700 = .ok (.aload_n 2, 1) := by decide +kernel
theorem dL_701 : decode cL_law 701 = .ok (.aload_n 0, 1) := by decide +kernel
theorem dL_702 : decode cL_law 702 = .ok (.iload_n 3, 1) := by decide +kernel
theorem dL_703 : decode cL_law 703 = .ok (.iconst 1, 1) := by decide +kernel
theorem dL_704 : decode cL_law 704 = .ok (.iadd, 1) := by decide +kernel
theorem dL_705 : decode cL_law 705 = .ok (.iaload, 1) := by decide +kernel
theorem dL_706 : decode cL_law 706 = .ok (.invokevirtual 96, 3) := by decide +kernel
theorem dL_709 : decode cL_law 709 = .ok (.if_icmp .eq 399, 3) := by decide +kernel
theorem dL_714 : decode cL_law 714 = .ok (.aload_n 1, 1) := by decide +kernel
theorem dL_715 : decode cL_law 715 = .ok (.aload_n 0, 1) := by decide +kernel
theorem dL_716 : decode cL_law 716 = .ok (.iload_n 3, 1) := by decide +kernel
theorem dL_717 : decode cL_law 717 = .ok (.iconst 1, 1) := by decide +kernel
theorem dL_718 : decode cL_law 718 = .ok (.iadd, 1) := by decide +kernel
theorem dL_719 : decode cL_law 719 = .ok (.iaload, 1) := by decide +kernel
theorem dL_720 : decode cL_law 720 = .ok (.aload_n 0, 1) := by decide +kernel
theorem dL_721 : decode cL_law 721 = .ok (.iload_n 3, 1) := by decide +kernel
theorem dL_722 : decode cL_law 722 = .ok (.iconst 2, 1) := by decide +kernel
theorem dL_723 : decode cL_law 723 = .ok (.iadd, 1) := by decide +kernel
theorem dL_724 : decode cL_law 724 = .ok (.iaload, 1) := by decide +kernel
theorem dL_725 : decode cL_law 725 = .ok (.invokevirtual 97, 3) := by decide +kernel
theorem dL_728 : decode cL_law 728 = .ok (.aload_n 2, 1) := by decide +kernel
theorem dL_729 : decode cL_law 729 = .ok (.aload_n 0, 1) := by decide +kernel
theorem dL_730 : decode cL_law 730 = .ok (.iload_n 3, 1) := by decide +kernel
theorem dL_731 : decode cL_law 731 = .ok (.iconst 1, 1) := by decide +kernel
theorem dL_732 : decode cL_law 732 = .ok (.iadd, 1) := by decide +kernel
theorem dL_733 : decode cL_law 733 = .ok (.iaload, 1) := by decide +kernel
theorem dL_734 : decode cL_law 734 = .ok (.aload_n 0, 1) := by decide +kernel
theorem dL_735 : decode cL_law 735 = .ok (.iload_n 3, 1) := by decide +kernel
theorem dL_736 : decode cL_law 736 = .ok (.iconst 2, 1) := by decide +kernel
theorem dL_737 : decode cL_law 737 = .ok (.iadd, 1) := by decide +kernel
theorem dL_738 : decode cL_law 738 = .ok (.iaload, 1) := by decide +kernel
theorem dL_739 : decode cL_law 739 = .ok (.invokevirtual 100, 3) := by decide +kernel
theorem dL_742 : decode cL_law 742 = .ok (.if_icmp .eq 366, 3) := by decide +kernel
theorem dL_747 : decode cL_law 747 = .ok (.aload_n 1, 1) := by decide +kernel
theorem dL_748 : decode cL_law 748 = .ok (.aload_n 0, 1) := by decide +kernel
theorem dL_749 : decode cL_law 749 = .ok (.iload_n 3, 1) := by decide +kernel
theorem dL_750 : decode cL_law 750 = .ok (.iconst 1, 1) := by decide +kernel
theorem dL_751 : decode cL_law 751 = .ok (.iadd, 1) := by decide +kernel
theorem dL_752 : decode cL_law 752 = .ok (.iaload, 1) := by decide +kernel
theorem dL_753 : decode cL_law 753 = .ok (.aload_n 0, 1) := by decide +kernel
theorem dL_754 : decode cL_law 754 = .ok (.iload_n 3, 1) := by decide +kernel
theorem dL_755 : decode cL_law 755 = .ok (.iconst 2, 1) := by decide +kernel
theorem dL_756 : decode cL_law 756 = .ok (.iadd, 1) := by decide +kernel
theorem dL_757 : decode cL_law 757 = .ok (.iaload, 1) := by decide +kernel
theorem dL_758 : decode cL_law 758 = .ok (.aload_n 0, 1) := by decide +kernel
theorem dL_759 : decode cL_law 759 = .ok (.iload_n 3, 1) := by decide +kernel
theorem dL_760 : decode cL_law 760 = .ok (.iconst 3, 1) := by decide +kernel
theorem dL_761 : decode cL_law 761 = .ok (.iadd, 1) := by decide +kernel
theorem dL_762 : decode cL_law 762 = .ok (.iaload, 1) := by decide +kernel
theorem dL_763 : decode cL_law 763 = .ok (.aload_n 0, 1) := by decide +kernel
theorem dL_764 : decode cL_law 764 = .ok (.iload_n 3, 1) := by decide +kernel
theorem dL_765 : decode cL_law 765 = .ok (.iconst 4, 1) := by decide +kernel
theorem dL_766 : decode cL_law 766 = .ok (.iadd, 1) := by decide +kernel
theorem dL_767 : decode cL_law 767 = .ok (.iaload, 1) := by decide +kernel
theorem dL_768 : decode cL_law 768 = .ok (.invokevirtual 101, 3) := by decide +kernel
theorem dL_771 : decode cL_law 771 = .ok (.aload_n 2, 1) := by decide +kernel
theorem dL_772 : decode cL_law 772 = .ok (.aload_n 0, 1) := by decide +kernel
theorem dL_773 : decode cL_law 773 = .ok (.iload_n 3, 1) := by decide +kernel
theorem dL_774 : decode cL_law 774 = .ok (.iconst 1, 1) := by decide +kernel
theorem dL_775 : decode cL_law 775 = .ok (.iadd, 1) := by decide +kernel
theorem dL_776 : decode cL_law 776 = .ok (.iaload, 1) := by decide +kernel
theorem dL_777 : decode cL_law 777 = .ok (.aload_n 0, 1) := by decide +kernel
theorem dL_778 : decode cL_law 778 = .ok (.iload_n 3, 1) := by decide +kernel
theorem dL_779 : decode cL_law 779 = .ok (.iconst 2, 1) := by decide +kernel
theorem dL_780 : decode cL_law 780 = .ok (.iadd, 1) := by decide +kernel
theorem dL_781 : decode cL_law 781 = .ok (.iaload, 1) := by decide +kernel
theorem dL_782 : decode cL_law 782 = .ok (.aload_n 0, 1) := by decide +kernel
theorem dL_783 : decode cL_law 783 = .ok (.iload_n 3, 1) := by decide +kernel
theorem dL_784 : decode cL_law 784 = .ok (.iconst 3, 1) := by decide +kernel
theorem dL_785 : decode cL_law 785 = .ok (.iadd, 1) := by decide +kernel
theorem dL_786 : decode cL_law 786 = .ok (.iaload, 1) := by decide +kernel
theorem dL_787 : decode cL_law 787 = .ok (.aload_n 0, 1) := by decide +kernel
theorem dL_788 : decode cL_law 788 = .ok (.iload_n 3, 1) := by decide +kernel
theorem dL_789 : decode cL_law 789 = .ok (.iconst 4, 1) := by decide +kernel
theorem dL_790 : decode cL_law 790 = .ok (.iadd, 1) := by decide +kernel
theorem dL_791 : decode cL_law 791 = .ok (.iaload, 1) := by decide +kernel
theorem dL_792 : decode cL_law 792 = .ok (.invokevirtual 105, 3) := by decide +kernel
theorem dL_795 : decode cL_law 795 = .ok (.if_icmp .eq 313, 3) := by decide +kernel
theorem dL_800 : decode cL_law 800 = .ok (.aload_n 1, 1) := by decide +kernel
theorem dL_801 : decode cL_law 801 = .ok (.invokevirtual 106, 3) := by decide +kernel
theorem dL_804 : decode cL_law 804 = .ok (.aload_n 2, 1) := by decide +kernel
theorem dL_805 : decode cL_law 805 = .ok (.invokevirtual 109, 3) := by decide +kernel
theorem dL_808 : decode cL_law 808 = .ok (.if_icmp .eq 300, 3) := by decide +kernel
theorem dL_813 : decode cL_law 813 = .ok (.aload_n 1, 1) := by decide +kernel
theorem dL_814 : decode cL_law 814 = .ok (.aload_n 0, 1) := by decide +kernel
theorem dL_815 : decode cL_law 815 = .ok (.iload_n 3, 1) := by decide +kernel
theorem dL_816 : decode cL_law 816 = .ok (.iconst 1, 1) := by decide +kernel
theorem dL_817 : decode cL_law 817 = .ok (.iadd, 1) := by decide +kernel
theorem dL_818 : decode cL_law 818 = .ok (.iaload, 1) := by decide +kernel
theorem dL_819 : decode cL_law 819 = .ok (.invokevirtual 110, 3) := by decide +kernel
theorem dL_822 : decode cL_law 822 = .ok (.aload_n 2, 1) := by decide +kernel
theorem dL_823 : decode cL_law 823 = .ok (.aload_n 0, 1) := by decide +kernel
theorem dL_824 : decode cL_law 824 = .ok (.iload_n 3, 1) := by decide +kernel
theorem dL_825 : decode cL_law 825 = .ok (.iconst 1, 1) := by decide +kernel
theorem dL_826 : decode cL_law 826 = .ok (.iadd, 1) := by decide +kernel
theorem dL_827 : decode cL_law 827 = .ok (.iaload, 1) := by decide +kernel
theorem dL_828 : decode cL_law 828 = .ok (.invokevirtual 113, 3) := by decide +kernel
theorem dL_831 : decode cL_law 831 = .ok (.if_icmp .eq 277, 3) := by decide +kernel
theorem dL_836 : decode cL_law 836 = .ok (.aload_n 1, 1) := by decide +kernel
theorem dL_837 : decode cL_law 837 = .ok (.aload_n 0, 1) := by decide +kernel
theorem dL_838 : decode cL_law 838 = .ok (.iload_n 3, 1) := by decide +kernel
theorem dL_839 : decode cL_law 839 = .ok (.iconst 1, 1) := by decide +kernel
theorem dL_840 : decode cL_law 840 = .ok (.iadd, 1) := by decide +kernel
theorem dL_841 : decode cL_law 841 = .ok (.iaload, 1) := by decide +kernel
theorem dL_842 : decode cL_law 842 = .ok (.aload_n 0, 1) := by decide +kernel
theorem dL_843 : decode cL_law 843 = .ok (.iload_n 3, 1) := by decide +kernel
theorem dL_844 : decode cL_law 844 = .ok (.iconst 2, 1) := by decide +kernel
theorem dL_845 : decode cL_law 845 = .ok (.iadd, 1) := by decide +kernel
theorem dL_846 : decode cL_law 846 = .ok (.iaload, 1) := by decide +kernel
theorem dL_847 : decode cL_law 847 = .ok (.invokevirtual 114, 3) := by decide +kernel
theorem dL_850 : decode cL_law 850 = .ok (.aload_n 2, 1) := by decide +kernel
theorem dL_851 : decode cL_law 851 = .ok (.aload_n 0, 1) := by decide +kernel
theorem dL_852 : decode cL_law 852 = .ok (.iload_n 3, 1) := by decide +kernel
theorem dL_853 : decode cL_law 853 = .ok (.iconst 1, 1) := by decide +kernel
theorem dL_854 : decode cL_law 854 = .ok (.iadd, 1) := by decide +kernel
theorem dL_855 : decode cL_law 855 = .ok (.iaload, 1) := by decide +kernel
theorem dL_856 : decode cL_law 856 = .ok (.aload_n 0, 1) := by decide +kernel
theorem dL_857 : decode cL_law 857 = .ok (.iload_n 3, 1) := by decide +kernel
theorem dL_858 : decode cL_law 858 = .ok (.iconst 2, 1) := by decide +kernel
theorem dL_859 : decode cL_law 859 = .ok (.iadd, 1) := by decide +kernel
theorem dL_860 : decode cL_law 860 = .ok (.iaload, 1) := by decide +kernel
theorem dL_861 : decode cL_law 861 = .ok (.invokevirtual 117, 3) := by decide +kernel
theorem dL_864 : decode cL_law 864 = .ok (.if_icmp .eq 244, 3) := by decide +kernel
theorem dL_869 : decode cL_law 869 = .ok (.aload_n 1, 1) := by decide +kernel
theorem dL_870 : decode cL_law 870 = .ok (.aload_n 0, 1) := by decide +kernel
theorem dL_871 : decode cL_law 871 = .ok (.iload_n 3, 1) := by decide +kernel
theorem dL_872 : decode cL_law 872 = .ok (.iconst 1, 1) := by decide +kernel
theorem dL_873 : decode cL_law 873 = .ok (.iadd, 1) := by decide +kernel
theorem dL_874 : decode cL_law 874 = .ok (.iaload, 1) := by decide +kernel
theorem dL_875 : decode cL_law 875 = .ok (.aload_n 0, 1) := by decide +kernel
theorem dL_876 : decode cL_law 876 = .ok (.iload_n 3, 1) := by decide +kernel
theorem dL_877 : decode cL_law 877 = .ok (.iconst 2, 1) := by decide +kernel
theorem dL_878 : decode cL_law 878 = .ok (.iadd, 1) := by decide +kernel
theorem dL_879 : decode cL_law 879 = .ok (.iaload, 1) := by decide +kernel
theorem dL_880 : decode cL_law 880 = .ok (.invokevirtual 118, 3) := by decide +kernel
theorem dL_883 : decode cL_law 883 = .ok (.aload_n 2, 1) := by decide +kernel
theorem dL_884 : decode cL_law 884 = .ok (.aload_n 0, 1) := by decide +kernel
theorem dL_885 : decode cL_law 885 = .ok (.iload_n 3, 1) := by decide +kernel
theorem dL_886 : decode cL_law 886 = .ok (.iconst 1, 1) := by decide +kernel
theorem dL_887 : decode cL_law 887 = .ok (.iadd, 1) := by decide +kernel
theorem dL_888 : decode cL_law 888 = .ok (.iaload, 1) := by decide +kernel
theorem dL_889 : decode cL_law 889 = .ok (.aload_n 0, 1) := by decide +kernel
theorem dL_890 : decode cL_law 890 = .ok (.iload_n 3, 1) := by decide +kernel
theorem dL_891 : decode cL_law 891 = .ok (.iconst 2, 1) := by decide +kernel
theorem dL_892 : decode cL_law 892 = .ok (.iadd, 1) := by decide +kernel
theorem dL_893 : decode cL_law 893 = .ok (.iaload, 1) := by decide +kernel
theorem dL_894 : decode cL_law 894 = .ok (.invokevirtual 121, 3) := by decide +kernel
theorem dL_897 : decode cL_law 897 = .ok (.if_icmp .eq 211, 3) := by decide +kernel
theorem dL_902 : decode cL_law 902 = .ok (.aload_n 1, 1) := by decide +kernel
theorem dL_903 : decode cL_law 903 = .ok (.aload_n 0, 1) := by decide +kernel
theorem dL_904 : decode cL_law 904 = .ok (.iload_n 3, 1) := by decide +kernel
theorem dL_905 : decode cL_law 905 = .ok (.iconst 1, 1) := by decide +kernel
theorem dL_906 : decode cL_law 906 = .ok (.iadd, 1) := by decide +kernel
theorem dL_907 : decode cL_law 907 = .ok (.iaload, 1) := by decide +kernel
theorem dL_908 : decode cL_law 908 = .ok (.aload_n 0, 1) := by decide +kernel
theorem dL_909 : decode cL_law 909 = .ok (.iload_n 3, 1) := by decide +kernel
theorem dL_910 : decode cL_law 910 = .ok (.iconst 2, 1) := by decide +kernel
theorem dL_911 : decode cL_law 911 = .ok (.iadd, 1) := by decide +kernel
theorem dL_912 : decode cL_law 912 = .ok (.iaload, 1) := by decide +kernel
theorem dL_913 : decode cL_law 913 = .ok (.aload_n 0, 1) := by decide +kernel
theorem dL_914 : decode cL_law 914 = .ok (.iload_n 3, 1) := by decide +kernel
theorem dL_915 : decode cL_law 915 = .ok (.iconst 3, 1) := by decide +kernel
theorem dL_916 : decode cL_law 916 = .ok (.iadd, 1) := by decide +kernel
theorem dL_917 : decode cL_law 917 = .ok (.iaload, 1) := by decide +kernel
theorem dL_918 : decode cL_law 918 = .ok (.invokevirtual 122, 3) := by decide +kernel
theorem dL_921 : decode cL_law 921 = .ok (.aload_n 2, 1) := by decide +kernel
theorem dL_922 : decode cL_law 922 = .ok (.aload_n 0, 1) := by decide +kernel
theorem dL_923 : decode cL_law 923 = .ok (.iload_n 3, 1) := by decide +kernel
theorem dL_924 : decode cL_law 924 = .ok (.iconst 1, 1) := by decide +kernel
theorem dL_925 : decode cL_law 925 = .ok (.iadd, 1) := by decide +kernel
theorem dL_926 : decode cL_law 926 = .ok (.iaload, 1) := by decide +kernel
theorem dL_927 : decode cL_law 927 = .ok (.aload_n 0, 1) := by decide +kernel
theorem dL_928 : decode cL_law 928 = .ok (.iload_n 3, 1) := by decide +kernel
theorem dL_929 : decode cL_law 929 = .ok (.iconst 2, 1) := by decide +kernel
theorem dL_930 : decode cL_law 930 = .ok (.iadd, 1) := by decide +kernel
theorem dL_931 : decode cL_law 931 = .ok (.iaload, 1) := by decide +kernel
theorem dL_932 : decode cL_law 932 = .ok (.aload_n 0, 1) := by decide +kernel
theorem dL_933 : decode cL_law 933 = .ok (.iload_n 3, 1) := by decide +kernel
theorem dL_934 : decode cL_law 934 = .ok (.iconst 3, 1) := by decide +kernel
theorem dL_935 : decode cL_law 935 = .ok (.iadd, 1) := by decide +kernel
theorem dL_936 : decode cL_law 936 = .ok (.iaload, 1) := by decide +kernel
theorem dL_937 : decode cL_law 937 = .ok (.invokevirtual 126, 3) := by decide +kernel
theorem dL_940 : decode cL_law 940 = .ok (.if_icmp .eq 168, 3) := by decide +kernel
theorem dL_945 : decode cL_law 945 = .ok (.aload_n 1, 1) := by decide +kernel
theorem dL_946 : decode cL_law 946 = .ok (.aload_n 0, 1) := by decide +kernel
theorem dL_947 : decode cL_law 947 = .ok (.iload_n 3, 1) := by decide +kernel
theorem dL_948 : decode cL_law 948 = .ok (.iconst 1, 1) := by decide +kernel
theorem dL_949 : decode cL_law 949 = .ok (.iadd, 1) := by decide +kernel
theorem dL_950 : decode cL_law 950 = .ok (.iaload, 1) := by decide +kernel
theorem dL_951 : decode cL_law 951 = .ok (.aload_n 0, 1) := by decide +kernel
theorem dL_952 : decode cL_law 952 = .ok (.iload_n 3, 1) := by decide +kernel
theorem dL_953 : decode cL_law 953 = .ok (.iconst 2, 1) := by decide +kernel
theorem dL_954 : decode cL_law 954 = .ok (.iadd, 1) := by decide +kernel
theorem dL_955 : decode cL_law 955 = .ok (.iaload, 1) := by decide +kernel
theorem dL_956 : decode cL_law 956 = .ok (.invokevirtual 127, 3) := by decide +kernel
theorem dL_959 : decode cL_law 959 = .ok (.aload_n 2, 1) := by decide +kernel
theorem dL_960 : decode cL_law 960 = .ok (.aload_n 0, 1) := by decide +kernel
theorem dL_961 : decode cL_law 961 = .ok (.iload_n 3, 1) := by decide +kernel
theorem dL_962 : decode cL_law 962 = .ok (.iconst 1, 1) := by decide +kernel
theorem dL_963 : decode cL_law 963 = .ok (.iadd, 1) := by decide +kernel
theorem dL_964 : decode cL_law 964 = .ok (.iaload, 1) := by decide +kernel
theorem dL_965 : decode cL_law 965 = .ok (.aload_n 0, 1) := by decide +kernel
theorem dL_966 : decode cL_law 966 = .ok (.iload_n 3, 1) := by decide +kernel
theorem dL_967 : decode cL_law 967 = .ok (.iconst 2, 1) := by decide +kernel
theorem dL_968 : decode cL_law 968 = .ok (.iadd, 1) := by decide +kernel
theorem dL_969 : decode cL_law 969 = .ok (.iaload, 1) := by decide +kernel
theorem dL_970 : decode cL_law 970 = .ok (.invokevirtual 130, 3) := by decide +kernel
theorem dL_973 : decode cL_law 973 = .ok (.if_icmp .eq 135, 3) := by decide +kernel
theorem dL_978 : decode cL_law 978 = .ok (.aload_n 1, 1) := by decide +kernel
theorem dL_979 : decode cL_law 979 = .ok (.aload_n 0, 1) := by decide +kernel
theorem dL_980 : decode cL_law 980 = .ok (.iload_n 3, 1) := by decide +kernel
theorem dL_981 : decode cL_law 981 = .ok (.iconst 1, 1) := by decide +kernel
theorem dL_982 : decode cL_law 982 = .ok (.iadd, 1) := by decide +kernel
theorem dL_983 : decode cL_law 983 = .ok (.iaload, 1) := by decide +kernel
theorem dL_984 : decode cL_law 984 = .ok (.invokevirtual 131, 3) := by decide +kernel
theorem dL_987 : decode cL_law 987 = .ok (.aload_n 2, 1) := by decide +kernel
theorem dL_988 : decode cL_law 988 = .ok (.aload_n 0, 1) := by decide +kernel
theorem dL_989 : decode cL_law 989 = .ok (.iload_n 3, 1) := by decide +kernel
theorem dL_990 : decode cL_law 990 = .ok (.iconst 1, 1) := by decide +kernel
theorem dL_991 : decode cL_law 991 = .ok (.iadd, 1) := by decide +kernel
theorem dL_992 : decode cL_law 992 = .ok (.iaload, 1) := by decide +kernel
theorem dL_993 : decode cL_law 993 = .ok (.invokevirtual 135, 3) := by decide +kernel
theorem dL_996 : decode cL_law 996 = .ok (.lcmp, 1) := by decide +kernel
theorem dL_997 : decode cL_law 997 = .ok (.ifCond .eq 111, 3) := by decide +kernel
theorem dL_1002 : decode cL_law 1002 = .ok (.aload_n 1, 1) := by decide +kernel
theorem dL_1003 : decode cL_law 1003 = .ok (.aload_n 0, 1) := by decide +kernel
theorem dL_1004 : decode cL_law 1004 = .ok (.iload_n 3, 1) := by decide +kernel
theorem dL_1005 : decode cL_law 1005 = .ok (.iconst 1, 1) := by decide +kernel
theorem dL_1006 : decode cL_law 1006 = .ok (.iadd, 1) := by decide +kernel
theorem dL_1007 : decode cL_law 1007 = .ok (.iaload, 1) := by decide +kernel
theorem dL_1008 : decode cL_law 1008 = .ok (.invokevirtual 136, 3) := by decide +kernel
theorem dL_1011 : decode cL_law 1011 = .ok (.aload_n 2, 1) := by decide +kernel
theorem dL_1012 : decode cL_law 1012 = .ok (.aload_n 0, 1) := by decide +kernel
theorem dL_1013 : decode cL_law 1013 = .ok (.iload_n 3, 1) := by decide +kernel
theorem dL_1014 : decode cL_law 1014 = .ok (.iconst 1, 1) := by decide +kernel
theorem dL_1015 : decode cL_law 1015 = .ok (.iadd, 1) := by decide +kernel
theorem dL_1016 : decode cL_law 1016 = .ok (.iaload, 1) := by decide +kernel
theorem dL_1017 : decode cL_law 1017 = .ok (.invokevirtual 139, 3) := by decide +kernel
theorem dL_1020 : decode cL_law 1020 = .ok (.if_icmp .eq 88, 3) := by decide +kernel
theorem dL_1025 : decode cL_law 1025 = .ok (.aload_n 1, 1) := by decide +kernel
theorem dL_1026 : decode cL_law 1026 = .ok (.aload_n 0, 1) := by decide +kernel
theorem dL_1027 : decode cL_law 1027 = .ok (.iload_n 3, 1) := by decide +kernel
theorem dL_1028 : decode cL_law 1028 = .ok (.iconst 1, 1) := by decide +kernel
theorem dL_1029 : decode cL_law 1029 = .ok (.iadd, 1) := by decide +kernel
theorem dL_1030 : decode cL_law 1030 = .ok (.iaload, 1) := by decide +kernel
theorem dL_1031 : decode cL_law 1031 = .ok (.invokevirtual 140, 3) := by decide +kernel
theorem dL_1034 : decode cL_law 1034 = .ok (.aload_n 2, 1) := by decide +kernel
theorem dL_1035 : decode cL_law 1035 = .ok (.aload_n 0, 1) := by decide +kernel
theorem dL_1036 : decode cL_law 1036 = .ok (.iload_n 3, 1) := by decide +kernel
theorem dL_1037 : decode cL_law 1037 = .ok (.iconst 1, 1) := by decide +kernel
theorem dL_1038 : decode cL_law 1038 = .ok (.iadd, 1) := by decide +kernel
theorem dL_1039 : decode cL_law 1039 = .ok (.iaload, 1) := by decide +kernel
theorem dL_1040 : decode cL_law 1040 = .ok (.invokevirtual 143, 3) := by decide +kernel
theorem dL_1043 : decode cL_law 1043 = .ok (.if_icmp .eq 65, 3) := by decide +kernel
theorem dL_1048 : decode cL_law 1048 = .ok (.aload_n 1, 1) := by decide +kernel
theorem dL_1049 : decode cL_law 1049 = .ok (.aload_n 0, 1) := by decide +kernel
theorem dL_1050 : decode cL_law 1050 = .ok (.iload_n 3, 1) := by decide +kernel
theorem dL_1051 : decode cL_law 1051 = .ok (.iconst 1, 1) := by decide +kernel
theorem dL_1052 : decode cL_law 1052 = .ok (.iadd, 1) := by decide +kernel
theorem dL_1053 : decode cL_law 1053 = .ok (.iaload, 1) := by decide +kernel
theorem dL_1054 : decode cL_law 1054 = .ok (.invokevirtual 144, 3) := by decide +kernel
theorem dL_1057 : decode cL_law 1057 = .ok (.aload_n 2, 1) := by decide +kernel
theorem dL_1058 : decode cL_law 1058 = .ok (.aload_n 0, 1) := by decide +kernel
theorem dL_1059 : decode cL_law 1059 = .ok (.iload_n 3, 1) := by decide +kernel
theorem dL_1060 : decode cL_law 1060 = .ok (.iconst 1, 1) := by decide +kernel
theorem dL_1061 : decode cL_law 1061 = .ok (.iadd, 1) := by decide +kernel
theorem dL_1062 : decode cL_law 1062 = .ok (.iaload, 1) := by decide +kernel
theorem dL_1063 : decode cL_law 1063 = .ok (.invokevirtual 147, 3) := by decide +kernel
theorem dL_1066 : decode cL_law 1066 = .ok (.if_icmp .eq 42, 3) := by decide +kernel
theorem dL_1071 : decode cL_law 1071 = .ok (.aload_n 1, 1) := by decide +kernel
theorem dL_1072 : decode cL_law 1072 = .ok (.aload_n 0, 1) := by decide +kernel
theorem dL_1073 : decode cL_law 1073 = .ok (.iload_n 3, 1) := by decide +kernel
theorem dL_1074 : decode cL_law 1074 = .ok (.iconst 1, 1) := by decide +kernel
theorem dL_1075 : decode cL_law 1075 = .ok (.iadd, 1) := by decide +kernel
theorem dL_1076 : decode cL_law 1076 = .ok (.iaload, 1) := by decide +kernel
theorem dL_1077 : decode cL_law 1077 = .ok (.invokevirtual 148, 3) := by decide +kernel
theorem dL_1080 : decode cL_law 1080 = .ok (.aload_n 2, 1) := by decide +kernel
theorem dL_1081 : decode cL_law 1081 = .ok (.aload_n 0, 1) := by decide +kernel
theorem dL_1082 : decode cL_law 1082 = .ok (.iload_n 3, 1) := by decide +kernel
theorem dL_1083 : decode cL_law 1083 = .ok (.iconst 1, 1) := by decide +kernel
theorem dL_1084 : decode cL_law 1084 = .ok (.iadd, 1) := by decide +kernel
theorem dL_1085 : decode cL_law 1085 = .ok (.iaload, 1) := by decide +kernel
theorem dL_1086 : decode cL_law 1086 = .ok (.invokevirtual 151, 3) := by decide +kernel
theorem dL_1089 : decode cL_law 1089 = .ok (.if_icmp .eq 19, 3) := by decide +kernel
theorem dL_1094 : decode cL_law 1094 = .ok (.aload_n 1, 1) := by decide +kernel
theorem dL_1095 : decode cL_law 1095 = .ok (.invokevirtual 152, 3) := by decide +kernel
theorem dL_1098 : decode cL_law 1098 = .ok (.aload_n 2, 1) := by decide +kernel
theorem dL_1099 : decode cL_law 1099 = .ok (.invokevirtual 156, 3) := by decide +kernel
theorem dL_1102 : decode cL_law 1102 = .ok (.lcmp, 1) := by decide +kernel
theorem dL_1103 : decode cL_law 1103 = .ok (.ifCond .eq 5, 3) := by decide +kernel
theorem dL_1108 : decode cL_law 1108 = .ok (.iinc 3 6, 3) := by decide +kernel
theorem dL_1111 : decode cL_law 1111 = .ok (.goto (-1093), 3) := by decide +kernel
theorem dL_1114 : decode cL_law 1114 = .ok (.iconst 1, 1) := by decide +kernel
theorem dL_1115 : decode cL_law 1115 = .ok (.ireturn, 1) := by decide +kernel
