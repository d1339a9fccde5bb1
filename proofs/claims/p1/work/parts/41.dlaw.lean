theorem dL_law_0 : decode cL_law 0 = .ok (.new 7, 3) := by decide +kernel
theorem dL_law_3 : decode cL_law 3 = .ok (.dup, 1) := by decide +kernel
theorem dL_law_4 : decode cL_law 4 = .ok (.invokespecial 9, 3) := by decide +kernel
theorem dL_law_7 : decode cL_law 7 = .ok (.astore_n 1, 1) := by decide +kernel
theorem dL_law_8 : decode cL_law 8 = .ok (.new 10, 3) := by decide +kernel
theorem dL_law_11 : decode cL_law 11 = .ok (.dup, 1) := by decide +kernel
theorem dL_law_12 : decode cL_law 12 = .ok (.invokespecial 12, 3) := by decide +kernel
theorem dL_law_15 : decode cL_law 15 = .ok (.astore_n 2, 1) := by decide +kernel
theorem dL_law_16 : decode cL_law 16 = .ok (.iconst 0, 1) := by decide +kernel
theorem dL_law_17 : decode cL_law 17 = .ok (.istore_n 3, 1) := by decide +kernel
theorem dL_law_18 : decode cL_law 18 = .ok (.iload_n 3, 1) := by decide +kernel
theorem dL_law_19 : decode cL_law 19 = .ok (.aload_n 0, 1) := by decide +kernel
theorem dL_law_20 : decode cL_law 20 = .ok (.arraylength, 1) := by decide +kernel
theorem dL_law_21 : decode cL_law 21 = .ok (.bipush 6, 2) := by decide +kernel
theorem dL_law_23 : decode cL_law 23 = .ok (.isub, 1) := by decide +kernel
theorem dL_law_24 : decode cL_law 24 = .ok (.if_icmp .gt 1110, 3) := by decide +kernel
theorem dL_law_27 : decode cL_law 27 = .ok (.aload_n 0, 1) := by decide +kernel
theorem dL_law_28 : decode cL_law 28 = .ok (.iload_n 3, 1) := by decide +kernel
theorem dL_law_29 : decode cL_law 29 = .ok (.iaload, 1) := by decide +kernel
theorem dL_law_30 : decode cL_law 30 = .ok (.bipush 63, 2) := by decide +kernel
theorem dL_law_32 : decode cL_law 32 = .ok (.iand, 1) := by decide +kernel
theorem dL_law_33 : decode cL_law 33 = .ok (.tableswitch 1095 0 36 #[163, 216, 249, 282, 315, 358, 391, 454, 477, 490, 503, 516, 529, 542, 555, 578, 601, 634, 657, 680, 693, 706, 719, 752, 775, 798, 821, 845, 888, 901, 924, 947, 980, 1013, 1036, 1059, 1082], 163) := by decide +kernel
theorem dL_law_196 : decode cL_law 196 = .ok (.aload_n 1, 1) := by decide +kernel
theorem dL_law_197 : decode cL_law 197 = .ok (.aload_n 0, 1) := by decide +kernel
theorem dL_law_198 : decode cL_law 198 = .ok (.iload_n 3, 1) := by decide +kernel
theorem dL_law_199 : decode cL_law 199 = .ok (.iconst 1, 1) := by decide +kernel
theorem dL_law_200 : decode cL_law 200 = .ok (.iadd, 1) := by decide +kernel
theorem dL_law_201 : decode cL_law 201 = .ok (.iaload, 1) := by decide +kernel
theorem dL_law_202 : decode cL_law 202 = .ok (.aload_n 0, 1) := by decide +kernel
theorem dL_law_203 : decode cL_law 203 = .ok (.iload_n 3, 1) := by decide +kernel
theorem dL_law_204 : decode cL_law 204 = .ok (.iconst 2, 1) := by decide +kernel
theorem dL_law_205 : decode cL_law 205 = .ok (.iadd, 1) := by decide +kernel
theorem dL_law_206 : decode cL_law 206 = .ok (.iaload, 1) := by decide +kernel
theorem dL_law_207 : decode cL_law 207 = .ok (.aload_n 0, 1) := by decide +kernel
theorem dL_law_208 : decode cL_law 208 = .ok (.iload_n 3, 1) := by decide +kernel
theorem dL_law_209 : decode cL_law 209 = .ok (.iconst 3, 1) := by decide +kernel
theorem dL_law_210 : decode cL_law 210 = .ok (.iadd, 1) := by decide +kernel
theorem dL_law_211 : decode cL_law 211 = .ok (.iaload, 1) := by decide +kernel
theorem dL_law_212 : decode cL_law 212 = .ok (.aload_n 0, 1) := by decide +kernel
theorem dL_law_213 : decode cL_law 213 = .ok (.iload_n 3, 1) := by decide +kernel
theorem dL_law_214 : decode cL_law 214 = .ok (.iconst 4, 1) := by decide +kernel
theorem dL_law_215 : decode cL_law 215 = .ok (.iadd, 1) := by decide +kernel
theorem dL_law_216 : decode cL_law 216 = .ok (.iaload, 1) := by decide +kernel
theorem dL_law_217 : decode cL_law 217 = .ok (.invokevirtual 13, 3) := by decide +kernel
theorem dL_law_220 : decode cL_law 220 = .ok (.aload_n 2, 1) := by decide +kernel
theorem dL_law_221 : decode cL_law 221 = .ok (.aload_n 0, 1) := by decide +kernel
theorem dL_law_222 : decode cL_law 222 = .ok (.iload_n 3, 1) := by decide +kernel
theorem dL_law_223 : decode cL_law 223 = .ok (.iconst 1, 1) := by decide +kernel
theorem dL_law_224 : decode cL_law 224 = .ok (.iadd, 1) := by decide +kernel
theorem dL_law_225 : decode cL_law 225 = .ok (.iaload, 1) := by decide +kernel
theorem dL_law_226 : decode cL_law 226 = .ok (.aload_n 0, 1) := by decide +kernel
theorem dL_law_227 : decode cL_law 227 = .ok (.iload_n 3, 1) := by decide +kernel
theorem dL_law_228 : decode cL_law 228 = .ok (.iconst 2, 1) := by decide +kernel
theorem dL_law_229 : decode cL_law 229 = .ok (.iadd, 1) := by decide +kernel
theorem dL_law_230 : decode cL_law 230 = .ok (.iaload, 1) := by decide +kernel
theorem dL_law_231 : decode cL_law 231 = .ok (.aload_n 0, 1) := by decide +kernel
theorem dL_law_232 : decode cL_law 232 = .ok (.iload_n 3, 1) := by decide +kernel
theorem dL_law_233 : decode cL_law 233 = .ok (.iconst 3, 1) := by decide +kernel
theorem dL_law_234 : decode cL_law 234 = .ok (.iadd, 1) := by decide +kernel
theorem dL_law_235 : decode cL_law 235 = .ok (.iaload, 1) := by decide +kernel
theorem dL_law_236 : decode cL_law 236 = .ok (.aload_n 0, 1) := by decide +kernel
theorem dL_law_237 : decode cL_law 237 = .ok (.iload_n 3, 1) := by decide +kernel
theorem dL_law_238 : decode cL_law 238 = .ok (.iconst 4, 1) := by decide +kernel
theorem dL_law_239 : decode cL_law 239 = .ok (.iadd, 1) := by decide +kernel
theorem dL_law_240 : decode cL_law 240 = .ok (.iaload, 1) := by decide +kernel
theorem dL_law_241 : decode cL_law 241 = .ok (.invokevirtual 17, 3) := by decide +kernel
theorem dL_law_244 : decode cL_law 244 = .ok (.if_icmp .eq 884, 3) := by decide +kernel
theorem dL_law_247 : decode cL_law 247 = .ok (.iconst 0, 1) := by decide +kernel
theorem dL_law_248 : decode cL_law 248 = .ok (.ireturn, 1) := by decide +kernel
theorem dL_law_249 : decode cL_law 249 = .ok (.aload_n 1, 1) := by decide +kernel
theorem dL_law_250 : decode cL_law 250 = .ok (.aload_n 0, 1) := by decide +kernel
theorem dL_law_251 : decode cL_law 251 = .ok (.iload_n 3, 1) := by decide +kernel
theorem dL_law_252 : decode cL_law 252 = .ok (.iconst 1, 1) := by decide +kernel
theorem dL_law_253 : decode cL_law 253 = .ok (.iadd, 1) := by decide +kernel
theorem dL_law_254 : decode cL_law 254 = .ok (.iaload, 1) := by decide +kernel
theorem dL_law_255 : decode cL_law 255 = .ok (.aload_n 0, 1) := by decide +kernel
theorem dL_law_256 : decode cL_law 256 = .ok (.iload_n 3, 1) := by decide +kernel
theorem dL_law_257 : decode cL_law 257 = .ok (.iconst 2, 1) := by decide +kernel
theorem dL_law_258 : decode cL_law 258 = .ok (.iadd, 1) := by decide +kernel
theorem dL_law_259 : decode cL_law 259 = .ok (.iaload, 1) := by decide +kernel
theorem dL_law_260 : decode cL_law 260 = .ok (.invokevirtual 18, 3) := by decide +kernel
theorem dL_law_263 : decode cL_law 263 = .ok (.aload_n 2, 1) := by decide +kernel
theorem dL_law_264 : decode cL_law 264 = .ok (.aload_n 0, 1) := by decide +kernel
theorem dL_law_265 : decode cL_law 265 = .ok (.iload_n 3, 1) := by decide +kernel
theorem dL_law_266 : decode cL_law 266 = .ok (.iconst 1, 1) := by decide +kernel
theorem dL_law_267 : decode cL_law 267 = .ok (.iadd, 1) := by decide +kernel
theorem dL_law_268 : decode cL_law 268 = .ok (.iaload, 1) := by decide +kernel
theorem dL_law_269 : decode cL_law 269 = .ok (.aload_n 0, 1) := by decide +kernel
theorem dL_law_270 : decode cL_law 270 = .ok (.iload_n 3, 1) := by decide +kernel
theorem dL_law_271 : decode cL_law 271 = .ok (.iconst 2, 1) := by decide +kernel
theorem dL_law_272 : decode cL_law 272 = .ok (.iadd, 1) := by decide +kernel
theorem dL_law_273 : decode cL_law 273 = .ok (.iaload, 1) := by decide +kernel
theorem dL_law_274 : decode cL_law 274 = .ok (.invokevirtual 22, 3) := by decide +kernel
theorem dL_law_277 : decode cL_law 277 = .ok (.if_icmp .eq 851, 3) := by decide +kernel
theorem dL_law_280 : decode cL_law 280 = .ok (.iconst 0, 1) := by decide +kernel
theorem dL_law_281 : decode cL_law 281 = .ok (.ireturn, 1) := by decide +kernel
theorem dL_law_282 : decode cL_law 282 = .ok (.aload_n 1, 1) := by decide +kernel
theorem dL_law_283 : decode cL_law 283 = .ok (.aload_n 0, 1) := by decide +kernel
theorem dL_law_284 : decode cL_law 284 = .ok (.iload_n 3, 1) := by decide +kernel
theorem dL_law_285 : decode cL_law 285 = .ok (.iconst 1, 1) := by decide +kernel
theorem dL_law_286 : decode cL_law 286 = .ok (.iadd, 1) := by decide +kernel
theorem dL_law_287 : decode cL_law 287 = .ok (.iaload, 1) := by decide +kernel
theorem dL_law_288 : decode cL_law 288 = .ok (.aload_n 0, 1) := by decide +kernel
theorem dL_law_289 : decode cL_law 289 = .ok (.iload_n 3, 1) := by decide +kernel
theorem dL_law_290 : decode cL_law 290 = .ok (.iconst 2, 1) := by decide +kernel
theorem dL_law_291 : decode cL_law 291 = .ok (.iadd, 1) := by decide +kernel
theorem dL_law_292 : decode cL_law 292 = .ok (.iaload, 1) := by decide +kernel
theorem dL_law_293 : decode cL_law 293 = .ok (.invokevirtual 23, 3) := by decide +kernel
theorem dL_law_296 : decode cL_law 296 = .ok (.aload_n 2, 1) := by decide +kernel
theorem dL_law_297 : decode cL_law 297 = .ok (.aload_n 0, 1) := by decide +kernel
theorem dL_law_298 : decode cL_law 298 = .ok (.iload_n 3, 1) := by decide +kernel
theorem dL_law_299 : decode cL_law 299 = .ok (.iconst 1, 1) := by decide +kernel
theorem dL_law_300 : decode cL_law 300 = .ok (.iadd, 1) := by decide +kernel
theorem dL_law_301 : decode cL_law 301 = .ok (.iaload, 1) := by decide +kernel
theorem dL_law_302 : decode cL_law 302 = .ok (.aload_n 0, 1) := by decide +kernel
theorem dL_law_303 : decode cL_law 303 = .ok (.iload_n 3, 1) := by decide +kernel
theorem dL_law_304 : decode cL_law 304 = .ok (.iconst 2, 1) := by decide +kernel
theorem dL_law_305 : decode cL_law 305 = .ok (.iadd, 1) := by decide +kernel
theorem dL_law_306 : decode cL_law 306 = .ok (.iaload, 1) := by decide +kernel
theorem dL_law_307 : decode cL_law 307 = .ok (.invokevirtual 26, 3) := by decide +kernel
theorem dL_law_310 : decode cL_law 310 = .ok (.if_icmp .eq 818, 3) := by decide +kernel
theorem dL_law_313 : decode cL_law 313 = .ok (.iconst 0, 1) := by decide +kernel
theorem dL_law_314 : decode cL_law 314 = .ok (.ireturn, 1) := by decide +kernel
theorem dL_law_315 : decode cL_law 315 = .ok (.aload_n 1, 1) := by decide +kernel
theorem dL_law_316 : decode cL_law 316 = .ok (.aload_n 0, 1) := by decide +kernel
theorem dL_law_317 : decode cL_law 317 = .ok (.iload_n 3, 1) := by decide +kernel
theorem dL_law_318 : decode cL_law 318 = .ok (.iconst 1, 1) := by decide +kernel
theorem dL_law_319 : decode cL_law 319 = .ok (.iadd, 1) := by decide +kernel
theorem dL_law_320 : decode cL_law 320 = .ok (.iaload, 1) := by decide +kernel
theorem dL_law_321 : decode cL_law 321 = .ok (.aload_n 0, 1) := by decide +kernel
theorem dL_law_322 : decode cL_law 322 = .ok (.iload_n 3, 1) := by decide +kernel
theorem dL_law_323 : decode cL_law 323 = .ok (.iconst 2, 1) := by decide +kernel
theorem dL_law_324 : decode cL_law 324 = .ok (.iadd, 1) := by decide +kernel
theorem dL_law_325 : decode cL_law 325 = .ok (.iaload, 1) := by decide +kernel
theorem dL_law_326 : decode cL_law 326 = .ok (.invokevirtual 27, 3) := by decide +kernel
theorem dL_law_329 : decode cL_law 329 = .ok (.aload_n 2, 1) := by decide +kernel
theorem dL_law_330 : decode cL_law 330 = .ok (.aload_n 0, 1) := by decide +kernel
theorem dL_law_331 : decode cL_law 331 = .ok (.iload_n 3, 1) := by decide +kernel
theorem dL_law_332 : decode cL_law 332 = .ok (.iconst 1, 1) := by decide +kernel
theorem dL_law_333 : decode cL_law 333 = .ok (.iadd, 1) := by decide +kernel
theorem dL_law_334 : decode cL_law 334 = .ok (.iaload, 1) := by decide +kernel
theorem dL_law_335 : decode cL_law 335 = .ok (.aload_n 0, 1) := by decide +kernel
theorem dL_law_336 : decode cL_law 336 = .ok (.iload_n 3, 1) := by decide +kernel
theorem dL_law_337 : decode cL_law 337 = .ok (.iconst 2, 1) := by decide +kernel
theorem dL_law_338 : decode cL_law 338 = .ok (.iadd, 1) := by decide +kernel
theorem dL_law_339 : decode cL_law 339 = .ok (.iaload, 1) := by decide +kernel
theorem dL_law_340 : decode cL_law 340 = .ok (.invokevirtual 30, 3) := by decide +kernel
theorem dL_law_343 : decode cL_law 343 = .ok (.if_icmp .eq 785, 3) := by decide +kernel
theorem dL_law_346 : decode cL_law 346 = .ok (.iconst 0, 1) := by decide +kernel
theorem dL_law_347 : decode cL_law 347 = .ok (.ireturn, 1) := by decide +kernel
theorem dL_law_348 : decode cL_law 348 = .ok (.aload_n 1, 1) := by decide +kernel
theorem dL_law_349 : decode cL_law 349 = .ok (.aload_n 0, 1) := by decide +kernel
theorem dL_law_350 : decode cL_law 350 = .ok (.iload_n 3, 1) := by decide +kernel
theorem dL_law_351 : decode cL_law 351 = .ok (.iconst 1, 1) := by decide +kernel
theorem dL_law_352 : decode cL_law 352 = .ok (.iadd, 1) := by decide +kernel
theorem dL_law_353 : decode cL_law 353 = .ok (.iaload, 1) := by decide +kernel
theorem dL_law_354 : decode cL_law 354 = .ok (.aload_n 0, 1) := by decide +kernel
theorem dL_law_355 : decode cL_law 355 = .ok (.iload_n 3, 1) := by decide +kernel
theorem dL_law_356 : decode cL_law 356 = .ok (.iconst 2, 1) := by decide +kernel
theorem dL_law_357 : decode cL_law 357 = .ok (.iadd, 1) := by decide +kernel
theorem dL_law_358 : decode cL_law 358 = .ok (.iaload, 1) := by decide +kernel
theorem dL_law_359 : decode cL_law 359 = .ok (.aload_n 0, 1) := by decide +kernel
theorem dL_law_360 : decode cL_law 360 = .ok (.iload_n 3, 1) := by decide +kernel
theorem dL_law_361 : decode cL_law 361 = .ok (.iconst 3, 1) := by decide +kernel
theorem dL_law_362 : decode cL_law 362 = .ok (.iadd, 1) := by decide +kernel
theorem dL_law_363 : decode cL_law 363 = .ok (.iaload, 1) := by decide +kernel
theorem dL_law_364 : decode cL_law 364 = .ok (.invokevirtual 31, 3) := by decide +kernel
theorem dL_law_367 : decode cL_law 367 = .ok (.aload_n 2, 1) := by decide +kernel
theorem dL_law_368 : decode cL_law 368 = .ok (.aload_n 0, 1) := by decide +kernel
theorem dL_law_369 : decode cL_law 369 = .ok (.iload_n 3, 1) := by decide +kernel
theorem dL_law_370 : decode cL_law 370 = .ok (.iconst 1, 1) := by decide +kernel
theorem dL_law_371 : decode cL_law 371 = .ok (.iadd, 1) := by decide +kernel
theorem dL_law_372 : decode cL_law 372 = .ok (.iaload, 1) := by decide +kernel
theorem dL_law_373 : decode cL_law 373 = .ok (.aload_n 0, 1) := by decide +kernel
theorem dL_law_374 : decode cL_law 374 = .ok (.iload_n 3, 1) := by decide +kernel
theorem dL_law_375 : decode cL_law 375 = .ok (.iconst 2, 1) := by decide +kernel
theorem dL_law_376 : decode cL_law 376 = .ok (.iadd, 1) := by decide +kernel
theorem dL_law_377 : decode cL_law 377 = .ok (.iaload, 1) := by decide +kernel
theorem dL_law_378 : decode cL_law 378 = .ok (.aload_n 0, 1) := by decide +kernel
theorem dL_law_379 : decode cL_law 379 = .ok (.iload_n 3, 1) := by decide +kernel
theorem dL_law_380 : decode cL_law 380 = .ok (.iconst 3, 1) := by decide +kernel
theorem dL_law_381 : decode cL_law 381 = .ok (.iadd, 1) := by decide +kernel
theorem dL_law_382 : decode cL_law 382 = .ok (.iaload, 1) := by decide +kernel
theorem dL_law_383 : decode cL_law 383 = .ok (.invokevirtual 35, 3) := by decide +kernel
theorem dL_law_386 : decode cL_law 386 = .ok (.if_icmp .eq 742, 3) := by decide +kernel
theorem dL_law_389 : decode cL_law 389 = .ok (.iconst 0, 1) := by decide +kernel
theorem dL_law_390 : decode cL_law 390 = .ok (.ireturn, 1) := by decide +kernel
theorem dL_law_391 : decode cL_law 391 = .ok (.aload_n 1, 1) := by decide +kernel
theorem dL_law_392 : decode cL_law 392 = .ok (.aload_n 0, 1) := by decide +kernel
theorem dL_law_393 : decode cL_law 393 = .ok (.iload_n 3, 1) := by decide +kernel
theorem dL_law_394 : decode cL_law 394 = .ok (.iconst 1, 1) := by decide +kernel
theorem dL_law_395 : decode cL_law 395 = .ok (.iadd, 1) := by decide +kernel
theorem dL_law_396 : decode cL_law 396 = .ok (.iaload, 1) := by decide +kernel
theorem dL_law_397 : decode cL_law 397 = .ok (.aload_n 0, 1) := by decide +kernel
theorem dL_law_398 : decode cL_law 398 = .ok (.iload_n 3, 1) := by decide +kernel
theorem dL_law_399 : decode cL_law 399 = .ok (.iconst 2, 1) := by decide +kernel
theorem dL_law_400 : decode cL_law 400 = .ok (.iadd, 1) := by decide +kernel
theorem dL_law_401 : decode cL_law 401 = .ok (.iaload, 1) := by decide +kernel
theorem dL_law_402 : decode cL_law 402 = .ok (.invokevirtual 36, 3) := by decide +kernel
theorem dL_law_405 : decode cL_law 405 = .ok (.aload_n 2, 1) := by decide +kernel
theorem dL_law_406 : decode cL_law 406 = .ok (.aload_n 0, 1) := by decide +kernel
theorem dL_law_407 : decode cL_law 407 = .ok (.iload_n 3, 1) := by decide +kernel
theorem dL_law_408 : decode cL_law 408 = .ok (.iconst 1, 1) := by decide +kernel
theorem dL_law_409 : decode cL_law 409 = .ok (.iadd, 1) := by decide +kernel
theorem dL_law_410 : decode cL_law 410 = .ok (.iaload, 1) := by decide +kernel
theorem dL_law_411 : decode cL_law 411 = .ok (.aload_n 0, 1) := by decide +kernel
theorem dL_law_412 : decode cL_law 412 = .ok (.iload_n 3, 1) := by decide +kernel
theorem dL_law_413 : decode cL_law 413 = .ok (.iconst 2, 1) := by decide +kernel
theorem dL_law_414 : decode cL_law 414 = .ok (.iadd, 1) := by decide +kernel
theorem dL_law_415 : decode cL_law 415 = .ok (.iaload, 1) := by decide +kernel
theorem dL_law_416 : decode cL_law 416 = .ok (.invokevirtual 39, 3) := by decide +kernel
theorem dL_law_419 : decode cL_law 419 = .ok (.if_icmp .eq 709, 3) := by decide +kernel
theorem dL_law_422 : decode cL_law 422 = .ok (.iconst 0, 1) := by decide +kernel
theorem dL_law_423 : decode cL_law 423 = .ok (.ireturn, 1) := by decide +kernel
theorem dL_law_424 : decode cL_law 424 = .ok (.aload_n 1, 1) := by decide +kernel
theorem dL_law_425 : decode cL_law 425 = .ok (.aload_n 0, 1) := by decide +kernel
theorem dL_law_426 : decode cL_law 426 = .ok (.iload_n 3, 1) := by decide +kernel
theorem dL_law_427 : decode cL_law 427 = .ok (.iconst 1, 1) := by decide +kernel
theorem dL_law_428 : decode cL_law 428 = .ok (.iadd, 1) := by decide +kernel
theorem dL_law_429 : decode cL_law 429 = .ok (.iaload, 1) := by decide +kernel
theorem dL_law_430 : decode cL_law 430 = .ok (.aload_n 0, 1) := by decide +kernel
theorem dL_law_431 : decode cL_law 431 = .ok (.iload_n 3, 1) := by decide +kernel
theorem dL_law_432 : decode cL_law 432 = .ok (.iconst 2, 1) := by decide +kernel
theorem dL_law_433 : decode cL_law 433 = .ok (.iadd, 1) := by decide +kernel
theorem dL_law_434 : decode cL_law 434 = .ok (.iaload, 1) := by decide +kernel
theorem dL_law_435 : decode cL_law 435 = .ok (.aload_n 0, 1) := by decide +kernel
theorem dL_law_436 : decode cL_law 436 = .ok (.iload_n 3, 1) := by decide +kernel
theorem dL_law_437 : decode cL_law 437 = .ok (.iconst 3, 1) := by decide +kernel
theorem dL_law_438 : decode cL_law 438 = .ok (.iadd, 1) := by decide +kernel
theorem dL_law_439 : decode cL_law 439 = .ok (.iaload, 1) := by decide +kernel
theorem dL_law_440 : decode cL_law 440 = .ok (.aload_n 0, 1) := by decide +kernel
theorem dL_law_441 : decode cL_law 441 = .ok (.iload_n 3, 1) := by decide +kernel
theorem dL_law_442 : decode cL_law 442 = .ok (.iconst 4, 1) := by decide +kernel
theorem dL_law_443 : decode cL_law 443 = .ok (.iadd, 1) := by decide +kernel
theorem dL_law_444 : decode cL_law 444 = .ok (.iaload, 1) := by decide +kernel
theorem dL_law_445 : decode cL_law 445 = .ok (.aload_n 0, 1) := by decide +kernel
theorem dL_law_446 : decode cL_law 446 = .ok (.iload_n 3, 1) := by decide +kernel
theorem dL_law_447 : decode cL_law 447 = .ok (.iconst 5, 1) := by decide +kernel
theorem dL_law_448 : decode cL_law 448 = .ok (.iadd, 1) := by decide +kernel
theorem dL_law_449 : decode cL_law 449 = .ok (.iaload, 1) := by decide +kernel
theorem dL_law_450 : decode cL_law 450 = .ok (.invokevirtual 40, 3) := by decide +kernel
theorem dL_law_453 : decode cL_law 453 = .ok (.aload_n 2, 1) := by decide +kernel
theorem dL_law_454 : decode cL_law 454 = .ok (.aload_n 0, 1) := by decide +kernel
theorem dL_law_455 : decode cL_law 455 = .ok (.iload_n 3, 1) := by decide +kernel
theorem dL_law_456 : decode cL_law 456 = .ok (.iconst 1, 1) := by decide +kernel
theorem dL_law_457 : decode cL_law 457 = .ok (.iadd, 1) := by decide +kernel
theorem dL_law_458 : decode cL_law 458 = .ok (.iaload, 1) := by decide +kernel
theorem dL_law_459 : decode cL_law 459 = .ok (.aload_n 0, 1) := by decide +kernel
theorem dL_law_460 : decode cL_law 460 = .ok (.iload_n 3, 1) := by decide +kernel
theorem dL_law_461 : decode cL_law 461 = .ok (.iconst 2, 1) := by decide +kernel
theorem dL_law_462 : decode cL_law 462 = .ok (.iadd, 1) := by decide +kernel
theorem dL_law_463 : decode cL_law 463 = .ok (.iaload, 1) := by decide +kernel
theorem dL_law_464 : decode cL_law 464 = .ok (.aload_n 0, 1) := by decide +kernel
theorem dL_law_465 : decode cL_law 465 = .ok (.iload_n 3, 1) := by decide +kernel
theorem dL_law_466 : decode cL_law 466 = .ok (.iconst 3, 1) := by decide +kernel
theorem dL_law_467 : decode cL_law 467 = .ok (.iadd, 1) := by decide +kernel
theorem dL_law_468 : decode cL_law 468 = .ok (.iaload, 1) := by decide +kernel
theorem dL_law_469 : decode cL_law 469 = .ok (.aload_n 0, 1) := by decide +kernel
theorem dL_law_470 : decode cL_law 470 = .ok (.iload_n 3, 1) := by decide +kernel
theorem dL_law_471 : decode cL_law 471 = .ok (.iconst 4, 1) := by decide +kernel
theorem dL_law_472 : decode cL_law 472 = .ok (.iadd, 1) := by decide +kernel
theorem dL_law_473 : decode cL_law 473 = .ok (.iaload, 1) := by decide +kernel
theorem dL_law_474 : decode cL_law 474 = .ok (.aload_n 0, 1) := by decide +kernel
theorem dL_law_475 : decode cL_law 475 = .ok (.iload_n 3, 1) := by decide +kernel
theorem dL_law_476 : decode cL_law 476 = .ok (.iconst 5, 1) := by decide +kernel
theorem dL_law_477 : decode cL_law 477 = .ok (.iadd, 1) := by decide +kernel
theorem dL_law_478 : decode cL_law 478 = .ok (.iaload, 1) := by decide +kernel
theorem dL_law_479 : decode cL_law 479 = .ok (.invokevirtual 44, 3) := by decide +kernel
theorem dL_law_482 : decode cL_law 482 = .ok (.if_icmp .eq 646, 3) := by decide +kernel
theorem dL_law_485 : decode cL_law 485 = .ok (.iconst 0, 1) := by decide +kernel
theorem dL_law_486 : decode cL_law 486 = .ok (.ireturn, 1) := by decide +kernel
theorem dL_law_487 : decode cL_law 487 = .ok (.aload_n 1, 1) := by decide +kernel
theorem dL_law_488 : decode cL_law 488 = .ok (.aload_n 0, 1) := by decide +kernel
theorem dL_law_489 : decode cL_law 489 = .ok (.iload_n 3, 1) := by decide +kernel
theorem dL_law_490 : decode cL_law 490 = .ok (.iconst 1, 1) := by decide +kernel
theorem dL_law_491 : decode cL_law 491 = .ok (.iadd, 1) := by decide +kernel
theorem dL_law_492 : decode cL_law 492 = .ok (.iaload, 1) := by decide +kernel
theorem dL_law_493 : decode cL_law 493 = .ok (.invokevirtual 45, 3) := by decide +kernel
theorem dL_law_496 : decode cL_law 496 = .ok (.aload_n 2, 1) := by decide +kernel
theorem dL_law_497 : decode cL_law 497 = .ok (.aload_n 0, 1) := by decide +kernel
theorem dL_law_498 : decode cL_law 498 = .ok (.iload_n 3, 1) := by decide +kernel
theorem dL_law_499 : decode cL_law 499 = .ok (.iconst 1, 1) := by decide +kernel
theorem dL_law_500 : decode cL_law 500 = .ok (.iadd, 1) := by decide +kernel
theorem dL_law_501 : decode cL_law 501 = .ok (.iaload, 1) := by decide +kernel
theorem dL_law_502 : decode cL_law 502 = .ok (.invokevirtual 49, 3) := by decide +kernel
theorem dL_law_505 : decode cL_law 505 = .ok (.if_icmp .eq 623, 3) := by decide +kernel
theorem dL_law_508 : decode cL_law 508 = .ok (.iconst 0, 1) := by decide +kernel
theorem dL_law_509 : decode cL_law 509 = .ok (.ireturn, 1) := by decide +kernel
theorem dL_law_510 : decode cL_law 510 = .ok (.aload_n 1, 1) := by decide +kernel
theorem dL_law_511 : decode cL_law 511 = .ok (.invokevirtual 50, 3) := by decide +kernel
theorem dL_law_514 : decode cL_law 514 = .ok (.aload_n 2, 1) := by decide +kernel
theorem dL_law_515 : decode cL_law 515 = .ok (.invokevirtual 54, 3) := by decide +kernel
theorem dL_law_518 : decode cL_law 518 = .ok (.if_icmp .eq 610, 3) := by decide +kernel
theorem dL_law_521 : decode cL_law 521 = .ok (.iconst 0, 1) := by decide +kernel
theorem dL_law_522 : decode cL_law 522 = .ok (.ireturn, 1) := by decide +kernel
theorem dL_law_523 : decode cL_law 523 = .ok (.aload_n 1, 1) := by decide +kernel
theorem dL_law_524 : decode cL_law 524 = .ok (.invokevirtual 55, 3) := by decide +kernel
theorem dL_law_527 : decode cL_law 527 = .ok (.aload_n 2, 1) := by decide +kernel
theorem dL_law_528 : decode cL_law 528 = .ok (.invokevirtual 58, 3) := by decide +kernel
theorem dL_law_531 : decode cL_law 531 = .ok (.if_icmp .eq 597, 3) := by decide +kernel
theorem dL_law_534 : decode cL_law 534 = .ok (.iconst 0, 1) := by decide +kernel
theorem dL_law_535 : decode cL_law 535 = .ok (.ireturn, 1) := by decide +kernel
theorem dL_law_536 : decode cL_law 536 = .ok (.aload_n 1, 1) := by decide +kernel
theorem dL_law_537 : decode cL_law 537 = .ok (.invokevirtual 59, 3) := by decide +kernel
theorem dL_law_540 : decode cL_law 540 = .ok (.aload_n 2, 1) := by decide +kernel
theorem dL_law_541 : decode cL_law 541 = .ok (.invokevirtual 62, 3) := by decide +kernel
theorem dL_law_544 : decode cL_law 544 = .ok (.if_icmp .eq 584, 3) := by decide +kernel
theorem dL_law_547 : decode cL_law 547 = .ok (.iconst 0, 1) := by decide +kernel
theorem dL_law_548 : decode cL_law 548 = .ok (.ireturn, 1) := by decide +kernel
theorem dL_law_549 : decode cL_law 549 = .ok (.aload_n 1, 1) := by decide +kernel
theorem dL_law_550 : decode cL_law 550 = .ok (.invokevirtual 63, 3) := by decide +kernel
theorem dL_law_553 : decode cL_law 553 = .ok (.aload_n 2, 1) := by decide +kernel
theorem dL_law_554 : decode cL_law 554 = .ok (.invokevirtual 66, 3) := by decide +kernel
theorem dL_law_557 : decode cL_law 557 = .ok (.if_icmp .eq 571, 3) := by decide +kernel
theorem dL_law_560 : decode cL_law 560 = .ok (.iconst 0, 1) := by decide +kernel
theorem dL_law_561 : decode cL_law 561 = .ok (.ireturn, 1) := by decide +kernel
theorem dL_law_562 : decode cL_law 562 = .ok (.aload_n 1, 1) := by decide +kernel
theorem dL_law_563 : decode cL_law 563 = .ok (.invokevirtual 67, 3) := by decide +kernel
theorem dL_law_566 : decode cL_law 566 = .ok (.aload_n 2, 1) := by decide +kernel
theorem dL_law_567 : decode cL_law 567 = .ok (.invokevirtual 70, 3) := by decide +kernel
theorem dL_law_570 : decode cL_law 570 = .ok (.if_icmp .eq 558, 3) := by decide +kernel
theorem dL_law_573 : decode cL_law 573 = .ok (.iconst 0, 1) := by decide +kernel
theorem dL_law_574 : decode cL_law 574 = .ok (.ireturn, 1) := by decide +kernel
theorem dL_law_575 : decode cL_law 575 = .ok (.aload_n 1, 1) := by decide +kernel
theorem dL_law_576 : decode cL_law 576 = .ok (.invokevirtual 71, 3) := by decide +kernel
theorem dL_law_579 : decode cL_law 579 = .ok (.aload_n 2, 1) := by decide +kernel
theorem dL_law_580 : decode cL_law 580 = .ok (.invokevirtual 74, 3) := by decide +kernel
theorem dL_law_583 : decode cL_law 583 = .ok (.if_icmp .eq 545, 3) := by decide +kernel
theorem dL_law_586 : decode cL_law 586 = .ok (.iconst 0, 1) := by decide +kernel
theorem dL_law_587 : decode cL_law 587 = .ok (.ireturn, 1) := by decide +kernel
theorem dL_law_588 : decode cL_law 588 = .ok (.aload_n 1, 1) := by decide +kernel
theorem dL_law_589 : decode cL_law 589 = .ok (.aload_n 0, 1) := by decide +kernel
theorem dL_law_590 : decode cL_law 590 = .ok (.iload_n 3, 1) := by decide +kernel
theorem dL_law_591 : decode cL_law 591 = .ok (.iconst 1, 1) := by decide +kernel
theorem dL_law_592 : decode cL_law 592 = .ok (.iadd, 1) := by decide +kernel
theorem dL_law_593 : decode cL_law 593 = .ok (.iaload, 1) := by decide +kernel
theorem dL_law_594 : decode cL_law 594 = .ok (.invokevirtual 75, 3) := by decide +kernel
theorem dL_law_597 : decode cL_law 597 = .ok (.aload_n 2, 1) := by decide +kernel
theorem dL_law_598 : decode cL_law 598 = .ok (.aload_n 0, 1) := by decide +kernel
theorem dL_law_599 : decode cL_law 599 = .ok (.iload_n 3, 1) := by decide +kernel
theorem dL_law_600 : decode cL_law 600 = .ok (.iconst 1, 1) := by decide +kernel
theorem dL_law_601 : decode cL_law 601 = .ok (.iadd, 1) := by decide +kernel
theorem dL_law_602 : decode cL_law 602 = .ok (.iaload, 1) := by decide +kernel
theorem dL_law_603 : decode cL_law 603 = .ok (.invokevirtual 78, 3) := by decide +kernel
theorem dL_law_606 : decode cL_law 606 = .ok (.if_icmp .eq 522, 3) := by decide +kernel
theorem dL_law_609 : decode cL_law 609 = .ok (.iconst 0, 1) := by decide +kernel
theorem dL_law_610 : decode cL_law 610 = .ok (.ireturn, 1) := by decide +kernel
theorem dL_law_611 : decode cL_law 611 = .ok (.aload_n 1, 1) := by decide +kernel
theorem dL_law_612 : decode cL_law 612 = .ok (.aload_n 0, 1) := by decide +kernel
theorem dL_law_613 : decode cL_law 613 = .ok (.iload_n 3, 1) := by decide +kernel
theorem dL_law_614 : decode cL_law 614 = .ok (.iconst 1, 1) := by decide +kernel
theorem dL_law_615 : decode cL_law 615 = .ok (.iadd, 1) := by decide +kernel
theorem dL_law_616 : decode cL_law 616 = .ok (.iaload, 1) := by decide +kernel
theorem dL_law_617 : decode cL_law 617 = .ok (.invokevirtual 79, 3) := by decide +kernel
theorem dL_law_620 : decode cL_law 620 = .ok (.aload_n 2, 1) := by decide +kernel
theorem dL_law_621 : decode cL_law 621 = .ok (.aload_n 0, 1) := by decide +kernel
theorem dL_law_622 : decode cL_law 622 = .ok (.iload_n 3, 1) := by decide +kernel
theorem dL_law_623 : decode cL_law 623 = .ok (.iconst 1, 1) := by decide +kernel
theorem dL_law_624 : decode cL_law 624 = .ok (.iadd, 1) := by decide +kernel
theorem dL_law_625 : decode cL_law 625 = .ok (.iaload, 1) := by decide +kernel
theorem dL_law_626 : decode cL_law 626 = .ok (.invokevirtual 82, 3) := by decide +kernel
theorem dL_law_629 : decode cL_law 629 = .ok (.if_icmp .eq 499, 3) := by decide +kernel
theorem dL_law_632 : decode cL_law 632 = .ok (.iconst 0, 1) := by decide +kernel
theorem dL_law_633 : decode cL_law 633 = .ok (.ireturn, 1) := by decide +kernel
theorem dL_law_634 : decode cL_law 634 = .ok (.aload_n 1, 1) := by decide +kernel
theorem dL_law_635 : decode cL_law 635 = .ok (.aload_n 0, 1) := by decide +kernel
theorem dL_law_636 : decode cL_law 636 = .ok (.iload_n 3, 1) := by decide +kernel
theorem dL_law_637 : decode cL_law 637 = .ok (.iconst 1, 1) := by decide +kernel
theorem dL_law_638 : decode cL_law 638 = .ok (.iadd, 1) := by decide +kernel
theorem dL_law_639 : decode cL_law 639 = .ok (.iaload, 1) := by decide +kernel
theorem dL_law_640 : decode cL_law 640 = .ok (.aload_n 0, 1) := by decide +kernel
theorem dL_law_641 : decode cL_law 641 = .ok (.iload_n 3, 1) := by decide +kernel
theorem dL_law_642 : decode cL_law 642 = .ok (.iconst 2, 1) := by decide +kernel
theorem dL_law_643 : decode cL_law 643 = .ok (.iadd, 1) := by decide +kernel
theorem dL_law_644 : decode cL_law 644 = .ok (.iaload, 1) := by decide +kernel
theorem dL_law_645 : decode cL_law 645 = .ok (.invokevirtual 83, 3) := by decide +kernel
theorem dL_law_648 : decode cL_law 648 = .ok (.aload_n 2, 1) := by decide +kernel
theorem dL_law_649 : decode cL_law 649 = .ok (.aload_n 0, 1) := by decide +kernel
theorem dL_law_650 : decode cL_law 650 = .ok (.iload_n 3, 1) := by decide +kernel
theorem dL_law_651 : decode cL_law 651 = .ok (.iconst 1, 1) := by decide +kernel
theorem dL_law_652 : decode cL_law 652 = .ok (.iadd, 1) := by decide +kernel
theorem dL_law_653 : decode cL_law 653 = .ok (.iaload, 1) := by decide +kernel
theorem dL_law_654 : decode cL_law 654 = .ok (.aload_n 0, 1) := by decide +kernel
theorem dL_law_655 : decode cL_law 655 = .ok (.iload_n 3, 1) := by decide +kernel
theorem dL_law_656 : decode cL_law 656 = .ok (.iconst 2, 1) := by decide +kernel
theorem dL_law_657 : decode cL_law 657 = .ok (.iadd, 1) := by decide +kernel
theorem dL_law_658 : decode cL_law 658 = .ok (.iaload, 1) := by decide +kernel
theorem dL_law_659 : decode cL_law 659 = .ok (.invokevirtual 86, 3) := by decide +kernel
theorem dL_law_662 : decode cL_law 662 = .ok (.if_icmp .eq 466, 3) := by decide +kernel
theorem dL_law_665 : decode cL_law 665 = .ok (.iconst 0, 1) := by decide +kernel
theorem dL_law_666 : decode cL_law 666 = .ok (.ireturn, 1) := by decide +kernel
theorem dL_law_667 : decode cL_law 667 = .ok (.aload_n 1, 1) := by decide +kernel
theorem dL_law_668 : decode cL_law 668 = .ok (.aload_n 0, 1) := by decide +kernel
theorem dL_law_669 : decode cL_law 669 = .ok (.iload_n 3, 1) := by decide +kernel
theorem dL_law_670 : decode cL_law 670 = .ok (.iconst 1, 1) := by decide +kernel
theorem dL_law_671 : decode cL_law 671 = .ok (.iadd, 1) := by decide +kernel
theorem dL_law_672 : decode cL_law 672 = .ok (.iaload, 1) := by decide +kernel
theorem dL_law_673 : decode cL_law 673 = .ok (.invokevirtual 87, 3) := by decide +kernel
theorem dL_law_676 : decode cL_law 676 = .ok (.aload_n 2, 1) := by decide +kernel
theorem dL_law_677 : decode cL_law 677 = .ok (.aload_n 0, 1) := by decide +kernel
theorem dL_law_678 : decode cL_law 678 = .ok (.iload_n 3, 1) := by decide +kernel
theorem dL_law_679 : decode cL_law 679 = .ok (.iconst 1, 1) := by decide +kernel
theorem dL_law_680 : decode cL_law 680 = .ok (.iadd, 1) := by decide +kernel
theorem dL_law_681 : decode cL_law 681 = .ok (.iaload, 1) := by decide +kernel
theorem dL_law_682 : decode cL_law 682 = .ok (.invokevirtual 90, 3) := by decide +kernel
theorem dL_law_685 : decode cL_law 685 = .ok (.if_icmp .eq 443, 3) := by decide +kernel
theorem dL_law_688 : decode cL_law 688 = .ok (.iconst 0, 1) := by decide +kernel
theorem dL_law_689 : decode cL_law 689 = .ok (.ireturn, 1) := by decide +kernel
theorem dL_law_690 : decode cL_law 690 = .ok (.aload_n 1, 1) := by decide +kernel
theorem dL_law_691 : decode cL_law 691 = .ok (.aload_n 0, 1) := by decide +kernel
theorem dL_law_692 : decode cL_law 692 = .ok (.iload_n 3, 1) := by decide +kernel
theorem dL_law_693 : decode cL_law 693 = .ok (.iconst 1, 1) := by decide +kernel
theorem dL_law_694 : decode cL_law 694 = .ok (.iadd, 1) := by decide +kernel
theorem dL_law_695 : decode cL_law 695 = .ok (.iaload, 1) := by decide +kernel
theorem dL_law_696 : decode cL_law 696 = .ok (.invokevirtual 91, 3) := by decide +kernel
theorem dL_law_699 : decode cL_law 699 = .ok (.aload_n 2, 1) := by decide +kernel
theorem dL_law_700 : decode cL_law 700 = .ok (.aload_n 0, 1) := by decide +kernel
theorem dL_law_701 : decode cL_law 701 = .ok (.iload_n 3, 1) := by decide +kernel
theorem dL_law_702 : decode cL_law 702 = .ok (.iconst 1, 1) := by decide +kernel
theorem dL_law_703 : decode cL_law 703 = .ok (.iadd, 1) := by decide +kernel
theorem dL_law_704 : decode cL_law 704 = .ok (.iaload, 1) := by decide +kernel
theorem dL_law_705 : decode cL_law 705 = .ok (.invokevirtual 94, 3) := by decide +kernel
theorem dL_law_708 : decode cL_law 708 = .ok (.if_icmp .eq 420, 3) := by decide +kernel
theorem dL_law_711 : decode cL_law 711 = .ok (.iconst 0, 1) := by decide +kernel
theorem dL_law_712 : decode cL_law 712 = .ok (.ireturn, 1) := by decide +kernel
theorem dL_law_713 : decode cL_law 713 = .ok (.aload_n 1, 1) := by decide +kernel
theorem dL_law_714 : decode cL_law 714 = .ok (.invokevirtual 95, 3) := by decide +kernel
theorem dL_law_717 : decode cL_law 717 = .ok (.aload_n 2, 1) := by decide +kernel
theorem dL_law_718 : decode cL_law 718 = .ok (.invokevirtual 98, 3) := by decide +kernel
theorem dL_law_721 : decode cL_law 721 = .ok (.if_icmp .eq 407, 3) := by decide +kernel
theorem dL_law_724 : decode cL_law 724 = .ok (.iconst 0, 1) := by decide +kernel
theorem dL_law_725 : decode cL_law 725 = .ok (.ireturn, 1) := by decide +kernel
theorem dL_law_726 : decode cL_law 726 = .ok (.aload_n 1, 1) := by decide +kernel
theorem dL_law_727 : decode cL_law 727 = .ok (.invokevirtual 99, 3) := by decide +kernel
theorem dL_law_730 : decode cL_law 730 = .ok (.aload_n 2, 1) := by decide +kernel
theorem dL_law_731 : decode cL_law 731 = .ok (.invokevirtual 102, 3) := by decide +kernel
theorem dL_law_734 : decode cL_law 734 = .ok (.if_icmp .eq 394, 3) := by decide +kernel
theorem dL_law_737 : decode cL_law 737 = .ok (.iconst 0, 1) := by decide +kernel
theorem dL_law_738 : decode cL_law 738 = .ok (.ireturn, 1) := by decide +kernel
theorem dL_law_739 : decode cL_law 739 = .ok (.aload_n 1, 1) := by decide +kernel
theorem dL_law_740 : decode cL_law 740 = .ok (.invokevirtual 103, 3) := by decide +kernel
theorem dL_law_743 : decode cL_law 743 = .ok (.aload_n 2, 1) := by decide +kernel
theorem dL_law_744 : decode cL_law 744 = .ok (.invokevirtual 106, 3) := by decide +kernel
theorem dL_law_747 : decode cL_law 747 = .ok (.if_icmp .eq 381, 3) := by decide +kernel
theorem dL_law_750 : decode cL_law 750 = .ok (.iconst 0, 1) := by decide +kernel
theorem dL_law_751 : decode cL_law 751 = .ok (.ireturn, 1) := by decide +kernel
theorem dL_law_752 : decode cL_law 752 = .ok (.aload_n 1, 1) := by decide +kernel
theorem dL_law_753 : decode cL_law 753 = .ok (.aload_n 0, 1) := by decide +kernel
theorem dL_law_754 : decode cL_law 754 = .ok (.iload_n 3, 1) := by decide +kernel
theorem dL_law_755 : decode cL_law 755 = .ok (.iconst 1, 1) := by decide +kernel
theorem dL_law_756 : decode cL_law 756 = .ok (.iadd, 1) := by decide +kernel
theorem dL_law_757 : decode cL_law 757 = .ok (.iaload, 1) := by decide +kernel
theorem dL_law_758 : decode cL_law 758 = .ok (.aload_n 0, 1) := by decide +kernel
theorem dL_law_759 : decode cL_law 759 = .ok (.iload_n 3, 1) := by decide +kernel
theorem dL_law_760 : decode cL_law 760 = .ok (.iconst 2, 1) := by decide +kernel
theorem dL_law_761 : decode cL_law 761 = .ok (.iadd, 1) := by decide +kernel
theorem dL_law_762 : decode cL_law 762 = .ok (.iaload, 1) := by decide +kernel
theorem dL_law_763 : decode cL_law 763 = .ok (.invokevirtual 107, 3) := by decide +kernel
theorem dL_law_766 : decode cL_law 766 = .ok (.aload_n 2, 1) := by decide +kernel
theorem dL_law_767 : decode cL_law 767 = .ok (.aload_n 0, 1) := by decide +kernel
theorem dL_law_768 : decode cL_law 768 = .ok (.iload_n 3, 1) := by decide +kernel
theorem dL_law_769 : decode cL_law 769 = .ok (.iconst 1, 1) := by decide +kernel
theorem dL_law_770 : decode cL_law 770 = .ok (.iadd, 1) := by decide +kernel
theorem dL_law_771 : decode cL_law 771 = .ok (.iaload, 1) := by decide +kernel
theorem dL_law_772 : decode cL_law 772 = .ok (.aload_n 0, 1) := by decide +kernel
theorem dL_law_773 : decode cL_law 773 = .ok (.iload_n 3, 1) := by decide +kernel
theorem dL_law_774 : decode cL_law 774 = .ok (.iconst 2, 1) := by decide +kernel
theorem dL_law_775 : decode cL_law 775 = .ok (.iadd, 1) := by decide +kernel
theorem dL_law_776 : decode cL_law 776 = .ok (.iaload, 1) := by decide +kernel
theorem dL_law_777 : decode cL_law 777 = .ok (.invokevirtual 110, 3) := by decide +kernel
theorem dL_law_780 : decode cL_law 780 = .ok (.if_icmp .eq 348, 3) := by decide +kernel
theorem dL_law_783 : decode cL_law 783 = .ok (.iconst 0, 1) := by decide +kernel
theorem dL_law_784 : decode cL_law 784 = .ok (.ireturn, 1) := by decide +kernel
theorem dL_law_785 : decode cL_law 785 = .ok (.aload_n 1, 1) := by decide +kernel
theorem dL_law_786 : decode cL_law 786 = .ok (.aload_n 0, 1) := by decide +kernel
theorem dL_law_787 : decode cL_law 787 = .ok (.iload_n 3, 1) := by decide +kernel
theorem dL_law_788 : decode cL_law 788 = .ok (.iconst 1, 1) := by decide +kernel
theorem dL_law_789 : decode cL_law 789 = .ok (.iadd, 1) := by decide +kernel
theorem dL_law_790 : decode cL_law 790 = .ok (.iaload, 1) := by decide +kernel
theorem dL_law_791 : decode cL_law 791 = .ok (.invokevirtual 111, 3) := by decide +kernel
theorem dL_law_794 : decode cL_law 794 = .ok (.aload_n 2, 1) := by decide +kernel
theorem dL_law_795 : decode cL_law 795 = .ok (.aload_n 0, 1) := by decide +kernel
theorem dL_law_796 : decode cL_law 796 = .ok (.iload_n 3, 1) := by decide +kernel
theorem dL_law_797 : decode cL_law 797 = .ok (.iconst 1, 1) := by decide +kernel
theorem dL_law_798 : decode cL_law 798 = .ok (.iadd, 1) := by decide +kernel
theorem dL_law_799 : decode cL_law 799 = .ok (.iaload, 1) := by decide +kernel
theorem dL_law_800 : decode cL_law 800 = .ok (.invokevirtual 114, 3) := by decide +kernel
theorem dL_law_803 : decode cL_law 803 = .ok (.if_icmp .eq 325, 3) := by decide +kernel
theorem dL_law_806 : decode cL_law 806 = .ok (.iconst 0, 1) := by decide +kernel
theorem dL_law_807 : decode cL_law 807 = .ok (.ireturn, 1) := by decide +kernel
theorem dL_law_808 : decode cL_law 808 = .ok (.aload_n 1, 1) := by decide +kernel
theorem dL_law_809 : decode cL_law 809 = .ok (.aload_n 0, 1) := by decide +kernel
theorem dL_law_810 : decode cL_law 810 = .ok (.iload_n 3, 1) := by decide +kernel
theorem dL_law_811 : decode cL_law 811 = .ok (.iconst 1, 1) := by decide +kernel
theorem dL_law_812 : decode cL_law 812 = .ok (.iadd, 1) := by decide +kernel
theorem dL_law_813 : decode cL_law 813 = .ok (.iaload, 1) := by decide +kernel
theorem dL_law_814 : decode cL_law 814 = .ok (.invokevirtual 115, 3) := by decide +kernel
theorem dL_law_817 : decode cL_law 817 = .ok (.aload_n 2, 1) := by decide +kernel
theorem dL_law_818 : decode cL_law 818 = .ok (.aload_n 0, 1) := by decide +kernel
theorem dL_law_819 : decode cL_law 819 = .ok (.iload_n 3, 1) := by decide +kernel
theorem dL_law_820 : decode cL_law 820 = .ok (.iconst 1, 1) := by decide +kernel
theorem dL_law_821 : decode cL_law 821 = .ok (.iadd, 1) := by decide +kernel
theorem dL_law_822 : decode cL_law 822 = .ok (.iaload, 1) := by decide +kernel
theorem dL_law_823 : decode cL_law 823 = .ok (.invokevirtual 118, 3) := by decide +kernel
theorem dL_law_826 : decode cL_law 826 = .ok (.if_icmp .eq 302, 3) := by decide +kernel
theorem dL_law_829 : decode cL_law 829 = .ok (.iconst 0, 1) := by decide +kernel
theorem dL_law_830 : decode cL_law 830 = .ok (.ireturn, 1) := by decide +kernel
theorem dL_law_831 : decode cL_law 831 = .ok (.aload_n 1, 1) := by decide +kernel
theorem dL_law_832 : decode cL_law 832 = .ok (.aload_n 0, 1) := by decide +kernel
theorem dL_law_833 : decode cL_law 833 = .ok (.iload_n 3, 1) := by decide +kernel
theorem dL_law_834 : decode cL_law 834 = .ok (.iconst 1, 1) := by decide +kernel
theorem dL_law_835 : decode cL_law 835 = .ok (.iadd, 1) := by decide +kernel
theorem dL_law_836 : decode cL_law 836 = .ok (.iaload, 1) := by decide +kernel
theorem dL_law_837 : decode cL_law 837 = .ok (.invokevirtual 119, 3) := by decide +kernel
theorem dL_law_840 : decode cL_law 840 = .ok (.aload_n 2, 1) := by decide +kernel
theorem dL_law_841 : decode cL_law 841 = .ok (.aload_n 0, 1) := by decide +kernel
theorem dL_law_842 : decode cL_law 842 = .ok (.iload_n 3, 1) := by decide +kernel
theorem dL_law_843 : decode cL_law 843 = .ok (.iconst 1, 1) := by decide +kernel
theorem dL_law_844 : decode cL_law 844 = .ok (.iadd, 1) := by decide +kernel
theorem dL_law_845 : decode cL_law 845 = .ok (.iaload, 1) := by decide +kernel
theorem dL_law_846 : decode cL_law 846 = .ok (.invokevirtual 122, 3) := by decide +kernel
theorem dL_law_849 : decode cL_law 849 = .ok (.if_icmp .eq 279, 3) := by decide +kernel
theorem dL_law_852 : decode cL_law 852 = .ok (.iconst 0, 1) := by decide +kernel
theorem dL_law_853 : decode cL_law 853 = .ok (.ireturn, 1) := by decide +kernel
theorem dL_law_854 : decode cL_law 854 = .ok (.aload_n 1, 1) := by decide +kernel
theorem dL_law_855 : decode cL_law 855 = .ok (.aload_n 0, 1) := by decide +kernel
theorem dL_law_856 : decode cL_law 856 = .ok (.iload_n 3, 1) := by decide +kernel
theorem dL_law_857 : decode cL_law 857 = .ok (.iconst 1, 1) := by decide +kernel
theorem dL_law_858 : decode cL_law 858 = .ok (.iadd, 1) := by decide +kernel
theorem dL_law_859 : decode cL_law 859 = .ok (.iaload, 1) := by decide +kernel
theorem dL_law_860 : decode cL_law 860 = .ok (.invokevirtual 123, 3) := by decide +kernel
theorem dL_law_863 : decode cL_law 863 = .ok (.aload_n 2, 1) := by decide +kernel
theorem dL_law_864 : decode cL_law 864 = .ok (.aload_n 0, 1) := by decide +kernel
theorem dL_law_865 : decode cL_law 865 = .ok (.iload_n 3, 1) := by decide +kernel
theorem dL_law_866 : decode cL_law 866 = .ok (.iconst 1, 1) := by decide +kernel
theorem dL_law_867 : decode cL_law 867 = .ok (.iadd, 1) := by decide +kernel
theorem dL_law_868 : decode cL_law 868 = .ok (.iaload, 1) := by decide +kernel
theorem dL_law_869 : decode cL_law 869 = .ok (.invokevirtual 127, 3) := by decide +kernel
theorem dL_law_872 : decode cL_law 872 = .ok (.lcmp, 1) := by decide +kernel
theorem dL_law_873 : decode cL_law 873 = .ok (.ifCond .eq 255, 3) := by decide +kernel
theorem dL_law_876 : decode cL_law 876 = .ok (.iconst 0, 1) := by decide +kernel
theorem dL_law_877 : decode cL_law 877 = .ok (.ireturn, 1) := by decide +kernel
theorem dL_law_878 : decode cL_law 878 = .ok (.aload_n 1, 1) := by decide +kernel
theorem dL_law_879 : decode cL_law 879 = .ok (.aload_n 0, 1) := by decide +kernel
theorem dL_law_880 : decode cL_law 880 = .ok (.iload_n 3, 1) := by decide +kernel
theorem dL_law_881 : decode cL_law 881 = .ok (.iconst 1, 1) := by decide +kernel
theorem dL_law_882 : decode cL_law 882 = .ok (.iadd, 1) := by decide +kernel
theorem dL_law_883 : decode cL_law 883 = .ok (.iaload, 1) := by decide +kernel
theorem dL_law_884 : decode cL_law 884 = .ok (.aload_n 0, 1) := by decide +kernel
theorem dL_law_885 : decode cL_law 885 = .ok (.iload_n 3, 1) := by decide +kernel
theorem dL_law_886 : decode cL_law 886 = .ok (.iconst 2, 1) := by decide +kernel
theorem dL_law_887 : decode cL_law 887 = .ok (.iadd, 1) := by decide +kernel
theorem dL_law_888 : decode cL_law 888 = .ok (.iaload, 1) := by decide +kernel
theorem dL_law_889 : decode cL_law 889 = .ok (.aload_n 0, 1) := by decide +kernel
theorem dL_law_890 : decode cL_law 890 = .ok (.iload_n 3, 1) := by decide +kernel
theorem dL_law_891 : decode cL_law 891 = .ok (.iconst 3, 1) := by decide +kernel
theorem dL_law_892 : decode cL_law 892 = .ok (.iadd, 1) := by decide +kernel
theorem dL_law_893 : decode cL_law 893 = .ok (.iaload, 1) := by decide +kernel
theorem dL_law_894 : decode cL_law 894 = .ok (.invokevirtual 128, 3) := by decide +kernel
theorem dL_law_897 : decode cL_law 897 = .ok (.aload_n 2, 1) := by decide +kernel
theorem dL_law_898 : decode cL_law 898 = .ok (.aload_n 0, 1) := by decide +kernel
theorem dL_law_899 : decode cL_law 899 = .ok (.iload_n 3, 1) := by decide +kernel
theorem dL_law_900 : decode cL_law 900 = .ok (.iconst 1, 1) := by decide +kernel
theorem dL_law_901 : decode cL_law 901 = .ok (.iadd, 1) := by decide +kernel
theorem dL_law_902 : decode cL_law 902 = .ok (.iaload, 1) := by decide +kernel
theorem dL_law_903 : decode cL_law 903 = .ok (.aload_n 0, 1) := by decide +kernel
theorem dL_law_904 : decode cL_law 904 = .ok (.iload_n 3, 1) := by decide +kernel
theorem dL_law_905 : decode cL_law 905 = .ok (.iconst 2, 1) := by decide +kernel
theorem dL_law_906 : decode cL_law 906 = .ok (.iadd, 1) := by decide +kernel
theorem dL_law_907 : decode cL_law 907 = .ok (.iaload, 1) := by decide +kernel
theorem dL_law_908 : decode cL_law 908 = .ok (.aload_n 0, 1) := by decide +kernel
theorem dL_law_909 : decode cL_law 909 = .ok (.iload_n 3, 1) := by decide +kernel
theorem dL_law_910 : decode cL_law 910 = .ok (.iconst 3, 1) := by decide +kernel
theorem dL_law_911 : decode cL_law 911 = .ok (.iadd, 1) := by decide +kernel
theorem dL_law_912 : decode cL_law 912 = .ok (.iaload, 1) := by decide +kernel
theorem dL_law_913 : decode cL_law 913 = .ok (.invokevirtual 131, 3) := by decide +kernel
theorem dL_law_916 : decode cL_law 916 = .ok (.if_icmp .eq 212, 3) := by decide +kernel
theorem dL_law_919 : decode cL_law 919 = .ok (.iconst 0, 1) := by decide +kernel
theorem dL_law_920 : decode cL_law 920 = .ok (.ireturn, 1) := by decide +kernel
theorem dL_law_921 : decode cL_law 921 = .ok (.aload_n 1, 1) := by decide +kernel
theorem dL_law_922 : decode cL_law 922 = .ok (.invokevirtual 132, 3) := by decide +kernel
theorem dL_law_925 : decode cL_law 925 = .ok (.aload_n 2, 1) := by decide +kernel
theorem dL_law_926 : decode cL_law 926 = .ok (.invokevirtual 135, 3) := by decide +kernel
theorem dL_law_929 : decode cL_law 929 = .ok (.if_icmp .eq 199, 3) := by decide +kernel
theorem dL_law_932 : decode cL_law 932 = .ok (.iconst 0, 1) := by decide +kernel
theorem dL_law_933 : decode cL_law 933 = .ok (.ireturn, 1) := by decide +kernel
theorem dL_law_934 : decode cL_law 934 = .ok (.aload_n 1, 1) := by decide +kernel
theorem dL_law_935 : decode cL_law 935 = .ok (.aload_n 0, 1) := by decide +kernel
theorem dL_law_936 : decode cL_law 936 = .ok (.iload_n 3, 1) := by decide +kernel
theorem dL_law_937 : decode cL_law 937 = .ok (.iconst 1, 1) := by decide +kernel
theorem dL_law_938 : decode cL_law 938 = .ok (.iadd, 1) := by decide +kernel
theorem dL_law_939 : decode cL_law 939 = .ok (.iaload, 1) := by decide +kernel
theorem dL_law_940 : decode cL_law 940 = .ok (.invokevirtual 136, 3) := by decide +kernel
theorem dL_law_943 : decode cL_law 943 = .ok (.aload_n 2, 1) := by decide +kernel
theorem dL_law_944 : decode cL_law 944 = .ok (.aload_n 0, 1) := by decide +kernel
theorem dL_law_945 : decode cL_law 945 = .ok (.iload_n 3, 1) := by decide +kernel
theorem dL_law_946 : decode cL_law 946 = .ok (.iconst 1, 1) := by decide +kernel
theorem dL_law_947 : decode cL_law 947 = .ok (.iadd, 1) := by decide +kernel
theorem dL_law_948 : decode cL_law 948 = .ok (.iaload, 1) := by decide +kernel
theorem dL_law_949 : decode cL_law 949 = .ok (.invokevirtual 139, 3) := by decide +kernel
theorem dL_law_952 : decode cL_law 952 = .ok (.if_icmp .eq 176, 3) := by decide +kernel
theorem dL_law_955 : decode cL_law 955 = .ok (.iconst 0, 1) := by decide +kernel
theorem dL_law_956 : decode cL_law 956 = .ok (.ireturn, 1) := by decide +kernel
theorem dL_law_957 : decode cL_law 957 = .ok (.aload_n 1, 1) := by decide +kernel
theorem dL_law_958 : decode cL_law 958 = .ok (.aload_n 0, 1) := by decide +kernel
theorem dL_law_959 : decode cL_law 959 = .ok (.iload_n 3, 1) := by decide +kernel
theorem dL_law_960 : decode cL_law 960 = .ok (.iconst 1, 1) := by decide +kernel
theorem dL_law_961 : decode cL_law 961 = .ok (.iadd, 1) := by decide +kernel
theorem dL_law_962 : decode cL_law 962 = .ok (.iaload, 1) := by decide +kernel
theorem dL_law_963 : decode cL_law 963 = .ok (.invokevirtual 140, 3) := by decide +kernel
theorem dL_law_966 : decode cL_law 966 = .ok (.aload_n 2, 1) := by decide +kernel
theorem dL_law_967 : decode cL_law 967 = .ok (.aload_n 0, 1) := by decide +kernel
theorem dL_law_968 : decode cL_law 968 = .ok (.iload_n 3, 1) := by decide +kernel
theorem dL_law_969 : decode cL_law 969 = .ok (.iconst 1, 1) := by decide +kernel
theorem dL_law_970 : decode cL_law 970 = .ok (.iadd, 1) := by decide +kernel
theorem dL_law_971 : decode cL_law 971 = .ok (.iaload, 1) := by decide +kernel
theorem dL_law_972 : decode cL_law 972 = .ok (.invokevirtual 143, 3) := by decide +kernel
theorem dL_law_975 : decode cL_law 975 = .ok (.if_icmp .eq 153, 3) := by decide +kernel
theorem dL_law_978 : decode cL_law 978 = .ok (.iconst 0, 1) := by decide +kernel
theorem dL_law_979 : decode cL_law 979 = .ok (.ireturn, 1) := by decide +kernel
theorem dL_law_980 : decode cL_law 980 = .ok (.aload_n 1, 1) := by decide +kernel
theorem dL_law_981 : decode cL_law 981 = .ok (.aload_n 0, 1) := by decide +kernel
theorem dL_law_982 : decode cL_law 982 = .ok (.iload_n 3, 1) := by decide +kernel
theorem dL_law_983 : decode cL_law 983 = .ok (.iconst 1, 1) := by decide +kernel
theorem dL_law_984 : decode cL_law 984 = .ok (.iadd, 1) := by decide +kernel
theorem dL_law_985 : decode cL_law 985 = .ok (.iaload, 1) := by decide +kernel
theorem dL_law_986 : decode cL_law 986 = .ok (.aload_n 0, 1) := by decide +kernel
theorem dL_law_987 : decode cL_law 987 = .ok (.iload_n 3, 1) := by decide +kernel
theorem dL_law_988 : decode cL_law 988 = .ok (.iconst 2, 1) := by decide +kernel
theorem dL_law_989 : decode cL_law 989 = .ok (.iadd, 1) := by decide +kernel
theorem dL_law_990 : decode cL_law 990 = .ok (.iaload, 1) := by decide +kernel
theorem dL_law_991 : decode cL_law 991 = .ok (.invokevirtual 144, 3) := by decide +kernel
theorem dL_law_994 : decode cL_law 994 = .ok (.aload_n 2, 1) := by decide +kernel
theorem dL_law_995 : decode cL_law 995 = .ok (.aload_n 0, 1) := by decide +kernel
theorem dL_law_996 : decode cL_law 996 = .ok (.iload_n 3, 1) := by decide +kernel
theorem dL_law_997 : decode cL_law 997 = .ok (.iconst 1, 1) := by decide +kernel
theorem dL_law_998 : decode cL_law 998 = .ok (.iadd, 1) := by decide +kernel
theorem dL_law_999 : decode cL_law 999 = .ok (.iaload, 1) := by decide +kernel
theorem dL_law_1000 : decode cL_law 1000 = .ok (.aload_n 0, 1) := by decide +kernel
theorem dL_law_1001 : decode cL_law 1001 = .ok (.iload_n 3, 1) := by decide +kernel
theorem dL_law_1002 : decode cL_law 1002 = .ok (.iconst 2, 1) := by decide +kernel
theorem dL_law_1003 : decode cL_law 1003 = .ok (.iadd, 1) := by decide +kernel
theorem dL_law_1004 : decode cL_law 1004 = .ok (.iaload, 1) := by decide +kernel
theorem dL_law_1005 : decode cL_law 1005 = .ok (.invokevirtual 147, 3) := by decide +kernel
theorem dL_law_1008 : decode cL_law 1008 = .ok (.if_icmp .eq 120, 3) := by decide +kernel
theorem dL_law_1011 : decode cL_law 1011 = .ok (.iconst 0, 1) := by decide +kernel
theorem dL_law_1012 : decode cL_law 1012 = .ok (.ireturn, 1) := by decide +kernel
theorem dL_law_1013 : decode cL_law 1013 = .ok (.aload_n 1, 1) := by decide +kernel
theorem dL_law_1014 : decode cL_law 1014 = .ok (.aload_n 0, 1) := by decide +kernel
theorem dL_law_1015 : decode cL_law 1015 = .ok (.iload_n 3, 1) := by decide +kernel
theorem dL_law_1016 : decode cL_law 1016 = .ok (.iconst 1, 1) := by decide +kernel
theorem dL_law_1017 : decode cL_law 1017 = .ok (.iadd, 1) := by decide +kernel
theorem dL_law_1018 : decode cL_law 1018 = .ok (.iaload, 1) := by decide +kernel
theorem dL_law_1019 : decode cL_law 1019 = .ok (.aload_n 0, 1) := by decide +kernel
theorem dL_law_1020 : decode cL_law 1020 = .ok (.iload_n 3, 1) := by decide +kernel
theorem dL_law_1021 : decode cL_law 1021 = .ok (.iconst 2, 1) := by decide +kernel
theorem dL_law_1022 : decode cL_law 1022 = .ok (.iadd, 1) := by decide +kernel
theorem dL_law_1023 : decode cL_law 1023 = .ok (.iaload, 1) := by decide +kernel
theorem dL_law_1024 : decode cL_law 1024 = .ok (.invokevirtual 148, 3) := by decide +kernel
theorem dL_law_1027 : decode cL_law 1027 = .ok (.aload_n 2, 1) := by decide +kernel
theorem dL_law_1028 : decode cL_law 1028 = .ok (.aload_n 0, 1) := by decide +kernel
theorem dL_law_1029 : decode cL_law 1029 = .ok (.iload_n 3, 1) := by decide +kernel
theorem dL_law_1030 : decode cL_law 1030 = .ok (.iconst 1, 1) := by decide +kernel
theorem dL_law_1031 : decode cL_law 1031 = .ok (.iadd, 1) := by decide +kernel
theorem dL_law_1032 : decode cL_law 1032 = .ok (.iaload, 1) := by decide +kernel
theorem dL_law_1033 : decode cL_law 1033 = .ok (.aload_n 0, 1) := by decide +kernel
theorem dL_law_1034 : decode cL_law 1034 = .ok (.iload_n 3, 1) := by decide +kernel
theorem dL_law_1035 : decode cL_law 1035 = .ok (.iconst 2, 1) := by decide +kernel
theorem dL_law_1036 : decode cL_law 1036 = .ok (.iadd, 1) := by decide +kernel
theorem dL_law_1037 : decode cL_law 1037 = .ok (.iaload, 1) := by decide +kernel
theorem dL_law_1038 : decode cL_law 1038 = .ok (.invokevirtual 151, 3) := by decide +kernel
theorem dL_law_1041 : decode cL_law 1041 = .ok (.if_icmp .eq 87, 3) := by decide +kernel
theorem dL_law_1044 : decode cL_law 1044 = .ok (.iconst 0, 1) := by decide +kernel
theorem dL_law_1045 : decode cL_law 1045 = .ok (.ireturn, 1) := by decide +kernel
theorem dL_law_1046 : decode cL_law 1046 = .ok (.aload_n 1, 1) := by decide +kernel
theorem dL_law_1047 : decode cL_law 1047 = .ok (.aload_n 0, 1) := by decide +kernel
theorem dL_law_1048 : decode cL_law 1048 = .ok (.iload_n 3, 1) := by decide +kernel
theorem dL_law_1049 : decode cL_law 1049 = .ok (.iconst 1, 1) := by decide +kernel
theorem dL_law_1050 : decode cL_law 1050 = .ok (.iadd, 1) := by decide +kernel
theorem dL_law_1051 : decode cL_law 1051 = .ok (.iaload, 1) := by decide +kernel
theorem dL_law_1052 : decode cL_law 1052 = .ok (.invokevirtual 152, 3) := by decide +kernel
theorem dL_law_1055 : decode cL_law 1055 = .ok (.aload_n 2, 1) := by decide +kernel
theorem dL_law_1056 : decode cL_law 1056 = .ok (.aload_n 0, 1) := by decide +kernel
theorem dL_law_1057 : decode cL_law 1057 = .ok (.iload_n 3, 1) := by decide +kernel
theorem dL_law_1058 : decode cL_law 1058 = .ok (.iconst 1, 1) := by decide +kernel
theorem dL_law_1059 : decode cL_law 1059 = .ok (.iadd, 1) := by decide +kernel
theorem dL_law_1060 : decode cL_law 1060 = .ok (.iaload, 1) := by decide +kernel
theorem dL_law_1061 : decode cL_law 1061 = .ok (.invokevirtual 155, 3) := by decide +kernel
theorem dL_law_1064 : decode cL_law 1064 = .ok (.if_icmp .eq 64, 3) := by decide +kernel
theorem dL_law_1067 : decode cL_law 1067 = .ok (.iconst 0, 1) := by decide +kernel
theorem dL_law_1068 : decode cL_law 1068 = .ok (.ireturn, 1) := by decide +kernel
theorem dL_law_1069 : decode cL_law 1069 = .ok (.aload_n 1, 1) := by decide +kernel
theorem dL_law_1070 : decode cL_law 1070 = .ok (.aload_n 0, 1) := by decide +kernel
theorem dL_law_1071 : decode cL_law 1071 = .ok (.iload_n 3, 1) := by decide +kernel
theorem dL_law_1072 : decode cL_law 1072 = .ok (.iconst 1, 1) := by decide +kernel
theorem dL_law_1073 : decode cL_law 1073 = .ok (.iadd, 1) := by decide +kernel
theorem dL_law_1074 : decode cL_law 1074 = .ok (.iaload, 1) := by decide +kernel
theorem dL_law_1075 : decode cL_law 1075 = .ok (.invokevirtual 156, 3) := by decide +kernel
theorem dL_law_1078 : decode cL_law 1078 = .ok (.aload_n 2, 1) := by decide +kernel
theorem dL_law_1079 : decode cL_law 1079 = .ok (.aload_n 0, 1) := by decide +kernel
theorem dL_law_1080 : decode cL_law 1080 = .ok (.iload_n 3, 1) := by decide +kernel
theorem dL_law_1081 : decode cL_law 1081 = .ok (.iconst 1, 1) := by decide +kernel
theorem dL_law_1082 : decode cL_law 1082 = .ok (.iadd, 1) := by decide +kernel
theorem dL_law_1083 : decode cL_law 1083 = .ok (.iaload, 1) := by decide +kernel
theorem dL_law_1084 : decode cL_law 1084 = .ok (.invokevirtual 159, 3) := by decide +kernel
theorem dL_law_1087 : decode cL_law 1087 = .ok (.if_icmp .eq 41, 3) := by decide +kernel
theorem dL_law_1090 : decode cL_law 1090 = .ok (.iconst 0, 1) := by decide +kernel
theorem dL_law_1091 : decode cL_law 1091 = .ok (.ireturn, 1) := by decide +kernel
theorem dL_law_1092 : decode cL_law 1092 = .ok (.aload_n 1, 1) := by decide +kernel
theorem dL_law_1093 : decode cL_law 1093 = .ok (.aload_n 0, 1) := by decide +kernel
theorem dL_law_1094 : decode cL_law 1094 = .ok (.iload_n 3, 1) := by decide +kernel
theorem dL_law_1095 : decode cL_law 1095 = .ok (.iconst 1, 1) := by decide +kernel
theorem dL_law_1096 : decode cL_law 1096 = .ok (.iadd, 1) := by decide +kernel
theorem dL_law_1097 : decode cL_law 1097 = .ok (.iaload, 1) := by decide +kernel
theorem dL_law_1098 : decode cL_law 1098 = .ok (.invokevirtual 160, 3) := by decide +kernel
theorem dL_law_1101 : decode cL_law 1101 = .ok (.aload_n 2, 1) := by decide +kernel
theorem dL_law_1102 : decode cL_law 1102 = .ok (.aload_n 0, 1) := by decide +kernel
theorem dL_law_1103 : decode cL_law 1103 = .ok (.iload_n 3, 1) := by decide +kernel
theorem dL_law_1104 : decode cL_law 1104 = .ok (.iconst 1, 1) := by decide +kernel
theorem dL_law_1105 : decode cL_law 1105 = .ok (.iadd, 1) := by decide +kernel
theorem dL_law_1106 : decode cL_law 1106 = .ok (.iaload, 1) := by decide +kernel
theorem dL_law_1107 : decode cL_law 1107 = .ok (.invokevirtual 163, 3) := by decide +kernel
theorem dL_law_1110 : decode cL_law 1110 = .ok (.if_icmp .eq 18, 3) := by decide +kernel
theorem dL_law_1113 : decode cL_law 1113 = .ok (.iconst 0, 1) := by decide +kernel
theorem dL_law_1114 : decode cL_law 1114 = .ok (.ireturn, 1) := by decide +kernel
theorem dL_law_1115 : decode cL_law 1115 = .ok (.aload_n 1, 1) := by decide +kernel
theorem dL_law_1116 : decode cL_law 1116 = .ok (.invokevirtual 164, 3) := by decide +kernel
theorem dL_law_1119 : decode cL_law 1119 = .ok (.aload_n 2, 1) := by decide +kernel
theorem dL_law_1120 : decode cL_law 1120 = .ok (.invokevirtual 167, 3) := by decide +kernel
theorem dL_law_1123 : decode cL_law 1123 = .ok (.if_icmp .eq 5, 3) := by decide +kernel
theorem dL_law_1126 : decode cL_law 1126 = .ok (.iconst 0, 1) := by decide +kernel
theorem dL_law_1127 : decode cL_law 1127 = .ok (.ireturn, 1) := by decide +kernel
theorem dL_law_1128 : decode cL_law 1128 = .ok (.iinc 3 6, 3) := by decide +kernel
theorem dL_law_1131 : decode cL_law 1131 = .ok (.goto (-1113), 3) := by decide +kernel
theorem dL_law_1134 : decode cL_law 1134 = .ok (.iconst 1, 1) := by decide +kernel
theorem dL_law_1135 : decode cL_law 1135 = .ok (.ireturn, 1) := by decide +kernel
theorem wt2_239 : Cond.methodLink RL 13 yX11_part ∈ kG := kt2 239 rfl rfl
theorem wt3_0 : Cond.instanceMethod yX11_part ∈ kG := kt3 0 rfl rfl
theorem wt3_1 : Cond.selects RX11 yX11_part yX11_part ∈ kG := kt3 1 rfl rfl
theorem wt3_2 : Cond.code yX11_part cX11_part 6 (some .int) ∈ kG := kt3 2 rfl rfl
theorem wt6_88 : Cond.methodLink RL 17 yX12_part ∈ kG := kt6 88 rfl rfl
theorem wt6_89 : Cond.instanceMethod yX12_part ∈ kG := kt6 89 rfl rfl
theorem wt6_90 : Cond.selects RX12 yX12_part yX12_part ∈ kG := kt6 90 rfl rfl
theorem wt6_91 : Cond.code yX12_part cX12_part 5 (some .int) ∈ kG := kt6 91 rfl rfl
theorem wt3_31 : Cond.methodLink RL 18 yX11_of ∈ kG := kt3 31 rfl rfl
theorem wt3_32 : Cond.instanceMethod yX11_of ∈ kG := kt3 32 rfl rfl
theorem wt3_33 : Cond.selects RX11 yX11_of yX11_of ∈ kG := kt3 33 rfl rfl
theorem wt3_34 : Cond.code yX11_of cX11_of 3 (some .int) ∈ kG := kt3 34 rfl rfl
theorem wt6_100 : Cond.methodLink RL 22 yX12_of ∈ kG := kt6 100 rfl rfl
theorem wt6_101 : Cond.instanceMethod yX12_of ∈ kG := kt6 101 rfl rfl
theorem wt6_102 : Cond.selects RX12 yX12_of yX12_of ∈ kG := kt6 102 rfl rfl
theorem wt6_103 : Cond.code yX12_of cX12_of 3 (some .int) ∈ kG := kt6 103 rfl rfl
theorem wt3_55 : Cond.methodLink RL 23 yX11_builder ∈ kG := kt3 55 rfl rfl
theorem wt3_56 : Cond.instanceMethod yX11_builder ∈ kG := kt3 56 rfl rfl
theorem wt3_57 : Cond.selects RX11 yX11_builder yX11_builder ∈ kG := kt3 57 rfl rfl
theorem wt3_58 : Cond.code yX11_builder cX11_builder 4 (some .int) ∈ kG := kt3 58 rfl rfl
theorem wt6_130 : Cond.methodLink RL 26 yX12_builder ∈ kG := kt6 130 rfl rfl
theorem wt6_131 : Cond.instanceMethod yX12_builder ∈ kG := kt6 131 rfl rfl
theorem wt6_132 : Cond.selects RX12 yX12_builder yX12_builder ∈ kG := kt6 132 rfl rfl
theorem wt6_133 : Cond.code yX12_builder cX12_builder 4 (some .int) ∈ kG := kt6 133 rfl rfl
theorem wt3_63 : Cond.methodLink RL 27 yX11_at ∈ kG := kt3 63 rfl rfl
theorem wt3_64 : Cond.instanceMethod yX11_at ∈ kG := kt3 64 rfl rfl
theorem wt3_65 : Cond.selects RX11 yX11_at yX11_at ∈ kG := kt3 65 rfl rfl
theorem wt3_66 : Cond.code yX11_at cX11_at 3 (some .int) ∈ kG := kt3 66 rfl rfl
theorem wt6_134 : Cond.methodLink RL 30 yX12_at ∈ kG := kt6 134 rfl rfl
theorem wt6_135 : Cond.instanceMethod yX12_at ∈ kG := kt6 135 rfl rfl
theorem wt6_136 : Cond.selects RX12 yX12_at yX12_at ∈ kG := kt6 136 rfl rfl
theorem wt6_137 : Cond.code yX12_at cX12_at 3 (some .int) ∈ kG := kt6 137 rfl rfl
theorem wt3_71 : Cond.methodLink RL 31 yX11_asks ∈ kG := kt3 71 rfl rfl
theorem wt3_72 : Cond.instanceMethod yX11_asks ∈ kG := kt3 72 rfl rfl
theorem wt3_73 : Cond.selects RX11 yX11_asks yX11_asks ∈ kG := kt3 73 rfl rfl
theorem wt3_74 : Cond.code yX11_asks cX11_asks 4 (some .int) ∈ kG := kt3 74 rfl rfl
theorem wt7_27 : Cond.methodLink RL 35 yX12_asks ∈ kG := kt7 27 rfl rfl
theorem wt7_28 : Cond.instanceMethod yX12_asks ∈ kG := kt7 28 rfl rfl
theorem wt7_29 : Cond.selects RX12 yX12_asks yX12_asks ∈ kG := kt7 29 rfl rfl
theorem wt7_30 : Cond.code yX12_asks cX12_asks 4 (some .int) ∈ kG := kt7 30 rfl rfl
theorem wt3_113 : Cond.methodLink RL 36 yX11_terms ∈ kG := kt3 113 rfl rfl
theorem wt3_114 : Cond.instanceMethod yX11_terms ∈ kG := kt3 114 rfl rfl
theorem wt3_115 : Cond.selects RX11 yX11_terms yX11_terms ∈ kG := kt3 115 rfl rfl
theorem wt3_116 : Cond.code yX11_terms cX11_terms 4 (some .int) ∈ kG := kt3 116 rfl rfl
theorem wt6_142 : Cond.methodLink RL 39 yX12_terms ∈ kG := kt6 142 rfl rfl
theorem wt6_143 : Cond.instanceMethod yX12_terms ∈ kG := kt6 143 rfl rfl
theorem wt6_144 : Cond.selects RX12 yX12_terms yX12_terms ∈ kG := kt6 144 rfl rfl
theorem wt6_145 : Cond.code yX12_terms cX12_terms 5 (some .int) ∈ kG := kt6 145 rfl rfl
theorem wt3_121 : Cond.methodLink RL 40 yX11_feed ∈ kG := kt3 121 rfl rfl
theorem wt3_122 : Cond.instanceMethod yX11_feed ∈ kG := kt3 122 rfl rfl
theorem wt3_123 : Cond.selects RX11 yX11_feed yX11_feed ∈ kG := kt3 123 rfl rfl
theorem wt3_124 : Cond.code yX11_feed cX11_feed 6 (some .int) ∈ kG := kt3 124 rfl rfl
theorem wt6_157 : Cond.methodLink RL 44 yX12_feed ∈ kG := kt6 157 rfl rfl
theorem wt6_158 : Cond.instanceMethod yX12_feed ∈ kG := kt6 158 rfl rfl
theorem wt6_159 : Cond.selects RX12 yX12_feed yX12_feed ∈ kG := kt6 159 rfl rfl
theorem wt6_160 : Cond.code yX12_feed cX12_feed 7 (some .int) ∈ kG := kt6 160 rfl rfl
theorem wt3_129 : Cond.methodLink RL 45 yX11_end ∈ kG := kt3 129 rfl rfl
theorem wt3_130 : Cond.instanceMethod yX11_end ∈ kG := kt3 130 rfl rfl
theorem wt3_131 : Cond.selects RX11 yX11_end yX11_end ∈ kG := kt3 131 rfl rfl
theorem wt3_132 : Cond.code yX11_end cX11_end 2 (some .int) ∈ kG := kt3 132 rfl rfl
theorem wt6_161 : Cond.methodLink RL 49 yX12_end ∈ kG := kt6 161 rfl rfl
theorem wt6_162 : Cond.instanceMethod yX12_end ∈ kG := kt6 162 rfl rfl
theorem wt6_163 : Cond.selects RX12 yX12_end yX12_end ∈ kG := kt6 163 rfl rfl
theorem wt6_164 : Cond.code yX12_end cX12_end 2 (some .int) ∈ kG := kt6 164 rfl rfl
theorem wt3_133 : Cond.methodLink RL 50 yX11_row ∈ kG := kt3 133 rfl rfl
theorem wt3_134 : Cond.instanceMethod yX11_row ∈ kG := kt3 134 rfl rfl
theorem wt3_135 : Cond.selects RX11 yX11_row yX11_row ∈ kG := kt3 135 rfl rfl
theorem wt3_136 : Cond.code yX11_row cX11_row 5 (some .int) ∈ kG := kt3 136 rfl rfl
theorem wt6_149 : Cond.methodLink RL 54 yX12_row ∈ kG := kt6 149 rfl rfl
theorem wt6_150 : Cond.instanceMethod yX12_row ∈ kG := kt6 150 rfl rfl
theorem wt6_151 : Cond.selects RX12 yX12_row yX12_row ∈ kG := kt6 151 rfl rfl
theorem wt6_152 : Cond.code yX12_row cX12_row 6 (some .int) ∈ kG := kt6 152 rfl rfl
theorem wt3_145 : Cond.methodLink RL 55 yX11_chaff ∈ kG := kt3 145 rfl rfl
theorem wt3_146 : Cond.instanceMethod yX11_chaff ∈ kG := kt3 146 rfl rfl
theorem wt3_147 : Cond.selects RX11 yX11_chaff yX11_chaff ∈ kG := kt3 147 rfl rfl
theorem wt3_148 : Cond.code yX11_chaff cX11_chaff 1 (some .int) ∈ kG := kt3 148 rfl rfl
theorem wt6_153 : Cond.methodLink RL 58 yX12_chaff ∈ kG := kt6 153 rfl rfl
theorem wt6_154 : Cond.instanceMethod yX12_chaff ∈ kG := kt6 154 rfl rfl
theorem wt6_155 : Cond.selects RX12 yX12_chaff yX12_chaff ∈ kG := kt6 155 rfl rfl
theorem wt6_156 : Cond.code yX12_chaff cX12_chaff 1 (some .int) ∈ kG := kt6 156 rfl rfl
theorem wt3_149 : Cond.methodLink RL 59 yX11_law ∈ kG := kt3 149 rfl rfl
theorem wt3_150 : Cond.instanceMethod yX11_law ∈ kG := kt3 150 rfl rfl
theorem wt3_151 : Cond.selects RX11 yX11_law yX11_law ∈ kG := kt3 151 rfl rfl
theorem wt3_152 : Cond.code yX11_law cX11_law 3 (some .int) ∈ kG := kt3 152 rfl rfl
theorem wt6_165 : Cond.methodLink RL 62 yX12_law ∈ kG := kt6 165 rfl rfl
theorem wt6_166 : Cond.instanceMethod yX12_law ∈ kG := kt6 166 rfl rfl
theorem wt6_167 : Cond.selects RX12 yX12_law yX12_law ∈ kG := kt6 167 rfl rfl
theorem wt6_168 : Cond.code yX12_law cX12_law 1 (some .int) ∈ kG := kt6 168 rfl rfl
theorem wt4_71 : Cond.methodLink RL 63 yX11_orders ∈ kG := kt4 71 rfl rfl
theorem wt4_72 : Cond.instanceMethod yX11_orders ∈ kG := kt4 72 rfl rfl
theorem wt4_73 : Cond.selects RX11 yX11_orders yX11_orders ∈ kG := kt4 73 rfl rfl
theorem wt4_74 : Cond.code yX11_orders cX11_orders 2 (some .int) ∈ kG := kt4 74 rfl rfl
theorem wt8_47 : Cond.methodLink RL 66 yX12_orders ∈ kG := kt8 47 rfl rfl
theorem wt8_48 : Cond.instanceMethod yX12_orders ∈ kG := kt8 48 rfl rfl
theorem wt8_49 : Cond.selects RX12 yX12_orders yX12_orders ∈ kG := kt8 49 rfl rfl
theorem wt8_50 : Cond.code yX12_orders cX12_orders 5 (some .int) ∈ kG := kt8 50 rfl rfl
theorem wt4_148 : Cond.methodLink RL 67 yX11_fault ∈ kG := kt4 148 rfl rfl
theorem wt4_149 : Cond.instanceMethod yX11_fault ∈ kG := kt4 149 rfl rfl
theorem wt4_150 : Cond.selects RX11 yX11_fault yX11_fault ∈ kG := kt4 150 rfl rfl
theorem wt4_151 : Cond.code yX11_fault cX11_fault 1 (some .int) ∈ kG := kt4 151 rfl rfl
theorem wt7_19 : Cond.methodLink RL 70 yX12_fault ∈ kG := kt7 19 rfl rfl
theorem wt7_20 : Cond.instanceMethod yX12_fault ∈ kG := kt7 20 rfl rfl
theorem wt7_21 : Cond.selects RX12 yX12_fault yX12_fault ∈ kG := kt7 21 rfl rfl
theorem wt7_22 : Cond.code yX12_fault cX12_fault 1 (some .int) ∈ kG := kt7 22 rfl rfl
theorem wt4_152 : Cond.methodLink RL 71 yX11_stopped ∈ kG := kt4 152 rfl rfl
theorem wt4_153 : Cond.instanceMethod yX11_stopped ∈ kG := kt4 153 rfl rfl
theorem wt4_154 : Cond.selects RX11 yX11_stopped yX11_stopped ∈ kG := kt4 154 rfl rfl
theorem wt4_155 : Cond.code yX11_stopped cX11_stopped 1 (some .int) ∈ kG := kt4 155 rfl rfl
theorem wt8_43 : Cond.methodLink RL 74 yX12_stopped ∈ kG := kt8 43 rfl rfl
theorem wt8_44 : Cond.instanceMethod yX12_stopped ∈ kG := kt8 44 rfl rfl
theorem wt8_45 : Cond.selects RX12 yX12_stopped yX12_stopped ∈ kG := kt8 45 rfl rfl
theorem wt8_46 : Cond.code yX12_stopped cX12_stopped 1 (some .int) ∈ kG := kt8 46 rfl rfl
theorem wt4_156 : Cond.methodLink RL 75 yX11_force ∈ kG := kt4 156 rfl rfl
theorem wt4_157 : Cond.instanceMethod yX11_force ∈ kG := kt4 157 rfl rfl
theorem wt4_158 : Cond.selects RX11 yX11_force yX11_force ∈ kG := kt4 158 rfl rfl
theorem wt4_159 : Cond.code yX11_force cX11_force 3 (some .int) ∈ kG := kt4 159 rfl rfl
theorem wt7_23 : Cond.methodLink RL 78 yX12_force ∈ kG := kt7 23 rfl rfl
theorem wt7_24 : Cond.instanceMethod yX12_force ∈ kG := kt7 24 rfl rfl
theorem wt7_25 : Cond.selects RX12 yX12_force yX12_force ∈ kG := kt7 25 rfl rfl
theorem wt7_26 : Cond.code yX12_force cX12_force 3 (some .int) ∈ kG := kt7 26 rfl rfl
theorem wt4_160 : Cond.methodLink RL 79 yX11_stands ∈ kG := kt4 160 rfl rfl
theorem wt4_161 : Cond.instanceMethod yX11_stands ∈ kG := kt4 161 rfl rfl
theorem wt4_162 : Cond.selects RX11 yX11_stands yX11_stands ∈ kG := kt4 162 rfl rfl
theorem wt4_163 : Cond.code yX11_stands cX11_stands 2 (some .int) ∈ kG := kt4 163 rfl rfl
theorem wt7_108 : Cond.methodLink RL 82 yX12_stands ∈ kG := kt7 108 rfl rfl
theorem wt7_109 : Cond.instanceMethod yX12_stands ∈ kG := kt7 109 rfl rfl
theorem wt7_110 : Cond.selects RX12 yX12_stands yX12_stands ∈ kG := kt7 110 rfl rfl
theorem wt7_111 : Cond.code yX12_stands cX12_stands 4 (some .int) ∈ kG := kt7 111 rfl rfl
theorem wt4_165 : Cond.methodLink RL 83 yX11_send ∈ kG := kt4 165 rfl rfl
theorem wt4_166 : Cond.instanceMethod yX11_send ∈ kG := kt4 166 rfl rfl
theorem wt4_167 : Cond.selects RX11 yX11_send yX11_send ∈ kG := kt4 167 rfl rfl
theorem wt4_168 : Cond.code yX11_send cX11_send 3 (some .int) ∈ kG := kt4 168 rfl rfl
theorem wt7_116 : Cond.methodLink RL 86 yX12_send ∈ kG := kt7 116 rfl rfl
theorem wt7_117 : Cond.instanceMethod yX12_send ∈ kG := kt7 117 rfl rfl
theorem wt7_118 : Cond.selects RX12 yX12_send yX12_send ∈ kG := kt7 118 rfl rfl
theorem wt7_119 : Cond.code yX12_send cX12_send 3 (some .int) ∈ kG := kt7 119 rfl rfl
theorem wt4_174 : Cond.methodLink RL 87 yX11_rest ∈ kG := kt4 174 rfl rfl
theorem wt4_175 : Cond.instanceMethod yX11_rest ∈ kG := kt4 175 rfl rfl
theorem wt4_176 : Cond.selects RX11 yX11_rest yX11_rest ∈ kG := kt4 176 rfl rfl
theorem wt4_177 : Cond.code yX11_rest cX11_rest 2 (some .int) ∈ kG := kt4 177 rfl rfl
theorem wt7_132 : Cond.methodLink RL 90 yX12_rest ∈ kG := kt7 132 rfl rfl
theorem wt7_133 : Cond.instanceMethod yX12_rest ∈ kG := kt7 133 rfl rfl
theorem wt7_134 : Cond.selects RX12 yX12_rest yX12_rest ∈ kG := kt7 134 rfl rfl
theorem wt7_135 : Cond.code yX12_rest cX12_rest 2 (some .int) ∈ kG := kt7 135 rfl rfl
theorem wt4_179 : Cond.methodLink RL 91 yX11_throwDown ∈ kG := kt4 179 rfl rfl
theorem wt4_180 : Cond.instanceMethod yX11_throwDown ∈ kG := kt4 180 rfl rfl
theorem wt4_181 : Cond.selects RX11 yX11_throwDown yX11_throwDown ∈ kG := kt4 181 rfl rfl
theorem wt4_182 : Cond.code yX11_throwDown cX11_throwDown 2 (some .int) ∈ kG := kt4 182 rfl rfl
theorem wt7_140 : Cond.methodLink RL 94 yX12_throwDown ∈ kG := kt7 140 rfl rfl
theorem wt7_141 : Cond.instanceMethod yX12_throwDown ∈ kG := kt7 141 rfl rfl
theorem wt7_142 : Cond.selects RX12 yX12_throwDown yX12_throwDown ∈ kG := kt7 142 rfl rfl
theorem wt7_143 : Cond.code yX12_throwDown cX12_throwDown 2 (some .int) ∈ kG := kt7 143 rfl rfl
theorem wt4_184 : Cond.methodLink RL 95 yX11_tick ∈ kG := kt4 184 rfl rfl
theorem wt4_185 : Cond.instanceMethod yX11_tick ∈ kG := kt4 185 rfl rfl
theorem wt4_186 : Cond.selects RX11 yX11_tick yX11_tick ∈ kG := kt4 186 rfl rfl
theorem wt4_187 : Cond.code yX11_tick cX11_tick 1 (some .int) ∈ kG := kt4 187 rfl rfl
theorem wt7_156 : Cond.methodLink RL 98 yX12_tick ∈ kG := kt7 156 rfl rfl
theorem wt7_157 : Cond.instanceMethod yX12_tick ∈ kG := kt7 157 rfl rfl
theorem wt7_158 : Cond.selects RX12 yX12_tick yX12_tick ∈ kG := kt7 158 rfl rfl
theorem wt7_159 : Cond.code yX12_tick cX12_tick 1 (some .int) ∈ kG := kt7 159 rfl rfl
theorem wt4_189 : Cond.methodLink RL 99 yX11_undo ∈ kG := kt4 189 rfl rfl
theorem wt4_190 : Cond.instanceMethod yX11_undo ∈ kG := kt4 190 rfl rfl
theorem wt4_191 : Cond.selects RX11 yX11_undo yX11_undo ∈ kG := kt4 191 rfl rfl
theorem wt4_192 : Cond.code yX11_undo cX11_undo 1 (some .int) ∈ kG := kt4 192 rfl rfl
theorem wt7_112 : Cond.methodLink RL 102 yX12_undo ∈ kG := kt7 112 rfl rfl
theorem wt7_113 : Cond.instanceMethod yX12_undo ∈ kG := kt7 113 rfl rfl
theorem wt7_114 : Cond.selects RX12 yX12_undo yX12_undo ∈ kG := kt7 114 rfl rfl
theorem wt7_115 : Cond.code yX12_undo cX12_undo 3 (some .int) ∈ kG := kt7 115 rfl rfl
theorem wt4_197 : Cond.methodLink RL 103 yX11_longest ∈ kG := kt4 197 rfl rfl
theorem wt4_198 : Cond.instanceMethod yX11_longest ∈ kG := kt4 198 rfl rfl
theorem wt4_199 : Cond.selects RX11 yX11_longest yX11_longest ∈ kG := kt4 199 rfl rfl
theorem wt4_200 : Cond.code yX11_longest cX11_longest 1 (some .int) ∈ kG := kt4 200 rfl rfl
theorem wt7_175 : Cond.methodLink RL 106 yX12_longest ∈ kG := kt7 175 rfl rfl
theorem wt7_176 : Cond.instanceMethod yX12_longest ∈ kG := kt7 176 rfl rfl
theorem wt7_177 : Cond.selects RX12 yX12_longest yX12_longest ∈ kG := kt7 177 rfl rfl
theorem wt7_178 : Cond.code yX12_longest cX12_longest 3 (some .int) ∈ kG := kt7 178 rfl rfl
theorem wt4_201 : Cond.methodLink RL 107 yX11_rows ∈ kG := kt4 201 rfl rfl
theorem wt4_202 : Cond.instanceMethod yX11_rows ∈ kG := kt4 202 rfl rfl
theorem wt4_203 : Cond.selects RX11 yX11_rows yX11_rows ∈ kG := kt4 203 rfl rfl
theorem wt4_204 : Cond.code yX11_rows cX11_rows 3 (some .int) ∈ kG := kt4 204 rfl rfl
theorem wt7_179 : Cond.methodLink RL 110 yX12_rows ∈ kG := kt7 179 rfl rfl
theorem wt7_180 : Cond.instanceMethod yX12_rows ∈ kG := kt7 180 rfl rfl
theorem wt7_181 : Cond.selects RX12 yX12_rows yX12_rows ∈ kG := kt7 181 rfl rfl
theorem wt7_182 : Cond.code yX12_rows cX12_rows 7 (some .int) ∈ kG := kt7 182 rfl rfl
theorem wt4_224 : Cond.methodLink RL 111 yX11_plan ∈ kG := kt4 224 rfl rfl
theorem wt4_225 : Cond.instanceMethod yX11_plan ∈ kG := kt4 225 rfl rfl
theorem wt4_226 : Cond.selects RX11 yX11_plan yX11_plan ∈ kG := kt4 226 rfl rfl
theorem wt4_227 : Cond.code yX11_plan cX11_plan 2 (some .int) ∈ kG := kt4 227 rfl rfl
theorem wt7_195 : Cond.methodLink RL 114 yX12_plan ∈ kG := kt7 195 rfl rfl
theorem wt5_28 : Cond.methodLink RL 115 yX11_hands ∈ kG := kt5 28 rfl rfl
theorem wt5_29 : Cond.instanceMethod yX11_hands ∈ kG := kt5 29 rfl rfl
theorem wt5_30 : Cond.selects RX11 yX11_hands yX11_hands ∈ kG := kt5 30 rfl rfl
theorem wt5_31 : Cond.code yX11_hands cX11_hands 3 (some .int) ∈ kG := kt5 31 rfl rfl
theorem wt7_227 : Cond.methodLink RL 118 yX12_hands ∈ kG := kt7 227 rfl rfl
theorem wt7_228 : Cond.instanceMethod yX12_hands ∈ kG := kt7 228 rfl rfl
theorem wt7_229 : Cond.selects RX12 yX12_hands yX12_hands ∈ kG := kt7 229 rfl rfl
theorem wt7_230 : Cond.code yX12_hands cX12_hands 4 (some .int) ∈ kG := kt7 230 rfl rfl
theorem wt5_43 : Cond.methodLink RL 119 yX11_taught ∈ kG := kt5 43 rfl rfl
theorem wt5_44 : Cond.instanceMethod yX11_taught ∈ kG := kt5 44 rfl rfl
theorem wt5_45 : Cond.selects RX11 yX11_taught yX11_taught ∈ kG := kt5 45 rfl rfl
theorem wt5_46 : Cond.code yX11_taught cX11_taught 2 (some .int) ∈ kG := kt5 46 rfl rfl
theorem wt7_231 : Cond.methodLink RL 122 yX12_taught ∈ kG := kt7 231 rfl rfl
theorem wt7_232 : Cond.instanceMethod yX12_taught ∈ kG := kt7 232 rfl rfl
theorem wt7_233 : Cond.selects RX12 yX12_taught yX12_taught ∈ kG := kt7 233 rfl rfl
theorem wt7_234 : Cond.code yX12_taught cX12_taught 8 (some .int) ∈ kG := kt7 234 rfl rfl
theorem wt5_60 : Cond.methodLink RL 123 yX11_unseen ∈ kG := kt5 60 rfl rfl
theorem wt5_61 : Cond.instanceMethod yX11_unseen ∈ kG := kt5 61 rfl rfl
theorem wt5_62 : Cond.selects RX11 yX11_unseen yX11_unseen ∈ kG := kt5 62 rfl rfl
theorem wt5_63 : Cond.code yX11_unseen cX11_unseen 2 (some .long) ∈ kG := kt5 63 rfl rfl
theorem wt8_0 : Cond.methodLink RL 127 yX12_unseen ∈ kG := kt8 0 rfl rfl
theorem wt8_1 : Cond.instanceMethod yX12_unseen ∈ kG := kt8 1 rfl rfl
theorem wt8_2 : Cond.selects RX12 yX12_unseen yX12_unseen ∈ kG := kt8 2 rfl rfl
theorem wt8_3 : Cond.code yX12_unseen cX12_unseen 6 (some .long) ∈ kG := kt8 3 rfl rfl
theorem wt5_77 : Cond.methodLink RL 128 yX11_sight ∈ kG := kt5 77 rfl rfl
theorem wt5_78 : Cond.instanceMethod yX11_sight ∈ kG := kt5 78 rfl rfl
theorem wt5_79 : Cond.selects RX11 yX11_sight yX11_sight ∈ kG := kt5 79 rfl rfl
theorem wt5_80 : Cond.code yX11_sight cX11_sight 4 (some .int) ∈ kG := kt5 80 rfl rfl
theorem wt8_7 : Cond.methodLink RL 131 yX12_sight ∈ kG := kt8 7 rfl rfl
theorem wt8_8 : Cond.instanceMethod yX12_sight ∈ kG := kt8 8 rfl rfl
theorem wt8_9 : Cond.selects RX12 yX12_sight yX12_sight ∈ kG := kt8 9 rfl rfl
theorem wt8_10 : Cond.code yX12_sight cX12_sight 5 (some .int) ∈ kG := kt8 10 rfl rfl
theorem wt5_81 : Cond.methodLink RL 132 yX11_forget ∈ kG := kt5 81 rfl rfl
theorem wt5_82 : Cond.instanceMethod yX11_forget ∈ kG := kt5 82 rfl rfl
theorem wt5_83 : Cond.selects RX11 yX11_forget yX11_forget ∈ kG := kt5 83 rfl rfl
theorem wt5_84 : Cond.code yX11_forget cX11_forget 2 (some .int) ∈ kG := kt5 84 rfl rfl
theorem wt8_11 : Cond.methodLink RL 135 yX12_forget ∈ kG := kt8 11 rfl rfl
theorem wt8_12 : Cond.instanceMethod yX12_forget ∈ kG := kt8 12 rfl rfl
theorem wt8_13 : Cond.selects RX12 yX12_forget yX12_forget ∈ kG := kt8 13 rfl rfl
theorem wt8_14 : Cond.code yX12_forget cX12_forget 2 (some .int) ∈ kG := kt8 14 rfl rfl
theorem wt5_85 : Cond.methodLink RL 136 yX11_whose ∈ kG := kt5 85 rfl rfl
theorem wt5_86 : Cond.instanceMethod yX11_whose ∈ kG := kt5 86 rfl rfl
theorem wt5_87 : Cond.selects RX11 yX11_whose yX11_whose ∈ kG := kt5 87 rfl rfl
theorem wt5_88 : Cond.code yX11_whose cX11_whose 2 (some .int) ∈ kG := kt5 88 rfl rfl
theorem wt8_15 : Cond.methodLink RL 139 yX12_whose ∈ kG := kt8 15 rfl rfl
theorem wt8_16 : Cond.instanceMethod yX12_whose ∈ kG := kt8 16 rfl rfl
theorem wt8_17 : Cond.selects RX12 yX12_whose yX12_whose ∈ kG := kt8 17 rfl rfl
theorem wt8_18 : Cond.code yX12_whose cX12_whose 4 (some .int) ∈ kG := kt8 18 rfl rfl
theorem wt5_101 : Cond.methodLink RL 140 yX11_look ∈ kG := kt5 101 rfl rfl
theorem wt5_102 : Cond.instanceMethod yX11_look ∈ kG := kt5 102 rfl rfl
theorem wt5_103 : Cond.selects RX11 yX11_look yX11_look ∈ kG := kt5 103 rfl rfl
theorem wt5_104 : Cond.code yX11_look cX11_look 2 (some .int) ∈ kG := kt5 104 rfl rfl
theorem wt8_35 : Cond.methodLink RL 143 yX12_look ∈ kG := kt8 35 rfl rfl
theorem wt8_36 : Cond.instanceMethod yX12_look ∈ kG := kt8 36 rfl rfl
theorem wt8_37 : Cond.selects RX12 yX12_look yX12_look ∈ kG := kt8 37 rfl rfl
theorem wt8_38 : Cond.code yX12_look cX12_look 8 (some .int) ∈ kG := kt8 38 rfl rfl
theorem wt5_114 : Cond.methodLink RL 144 yX11_nights ∈ kG := kt5 114 rfl rfl
theorem wt5_115 : Cond.instanceMethod yX11_nights ∈ kG := kt5 115 rfl rfl
theorem wt5_116 : Cond.selects RX11 yX11_nights yX11_nights ∈ kG := kt5 116 rfl rfl
theorem wt5_117 : Cond.code yX11_nights cX11_nights 3 (some .int) ∈ kG := kt5 117 rfl rfl
theorem wt8_67 : Cond.methodLink RL 147 yX12_nights ∈ kG := kt8 67 rfl rfl
theorem wt8_68 : Cond.instanceMethod yX12_nights ∈ kG := kt8 68 rfl rfl
theorem wt8_69 : Cond.selects RX12 yX12_nights yX12_nights ∈ kG := kt8 69 rfl rfl
theorem wt8_70 : Cond.code yX12_nights cX12_nights 6 (some .int) ∈ kG := kt8 70 rfl rfl
theorem wt5_129 : Cond.methodLink RL 148 yX11_drawn ∈ kG := kt5 129 rfl rfl
theorem wt5_130 : Cond.instanceMethod yX11_drawn ∈ kG := kt5 130 rfl rfl
theorem wt5_131 : Cond.selects RX11 yX11_drawn yX11_drawn ∈ kG := kt5 131 rfl rfl
theorem wt5_132 : Cond.code yX11_drawn cX11_drawn 3 (some .int) ∈ kG := kt5 132 rfl rfl
theorem wt8_78 : Cond.methodLink RL 151 yX12_drawn ∈ kG := kt8 78 rfl rfl
theorem wt8_79 : Cond.instanceMethod yX12_drawn ∈ kG := kt8 79 rfl rfl
theorem wt8_80 : Cond.selects RX12 yX12_drawn yX12_drawn ∈ kG := kt8 80 rfl rfl
theorem wt8_81 : Cond.code yX12_drawn cX12_drawn 3 (some .int) ∈ kG := kt8 81 rfl rfl
theorem wt5_142 : Cond.methodLink RL 156 yX11_back ∈ kG := kt5 142 rfl rfl
theorem wt5_143 : Cond.instanceMethod yX11_back ∈ kG := kt5 143 rfl rfl
theorem wt5_144 : Cond.selects RX11 yX11_back yX11_back ∈ kG := kt5 144 rfl rfl
theorem wt5_145 : Cond.code yX11_back cX11_back 2 (some .int) ∈ kG := kt5 145 rfl rfl
theorem wt6_80 : Cond.methodLink RL 159 yX12_back ∈ kG := kt6 80 rfl rfl
theorem wt6_81 : Cond.instanceMethod yX12_back ∈ kG := kt6 81 rfl rfl
theorem wt6_82 : Cond.selects RX12 yX12_back yX12_back ∈ kG := kt6 82 rfl rfl
theorem wt6_83 : Cond.code yX12_back cX12_back 3 (some .int) ∈ kG := kt6 83 rfl rfl
theorem wt5_146 : Cond.methodLink RL 160 yX11_count ∈ kG := kt5 146 rfl rfl
theorem wt5_147 : Cond.instanceMethod yX11_count ∈ kG := kt5 147 rfl rfl
theorem wt5_148 : Cond.selects RX11 yX11_count yX11_count ∈ kG := kt5 148 rfl rfl
theorem wt5_149 : Cond.code yX11_count cX11_count 2 (some .int) ∈ kG := kt5 149 rfl rfl
theorem wt8_82 : Cond.methodLink RL 163 yX12_count ∈ kG := kt8 82 rfl rfl
theorem wt8_83 : Cond.instanceMethod yX12_count ∈ kG := kt8 83 rfl rfl
theorem wt8_84 : Cond.selects RX12 yX12_count yX12_count ∈ kG := kt8 84 rfl rfl
theorem wt8_85 : Cond.code yX12_count cX12_count 2 (some .int) ∈ kG := kt8 85 rfl rfl
theorem wt5_150 : Cond.methodLink RL 164 yX11_status ∈ kG := kt5 150 rfl rfl
theorem wt5_151 : Cond.instanceMethod yX11_status ∈ kG := kt5 151 rfl rfl
theorem wt5_152 : Cond.selects RX11 yX11_status yX11_status ∈ kG := kt5 152 rfl rfl
theorem wt5_153 : Cond.code yX11_status cX11_status 1 (some .int) ∈ kG := kt5 153 rfl rfl
theorem wt8_86 : Cond.methodLink RL 167 yX12_status ∈ kG := kt8 86 rfl rfl
theorem wt8_87 : Cond.instanceMethod yX12_status ∈ kG := kt8 87 rfl rfl
theorem wt8_88 : Cond.selects RX12 yX12_status yX12_status ∈ kG := kt8 88 rfl rfl
theorem wt8_89 : Cond.code yX12_status cX12_status 1 (some .int) ∈ kG := kt8 89 rfl rfl
