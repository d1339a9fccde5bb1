theorem dL_law_196 : decode cL_law 196 = .ok (.aload_n 1, 1) := by decide +kernel
theorem dL_law_197 : decode cL_law 197 = .ok (.aload_n 0, 1) := by decide +kernel
theorem dL_law_198 : decode cL_law 198 = .ok (.iload_n 3, 1) := by decide +kernel
theorem dL_law_199 : decode cL_law 199 = .ok (.iconst 1, 1) := by decide +kernel
theorem dL_law_200 : decode cL_law 200 = .ok (.iadd, 1) := by decide +kernel
theorem dL_law_201 : decode cL_law 201 = .ok (.iaload, 1) := by decide +kernel
theorem dL_law_202 : decode cL_law 202 = .ok (.aload_n 0, 1) := by decide +kernel
theorem dL_law_203 : decode cL_law 203 = .ok (.iload_n 3, 1) := by decide +kernel
theorem dL_law_204 : decode cL_law 204 = .ok (.iconst 2, 1) := by decide +kernel
theorem dL_law_205 : decode cL_law 205 = .ok (.iadd, 1) := by decide +kernel
theorem dL_law_206 : decode cL_law 206 = .ok (.iaload, 1) := by decide +kernel
theorem dL_law_207 : decode cL_law 207 = .ok (.aload_n 0, 1) := by decide +kernel
theorem dL_law_208 : decode cL_law 208 = .ok (.iload_n 3, 1) := by decide +kernel
theorem dL_law_209 : decode cL_law 209 = .ok (.iconst 3, 1) := by decide +kernel
theorem dL_law_210 : decode cL_law 210 = .ok (.iadd, 1) := by decide +kernel
theorem dL_law_211 : decode cL_law 211 = .ok (.iaload, 1) := by decide +kernel
theorem dL_law_212 : decode cL_law 212 = .ok (.aload_n 0, 1) := by decide +kernel
theorem dL_law_213 : decode cL_law 213 = .ok (.iload_n 3, 1) := by decide +kernel
theorem dL_law_214 : decode cL_law 214 = .ok (.iconst 4, 1) := by decide +kernel
theorem dL_law_215 : decode cL_law 215 = .ok (.iadd, 1) := by decide +kernel
theorem dL_law_216 : decode cL_law 216 = .ok (.iaload, 1) := by decide +kernel
theorem dL_law_217 : decode cL_law 217 = .ok (.invokevirtual 13, 3) := by decide +kernel
theorem dL_law_220 : decode cL_law 220 = .ok (.pop, 1) := by decide +kernel
theorem dL_law_221 : decode cL_law 221 = .ok (.aload_n 2, 1) := by decide +kernel
theorem dL_law_222 : decode cL_law 222 = .ok (.aload_n 0, 1) := by decide +kernel
theorem dL_law_223 : decode cL_law 223 = .ok (.iload_n 3, 1) := by decide +kernel
theorem dL_law_224 : decode cL_law 224 = .ok (.iconst 1, 1) := by decide +kernel
theorem dL_law_225 : decode cL_law 225 = .ok (.iadd, 1) := by decide +kernel
theorem dL_law_226 : decode cL_law 226 = .ok (.iaload, 1) := by decide +kernel
theorem dL_law_227 : decode cL_law 227 = .ok (.aload_n 0, 1) := by decide +kernel
theorem dL_law_228 : decode cL_law 228 = .ok (.iload_n 3, 1) := by decide +kernel
theorem dL_law_229 : decode cL_law 229 = .ok (.iconst 2, 1) := by decide +kernel
theorem dL_law_230 : decode cL_law 230 = .ok (.iadd, 1) := by decide +kernel
theorem dL_law_231 : decode cL_law 231 = .ok (.iaload, 1) := by decide +kernel
theorem dL_law_232 : decode cL_law 232 = .ok (.aload_n 0, 1) := by decide +kernel
theorem dL_law_233 : decode cL_law 233 = .ok (.iload_n 3, 1) := by decide +kernel
theorem dL_law_234 : decode cL_law 234 = .ok (.iconst 3, 1) := by decide +kernel
theorem dL_law_235 : decode cL_law 235 = .ok (.iadd, 1) := by decide +kernel
theorem dL_law_236 : decode cL_law 236 = .ok (.iaload, 1) := by decide +kernel
theorem dL_law_237 : decode cL_law 237 = .ok (.aload_n 0, 1) := by decide +kernel
theorem dL_law_238 : decode cL_law 238 = .ok (.iload_n 3, 1) := by decide +kernel
theorem dL_law_239 : decode cL_law 239 = .ok (.iconst 4, 1) := by decide +kernel
theorem dL_law_240 : decode cL_law 240 = .ok (.iadd, 1) := by decide +kernel
theorem dL_law_241 : decode cL_law 241 = .ok (.iaload, 1) := by decide +kernel
theorem dL_law_242 : decode cL_law 242 = .ok (.invokevirtual 17, 3) := by decide +kernel
theorem dL_law_245 : decode cL_law 245 = .ok (.pop, 1) := by decide +kernel
theorem dL_law_246 : decode cL_law 246 = .ok (.goto 881, 3) := by decide +kernel
theorem dL_law_249 : decode cL_law 249 = .ok (.aload_n 1, 1) := by decide +kernel
theorem dL_law_250 : decode cL_law 250 = .ok (.aload_n 0, 1) := by decide +kernel
theorem dL_law_251 : decode cL_law 251 = .ok (.iload_n 3, 1) := by decide +kernel
theorem dL_law_252 : decode cL_law 252 = .ok (.iconst 1, 1) := by decide +kernel
theorem dL_law_253 : decode cL_law 253 = .ok (.iadd, 1) := by decide +kernel
theorem dL_law_254 : decode cL_law 254 = .ok (.iaload, 1) := by decide +kernel
theorem dL_law_255 : decode cL_law 255 = .ok (.aload_n 0, 1) := by decide +kernel
theorem dL_law_256 : decode cL_law 256 = .ok (.iload_n 3, 1) := by decide +kernel
theorem dL_law_257 : decode cL_law 257 = .ok (.iconst 2, 1) := by decide +kernel
theorem dL_law_258 : decode cL_law 258 = .ok (.iadd, 1) := by decide +kernel
theorem dL_law_259 : decode cL_law 259 = .ok (.iaload, 1) := by decide +kernel
theorem dL_law_260 : decode cL_law 260 = .ok (.invokevirtual 18, 3) := by decide +kernel
theorem dL_law_263 : decode cL_law 263 = .ok (.aload_n 2, 1) := by decide +kernel
theorem dL_law_264 : decode cL_law 264 = .ok (.aload_n 0, 1) := by decide +kernel
theorem dL_law_265 : decode cL_law 265 = .ok (.iload_n 3, 1) := by decide +kernel
theorem dL_law_266 : decode cL_law 266 = .ok (.iconst 1, 1) := by decide +kernel
theorem dL_law_267 : decode cL_law 267 = .ok (.iadd, 1) := by decide +kernel
theorem dL_law_268 : decode cL_law 268 = .ok (.iaload, 1) := by decide +kernel
theorem dL_law_269 : decode cL_law 269 = .ok (.aload_n 0, 1) := by decide +kernel
theorem dL_law_270 : decode cL_law 270 = .ok (.iload_n 3, 1) := by decide +kernel
theorem dL_law_271 : decode cL_law 271 = .ok (.iconst 2, 1) := by decide +kernel
theorem dL_law_272 : decode cL_law 272 = .ok (.iadd, 1) := by decide +kernel
theorem dL_law_273 : decode cL_law 273 = .ok (.iaload, 1) := by decide +kernel
theorem dL_law_274 : decode cL_law 274 = .ok (.invokevirtual 22, 3) := by decide +kernel
theorem dL_law_277 : decode cL_law 277 = .ok (.if_icmp .eq 850, 3) := by decide +kernel
theorem dL_law_282 : decode cL_law 282 = .ok (.aload_n 1, 1) := by decide +kernel
theorem dL_law_283 : decode cL_law 283 = .ok (.aload_n 0, 1) := by decide +kernel
theorem dL_law_284 : decode cL_law 284 = .ok (.iload_n 3, 1) := by decide +kernel
theorem dL_law_285 : decode cL_law 285 = .ok (.iconst 1, 1) := by decide +kernel
theorem dL_law_286 : decode cL_law 286 = .ok (.iadd, 1) := by decide +kernel
theorem dL_law_287 : decode cL_law 287 = .ok (.iaload, 1) := by decide +kernel
theorem dL_law_288 : decode cL_law 288 = .ok (.aload_n 0, 1) := by decide +kernel
theorem dL_law_289 : decode cL_law 289 = .ok (.iload_n 3, 1) := by decide +kernel
theorem dL_law_290 : decode cL_law 290 = .ok (.iconst 2, 1) := by decide +kernel
theorem dL_law_291 : decode cL_law 291 = .ok (.iadd, 1) := by decide +kernel
theorem dL_law_292 : decode cL_law 292 = .ok (.iaload, 1) := by decide +kernel
theorem dL_law_293 : decode cL_law 293 = .ok (.invokevirtual 23, 3) := by decide +kernel
theorem dL_law_296 : decode cL_law 296 = .ok (.pop, 1) := by decide +kernel
theorem dL_law_297 : decode cL_law 297 = .ok (.aload_n 2, 1) := by decide +kernel
theorem dL_law_298 : decode cL_law 298 = .ok (.aload_n 0, 1) := by decide +kernel
theorem dL_law_299 : decode cL_law 299 = .ok (.iload_n 3, 1) := by decide +kernel
theorem dL_law_300 : decode cL_law 300 = .ok (.iconst 1, 1) := by decide +kernel
theorem dL_law_301 : decode cL_law 301 = .ok (.iadd, 1) := by decide +kernel
theorem dL_law_302 : decode cL_law 302 = .ok (.iaload, 1) := by decide +kernel
theorem dL_law_303 : decode cL_law 303 = .ok (.aload_n 0, 1) := by decide +kernel
theorem dL_law_304 : decode cL_law 304 = .ok (.iload_n 3, 1) := by decide +kernel
theorem dL_law_305 : decode cL_law 305 = .ok (.iconst 2, 1) := by decide +kernel
theorem dL_law_306 : decode cL_law 306 = .ok (.iadd, 1) := by decide +kernel
theorem dL_law_307 : decode cL_law 307 = .ok (.iaload, 1) := by decide +kernel
theorem dL_law_308 : decode cL_law 308 = .ok (.invokevirtual 26, 3) := by decide +kernel
theorem dL_law_311 : decode cL_law 311 = .ok (.pop, 1) := by decide +kernel
theorem dL_law_312 : decode cL_law 312 = .ok (.goto 815, 3) := by decide +kernel
theorem dL_law_315 : decode cL_law 315 = .ok (.aload_n 1, 1) := by decide +kernel
theorem dL_law_316 : decode cL_law 316 = .ok (.aload_n 0, 1) := by decide +kernel
theorem dL_law_317 : decode cL_law 317 = .ok (.iload_n 3, 1) := by decide +kernel
theorem dL_law_318 : decode cL_law 318 = .ok (.iconst 1, 1) := by decide +kernel
theorem dL_law_319 : decode cL_law 319 = .ok (.iadd, 1) := by decide +kernel
theorem dL_law_320 : decode cL_law 320 = .ok (.iaload, 1) := by decide +kernel
theorem dL_law_321 : decode cL_law 321 = .ok (.aload_n 0, 1) := by decide +kernel
theorem dL_law_322 : decode cL_law 322 = .ok (.iload_n 3, 1) := by decide +kernel
theorem dL_law_323 : decode cL_law 323 = .ok (.iconst 2, 1) := by decide +kernel
theorem dL_law_324 : decode cL_law 324 = .ok (.iadd, 1) := by decide +kernel
theorem dL_law_325 : decode cL_law 325 = .ok (.iaload, 1) := by decide +kernel
theorem dL_law_326 : decode cL_law 326 = .ok (.invokevirtual 27, 3) := by decide +kernel
theorem dL_law_329 : decode cL_law 329 = .ok (.pop, 1) := by decide +kernel
theorem dL_law_330 : decode cL_law 330 = .ok (.aload_n 2, 1) := by decide +kernel
theorem dL_law_331 : decode cL_law 331 = .ok (.aload_n 0, 1) := by decide +kernel
theorem dL_law_332 : decode cL_law 332 = .ok (.iload_n 3, 1) := by decide +kernel
theorem dL_law_333 : decode cL_law 333 = .ok (.iconst 1, 1) := by decide +kernel
theorem dL_law_334 : decode cL_law 334 = .ok (.iadd, 1) := by decide +kernel
theorem dL_law_335 : decode cL_law 335 = .ok (.iaload, 1) := by decide +kernel
theorem dL_law_336 : decode cL_law 336 = .ok (.aload_n 0, 1) := by decide +kernel
theorem dL_law_337 : decode cL_law 337 = .ok (.iload_n 3, 1) := by decide +kernel
theorem dL_law_338 : decode cL_law 338 = .ok (.iconst 2, 1) := by decide +kernel
theorem dL_law_339 : decode cL_law 339 = .ok (.iadd, 1) := by decide +kernel
theorem dL_law_340 : decode cL_law 340 = .ok (.iaload, 1) := by decide +kernel
theorem dL_law_341 : decode cL_law 341 = .ok (.invokevirtual 30, 3) := by decide +kernel
theorem dL_law_344 : decode cL_law 344 = .ok (.pop, 1) := by decide +kernel
theorem dL_law_345 : decode cL_law 345 = .ok (.goto 782, 3) := by decide +kernel
theorem dL_law_348 : decode cL_law 348 = .ok (.aload_n 1, 1) := by decide +kernel
theorem dL_law_349 : decode cL_law 349 = .ok (.aload_n 0, 1) := by decide +kernel
theorem dL_law_350 : decode cL_law 350 = .ok (.iload_n 3, 1) := by decide +kernel
theorem dL_law_351 : decode cL_law 351 = .ok (.iconst 1, 1) := by decide +kernel
theorem dL_law_352 : decode cL_law 352 = .ok (.iadd, 1) := by decide +kernel
theorem dL_law_353 : decode cL_law 353 = .ok (.iaload, 1) := by decide +kernel
theorem dL_law_354 : decode cL_law 354 = .ok (.aload_n 0, 1) := by decide +kernel
theorem dL_law_355 : decode cL_law 355 = .ok (.iload_n 3, 1) := by decide +kernel
theorem dL_law_356 : decode cL_law 356 = .ok (.iconst 2, 1) := by decide +kernel
theorem dL_law_357 : decode cL_law 357 = .ok (.iadd, 1) := by decide +kernel
theorem dL_law_358 : decode cL_law 358 = .ok (.iaload, 1) := by decide +kernel
theorem dL_law_359 : decode cL_law 359 = .ok (.aload_n 0, 1) := by decide +kernel
theorem dL_law_360 : decode cL_law 360 = .ok (.iload_n 3, 1) := by decide +kernel
theorem dL_law_361 : decode cL_law 361 = .ok (.iconst 3, 1) := by decide +kernel
theorem dL_law_362 : decode cL_law 362 = .ok (.iadd, 1) := by decide +kernel
theorem dL_law_363 : decode cL_law 363 = .ok (.iaload, 1) := by decide +kernel
theorem dL_law_364 : decode cL_law 364 = .ok (.invokevirtual 31, 3) := by decide +kernel
theorem dL_law_367 : decode cL_law 367 = .ok (.pop, 1) := by decide +kernel
theorem dL_law_368 : decode cL_law 368 = .ok (.aload_n 2, 1) := by decide +kernel
theorem dL_law_369 : decode cL_law 369 = .ok (.aload_n 0, 1) := by decide +kernel
theorem dL_law_370 : decode cL_law 370 = .ok (.iload_n 3, 1) := by decide +kernel
theorem dL_law_371 : decode cL_law 371 = .ok (.iconst 1, 1) := by decide +kernel
theorem dL_law_372 : decode cL_law 372 = .ok (.iadd, 1) := by decide +kernel
theorem dL_law_373 : decode cL_law 373 = .ok (.iaload, 1) := by decide +kernel
theorem dL_law_374 : decode cL_law 374 = .ok (.aload_n 0, 1) := by decide +kernel
theorem dL_law_375 : decode cL_law 375 = .ok (.iload_n 3, 1) := by decide +kernel
theorem dL_law_376 : decode cL_law 376 = .ok (.iconst 2, 1) := by decide +kernel
theorem dL_law_377 : decode cL_law 377 = .ok (.iadd, 1) := by decide +kernel
theorem dL_law_378 : decode cL_law 378 = .ok (.iaload, 1) := by decide +kernel
theorem dL_law_379 : decode cL_law 379 = .ok (.aload_n 0, 1) := by decide +kernel
theorem dL_law_380 : decode cL_law 380 = .ok (.iload_n 3, 1) := by decide +kernel
theorem dL_law_381 : decode cL_law 381 = .ok (.iconst 3, 1) := by decide +kernel
theorem dL_law_382 : decode cL_law 382 = .ok (.iadd, 1) := by decide +kernel
theorem dL_law_383 : decode cL_law 383 = .ok (.iaload, 1) := by decide +kernel
theorem dL_law_384 : decode cL_law 384 = .ok (.invokevirtual 35, 3) := by decide +kernel
theorem dL_law_387 : decode cL_law 387 = .ok (.pop, 1) := by decide +kernel
theorem dL_law_388 : decode cL_law 388 = .ok (.goto 739, 3) := by decide +kernel
theorem dL_law_391 : decode cL_law 391 = .ok (.aload_n 1, 1) := by decide +kernel
theorem dL_law_392 : decode cL_law 392 = .ok (.aload_n 0, 1) := by decide +kernel
theorem dL_law_393 : decode cL_law 393 = .ok (.iload_n 3, 1) := by decide +kernel
theorem dL_law_394 : decode cL_law 394 = .ok (.iconst 1, 1) := by decide +kernel
theorem dL_law_395 : decode cL_law 395 = .ok (.iadd, 1) := by decide +kernel
theorem dL_law_396 : decode cL_law 396 = .ok (.iaload, 1) := by decide +kernel
theorem dL_law_397 : decode cL_law 397 = .ok (.aload_n 0, 1) := by decide +kernel
theorem dL_law_398 : decode cL_law 398 = .ok (.iload_n 3, 1) := by decide +kernel
theorem dL_law_399 : decode cL_law 399 = .ok (.iconst 2, 1) := by decide +kernel
theorem dL_law_400 : decode cL_law 400 = .ok (.iadd, 1) := by decide +kernel
theorem dL_law_401 : decode cL_law 401 = .ok (.iaload, 1) := by decide +kernel
theorem dL_law_402 : decode cL_law 402 = .ok (.invokevirtual 36, 3) := by decide +kernel
theorem dL_law_405 : decode cL_law 405 = .ok (.pop, 1) := by decide +kernel
theorem dL_law_406 : decode cL_law 406 = .ok (.aload_n 2, 1) := by decide +kernel
theorem dL_law_407 : decode cL_law 407 = .ok (.aload_n 0, 1) := by decide +kernel
theorem dL_law_408 : decode cL_law 408 = .ok (.iload_n 3, 1) := by decide +kernel
theorem dL_law_409 : decode cL_law 409 = .ok (.iconst 1, 1) := by decide +kernel
theorem dL_law_410 : decode cL_law 410 = .ok (.iadd, 1) := by decide +kernel
theorem dL_law_411 : decode cL_law 411 = .ok (.iaload, 1) := by decide +kernel
theorem dL_law_412 : decode cL_law 412 = .ok (.aload_n 0, 1) := by decide +kernel
theorem dL_law_413 : decode cL_law 413 = .ok (.iload_n 3, 1) := by decide +kernel
theorem dL_law_414 : decode cL_law 414 = .ok (.iconst 2, 1) := by decide +kernel
theorem dL_law_415 : decode cL_law 415 = .ok (.iadd, 1) := by decide +kernel
theorem dL_law_416 : decode cL_law 416 = .ok (.iaload, 1) := by decide +kernel
theorem dL_law_417 : decode cL_law 417 = .ok (.invokevirtual 39, 3) := by decide +kernel
theorem dL_law_420 : decode cL_law 420 = .ok (.pop, 1) := by decide +kernel
theorem dL_law_421 : decode cL_law 421 = .ok (.goto 706, 3) := by decide +kernel
theorem dL_law_424 : decode cL_law 424 = .ok (.aload_n 1, 1) := by decide +kernel
theorem dL_law_425 : decode cL_law 425 = .ok (.aload_n 0, 1) := by decide +kernel
theorem dL_law_426 : decode cL_law 426 = .ok (.iload_n 3, 1) := by decide +kernel
theorem dL_law_427 : decode cL_law 427 = .ok (.iconst 1, 1) := by decide +kernel
theorem dL_law_428 : decode cL_law 428 = .ok (.iadd, 1) := by decide +kernel
theorem dL_law_429 : decode cL_law 429 = .ok (.iaload, 1) := by decide +kernel
theorem dL_law_430 : decode cL_law 430 = .ok (.aload_n 0, 1) := by decide +kernel
theorem dL_law_431 : decode cL_law 431 = .ok (.iload_n 3, 1) := by decide +kernel
theorem dL_law_432 : decode cL_law 432 = .ok (.iconst 2, 1) := by decide +kernel
theorem dL_law_433 : decode cL_law 433 = .ok (.iadd, 1) := by decide +kernel
theorem dL_law_434 : decode cL_law 434 = .ok (.iaload, 1) := by decide +kernel
theorem dL_law_435 : decode cL_law 435 = .ok (.aload_n 0, 1) := by decide +kernel
theorem dL_law_436 : decode cL_law 436 = .ok (.iload_n 3, 1) := by decide +kernel
theorem dL_law_437 : decode cL_law 437 = .ok (.iconst 3, 1) := by decide +kernel
theorem dL_law_438 : decode cL_law 438 = .ok (.iadd, 1) := by decide +kernel
theorem dL_law_439 : decode cL_law 439 = .ok (.iaload, 1) := by decide +kernel
theorem dL_law_440 : decode cL_law 440 = .ok (.aload_n 0, 1) := by decide +kernel
theorem dL_law_441 : decode cL_law 441 = .ok (.iload_n 3, 1) := by decide +kernel
theorem dL_law_442 : decode cL_law 442 = .ok (.iconst 4, 1) := by decide +kernel
theorem dL_law_443 : decode cL_law 443 = .ok (.iadd, 1) := by decide +kernel
theorem dL_law_444 : decode cL_law 444 = .ok (.iaload, 1) := by decide +kernel
theorem dL_law_445 : decode cL_law 445 = .ok (.aload_n 0, 1) := by decide +kernel
theorem dL_law_446 : decode cL_law 446 = .ok (.iload_n 3, 1) := by decide +kernel
theorem dL_law_447 : decode cL_law 447 = .ok (.iconst 5, 1) := by decide +kernel
theorem dL_law_448 : decode cL_law 448 = .ok (.iadd, 1) := by decide +kernel
theorem dL_law_449 : decode cL_law 449 = .ok (.iaload, 1) := by decide +kernel
theorem dL_law_450 : decode cL_law 450 = .ok (.invokevirtual 40, 3) := by decide +kernel
theorem dL_law_453 : decode cL_law 453 = .ok (.pop, 1) := by decide +kernel
theorem dL_law_454 : decode cL_law 454 = .ok (.aload_n 2, 1) := by decide +kernel
theorem dL_law_455 : decode cL_law 455 = .ok (.aload_n 0, 1) := by decide +kernel
theorem dL_law_456 : decode cL_law 456 = .ok (.iload_n 3, 1) := by decide +kernel
theorem dL_law_457 : decode cL_law 457 = .ok (.iconst 1, 1) := by decide +kernel
theorem dL_law_458 : decode cL_law 458 = .ok (.iadd, 1) := by decide +kernel
theorem dL_law_459 : decode cL_law 459 = .ok (.iaload, 1) := by decide +kernel
theorem dL_law_460 : decode cL_law 460 = .ok (.aload_n 0, 1) := by decide +kernel
theorem dL_law_461 : decode cL_law 461 = .ok (.iload_n 3, 1) := by decide +kernel
theorem dL_law_462 : decode cL_law 462 = .ok (.iconst 2, 1) := by decide +kernel
theorem dL_law_463 : decode cL_law 463 = .ok (.iadd, 1) := by decide +kernel
theorem dL_law_464 : decode cL_law 464 = .ok (.iaload, 1) := by decide +kernel
theorem dL_law_465 : decode cL_law 465 = .ok (.aload_n 0, 1) := by decide +kernel
theorem dL_law_466 : decode cL_law 466 = .ok (.iload_n 3, 1) := by decide +kernel
theorem dL_law_467 : decode cL_law 467 = .ok (.iconst 3, 1) := by decide +kernel
theorem dL_law_468 : decode cL_law 468 = .ok (.iadd, 1) := by decide +kernel
theorem dL_law_469 : decode cL_law 469 = .ok (.iaload, 1) := by decide +kernel
theorem dL_law_470 : decode cL_law 470 = .ok (.aload_n 0, 1) := by decide +kernel
theorem dL_law_471 : decode cL_law 471 = .ok (.iload_n 3, 1) := by decide +kernel
theorem dL_law_472 : decode cL_law 472 = .ok (.iconst 4, 1) := by decide +kernel
theorem dL_law_473 : decode cL_law 473 = .ok (.iadd, 1) := by decide +kernel
theorem dL_law_474 : decode cL_law 474 = .ok (.iaload, 1) := by decide +kernel
theorem dL_law_475 : decode cL_law 475 = .ok (.aload_n 0, 1) := by decide +kernel
theorem dL_law_476 : decode cL_law 476 = .ok (.iload_n 3, 1) := by decide +kernel
theorem dL_law_477 : decode cL_law 477 = .ok (.iconst 5, 1) := by decide +kernel
theorem dL_law_478 : decode cL_law 478 = .ok (.iadd, 1) := by decide +kernel
theorem dL_law_479 : decode cL_law 479 = .ok (.iaload, 1) := by decide +kernel
theorem dL_law_480 : decode cL_law 480 = .ok (.invokevirtual 44, 3) := by decide +kernel
theorem dL_law_483 : decode cL_law 483 = .ok (.pop, 1) := by decide +kernel
theorem dL_law_484 : decode cL_law 484 = .ok (.goto 643, 3) := by decide +kernel
theorem dL_law_487 : decode cL_law 487 = .ok (.aload_n 1, 1) := by decide +kernel
theorem dL_law_488 : decode cL_law 488 = .ok (.aload_n 0, 1) := by decide +kernel
theorem dL_law_489 : decode cL_law 489 = .ok (.iload_n 3, 1) := by decide +kernel
theorem dL_law_490 : decode cL_law 490 = .ok (.iconst 1, 1) := by decide +kernel
theorem dL_law_491 : decode cL_law 491 = .ok (.iadd, 1) := by decide +kernel
theorem dL_law_492 : decode cL_law 492 = .ok (.iaload, 1) := by decide +kernel
theorem dL_law_493 : decode cL_law 493 = .ok (.invokevirtual 45, 3) := by decide +kernel
theorem dL_law_496 : decode cL_law 496 = .ok (.pop, 1) := by decide +kernel
theorem dL_law_497 : decode cL_law 497 = .ok (.aload_n 2, 1) := by decide +kernel
theorem dL_law_498 : decode cL_law 498 = .ok (.aload_n 0, 1) := by decide +kernel
theorem dL_law_499 : decode cL_law 499 = .ok (.iload_n 3, 1) := by decide +kernel
theorem dL_law_500 : decode cL_law 500 = .ok (.iconst 1, 1) := by decide +kernel
theorem dL_law_501 : decode cL_law 501 = .ok (.iadd, 1) := by decide +kernel
theorem dL_law_502 : decode cL_law 502 = .ok (.iaload, 1) := by decide +kernel
theorem dL_law_503 : decode cL_law 503 = .ok (.invokevirtual 49, 3) := by decide +kernel
theorem dL_law_506 : decode cL_law 506 = .ok (.pop, 1) := by decide +kernel
theorem dL_law_507 : decode cL_law 507 = .ok (.goto 620, 3) := by decide +kernel
theorem dL_law_510 : decode cL_law 510 = .ok (.aload_n 1, 1) := by decide +kernel
theorem dL_law_511 : decode cL_law 511 = .ok (.invokevirtual 50, 3) := by decide +kernel
theorem dL_law_514 : decode cL_law 514 = .ok (.pop, 1) := by decide +kernel
theorem dL_law_515 : decode cL_law 515 = .ok (.aload_n 2, 1) := by decide +kernel
theorem dL_law_516 : decode cL_law 516 = .ok (.invokevirtual 54, 3) := by decide +kernel
theorem dL_law_519 : decode cL_law 519 = .ok (.pop, 1) := by decide +kernel
theorem dL_law_520 : decode cL_law 520 = .ok (.goto 607, 3) := by decide +kernel
theorem dL_law_523 : decode cL_law 523 = .ok (.aload_n 1, 1) := by decide +kernel
theorem dL_law_524 : decode cL_law 524 = .ok (.invokevirtual 55, 3) := by decide +kernel
theorem dL_law_527 : decode cL_law 527 = .ok (.pop, 1) := by decide +kernel
theorem dL_law_528 : decode cL_law 528 = .ok (.aload_n 2, 1) := by decide +kernel
theorem dL_law_529 : decode cL_law 529 = .ok (.invokevirtual 58, 3) := by decide +kernel
theorem dL_law_532 : decode cL_law 532 = .ok (.pop, 1) := by decide +kernel
theorem dL_law_533 : decode cL_law 533 = .ok (.goto 594, 3) := by decide +kernel
theorem dL_law_536 : decode cL_law 536 = .ok (.aload_n 1, 1) := by decide +kernel
theorem dL_law_537 : decode cL_law 537 = .ok (.invokevirtual 59, 3) := by decide +kernel
theorem dL_law_540 : decode cL_law 540 = .ok (.pop, 1) := by decide +kernel
theorem dL_law_541 : decode cL_law 541 = .ok (.aload_n 2, 1) := by decide +kernel
theorem dL_law_542 : decode cL_law 542 = .ok (.invokevirtual 62, 3) := by decide +kernel
theorem dL_law_545 : decode cL_law 545 = .ok (.pop, 1) := by decide +kernel
theorem dL_law_546 : decode cL_law 546 = .ok (.goto 581, 3) := by decide +kernel
theorem dL_law_549 : decode cL_law 549 = .ok (.aload_n 1, 1) := by decide +kernel
theorem dL_law_550 : decode cL_law 550 = .ok (.invokevirtual 63, 3) := by decide +kernel
theorem dL_law_553 : decode cL_law 553 = .ok (.pop, 1) := by decide +kernel
theorem dL_law_554 : decode cL_law 554 = .ok (.aload_n 2, 1) := by decide +kernel
theorem dL_law_555 : decode cL_law 555 = .ok (.invokevirtual 66, 3) := by decide +kernel
theorem dL_law_558 : decode cL_law 558 = .ok (.pop, 1) := by decide +kernel
theorem dL_law_559 : decode cL_law 559 = .ok (.goto 568, 3) := by decide +kernel
theorem dL_law_562 : decode cL_law 562 = .ok (.aload_n 1, 1) := by decide +kernel
theorem dL_law_563 : decode cL_law 563 = .ok (.invokevirtual 67, 3) := by decide +kernel
theorem dL_law_566 : decode cL_law 566 = .ok (.pop, 1) := by decide +kernel
theorem dL_law_567 : decode cL_law 567 = .ok (.aload_n 2, 1) := by decide +kernel
theorem dL_law_568 : decode cL_law 568 = .ok (.invokevirtual 70, 3) := by decide +kernel
theorem dL_law_571 : decode cL_law 571 = .ok (.pop, 1) := by decide +kernel
theorem dL_law_572 : decode cL_law 572 = .ok (.goto 555, 3) := by decide +kernel
theorem dL_law_575 : decode cL_law 575 = .ok (.aload_n 1, 1) := by decide +kernel
theorem dL_law_576 : decode cL_law 576 = .ok (.invokevirtual 71, 3) := by decide +kernel
theorem dL_law_579 : decode cL_law 579 = .ok (.pop, 1) := by decide +kernel
theorem dL_law_580 : decode cL_law 580 = .ok (.aload_n 2, 1) := by decide +kernel
theorem dL_law_581 : decode cL_law 581 = .ok (.invokevirtual 74, 3) := by decide +kernel
theorem dL_law_584 : decode cL_law 584 = .ok (.pop, 1) := by decide +kernel
theorem dL_law_585 : decode cL_law 585 = .ok (.goto 542, 3) := by decide +kernel
theorem dL_law_588 : decode cL_law 588 = .ok (.aload_n 1, 1) := by decide +kernel
theorem dL_law_589 : decode cL_law 589 = .ok (.aload_n 0, 1) := by decide +kernel
theorem dL_law_590 : decode cL_law 590 = .ok (.iload_n 3, 1) := by decide +kernel
theorem dL_law_591 : decode cL_law 591 = .ok (.iconst 1, 1) := by decide +kernel
theorem dL_law_592 : decode cL_law 592 = .ok (.iadd, 1) := by decide +kernel
theorem dL_law_593 : decode cL_law 593 = .ok (.iaload, 1) := by decide +kernel
theorem dL_law_594 : decode cL_law 594 = .ok (.invokevirtual 75, 3) := by decide +kernel
theorem dL_law_597 : decode cL_law 597 = .ok (.pop, 1) := by decide +kernel
theorem dL_law_598 : decode cL_law 598 = .ok (.aload_n 2, 1) := by decide +kernel
theorem dL_law_599 : decode cL_law 599 = .ok (.aload_n 0, 1) := by decide +kernel
theorem dL_law_600 : decode cL_law 600 = .ok (.iload_n 3, 1) := by decide +kernel
theorem dL_law_601 : decode cL_law 601 = .ok (.iconst 1, 1) := by decide +kernel
theorem dL_law_602 : decode cL_law 602 = .ok (.iadd, 1) := by decide +kernel
theorem dL_law_603 : decode cL_law 603 = .ok (.iaload, 1) := by decide +kernel
theorem dL_law_604 : decode cL_law 604 = .ok (.invokevirtual 78, 3) := by decide +kernel
theorem dL_law_607 : decode cL_law 607 = .ok (.pop, 1) := by decide +kernel
theorem dL_law_608 : decode cL_law 608 = .ok (.goto 519, 3) := by decide +kernel
theorem dL_law_611 : decode cL_law 611 = .ok (.aload_n 1, 1) := by decide +kernel
theorem dL_law_612 : decode cL_law 612 = .ok (.aload_n 0, 1) := by decide +kernel
theorem dL_law_613 : decode cL_law 613 = .ok (.iload_n 3, 1) := by decide +kernel
theorem dL_law_614 : decode cL_law 614 = .ok (.iconst 1, 1) := by decide +kernel
theorem dL_law_615 : decode cL_law 615 = .ok (.iadd, 1) := by decide +kernel
theorem dL_law_616 : decode cL_law 616 = .ok (.iaload, 1) := by decide +kernel
theorem dL_law_617 : decode cL_law 617 = .ok (.invokevirtual 79, 3) := by decide +kernel
theorem dL_law_620 : decode cL_law 620 = .ok (.pop, 1) := by decide +kernel
theorem dL_law_621 : decode cL_law 621 = .ok (.aload_n 2, 1) := by decide +kernel
theorem dL_law_622 : decode cL_law 622 = .ok (.aload_n 0, 1) := by decide +kernel
theorem dL_law_623 : decode cL_law 623 = .ok (.iload_n 3, 1) := by decide +kernel
theorem dL_law_624 : decode cL_law 624 = .ok (.iconst 1, 1) := by decide +kernel
theorem dL_law_625 : decode cL_law 625 = .ok (.iadd, 1) := by decide +kernel
theorem dL_law_626 : decode cL_law 626 = .ok (.iaload, 1) := by decide +kernel
theorem dL_law_627 : decode cL_law 627 = .ok (.invokevirtual 82, 3) := by decide +kernel
theorem dL_law_630 : decode cL_law 630 = .ok (.pop, 1) := by decide +kernel
theorem dL_law_631 : decode cL_law 631 = .ok (.goto 496, 3) := by decide +kernel
theorem dL_law_634 : decode cL_law 634 = .ok (.aload_n 1, 1) := by decide +kernel
theorem dL_law_635 : decode cL_law 635 = .ok (.aload_n 0, 1) := by decide +kernel
theorem dL_law_636 : decode cL_law 636 = .ok (.iload_n 3, 1) := by decide +kernel
theorem dL_law_637 : decode cL_law 637 = .ok (.iconst 1, 1) := by decide +kernel
theorem dL_law_638 : decode cL_law 638 = .ok (.iadd, 1) := by decide +kernel
theorem dL_law_639 : decode cL_law 639 = .ok (.iaload, 1) := by decide +kernel
theorem dL_law_640 : decode cL_law 640 = .ok (.aload_n 0, 1) := by decide +kernel
theorem dL_law_641 : decode cL_law 641 = .ok (.iload_n 3, 1) := by decide +kernel
theorem dL_law_642 : decode cL_law 642 = .ok (.iconst 2, 1) := by decide +kernel
theorem dL_law_643 : decode cL_law 643 = .ok (.iadd, 1) := by decide +kernel
theorem dL_law_644 : decode cL_law 644 = .ok (.iaload, 1) := by decide +kernel
theorem dL_law_645 : decode cL_law 645 = .ok (.invokevirtual 83, 3) := by decide +kernel
theorem dL_law_648 : decode cL_law 648 = .ok (.pop, 1) := by decide +kernel
theorem dL_law_649 : decode cL_law 649 = .ok (.aload_n 2, 1) := by decide +kernel
theorem dL_law_650 : decode cL_law 650 = .ok (.aload_n 0, 1) := by decide +kernel
theorem dL_law_651 : decode cL_law 651 = .ok (.iload_n 3, 1) := by decide +kernel
theorem dL_law_652 : decode cL_law 652 = .ok (.iconst 1, 1) := by decide +kernel
theorem dL_law_653 : decode cL_law 653 = .ok (.iadd, 1) := by decide +kernel
theorem dL_law_654 : decode cL_law 654 = .ok (.iaload, 1) := by decide +kernel
theorem dL_law_655 : decode cL_law 655 = .ok (.aload_n 0, 1) := by decide +kernel
theorem dL_law_656 : decode cL_law 656 = .ok (.iload_n 3, 1) := by decide +kernel
theorem dL_law_657 : decode cL_law 657 = .ok (.iconst 2, 1) := by decide +kernel
theorem dL_law_658 : decode cL_law 658 = .ok (.iadd, 1) := by decide +kernel
theorem dL_law_659 : decode cL_law 659 = .ok (.iaload, 1) := by decide +kernel
theorem dL_law_660 : decode cL_law 660 = .ok (.invokevirtual 86, 3) := by decide +kernel
theorem dL_law_663 : decode cL_law 663 = .ok (.pop, 1) := by decide +kernel
theorem dL_law_664 : decode cL_law 664 = .ok (.goto 463, 3) := by decide +kernel
theorem dL_law_667 : decode cL_law 667 = .ok (.aload_n 1, 1) := by decide +kernel
theorem dL_law_668 : decode cL_law 668 = .ok (.aload_n 0, 1) := by decide +kernel
theorem dL_law_669 : decode cL_law 669 = .ok (.iload_n 3, 1) := by decide +kernel
theorem dL_law_670 : decode cL_law 670 = .ok (.iconst 1, 1) := by decide +kernel
theorem dL_law_671 : decode cL_law 671 = .ok (.iadd, 1) := by decide +kernel
theorem dL_law_672 : decode cL_law 672 = .ok (.iaload, 1) := by decide +kernel
theorem dL_law_673 : decode cL_law 673 = .ok (.invokevirtual 87, 3) := by decide +kernel
theorem dL_law_676 : decode cL_law 676 = .ok (.pop, 1) := by decide +kernel
theorem dL_law_677 : decode cL_law 677 = .ok (.aload_n 2, 1) := by decide +kernel
theorem dL_law_678 : decode cL_law 678 = .ok (.aload_n 0, 1) := by decide +kernel
theorem dL_law_679 : decode cL_law 679 = .ok (.iload_n 3, 1) := by decide +kernel
theorem dL_law_680 : decode cL_law 680 = .ok (.iconst 1, 1) := by decide +kernel
theorem dL_law_681 : decode cL_law 681 = .ok (.iadd, 1) := by decide +kernel
theorem dL_law_682 : decode cL_law 682 = .ok (.iaload, 1) := by decide +kernel
theorem dL_law_683 : decode cL_law 683 = .ok (.invokevirtual 90, 3) := by decide +kernel
theorem dL_law_686 : decode cL_law 686 = .ok (.pop, 1) := by decide +kernel
theorem dL_law_687 : decode cL_law 687 = .ok (.goto 440, 3) := by decide +kernel
theorem dL_law_690 : decode cL_law 690 = .ok (.aload_n 1, 1) := by decide +kernel
theorem dL_law_691 : decode cL_law 691 = .ok (.aload_n 0, 1) := by decide +kernel
theorem dL_law_692 : decode cL_law 692 = .ok (.iload_n 3, 1) := by decide +kernel
theorem dL_law_693 : decode cL_law 693 = .ok (.iconst 1, 1) := by decide +kernel
theorem dL_law_694 : decode cL_law 694 = .ok (.iadd, 1) := by decide +kernel
theorem dL_law_695 : decode cL_law 695 = .ok (.iaload, 1) := by decide +kernel
theorem dL_law_696 : decode cL_law 696 = .ok (.invokevirtual 91, 3) := by decide +kernel
theorem dL_law_699 : decode cL_law 699 = .ok (.pop, 1) := by decide +kernel
theorem dL_law_700 : decode cL_law 700 = .ok (.aload_n 2, 1) := by decide +kernel
theorem dL_law_701 : decode cL_law 701 = .ok (.aload_n 0, 1) := by decide +kernel
theorem dL_law_702 : decode cL_law 702 = .ok (.iload_n 3, 1) := by decide +kernel
theorem dL_law_703 : decode cL_law 703 = .ok (.iconst 1, 1) := by decide +kernel
theorem dL_law_704 : decode cL_law 704 = .ok (.iadd, 1) := by decide +kernel
theorem dL_law_705 : decode cL_law 705 = .ok (.iaload, 1) := by decide +kernel
theorem dL_law_706 : decode cL_law 706 = .ok (.invokevirtual 94, 3) := by decide +kernel
theorem dL_law_709 : decode cL_law 709 = .ok (.pop, 1) := by decide +kernel
theorem dL_law_710 : decode cL_law 710 = .ok (.goto 417, 3) := by decide +kernel
theorem dL_law_713 : decode cL_law 713 = .ok (.aload_n 1, 1) := by decide +kernel
theorem dL_law_714 : decode cL_law 714 = .ok (.invokevirtual 95, 3) := by decide +kernel
theorem dL_law_717 : decode cL_law 717 = .ok (.pop, 1) := by decide +kernel
theorem dL_law_718 : decode cL_law 718 = .ok (.aload_n 2, 1) := by decide +kernel
theorem dL_law_719 : decode cL_law 719 = .ok (.invokevirtual 98, 3) := by decide +kernel
theorem dL_law_722 : decode cL_law 722 = .ok (.pop, 1) := by decide +kernel
theorem dL_law_723 : decode cL_law 723 = .ok (.goto 404, 3) := by decide +kernel
theorem dL_law_726 : decode cL_law 726 = .ok (.aload_n 1, 1) := by decide +kernel
theorem dL_law_727 : decode cL_law 727 = .ok (.invokevirtual 99, 3) := by decide +kernel
theorem dL_law_730 : decode cL_law 730 = .ok (.pop, 1) := by decide +kernel
theorem dL_law_731 : decode cL_law 731 = .ok (.aload_n 2, 1) := by decide +kernel
theorem dL_law_732 : decode cL_law 732 = .ok (.invokevirtual 102, 3) := by decide +kernel
theorem dL_law_735 : decode cL_law 735 = .ok (.pop, 1) := by decide +kernel
theorem dL_law_736 : decode cL_law 736 = .ok (.goto 391, 3) := by decide +kernel
theorem dL_law_739 : decode cL_law 739 = .ok (.aload_n 1, 1) := by decide +kernel
theorem dL_law_740 : decode cL_law 740 = .ok (.invokevirtual 103, 3) := by decide +kernel
theorem dL_law_743 : decode cL_law 743 = .ok (.pop, 1) := by decide +kernel
theorem dL_law_744 : decode cL_law 744 = .ok (.aload_n 2, 1) := by decide +kernel
theorem dL_law_745 : decode cL_law 745 = .ok (.invokevirtual 106, 3) := by decide +kernel
theorem dL_law_748 : decode cL_law 748 = .ok (.pop, 1) := by decide +kernel
theorem dL_law_749 : decode cL_law 749 = .ok (.goto 378, 3) := by decide +kernel
theorem dL_law_752 : decode cL_law 752 = .ok (.aload_n 1, 1) := by decide +kernel
theorem dL_law_753 : decode cL_law 753 = .ok (.aload_n 0, 1) := by decide +kernel
theorem dL_law_754 : decode cL_law 754 = .ok (.iload_n 3, 1) := by decide +kernel
theorem dL_law_755 : decode cL_law 755 = .ok (.iconst 1, 1) := by decide +kernel
theorem dL_law_756 : decode cL_law 756 = .ok (.iadd, 1) := by decide +kernel
theorem dL_law_757 : decode cL_law 757 = .ok (.iaload, 1) := by decide +kernel
theorem dL_law_758 : decode cL_law 758 = .ok (.aload_n 0, 1) := by decide +kernel
theorem dL_law_759 : decode cL_law 759 = .ok (.iload_n 3, 1) := by decide +kernel
theorem dL_law_760 : decode cL_law 760 = .ok (.iconst 2, 1) := by decide +kernel
theorem dL_law_761 : decode cL_law 761 = .ok (.iadd, 1) := by decide +kernel
theorem dL_law_762 : decode cL_law 762 = .ok (.iaload, 1) := by decide +kernel
theorem dL_law_763 : decode cL_law 763 = .ok (.invokevirtual 107, 3) := by decide +kernel
theorem dL_law_766 : decode cL_law 766 = .ok (.pop, 1) := by decide +kernel
theorem dL_law_767 : decode cL_law 767 = .ok (.aload_n 2, 1) := by decide +kernel
theorem dL_law_768 : decode cL_law 768 = .ok (.aload_n 0, 1) := by decide +kernel
theorem dL_law_769 : decode cL_law 769 = .ok (.iload_n 3, 1) := by decide +kernel
theorem dL_law_770 : decode cL_law 770 = .ok (.iconst 1, 1) := by decide +kernel
theorem dL_law_771 : decode cL_law 771 = .ok (.iadd, 1) := by decide +kernel
theorem dL_law_772 : decode cL_law 772 = .ok (.iaload, 1) := by decide +kernel
theorem dL_law_773 : decode cL_law 773 = .ok (.aload_n 0, 1) := by decide +kernel
theorem dL_law_774 : decode cL_law 774 = .ok (.iload_n 3, 1) := by decide +kernel
theorem dL_law_775 : decode cL_law 775 = .ok (.iconst 2, 1) := by decide +kernel
theorem dL_law_776 : decode cL_law 776 = .ok (.iadd, 1) := by decide +kernel
theorem dL_law_777 : decode cL_law 777 = .ok (.iaload, 1) := by decide +kernel
theorem dL_law_778 : decode cL_law 778 = .ok (.invokevirtual 110, 3) := by decide +kernel
theorem dL_law_781 : decode cL_law 781 = .ok (.pop, 1) := by decide +kernel
theorem dL_law_782 : decode cL_law 782 = .ok (.goto 345, 3) := by decide +kernel
theorem dL_law_785 : decode cL_law 785 = .ok (.aload_n 1, 1) := by decide +kernel
theorem dL_law_786 : decode cL_law 786 = .ok (.aload_n 0, 1) := by decide +kernel
theorem dL_law_787 : decode cL_law 787 = .ok (.iload_n 3, 1) := by decide +kernel
theorem dL_law_788 : decode cL_law 788 = .ok (.iconst 1, 1) := by decide +kernel
theorem dL_law_789 : decode cL_law 789 = .ok (.iadd, 1) := by decide +kernel
theorem dL_law_790 : decode cL_law 790 = .ok (.iaload, 1) := by decide +kernel
theorem dL_law_791 : decode cL_law 791 = .ok (.invokevirtual 111, 3) := by decide +kernel
theorem dL_law_794 : decode cL_law 794 = .ok (.pop, 1) := by decide +kernel
theorem dL_law_795 : decode cL_law 795 = .ok (.aload_n 2, 1) := by decide +kernel
theorem dL_law_796 : decode cL_law 796 = .ok (.aload_n 0, 1) := by decide +kernel
theorem dL_law_797 : decode cL_law 797 = .ok (.iload_n 3, 1) := by decide +kernel
theorem dL_law_798 : decode cL_law 798 = .ok (.iconst 1, 1) := by decide +kernel
theorem dL_law_799 : decode cL_law 799 = .ok (.iadd, 1) := by decide +kernel
theorem dL_law_800 : decode cL_law 800 = .ok (.iaload, 1) := by decide +kernel
theorem dL_law_801 : decode cL_law 801 = .ok (.invokevirtual 114, 3) := by decide +kernel
theorem dL_law_804 : decode cL_law 804 = .ok (.pop, 1) := by decide +kernel
theorem dL_law_805 : decode cL_law 805 = .ok (.goto 322, 3) := by decide +kernel
theorem dL_law_808 : decode cL_law 808 = .ok (.aload_n 1, 1) := by decide +kernel
theorem dL_law_809 : decode cL_law 809 = .ok (.aload_n 0, 1) := by decide +kernel
theorem dL_law_810 : decode cL_law 810 = .ok (.iload_n 3, 1) := by decide +kernel
theorem dL_law_811 : decode cL_law 811 = .ok (.iconst 1, 1) := by decide +kernel
theorem dL_law_812 : decode cL_law 812 = .ok (.iadd, 1) := by decide +kernel
theorem dL_law_813 : decode cL_law 813 = .ok (.iaload, 1) := by decide +kernel
theorem dL_law_814 : decode cL_law 814 = .ok (.invokevirtual 115, 3) := by decide +kernel
theorem dL_law_817 : decode cL_law 817 = .ok (.pop, 1) := by decide +kernel
theorem dL_law_818 : decode cL_law 818 = .ok (.aload_n 2, 1) := by decide +kernel
theorem dL_law_819 : decode cL_law 819 = .ok (.aload_n 0, 1) := by decide +kernel
theorem dL_law_820 : decode cL_law 820 = .ok (.iload_n 3, 1) := by decide +kernel
theorem dL_law_821 : decode cL_law 821 = .ok (.iconst 1, 1) := by decide +kernel
theorem dL_law_822 : decode cL_law 822 = .ok (.iadd, 1) := by decide +kernel
theorem dL_law_823 : decode cL_law 823 = .ok (.iaload, 1) := by decide +kernel
theorem dL_law_824 : decode cL_law 824 = .ok (.invokevirtual 118, 3) := by decide +kernel
theorem dL_law_827 : decode cL_law 827 = .ok (.pop, 1) := by decide +kernel
theorem dL_law_828 : decode cL_law 828 = .ok (.goto 299, 3) := by decide +kernel
theorem dL_law_831 : decode cL_law 831 = .ok (.aload_n 1, 1) := by decide +kernel
theorem dL_law_832 : decode cL_law 832 = .ok (.aload_n 0, 1) := by decide +kernel
theorem dL_law_833 : decode cL_law 833 = .ok (.iload_n 3, 1) := by decide +kernel
theorem dL_law_834 : decode cL_law 834 = .ok (.iconst 1, 1) := by decide +kernel
theorem dL_law_835 : decode cL_law 835 = .ok (.iadd, 1) := by decide +kernel
theorem dL_law_836 : decode cL_law 836 = .ok (.iaload, 1) := by decide +kernel
theorem dL_law_837 : decode cL_law 837 = .ok (.invokevirtual 119, 3) := by decide +kernel
theorem dL_law_840 : decode cL_law 840 = .ok (.pop, 1) := by decide +kernel
theorem dL_law_841 : decode cL_law 841 = .ok (.aload_n 2, 1) := by decide +kernel
theorem dL_law_842 : decode cL_law 842 = .ok (.aload_n 0, 1) := by decide +kernel
theorem dL_law_843 : decode cL_law 843 = .ok (.iload_n 3, 1) := by decide +kernel
theorem dL_law_844 : decode cL_law 844 = .ok (.iconst 1, 1) := by decide +kernel
theorem dL_law_845 : decode cL_law 845 = .ok (.iadd, 1) := by decide +kernel
theorem dL_law_846 : decode cL_law 846 = .ok (.iaload, 1) := by decide +kernel
theorem dL_law_847 : decode cL_law 847 = .ok (.invokevirtual 122, 3) := by decide +kernel
theorem dL_law_850 : decode cL_law 850 = .ok (.pop, 1) := by decide +kernel
theorem dL_law_851 : decode cL_law 851 = .ok (.goto 276, 3) := by decide +kernel
theorem dL_law_854 : decode cL_law 854 = .ok (.aload_n 1, 1) := by decide +kernel
theorem dL_law_855 : decode cL_law 855 = .ok (.aload_n 0, 1) := by decide +kernel
theorem dL_law_856 : decode cL_law 856 = .ok (.iload_n 3, 1) := by decide +kernel
theorem dL_law_857 : decode cL_law 857 = .ok (.iconst 1, 1) := by decide +kernel
theorem dL_law_858 : decode cL_law 858 = .ok (.iadd, 1) := by decide +kernel
theorem dL_law_859 : decode cL_law 859 = .ok (.iaload, 1) := by decide +kernel
theorem dL_law_860 : decode cL_law 860 = .ok (.invokevirtual 123, 3) := by decide +kernel
theorem dL_law_863 : decode cL_law 863 = .ok (.pop2, 1) := by decide +kernel
theorem dL_law_864 : decode cL_law 864 = .ok (.aload_n 2, 1) := by decide +kernel
theorem dL_law_865 : decode cL_law 865 = .ok (.aload_n 0, 1) := by decide +kernel
theorem dL_law_866 : decode cL_law 866 = .ok (.iload_n 3, 1) := by decide +kernel
theorem dL_law_867 : decode cL_law 867 = .ok (.iconst 1, 1) := by decide +kernel
theorem dL_law_868 : decode cL_law 868 = .ok (.iadd, 1) := by decide +kernel
theorem dL_law_869 : decode cL_law 869 = .ok (.iaload, 1) := by decide +kernel
theorem dL_law_870 : decode cL_law 870 = .ok (.invokevirtual 127, 3) := by decide +kernel
theorem dL_law_873 : decode cL_law 873 = .ok (.pop2, 1) := by decide +kernel
theorem dL_law_874 : decode cL_law 874 = .ok (.goto 253, 3) := by decide +kernel
theorem dL_law_877 : decode cL_law 877 = .ok (.aload_n 1, 1) := by decide +kernel
theorem dL_law_878 : decode cL_law 878 = .ok (.aload_n 0, 1) := by decide +kernel
theorem dL_law_879 : decode cL_law 879 = .ok (.iload_n 3, 1) := by decide +kernel
theorem dL_law_880 : decode cL_law 880 = .ok (.iconst 1, 1) := by decide +kernel
theorem dL_law_881 : decode cL_law 881 = .ok (.iadd, 1) := by decide +kernel
theorem dL_law_882 : decode cL_law 882 = .ok (.iaload, 1) := by decide +kernel
theorem dL_law_883 : decode cL_law 883 = .ok (.aload_n 0, 1) := by decide +kernel
theorem dL_law_884 : decode cL_law 884 = .ok (.iload_n 3, 1) := by decide +kernel
theorem dL_law_885 : decode cL_law 885 = .ok (.iconst 2, 1) := by decide +kernel
theorem dL_law_886 : decode cL_law 886 = .ok (.iadd, 1) := by decide +kernel
theorem dL_law_887 : decode cL_law 887 = .ok (.iaload, 1) := by decide +kernel
theorem dL_law_888 : decode cL_law 888 = .ok (.aload_n 0, 1) := by decide +kernel
theorem dL_law_889 : decode cL_law 889 = .ok (.iload_n 3, 1) := by decide +kernel
theorem dL_law_890 : decode cL_law 890 = .ok (.iconst 3, 1) := by decide +kernel
theorem dL_law_891 : decode cL_law 891 = .ok (.iadd, 1) := by decide +kernel
theorem dL_law_892 : decode cL_law 892 = .ok (.iaload, 1) := by decide +kernel
theorem dL_law_893 : decode cL_law 893 = .ok (.invokevirtual 128, 3) := by decide +kernel
theorem dL_law_896 : decode cL_law 896 = .ok (.pop, 1) := by decide +kernel
theorem dL_law_897 : decode cL_law 897 = .ok (.aload_n 2, 1) := by decide +kernel
theorem dL_law_898 : decode cL_law 898 = .ok (.aload_n 0, 1) := by decide +kernel
theorem dL_law_899 : decode cL_law 899 = .ok (.iload_n 3, 1) := by decide +kernel
theorem dL_law_900 : decode cL_law 900 = .ok (.iconst 1, 1) := by decide +kernel
theorem dL_law_901 : decode cL_law 901 = .ok (.iadd, 1) := by decide +kernel
theorem dL_law_902 : decode cL_law 902 = .ok (.iaload, 1) := by decide +kernel
theorem dL_law_903 : decode cL_law 903 = .ok (.aload_n 0, 1) := by decide +kernel
theorem dL_law_904 : decode cL_law 904 = .ok (.iload_n 3, 1) := by decide +kernel
theorem dL_law_905 : decode cL_law 905 = .ok (.iconst 2, 1) := by decide +kernel
theorem dL_law_906 : decode cL_law 906 = .ok (.iadd, 1) := by decide +kernel
theorem dL_law_907 : decode cL_law 907 = .ok (.iaload, 1) := by decide +kernel
theorem dL_law_908 : decode cL_law 908 = .ok (.aload_n 0, 1) := by decide +kernel
theorem dL_law_909 : decode cL_law 909 = .ok (.iload_n 3, 1) := by decide +kernel
theorem dL_law_910 : decode cL_law 910 = .ok (.iconst 3, 1) := by decide +kernel
theorem dL_law_911 : decode cL_law 911 = .ok (.iadd, 1) := by decide +kernel
theorem dL_law_912 : decode cL_law 912 = .ok (.iaload, 1) := by decide +kernel
theorem dL_law_913 : decode cL_law 913 = .ok (.invokevirtual 131, 3) := by decide +kernel
theorem dL_law_916 : decode cL_law 916 = .ok (.pop, 1) := by decide +kernel
theorem dL_law_917 : decode cL_law 917 = .ok (.goto 210, 3) := by decide +kernel
theorem dL_law_920 : decode cL_law 920 = .ok (.aload_n 1, 1) := by decide +kernel
theorem dL_law_921 : decode cL_law 921 = .ok (.invokevirtual 132, 3) := by decide +kernel
theorem dL_law_924 : decode cL_law 924 = .ok (.pop, 1) := by decide +kernel
theorem dL_law_925 : decode cL_law 925 = .ok (.aload_n 2, 1) := by decide +kernel
theorem dL_law_926 : decode cL_law 926 = .ok (.invokevirtual 135, 3) := by decide +kernel
theorem dL_law_929 : decode cL_law 929 = .ok (.pop, 1) := by decide +kernel
theorem dL_law_930 : decode cL_law 930 = .ok (.goto 197, 3) := by decide +kernel
theorem dL_law_933 : decode cL_law 933 = .ok (.aload_n 1, 1) := by decide +kernel
theorem dL_law_934 : decode cL_law 934 = .ok (.aload_n 0, 1) := by decide +kernel
theorem dL_law_935 : decode cL_law 935 = .ok (.iload_n 3, 1) := by decide +kernel
theorem dL_law_936 : decode cL_law 936 = .ok (.iconst 1, 1) := by decide +kernel
theorem dL_law_937 : decode cL_law 937 = .ok (.iadd, 1) := by decide +kernel
theorem dL_law_938 : decode cL_law 938 = .ok (.iaload, 1) := by decide +kernel
theorem dL_law_939 : decode cL_law 939 = .ok (.invokevirtual 136, 3) := by decide +kernel
theorem dL_law_942 : decode cL_law 942 = .ok (.pop, 1) := by decide +kernel
theorem dL_law_943 : decode cL_law 943 = .ok (.aload_n 2, 1) := by decide +kernel
theorem dL_law_944 : decode cL_law 944 = .ok (.aload_n 0, 1) := by decide +kernel
theorem dL_law_945 : decode cL_law 945 = .ok (.iload_n 3, 1) := by decide +kernel
theorem dL_law_946 : decode cL_law 946 = .ok (.iconst 1, 1) := by decide +kernel
theorem dL_law_947 : decode cL_law 947 = .ok (.iadd, 1) := by decide +kernel
theorem dL_law_948 : decode cL_law 948 = .ok (.iaload, 1) := by decide +kernel
theorem dL_law_949 : decode cL_law 949 = .ok (.invokevirtual 139, 3) := by decide +kernel
theorem dL_law_952 : decode cL_law 952 = .ok (.pop, 1) := by decide +kernel
theorem dL_law_953 : decode cL_law 953 = .ok (.goto 174, 3) := by decide +kernel
theorem dL_law_956 : decode cL_law 956 = .ok (.aload_n 1, 1) := by decide +kernel
theorem dL_law_957 : decode cL_law 957 = .ok (.aload_n 0, 1) := by decide +kernel
theorem dL_law_958 : decode cL_law 958 = .ok (.iload_n 3, 1) := by decide +kernel
theorem dL_law_959 : decode cL_law 959 = .ok (.iconst 1, 1) := by decide +kernel
theorem dL_law_960 : decode cL_law 960 = .ok (.iadd, 1) := by decide +kernel
theorem dL_law_961 : decode cL_law 961 = .ok (.iaload, 1) := by decide +kernel
theorem dL_law_962 : decode cL_law 962 = .ok (.invokevirtual 140, 3) := by decide +kernel
theorem dL_law_965 : decode cL_law 965 = .ok (.pop, 1) := by decide +kernel
theorem dL_law_966 : decode cL_law 966 = .ok (.aload_n 2, 1) := by decide +kernel
theorem dL_law_967 : decode cL_law 967 = .ok (.aload_n 0, 1) := by decide +kernel
theorem dL_law_968 : decode cL_law 968 = .ok (.iload_n 3, 1) := by decide +kernel
theorem dL_law_969 : decode cL_law 969 = .ok (.iconst 1, 1) := by decide +kernel
theorem dL_law_970 : decode cL_law 970 = .ok (.iadd, 1) := by decide +kernel
theorem dL_law_971 : decode cL_law 971 = .ok (.iaload, 1) := by decide +kernel
theorem dL_law_972 : decode cL_law 972 = .ok (.invokevirtual 143, 3) := by decide +kernel
theorem dL_law_975 : decode cL_law 975 = .ok (.pop, 1) := by decide +kernel
theorem dL_law_976 : decode cL_law 976 = .ok (.goto 151, 3) := by decide +kernel
theorem dL_law_979 : decode cL_law 979 = .ok (.aload_n 1, 1) := by decide +kernel
theorem dL_law_980 : decode cL_law 980 = .ok (.aload_n 0, 1) := by decide +kernel
theorem dL_law_981 : decode cL_law 981 = .ok (.iload_n 3, 1) := by decide +kernel
theorem dL_law_982 : decode cL_law 982 = .ok (.iconst 1, 1) := by decide +kernel
theorem dL_law_983 : decode cL_law 983 = .ok (.iadd, 1) := by decide +kernel
theorem dL_law_984 : decode cL_law 984 = .ok (.iaload, 1) := by decide +kernel
theorem dL_law_985 : decode cL_law 985 = .ok (.aload_n 0, 1) := by decide +kernel
theorem dL_law_986 : decode cL_law 986 = .ok (.iload_n 3, 1) := by decide +kernel
theorem dL_law_987 : decode cL_law 987 = .ok (.iconst 2, 1) := by decide +kernel
theorem dL_law_988 : decode cL_law 988 = .ok (.iadd, 1) := by decide +kernel
theorem dL_law_989 : decode cL_law 989 = .ok (.iaload, 1) := by decide +kernel
theorem dL_law_990 : decode cL_law 990 = .ok (.invokevirtual 144, 3) := by decide +kernel
theorem dL_law_993 : decode cL_law 993 = .ok (.pop, 1) := by decide +kernel
theorem dL_law_994 : decode cL_law 994 = .ok (.aload_n 2, 1) := by decide +kernel
theorem dL_law_995 : decode cL_law 995 = .ok (.aload_n 0, 1) := by decide +kernel
theorem dL_law_996 : decode cL_law 996 = .ok (.iload_n 3, 1) := by decide +kernel
theorem dL_law_997 : decode cL_law 997 = .ok (.iconst 1, 1) := by decide +kernel
theorem dL_law_998 : decode cL_law 998 = .ok (.iadd, 1) := by decide +kernel
theorem dL_law_999 : decode cL_law 999 = .ok (.iaload, 1) := by decide +kernel
theorem dL_law_1000 : decode cL_law 1000 = .ok (.aload_n 0, 1) := by decide +kernel
theorem dL_law_1001 : decode cL_law 1001 = .ok (.iload_n 3, 1) := by decide +kernel
theorem dL_law_1002 : decode cL_law 1002 = .ok (.iconst 2, 1) := by decide +kernel
theorem dL_law_1003 : decode cL_law 1003 = .ok (.iadd, 1) := by decide +kernel
theorem dL_law_1004 : decode cL_law 1004 = .ok (.iaload, 1) := by decide +kernel
theorem dL_law_1005 : decode cL_law 1005 = .ok (.invokevirtual 147, 3) := by decide +kernel
theorem dL_law_1008 : decode cL_law 1008 = .ok (.pop, 1) := by decide +kernel
theorem dL_law_1009 : decode cL_law 1009 = .ok (.goto 118, 3) := by decide +kernel
theorem dL_law_1012 : decode cL_law 1012 = .ok (.aload_n 1, 1) := by decide +kernel
theorem dL_law_1013 : decode cL_law 1013 = .ok (.aload_n 0, 1) := by decide +kernel
theorem dL_law_1014 : decode cL_law 1014 = .ok (.iload_n 3, 1) := by decide +kernel
theorem dL_law_1015 : decode cL_law 1015 = .ok (.iconst 1, 1) := by decide +kernel
theorem dL_law_1016 : decode cL_law 1016 = .ok (.iadd, 1) := by decide +kernel
theorem dL_law_1017 : decode cL_law 1017 = .ok (.iaload, 1) := by decide +kernel
theorem dL_law_1018 : decode cL_law 1018 = .ok (.aload_n 0, 1) := by decide +kernel
theorem dL_law_1019 : decode cL_law 1019 = .ok (.iload_n 3, 1) := by decide +kernel
theorem dL_law_1020 : decode cL_law 1020 = .ok (.iconst 2, 1) := by decide +kernel
theorem dL_law_1021 : decode cL_law 1021 = .ok (.iadd, 1) := by decide +kernel
theorem dL_law_1022 : decode cL_law 1022 = .ok (.iaload, 1) := by decide +kernel
theorem dL_law_1023 : decode cL_law 1023 = .ok (.invokevirtual 148, 3) := by decide +kernel
theorem dL_law_1026 : decode cL_law 1026 = .ok (.pop, 1) := by decide +kernel
theorem dL_law_1027 : decode cL_law 1027 = .ok (.aload_n 2, 1) := by decide +kernel
theorem dL_law_1028 : decode cL_law 1028 = .ok (.aload_n 0, 1) := by decide +kernel
theorem dL_law_1029 : decode cL_law 1029 = .ok (.iload_n 3, 1) := by decide +kernel
theorem dL_law_1030 : decode cL_law 1030 = .ok (.iconst 1, 1) := by decide +kernel
theorem dL_law_1031 : decode cL_law 1031 = .ok (.iadd, 1) := by decide +kernel
theorem dL_law_1032 : decode cL_law 1032 = .ok (.iaload, 1) := by decide +kernel
theorem dL_law_1033 : decode cL_law 1033 = .ok (.aload_n 0, 1) := by decide +kernel
theorem dL_law_1034 : decode cL_law 1034 = .ok (.iload_n 3, 1) := by decide +kernel
theorem dL_law_1035 : decode cL_law 1035 = .ok (.iconst 2, 1) := by decide +kernel
theorem dL_law_1036 : decode cL_law 1036 = .ok (.iadd, 1) := by decide +kernel
theorem dL_law_1037 : decode cL_law 1037 = .ok (.iaload, 1) := by decide +kernel
theorem dL_law_1038 : decode cL_law 1038 = .ok (.invokevirtual 151, 3) := by decide +kernel
theorem dL_law_1041 : decode cL_law 1041 = .ok (.pop, 1) := by decide +kernel
theorem dL_law_1042 : decode cL_law 1042 = .ok (.goto 85, 3) := by decide +kernel
theorem dL_law_1045 : decode cL_law 1045 = .ok (.aload_n 1, 1) := by decide +kernel
theorem dL_law_1046 : decode cL_law 1046 = .ok (.aload_n 0, 1) := by decide +kernel
theorem dL_law_1047 : decode cL_law 1047 = .ok (.iload_n 3, 1) := by decide +kernel
theorem dL_law_1048 : decode cL_law 1048 = .ok (.iconst 1, 1) := by decide +kernel
theorem dL_law_1049 : decode cL_law 1049 = .ok (.iadd, 1) := by decide +kernel
theorem dL_law_1050 : decode cL_law 1050 = .ok (.iaload, 1) := by decide +kernel
theorem dL_law_1051 : decode cL_law 1051 = .ok (.invokevirtual 152, 3) := by decide +kernel
theorem dL_law_1054 : decode cL_law 1054 = .ok (.pop, 1) := by decide +kernel
theorem dL_law_1055 : decode cL_law 1055 = .ok (.aload_n 2, 1) := by decide +kernel
theorem dL_law_1056 : decode cL_law 1056 = .ok (.aload_n 0, 1) := by decide +kernel
theorem dL_law_1057 : decode cL_law 1057 = .ok (.iload_n 3, 1) := by decide +kernel
theorem dL_law_1058 : decode cL_law 1058 = .ok (.iconst 1, 1) := by decide +kernel
theorem dL_law_1059 : decode cL_law 1059 = .ok (.iadd, 1) := by decide +kernel
theorem dL_law_1060 : decode cL_law 1060 = .ok (.iaload, 1) := by decide +kernel
theorem dL_law_1061 : decode cL_law 1061 = .ok (.invokevirtual 155, 3) := by decide +kernel
theorem dL_law_1064 : decode cL_law 1064 = .ok (.pop, 1) := by decide +kernel
theorem dL_law_1065 : decode cL_law 1065 = .ok (.goto 62, 3) := by decide +kernel
theorem dL_law_1068 : decode cL_law 1068 = .ok (.aload_n 1, 1) := by decide +kernel
theorem dL_law_1069 : decode cL_law 1069 = .ok (.aload_n 0, 1) := by decide +kernel
theorem dL_law_1070 : decode cL_law 1070 = .ok (.iload_n 3, 1) := by decide +kernel
theorem dL_law_1071 : decode cL_law 1071 = .ok (.iconst 1, 1) := by decide +kernel
theorem dL_law_1072 : decode cL_law 1072 = .ok (.iadd, 1) := by decide +kernel
theorem dL_law_1073 : decode cL_law 1073 = .ok (.iaload, 1) := by decide +kernel
theorem dL_law_1074 : decode cL_law 1074 = .ok (.invokevirtual 156, 3) := by decide +kernel
theorem dL_law_1077 : decode cL_law 1077 = .ok (.pop, 1) := by decide +kernel
theorem dL_law_1078 : decode cL_law 1078 = .ok (.aload_n 2, 1) := by decide +kernel
theorem dL_law_1079 : decode cL_law 1079 = .ok (.aload_n 0, 1) := by decide +kernel
theorem dL_law_1080 : decode cL_law 1080 = .ok (.iload_n 3, 1) := by decide +kernel
theorem dL_law_1081 : decode cL_law 1081 = .ok (.iconst 1, 1) := by decide +kernel
theorem dL_law_1082 : decode cL_law 1082 = .ok (.iadd, 1) := by decide +kernel
theorem dL_law_1083 : decode cL_law 1083 = .ok (.iaload, 1) := by decide +kernel
theorem dL_law_1084 : decode cL_law 1084 = .ok (.invokevirtual 159, 3) := by decide +kernel
theorem dL_law_1087 : decode cL_law 1087 = .ok (.pop, 1) := by decide +kernel
theorem dL_law_1088 : decode cL_law 1088 = .ok (.goto 39, 3) := by decide +kernel
theorem dL_law_1091 : decode cL_law 1091 = .ok (.aload_n 1, 1) := by decide +kernel
theorem dL_law_1092 : decode cL_law 1092 = .ok (.aload_n 0, 1) := by decide +kernel
theorem dL_law_1093 : decode cL_law 1093 = .ok (.iload_n 3, 1) := by decide +kernel
theorem dL_law_1094 : decode cL_law 1094 = .ok (.iconst 1, 1) := by decide +kernel
theorem dL_law_1095 : decode cL_law 1095 = .ok (.iadd, 1) := by decide +kernel
theorem dL_law_1096 : decode cL_law 1096 = .ok (.iaload, 1) := by decide +kernel
theorem dL_law_1097 : decode cL_law 1097 = .ok (.invokevirtual 160, 3) := by decide +kernel
theorem dL_law_1100 : decode cL_law 1100 = .ok (.pop, 1) := by decide +kernel
theorem dL_law_1101 : decode cL_law 1101 = .ok (.aload_n 2, 1) := by decide +kernel
theorem dL_law_1102 : decode cL_law 1102 = .ok (.aload_n 0, 1) := by decide +kernel
theorem dL_law_1103 : decode cL_law 1103 = .ok (.iload_n 3, 1) := by decide +kernel
theorem dL_law_1104 : decode cL_law 1104 = .ok (.iconst 1, 1) := by decide +kernel
theorem dL_law_1105 : decode cL_law 1105 = .ok (.iadd, 1) := by decide +kernel
theorem dL_law_1106 : decode cL_law 1106 = .ok (.iaload, 1) := by decide +kernel
theorem dL_law_1107 : decode cL_law 1107 = .ok (.invokevirtual 163, 3) := by decide +kernel
theorem dL_law_1110 : decode cL_law 1110 = .ok (.pop, 1) := by decide +kernel
theorem dL_law_1111 : decode cL_law 1111 = .ok (.goto 16, 3) := by decide +kernel
theorem dL_law_1114 : decode cL_law 1114 = .ok (.aload_n 1, 1) := by decide +kernel
theorem dL_law_1115 : decode cL_law 1115 = .ok (.invokevirtual 164, 3) := by decide +kernel
theorem dL_law_1118 : decode cL_law 1118 = .ok (.pop, 1) := by decide +kernel
theorem dL_law_1119 : decode cL_law 1119 = .ok (.aload_n 2, 1) := by decide +kernel
theorem dL_law_1120 : decode cL_law 1120 = .ok (.invokevirtual 167, 3) := by decide +kernel
theorem dL_law_1123 : decode cL_law 1123 = .ok (.pop, 1) := by decide +kernel
theorem dL_law_1124 : decode cL_law 1124 = .ok (.goto 3, 3) := by decide +kernel
theorem wt3_2 : Cond.code yX11_part cX11_part 6 (some .int) ∈ kG := kt3 2 rfl rfl
theorem wt3_58 : Cond.code yX11_builder cX11_builder 4 (some .int) ∈ kG := kt3 58 rfl rfl
theorem wt3_34 : Cond.code yX11_of cX11_of 3 (some .int) ∈ kG := kt3 34 rfl rfl
theorem wt3_66 : Cond.code yX11_at cX11_at 3 (some .int) ∈ kG := kt3 66 rfl rfl
theorem wt3_74 : Cond.code yX11_asks cX11_asks 4 (some .int) ∈ kG := kt3 74 rfl rfl
theorem wt3_116 : Cond.code yX11_terms cX11_terms 4 (some .int) ∈ kG := kt3 116 rfl rfl
theorem wt3_148 : Cond.code yX11_chaff cX11_chaff 1 (some .int) ∈ kG := kt3 148 rfl rfl
theorem wt4_151 : Cond.code yX11_fault cX11_fault 1 (some .int) ∈ kG := kt4 151 rfl rfl
theorem wt4_155 : Cond.code yX11_stopped cX11_stopped 1 (some .int) ∈ kG := kt4 155 rfl rfl
theorem wt5_153 : Cond.code yX11_status cX11_status 1 (some .int) ∈ kG := kt5 153 rfl rfl
theorem wt4_159 : Cond.code yX11_force cX11_force 3 (some .int) ∈ kG := kt4 159 rfl rfl
theorem wt4_163 : Cond.code yX11_stands cX11_stands 2 (some .int) ∈ kG := kt4 163 rfl rfl
theorem wt4_168 : Cond.code yX11_send cX11_send 3 (some .int) ∈ kG := kt4 168 rfl rfl
theorem wt4_177 : Cond.code yX11_rest cX11_rest 2 (some .int) ∈ kG := kt4 177 rfl rfl
theorem wt4_182 : Cond.code yX11_throwDown cX11_throwDown 2 (some .int) ∈ kG := kt4 182 rfl rfl
theorem wt4_187 : Cond.code yX11_tick cX11_tick 1 (some .int) ∈ kG := kt4 187 rfl rfl
theorem wt4_192 : Cond.code yX11_undo cX11_undo 1 (some .int) ∈ kG := kt4 192 rfl rfl
theorem wt4_200 : Cond.code yX11_longest cX11_longest 1 (some .int) ∈ kG := kt4 200 rfl rfl
theorem wt4_204 : Cond.code yX11_rows cX11_rows 3 (some .int) ∈ kG := kt4 204 rfl rfl
theorem wt4_227 : Cond.code yX11_plan cX11_plan 2 (some .int) ∈ kG := kt4 227 rfl rfl
theorem wt5_31 : Cond.code yX11_hands cX11_hands 3 (some .int) ∈ kG := kt5 31 rfl rfl
theorem wt5_46 : Cond.code yX11_taught cX11_taught 2 (some .int) ∈ kG := kt5 46 rfl rfl
theorem wt5_63 : Cond.code yX11_unseen cX11_unseen 2 (some .long) ∈ kG := kt5 63 rfl rfl
theorem wt5_80 : Cond.code yX11_sight cX11_sight 4 (some .int) ∈ kG := kt5 80 rfl rfl
theorem wt5_84 : Cond.code yX11_forget cX11_forget 2 (some .int) ∈ kG := kt5 84 rfl rfl
theorem wt5_88 : Cond.code yX11_whose cX11_whose 2 (some .int) ∈ kG := kt5 88 rfl rfl
theorem wt5_104 : Cond.code yX11_look cX11_look 2 (some .int) ∈ kG := kt5 104 rfl rfl
theorem wt5_117 : Cond.code yX11_nights cX11_nights 3 (some .int) ∈ kG := kt5 117 rfl rfl
theorem wt5_132 : Cond.code yX11_drawn cX11_drawn 3 (some .int) ∈ kG := kt5 132 rfl rfl
theorem wt5_149 : Cond.code yX11_count cX11_count 2 (some .int) ∈ kG := kt5 149 rfl rfl
theorem wt3_124 : Cond.code yX11_feed cX11_feed 6 (some .int) ∈ kG := kt3 124 rfl rfl
theorem wt3_132 : Cond.code yX11_end cX11_end 2 (some .int) ∈ kG := kt3 132 rfl rfl
theorem wt3_136 : Cond.code yX11_row cX11_row 5 (some .int) ∈ kG := kt3 136 rfl rfl
theorem wt4_74 : Cond.code yX11_orders cX11_orders 2 (some .int) ∈ kG := kt4 74 rfl rfl
theorem wt3_152 : Cond.code yX11_law cX11_law 3 (some .int) ∈ kG := kt3 152 rfl rfl
theorem wt5_140 : Cond.code yX11_image cX11_image 2 (some .int) ∈ kG := kt5 140 rfl rfl
theorem wt5_145 : Cond.code yX11_back cX11_back 2 (some .int) ∈ kG := kt5 145 rfl rfl
theorem wt2_239 : Cond.methodLink RL 13 yX11_part ∈ kG := kt2 239 rfl rfl
theorem wt3_0 : Cond.instanceMethod yX11_part ∈ kG := kt3 0 rfl rfl
theorem wt3_1 : Cond.selects RX11 yX11_part yX11_part ∈ kG := kt3 1 rfl rfl
theorem wt6_88 : Cond.methodLink RL 17 yX12_part ∈ kG := kt6 88 rfl rfl
theorem wt6_89 : Cond.instanceMethod yX12_part ∈ kG := kt6 89 rfl rfl
theorem wt6_90 : Cond.selects RX12 yX12_part yX12_part ∈ kG := kt6 90 rfl rfl
theorem wt6_91 : Cond.code yX12_part cX12_part 5 (some .int) ∈ kG := kt6 91 rfl rfl
theorem wt3_31 : Cond.methodLink RL 18 yX11_of ∈ kG := kt3 31 rfl rfl
theorem wt3_32 : Cond.instanceMethod yX11_of ∈ kG := kt3 32 rfl rfl
theorem wt3_33 : Cond.selects RX11 yX11_of yX11_of ∈ kG := kt3 33 rfl rfl
theorem wt6_100 : Cond.methodLink RL 22 yX12_of ∈ kG := kt6 100 rfl rfl
theorem wt6_101 : Cond.instanceMethod yX12_of ∈ kG := kt6 101 rfl rfl
theorem wt6_102 : Cond.selects RX12 yX12_of yX12_of ∈ kG := kt6 102 rfl rfl
theorem wt6_103 : Cond.code yX12_of cX12_of 3 (some .int) ∈ kG := kt6 103 rfl rfl
theorem wt3_55 : Cond.methodLink RL 23 yX11_builder ∈ kG := kt3 55 rfl rfl
theorem wt3_56 : Cond.instanceMethod yX11_builder ∈ kG := kt3 56 rfl rfl
theorem wt3_57 : Cond.selects RX11 yX11_builder yX11_builder ∈ kG := kt3 57 rfl rfl
theorem wt6_130 : Cond.methodLink RL 26 yX12_builder ∈ kG := kt6 130 rfl rfl
theorem wt6_131 : Cond.instanceMethod yX12_builder ∈ kG := kt6 131 rfl rfl
theorem wt6_132 : Cond.selects RX12 yX12_builder yX12_builder ∈ kG := kt6 132 rfl rfl
theorem wt6_133 : Cond.code yX12_builder cX12_builder 4 (some .int) ∈ kG := kt6 133 rfl rfl
theorem wt3_63 : Cond.methodLink RL 27 yX11_at ∈ kG := kt3 63 rfl rfl
theorem wt3_64 : Cond.instanceMethod yX11_at ∈ kG := kt3 64 rfl rfl
theorem wt3_65 : Cond.selects RX11 yX11_at yX11_at ∈ kG := kt3 65 rfl rfl
theorem wt6_134 : Cond.methodLink RL 30 yX12_at ∈ kG := kt6 134 rfl rfl
theorem wt6_135 : Cond.instanceMethod yX12_at ∈ kG := kt6 135 rfl rfl
theorem wt6_136 : Cond.selects RX12 yX12_at yX12_at ∈ kG := kt6 136 rfl rfl
theorem wt6_137 : Cond.code yX12_at cX12_at 3 (some .int) ∈ kG := kt6 137 rfl rfl
theorem wt3_71 : Cond.methodLink RL 31 yX11_asks ∈ kG := kt3 71 rfl rfl
theorem wt3_72 : Cond.instanceMethod yX11_asks ∈ kG := kt3 72 rfl rfl
theorem wt3_73 : Cond.selects RX11 yX11_asks yX11_asks ∈ kG := kt3 73 rfl rfl
theorem wt7_27 : Cond.methodLink RL 35 yX12_asks ∈ kG := kt7 27 rfl rfl
theorem wt7_28 : Cond.instanceMethod yX12_asks ∈ kG := kt7 28 rfl rfl
theorem wt7_29 : Cond.selects RX12 yX12_asks yX12_asks ∈ kG := kt7 29 rfl rfl
theorem wt7_30 : Cond.code yX12_asks cX12_asks 4 (some .int) ∈ kG := kt7 30 rfl rfl
theorem wt3_113 : Cond.methodLink RL 36 yX11_terms ∈ kG := kt3 113 rfl rfl
theorem wt3_114 : Cond.instanceMethod yX11_terms ∈ kG := kt3 114 rfl rfl
theorem wt3_115 : Cond.selects RX11 yX11_terms yX11_terms ∈ kG := kt3 115 rfl rfl
theorem wt6_142 : Cond.methodLink RL 39 yX12_terms ∈ kG := kt6 142 rfl rfl
theorem wt6_143 : Cond.instanceMethod yX12_terms ∈ kG := kt6 143 rfl rfl
theorem wt6_144 : Cond.selects RX12 yX12_terms yX12_terms ∈ kG := kt6 144 rfl rfl
theorem wt6_145 : Cond.code yX12_terms cX12_terms 5 (some .int) ∈ kG := kt6 145 rfl rfl
theorem wt3_121 : Cond.methodLink RL 40 yX11_feed ∈ kG := kt3 121 rfl rfl
theorem wt3_122 : Cond.instanceMethod yX11_feed ∈ kG := kt3 122 rfl rfl
theorem wt3_123 : Cond.selects RX11 yX11_feed yX11_feed ∈ kG := kt3 123 rfl rfl
theorem wt6_157 : Cond.methodLink RL 44 yX12_feed ∈ kG := kt6 157 rfl rfl
theorem wt6_158 : Cond.instanceMethod yX12_feed ∈ kG := kt6 158 rfl rfl
theorem wt6_159 : Cond.selects RX12 yX12_feed yX12_feed ∈ kG := kt6 159 rfl rfl
theorem wt6_160 : Cond.code yX12_feed cX12_feed 7 (some .int) ∈ kG := kt6 160 rfl rfl
theorem wt3_129 : Cond.methodLink RL 45 yX11_end ∈ kG := kt3 129 rfl rfl
theorem wt3_130 : Cond.instanceMethod yX11_end ∈ kG := kt3 130 rfl rfl
theorem wt3_131 : Cond.selects RX11 yX11_end yX11_end ∈ kG := kt3 131 rfl rfl
theorem wt6_161 : Cond.methodLink RL 49 yX12_end ∈ kG := kt6 161 rfl rfl
theorem wt6_162 : Cond.instanceMethod yX12_end ∈ kG := kt6 162 rfl rfl
theorem wt6_163 : Cond.selects RX12 yX12_end yX12_end ∈ kG := kt6 163 rfl rfl
theorem wt6_164 : Cond.code yX12_end cX12_end 2 (some .int) ∈ kG := kt6 164 rfl rfl
theorem wt3_133 : Cond.methodLink RL 50 yX11_row ∈ kG := kt3 133 rfl rfl
theorem wt3_134 : Cond.instanceMethod yX11_row ∈ kG := kt3 134 rfl rfl
theorem wt3_135 : Cond.selects RX11 yX11_row yX11_row ∈ kG := kt3 135 rfl rfl
theorem wt6_149 : Cond.methodLink RL 54 yX12_row ∈ kG := kt6 149 rfl rfl
theorem wt6_150 : Cond.instanceMethod yX12_row ∈ kG := kt6 150 rfl rfl
theorem wt6_151 : Cond.selects RX12 yX12_row yX12_row ∈ kG := kt6 151 rfl rfl
theorem wt6_152 : Cond.code yX12_row cX12_row 6 (some .int) ∈ kG := kt6 152 rfl rfl
theorem wt3_145 : Cond.methodLink RL 55 yX11_chaff ∈ kG := kt3 145 rfl rfl
theorem wt3_146 : Cond.instanceMethod yX11_chaff ∈ kG := kt3 146 rfl rfl
theorem wt3_147 : Cond.selects RX11 yX11_chaff yX11_chaff ∈ kG := kt3 147 rfl rfl
theorem wt6_153 : Cond.methodLink RL 58 yX12_chaff ∈ kG := kt6 153 rfl rfl
theorem wt6_154 : Cond.instanceMethod yX12_chaff ∈ kG := kt6 154 rfl rfl
theorem wt6_155 : Cond.selects RX12 yX12_chaff yX12_chaff ∈ kG := kt6 155 rfl rfl
theorem wt6_156 : Cond.code yX12_chaff cX12_chaff 1 (some .int) ∈ kG := kt6 156 rfl rfl
theorem wt3_149 : Cond.methodLink RL 59 yX11_law ∈ kG := kt3 149 rfl rfl
theorem wt3_150 : Cond.instanceMethod yX11_law ∈ kG := kt3 150 rfl rfl
theorem wt3_151 : Cond.selects RX11 yX11_law yX11_law ∈ kG := kt3 151 rfl rfl
theorem wt6_165 : Cond.methodLink RL 62 yX12_law ∈ kG := kt6 165 rfl rfl
theorem wt6_166 : Cond.instanceMethod yX12_law ∈ kG := kt6 166 rfl rfl
theorem wt6_167 : Cond.selects RX12 yX12_law yX12_law ∈ kG := kt6 167 rfl rfl
theorem wt6_168 : Cond.code yX12_law cX12_law 1 (some .int) ∈ kG := kt6 168 rfl rfl
theorem wt4_71 : Cond.methodLink RL 63 yX11_orders ∈ kG := kt4 71 rfl rfl
theorem wt4_72 : Cond.instanceMethod yX11_orders ∈ kG := kt4 72 rfl rfl
theorem wt4_73 : Cond.selects RX11 yX11_orders yX11_orders ∈ kG := kt4 73 rfl rfl
theorem wt8_47 : Cond.methodLink RL 66 yX12_orders ∈ kG := kt8 47 rfl rfl
theorem wt8_48 : Cond.instanceMethod yX12_orders ∈ kG := kt8 48 rfl rfl
theorem wt8_49 : Cond.selects RX12 yX12_orders yX12_orders ∈ kG := kt8 49 rfl rfl
theorem wt8_50 : Cond.code yX12_orders cX12_orders 5 (some .int) ∈ kG := kt8 50 rfl rfl
theorem wt4_148 : Cond.methodLink RL 67 yX11_fault ∈ kG := kt4 148 rfl rfl
theorem wt4_149 : Cond.instanceMethod yX11_fault ∈ kG := kt4 149 rfl rfl
theorem wt4_150 : Cond.selects RX11 yX11_fault yX11_fault ∈ kG := kt4 150 rfl rfl
theorem wt7_19 : Cond.methodLink RL 70 yX12_fault ∈ kG := kt7 19 rfl rfl
theorem wt7_20 : Cond.instanceMethod yX12_fault ∈ kG := kt7 20 rfl rfl
theorem wt7_21 : Cond.selects RX12 yX12_fault yX12_fault ∈ kG := kt7 21 rfl rfl
theorem wt7_22 : Cond.code yX12_fault cX12_fault 1 (some .int) ∈ kG := kt7 22 rfl rfl
theorem wt4_152 : Cond.methodLink RL 71 yX11_stopped ∈ kG := kt4 152 rfl rfl
theorem wt4_153 : Cond.instanceMethod yX11_stopped ∈ kG := kt4 153 rfl rfl
theorem wt4_154 : Cond.selects RX11 yX11_stopped yX11_stopped ∈ kG := kt4 154 rfl rfl
theorem wt8_43 : Cond.methodLink RL 74 yX12_stopped ∈ kG := kt8 43 rfl rfl
theorem wt8_44 : Cond.instanceMethod yX12_stopped ∈ kG := kt8 44 rfl rfl
theorem wt8_45 : Cond.selects RX12 yX12_stopped yX12_stopped ∈ kG := kt8 45 rfl rfl
theorem wt8_46 : Cond.code yX12_stopped cX12_stopped 1 (some .int) ∈ kG := kt8 46 rfl rfl
theorem wt4_156 : Cond.methodLink RL 75 yX11_force ∈ kG := kt4 156 rfl rfl
theorem wt4_157 : Cond.instanceMethod yX11_force ∈ kG := kt4 157 rfl rfl
theorem wt4_158 : Cond.selects RX11 yX11_force yX11_force ∈ kG := kt4 158 rfl rfl
theorem wt7_23 : Cond.methodLink RL 78 yX12_force ∈ kG := kt7 23 rfl rfl
theorem wt7_24 : Cond.instanceMethod yX12_force ∈ kG := kt7 24 rfl rfl
theorem wt7_25 : Cond.selects RX12 yX12_force yX12_force ∈ kG := kt7 25 rfl rfl
theorem wt7_26 : Cond.code yX12_force cX12_force 3 (some .int) ∈ kG := kt7 26 rfl rfl
theorem wt4_160 : Cond.methodLink RL 79 yX11_stands ∈ kG := kt4 160 rfl rfl
theorem wt4_161 : Cond.instanceMethod yX11_stands ∈ kG := kt4 161 rfl rfl
theorem wt4_162 : Cond.selects RX11 yX11_stands yX11_stands ∈ kG := kt4 162 rfl rfl
theorem wt7_108 : Cond.methodLink RL 82 yX12_stands ∈ kG := kt7 108 rfl rfl
theorem wt7_109 : Cond.instanceMethod yX12_stands ∈ kG := kt7 109 rfl rfl
theorem wt7_110 : Cond.selects RX12 yX12_stands yX12_stands ∈ kG := kt7 110 rfl rfl
theorem wt7_111 : Cond.code yX12_stands cX12_stands 4 (some .int) ∈ kG := kt7 111 rfl rfl
theorem wt4_165 : Cond.methodLink RL 83 yX11_send ∈ kG := kt4 165 rfl rfl
theorem wt4_166 : Cond.instanceMethod yX11_send ∈ kG := kt4 166 rfl rfl
theorem wt4_167 : Cond.selects RX11 yX11_send yX11_send ∈ kG := kt4 167 rfl rfl
theorem wt7_116 : Cond.methodLink RL 86 yX12_send ∈ kG := kt7 116 rfl rfl
theorem wt7_117 : Cond.instanceMethod yX12_send ∈ kG := kt7 117 rfl rfl
theorem wt7_118 : Cond.selects RX12 yX12_send yX12_send ∈ kG := kt7 118 rfl rfl
theorem wt7_119 : Cond.code yX12_send cX12_send 3 (some .int) ∈ kG := kt7 119 rfl rfl
theorem wt4_174 : Cond.methodLink RL 87 yX11_rest ∈ kG := kt4 174 rfl rfl
theorem wt4_175 : Cond.instanceMethod yX11_rest ∈ kG := kt4 175 rfl rfl
theorem wt4_176 : Cond.selects RX11 yX11_rest yX11_rest ∈ kG := kt4 176 rfl rfl
theorem wt7_132 : Cond.methodLink RL 90 yX12_rest ∈ kG := kt7 132 rfl rfl
theorem wt7_133 : Cond.instanceMethod yX12_rest ∈ kG := kt7 133 rfl rfl
theorem wt7_134 : Cond.selects RX12 yX12_rest yX12_rest ∈ kG := kt7 134 rfl rfl
theorem wt7_135 : Cond.code yX12_rest cX12_rest 2 (some .int) ∈ kG := kt7 135 rfl rfl
theorem wt4_179 : Cond.methodLink RL 91 yX11_throwDown ∈ kG := kt4 179 rfl rfl
theorem wt4_180 : Cond.instanceMethod yX11_throwDown ∈ kG := kt4 180 rfl rfl
theorem wt4_181 : Cond.selects RX11 yX11_throwDown yX11_throwDown ∈ kG := kt4 181 rfl rfl
theorem wt7_140 : Cond.methodLink RL 94 yX12_throwDown ∈ kG := kt7 140 rfl rfl
theorem wt7_141 : Cond.instanceMethod yX12_throwDown ∈ kG := kt7 141 rfl rfl
theorem wt7_142 : Cond.selects RX12 yX12_throwDown yX12_throwDown ∈ kG := kt7 142 rfl rfl
theorem wt7_143 : Cond.code yX12_throwDown cX12_throwDown 2 (some .int) ∈ kG := kt7 143 rfl rfl
theorem wt4_184 : Cond.methodLink RL 95 yX11_tick ∈ kG := kt4 184 rfl rfl
theorem wt4_185 : Cond.instanceMethod yX11_tick ∈ kG := kt4 185 rfl rfl
theorem wt4_186 : Cond.selects RX11 yX11_tick yX11_tick ∈ kG := kt4 186 rfl rfl
theorem wt7_156 : Cond.methodLink RL 98 yX12_tick ∈ kG := kt7 156 rfl rfl
theorem wt7_157 : Cond.instanceMethod yX12_tick ∈ kG := kt7 157 rfl rfl
theorem wt7_158 : Cond.selects RX12 yX12_tick yX12_tick ∈ kG := kt7 158 rfl rfl
theorem wt7_159 : Cond.code yX12_tick cX12_tick 1 (some .int) ∈ kG := kt7 159 rfl rfl
theorem wt4_189 : Cond.methodLink RL 99 yX11_undo ∈ kG := kt4 189 rfl rfl
theorem wt4_190 : Cond.instanceMethod yX11_undo ∈ kG := kt4 190 rfl rfl
theorem wt4_191 : Cond.selects RX11 yX11_undo yX11_undo ∈ kG := kt4 191 rfl rfl
theorem wt7_112 : Cond.methodLink RL 102 yX12_undo ∈ kG := kt7 112 rfl rfl
theorem wt7_113 : Cond.instanceMethod yX12_undo ∈ kG := kt7 113 rfl rfl
theorem wt7_114 : Cond.selects RX12 yX12_undo yX12_undo ∈ kG := kt7 114 rfl rfl
theorem wt7_115 : Cond.code yX12_undo cX12_undo 3 (some .int) ∈ kG := kt7 115 rfl rfl
theorem wt4_197 : Cond.methodLink RL 103 yX11_longest ∈ kG := kt4 197 rfl rfl
theorem wt4_198 : Cond.instanceMethod yX11_longest ∈ kG := kt4 198 rfl rfl
theorem wt4_199 : Cond.selects RX11 yX11_longest yX11_longest ∈ kG := kt4 199 rfl rfl
theorem wt7_175 : Cond.methodLink RL 106 yX12_longest ∈ kG := kt7 175 rfl rfl
theorem wt7_176 : Cond.instanceMethod yX12_longest ∈ kG := kt7 176 rfl rfl
theorem wt7_177 : Cond.selects RX12 yX12_longest yX12_longest ∈ kG := kt7 177 rfl rfl
theorem wt7_178 : Cond.code yX12_longest cX12_longest 3 (some .int) ∈ kG := kt7 178 rfl rfl
theorem wt4_201 : Cond.methodLink RL 107 yX11_rows ∈ kG := kt4 201 rfl rfl
theorem wt4_202 : Cond.instanceMethod yX11_rows ∈ kG := kt4 202 rfl rfl
theorem wt4_203 : Cond.selects RX11 yX11_rows yX11_rows ∈ kG := kt4 203 rfl rfl
theorem wt7_179 : Cond.methodLink RL 110 yX12_rows ∈ kG := kt7 179 rfl rfl
theorem wt7_180 : Cond.instanceMethod yX12_rows ∈ kG := kt7 180 rfl rfl
theorem wt7_181 : Cond.selects RX12 yX12_rows yX12_rows ∈ kG := kt7 181 rfl rfl
theorem wt7_182 : Cond.code yX12_rows cX12_rows 7 (some .int) ∈ kG := kt7 182 rfl rfl
theorem wt4_224 : Cond.methodLink RL 111 yX11_plan ∈ kG := kt4 224 rfl rfl
theorem wt4_225 : Cond.instanceMethod yX11_plan ∈ kG := kt4 225 rfl rfl
theorem wt4_226 : Cond.selects RX11 yX11_plan yX11_plan ∈ kG := kt4 226 rfl rfl
theorem wt7_195 : Cond.methodLink RL 114 yX12_plan ∈ kG := kt7 195 rfl rfl
theorem wt5_28 : Cond.methodLink RL 115 yX11_hands ∈ kG := kt5 28 rfl rfl
theorem wt5_29 : Cond.instanceMethod yX11_hands ∈ kG := kt5 29 rfl rfl
theorem wt5_30 : Cond.selects RX11 yX11_hands yX11_hands ∈ kG := kt5 30 rfl rfl
theorem wt7_227 : Cond.methodLink RL 118 yX12_hands ∈ kG := kt7 227 rfl rfl
theorem wt7_228 : Cond.instanceMethod yX12_hands ∈ kG := kt7 228 rfl rfl
theorem wt7_229 : Cond.selects RX12 yX12_hands yX12_hands ∈ kG := kt7 229 rfl rfl
theorem wt7_230 : Cond.code yX12_hands cX12_hands 4 (some .int) ∈ kG := kt7 230 rfl rfl
theorem wt5_43 : Cond.methodLink RL 119 yX11_taught ∈ kG := kt5 43 rfl rfl
theorem wt5_44 : Cond.instanceMethod yX11_taught ∈ kG := kt5 44 rfl rfl
theorem wt5_45 : Cond.selects RX11 yX11_taught yX11_taught ∈ kG := kt5 45 rfl rfl
theorem wt7_231 : Cond.methodLink RL 122 yX12_taught ∈ kG := kt7 231 rfl rfl
theorem wt7_232 : Cond.instanceMethod yX12_taught ∈ kG := kt7 232 rfl rfl
theorem wt7_233 : Cond.selects RX12 yX12_taught yX12_taught ∈ kG := kt7 233 rfl rfl
theorem wt7_234 : Cond.code yX12_taught cX12_taught 8 (some .int) ∈ kG := kt7 234 rfl rfl
theorem wt5_60 : Cond.methodLink RL 123 yX11_unseen ∈ kG := kt5 60 rfl rfl
theorem wt5_61 : Cond.instanceMethod yX11_unseen ∈ kG := kt5 61 rfl rfl
theorem wt5_62 : Cond.selects RX11 yX11_unseen yX11_unseen ∈ kG := kt5 62 rfl rfl
theorem wt8_0 : Cond.methodLink RL 127 yX12_unseen ∈ kG := kt8 0 rfl rfl
theorem wt8_1 : Cond.instanceMethod yX12_unseen ∈ kG := kt8 1 rfl rfl
theorem wt8_2 : Cond.selects RX12 yX12_unseen yX12_unseen ∈ kG := kt8 2 rfl rfl
theorem wt8_3 : Cond.code yX12_unseen cX12_unseen 6 (some .long) ∈ kG := kt8 3 rfl rfl
theorem wt5_77 : Cond.methodLink RL 128 yX11_sight ∈ kG := kt5 77 rfl rfl
theorem wt5_78 : Cond.instanceMethod yX11_sight ∈ kG := kt5 78 rfl rfl
theorem wt5_79 : Cond.selects RX11 yX11_sight yX11_sight ∈ kG := kt5 79 rfl rfl
theorem wt8_7 : Cond.methodLink RL 131 yX12_sight ∈ kG := kt8 7 rfl rfl
theorem wt8_8 : Cond.instanceMethod yX12_sight ∈ kG := kt8 8 rfl rfl
theorem wt8_9 : Cond.selects RX12 yX12_sight yX12_sight ∈ kG := kt8 9 rfl rfl
theorem wt8_10 : Cond.code yX12_sight cX12_sight 5 (some .int) ∈ kG := kt8 10 rfl rfl
theorem wt5_81 : Cond.methodLink RL 132 yX11_forget ∈ kG := kt5 81 rfl rfl
theorem wt5_82 : Cond.instanceMethod yX11_forget ∈ kG := kt5 82 rfl rfl
theorem wt5_83 : Cond.selects RX11 yX11_forget yX11_forget ∈ kG := kt5 83 rfl rfl
theorem wt8_11 : Cond.methodLink RL 135 yX12_forget ∈ kG := kt8 11 rfl rfl
theorem wt8_12 : Cond.instanceMethod yX12_forget ∈ kG := kt8 12 rfl rfl
theorem wt8_13 : Cond.selects RX12 yX12_forget yX12_forget ∈ kG := kt8 13 rfl rfl
theorem wt8_14 : Cond.code yX12_forget cX12_forget 2 (some .int) ∈ kG := kt8 14 rfl rfl
theorem wt5_85 : Cond.methodLink RL 136 yX11_whose ∈ kG := kt5 85 rfl rfl
theorem wt5_86 : Cond.instanceMethod yX11_whose ∈ kG := kt5 86 rfl rfl
theorem wt5_87 : Cond.selects RX11 yX11_whose yX11_whose ∈ kG := kt5 87 rfl rfl
theorem wt8_15 : Cond.methodLink RL 139 yX12_whose ∈ kG := kt8 15 rfl rfl
theorem wt8_16 : Cond.instanceMethod yX12_whose ∈ kG := kt8 16 rfl rfl
theorem wt8_17 : Cond.selects RX12 yX12_whose yX12_whose ∈ kG := kt8 17 rfl rfl
theorem wt8_18 : Cond.code yX12_whose cX12_whose 4 (some .int) ∈ kG := kt8 18 rfl rfl
theorem wt5_101 : Cond.methodLink RL 140 yX11_look ∈ kG := kt5 101 rfl rfl
theorem wt5_102 : Cond.instanceMethod yX11_look ∈ kG := kt5 102 rfl rfl
theorem wt5_103 : Cond.selects RX11 yX11_look yX11_look ∈ kG := kt5 103 rfl rfl
theorem wt8_35 : Cond.methodLink RL 143 yX12_look ∈ kG := kt8 35 rfl rfl
theorem wt8_36 : Cond.instanceMethod yX12_look ∈ kG := kt8 36 rfl rfl
theorem wt8_37 : Cond.selects RX12 yX12_look yX12_look ∈ kG := kt8 37 rfl rfl
theorem wt8_38 : Cond.code yX12_look cX12_look 8 (some .int) ∈ kG := kt8 38 rfl rfl
theorem wt5_114 : Cond.methodLink RL 144 yX11_nights ∈ kG := kt5 114 rfl rfl
theorem wt5_115 : Cond.instanceMethod yX11_nights ∈ kG := kt5 115 rfl rfl
theorem wt5_116 : Cond.selects RX11 yX11_nights yX11_nights ∈ kG := kt5 116 rfl rfl
theorem wt8_67 : Cond.methodLink RL 147 yX12_nights ∈ kG := kt8 67 rfl rfl
theorem wt8_68 : Cond.instanceMethod yX12_nights ∈ kG := kt8 68 rfl rfl
theorem wt8_69 : Cond.selects RX12 yX12_nights yX12_nights ∈ kG := kt8 69 rfl rfl
theorem wt8_70 : Cond.code yX12_nights cX12_nights 6 (some .int) ∈ kG := kt8 70 rfl rfl
theorem wt5_129 : Cond.methodLink RL 148 yX11_drawn ∈ kG := kt5 129 rfl rfl
theorem wt5_130 : Cond.instanceMethod yX11_drawn ∈ kG := kt5 130 rfl rfl
theorem wt5_131 : Cond.selects RX11 yX11_drawn yX11_drawn ∈ kG := kt5 131 rfl rfl
theorem wt8_78 : Cond.methodLink RL 151 yX12_drawn ∈ kG := kt8 78 rfl rfl
theorem wt8_79 : Cond.instanceMethod yX12_drawn ∈ kG := kt8 79 rfl rfl
theorem wt8_80 : Cond.selects RX12 yX12_drawn yX12_drawn ∈ kG := kt8 80 rfl rfl
theorem wt8_81 : Cond.code yX12_drawn cX12_drawn 3 (some .int) ∈ kG := kt8 81 rfl rfl
theorem wt5_137 : Cond.methodLink RL 152 yX11_image ∈ kG := kt5 137 rfl rfl
theorem wt5_138 : Cond.instanceMethod yX11_image ∈ kG := kt5 138 rfl rfl
theorem wt5_139 : Cond.selects RX11 yX11_image yX11_image ∈ kG := kt5 139 rfl rfl
theorem wt6_65 : Cond.methodLink RL 155 yX12_image ∈ kG := kt6 65 rfl rfl
theorem wt6_66 : Cond.instanceMethod yX12_image ∈ kG := kt6 66 rfl rfl
theorem wt6_67 : Cond.selects RX12 yX12_image yX12_image ∈ kG := kt6 67 rfl rfl
theorem wt6_68 : Cond.code yX12_image cX12_image 3 (some .int) ∈ kG := kt6 68 rfl rfl
theorem wt5_142 : Cond.methodLink RL 156 yX11_back ∈ kG := kt5 142 rfl rfl
theorem wt5_143 : Cond.instanceMethod yX11_back ∈ kG := kt5 143 rfl rfl
theorem wt5_144 : Cond.selects RX11 yX11_back yX11_back ∈ kG := kt5 144 rfl rfl
theorem wt6_80 : Cond.methodLink RL 159 yX12_back ∈ kG := kt6 80 rfl rfl
theorem wt6_81 : Cond.instanceMethod yX12_back ∈ kG := kt6 81 rfl rfl
theorem wt6_82 : Cond.selects RX12 yX12_back yX12_back ∈ kG := kt6 82 rfl rfl
theorem wt6_83 : Cond.code yX12_back cX12_back 3 (some .int) ∈ kG := kt6 83 rfl rfl
theorem wt5_146 : Cond.methodLink RL 160 yX11_count ∈ kG := kt5 146 rfl rfl
theorem wt5_147 : Cond.instanceMethod yX11_count ∈ kG := kt5 147 rfl rfl
theorem wt5_148 : Cond.selects RX11 yX11_count yX11_count ∈ kG := kt5 148 rfl rfl
theorem wt8_82 : Cond.methodLink RL 163 yX12_count ∈ kG := kt8 82 rfl rfl
theorem wt8_83 : Cond.instanceMethod yX12_count ∈ kG := kt8 83 rfl rfl
theorem wt8_84 : Cond.selects RX12 yX12_count yX12_count ∈ kG := kt8 84 rfl rfl
theorem wt8_85 : Cond.code yX12_count cX12_count 2 (some .int) ∈ kG := kt8 85 rfl rfl
theorem wt5_150 : Cond.methodLink RL 164 yX11_status ∈ kG := kt5 150 rfl rfl
theorem wt5_151 : Cond.instanceMethod yX11_status ∈ kG := kt5 151 rfl rfl
theorem wt5_152 : Cond.selects RX11 yX11_status yX11_status ∈ kG := kt5 152 rfl rfl
theorem wt8_86 : Cond.methodLink RL 167 yX12_status ∈ kG := kt8 86 rfl rfl
theorem wt8_87 : Cond.instanceMethod yX12_status ∈ kG := kt8 87 rfl rfl
theorem wt8_88 : Cond.selects RX12 yX12_status yX12_status ∈ kG := kt8 88 rfl rfl
theorem wt8_89 : Cond.code yX12_status cX12_status 1 (some .int) ∈ kG := kt8 89 rfl rfl
set_option maxHeartbeats 4000000 in
set_option maxRecDepth 100000 in
theorem law_part {p : Program} {e : Env} {s : State} {m : MethodId} {below : List Frame} {meth : Method} {c : Code} (l : Launch) {b L : Nat} {xs : Nat → Int32} (C0 : lw_At p s m meth c b L xs) (hL2 : L ≤ 3072) {D : va_G} {K : Nat → ClassId} (hK : va_K D vwCl (tysK K) s) (hV : xE K (fun q : Nat => s.heap.size ≤ q) s s.heap) {u : Nat → Nat} {o : Nat} {r : Nat → Nat} {f : Nat → Int32} {a : Nat → Nat → Int32} {g : xG} {i0 i1 : Option sX} {tt : va_W} {ef : Nat → Int32} {ea : Nat → Nat → Int32} {eg : Nat → Int64} (hJ : rJ K f a g i0 i1 tt ef ea) {i : Int32} {ii : Nat} (hi : i.toInt = (ii : Int)) (hL : ii + 6 ≤ L) {c0 s0 : Nat} (hc0 : c0 + 21 ≤ 600000) (hs0 : s0 + 467 ≤ 7302250) {H : Heap} {locs : List Loc} (hP : va_P D vwCl (lWd K u f a g i0 i1 tt o r ef ea eg) H) (hD : va_D (fun q : Nat => s.heap.size ≤ q) (lWd K u f a g i0 i1 tt o r ef ea eg)) (hS : va_S (fun q : Nat => s.heap.size ≤ q) s.heap H locs) {ls : Array Slot} (hl : lv_has ls 4 [(3, .int i), (2, .ref o), (1, .ref (u 0)), (0, .ref b)]) (kk : ∀ (f : Nat → Int32) (a : Nat → Nat → Int32) (g : xG) (i0 i1 : Option sX) (tt : va_W) (ef : Nat → Int32) (ea : Nat → Nat → Int32) (eg : Nat → Int64) (H : Heap) (locs : List Loc), rJ K f a g i0 i1 tt ef ea → va_P D vwCl (lWd K u f a g i0 i1 tt o r ef ea eg) H → va_D (fun q : Nat => s.heap.size ≤ q) (lWd K u f a g i0 i1 tt o r ef ea eg) → va_S (fun q : Nat => s.heap.size ≤ q) s.heap H locs → W p l e room_1 s m #[Value.ref b] below meth c H locs (c0 + 21) (s0 + 467) (lw_Z below #[Value.ref b] s) (F0 m 1127 ls [])) : W p l e room_1 s m #[Value.ref b] below meth c H locs c0 s0 (lw_Z below #[Value.ref b] s) (F0 m 196 ls []) := by
  obtain ⟨hx, hb, hr, hml, hown, hts, hX, hbl, hlocks, hgv⟩ := id C0
  have hA : ∀ q : Nat, s.heap.size ≤ q → (fun q : Nat => s.heap.size ≤ q) q := fun _ h => h
  have hbA : ¬ (fun q : Nat => s.heap.size ≤ q) b := Nat.not_le.mpr hbl
  have hg : ∀ w ∈ kG, w.before #[Value.ref b] s = true := fun w h => hts w (kG_in w h)
  have hown : s.vm.findClass RL = some m.cls := hown
  obtain ⟨hI, hG, hi0, hi1, hg0, hg1, hM, hR, hIm, hTp, hCh, hFl, hSp, hSt, hRf, hSl, hJ0, hJ1⟩ := hJ
  obtain ⟨DD, P, hSV, hkk, h22, hLM, hLC, hXP, hMP, hPO⟩ := id hSl
  refine lv_aload_n hx hb dL_law_196 rfl (lv_at hl 2 rfl) ?_
  refine lv_aload_n hx hb dL_law_197 rfl (lv_at hl 3 rfl) ?_
  refine lv_iload_n hx hb dL_law_198 rfl (lv_at hl 0 rfl) ?_
  refine lv_iconst (v := 1) hx hb dL_law_199 (by decide) ?_
  refine lv_iadd hx hb dL_law_200 ?_
  refine va_sld hx hb hX hbl hbA hS (ix_in hi hL hL2 (kn := 1) (by decide +kernel) (by decide)) dL_law_201 ?_
  refine lv_topi (fun y1 ey1 => ?_)
  refine lv_aload_n hx hb dL_law_202 rfl (lv_at hl 3 rfl) ?_
  refine lv_iload_n hx hb dL_law_203 rfl (lv_at hl 0 rfl) ?_
  refine lv_iconst (v := 2) hx hb dL_law_204 (by decide) ?_
  refine lv_iadd hx hb dL_law_205 ?_
  refine va_sld hx hb hX hbl hbA hS (ix_in hi hL hL2 (kn := 2) (by decide +kernel) (by decide)) dL_law_206 ?_
  refine lv_topi (fun y2 ey2 => ?_)
  refine lv_aload_n hx hb dL_law_207 rfl (lv_at hl 3 rfl) ?_
  refine lv_iload_n hx hb dL_law_208 rfl (lv_at hl 0 rfl) ?_
  refine lv_iconst (v := 3) hx hb dL_law_209 (by decide) ?_
  refine lv_iadd hx hb dL_law_210 ?_
  refine va_sld hx hb hX hbl hbA hS (ix_in hi hL hL2 (kn := 3) (by decide +kernel) (by decide)) dL_law_211 ?_
  refine lv_topi (fun y3 ey3 => ?_)
  refine lv_aload_n hx hb dL_law_212 rfl (lv_at hl 3 rfl) ?_
  refine lv_iload_n hx hb dL_law_213 rfl (lv_at hl 0 rfl) ?_
  refine lv_iconst (v := 4) hx hb dL_law_214 (by decide) ?_
  refine lv_iadd hx hb dL_law_215 ?_
  refine va_sld hx hb hX hbl hbA hS (ix_in hi hL hL2 (kn := 4) (by decide +kernel) (by decide)) dL_law_216 ?_
  refine lv_topi (fun y4 ey4 => ?_)
  refine kIG.callX (As := [.int y1, .int y2, .int y3, .int y4]) (rest := []) ⟨hx, hb, hml, hown, hg⟩ (z_part l u f a g (iW K i0 ++ (iW K i1 ++ tt)) tt mem_rr hI hG y1 y2 y3 y4 (ea 2) hSV hkk P hXP) (cwV 4 hg (kgV wt2_239 wt3_0 wt3_1 wt1_1 wt3_2) rfl rfl rfl (by decide +kernel) ⟨by decide, by decide⟩) hV hK hP hD hS hA 0 11 rfl rfl rfl hl.1 rfl (Nat.le_of_ble_eq_true rfl) dL_law_217 ⟨by show c0 + 0 ≤ 600000; omega, by show s0 + 0 ≤ 7302250; omega⟩ (fun v1 u1 H locs h1 hP hD hS => ?_)
  obtain ⟨f1, a1, g1⟩ := u1
  have hI1 : xI f1 a1 := h1.2.1
  have hG1 : gOK K g1.2 tt := h1.2.2.1
  have hE1 : xEk ([16, 32, 704, 705, 2565, 2566, 2786], [2, 3, 4, 5, 6, 81, 94], []) f a g f1 a1 g1 := h1.2.2.2.1
  have hj0 := hi0
  have hj1 := hi1
  have hq0 : g1.2 92 0 = iA i0 := by rw [show g1.2 92 = g.2 92 from hE1.2.2 92 rfl]; exact hg0
  have hq1 : g1.2 92 1 = iA i1 := by rw [show g1.2 92 = g.2 92 from hE1.2.2 92 rfl]; exact hg1
  have hP : va_P D vwCl (lWd K u f1 a1 g1 i0 i1 tt o r ef ea eg) H := hP
  have hD : va_D (fun q : Nat => s.heap.size ≤ q) (lWd K u f1 a1 g1 i0 i1 tt o r ef ea eg) := hD
  refine lv_pop hx hb dL_law_220 rfl ?_
  refine lv_aload_n hx hb dL_law_221 rfl (lv_at hl 1 rfl) ?_
  refine lv_aload_n hx hb dL_law_222 rfl (lv_at hl 3 rfl) ?_
  refine lv_iload_n hx hb dL_law_223 rfl (lv_at hl 0 rfl) ?_
  refine lv_iconst (v := 1) hx hb dL_law_224 (by decide) ?_
  refine lv_iadd hx hb dL_law_225 ?_
  refine va_sld hx hb hX hbl hbA hS (ix_in hi hL hL2 (kn := 1) (by decide +kernel) (by decide)) dL_law_226 ?_
  refine k_top (z := y1) ey1.symm ?_
  refine lv_aload_n hx hb dL_law_227 rfl (lv_at hl 3 rfl) ?_
  refine lv_iload_n hx hb dL_law_228 rfl (lv_at hl 0 rfl) ?_
  refine lv_iconst (v := 2) hx hb dL_law_229 (by decide) ?_
  refine lv_iadd hx hb dL_law_230 ?_
  refine va_sld hx hb hX hbl hbA hS (ix_in hi hL hL2 (kn := 2) (by decide +kernel) (by decide)) dL_law_231 ?_
  refine k_top (z := y2) ey2.symm ?_
  refine lv_aload_n hx hb dL_law_232 rfl (lv_at hl 3 rfl) ?_
  refine lv_iload_n hx hb dL_law_233 rfl (lv_at hl 0 rfl) ?_
  refine lv_iconst (v := 3) hx hb dL_law_234 (by decide) ?_
  refine lv_iadd hx hb dL_law_235 ?_
  refine va_sld hx hb hX hbl hbA hS (ix_in hi hL hL2 (kn := 3) (by decide +kernel) (by decide)) dL_law_236 ?_
  refine k_top (z := y3) ey3.symm ?_
  refine lv_aload_n hx hb dL_law_237 rfl (lv_at hl 3 rfl) ?_
  refine lv_iload_n hx hb dL_law_238 rfl (lv_at hl 0 rfl) ?_
  refine lv_iconst (v := 4) hx hb dL_law_239 (by decide) ?_
  refine lv_iadd hx hb dL_law_240 ?_
  refine va_sld hx hb hX hbl hbA hS (ix_in hi hL hL2 (kn := 4) (by decide +kernel) (by decide)) dL_law_241 ?_
  refine k_top (z := y4) ey4.symm ?_
  refine kI.callM (As := [.int y1, .int y2, .int y3, .int y4]) (rest := []) ⟨hx, hb, hml, hown, hg⟩ (n_part l o r ef ea eg hM y1 y2 y3 y4 P hMP) (cwV 4 hg (kgV wt6_88 wt6_89 wt6_90 wt1_14 wt6_91) rfl rfl rfl (by decide +kernel) ⟨by decide, by decide⟩) hK hP hD hS hA 0 12 rfl rfl rfl hl.1 rfl (Nat.le_of_ble_eq_true rfl) dL_law_242 ⟨by show c0 + 0 + 0 ≤ 600000; omega, by show s0 + 0 + 0 ≤ 7302250; omega⟩ (fun v2 u2 H locs h2 hP hD hS => ?_)
  obtain ⟨ef2, ea2, eg2⟩ := u2
  have hM2 : mI ef2 ea2 := (h2.2.1)
  have hP : va_P D vwCl (lWd K u f1 a1 g1 i0 i1 tt o r ef2 ea2 eg2) H := hP
  have hD : va_D (fun q : Nat => s.heap.size ≤ q) (lWd K u f1 a1 g1 i0 i1 tt o r ef2 ea2 eg2) := hD
  have hb1 : prtP (okPx y1 y2 y3 y4 (f 32)) v1 (f 32) (f1 32) := (h1.2.2.2.2.1)
  rw [show f 32 = ea 2 102 from sv_parts hSV] at hb1
  have hb2 : prtP (okPm y1 y2 y3 y4 (ea 2 102)) v2 (ea 2 102) (ea2 2 102) := (h2.2.2.2.1)
  have hv := (prt_eq (okP_iff (kK_r hkk 102 0 10 (by decide) (by decide))) hb1 hb2).1
  have hq := rlS_t (h1.2.2.2.2.2) (h2.2.2.2.2.1) hv hkk h22 hLM hLC hPO (hE1.2.2 15 rfl) hRf (fun n9 => by have q := prt_o hb2 (hv ▸ n9); exact prt_n hkk q.1 q.2 h22 hLM)
  have hRn : f1 12 = ef2 13 := (hE1.1 12 rfl).trans (hR.trans (show ef2 13 = ef 13 from (h2.2.2.2.2.2).1 13 rfl).symm)
  have hImn : xIm i0 i1 (ea2 4) := (by rw [(show ea2 4 = ea 4 from (h2.2.2.2.2.2).2 4 rfl)]; exact hIm)
  have hTpn : xTq (a1 93) (ea2 11) := xTq_k hTp (hE1.2.1 93 rfl) (show ea2 11 = ea 11 from (h2.2.2.2.2.2).2 11 rfl)
  have hChn : f1 14 = ef2 6 := (hE1.1 14 rfl).trans (hCh.trans (show ef2 6 = ef 6 from (h2.2.2.2.2.2).1 6 rfl).symm)
  have hFln : f1 13 = ef2 14 := (hE1.1 13 rfl).trans (hFl.trans (show ef2 14 = ef 14 from (h2.2.2.2.2.2).1 14 rfl).symm)
  have hSpn : f1 15 = ef2 37 := (hE1.1 15 rfl).trans (hSp.trans (show ef2 37 = ef 37 from (h2.2.2.2.2.2).1 37 rfl).symm)
  have hStn : f1 16 = ef2 0 := hq.2.1
  have hRfn : rfE (a1 94) (ea2 1) := hq.2.2
  have hSln : rlS K tt f1 a1 (g1.2 15) ef2 ea2 := hq.1
  have hJ0n : rlI K tt i0 (imK (ea2 3) 0) := (by rw [(show ea2 3 = ea 3 from (h2.2.2.2.2.2).2 3 rfl)]; exact hJ0)
  have hJ1n : rlI K tt i1 (imK (ea2 3) 1) := (by rw [(show ea2 3 = ea 3 from (h2.2.2.2.2.2).2 3 rfl)]; exact hJ1)
  refine lv_pop hx hb dL_law_245 rfl ?_
  refine lv_goto (tgt := 1127) hx hb dL_law_246 (by decide) ?_
  refine W.widen (k := c0 + 21) (n := s0 + 467) (by show c0 + 0 + 0 ≤ c0 + 21; omega) (by show s0 + 0 + 0 ≤ s0 + 467; omega) ?_
  exact kk _ _ _ _ _ _ _ _ _ _ _ ⟨hI1, hG1, hj0, hj1, hq0, hq1, hM2, hRn, hImn, hTpn, hChn, hFln, hSpn, hStn, hRfn, hSln, hJ0n, hJ1n⟩ hP hD hS
set_option maxHeartbeats 4000000 in
set_option maxRecDepth 100000 in
theorem law_of {p : Program} {e : Env} {s : State} {m : MethodId} {below : List Frame} {meth : Method} {c : Code} (l : Launch) {b L : Nat} {xs : Nat → Int32} (C0 : lw_At p s m meth c b L xs) (hL2 : L ≤ 3072) {D : va_G} {K : Nat → ClassId} (hK : va_K D vwCl (tysK K) s) (hV : xE K (fun q : Nat => s.heap.size ≤ q) s s.heap) {u : Nat → Nat} {o : Nat} {r : Nat → Nat} {f : Nat → Int32} {a : Nat → Nat → Int32} {g : xG} {i0 i1 : Option sX} {tt : va_W} {ef : Nat → Int32} {ea : Nat → Nat → Int32} {eg : Nat → Int64} (hJ : rJ K f a g i0 i1 tt ef ea) {i : Int32} {ii : Nat} (hi : i.toInt = (ii : Int)) (hL : ii + 6 ≤ L) {c0 s0 : Nat} (hc0 : c0 + 21 ≤ 600000) (hs0 : s0 + 467 ≤ 7302250) {H : Heap} {locs : List Loc} (hP : va_P D vwCl (lWd K u f a g i0 i1 tt o r ef ea eg) H) (hD : va_D (fun q : Nat => s.heap.size ≤ q) (lWd K u f a g i0 i1 tt o r ef ea eg)) (hS : va_S (fun q : Nat => s.heap.size ≤ q) s.heap H locs) {ls : Array Slot} (hl : lv_has ls 4 [(3, .int i), (2, .ref o), (1, .ref (u 0)), (0, .ref b)]) (kk : ∀ (f : Nat → Int32) (a : Nat → Nat → Int32) (g : xG) (i0 i1 : Option sX) (tt : va_W) (ef : Nat → Int32) (ea : Nat → Nat → Int32) (eg : Nat → Int64) (H : Heap) (locs : List Loc), rJ K f a g i0 i1 tt ef ea → va_P D vwCl (lWd K u f a g i0 i1 tt o r ef ea eg) H → va_D (fun q : Nat => s.heap.size ≤ q) (lWd K u f a g i0 i1 tt o r ef ea eg) → va_S (fun q : Nat => s.heap.size ≤ q) s.heap H locs → W p l e room_1 s m #[Value.ref b] below meth c H locs (c0 + 21) (s0 + 467) (lw_Z below #[Value.ref b] s) (F0 m 1127 ls [])) : W p l e room_1 s m #[Value.ref b] below meth c H locs c0 s0 (lw_Z below #[Value.ref b] s) (F0 m 249 ls []) := by
  obtain ⟨hx, hb, hr, hml, hown, hts, hX, hbl, hlocks, hgv⟩ := id C0
  have hA : ∀ q : Nat, s.heap.size ≤ q → (fun q : Nat => s.heap.size ≤ q) q := fun _ h => h
  have hbA : ¬ (fun q : Nat => s.heap.size ≤ q) b := Nat.not_le.mpr hbl
  have hg : ∀ w ∈ kG, w.before #[Value.ref b] s = true := fun w h => hts w (kG_in w h)
  have hown : s.vm.findClass RL = some m.cls := hown
  obtain ⟨hI, hG, hi0, hi1, hg0, hg1, hM, hR, hIm, hTp, hCh, hFl, hSp, hSt, hRf, hSl, hJ0, hJ1⟩ := hJ
  obtain ⟨DD, P, hSV, hkk, h22, hLM, hLC, hXP, hMP, hPO⟩ := id hSl
  refine lv_aload_n hx hb dL_law_249 rfl (lv_at hl 2 rfl) ?_
  refine lv_aload_n hx hb dL_law_250 rfl (lv_at hl 3 rfl) ?_
  refine lv_iload_n hx hb dL_law_251 rfl (lv_at hl 0 rfl) ?_
  refine lv_iconst (v := 1) hx hb dL_law_252 (by decide) ?_
  refine lv_iadd hx hb dL_law_253 ?_
  refine va_sld hx hb hX hbl hbA hS (ix_in hi hL hL2 (kn := 1) (by decide +kernel) (by decide)) dL_law_254 ?_
  refine lv_topi (fun y1 ey1 => ?_)
  refine lv_aload_n hx hb dL_law_255 rfl (lv_at hl 3 rfl) ?_
  refine lv_iload_n hx hb dL_law_256 rfl (lv_at hl 0 rfl) ?_
  refine lv_iconst (v := 2) hx hb dL_law_257 (by decide) ?_
  refine lv_iadd hx hb dL_law_258 ?_
  refine va_sld hx hb hX hbl hbA hS (ix_in hi hL hL2 (kn := 2) (by decide +kernel) (by decide)) dL_law_259 ?_
  refine lv_topi (fun y2 ey2 => ?_)
  refine kIG.callX (As := [.int y1, .int y2]) (rest := []) ⟨hx, hb, hml, hown, hg⟩ (z_of l u f a g (iW K i0 ++ (iW K i1 ++ tt)) tt mem_rr hI hG y1 y2 (ea 2) hSV hkk ) (cwV 2 hg (kgV wt3_31 wt3_32 wt3_33 wt1_1 wt3_34) rfl rfl rfl (by decide +kernel) ⟨by decide, by decide⟩) hV hK hP hD hS hA 0 11 rfl rfl rfl hl.1 rfl (Nat.le_of_ble_eq_true rfl) dL_law_260 ⟨by show c0 + 0 ≤ 600000; omega, by show s0 + 0 ≤ 7302250; omega⟩ (fun v1 u1 H locs h1 hP hD hS => ?_)
  obtain ⟨f1, a1, g1⟩ := u1
  have hI1 : xI f1 a1 := h1.2.1
  have hG1 : gOK K g1.2 tt := h1.2.2.1
  have hE1 : xEk ([], [21], []) f a g f1 a1 g1 := h1.2.2.2.1
  have hj0 := hi0
  have hj1 := hi1
  have hq0 : g1.2 92 0 = iA i0 := by rw [show g1.2 92 = g.2 92 from hE1.2.2 92 rfl]; exact hg0
  have hq1 : g1.2 92 1 = iA i1 := by rw [show g1.2 92 = g.2 92 from hE1.2.2 92 rfl]; exact hg1
  have hP : va_P D vwCl (lWd K u f1 a1 g1 i0 i1 tt o r ef ea eg) H := hP
  have hD : va_D (fun q : Nat => s.heap.size ≤ q) (lWd K u f1 a1 g1 i0 i1 tt o r ef ea eg) := hD
  refine lv_aload_n hx hb dL_law_263 rfl (lv_at hl 1 rfl) ?_
  refine lv_aload_n hx hb dL_law_264 rfl (lv_at hl 3 rfl) ?_
  refine lv_iload_n hx hb dL_law_265 rfl (lv_at hl 0 rfl) ?_
  refine lv_iconst (v := 1) hx hb dL_law_266 (by decide) ?_
  refine lv_iadd hx hb dL_law_267 ?_
  refine va_sld hx hb hX hbl hbA hS (ix_in hi hL hL2 (kn := 1) (by decide +kernel) (by decide)) dL_law_268 ?_
  refine k_top (z := y1) ey1.symm ?_
  refine lv_aload_n hx hb dL_law_269 rfl (lv_at hl 3 rfl) ?_
  refine lv_iload_n hx hb dL_law_270 rfl (lv_at hl 0 rfl) ?_
  refine lv_iconst (v := 2) hx hb dL_law_271 (by decide) ?_
  refine lv_iadd hx hb dL_law_272 ?_
  refine va_sld hx hb hX hbl hbA hS (ix_in hi hL hL2 (kn := 2) (by decide +kernel) (by decide)) dL_law_273 ?_
  refine k_top (z := y2) ey2.symm ?_
  refine kI.callM (As := [.int y1, .int y2]) (rest := [.int v1]) ⟨hx, hb, hml, hown, hg⟩ (n_of l o r ef ea eg hM y1 y2 hkk) (cwV 2 hg (kgV wt6_100 wt6_101 wt6_102 wt1_14 wt6_103) rfl rfl rfl (by decide +kernel) ⟨by decide, by decide⟩) hK hP hD hS hA 0 12 rfl rfl rfl hl.1 rfl (Nat.le_of_ble_eq_true rfl) dL_law_274 ⟨by show c0 + 0 + 0 ≤ 600000; omega, by show s0 + 0 + 0 ≤ 7302250; omega⟩ (fun v2 u2 H locs h2 hP hD hS => ?_)
  obtain ⟨ef2, ea2, eg2⟩ := u2
  have hM2 : mI ef2 ea2 := (h2.2.1)
  have hP : va_P D vwCl (lWd K u f1 a1 g1 i0 i1 tt o r ef2 ea2 eg2) H := hP
  have hD : va_D (fun q : Nat => s.heap.size ≤ q) (lWd K u f1 a1 g1 i0 i1 tt o r ef2 ea2 eg2) := hD
  have hRn : f1 12 = ef2 13 := (hE1.1 12 rfl).trans (hR.trans (show ef2 13 = ef 13 from (h2.2.2.2.2).1 13 rfl).symm)
  have hImn : xIm i0 i1 (ea2 4) := (by rw [(show ea2 4 = ea 4 from (h2.2.2.2.2).2 4 rfl)]; exact hIm)
  have hTpn : xTq (a1 93) (ea2 11) := xTq_k hTp (hE1.2.1 93 rfl) (show ea2 11 = ea 11 from (h2.2.2.2.2).2 11 rfl)
  have hChn : f1 14 = ef2 6 := (hE1.1 14 rfl).trans (hCh.trans (show ef2 6 = ef 6 from (h2.2.2.2.2).1 6 rfl).symm)
  have hFln : f1 13 = ef2 14 := (hE1.1 13 rfl).trans (hFl.trans (show ef2 14 = ef 14 from (h2.2.2.2.2).1 14 rfl).symm)
  have hSpn : f1 15 = ef2 37 := (hE1.1 15 rfl).trans (hSp.trans (show ef2 37 = ef 37 from (h2.2.2.2.2).1 37 rfl).symm)
  have hStn : f1 16 = ef2 0 := (hE1.1 16 rfl).trans (hSt.trans (show ef2 0 = ef 0 from (h2.2.2.2.2).1 0 rfl).symm)
  have hRfn : rfE (a1 94) (ea2 1) := (by rw [show a1 94 = a 94 from (hE1.2.1 94 rfl), (show ea2 1 = ea 1 from (h2.2.2.2.2).2 1 rfl)]; exact hRf)
  have hSln : rlS K tt f1 a1 (g1.2 15) ef2 ea2 := rlS_k hSl (smFy hE1 (by decide)) (smRy hE1 (by decide)) (hE1.2.2 15 rfl) (show ea2 2 = ea 2 from funext fun i => (h2.2.2.1).2.2.1 i rfl) (show ef2 33 = ef 33 from (h2.2.2.2.2).1 33 rfl) (show ea2 31 = ea 31 from (h2.2.2.2.2).2 31 rfl)
  have hJ0n : rlI K tt i0 (imK (ea2 3) 0) := (by rw [(show ea2 3 = ea 3 from (h2.2.2.2.2).2 3 rfl)]; exact hJ0)
  have hJ1n : rlI K tt i1 (imK (ea2 3) 1) := (by rw [(show ea2 3 = ea 3 from (h2.2.2.2.2).2 3 rfl)]; exact hJ1)
  have hvv : v1 = v2 := (Int32.toInt_inj.mp ((h1.2.2.2.2).trans (h2.2.2.2.1).symm))
  refine lv_icmp_eq (tgt := 1127) hx hb dL_law_277 (by decide) (fun c1 => ?_) (fun c1 => absurd hvv c1)
  refine W.widen (k := c0 + 21) (n := s0 + 467) (by show c0 + 0 + 0 ≤ c0 + 21; omega) (by show s0 + 0 + 0 ≤ s0 + 467; omega) ?_
  exact kk _ _ _ _ _ _ _ _ _ _ _ ⟨hI1, hG1, hj0, hj1, hq0, hq1, hM2, hRn, hImn, hTpn, hChn, hFln, hSpn, hStn, hRfn, hSln, hJ0n, hJ1n⟩ hP hD hS
set_option maxHeartbeats 4000000 in
set_option maxRecDepth 100000 in
theorem law_builder {p : Program} {e : Env} {s : State} {m : MethodId} {below : List Frame} {meth : Method} {c : Code} (l : Launch) {b L : Nat} {xs : Nat → Int32} (C0 : lw_At p s m meth c b L xs) (hL2 : L ≤ 3072) {D : va_G} {K : Nat → ClassId} (hK : va_K D vwCl (tysK K) s) (hV : xE K (fun q : Nat => s.heap.size ≤ q) s s.heap) {u : Nat → Nat} {o : Nat} {r : Nat → Nat} {f : Nat → Int32} {a : Nat → Nat → Int32} {g : xG} {i0 i1 : Option sX} {tt : va_W} {ef : Nat → Int32} {ea : Nat → Nat → Int32} {eg : Nat → Int64} (hJ : rJ K f a g i0 i1 tt ef ea) {i : Int32} {ii : Nat} (hi : i.toInt = (ii : Int)) (hL : ii + 6 ≤ L) {c0 s0 : Nat} (hc0 : c0 + 21 ≤ 600000) (hs0 : s0 + 467 ≤ 7302250) {H : Heap} {locs : List Loc} (hP : va_P D vwCl (lWd K u f a g i0 i1 tt o r ef ea eg) H) (hD : va_D (fun q : Nat => s.heap.size ≤ q) (lWd K u f a g i0 i1 tt o r ef ea eg)) (hS : va_S (fun q : Nat => s.heap.size ≤ q) s.heap H locs) {ls : Array Slot} (hl : lv_has ls 4 [(3, .int i), (2, .ref o), (1, .ref (u 0)), (0, .ref b)]) (kk : ∀ (f : Nat → Int32) (a : Nat → Nat → Int32) (g : xG) (i0 i1 : Option sX) (tt : va_W) (ef : Nat → Int32) (ea : Nat → Nat → Int32) (eg : Nat → Int64) (H : Heap) (locs : List Loc), rJ K f a g i0 i1 tt ef ea → va_P D vwCl (lWd K u f a g i0 i1 tt o r ef ea eg) H → va_D (fun q : Nat => s.heap.size ≤ q) (lWd K u f a g i0 i1 tt o r ef ea eg) → va_S (fun q : Nat => s.heap.size ≤ q) s.heap H locs → W p l e room_1 s m #[Value.ref b] below meth c H locs (c0 + 21) (s0 + 467) (lw_Z below #[Value.ref b] s) (F0 m 1127 ls [])) : W p l e room_1 s m #[Value.ref b] below meth c H locs c0 s0 (lw_Z below #[Value.ref b] s) (F0 m 282 ls []) := by
  obtain ⟨hx, hb, hr, hml, hown, hts, hX, hbl, hlocks, hgv⟩ := id C0
  have hA : ∀ q : Nat, s.heap.size ≤ q → (fun q : Nat => s.heap.size ≤ q) q := fun _ h => h
  have hbA : ¬ (fun q : Nat => s.heap.size ≤ q) b := Nat.not_le.mpr hbl
  have hg : ∀ w ∈ kG, w.before #[Value.ref b] s = true := fun w h => hts w (kG_in w h)
  have hown : s.vm.findClass RL = some m.cls := hown
  obtain ⟨hI, hG, hi0, hi1, hg0, hg1, hM, hR, hIm, hTp, hCh, hFl, hSp, hSt, hRf, hSl, hJ0, hJ1⟩ := hJ
  obtain ⟨DD, P, hSV, hkk, h22, hLM, hLC, hXP, hMP, hPO⟩ := id hSl
  refine lv_aload_n hx hb dL_law_282 rfl (lv_at hl 2 rfl) ?_
  refine lv_aload_n hx hb dL_law_283 rfl (lv_at hl 3 rfl) ?_
  refine lv_iload_n hx hb dL_law_284 rfl (lv_at hl 0 rfl) ?_
  refine lv_iconst (v := 1) hx hb dL_law_285 (by decide) ?_
  refine lv_iadd hx hb dL_law_286 ?_
  refine va_sld hx hb hX hbl hbA hS (ix_in hi hL hL2 (kn := 1) (by decide +kernel) (by decide)) dL_law_287 ?_
  refine lv_topi (fun y1 ey1 => ?_)
  refine lv_aload_n hx hb dL_law_288 rfl (lv_at hl 3 rfl) ?_
  refine lv_iload_n hx hb dL_law_289 rfl (lv_at hl 0 rfl) ?_
  refine lv_iconst (v := 2) hx hb dL_law_290 (by decide) ?_
  refine lv_iadd hx hb dL_law_291 ?_
  refine va_sld hx hb hX hbl hbA hS (ix_in hi hL hL2 (kn := 2) (by decide +kernel) (by decide)) dL_law_292 ?_
  refine lv_topi (fun y2 ey2 => ?_)
  refine kIG.callX (As := [.int y1, .int y2]) (rest := []) ⟨hx, hb, hml, hown, hg⟩ (z_builder l u f a g (iW K i0 ++ (iW K i1 ++ tt)) tt mem_rr hI hG y1 y2 (ea 2) hSV hkk P hXP) (cwV 2 hg (kgV wt3_55 wt3_56 wt3_57 wt1_1 wt3_58) rfl rfl rfl (by decide +kernel) ⟨by decide, by decide⟩) hV hK hP hD hS hA 0 11 rfl rfl rfl hl.1 rfl (Nat.le_of_ble_eq_true rfl) dL_law_293 ⟨by show c0 + 0 ≤ 600000; omega, by show s0 + 0 ≤ 7302250; omega⟩ (fun v1 u1 H locs h1 hP hD hS => ?_)
  obtain ⟨f1, a1, g1⟩ := u1
  have hI1 : xI f1 a1 := h1.2.1
  have hG1 : gOK K g1.2 tt := h1.2.2.1
  have hE1 : xEk ([16, 38, 704, 705, 2565, 2566, 2786], [7, 8, 9, 10, 81, 94], []) f a g f1 a1 g1 := h1.2.2.2.1
  have hj0 := hi0
  have hj1 := hi1
  have hq0 : g1.2 92 0 = iA i0 := by rw [show g1.2 92 = g.2 92 from hE1.2.2 92 rfl]; exact hg0
  have hq1 : g1.2 92 1 = iA i1 := by rw [show g1.2 92 = g.2 92 from hE1.2.2 92 rfl]; exact hg1
  have hP : va_P D vwCl (lWd K u f1 a1 g1 i0 i1 tt o r ef ea eg) H := hP
  have hD : va_D (fun q : Nat => s.heap.size ≤ q) (lWd K u f1 a1 g1 i0 i1 tt o r ef ea eg) := hD
  refine lv_pop hx hb dL_law_296 rfl ?_
  refine lv_aload_n hx hb dL_law_297 rfl (lv_at hl 1 rfl) ?_
  refine lv_aload_n hx hb dL_law_298 rfl (lv_at hl 3 rfl) ?_
  refine lv_iload_n hx hb dL_law_299 rfl (lv_at hl 0 rfl) ?_
  refine lv_iconst (v := 1) hx hb dL_law_300 (by decide) ?_
  refine lv_iadd hx hb dL_law_301 ?_
  refine va_sld hx hb hX hbl hbA hS (ix_in hi hL hL2 (kn := 1) (by decide +kernel) (by decide)) dL_law_302 ?_
  refine k_top (z := y1) ey1.symm ?_
  refine lv_aload_n hx hb dL_law_303 rfl (lv_at hl 3 rfl) ?_
  refine lv_iload_n hx hb dL_law_304 rfl (lv_at hl 0 rfl) ?_
  refine lv_iconst (v := 2) hx hb dL_law_305 (by decide) ?_
  refine lv_iadd hx hb dL_law_306 ?_
  refine va_sld hx hb hX hbl hbA hS (ix_in hi hL hL2 (kn := 2) (by decide +kernel) (by decide)) dL_law_307 ?_
  refine k_top (z := y2) ey2.symm ?_
  refine kI.callM (As := [.int y1, .int y2]) (rest := []) ⟨hx, hb, hml, hown, hg⟩ (n_builder l o r ef ea eg hM y1 y2 P hMP) (cwV 2 hg (kgV wt6_130 wt6_131 wt6_132 wt1_14 wt6_133) rfl rfl rfl (by decide +kernel) ⟨by decide, by decide⟩) hK hP hD hS hA 0 12 rfl rfl rfl hl.1 rfl (Nat.le_of_ble_eq_true rfl) dL_law_308 ⟨by show c0 + 0 + 0 ≤ 600000; omega, by show s0 + 0 + 0 ≤ 7302250; omega⟩ (fun v2 u2 H locs h2 hP hD hS => ?_)
  obtain ⟨ef2, ea2, eg2⟩ := u2
  have hM2 : mI ef2 ea2 := (h2.2.1)
  have hP : va_P D vwCl (lWd K u f1 a1 g1 i0 i1 tt o r ef2 ea2 eg2) H := hP
  have hD : va_D (fun q : Nat => s.heap.size ≤ q) (lWd K u f1 a1 g1 i0 i1 tt o r ef2 ea2 eg2) := hD
  have hb1 : bldP y1 y2 v1 (f 38) (f1 38) := (h1.2.2.2.2.1)
  rw [show f 38 = ea 2 103 from sv_builders hSV] at hb1
  have hb2 : bldP y1 y2 v2 (ea 2 103) (ea2 2 103) := (h2.2.2.2.1)
  have hv := (bld_eq hb1 hb2).1
  have hq := rlS_t (h1.2.2.2.2.2) (h2.2.2.2.2.1) hv hkk h22 hLM hLC hPO (hE1.2.2 15 rfl) hRf (fun n9 => by have q := bld_o hb2 (hv ▸ n9); exact bld_n hkk q.1 q.2 h22 hLM)
  have hRn : f1 12 = ef2 13 := (hE1.1 12 rfl).trans (hR.trans (show ef2 13 = ef 13 from (h2.2.2.2.2.2).1 13 rfl).symm)
  have hImn : xIm i0 i1 (ea2 4) := (by rw [(show ea2 4 = ea 4 from (h2.2.2.2.2.2).2 4 rfl)]; exact hIm)
  have hTpn : xTq (a1 93) (ea2 11) := xTq_k hTp (hE1.2.1 93 rfl) (show ea2 11 = ea 11 from (h2.2.2.2.2.2).2 11 rfl)
  have hChn : f1 14 = ef2 6 := (hE1.1 14 rfl).trans (hCh.trans (show ef2 6 = ef 6 from (h2.2.2.2.2.2).1 6 rfl).symm)
  have hFln : f1 13 = ef2 14 := (hE1.1 13 rfl).trans (hFl.trans (show ef2 14 = ef 14 from (h2.2.2.2.2.2).1 14 rfl).symm)
  have hSpn : f1 15 = ef2 37 := (hE1.1 15 rfl).trans (hSp.trans (show ef2 37 = ef 37 from (h2.2.2.2.2.2).1 37 rfl).symm)
  have hStn : f1 16 = ef2 0 := hq.2.1
  have hRfn : rfE (a1 94) (ea2 1) := hq.2.2
  have hSln : rlS K tt f1 a1 (g1.2 15) ef2 ea2 := hq.1
  have hJ0n : rlI K tt i0 (imK (ea2 3) 0) := (by rw [(show ea2 3 = ea 3 from (h2.2.2.2.2.2).2 3 rfl)]; exact hJ0)
  have hJ1n : rlI K tt i1 (imK (ea2 3) 1) := (by rw [(show ea2 3 = ea 3 from (h2.2.2.2.2.2).2 3 rfl)]; exact hJ1)
  refine lv_pop hx hb dL_law_311 rfl ?_
  refine lv_goto (tgt := 1127) hx hb dL_law_312 (by decide) ?_
  refine W.widen (k := c0 + 21) (n := s0 + 467) (by show c0 + 0 + 0 ≤ c0 + 21; omega) (by show s0 + 0 + 0 ≤ s0 + 467; omega) ?_
  exact kk _ _ _ _ _ _ _ _ _ _ _ ⟨hI1, hG1, hj0, hj1, hq0, hq1, hM2, hRn, hImn, hTpn, hChn, hFln, hSpn, hStn, hRfn, hSln, hJ0n, hJ1n⟩ hP hD hS
set_option maxHeartbeats 4000000 in
set_option maxRecDepth 100000 in
theorem law_at {p : Program} {e : Env} {s : State} {m : MethodId} {below : List Frame} {meth : Method} {c : Code} (l : Launch) {b L : Nat} {xs : Nat → Int32} (C0 : lw_At p s m meth c b L xs) (hL2 : L ≤ 3072) {D : va_G} {K : Nat → ClassId} (hK : va_K D vwCl (tysK K) s) (hV : xE K (fun q : Nat => s.heap.size ≤ q) s s.heap) {u : Nat → Nat} {o : Nat} {r : Nat → Nat} {f : Nat → Int32} {a : Nat → Nat → Int32} {g : xG} {i0 i1 : Option sX} {tt : va_W} {ef : Nat → Int32} {ea : Nat → Nat → Int32} {eg : Nat → Int64} (hJ : rJ K f a g i0 i1 tt ef ea) {i : Int32} {ii : Nat} (hi : i.toInt = (ii : Int)) (hL : ii + 6 ≤ L) {c0 s0 : Nat} (hc0 : c0 + 21 ≤ 600000) (hs0 : s0 + 467 ≤ 7302250) {H : Heap} {locs : List Loc} (hP : va_P D vwCl (lWd K u f a g i0 i1 tt o r ef ea eg) H) (hD : va_D (fun q : Nat => s.heap.size ≤ q) (lWd K u f a g i0 i1 tt o r ef ea eg)) (hS : va_S (fun q : Nat => s.heap.size ≤ q) s.heap H locs) {ls : Array Slot} (hl : lv_has ls 4 [(3, .int i), (2, .ref o), (1, .ref (u 0)), (0, .ref b)]) (kk : ∀ (f : Nat → Int32) (a : Nat → Nat → Int32) (g : xG) (i0 i1 : Option sX) (tt : va_W) (ef : Nat → Int32) (ea : Nat → Nat → Int32) (eg : Nat → Int64) (H : Heap) (locs : List Loc), rJ K f a g i0 i1 tt ef ea → va_P D vwCl (lWd K u f a g i0 i1 tt o r ef ea eg) H → va_D (fun q : Nat => s.heap.size ≤ q) (lWd K u f a g i0 i1 tt o r ef ea eg) → va_S (fun q : Nat => s.heap.size ≤ q) s.heap H locs → W p l e room_1 s m #[Value.ref b] below meth c H locs (c0 + 21) (s0 + 467) (lw_Z below #[Value.ref b] s) (F0 m 1127 ls [])) : W p l e room_1 s m #[Value.ref b] below meth c H locs c0 s0 (lw_Z below #[Value.ref b] s) (F0 m 315 ls []) := by
  obtain ⟨hx, hb, hr, hml, hown, hts, hX, hbl, hlocks, hgv⟩ := id C0
  have hA : ∀ q : Nat, s.heap.size ≤ q → (fun q : Nat => s.heap.size ≤ q) q := fun _ h => h
  have hbA : ¬ (fun q : Nat => s.heap.size ≤ q) b := Nat.not_le.mpr hbl
  have hg : ∀ w ∈ kG, w.before #[Value.ref b] s = true := fun w h => hts w (kG_in w h)
  have hown : s.vm.findClass RL = some m.cls := hown
  obtain ⟨hI, hG, hi0, hi1, hg0, hg1, hM, hR, hIm, hTp, hCh, hFl, hSp, hSt, hRf, hSl, hJ0, hJ1⟩ := hJ
  obtain ⟨DD, P, hSV, hkk, h22, hLM, hLC, hXP, hMP, hPO⟩ := id hSl
  refine lv_aload_n hx hb dL_law_315 rfl (lv_at hl 2 rfl) ?_
  refine lv_aload_n hx hb dL_law_316 rfl (lv_at hl 3 rfl) ?_
  refine lv_iload_n hx hb dL_law_317 rfl (lv_at hl 0 rfl) ?_
  refine lv_iconst (v := 1) hx hb dL_law_318 (by decide) ?_
  refine lv_iadd hx hb dL_law_319 ?_
  refine va_sld hx hb hX hbl hbA hS (ix_in hi hL hL2 (kn := 1) (by decide +kernel) (by decide)) dL_law_320 ?_
  refine lv_topi (fun y1 ey1 => ?_)
  refine lv_aload_n hx hb dL_law_321 rfl (lv_at hl 3 rfl) ?_
  refine lv_iload_n hx hb dL_law_322 rfl (lv_at hl 0 rfl) ?_
  refine lv_iconst (v := 2) hx hb dL_law_323 (by decide) ?_
  refine lv_iadd hx hb dL_law_324 ?_
  refine va_sld hx hb hX hbl hbA hS (ix_in hi hL hL2 (kn := 2) (by decide +kernel) (by decide)) dL_law_325 ?_
  refine lv_topi (fun y2 ey2 => ?_)
  refine kIG.callX (As := [.int y1, .int y2]) (rest := []) ⟨hx, hb, hml, hown, hg⟩ (z_at l u f a g (iW K i0 ++ (iW K i1 ++ tt)) tt mem_rr hI hG y1 y2 (ea 2) hSV hkk ) (cwV 2 hg (kgV wt3_63 wt3_64 wt3_65 wt1_1 wt3_66) rfl rfl rfl (by decide +kernel) ⟨by decide, by decide⟩) hV hK hP hD hS hA 0 11 rfl rfl rfl hl.1 rfl (Nat.le_of_ble_eq_true rfl) dL_law_326 ⟨by show c0 + 0 ≤ 600000; omega, by show s0 + 0 ≤ 7302250; omega⟩ (fun v1 u1 H locs h1 hP hD hS => ?_)
  have hI1 := hI
  have hG1 := hG
  have hj0 := hi0
  have hj1 := hi1
  have hq0 := hg0
  have hq1 := hg1
  have hP : va_P D vwCl (lWd K u f a g i0 i1 tt o r ef ea eg) H := hP
  have hD : va_D (fun q : Nat => s.heap.size ≤ q) (lWd K u f a g i0 i1 tt o r ef ea eg) := hD
  refine lv_pop hx hb dL_law_329 rfl ?_
  refine lv_aload_n hx hb dL_law_330 rfl (lv_at hl 1 rfl) ?_
  refine lv_aload_n hx hb dL_law_331 rfl (lv_at hl 3 rfl) ?_
  refine lv_iload_n hx hb dL_law_332 rfl (lv_at hl 0 rfl) ?_
  refine lv_iconst (v := 1) hx hb dL_law_333 (by decide) ?_
  refine lv_iadd hx hb dL_law_334 ?_
  refine va_sld hx hb hX hbl hbA hS (ix_in hi hL hL2 (kn := 1) (by decide +kernel) (by decide)) dL_law_335 ?_
  refine k_top (z := y1) ey1.symm ?_
  refine lv_aload_n hx hb dL_law_336 rfl (lv_at hl 3 rfl) ?_
  refine lv_iload_n hx hb dL_law_337 rfl (lv_at hl 0 rfl) ?_
  refine lv_iconst (v := 2) hx hb dL_law_338 (by decide) ?_
  refine lv_iadd hx hb dL_law_339 ?_
  refine va_sld hx hb hX hbl hbA hS (ix_in hi hL hL2 (kn := 2) (by decide +kernel) (by decide)) dL_law_340 ?_
  refine k_top (z := y2) ey2.symm ?_
  refine kI.callM (As := [.int y1, .int y2]) (rest := []) ⟨hx, hb, hml, hown, hg⟩ (n_at l o r ef ea eg hM y1 y2 ) (cwV 2 hg (kgV wt6_134 wt6_135 wt6_136 wt1_14 wt6_137) rfl rfl rfl (by decide +kernel) ⟨by decide, by decide⟩) hK hP hD hS hA 0 12 rfl rfl rfl hl.1 rfl (Nat.le_of_ble_eq_true rfl) dL_law_341 ⟨by show c0 + 0 + 0 ≤ 600000; omega, by show s0 + 0 + 0 ≤ 7302250; omega⟩ (fun v2 u2 H locs h2 hP hD hS => ?_)
  have hM2 := hM
  have hP : va_P D vwCl (lWd K u f a g i0 i1 tt o r ef ea eg) H := hP
  have hD : va_D (fun q : Nat => s.heap.size ≤ q) (lWd K u f a g i0 i1 tt o r ef ea eg) := hD
  have hRn : f 12 = ef 13 := (rfl : f 12 = f 12).trans (hR.trans (rfl : ef 13 = ef 13).symm)
  have hImn : xIm i0 i1 (ea 4) := (by rw [(rfl : ea 4 = ea 4)]; exact hIm)
  have hTpn : xTq (a 93) (ea 11) := xTq_k hTp (rfl : a 93 = a 93) (rfl : ea 11 = ea 11)
  have hChn : f 14 = ef 6 := (rfl : f 14 = f 14).trans (hCh.trans (rfl : ef 6 = ef 6).symm)
  have hFln : f 13 = ef 14 := (rfl : f 13 = f 13).trans (hFl.trans (rfl : ef 14 = ef 14).symm)
  have hSpn : f 15 = ef 37 := (rfl : f 15 = f 15).trans (hSp.trans (rfl : ef 37 = ef 37).symm)
  have hStn : f 16 = ef 0 := (rfl : f 16 = f 16).trans (hSt.trans (rfl : ef 0 = ef 0).symm)
  have hRfn : rfE (a 94) (ea 1) := (by rw [show a 94 = a 94 from (rfl : a 94 = a 94), (rfl : ea 1 = ea 1)]; exact hRf)
  have hSln : rlS K tt f a (g.2 15) ef ea := rlS_k hSl ⟨rfl, rfl, rfl, rfl, rfl, rfl, rfl⟩ ⟨rfl, fun _ _ => rfl⟩ rfl (rfl : ea 2 = ea 2) (rfl : ef 33 = ef 33) (rfl : ea 31 = ea 31)
  have hJ0n : rlI K tt i0 (imK (ea 3) 0) := (by rw [(rfl : ea 3 = ea 3)]; exact hJ0)
  have hJ1n : rlI K tt i1 (imK (ea 3) 1) := (by rw [(rfl : ea 3 = ea 3)]; exact hJ1)
  refine lv_pop hx hb dL_law_344 rfl ?_
  refine lv_goto (tgt := 1127) hx hb dL_law_345 (by decide) ?_
  refine W.widen (k := c0 + 21) (n := s0 + 467) (by show c0 + 0 + 0 ≤ c0 + 21; omega) (by show s0 + 0 + 0 ≤ s0 + 467; omega) ?_
  exact kk _ _ _ _ _ _ _ _ _ _ _ ⟨hI1, hG1, hj0, hj1, hq0, hq1, hM2, hRn, hImn, hTpn, hChn, hFln, hSpn, hStn, hRfn, hSln, hJ0n, hJ1n⟩ hP hD hS
set_option maxHeartbeats 4000000 in
set_option maxRecDepth 100000 in
theorem law_asks {p : Program} {e : Env} {s : State} {m : MethodId} {below : List Frame} {meth : Method} {c : Code} (l : Launch) {b L : Nat} {xs : Nat → Int32} (C0 : lw_At p s m meth c b L xs) (hL2 : L ≤ 3072) {D : va_G} {K : Nat → ClassId} (hK : va_K D vwCl (tysK K) s) (hV : xE K (fun q : Nat => s.heap.size ≤ q) s s.heap) {u : Nat → Nat} {o : Nat} {r : Nat → Nat} {f : Nat → Int32} {a : Nat → Nat → Int32} {g : xG} {i0 i1 : Option sX} {tt : va_W} {ef : Nat → Int32} {ea : Nat → Nat → Int32} {eg : Nat → Int64} (hJ : rJ K f a g i0 i1 tt ef ea) {i : Int32} {ii : Nat} (hi : i.toInt = (ii : Int)) (hL : ii + 6 ≤ L) {c0 s0 : Nat} (hc0 : c0 + 21 ≤ 600000) (hs0 : s0 + 467 ≤ 7302250) {H : Heap} {locs : List Loc} (hP : va_P D vwCl (lWd K u f a g i0 i1 tt o r ef ea eg) H) (hD : va_D (fun q : Nat => s.heap.size ≤ q) (lWd K u f a g i0 i1 tt o r ef ea eg)) (hS : va_S (fun q : Nat => s.heap.size ≤ q) s.heap H locs) {ls : Array Slot} (hl : lv_has ls 4 [(3, .int i), (2, .ref o), (1, .ref (u 0)), (0, .ref b)]) (kk : ∀ (f : Nat → Int32) (a : Nat → Nat → Int32) (g : xG) (i0 i1 : Option sX) (tt : va_W) (ef : Nat → Int32) (ea : Nat → Nat → Int32) (eg : Nat → Int64) (H : Heap) (locs : List Loc), rJ K f a g i0 i1 tt ef ea → va_P D vwCl (lWd K u f a g i0 i1 tt o r ef ea eg) H → va_D (fun q : Nat => s.heap.size ≤ q) (lWd K u f a g i0 i1 tt o r ef ea eg) → va_S (fun q : Nat => s.heap.size ≤ q) s.heap H locs → W p l e room_1 s m #[Value.ref b] below meth c H locs (c0 + 21) (s0 + 467) (lw_Z below #[Value.ref b] s) (F0 m 1127 ls [])) : W p l e room_1 s m #[Value.ref b] below meth c H locs c0 s0 (lw_Z below #[Value.ref b] s) (F0 m 348 ls []) := by
  obtain ⟨hx, hb, hr, hml, hown, hts, hX, hbl, hlocks, hgv⟩ := id C0
  have hA : ∀ q : Nat, s.heap.size ≤ q → (fun q : Nat => s.heap.size ≤ q) q := fun _ h => h
  have hbA : ¬ (fun q : Nat => s.heap.size ≤ q) b := Nat.not_le.mpr hbl
  have hg : ∀ w ∈ kG, w.before #[Value.ref b] s = true := fun w h => hts w (kG_in w h)
  have hown : s.vm.findClass RL = some m.cls := hown
  obtain ⟨hI, hG, hi0, hi1, hg0, hg1, hM, hR, hIm, hTp, hCh, hFl, hSp, hSt, hRf, hSl, hJ0, hJ1⟩ := hJ
  obtain ⟨DD, P, hSV, hkk, h22, hLM, hLC, hXP, hMP, hPO⟩ := id hSl
  refine lv_aload_n hx hb dL_law_348 rfl (lv_at hl 2 rfl) ?_
  refine lv_aload_n hx hb dL_law_349 rfl (lv_at hl 3 rfl) ?_
  refine lv_iload_n hx hb dL_law_350 rfl (lv_at hl 0 rfl) ?_
  refine lv_iconst (v := 1) hx hb dL_law_351 (by decide) ?_
  refine lv_iadd hx hb dL_law_352 ?_
  refine va_sld hx hb hX hbl hbA hS (ix_in hi hL hL2 (kn := 1) (by decide +kernel) (by decide)) dL_law_353 ?_
  refine lv_topi (fun y1 ey1 => ?_)
  refine lv_aload_n hx hb dL_law_354 rfl (lv_at hl 3 rfl) ?_
  refine lv_iload_n hx hb dL_law_355 rfl (lv_at hl 0 rfl) ?_
  refine lv_iconst (v := 2) hx hb dL_law_356 (by decide) ?_
  refine lv_iadd hx hb dL_law_357 ?_
  refine va_sld hx hb hX hbl hbA hS (ix_in hi hL hL2 (kn := 2) (by decide +kernel) (by decide)) dL_law_358 ?_
  refine lv_topi (fun y2 ey2 => ?_)
  refine lv_aload_n hx hb dL_law_359 rfl (lv_at hl 3 rfl) ?_
  refine lv_iload_n hx hb dL_law_360 rfl (lv_at hl 0 rfl) ?_
  refine lv_iconst (v := 3) hx hb dL_law_361 (by decide) ?_
  refine lv_iadd hx hb dL_law_362 ?_
  refine va_sld hx hb hX hbl hbA hS (ix_in hi hL hL2 (kn := 3) (by decide +kernel) (by decide)) dL_law_363 ?_
  refine lv_topi (fun y3 ey3 => ?_)
  refine kIG.callX (As := [.int y1, .int y2, .int y3]) (rest := []) ⟨hx, hb, hml, hown, hg⟩ (z_asks l u f a g (iW K i0 ++ (iW K i1 ++ tt)) tt mem_rr hI hG y1 y2 y3 (ea 2) hSV hkk DD hLC ) (cwV 3 hg (kgV wt3_71 wt3_72 wt3_73 wt1_1 wt3_74) rfl rfl rfl (by decide +kernel) ⟨by decide, by decide⟩) hV hK hP hD hS hA 0 11 rfl rfl rfl hl.1 rfl (Nat.le_of_ble_eq_true rfl) dL_law_364 ⟨by show c0 + 0 ≤ 600000; omega, by show s0 + 0 ≤ 7302250; omega⟩ (fun v1 u1 H locs h1 hP hD hS => ?_)
  obtain ⟨f1, a1, g1⟩ := u1
  have hI1 : xI f1 a1 := h1.2.1
  have hG1 : gOK K g1.2 tt := h1.2.2.1
  have hE1 : xEk ([], [], []) f a g f1 a1 g1 := h1.2.2.2.1
  have hj0 := hi0
  have hj1 := hi1
  have hq0 : g1.2 92 0 = iA i0 := by rw [show g1.2 92 = g.2 92 from hE1.2.2 92 rfl]; exact hg0
  have hq1 : g1.2 92 1 = iA i1 := by rw [show g1.2 92 = g.2 92 from hE1.2.2 92 rfl]; exact hg1
  have hP : va_P D vwCl (lWd K u f1 a1 g1 i0 i1 tt o r ef ea eg) H := hP
  have hD : va_D (fun q : Nat => s.heap.size ≤ q) (lWd K u f1 a1 g1 i0 i1 tt o r ef ea eg) := hD
  refine lv_pop hx hb dL_law_367 rfl ?_
  refine lv_aload_n hx hb dL_law_368 rfl (lv_at hl 1 rfl) ?_
  refine lv_aload_n hx hb dL_law_369 rfl (lv_at hl 3 rfl) ?_
  refine lv_iload_n hx hb dL_law_370 rfl (lv_at hl 0 rfl) ?_
  refine lv_iconst (v := 1) hx hb dL_law_371 (by decide) ?_
  refine lv_iadd hx hb dL_law_372 ?_
  refine va_sld hx hb hX hbl hbA hS (ix_in hi hL hL2 (kn := 1) (by decide +kernel) (by decide)) dL_law_373 ?_
  refine k_top (z := y1) ey1.symm ?_
  refine lv_aload_n hx hb dL_law_374 rfl (lv_at hl 3 rfl) ?_
  refine lv_iload_n hx hb dL_law_375 rfl (lv_at hl 0 rfl) ?_
  refine lv_iconst (v := 2) hx hb dL_law_376 (by decide) ?_
  refine lv_iadd hx hb dL_law_377 ?_
  refine va_sld hx hb hX hbl hbA hS (ix_in hi hL hL2 (kn := 2) (by decide +kernel) (by decide)) dL_law_378 ?_
  refine k_top (z := y2) ey2.symm ?_
  refine lv_aload_n hx hb dL_law_379 rfl (lv_at hl 3 rfl) ?_
  refine lv_iload_n hx hb dL_law_380 rfl (lv_at hl 0 rfl) ?_
  refine lv_iconst (v := 3) hx hb dL_law_381 (by decide) ?_
  refine lv_iadd hx hb dL_law_382 ?_
  refine va_sld hx hb hX hbl hbA hS (ix_in hi hL hL2 (kn := 3) (by decide +kernel) (by decide)) dL_law_383 ?_
  refine k_top (z := y3) ey3.symm ?_
  refine kI.callM (As := [.int y1, .int y2, .int y3]) (rest := []) ⟨hx, hb, hml, hown, hg⟩ (n_asks l o r ef ea eg hM y1 y2 y3 DD hkk hLM) (cwV 3 hg (kgV wt7_27 wt7_28 wt7_29 wt1_14 wt7_30) rfl rfl rfl (by decide +kernel) ⟨by decide, by decide⟩) hK hP hD hS hA 0 12 rfl rfl rfl hl.1 rfl (Nat.le_of_ble_eq_true rfl) dL_law_384 ⟨by show c0 + 0 + 0 ≤ 600000; omega, by show s0 + 0 + 0 ≤ 7302250; omega⟩ (fun v2 u2 H locs h2 hP hD hS => ?_)
  obtain ⟨ef2, ea2, eg2⟩ := u2
  have hM2 : mI ef2 ea2 := (h2.2.1)
  have hP : va_P D vwCl (lWd K u f1 a1 g1 i0 i1 tt o r ef2 ea2 eg2) H := hP
  have hD : va_D (fun q : Nat => s.heap.size ≤ q) (lWd K u f1 a1 g1 i0 i1 tt o r ef2 ea2 eg2) := hD
  have hRn : f1 12 = ef2 13 := (hE1.1 12 rfl).trans (hR.trans (show ef2 13 = ef 13 from (h2.2.2.2.2).1 13 rfl).symm)
  have hImn : xIm i0 i1 (ea2 4) := (by rw [(show ea2 4 = ea 4 from (h2.2.2.2.2).2 4 rfl)]; exact hIm)
  have hTpn : xTq (a1 93) (ea2 11) := xTq_k hTp (hE1.2.1 93 rfl) (show ea2 11 = ea 11 from (h2.2.2.2.2).2 11 rfl)
  have hChn : f1 14 = ef2 6 := (hE1.1 14 rfl).trans (hCh.trans (show ef2 6 = ef 6 from (h2.2.2.2.2).1 6 rfl).symm)
  have hFln : f1 13 = ef2 14 := (hE1.1 13 rfl).trans (hFl.trans (show ef2 14 = ef 14 from (h2.2.2.2.2).1 14 rfl).symm)
  have hSpn : f1 15 = ef2 37 := (hE1.1 15 rfl).trans (hSp.trans (show ef2 37 = ef 37 from (h2.2.2.2.2).1 37 rfl).symm)
  have hStn : f1 16 = ef2 0 := (hE1.1 16 rfl).trans (hSt.trans (show ef2 0 = ef 0 from (h2.2.2.2.2).1 0 rfl).symm)
  have hRfn : rfE (a1 94) (ea2 1) := (by rw [show a1 94 = a 94 from (hE1.2.1 94 rfl), (show ea2 1 = ea 1 from (h2.2.2.2.2).2 1 rfl)]; exact hRf)
  have hSln : rlS K tt f1 a1 (g1.2 15) ef2 ea2 := rlS_k hSl (smFy hE1 (by decide)) (smRy hE1 (by decide)) (hE1.2.2 15 rfl) (show ea2 2 = ea 2 from funext fun i => (h2.2.2.1).2.2.1 i rfl) (show ef2 33 = ef 33 from (h2.2.2.2.2).1 33 rfl) (show ea2 31 = ea 31 from (h2.2.2.2.2).2 31 rfl)
  have hJ0n : rlI K tt i0 (imK (ea2 3) 0) := (by rw [(show ea2 3 = ea 3 from (h2.2.2.2.2).2 3 rfl)]; exact hJ0)
  have hJ1n : rlI K tt i1 (imK (ea2 3) 1) := (by rw [(show ea2 3 = ea 3 from (h2.2.2.2.2).2 3 rfl)]; exact hJ1)
  refine lv_pop hx hb dL_law_387 rfl ?_
  refine lv_goto (tgt := 1127) hx hb dL_law_388 (by decide) ?_
  refine W.widen (k := c0 + 21) (n := s0 + 467) (by show c0 + 0 + 0 ≤ c0 + 21; omega) (by show s0 + 0 + 0 ≤ s0 + 467; omega) ?_
  exact kk _ _ _ _ _ _ _ _ _ _ _ ⟨hI1, hG1, hj0, hj1, hq0, hq1, hM2, hRn, hImn, hTpn, hChn, hFln, hSpn, hStn, hRfn, hSln, hJ0n, hJ1n⟩ hP hD hS
set_option maxHeartbeats 4000000 in
set_option maxRecDepth 100000 in
theorem law_terms {p : Program} {e : Env} {s : State} {m : MethodId} {below : List Frame} {meth : Method} {c : Code} (l : Launch) {b L : Nat} {xs : Nat → Int32} (C0 : lw_At p s m meth c b L xs) (hL2 : L ≤ 3072) {D : va_G} {K : Nat → ClassId} (hK : va_K D vwCl (tysK K) s) (hV : xE K (fun q : Nat => s.heap.size ≤ q) s s.heap) {u : Nat → Nat} {o : Nat} {r : Nat → Nat} {f : Nat → Int32} {a : Nat → Nat → Int32} {g : xG} {i0 i1 : Option sX} {tt : va_W} {ef : Nat → Int32} {ea : Nat → Nat → Int32} {eg : Nat → Int64} (hJ : rJ K f a g i0 i1 tt ef ea) {i : Int32} {ii : Nat} (hi : i.toInt = (ii : Int)) (hL : ii + 6 ≤ L) {c0 s0 : Nat} (hc0 : c0 + 21 ≤ 600000) (hs0 : s0 + 467 ≤ 7302250) {H : Heap} {locs : List Loc} (hP : va_P D vwCl (lWd K u f a g i0 i1 tt o r ef ea eg) H) (hD : va_D (fun q : Nat => s.heap.size ≤ q) (lWd K u f a g i0 i1 tt o r ef ea eg)) (hS : va_S (fun q : Nat => s.heap.size ≤ q) s.heap H locs) {ls : Array Slot} (hl : lv_has ls 4 [(3, .int i), (2, .ref o), (1, .ref (u 0)), (0, .ref b)]) (kk : ∀ (f : Nat → Int32) (a : Nat → Nat → Int32) (g : xG) (i0 i1 : Option sX) (tt : va_W) (ef : Nat → Int32) (ea : Nat → Nat → Int32) (eg : Nat → Int64) (H : Heap) (locs : List Loc), rJ K f a g i0 i1 tt ef ea → va_P D vwCl (lWd K u f a g i0 i1 tt o r ef ea eg) H → va_D (fun q : Nat => s.heap.size ≤ q) (lWd K u f a g i0 i1 tt o r ef ea eg) → va_S (fun q : Nat => s.heap.size ≤ q) s.heap H locs → W p l e room_1 s m #[Value.ref b] below meth c H locs (c0 + 21) (s0 + 467) (lw_Z below #[Value.ref b] s) (F0 m 1127 ls [])) : W p l e room_1 s m #[Value.ref b] below meth c H locs c0 s0 (lw_Z below #[Value.ref b] s) (F0 m 391 ls []) := by
  obtain ⟨hx, hb, hr, hml, hown, hts, hX, hbl, hlocks, hgv⟩ := id C0
  have hA : ∀ q : Nat, s.heap.size ≤ q → (fun q : Nat => s.heap.size ≤ q) q := fun _ h => h
  have hbA : ¬ (fun q : Nat => s.heap.size ≤ q) b := Nat.not_le.mpr hbl
  have hg : ∀ w ∈ kG, w.before #[Value.ref b] s = true := fun w h => hts w (kG_in w h)
  have hown : s.vm.findClass RL = some m.cls := hown
  obtain ⟨hI, hG, hi0, hi1, hg0, hg1, hM, hR, hIm, hTp, hCh, hFl, hSp, hSt, hRf, hSl, hJ0, hJ1⟩ := hJ
  obtain ⟨DD, P, hSV, hkk, h22, hLM, hLC, hXP, hMP, hPO⟩ := id hSl
  refine lv_aload_n hx hb dL_law_391 rfl (lv_at hl 2 rfl) ?_
  refine lv_aload_n hx hb dL_law_392 rfl (lv_at hl 3 rfl) ?_
  refine lv_iload_n hx hb dL_law_393 rfl (lv_at hl 0 rfl) ?_
  refine lv_iconst (v := 1) hx hb dL_law_394 (by decide) ?_
  refine lv_iadd hx hb dL_law_395 ?_
  refine va_sld hx hb hX hbl hbA hS (ix_in hi hL hL2 (kn := 1) (by decide +kernel) (by decide)) dL_law_396 ?_
  refine lv_topi (fun y1 ey1 => ?_)
  refine lv_aload_n hx hb dL_law_397 rfl (lv_at hl 3 rfl) ?_
  refine lv_iload_n hx hb dL_law_398 rfl (lv_at hl 0 rfl) ?_
  refine lv_iconst (v := 2) hx hb dL_law_399 (by decide) ?_
  refine lv_iadd hx hb dL_law_400 ?_
  refine va_sld hx hb hX hbl hbA hS (ix_in hi hL hL2 (kn := 2) (by decide +kernel) (by decide)) dL_law_401 ?_
  refine lv_topi (fun y2 ey2 => ?_)
  refine kIG.callX (As := [.int y1, .int y2]) (rest := []) ⟨hx, hb, hml, hown, hg⟩ (z_terms l u f a g (iW K i0 ++ (iW K i1 ++ tt)) tt mem_rr hI hG y1 y2 (ea 2) hSV hkk P hXP) (cwV 2 hg (kgV wt3_113 wt3_114 wt3_115 wt1_1 wt3_116) rfl rfl rfl (by decide +kernel) ⟨by decide, by decide⟩) hV hK hP hD hS hA 0 11 rfl rfl rfl hl.1 rfl (Nat.le_of_ble_eq_true rfl) dL_law_402 ⟨by show c0 + 0 ≤ 600000; omega, by show s0 + 0 ≤ 7302250; omega⟩ (fun v1 u1 H locs h1 hP hD hS => ?_)
  obtain ⟨f1, a1, g1⟩ := u1
  have hI1 : xI f1 a1 := h1.2.1
  have hG1 : gOK K g1.2 tt := h1.2.2.1
  have hE1 : xEk ([16, 704, 705, 2565, 2566, 2786], [11, 81, 94], []) f a g f1 a1 g1 := h1.2.2.2.1
  have hj0 := hi0
  have hj1 := hi1
  have hq0 : g1.2 92 0 = iA i0 := by rw [show g1.2 92 = g.2 92 from hE1.2.2 92 rfl]; exact hg0
  have hq1 : g1.2 92 1 = iA i1 := by rw [show g1.2 92 = g.2 92 from hE1.2.2 92 rfl]; exact hg1
  have hP : va_P D vwCl (lWd K u f1 a1 g1 i0 i1 tt o r ef ea eg) H := hP
  have hD : va_D (fun q : Nat => s.heap.size ≤ q) (lWd K u f1 a1 g1 i0 i1 tt o r ef ea eg) := hD
  refine lv_pop hx hb dL_law_405 rfl ?_
  refine lv_aload_n hx hb dL_law_406 rfl (lv_at hl 1 rfl) ?_
  refine lv_aload_n hx hb dL_law_407 rfl (lv_at hl 3 rfl) ?_
  refine lv_iload_n hx hb dL_law_408 rfl (lv_at hl 0 rfl) ?_
  refine lv_iconst (v := 1) hx hb dL_law_409 (by decide) ?_
  refine lv_iadd hx hb dL_law_410 ?_
  refine va_sld hx hb hX hbl hbA hS (ix_in hi hL hL2 (kn := 1) (by decide +kernel) (by decide)) dL_law_411 ?_
  refine k_top (z := y1) ey1.symm ?_
  refine lv_aload_n hx hb dL_law_412 rfl (lv_at hl 3 rfl) ?_
  refine lv_iload_n hx hb dL_law_413 rfl (lv_at hl 0 rfl) ?_
  refine lv_iconst (v := 2) hx hb dL_law_414 (by decide) ?_
  refine lv_iadd hx hb dL_law_415 ?_
  refine va_sld hx hb hX hbl hbA hS (ix_in hi hL hL2 (kn := 2) (by decide +kernel) (by decide)) dL_law_416 ?_
  refine k_top (z := y2) ey2.symm ?_
  refine kI.callM (As := [.int y1, .int y2]) (rest := []) ⟨hx, hb, hml, hown, hg⟩ (n_terms l o r ef ea eg hM y1 y2 P hMP hkk) (cwV 2 hg (kgV wt6_142 wt6_143 wt6_144 wt1_14 wt6_145) rfl rfl rfl (by decide +kernel) ⟨by decide, by decide⟩) hK hP hD hS hA 0 12 rfl rfl rfl hl.1 rfl (Nat.le_of_ble_eq_true rfl) dL_law_417 ⟨by show c0 + 0 + 0 ≤ 600000; omega, by show s0 + 0 + 0 ≤ 7302250; omega⟩ (fun v2 u2 H locs h2 hP hD hS => ?_)
  obtain ⟨ef2, ea2, eg2⟩ := u2
  have hM2 : mI ef2 ea2 := (h2.2.1)
  have hP : va_P D vwCl (lWd K u f1 a1 g1 i0 i1 tt o r ef2 ea2 eg2) H := hP
  have hD : va_D (fun q : Nat => s.heap.size ≤ q) (lWd K u f1 a1 g1 i0 i1 tt o r ef2 ea2 eg2) := hD
  have hb1 : trM y1 y2 v1 (ea 2) := (h1.2.2.2.2.1)
  have hb2 : trM y1 y2 v2 (ea 2) := (h2.2.2.2.1)
  have hv := trm_eq hb1 hb2
  have hq := rlS_t (h1.2.2.2.2.2) (h2.2.2.2.2.1) hv hkk h22 hLM hLC hPO (hE1.2.2 15 rfl) hRf (fun n9 => by have q := trm_o hb2 (hv ▸ n9); exact trm_n hkk q h22 hLM)
  have hRn : f1 12 = ef2 13 := (hE1.1 12 rfl).trans (hR.trans (show ef2 13 = ef 13 from (h2.2.2.2.2.2).1 13 rfl).symm)
  have hImn : xIm i0 i1 (ea2 4) := (by rw [(show ea2 4 = ea 4 from (h2.2.2.2.2.2).2 4 rfl)]; exact hIm)
  have hTpn : xTq (a1 93) (ea2 11) := xTq_k hTp (hE1.2.1 93 rfl) (show ea2 11 = ea 11 from (h2.2.2.2.2.2).2 11 rfl)
  have hChn : f1 14 = ef2 6 := (hE1.1 14 rfl).trans (hCh.trans (show ef2 6 = ef 6 from (h2.2.2.2.2.2).1 6 rfl).symm)
  have hFln : f1 13 = ef2 14 := (hE1.1 13 rfl).trans (hFl.trans (show ef2 14 = ef 14 from (h2.2.2.2.2.2).1 14 rfl).symm)
  have hSpn : f1 15 = ef2 37 := (hE1.1 15 rfl).trans (hSp.trans (show ef2 37 = ef 37 from (h2.2.2.2.2.2).1 37 rfl).symm)
  have hStn : f1 16 = ef2 0 := hq.2.1
  have hRfn : rfE (a1 94) (ea2 1) := hq.2.2
  have hSln : rlS K tt f1 a1 (g1.2 15) ef2 ea2 := hq.1
  have hJ0n : rlI K tt i0 (imK (ea2 3) 0) := (by rw [(show ea2 3 = ea 3 from (h2.2.2.2.2.2).2 3 rfl)]; exact hJ0)
  have hJ1n : rlI K tt i1 (imK (ea2 3) 1) := (by rw [(show ea2 3 = ea 3 from (h2.2.2.2.2.2).2 3 rfl)]; exact hJ1)
  refine lv_pop hx hb dL_law_420 rfl ?_
  refine lv_goto (tgt := 1127) hx hb dL_law_421 (by decide) ?_
  refine W.widen (k := c0 + 21) (n := s0 + 467) (by show c0 + 0 + 0 ≤ c0 + 21; omega) (by show s0 + 0 + 0 ≤ s0 + 467; omega) ?_
  exact kk _ _ _ _ _ _ _ _ _ _ _ ⟨hI1, hG1, hj0, hj1, hq0, hq1, hM2, hRn, hImn, hTpn, hChn, hFln, hSpn, hStn, hRfn, hSln, hJ0n, hJ1n⟩ hP hD hS
set_option maxHeartbeats 4000000 in
set_option maxRecDepth 100000 in
theorem law_feed {p : Program} {e : Env} {s : State} {m : MethodId} {below : List Frame} {meth : Method} {c : Code} (l : Launch) {b L : Nat} {xs : Nat → Int32} (C0 : lw_At p s m meth c b L xs) (hL2 : L ≤ 3072) {D : va_G} {K : Nat → ClassId} (hK : va_K D vwCl (tysK K) s) (hV : xE K (fun q : Nat => s.heap.size ≤ q) s s.heap) {u : Nat → Nat} {o : Nat} {r : Nat → Nat} {f : Nat → Int32} {a : Nat → Nat → Int32} {g : xG} {i0 i1 : Option sX} {tt : va_W} {ef : Nat → Int32} {ea : Nat → Nat → Int32} {eg : Nat → Int64} (hJ : rJ K f a g i0 i1 tt ef ea) {i : Int32} {ii : Nat} (hi : i.toInt = (ii : Int)) (hL : ii + 6 ≤ L) {c0 s0 : Nat} (hc0 : c0 + 21 ≤ 600000) (hs0 : s0 + 467 ≤ 7302250) {H : Heap} {locs : List Loc} (hP : va_P D vwCl (lWd K u f a g i0 i1 tt o r ef ea eg) H) (hD : va_D (fun q : Nat => s.heap.size ≤ q) (lWd K u f a g i0 i1 tt o r ef ea eg)) (hS : va_S (fun q : Nat => s.heap.size ≤ q) s.heap H locs) {ls : Array Slot} (hl : lv_has ls 4 [(3, .int i), (2, .ref o), (1, .ref (u 0)), (0, .ref b)]) (kk : ∀ (f : Nat → Int32) (a : Nat → Nat → Int32) (g : xG) (i0 i1 : Option sX) (tt : va_W) (ef : Nat → Int32) (ea : Nat → Nat → Int32) (eg : Nat → Int64) (H : Heap) (locs : List Loc), rJ K f a g i0 i1 tt ef ea → va_P D vwCl (lWd K u f a g i0 i1 tt o r ef ea eg) H → va_D (fun q : Nat => s.heap.size ≤ q) (lWd K u f a g i0 i1 tt o r ef ea eg) → va_S (fun q : Nat => s.heap.size ≤ q) s.heap H locs → W p l e room_1 s m #[Value.ref b] below meth c H locs (c0 + 21) (s0 + 467) (lw_Z below #[Value.ref b] s) (F0 m 1127 ls [])) : W p l e room_1 s m #[Value.ref b] below meth c H locs c0 s0 (lw_Z below #[Value.ref b] s) (F0 m 424 ls []) := by
  obtain ⟨hx, hb, hr, hml, hown, hts, hX, hbl, hlocks, hgv⟩ := id C0
  have hA : ∀ q : Nat, s.heap.size ≤ q → (fun q : Nat => s.heap.size ≤ q) q := fun _ h => h
  have hbA : ¬ (fun q : Nat => s.heap.size ≤ q) b := Nat.not_le.mpr hbl
  have hg : ∀ w ∈ kG, w.before #[Value.ref b] s = true := fun w h => hts w (kG_in w h)
  have hown : s.vm.findClass RL = some m.cls := hown
  obtain ⟨hI, hG, hi0, hi1, hg0, hg1, hM, hR, hIm, hTp, hCh, hFl, hSp, hSt, hRf, hSl, hJ0, hJ1⟩ := hJ
  obtain ⟨DD, P, hSV, hkk, h22, hLM, hLC, hXP, hMP, hPO⟩ := id hSl
  refine lv_aload_n hx hb dL_law_424 rfl (lv_at hl 2 rfl) ?_
  refine lv_aload_n hx hb dL_law_425 rfl (lv_at hl 3 rfl) ?_
  refine lv_iload_n hx hb dL_law_426 rfl (lv_at hl 0 rfl) ?_
  refine lv_iconst (v := 1) hx hb dL_law_427 (by decide) ?_
  refine lv_iadd hx hb dL_law_428 ?_
  refine va_sld hx hb hX hbl hbA hS (ix_in hi hL hL2 (kn := 1) (by decide +kernel) (by decide)) dL_law_429 ?_
  refine lv_topi (fun y1 ey1 => ?_)
  refine lv_aload_n hx hb dL_law_430 rfl (lv_at hl 3 rfl) ?_
  refine lv_iload_n hx hb dL_law_431 rfl (lv_at hl 0 rfl) ?_
  refine lv_iconst (v := 2) hx hb dL_law_432 (by decide) ?_
  refine lv_iadd hx hb dL_law_433 ?_
  refine va_sld hx hb hX hbl hbA hS (ix_in hi hL hL2 (kn := 2) (by decide +kernel) (by decide)) dL_law_434 ?_
  refine lv_topi (fun y2 ey2 => ?_)
  refine lv_aload_n hx hb dL_law_435 rfl (lv_at hl 3 rfl) ?_
  refine lv_iload_n hx hb dL_law_436 rfl (lv_at hl 0 rfl) ?_
  refine lv_iconst (v := 3) hx hb dL_law_437 (by decide) ?_
  refine lv_iadd hx hb dL_law_438 ?_
  refine va_sld hx hb hX hbl hbA hS (ix_in hi hL hL2 (kn := 3) (by decide +kernel) (by decide)) dL_law_439 ?_
  refine lv_topi (fun y3 ey3 => ?_)
  refine lv_aload_n hx hb dL_law_440 rfl (lv_at hl 3 rfl) ?_
  refine lv_iload_n hx hb dL_law_441 rfl (lv_at hl 0 rfl) ?_
  refine lv_iconst (v := 4) hx hb dL_law_442 (by decide) ?_
  refine lv_iadd hx hb dL_law_443 ?_
  refine va_sld hx hb hX hbl hbA hS (ix_in hi hL hL2 (kn := 4) (by decide +kernel) (by decide)) dL_law_444 ?_
  refine lv_topi (fun y4 ey4 => ?_)
  refine lv_aload_n hx hb dL_law_445 rfl (lv_at hl 3 rfl) ?_
  refine lv_iload_n hx hb dL_law_446 rfl (lv_at hl 0 rfl) ?_
  refine lv_iconst (v := 5) hx hb dL_law_447 (by decide) ?_
  refine lv_iadd hx hb dL_law_448 ?_
  refine va_sld hx hb hX hbl hbA hS (ix_in hi hL hL2 (kn := 5) (by decide +kernel) (by decide)) dL_law_449 ?_
  refine lv_topi (fun y5 ey5 => ?_)
  refine kIG.callX (As := [.int y1, .int y2, .int y3, .int y4, .int y5]) (rest := []) ⟨hx, hb, hml, hown, hg⟩ (z_feed l u f a g (iW K i0 ++ (iW K i1 ++ tt)) tt mem_rr hI hG y1 y2 y3 y4 y5  ) (cwV 5 hg (kgV wt3_121 wt3_122 wt3_123 wt1_1 wt3_124) rfl rfl rfl (by decide +kernel) ⟨by decide, by decide⟩) hV hK hP hD hS hA 0 11 rfl rfl rfl hl.1 rfl (Nat.le_of_ble_eq_true rfl) dL_law_450 ⟨by show c0 + 0 ≤ 600000; omega, by show s0 + 0 ≤ 7302250; omega⟩ (fun v1 u1 H locs h1 hP hD hS => ?_)
  obtain ⟨f1, a1, g1⟩ := u1
  have hI1 : xI f1 a1 := h1.2.1
  have hG1 : gOK K g1.2 tt := h1.2.2.1
  have hE1 : xEk ([12], [93], []) f a g f1 a1 g1 := h1.2.2.2.1
  have hj0 := hi0
  have hj1 := hi1
  have hq0 : g1.2 92 0 = iA i0 := by rw [show g1.2 92 = g.2 92 from hE1.2.2 92 rfl]; exact hg0
  have hq1 : g1.2 92 1 = iA i1 := by rw [show g1.2 92 = g.2 92 from hE1.2.2 92 rfl]; exact hg1
  have hP : va_P D vwCl (lWd K u f1 a1 g1 i0 i1 tt o r ef ea eg) H := hP
  have hD : va_D (fun q : Nat => s.heap.size ≤ q) (lWd K u f1 a1 g1 i0 i1 tt o r ef ea eg) := hD
  refine lv_pop hx hb dL_law_453 rfl ?_
  refine lv_aload_n hx hb dL_law_454 rfl (lv_at hl 1 rfl) ?_
  refine lv_aload_n hx hb dL_law_455 rfl (lv_at hl 3 rfl) ?_
  refine lv_iload_n hx hb dL_law_456 rfl (lv_at hl 0 rfl) ?_
  refine lv_iconst (v := 1) hx hb dL_law_457 (by decide) ?_
  refine lv_iadd hx hb dL_law_458 ?_
  refine va_sld hx hb hX hbl hbA hS (ix_in hi hL hL2 (kn := 1) (by decide +kernel) (by decide)) dL_law_459 ?_
  refine k_top (z := y1) ey1.symm ?_
  refine lv_aload_n hx hb dL_law_460 rfl (lv_at hl 3 rfl) ?_
  refine lv_iload_n hx hb dL_law_461 rfl (lv_at hl 0 rfl) ?_
  refine lv_iconst (v := 2) hx hb dL_law_462 (by decide) ?_
  refine lv_iadd hx hb dL_law_463 ?_
  refine va_sld hx hb hX hbl hbA hS (ix_in hi hL hL2 (kn := 2) (by decide +kernel) (by decide)) dL_law_464 ?_
  refine k_top (z := y2) ey2.symm ?_
  refine lv_aload_n hx hb dL_law_465 rfl (lv_at hl 3 rfl) ?_
  refine lv_iload_n hx hb dL_law_466 rfl (lv_at hl 0 rfl) ?_
  refine lv_iconst (v := 3) hx hb dL_law_467 (by decide) ?_
  refine lv_iadd hx hb dL_law_468 ?_
  refine va_sld hx hb hX hbl hbA hS (ix_in hi hL hL2 (kn := 3) (by decide +kernel) (by decide)) dL_law_469 ?_
  refine k_top (z := y3) ey3.symm ?_
  refine lv_aload_n hx hb dL_law_470 rfl (lv_at hl 3 rfl) ?_
  refine lv_iload_n hx hb dL_law_471 rfl (lv_at hl 0 rfl) ?_
  refine lv_iconst (v := 4) hx hb dL_law_472 (by decide) ?_
  refine lv_iadd hx hb dL_law_473 ?_
  refine va_sld hx hb hX hbl hbA hS (ix_in hi hL hL2 (kn := 4) (by decide +kernel) (by decide)) dL_law_474 ?_
  refine k_top (z := y4) ey4.symm ?_
  refine lv_aload_n hx hb dL_law_475 rfl (lv_at hl 3 rfl) ?_
  refine lv_iload_n hx hb dL_law_476 rfl (lv_at hl 0 rfl) ?_
  refine lv_iconst (v := 5) hx hb dL_law_477 (by decide) ?_
  refine lv_iadd hx hb dL_law_478 ?_
  refine va_sld hx hb hX hbl hbA hS (ix_in hi hL hL2 (kn := 5) (by decide +kernel) (by decide)) dL_law_479 ?_
  refine k_top (z := y5) ey5.symm ?_
  refine kI.callM (As := [.int y1, .int y2, .int y3, .int y4, .int y5]) (rest := []) ⟨hx, hb, hml, hown, hg⟩ (m_feed l o r ef ea eg hM y1 y2 y3 y4 y5 ) (cwV 5 hg (kgV wt6_157 wt6_158 wt6_159 wt1_14 wt6_160) rfl rfl rfl (by decide +kernel) ⟨by decide, by decide⟩) hK hP hD hS hA 0 12 rfl rfl rfl hl.1 rfl (Nat.le_of_ble_eq_true rfl) dL_law_480 ⟨by show c0 + 0 + 0 ≤ 600000; omega, by show s0 + 0 + 0 ≤ 7302250; omega⟩ (fun v2 u2 H locs h2 hP hD hS => ?_)
  obtain ⟨ef2, ea2, eg2⟩ := u2
  have hM2 : mI ef2 ea2 := (h2.2.1)
  have hP : va_P D vwCl (lWd K u f1 a1 g1 i0 i1 tt o r ef2 ea2 eg2) H := hP
  have hD : va_D (fun q : Nat => s.heap.size ≤ q) (lWd K u f1 a1 g1 i0 i1 tt o r ef2 ea2 eg2) := hD
  have hRn : f1 12 = ef2 13 := by rw [show f1 12 = _ from (h1.2.2.2.2.2.1), show ef2 13 = _ from (h2.2.2.2.2.1), hR]
  have hImn : xIm i0 i1 (ea2 4) := (by rw [(show ea2 4 = ea 4 from (h2.2.2.2.2.2.2.2.2).2 4 rfl)]; exact hIm)
  have hTpn : xTq (a1 93) (ea2 11) := xTq_fd hTp (show _ = mFeedA (ef 13) y1 y2 y3 y4 y5 (a 93) from by rw [← hR]; exact (h1.2.2.2.2.2.2)) (h2.2.2.2.2.2.1)
  have hChn : f1 14 = ef2 6 := (hE1.1 14 rfl).trans (hCh.trans (show ef2 6 = ef 6 from (h2.2.2.2.2.2.2.2.2).1 6 rfl).symm)
  have hFln : f1 13 = ef2 14 := (hE1.1 13 rfl).trans (hFl.trans (show ef2 14 = ef 14 from (h2.2.2.2.2.2.2.2.2).1 14 rfl).symm)
  have hSpn : f1 15 = ef2 37 := (hE1.1 15 rfl).trans (hSp.trans (show ef2 37 = ef 37 from (h2.2.2.2.2.2.2.2.2).1 37 rfl).symm)
  have hStn : f1 16 = ef2 0 := (hE1.1 16 rfl).trans (hSt.trans (show ef2 0 = ef 0 from (h2.2.2.2.2.2.2.2.2).1 0 rfl).symm)
  have hRfn : rfE (a1 94) (ea2 1) := (by rw [show a1 94 = a 94 from (hE1.2.1 94 rfl), (show ea2 1 = ea 1 from (h2.2.2.2.2.2.2.2.2).2 1 rfl)]; exact hRf)
  have hSln : rlS K tt f1 a1 (g1.2 15) ef2 ea2 := rlS_k hSl (smFy hE1 (by decide)) (smRy hE1 (by decide)) (hE1.2.2 15 rfl) (show ea2 2 = ea 2 from funext fun i => (h2.2.2.1).1 i rfl) (show ef2 33 = ef 33 from (h2.2.2.2.2.2.2.2.2).1 33 rfl) (show ea2 31 = ea 31 from (h2.2.2.2.2.2.2.2.2).2 31 rfl)
  have hJ0n : rlI K tt i0 (imK (ea2 3) 0) := (by rw [(show ea2 3 = ea 3 from (h2.2.2.2.2.2.2.2.2).2 3 rfl)]; exact hJ0)
  have hJ1n : rlI K tt i1 (imK (ea2 3) 1) := (by rw [(show ea2 3 = ea 3 from (h2.2.2.2.2.2.2.2.2).2 3 rfl)]; exact hJ1)
  refine lv_pop hx hb dL_law_483 rfl ?_
  refine lv_goto (tgt := 1127) hx hb dL_law_484 (by decide) ?_
  refine W.widen (k := c0 + 21) (n := s0 + 467) (by show c0 + 0 + 0 ≤ c0 + 21; omega) (by show s0 + 0 + 0 ≤ s0 + 467; omega) ?_
  exact kk _ _ _ _ _ _ _ _ _ _ _ ⟨hI1, hG1, hj0, hj1, hq0, hq1, hM2, hRn, hImn, hTpn, hChn, hFln, hSpn, hStn, hRfn, hSln, hJ0n, hJ1n⟩ hP hD hS
set_option maxHeartbeats 4000000 in
set_option maxRecDepth 100000 in
theorem law_end {p : Program} {e : Env} {s : State} {m : MethodId} {below : List Frame} {meth : Method} {c : Code} (l : Launch) {b L : Nat} {xs : Nat → Int32} (C0 : lw_At p s m meth c b L xs) (hL2 : L ≤ 3072) {D : va_G} {K : Nat → ClassId} (hK : va_K D vwCl (tysK K) s) (hV : xE K (fun q : Nat => s.heap.size ≤ q) s s.heap) {u : Nat → Nat} {o : Nat} {r : Nat → Nat} {f : Nat → Int32} {a : Nat → Nat → Int32} {g : xG} {i0 i1 : Option sX} {tt : va_W} {ef : Nat → Int32} {ea : Nat → Nat → Int32} {eg : Nat → Int64} (hJ : rJ K f a g i0 i1 tt ef ea) {i : Int32} {ii : Nat} (hi : i.toInt = (ii : Int)) (hL : ii + 6 ≤ L) {c0 s0 : Nat} (hc0 : c0 + 21 ≤ 600000) (hs0 : s0 + 467 ≤ 7302250) {H : Heap} {locs : List Loc} (hP : va_P D vwCl (lWd K u f a g i0 i1 tt o r ef ea eg) H) (hD : va_D (fun q : Nat => s.heap.size ≤ q) (lWd K u f a g i0 i1 tt o r ef ea eg)) (hS : va_S (fun q : Nat => s.heap.size ≤ q) s.heap H locs) {ls : Array Slot} (hl : lv_has ls 4 [(3, .int i), (2, .ref o), (1, .ref (u 0)), (0, .ref b)]) (kk : ∀ (f : Nat → Int32) (a : Nat → Nat → Int32) (g : xG) (i0 i1 : Option sX) (tt : va_W) (ef : Nat → Int32) (ea : Nat → Nat → Int32) (eg : Nat → Int64) (H : Heap) (locs : List Loc), rJ K f a g i0 i1 tt ef ea → va_P D vwCl (lWd K u f a g i0 i1 tt o r ef ea eg) H → va_D (fun q : Nat => s.heap.size ≤ q) (lWd K u f a g i0 i1 tt o r ef ea eg) → va_S (fun q : Nat => s.heap.size ≤ q) s.heap H locs → W p l e room_1 s m #[Value.ref b] below meth c H locs (c0 + 21) (s0 + 467) (lw_Z below #[Value.ref b] s) (F0 m 1127 ls [])) : W p l e room_1 s m #[Value.ref b] below meth c H locs c0 s0 (lw_Z below #[Value.ref b] s) (F0 m 487 ls []) := by
  obtain ⟨hx, hb, hr, hml, hown, hts, hX, hbl, hlocks, hgv⟩ := id C0
  have hA : ∀ q : Nat, s.heap.size ≤ q → (fun q : Nat => s.heap.size ≤ q) q := fun _ h => h
  have hbA : ¬ (fun q : Nat => s.heap.size ≤ q) b := Nat.not_le.mpr hbl
  have hg : ∀ w ∈ kG, w.before #[Value.ref b] s = true := fun w h => hts w (kG_in w h)
  have hown : s.vm.findClass RL = some m.cls := hown
  obtain ⟨hI, hG, hi0, hi1, hg0, hg1, hM, hR, hIm, hTp, hCh, hFl, hSp, hSt, hRf, hSl, hJ0, hJ1⟩ := hJ
  obtain ⟨DD, P, hSV, hkk, h22, hLM, hLC, hXP, hMP, hPO⟩ := id hSl
  refine lv_aload_n hx hb dL_law_487 rfl (lv_at hl 2 rfl) ?_
  refine lv_aload_n hx hb dL_law_488 rfl (lv_at hl 3 rfl) ?_
  refine lv_iload_n hx hb dL_law_489 rfl (lv_at hl 0 rfl) ?_
  refine lv_iconst (v := 1) hx hb dL_law_490 (by decide) ?_
  refine lv_iadd hx hb dL_law_491 ?_
  refine va_sld hx hb hX hbl hbA hS (ix_in hi hL hL2 (kn := 1) (by decide +kernel) (by decide)) dL_law_492 ?_
  refine lv_topi (fun y1 ey1 => ?_)
  refine kIG.callX (As := [.int y1]) (rest := []) ⟨hx, hb, hml, hown, hg⟩ (x_11_end l u f a g (iW K i0 ++ (iW K i1 ++ tt)) tt mem_rr hI hG y1  ) (cwV 1 hg (kgV wt3_129 wt3_130 wt3_131 wt1_1 wt3_132) rfl rfl rfl (by decide +kernel) ⟨by decide, by decide⟩) hV hK hP hD hS hA 0 11 rfl rfl rfl hl.1 rfl (Nat.le_of_ble_eq_true rfl) dL_law_493 ⟨by show c0 + 0 ≤ 600000; omega, by show s0 + 0 ≤ 7302250; omega⟩ (fun v1 u1 H locs h1 hP hD hS => ?_)
  obtain ⟨f1, a1, g1⟩ := u1
  have hI1 : xI f1 a1 := h1.2.1
  have hG1 : gOK K g1.2 tt := h1.2.2.1
  have hE1 : xEk ([12], [], []) f a g f1 a1 g1 := h1.2.2.2.1
  have hj0 := hi0
  have hj1 := hi1
  have hq0 : g1.2 92 0 = iA i0 := by rw [show g1.2 92 = g.2 92 from hE1.2.2 92 rfl]; exact hg0
  have hq1 : g1.2 92 1 = iA i1 := by rw [show g1.2 92 = g.2 92 from hE1.2.2 92 rfl]; exact hg1
  have hP : va_P D vwCl (lWd K u f1 a1 g1 i0 i1 tt o r ef ea eg) H := hP
  have hD : va_D (fun q : Nat => s.heap.size ≤ q) (lWd K u f1 a1 g1 i0 i1 tt o r ef ea eg) := hD
  refine lv_pop hx hb dL_law_496 rfl ?_
  refine lv_aload_n hx hb dL_law_497 rfl (lv_at hl 1 rfl) ?_
  refine lv_aload_n hx hb dL_law_498 rfl (lv_at hl 3 rfl) ?_
  refine lv_iload_n hx hb dL_law_499 rfl (lv_at hl 0 rfl) ?_
  refine lv_iconst (v := 1) hx hb dL_law_500 (by decide) ?_
  refine lv_iadd hx hb dL_law_501 ?_
  refine va_sld hx hb hX hbl hbA hS (ix_in hi hL hL2 (kn := 1) (by decide +kernel) (by decide)) dL_law_502 ?_
  refine k_top (z := y1) ey1.symm ?_
  refine kI.callM (As := [.int y1]) (rest := []) ⟨hx, hb, hml, hown, hg⟩ (m_end l o r ef ea eg hM y1 ) (cwV 1 hg (kgV wt6_161 wt6_162 wt6_163 wt1_14 wt6_164) rfl rfl rfl (by decide +kernel) ⟨by decide, by decide⟩) hK hP hD hS hA 0 12 rfl rfl rfl hl.1 rfl (Nat.le_of_ble_eq_true rfl) dL_law_503 ⟨by show c0 + 0 + 0 ≤ 600000; omega, by show s0 + 0 + 0 ≤ 7302250; omega⟩ (fun v2 u2 H locs h2 hP hD hS => ?_)
  obtain ⟨ef2, ea2, eg2⟩ := u2
  have hM2 : mI ef2 ea2 := (h2.2.1)
  have hP : va_P D vwCl (lWd K u f1 a1 g1 i0 i1 tt o r ef2 ea2 eg2) H := hP
  have hD : va_D (fun q : Nat => s.heap.size ≤ q) (lWd K u f1 a1 g1 i0 i1 tt o r ef2 ea2 eg2) := hD
  have hRn : f1 12 = ef2 13 := by rw [show f1 12 = _ from (h1.2.2.2.2.2), show ef2 13 = _ from (h2.2.2.2.2.1), hR]
  have hImn : xIm i0 i1 (ea2 4) := (by rw [(show ea2 4 = ea 4 from (h2.2.2.2.2.2.2.2.2).2 4 rfl)]; exact hIm)
  have hTpn : xTq (a1 93) (ea2 11) := xTq_k hTp (hE1.2.1 93 rfl) (show ea2 11 = ea 11 from (h2.2.2.2.2.2.2.2.2).2 11 rfl)
  have hChn : f1 14 = ef2 6 := (hE1.1 14 rfl).trans (hCh.trans (show ef2 6 = ef 6 from (h2.2.2.2.2.2.2.2.2).1 6 rfl).symm)
  have hFln : f1 13 = ef2 14 := (hE1.1 13 rfl).trans (hFl.trans (show ef2 14 = ef 14 from (h2.2.2.2.2.2.2.2.2).1 14 rfl).symm)
  have hSpn : f1 15 = ef2 37 := (hE1.1 15 rfl).trans (hSp.trans (show ef2 37 = ef 37 from (h2.2.2.2.2.2.2.2.2).1 37 rfl).symm)
  have hStn : f1 16 = ef2 0 := (hE1.1 16 rfl).trans (hSt.trans (show ef2 0 = ef 0 from (h2.2.2.2.2.2.2.2.2).1 0 rfl).symm)
  have hRfn : rfE (a1 94) (ea2 1) := (by rw [show a1 94 = a 94 from (hE1.2.1 94 rfl), (show ea2 1 = ea 1 from (h2.2.2.2.2.2.2.2.2).2 1 rfl)]; exact hRf)
  have hSln : rlS K tt f1 a1 (g1.2 15) ef2 ea2 := rlS_k hSl (smFy hE1 (by decide)) (smRy hE1 (by decide)) (hE1.2.2 15 rfl) (show ea2 2 = ea 2 from funext fun i => (h2.2.2.1).1 i rfl) (show ef2 33 = ef 33 from (h2.2.2.2.2.2.2.2.2).1 33 rfl) (show ea2 31 = ea 31 from (h2.2.2.2.2.2.2.2.2).2 31 rfl)
  have hJ0n : rlI K tt i0 (imK (ea2 3) 0) := (by rw [(show ea2 3 = ea 3 from (h2.2.2.2.2.2.2.2.2).2 3 rfl)]; exact hJ0)
  have hJ1n : rlI K tt i1 (imK (ea2 3) 1) := (by rw [(show ea2 3 = ea 3 from (h2.2.2.2.2.2.2.2.2).2 3 rfl)]; exact hJ1)
  refine lv_pop hx hb dL_law_506 rfl ?_
  refine lv_goto (tgt := 1127) hx hb dL_law_507 (by decide) ?_
  refine W.widen (k := c0 + 21) (n := s0 + 467) (by show c0 + 0 + 0 ≤ c0 + 21; omega) (by show s0 + 0 + 0 ≤ s0 + 467; omega) ?_
  exact kk _ _ _ _ _ _ _ _ _ _ _ ⟨hI1, hG1, hj0, hj1, hq0, hq1, hM2, hRn, hImn, hTpn, hChn, hFln, hSpn, hStn, hRfn, hSln, hJ0n, hJ1n⟩ hP hD hS
set_option maxHeartbeats 4000000 in
set_option maxRecDepth 100000 in
theorem law_row {p : Program} {e : Env} {s : State} {m : MethodId} {below : List Frame} {meth : Method} {c : Code} (l : Launch) {b L : Nat} {xs : Nat → Int32} (C0 : lw_At p s m meth c b L xs) (hL2 : L ≤ 3072) {D : va_G} {K : Nat → ClassId} (hK : va_K D vwCl (tysK K) s) (hV : xE K (fun q : Nat => s.heap.size ≤ q) s s.heap) {u : Nat → Nat} {o : Nat} {r : Nat → Nat} {f : Nat → Int32} {a : Nat → Nat → Int32} {g : xG} {i0 i1 : Option sX} {tt : va_W} {ef : Nat → Int32} {ea : Nat → Nat → Int32} {eg : Nat → Int64} (hJ : rJ K f a g i0 i1 tt ef ea) {i : Int32} {ii : Nat} (hi : i.toInt = (ii : Int)) (hL : ii + 6 ≤ L) {c0 s0 : Nat} (hc0 : c0 + 21 ≤ 600000) (hs0 : s0 + 467 ≤ 7302250) {H : Heap} {locs : List Loc} (hP : va_P D vwCl (lWd K u f a g i0 i1 tt o r ef ea eg) H) (hD : va_D (fun q : Nat => s.heap.size ≤ q) (lWd K u f a g i0 i1 tt o r ef ea eg)) (hS : va_S (fun q : Nat => s.heap.size ≤ q) s.heap H locs) {ls : Array Slot} (hl : lv_has ls 4 [(3, .int i), (2, .ref o), (1, .ref (u 0)), (0, .ref b)]) (kk : ∀ (f : Nat → Int32) (a : Nat → Nat → Int32) (g : xG) (i0 i1 : Option sX) (tt : va_W) (ef : Nat → Int32) (ea : Nat → Nat → Int32) (eg : Nat → Int64) (H : Heap) (locs : List Loc), rJ K f a g i0 i1 tt ef ea → va_P D vwCl (lWd K u f a g i0 i1 tt o r ef ea eg) H → va_D (fun q : Nat => s.heap.size ≤ q) (lWd K u f a g i0 i1 tt o r ef ea eg) → va_S (fun q : Nat => s.heap.size ≤ q) s.heap H locs → W p l e room_1 s m #[Value.ref b] below meth c H locs (c0 + 21) (s0 + 467) (lw_Z below #[Value.ref b] s) (F0 m 1127 ls [])) : W p l e room_1 s m #[Value.ref b] below meth c H locs c0 s0 (lw_Z below #[Value.ref b] s) (F0 m 510 ls []) := by
  obtain ⟨hx, hb, hr, hml, hown, hts, hX, hbl, hlocks, hgv⟩ := id C0
  have hA : ∀ q : Nat, s.heap.size ≤ q → (fun q : Nat => s.heap.size ≤ q) q := fun _ h => h
  have hbA : ¬ (fun q : Nat => s.heap.size ≤ q) b := Nat.not_le.mpr hbl
  have hg : ∀ w ∈ kG, w.before #[Value.ref b] s = true := fun w h => hts w (kG_in w h)
  have hown : s.vm.findClass RL = some m.cls := hown
  obtain ⟨hI, hG, hi0, hi1, hg0, hg1, hM, hR, hIm, hTp, hCh, hFl, hSp, hSt, hRf, hSl, hJ0, hJ1⟩ := hJ
  obtain ⟨DD, P, hSV, hkk, h22, hLM, hLC, hXP, hMP, hPO⟩ := id hSl
  refine lv_aload_n hx hb dL_law_510 rfl (lv_at hl 2 rfl) ?_
  refine kIG.callX (As := []) (rest := []) ⟨hx, hb, hml, hown, hg⟩ (z_row l u f a g (iW K i0 ++ (iW K i1 ++ tt)) tt mem_rr hI hG  (ea 2) hSV hkk P hXP) (cwV 0 hg (kgV wt3_133 wt3_134 wt3_135 wt1_1 wt3_136) rfl rfl rfl (by decide +kernel) ⟨by decide, by decide⟩) hV hK hP hD hS hA 0 11 rfl rfl rfl hl.1 rfl (Nat.le_of_ble_eq_true rfl) dL_law_511 ⟨by show c0 + 0 ≤ 600000; omega, by show s0 + 0 ≤ 7302250; omega⟩ (fun v1 u1 H locs h1 hP hD hS => ?_)
  obtain ⟨f1, a1, g1⟩ := u1
  have hI1 : xI f1 a1 := h1.2.1
  have hG1 : gOK K g1.2 tt := h1.2.2.1
  have hE1 : xEk ([12, 14, 16, 32, 704, 705, 2565, 2566, 2786], [2, 3, 4, 5, 6, 81, 94], []) f a g f1 a1 g1 := h1.2.2.2.1
  have hj0 := hi0
  have hj1 := hi1
  have hq0 : g1.2 92 0 = iA i0 := by rw [show g1.2 92 = g.2 92 from hE1.2.2 92 rfl]; exact hg0
  have hq1 : g1.2 92 1 = iA i1 := by rw [show g1.2 92 = g.2 92 from hE1.2.2 92 rfl]; exact hg1
  have hP : va_P D vwCl (lWd K u f1 a1 g1 i0 i1 tt o r ef ea eg) H := hP
  have hD : va_D (fun q : Nat => s.heap.size ≤ q) (lWd K u f1 a1 g1 i0 i1 tt o r ef ea eg) := hD
  refine lv_pop hx hb dL_law_514 rfl ?_
  refine lv_aload_n hx hb dL_law_515 rfl (lv_at hl 1 rfl) ?_
  refine kI.callM (As := []) (rest := []) ⟨hx, hb, hml, hown, hg⟩ (n_row l o r ef ea eg hM  P hMP) (cwV 0 hg (kgV wt6_149 wt6_150 wt6_151 wt1_14 wt6_152) rfl rfl rfl (by decide +kernel) ⟨by decide, by decide⟩) hK hP hD hS hA 0 12 rfl rfl rfl hl.1 rfl (Nat.le_of_ble_eq_true rfl) dL_law_516 ⟨by show c0 + 0 + 0 ≤ 600000; omega, by show s0 + 0 + 0 ≤ 7302250; omega⟩ (fun v2 u2 H locs h2 hP hD hS => ?_)
  obtain ⟨ef2, ea2, eg2⟩ := u2
  have hM2 : mI ef2 ea2 := (h2.2.1)
  have hP : va_P D vwCl (lWd K u f1 a1 g1 i0 i1 tt o r ef2 ea2 eg2) H := hP
  have hD : va_D (fun q : Nat => s.heap.size ≤ q) (lWd K u f1 a1 g1 i0 i1 tt o r ef2 ea2 eg2) := hD
  have hb1 : rowP (rOKx (a 93)) (f 12) v1 (f 32) (f1 32) (f 14) (f1 14) := (h1.2.2.2.2.2.1)
  have hx1 := (h1.2.2.2.2.2.2)
  rw [hR, show f 32 = ea 2 102 from sv_parts hSV, hCh, hTp.1] at hb1
  rw [hR, hTp.1] at hx1
  have hb2 : rowP (rOKm (ea 11)) (ef 13) v2 (ea 2 102) (ea2 2 102) (ef 6) (ef2 6) := (h2.2.2.2.2.1)
  have hbq := row_eq (rOK_iff hTp.2) hb1 hb2
  have hv : v1 = v2 := hbq.1
  have hq := rlS_r hTp.2 hx1 (h2.2.2.2.2.2.2.2.1) (row_6 hb2 (kK_r hkk 102 0 10 (by decide) (by decide))) hkk h22 hLM hLC hPO (hE1.2.2 15 rfl) hRf
  have hRn : f1 12 = ef2 13 := Eq.trans (show f1 12 = 0 from (h1.2.2.2.2.1)) (show ef2 13 = 0 from (h2.2.2.2.1)).symm
  have hImn : xIm i0 i1 (ea2 4) := (by rw [(show ea2 4 = ea 4 from (h2.2.2.2.2.2.2.2.2).2 4 rfl)]; exact hIm)
  have hTpn : xTq (a1 93) (ea2 11) := xTq_k hTp (hE1.2.1 93 rfl) (show ea2 11 = ea 11 from (h2.2.2.2.2.2.2.2.2).2 11 rfl)
  have hChn : f1 14 = ef2 6 := hbq.2.2
  have hFln : f1 13 = ef2 14 := (hE1.1 13 rfl).trans (hFl.trans (show ef2 14 = ef 14 from (h2.2.2.2.2.2.2.2.2).1 14 rfl).symm)
  have hSpn : f1 15 = ef2 37 := (hE1.1 15 rfl).trans (hSp.trans (show ef2 37 = ef 37 from (h2.2.2.2.2.2.2.2.2).1 37 rfl).symm)
  have hStn : f1 16 = ef2 0 := hq.2.1
  have hRfn : rfE (a1 94) (ea2 1) := hq.2.2
  have hSln : rlS K tt f1 a1 (g1.2 15) ef2 ea2 := hq.1
  have hJ0n : rlI K tt i0 (imK (ea2 3) 0) := (by rw [(show ea2 3 = ea 3 from (h2.2.2.2.2.2.2.2.2).2 3 rfl)]; exact hJ0)
  have hJ1n : rlI K tt i1 (imK (ea2 3) 1) := (by rw [(show ea2 3 = ea 3 from (h2.2.2.2.2.2.2.2.2).2 3 rfl)]; exact hJ1)
  refine lv_pop hx hb dL_law_519 rfl ?_
  refine lv_goto (tgt := 1127) hx hb dL_law_520 (by decide) ?_
  refine W.widen (k := c0 + 21) (n := s0 + 467) (by show c0 + 0 + 0 ≤ c0 + 21; omega) (by show s0 + 0 + 0 ≤ s0 + 467; omega) ?_
  exact kk _ _ _ _ _ _ _ _ _ _ _ ⟨hI1, hG1, hj0, hj1, hq0, hq1, hM2, hRn, hImn, hTpn, hChn, hFln, hSpn, hStn, hRfn, hSln, hJ0n, hJ1n⟩ hP hD hS
set_option maxHeartbeats 4000000 in
set_option maxRecDepth 100000 in
theorem law_chaff {p : Program} {e : Env} {s : State} {m : MethodId} {below : List Frame} {meth : Method} {c : Code} (l : Launch) {b L : Nat} {xs : Nat → Int32} (C0 : lw_At p s m meth c b L xs) (hL2 : L ≤ 3072) {D : va_G} {K : Nat → ClassId} (hK : va_K D vwCl (tysK K) s) (hV : xE K (fun q : Nat => s.heap.size ≤ q) s s.heap) {u : Nat → Nat} {o : Nat} {r : Nat → Nat} {f : Nat → Int32} {a : Nat → Nat → Int32} {g : xG} {i0 i1 : Option sX} {tt : va_W} {ef : Nat → Int32} {ea : Nat → Nat → Int32} {eg : Nat → Int64} (hJ : rJ K f a g i0 i1 tt ef ea) {i : Int32} {ii : Nat} (hi : i.toInt = (ii : Int)) (hL : ii + 6 ≤ L) {c0 s0 : Nat} (hc0 : c0 + 21 ≤ 600000) (hs0 : s0 + 467 ≤ 7302250) {H : Heap} {locs : List Loc} (hP : va_P D vwCl (lWd K u f a g i0 i1 tt o r ef ea eg) H) (hD : va_D (fun q : Nat => s.heap.size ≤ q) (lWd K u f a g i0 i1 tt o r ef ea eg)) (hS : va_S (fun q : Nat => s.heap.size ≤ q) s.heap H locs) {ls : Array Slot} (hl : lv_has ls 4 [(3, .int i), (2, .ref o), (1, .ref (u 0)), (0, .ref b)]) (kk : ∀ (f : Nat → Int32) (a : Nat → Nat → Int32) (g : xG) (i0 i1 : Option sX) (tt : va_W) (ef : Nat → Int32) (ea : Nat → Nat → Int32) (eg : Nat → Int64) (H : Heap) (locs : List Loc), rJ K f a g i0 i1 tt ef ea → va_P D vwCl (lWd K u f a g i0 i1 tt o r ef ea eg) H → va_D (fun q : Nat => s.heap.size ≤ q) (lWd K u f a g i0 i1 tt o r ef ea eg) → va_S (fun q : Nat => s.heap.size ≤ q) s.heap H locs → W p l e room_1 s m #[Value.ref b] below meth c H locs (c0 + 21) (s0 + 467) (lw_Z below #[Value.ref b] s) (F0 m 1127 ls [])) : W p l e room_1 s m #[Value.ref b] below meth c H locs c0 s0 (lw_Z below #[Value.ref b] s) (F0 m 523 ls []) := by
  obtain ⟨hx, hb, hr, hml, hown, hts, hX, hbl, hlocks, hgv⟩ := id C0
  have hA : ∀ q : Nat, s.heap.size ≤ q → (fun q : Nat => s.heap.size ≤ q) q := fun _ h => h
  have hbA : ¬ (fun q : Nat => s.heap.size ≤ q) b := Nat.not_le.mpr hbl
  have hg : ∀ w ∈ kG, w.before #[Value.ref b] s = true := fun w h => hts w (kG_in w h)
  have hown : s.vm.findClass RL = some m.cls := hown
  obtain ⟨hI, hG, hi0, hi1, hg0, hg1, hM, hR, hIm, hTp, hCh, hFl, hSp, hSt, hRf, hSl, hJ0, hJ1⟩ := hJ
  obtain ⟨DD, P, hSV, hkk, h22, hLM, hLC, hXP, hMP, hPO⟩ := id hSl
  refine lv_aload_n hx hb dL_law_523 rfl (lv_at hl 2 rfl) ?_
  refine kIG.callX (As := []) (rest := []) ⟨hx, hb, hml, hown, hg⟩ (x_11_chaff l u f a g (iW K i0 ++ (iW K i1 ++ tt)) tt mem_rr hI hG   ) (cwV 0 hg (kgV wt3_145 wt3_146 wt3_147 wt1_1 wt3_148) rfl rfl rfl (by decide +kernel) ⟨by decide, by decide⟩) hV hK hP hD hS hA 0 11 rfl rfl rfl hl.1 rfl (Nat.le_of_ble_eq_true rfl) dL_law_524 ⟨by show c0 + 0 ≤ 600000; omega, by show s0 + 0 ≤ 7302250; omega⟩ (fun v1 u1 H locs h1 hP hD hS => ?_)
  have hI1 := hI
  have hG1 := hG
  have hj0 := hi0
  have hj1 := hi1
  have hq0 := hg0
  have hq1 := hg1
  have hP : va_P D vwCl (lWd K u f a g i0 i1 tt o r ef ea eg) H := hP
  have hD : va_D (fun q : Nat => s.heap.size ≤ q) (lWd K u f a g i0 i1 tt o r ef ea eg) := hD
  refine lv_pop hx hb dL_law_527 rfl ?_
  refine lv_aload_n hx hb dL_law_528 rfl (lv_at hl 1 rfl) ?_
  refine kI.callM (As := []) (rest := []) ⟨hx, hb, hml, hown, hg⟩ (m_chaff l o r ef ea eg hM  ) (cwV 0 hg (kgV wt6_153 wt6_154 wt6_155 wt1_14 wt6_156) rfl rfl rfl (by decide +kernel) ⟨by decide, by decide⟩) hK hP hD hS hA 0 12 rfl rfl rfl hl.1 rfl (Nat.le_of_ble_eq_true rfl) dL_law_529 ⟨by show c0 + 0 + 0 ≤ 600000; omega, by show s0 + 0 + 0 ≤ 7302250; omega⟩ (fun v2 u2 H locs h2 hP hD hS => ?_)
  have hM2 := hM
  have hP : va_P D vwCl (lWd K u f a g i0 i1 tt o r ef ea eg) H := hP
  have hD : va_D (fun q : Nat => s.heap.size ≤ q) (lWd K u f a g i0 i1 tt o r ef ea eg) := hD
  have hRn : f 12 = ef 13 := (rfl : f 12 = f 12).trans (hR.trans (rfl : ef 13 = ef 13).symm)
  have hImn : xIm i0 i1 (ea 4) := (by rw [(rfl : ea 4 = ea 4)]; exact hIm)
  have hTpn : xTq (a 93) (ea 11) := xTq_k hTp (rfl : a 93 = a 93) (rfl : ea 11 = ea 11)
  have hChn : f 14 = ef 6 := (rfl : f 14 = f 14).trans (hCh.trans (rfl : ef 6 = ef 6).symm)
  have hFln : f 13 = ef 14 := (rfl : f 13 = f 13).trans (hFl.trans (rfl : ef 14 = ef 14).symm)
  have hSpn : f 15 = ef 37 := (rfl : f 15 = f 15).trans (hSp.trans (rfl : ef 37 = ef 37).symm)
  have hStn : f 16 = ef 0 := (rfl : f 16 = f 16).trans (hSt.trans (rfl : ef 0 = ef 0).symm)
  have hRfn : rfE (a 94) (ea 1) := (by rw [show a 94 = a 94 from (rfl : a 94 = a 94), (rfl : ea 1 = ea 1)]; exact hRf)
  have hSln : rlS K tt f a (g.2 15) ef ea := rlS_k hSl ⟨rfl, rfl, rfl, rfl, rfl, rfl, rfl⟩ ⟨rfl, fun _ _ => rfl⟩ rfl (rfl : ea 2 = ea 2) (rfl : ef 33 = ef 33) (rfl : ea 31 = ea 31)
  have hJ0n : rlI K tt i0 (imK (ea 3) 0) := (by rw [(rfl : ea 3 = ea 3)]; exact hJ0)
  have hJ1n : rlI K tt i1 (imK (ea 3) 1) := (by rw [(rfl : ea 3 = ea 3)]; exact hJ1)
  refine lv_pop hx hb dL_law_532 rfl ?_
  refine lv_goto (tgt := 1127) hx hb dL_law_533 (by decide) ?_
  refine W.widen (k := c0 + 21) (n := s0 + 467) (by show c0 + 0 + 0 ≤ c0 + 21; omega) (by show s0 + 0 + 0 ≤ s0 + 467; omega) ?_
  exact kk _ _ _ _ _ _ _ _ _ _ _ ⟨hI1, hG1, hj0, hj1, hq0, hq1, hM2, hRn, hImn, hTpn, hChn, hFln, hSpn, hStn, hRfn, hSln, hJ0n, hJ1n⟩ hP hD hS
set_option maxHeartbeats 4000000 in
set_option maxRecDepth 100000 in
theorem law_law {p : Program} {e : Env} {s : State} {m : MethodId} {below : List Frame} {meth : Method} {c : Code} (l : Launch) {b L : Nat} {xs : Nat → Int32} (C0 : lw_At p s m meth c b L xs) (hL2 : L ≤ 3072) {D : va_G} {K : Nat → ClassId} (hK : va_K D vwCl (tysK K) s) (hV : xE K (fun q : Nat => s.heap.size ≤ q) s s.heap) {u : Nat → Nat} {o : Nat} {r : Nat → Nat} {f : Nat → Int32} {a : Nat → Nat → Int32} {g : xG} {i0 i1 : Option sX} {tt : va_W} {ef : Nat → Int32} {ea : Nat → Nat → Int32} {eg : Nat → Int64} (hJ : rJ K f a g i0 i1 tt ef ea) {i : Int32} {ii : Nat} (hi : i.toInt = (ii : Int)) (hL : ii + 6 ≤ L) {c0 s0 : Nat} (hc0 : c0 + 21 ≤ 600000) (hs0 : s0 + 467 ≤ 7302250) {H : Heap} {locs : List Loc} (hP : va_P D vwCl (lWd K u f a g i0 i1 tt o r ef ea eg) H) (hD : va_D (fun q : Nat => s.heap.size ≤ q) (lWd K u f a g i0 i1 tt o r ef ea eg)) (hS : va_S (fun q : Nat => s.heap.size ≤ q) s.heap H locs) {ls : Array Slot} (hl : lv_has ls 4 [(3, .int i), (2, .ref o), (1, .ref (u 0)), (0, .ref b)]) (kk : ∀ (f : Nat → Int32) (a : Nat → Nat → Int32) (g : xG) (i0 i1 : Option sX) (tt : va_W) (ef : Nat → Int32) (ea : Nat → Nat → Int32) (eg : Nat → Int64) (H : Heap) (locs : List Loc), rJ K f a g i0 i1 tt ef ea → va_P D vwCl (lWd K u f a g i0 i1 tt o r ef ea eg) H → va_D (fun q : Nat => s.heap.size ≤ q) (lWd K u f a g i0 i1 tt o r ef ea eg) → va_S (fun q : Nat => s.heap.size ≤ q) s.heap H locs → W p l e room_1 s m #[Value.ref b] below meth c H locs (c0 + 21) (s0 + 467) (lw_Z below #[Value.ref b] s) (F0 m 1127 ls [])) : W p l e room_1 s m #[Value.ref b] below meth c H locs c0 s0 (lw_Z below #[Value.ref b] s) (F0 m 536 ls []) := by
  obtain ⟨hx, hb, hr, hml, hown, hts, hX, hbl, hlocks, hgv⟩ := id C0
  have hA : ∀ q : Nat, s.heap.size ≤ q → (fun q : Nat => s.heap.size ≤ q) q := fun _ h => h
  have hbA : ¬ (fun q : Nat => s.heap.size ≤ q) b := Nat.not_le.mpr hbl
  have hg : ∀ w ∈ kG, w.before #[Value.ref b] s = true := fun w h => hts w (kG_in w h)
  have hown : s.vm.findClass RL = some m.cls := hown
  obtain ⟨hI, hG, hi0, hi1, hg0, hg1, hM, hR, hIm, hTp, hCh, hFl, hSp, hSt, hRf, hSl, hJ0, hJ1⟩ := hJ
  obtain ⟨DD, P, hSV, hkk, h22, hLM, hLC, hXP, hMP, hPO⟩ := id hSl
  refine lv_aload_n hx hb dL_law_536 rfl (lv_at hl 2 rfl) ?_
  refine kIG.callX (As := []) (rest := []) ⟨hx, hb, hml, hown, hg⟩ (z_law l u f a g (iW K i0 ++ (iW K i1 ++ tt)) tt mem_rr hI hG  (ea 2) hSV hkk DD hLC ) (cwV 0 hg (kgV wt3_149 wt3_150 wt3_151 wt1_1 wt3_152) rfl rfl rfl (by decide +kernel) ⟨by decide, by decide⟩) hV hK hP hD hS hA 0 11 rfl rfl rfl hl.1 rfl (Nat.le_of_ble_eq_true rfl) dL_law_537 ⟨by show c0 + 5 ≤ 600000; omega, by show s0 + 467 ≤ 7302250; omega⟩ (fun v1 u1 H locs h1 hP hD hS => ?_)
  obtain ⟨⟨f1, a1, g1⟩, nw⟩ := u1
  obtain ⟨-, hI1, hG1, hE1, hnw, hr1, hb1, hx1⟩ := h1
  have hb1 : lawPx (a 93) (f 12) v1 (f 49) (f1 49) (f 13) (f1 13) := hb1
  have hP : va_P D vwCl (lWd K u f1 a1 g1 i0 i1 (nw ++ tt) o r ef ea eg) H := va_P_pm ((xX_pm nw_pm).append_right _) hP
  have hD : va_D (fun q : Nat => s.heap.size ≤ q) (lWd K u f1 a1 g1 i0 i1 (nw ++ tt) o r ef ea eg) := va_D_pm ((xX_pm nw_pm).append_right _) hD
  have hq0 : g1.2 92 0 = iA i0 := by rw [show g1.2 92 = g.2 92 from hE1.2.2 92 rfl]; exact hg0
  have hq1 : g1.2 92 1 = iA i1 := by rw [show g1.2 92 = g.2 92 from hE1.2.2 92 rfl]; exact hg1
  have hj0 : iOK K (nw ++ tt) i0 := iOK_w mem_r hi0
  have hj1 : iOK K (nw ++ tt) i1 := iOK_w mem_r hi1
  rw [hTp.1, hR, show f 49 = ea 2 105 from sv_lawCount hSV, hFl] at hb1
  rw [hTp.1, hR] at hx1
  obtain ⟨Dt, hDt, hx1⟩ := law_D (law_6 hb1) (law_5 hb1 (kK_r hkk 105 0 6 (by decide) (by decide))) hx1
  have hP : va_P D vwCl (lWd K u f1 a1 g1 i0 i1 (nw ++ tt) o r ef ea eg) H := hP
  have hD : va_D (fun q : Nat => s.heap.size ≤ q) (lWd K u f1 a1 g1 i0 i1 (nw ++ tt) o r ef ea eg) := hD
  refine lv_pop hx hb dL_law_540 rfl ?_
  refine lv_aload_n hx hb dL_law_541 rfl (lv_at hl 1 rfl) ?_
  refine kI.callM (As := []) (rest := []) ⟨hx, hb, hml, hown, hg⟩ (n_law l o r ef ea eg hM  DD P Dt hkk hLM hMP hDt) (cwV 0 hg (kgV wt6_165 wt6_166 wt6_167 wt1_14 wt6_168) rfl rfl rfl (by decide +kernel) ⟨by decide, by decide⟩) hK hP hD hS hA 0 12 rfl rfl rfl hl.1 rfl (Nat.le_of_ble_eq_true rfl) dL_law_542 ⟨by show c0 + 5 + 0 ≤ 600000; omega, by show s0 + 467 + 0 ≤ 7302250; omega⟩ (fun v2 u2 H locs h2 hP hD hS => ?_)
  obtain ⟨ef2, ea2, eg2⟩ := u2
  have hM2 : mI ef2 ea2 := (h2.2.1)
  have hP : va_P D vwCl (lWd K u f1 a1 g1 i0 i1 (nw ++ tt) o r ef2 ea2 eg2) H := hP
  have hD : va_D (fun q : Nat => s.heap.size ≤ q) (lWd K u f1 a1 g1 i0 i1 (nw ++ tt) o r ef2 ea2 eg2) := hD
  have hb2 : lawP (ea 11) (ef 13) v2 (ea 2 105) (ea2 2 105) (ef 14) (ef2 14) := (h2.2.2.2.2.1)
  have hbq := law_eq (kK_r hkk 105 0 6 (by decide) (by decide)) hb1 hb2
  have hv : v1 = v2 := hbq.1
  have hq := rlS_l hx1 (h2.2.2.2.2.2.1) hv hbq.2.1 hb2 hkk h22 hLM hPO (xP_cg hXP (hE1.1 704 rfl) (hE1.1 705 rfl) (hE1.2.1 23 rfl)) hRf
  have hRn : f1 12 = ef2 13 := Eq.trans (show f1 12 = 0 from hr1) (show ef2 13 = 0 from (h2.2.2.2.1)).symm
  have hImn : xIm i0 i1 (ea2 4) := (by rw [(show ea2 4 = ea 4 from (h2.2.2.2.2.2.2).2 4 rfl)]; exact hIm)
  have hTpn : xTq (a1 93) (ea2 11) := xTq_k hTp (hE1.2.1 93 rfl) (show ea2 11 = ea 11 from (h2.2.2.2.2.2.2).2 11 rfl)
  have hChn : f1 14 = ef2 6 := (hE1.1 14 rfl).trans (hCh.trans (show ef2 6 = ef 6 from (h2.2.2.2.2.2.2).1 6 rfl).symm)
  have hFln : f1 13 = ef2 14 := hbq.2.2
  have hSpn : f1 15 = ef2 37 := (hE1.1 15 rfl).trans (hSp.trans (show ef2 37 = ef 37 from (h2.2.2.2.2.2.2).1 37 rfl).symm)
  have hStn : f1 16 = ef2 0 := hq.2.1
  have hRfn : rfE (a1 94) (ea2 1) := hq.2.2
  have hSln : rlS K (nw ++ tt) f1 a1 (g1.2 15) ef2 ea2 := hq.1
  have hJ0n : rlI K (nw ++ tt) i0 (imK (ea2 3) 0) := (by rw [(show ea2 3 = ea 3 from (h2.2.2.2.2.2.2).2 3 rfl)]; exact rlI_w hJ0 mem_r)
  have hJ1n : rlI K (nw ++ tt) i1 (imK (ea2 3) 1) := (by rw [(show ea2 3 = ea 3 from (h2.2.2.2.2.2.2).2 3 rfl)]; exact rlI_w hJ1 mem_r)
  refine lv_pop hx hb dL_law_545 rfl ?_
  refine lv_goto (tgt := 1127) hx hb dL_law_546 (by decide) ?_
  refine W.widen (k := c0 + 21) (n := s0 + 467) (by show c0 + 5 + 0 ≤ c0 + 21; omega) (by show s0 + 467 + 0 ≤ s0 + 467; omega) ?_
  exact kk _ _ _ _ _ _ _ _ _ _ _ ⟨hI1, hG1, hj0, hj1, hq0, hq1, hM2, hRn, hImn, hTpn, hChn, hFln, hSpn, hStn, hRfn, hSln, hJ0n, hJ1n⟩ hP hD hS
set_option maxHeartbeats 4000000 in
set_option maxRecDepth 100000 in
theorem law_orders {p : Program} {e : Env} {s : State} {m : MethodId} {below : List Frame} {meth : Method} {c : Code} (l : Launch) {b L : Nat} {xs : Nat → Int32} (C0 : lw_At p s m meth c b L xs) (hL2 : L ≤ 3072) {D : va_G} {K : Nat → ClassId} (hK : va_K D vwCl (tysK K) s) (hV : xE K (fun q : Nat => s.heap.size ≤ q) s s.heap) {u : Nat → Nat} {o : Nat} {r : Nat → Nat} {f : Nat → Int32} {a : Nat → Nat → Int32} {g : xG} {i0 i1 : Option sX} {tt : va_W} {ef : Nat → Int32} {ea : Nat → Nat → Int32} {eg : Nat → Int64} (hJ : rJ K f a g i0 i1 tt ef ea) {i : Int32} {ii : Nat} (hi : i.toInt = (ii : Int)) (hL : ii + 6 ≤ L) {c0 s0 : Nat} (hc0 : c0 + 21 ≤ 600000) (hs0 : s0 + 467 ≤ 7302250) {H : Heap} {locs : List Loc} (hP : va_P D vwCl (lWd K u f a g i0 i1 tt o r ef ea eg) H) (hD : va_D (fun q : Nat => s.heap.size ≤ q) (lWd K u f a g i0 i1 tt o r ef ea eg)) (hS : va_S (fun q : Nat => s.heap.size ≤ q) s.heap H locs) {ls : Array Slot} (hl : lv_has ls 4 [(3, .int i), (2, .ref o), (1, .ref (u 0)), (0, .ref b)]) (kk : ∀ (f : Nat → Int32) (a : Nat → Nat → Int32) (g : xG) (i0 i1 : Option sX) (tt : va_W) (ef : Nat → Int32) (ea : Nat → Nat → Int32) (eg : Nat → Int64) (H : Heap) (locs : List Loc), rJ K f a g i0 i1 tt ef ea → va_P D vwCl (lWd K u f a g i0 i1 tt o r ef ea eg) H → va_D (fun q : Nat => s.heap.size ≤ q) (lWd K u f a g i0 i1 tt o r ef ea eg) → va_S (fun q : Nat => s.heap.size ≤ q) s.heap H locs → W p l e room_1 s m #[Value.ref b] below meth c H locs (c0 + 21) (s0 + 467) (lw_Z below #[Value.ref b] s) (F0 m 1127 ls [])) : W p l e room_1 s m #[Value.ref b] below meth c H locs c0 s0 (lw_Z below #[Value.ref b] s) (F0 m 549 ls []) := by
  obtain ⟨hx, hb, hr, hml, hown, hts, hX, hbl, hlocks, hgv⟩ := id C0
  have hA : ∀ q : Nat, s.heap.size ≤ q → (fun q : Nat => s.heap.size ≤ q) q := fun _ h => h
  have hbA : ¬ (fun q : Nat => s.heap.size ≤ q) b := Nat.not_le.mpr hbl
  have hg : ∀ w ∈ kG, w.before #[Value.ref b] s = true := fun w h => hts w (kG_in w h)
  have hown : s.vm.findClass RL = some m.cls := hown
  obtain ⟨hI, hG, hi0, hi1, hg0, hg1, hM, hR, hIm, hTp, hCh, hFl, hSp, hSt, hRf, hSl, hJ0, hJ1⟩ := hJ
  obtain ⟨DD, P, hSV, hkk, h22, hLM, hLC, hXP, hMP, hPO⟩ := id hSl
  refine lv_aload_n hx hb dL_law_549 rfl (lv_at hl 2 rfl) ?_
  refine kIG.callX (As := []) (rest := []) ⟨hx, hb, hml, hown, hg⟩ (z_orders l u f a g (iW K i0 ++ (iW K i1 ++ tt)) tt mem_rr hI hG  (ea 2) hSV hkk DD hLC P hXP) (cwV 0 hg (kgV wt4_71 wt4_72 wt4_73 wt1_1 wt4_74) rfl rfl rfl (by decide +kernel) ⟨by decide, by decide⟩) hV hK hP hD hS hA 0 11 rfl rfl rfl hl.1 rfl (Nat.le_of_ble_eq_true rfl) dL_law_550 ⟨by show c0 + 0 ≤ 600000; omega, by show s0 + 0 ≤ 7302250; omega⟩ (fun v1 u1 H locs h1 hP hD hS => ?_)
  obtain ⟨f1, a1, g1⟩ := u1
  have hI1 : xI f1 a1 := h1.2.1
  have hG1 : gOK K g1.2 tt := h1.2.2.1
  have hE1 : xEk ([12, 13, 15, 16, 32, 38, 44, 49, 50, 704, 705, 806, 807, 832, 838, 844, 849, 850, 1504, 1505, 1603, 1604, 1605, 1606, 1632, 1637, 2565, 2566, 2786], [2, 3, 4, 5, 6, 7, 8, 9, 10, 11, 12, 13, 14, 19, 20, 23, 27, 28, 29, 30, 31, 32, 33, 34, 35, 36, 37, 38, 39, 48, 52, 53, 54, 55, 56, 57, 81, 94], [15, 40]) f a g f1 a1 g1 := h1.2.2.2.1
  have hj0 := hi0
  have hj1 := hi1
  have hq0 : g1.2 92 0 = iA i0 := by rw [show g1.2 92 = g.2 92 from hE1.2.2 92 rfl]; exact hg0
  have hq1 : g1.2 92 1 = iA i1 := by rw [show g1.2 92 = g.2 92 from hE1.2.2 92 rfl]; exact hg1
  have hx1 := h1.2.2.2.2.2.2.1
  rw [hTp.1, hR] at hx1
  obtain ⟨Dt, hDt, hx1⟩ := ord_D hx1
  have hP : va_P D vwCl (lWd K u f1 a1 g1 i0 i1 tt o r ef ea eg) H := hP
  have hD : va_D (fun q : Nat => s.heap.size ≤ q) (lWd K u f1 a1 g1 i0 i1 tt o r ef ea eg) := hD
  refine lv_pop hx hb dL_law_553 rfl ?_
  refine lv_aload_n hx hb dL_law_554 rfl (lv_at hl 1 rfl) ?_
  refine kI.callM (As := []) (rest := []) ⟨hx, hb, hml, hown, hg⟩ (n_orders l o r ef ea eg hM  DD P Dt hkk hLM hMP h22 hDt) (cwV 0 hg (kgV wt8_47 wt8_48 wt8_49 wt1_14 wt8_50) rfl rfl rfl (by decide +kernel) ⟨by decide, by decide⟩) hK hP hD hS hA 0 12 rfl rfl rfl hl.1 rfl (Nat.le_of_ble_eq_true rfl) dL_law_555 ⟨by show c0 + 0 + 0 ≤ 600000; omega, by show s0 + 0 + 0 ≤ 7302250; omega⟩ (fun v2 u2 H locs h2 hP hD hS => ?_)
  obtain ⟨ef2, ea2, eg2⟩ := u2
  have hM2 : mI ef2 ea2 := (h2.2.1)
  have hP : va_P D vwCl (lWd K u f1 a1 g1 i0 i1 tt o r ef2 ea2 eg2) H := hP
  have hD : va_D (fun q : Nat => s.heap.size ≤ q) (lWd K u f1 a1 g1 i0 i1 tt o r ef2 ea2 eg2) := hD
  have hb1 : ordP (a 93) (f 12) (f1 13) := (h1.2.2.2.2.2.1)
  rw [hTp.1, hR] at hb1
  have hb2 : ordP (ea 11) (ef 13) (ef2 14) := (h2.2.2.2.2.1)
  have hbq := ord_eq hb1 hb2
  have hq := rlS_o hx1 (h2.2.2.2.2.2.1) hkk h22 hLM hLC hPO (h1.2.2.2.2.2.2.2) hRf
  have hRn : f1 12 = ef2 13 := Eq.trans (show f1 12 = 0 from (h1.2.2.2.2.1)) (show ef2 13 = 0 from (h2.2.2.2.1)).symm
  have hImn : xIm i0 i1 (ea2 4) := (by rw [(show ea2 4 = ea 4 from (h2.2.2.2.2.2.2).2 4 rfl)]; exact hIm)
  have hTpn : xTq (a1 93) (ea2 11) := xTq_k hTp (hE1.2.1 93 rfl) (show ea2 11 = ea 11 from (h2.2.2.2.2.2.2).2 11 rfl)
  have hChn : f1 14 = ef2 6 := (hE1.1 14 rfl).trans (hCh.trans (show ef2 6 = ef 6 from (h2.2.2.2.2.2.2).1 6 rfl).symm)
  have hFln : f1 13 = ef2 14 := hbq
  have hSpn : f1 15 = ef2 37 := hq.2.2.2.2
  have hStn : f1 16 = ef2 0 := hq.2.2.1
  have hRfn : rfE (a1 94) (ea2 1) := hq.2.2.2.1
  have hSln : rlS K tt f1 a1 (g1.2 15) ef2 ea2 := hq.1
  have hJ0n : rlI K tt i0 (imK (ea2 3) 0) := (by rw [(show ea2 3 = ea 3 from (h2.2.2.2.2.2.2).2 3 rfl)]; exact hJ0)
  have hJ1n : rlI K tt i1 (imK (ea2 3) 1) := (by rw [(show ea2 3 = ea 3 from (h2.2.2.2.2.2.2).2 3 rfl)]; exact hJ1)
  refine lv_pop hx hb dL_law_558 rfl ?_
  refine lv_goto (tgt := 1127) hx hb dL_law_559 (by decide) ?_
  refine W.widen (k := c0 + 21) (n := s0 + 467) (by show c0 + 0 + 0 ≤ c0 + 21; omega) (by show s0 + 0 + 0 ≤ s0 + 467; omega) ?_
  exact kk _ _ _ _ _ _ _ _ _ _ _ ⟨hI1, hG1, hj0, hj1, hq0, hq1, hM2, hRn, hImn, hTpn, hChn, hFln, hSpn, hStn, hRfn, hSln, hJ0n, hJ1n⟩ hP hD hS
set_option maxHeartbeats 4000000 in
set_option maxRecDepth 100000 in
theorem law_fault {p : Program} {e : Env} {s : State} {m : MethodId} {below : List Frame} {meth : Method} {c : Code} (l : Launch) {b L : Nat} {xs : Nat → Int32} (C0 : lw_At p s m meth c b L xs) (hL2 : L ≤ 3072) {D : va_G} {K : Nat → ClassId} (hK : va_K D vwCl (tysK K) s) (hV : xE K (fun q : Nat => s.heap.size ≤ q) s s.heap) {u : Nat → Nat} {o : Nat} {r : Nat → Nat} {f : Nat → Int32} {a : Nat → Nat → Int32} {g : xG} {i0 i1 : Option sX} {tt : va_W} {ef : Nat → Int32} {ea : Nat → Nat → Int32} {eg : Nat → Int64} (hJ : rJ K f a g i0 i1 tt ef ea) {i : Int32} {ii : Nat} (hi : i.toInt = (ii : Int)) (hL : ii + 6 ≤ L) {c0 s0 : Nat} (hc0 : c0 + 21 ≤ 600000) (hs0 : s0 + 467 ≤ 7302250) {H : Heap} {locs : List Loc} (hP : va_P D vwCl (lWd K u f a g i0 i1 tt o r ef ea eg) H) (hD : va_D (fun q : Nat => s.heap.size ≤ q) (lWd K u f a g i0 i1 tt o r ef ea eg)) (hS : va_S (fun q : Nat => s.heap.size ≤ q) s.heap H locs) {ls : Array Slot} (hl : lv_has ls 4 [(3, .int i), (2, .ref o), (1, .ref (u 0)), (0, .ref b)]) (kk : ∀ (f : Nat → Int32) (a : Nat → Nat → Int32) (g : xG) (i0 i1 : Option sX) (tt : va_W) (ef : Nat → Int32) (ea : Nat → Nat → Int32) (eg : Nat → Int64) (H : Heap) (locs : List Loc), rJ K f a g i0 i1 tt ef ea → va_P D vwCl (lWd K u f a g i0 i1 tt o r ef ea eg) H → va_D (fun q : Nat => s.heap.size ≤ q) (lWd K u f a g i0 i1 tt o r ef ea eg) → va_S (fun q : Nat => s.heap.size ≤ q) s.heap H locs → W p l e room_1 s m #[Value.ref b] below meth c H locs (c0 + 21) (s0 + 467) (lw_Z below #[Value.ref b] s) (F0 m 1127 ls [])) : W p l e room_1 s m #[Value.ref b] below meth c H locs c0 s0 (lw_Z below #[Value.ref b] s) (F0 m 562 ls []) := by
  obtain ⟨hx, hb, hr, hml, hown, hts, hX, hbl, hlocks, hgv⟩ := id C0
  have hA : ∀ q : Nat, s.heap.size ≤ q → (fun q : Nat => s.heap.size ≤ q) q := fun _ h => h
  have hbA : ¬ (fun q : Nat => s.heap.size ≤ q) b := Nat.not_le.mpr hbl
  have hg : ∀ w ∈ kG, w.before #[Value.ref b] s = true := fun w h => hts w (kG_in w h)
  have hown : s.vm.findClass RL = some m.cls := hown
  obtain ⟨hI, hG, hi0, hi1, hg0, hg1, hM, hR, hIm, hTp, hCh, hFl, hSp, hSt, hRf, hSl, hJ0, hJ1⟩ := hJ
  obtain ⟨DD, P, hSV, hkk, h22, hLM, hLC, hXP, hMP, hPO⟩ := id hSl
  refine lv_aload_n hx hb dL_law_562 rfl (lv_at hl 2 rfl) ?_
  refine kIG.callX (As := []) (rest := []) ⟨hx, hb, hml, hown, hg⟩ (x_11_fault l u f a g (iW K i0 ++ (iW K i1 ++ tt)) tt mem_rr hI hG   ) (cwV 0 hg (kgV wt4_148 wt4_149 wt4_150 wt1_1 wt4_151) rfl rfl rfl (by decide +kernel) ⟨by decide, by decide⟩) hV hK hP hD hS hA 0 11 rfl rfl rfl hl.1 rfl (Nat.le_of_ble_eq_true rfl) dL_law_563 ⟨by show c0 + 0 ≤ 600000; omega, by show s0 + 0 ≤ 7302250; omega⟩ (fun v1 u1 H locs h1 hP hD hS => ?_)
  have hI1 := hI
  have hG1 := hG
  have hj0 := hi0
  have hj1 := hi1
  have hq0 := hg0
  have hq1 := hg1
  have hP : va_P D vwCl (lWd K u f a g i0 i1 tt o r ef ea eg) H := hP
  have hD : va_D (fun q : Nat => s.heap.size ≤ q) (lWd K u f a g i0 i1 tt o r ef ea eg) := hD
  refine lv_pop hx hb dL_law_566 rfl ?_
  refine lv_aload_n hx hb dL_law_567 rfl (lv_at hl 1 rfl) ?_
  refine kI.callM (As := []) (rest := []) ⟨hx, hb, hml, hown, hg⟩ (m_fault l o r ef ea eg hM  ) (cwV 0 hg (kgV wt7_19 wt7_20 wt7_21 wt1_14 wt7_22) rfl rfl rfl (by decide +kernel) ⟨by decide, by decide⟩) hK hP hD hS hA 0 12 rfl rfl rfl hl.1 rfl (Nat.le_of_ble_eq_true rfl) dL_law_568 ⟨by show c0 + 0 + 0 ≤ 600000; omega, by show s0 + 0 + 0 ≤ 7302250; omega⟩ (fun v2 u2 H locs h2 hP hD hS => ?_)
  have hM2 := hM
  have hP : va_P D vwCl (lWd K u f a g i0 i1 tt o r ef ea eg) H := hP
  have hD : va_D (fun q : Nat => s.heap.size ≤ q) (lWd K u f a g i0 i1 tt o r ef ea eg) := hD
  have hRn : f 12 = ef 13 := (rfl : f 12 = f 12).trans (hR.trans (rfl : ef 13 = ef 13).symm)
  have hImn : xIm i0 i1 (ea 4) := (by rw [(rfl : ea 4 = ea 4)]; exact hIm)
  have hTpn : xTq (a 93) (ea 11) := xTq_k hTp (rfl : a 93 = a 93) (rfl : ea 11 = ea 11)
  have hChn : f 14 = ef 6 := (rfl : f 14 = f 14).trans (hCh.trans (rfl : ef 6 = ef 6).symm)
  have hFln : f 13 = ef 14 := (rfl : f 13 = f 13).trans (hFl.trans (rfl : ef 14 = ef 14).symm)
  have hSpn : f 15 = ef 37 := (rfl : f 15 = f 15).trans (hSp.trans (rfl : ef 37 = ef 37).symm)
  have hStn : f 16 = ef 0 := (rfl : f 16 = f 16).trans (hSt.trans (rfl : ef 0 = ef 0).symm)
  have hRfn : rfE (a 94) (ea 1) := (by rw [show a 94 = a 94 from (rfl : a 94 = a 94), (rfl : ea 1 = ea 1)]; exact hRf)
  have hSln : rlS K tt f a (g.2 15) ef ea := rlS_k hSl ⟨rfl, rfl, rfl, rfl, rfl, rfl, rfl⟩ ⟨rfl, fun _ _ => rfl⟩ rfl (rfl : ea 2 = ea 2) (rfl : ef 33 = ef 33) (rfl : ea 31 = ea 31)
  have hJ0n : rlI K tt i0 (imK (ea 3) 0) := (by rw [(rfl : ea 3 = ea 3)]; exact hJ0)
  have hJ1n : rlI K tt i1 (imK (ea 3) 1) := (by rw [(rfl : ea 3 = ea 3)]; exact hJ1)
  refine lv_pop hx hb dL_law_571 rfl ?_
  refine lv_goto (tgt := 1127) hx hb dL_law_572 (by decide) ?_
  refine W.widen (k := c0 + 21) (n := s0 + 467) (by show c0 + 0 + 0 ≤ c0 + 21; omega) (by show s0 + 0 + 0 ≤ s0 + 467; omega) ?_
  exact kk _ _ _ _ _ _ _ _ _ _ _ ⟨hI1, hG1, hj0, hj1, hq0, hq1, hM2, hRn, hImn, hTpn, hChn, hFln, hSpn, hStn, hRfn, hSln, hJ0n, hJ1n⟩ hP hD hS
set_option maxHeartbeats 4000000 in
set_option maxRecDepth 100000 in
theorem law_stopped {p : Program} {e : Env} {s : State} {m : MethodId} {below : List Frame} {meth : Method} {c : Code} (l : Launch) {b L : Nat} {xs : Nat → Int32} (C0 : lw_At p s m meth c b L xs) (hL2 : L ≤ 3072) {D : va_G} {K : Nat → ClassId} (hK : va_K D vwCl (tysK K) s) (hV : xE K (fun q : Nat => s.heap.size ≤ q) s s.heap) {u : Nat → Nat} {o : Nat} {r : Nat → Nat} {f : Nat → Int32} {a : Nat → Nat → Int32} {g : xG} {i0 i1 : Option sX} {tt : va_W} {ef : Nat → Int32} {ea : Nat → Nat → Int32} {eg : Nat → Int64} (hJ : rJ K f a g i0 i1 tt ef ea) {i : Int32} {ii : Nat} (hi : i.toInt = (ii : Int)) (hL : ii + 6 ≤ L) {c0 s0 : Nat} (hc0 : c0 + 21 ≤ 600000) (hs0 : s0 + 467 ≤ 7302250) {H : Heap} {locs : List Loc} (hP : va_P D vwCl (lWd K u f a g i0 i1 tt o r ef ea eg) H) (hD : va_D (fun q : Nat => s.heap.size ≤ q) (lWd K u f a g i0 i1 tt o r ef ea eg)) (hS : va_S (fun q : Nat => s.heap.size ≤ q) s.heap H locs) {ls : Array Slot} (hl : lv_has ls 4 [(3, .int i), (2, .ref o), (1, .ref (u 0)), (0, .ref b)]) (kk : ∀ (f : Nat → Int32) (a : Nat → Nat → Int32) (g : xG) (i0 i1 : Option sX) (tt : va_W) (ef : Nat → Int32) (ea : Nat → Nat → Int32) (eg : Nat → Int64) (H : Heap) (locs : List Loc), rJ K f a g i0 i1 tt ef ea → va_P D vwCl (lWd K u f a g i0 i1 tt o r ef ea eg) H → va_D (fun q : Nat => s.heap.size ≤ q) (lWd K u f a g i0 i1 tt o r ef ea eg) → va_S (fun q : Nat => s.heap.size ≤ q) s.heap H locs → W p l e room_1 s m #[Value.ref b] below meth c H locs (c0 + 21) (s0 + 467) (lw_Z below #[Value.ref b] s) (F0 m 1127 ls [])) : W p l e room_1 s m #[Value.ref b] below meth c H locs c0 s0 (lw_Z below #[Value.ref b] s) (F0 m 575 ls []) := by
  obtain ⟨hx, hb, hr, hml, hown, hts, hX, hbl, hlocks, hgv⟩ := id C0
  have hA : ∀ q : Nat, s.heap.size ≤ q → (fun q : Nat => s.heap.size ≤ q) q := fun _ h => h
  have hbA : ¬ (fun q : Nat => s.heap.size ≤ q) b := Nat.not_le.mpr hbl
  have hg : ∀ w ∈ kG, w.before #[Value.ref b] s = true := fun w h => hts w (kG_in w h)
  have hown : s.vm.findClass RL = some m.cls := hown
  obtain ⟨hI, hG, hi0, hi1, hg0, hg1, hM, hR, hIm, hTp, hCh, hFl, hSp, hSt, hRf, hSl, hJ0, hJ1⟩ := hJ
  obtain ⟨DD, P, hSV, hkk, h22, hLM, hLC, hXP, hMP, hPO⟩ := id hSl
  refine lv_aload_n hx hb dL_law_575 rfl (lv_at hl 2 rfl) ?_
  refine kIG.callX (As := []) (rest := []) ⟨hx, hb, hml, hown, hg⟩ (z_stopped l u f a g (iW K i0 ++ (iW K i1 ++ tt)) tt mem_rr hI hG   ) (cwV 0 hg (kgV wt4_152 wt4_153 wt4_154 wt1_1 wt4_155) rfl rfl rfl (by decide +kernel) ⟨by decide, by decide⟩) hV hK hP hD hS hA 0 11 rfl rfl rfl hl.1 rfl (Nat.le_of_ble_eq_true rfl) dL_law_576 ⟨by show c0 + 0 ≤ 600000; omega, by show s0 + 0 ≤ 7302250; omega⟩ (fun v1 u1 H locs h1 hP hD hS => ?_)
  have hI1 := hI
  have hG1 := hG
  have hj0 := hi0
  have hj1 := hi1
  have hq0 := hg0
  have hq1 := hg1
  have hP : va_P D vwCl (lWd K u f a g i0 i1 tt o r ef ea eg) H := hP
  have hD : va_D (fun q : Nat => s.heap.size ≤ q) (lWd K u f a g i0 i1 tt o r ef ea eg) := hD
  refine lv_pop hx hb dL_law_579 rfl ?_
  refine lv_aload_n hx hb dL_law_580 rfl (lv_at hl 1 rfl) ?_
  refine kI.callM (As := []) (rest := []) ⟨hx, hb, hml, hown, hg⟩ (n_stopped l o r ef ea eg hM  ) (cwV 0 hg (kgV wt8_43 wt8_44 wt8_45 wt1_14 wt8_46) rfl rfl rfl (by decide +kernel) ⟨by decide, by decide⟩) hK hP hD hS hA 0 12 rfl rfl rfl hl.1 rfl (Nat.le_of_ble_eq_true rfl) dL_law_581 ⟨by show c0 + 0 + 0 ≤ 600000; omega, by show s0 + 0 + 0 ≤ 7302250; omega⟩ (fun v2 u2 H locs h2 hP hD hS => ?_)
  have hM2 := hM
  have hP : va_P D vwCl (lWd K u f a g i0 i1 tt o r ef ea eg) H := hP
  have hD : va_D (fun q : Nat => s.heap.size ≤ q) (lWd K u f a g i0 i1 tt o r ef ea eg) := hD
  have hRn : f 12 = ef 13 := (rfl : f 12 = f 12).trans (hR.trans (rfl : ef 13 = ef 13).symm)
  have hImn : xIm i0 i1 (ea 4) := (by rw [(rfl : ea 4 = ea 4)]; exact hIm)
  have hTpn : xTq (a 93) (ea 11) := xTq_k hTp (rfl : a 93 = a 93) (rfl : ea 11 = ea 11)
  have hChn : f 14 = ef 6 := (rfl : f 14 = f 14).trans (hCh.trans (rfl : ef 6 = ef 6).symm)
  have hFln : f 13 = ef 14 := (rfl : f 13 = f 13).trans (hFl.trans (rfl : ef 14 = ef 14).symm)
  have hSpn : f 15 = ef 37 := (rfl : f 15 = f 15).trans (hSp.trans (rfl : ef 37 = ef 37).symm)
  have hStn : f 16 = ef 0 := (rfl : f 16 = f 16).trans (hSt.trans (rfl : ef 0 = ef 0).symm)
  have hRfn : rfE (a 94) (ea 1) := (by rw [show a 94 = a 94 from (rfl : a 94 = a 94), (rfl : ea 1 = ea 1)]; exact hRf)
  have hSln : rlS K tt f a (g.2 15) ef ea := rlS_k hSl ⟨rfl, rfl, rfl, rfl, rfl, rfl, rfl⟩ ⟨rfl, fun _ _ => rfl⟩ rfl (rfl : ea 2 = ea 2) (rfl : ef 33 = ef 33) (rfl : ea 31 = ea 31)
  have hJ0n : rlI K tt i0 (imK (ea 3) 0) := (by rw [(rfl : ea 3 = ea 3)]; exact hJ0)
  have hJ1n : rlI K tt i1 (imK (ea 3) 1) := (by rw [(rfl : ea 3 = ea 3)]; exact hJ1)
  refine lv_pop hx hb dL_law_584 rfl ?_
  refine lv_goto (tgt := 1127) hx hb dL_law_585 (by decide) ?_
  refine W.widen (k := c0 + 21) (n := s0 + 467) (by show c0 + 0 + 0 ≤ c0 + 21; omega) (by show s0 + 0 + 0 ≤ s0 + 467; omega) ?_
  exact kk _ _ _ _ _ _ _ _ _ _ _ ⟨hI1, hG1, hj0, hj1, hq0, hq1, hM2, hRn, hImn, hTpn, hChn, hFln, hSpn, hStn, hRfn, hSln, hJ0n, hJ1n⟩ hP hD hS
set_option maxHeartbeats 4000000 in
set_option maxRecDepth 100000 in
theorem law_force {p : Program} {e : Env} {s : State} {m : MethodId} {below : List Frame} {meth : Method} {c : Code} (l : Launch) {b L : Nat} {xs : Nat → Int32} (C0 : lw_At p s m meth c b L xs) (hL2 : L ≤ 3072) {D : va_G} {K : Nat → ClassId} (hK : va_K D vwCl (tysK K) s) (hV : xE K (fun q : Nat => s.heap.size ≤ q) s s.heap) {u : Nat → Nat} {o : Nat} {r : Nat → Nat} {f : Nat → Int32} {a : Nat → Nat → Int32} {g : xG} {i0 i1 : Option sX} {tt : va_W} {ef : Nat → Int32} {ea : Nat → Nat → Int32} {eg : Nat → Int64} (hJ : rJ K f a g i0 i1 tt ef ea) {i : Int32} {ii : Nat} (hi : i.toInt = (ii : Int)) (hL : ii + 6 ≤ L) {c0 s0 : Nat} (hc0 : c0 + 21 ≤ 600000) (hs0 : s0 + 467 ≤ 7302250) {H : Heap} {locs : List Loc} (hP : va_P D vwCl (lWd K u f a g i0 i1 tt o r ef ea eg) H) (hD : va_D (fun q : Nat => s.heap.size ≤ q) (lWd K u f a g i0 i1 tt o r ef ea eg)) (hS : va_S (fun q : Nat => s.heap.size ≤ q) s.heap H locs) {ls : Array Slot} (hl : lv_has ls 4 [(3, .int i), (2, .ref o), (1, .ref (u 0)), (0, .ref b)]) (kk : ∀ (f : Nat → Int32) (a : Nat → Nat → Int32) (g : xG) (i0 i1 : Option sX) (tt : va_W) (ef : Nat → Int32) (ea : Nat → Nat → Int32) (eg : Nat → Int64) (H : Heap) (locs : List Loc), rJ K f a g i0 i1 tt ef ea → va_P D vwCl (lWd K u f a g i0 i1 tt o r ef ea eg) H → va_D (fun q : Nat => s.heap.size ≤ q) (lWd K u f a g i0 i1 tt o r ef ea eg) → va_S (fun q : Nat => s.heap.size ≤ q) s.heap H locs → W p l e room_1 s m #[Value.ref b] below meth c H locs (c0 + 21) (s0 + 467) (lw_Z below #[Value.ref b] s) (F0 m 1127 ls [])) : W p l e room_1 s m #[Value.ref b] below meth c H locs c0 s0 (lw_Z below #[Value.ref b] s) (F0 m 588 ls []) := by
  obtain ⟨hx, hb, hr, hml, hown, hts, hX, hbl, hlocks, hgv⟩ := id C0
  have hA : ∀ q : Nat, s.heap.size ≤ q → (fun q : Nat => s.heap.size ≤ q) q := fun _ h => h
  have hbA : ¬ (fun q : Nat => s.heap.size ≤ q) b := Nat.not_le.mpr hbl
  have hg : ∀ w ∈ kG, w.before #[Value.ref b] s = true := fun w h => hts w (kG_in w h)
  have hown : s.vm.findClass RL = some m.cls := hown
  obtain ⟨hI, hG, hi0, hi1, hg0, hg1, hM, hR, hIm, hTp, hCh, hFl, hSp, hSt, hRf, hSl, hJ0, hJ1⟩ := hJ
  obtain ⟨DD, P, hSV, hkk, h22, hLM, hLC, hXP, hMP, hPO⟩ := id hSl
  refine lv_aload_n hx hb dL_law_588 rfl (lv_at hl 2 rfl) ?_
  refine lv_aload_n hx hb dL_law_589 rfl (lv_at hl 3 rfl) ?_
  refine lv_iload_n hx hb dL_law_590 rfl (lv_at hl 0 rfl) ?_
  refine lv_iconst (v := 1) hx hb dL_law_591 (by decide) ?_
  refine lv_iadd hx hb dL_law_592 ?_
  refine va_sld hx hb hX hbl hbA hS (ix_in hi hL hL2 (kn := 1) (by decide +kernel) (by decide)) dL_law_593 ?_
  refine lv_topi (fun y1 ey1 => ?_)
  refine kIG.callX (As := [.int y1]) (rest := []) ⟨hx, hb, hml, hown, hg⟩ (z_force l u f a g (iW K i0 ++ (iW K i1 ++ tt)) tt mem_rr hI hG y1 (ea 2) hSV hkk P hXP (kb_eq (sv_lawCount hSV) (kK_r hkk 105 0 6 (by decide) (by decide)))) (cwV 1 hg (kgV wt4_156 wt4_157 wt4_158 wt1_1 wt4_159) rfl rfl rfl (by decide +kernel) ⟨by decide, by decide⟩) hV hK hP hD hS hA 0 11 rfl rfl rfl hl.1 rfl (Nat.le_of_ble_eq_true rfl) dL_law_594 ⟨by show c0 + 0 ≤ 600000; omega, by show s0 + 0 ≤ 7302250; omega⟩ (fun v1 u1 H locs h1 hP hD hS => ?_)
  obtain ⟨f1, a1, g1⟩ := u1
  have hI1 : xI f1 a1 := h1.2.1
  have hG1 : gOK K g1.2 tt := h1.2.2.1
  have hE1 : xEk ([16, 50, 2565, 2566, 2786], [81, 94], []) f a g f1 a1 g1 := h1.2.2.2.1
  have hj0 := hi0
  have hj1 := hi1
  have hq0 : g1.2 92 0 = iA i0 := by rw [show g1.2 92 = g.2 92 from hE1.2.2 92 rfl]; exact hg0
  have hq1 : g1.2 92 1 = iA i1 := by rw [show g1.2 92 = g.2 92 from hE1.2.2 92 rfl]; exact hg1
  have hP : va_P D vwCl (lWd K u f1 a1 g1 i0 i1 tt o r ef ea eg) H := hP
  have hD : va_D (fun q : Nat => s.heap.size ≤ q) (lWd K u f1 a1 g1 i0 i1 tt o r ef ea eg) := hD
  refine lv_pop hx hb dL_law_597 rfl ?_
  refine lv_aload_n hx hb dL_law_598 rfl (lv_at hl 1 rfl) ?_
  refine lv_aload_n hx hb dL_law_599 rfl (lv_at hl 3 rfl) ?_
  refine lv_iload_n hx hb dL_law_600 rfl (lv_at hl 0 rfl) ?_
  refine lv_iconst (v := 1) hx hb dL_law_601 (by decide) ?_
  refine lv_iadd hx hb dL_law_602 ?_
  refine va_sld hx hb hX hbl hbA hS (ix_in hi hL hL2 (kn := 1) (by decide +kernel) (by decide)) dL_law_603 ?_
  refine k_top (z := y1) ey1.symm ?_
  refine kI.callM (As := [.int y1]) (rest := []) ⟨hx, hb, hml, hown, hg⟩ (n_force l o r ef ea eg hM y1 P hMP) (cwV 1 hg (kgV wt7_23 wt7_24 wt7_25 wt1_14 wt7_26) rfl rfl rfl (by decide +kernel) ⟨by decide, by decide⟩) hK hP hD hS hA 0 12 rfl rfl rfl hl.1 rfl (Nat.le_of_ble_eq_true rfl) dL_law_604 ⟨by show c0 + 0 + 0 ≤ 600000; omega, by show s0 + 0 + 0 ≤ 7302250; omega⟩ (fun v2 u2 H locs h2 hP hD hS => ?_)
  obtain ⟨ef2, ea2, eg2⟩ := u2
  have hM2 : mI ef2 ea2 := (h2.2.1)
  have hP : va_P D vwCl (lWd K u f1 a1 g1 i0 i1 tt o r ef2 ea2 eg2) H := hP
  have hD : va_D (fun q : Nat => s.heap.size ≤ q) (lWd K u f1 a1 g1 i0 i1 tt o r ef2 ea2 eg2) := hD
  have hb1 : frcP y1 v1 (f 49) (f 50) (f1 50) := (h1.2.2.2.2.1)
  rw [show f 49 = ea 2 105 from sv_lawCount hSV, show f 50 = ea 2 106 from sv_inForce hSV] at hb1
  have hb2 : frcP y1 v2 (ea 2 105) (ea 2 106) (ea2 2 106) := (h2.2.2.2.1)
  have hv := (frc_eq hb1 hb2).1
  have hq := rlS_f (h1.2.2.2.2.2) (h2.2.2.2.2.1) hv hb2 hkk h22 hLM hLC hPO (hE1.2.2 15 rfl) hRf
  have hRn : f1 12 = ef2 13 := (hE1.1 12 rfl).trans (hR.trans (show ef2 13 = ef 13 from (h2.2.2.2.2.2).1 13 rfl).symm)
  have hImn : xIm i0 i1 (ea2 4) := (by rw [(show ea2 4 = ea 4 from (h2.2.2.2.2.2).2 4 rfl)]; exact hIm)
  have hTpn : xTq (a1 93) (ea2 11) := xTq_k hTp (hE1.2.1 93 rfl) (show ea2 11 = ea 11 from (h2.2.2.2.2.2).2 11 rfl)
  have hChn : f1 14 = ef2 6 := (hE1.1 14 rfl).trans (hCh.trans (show ef2 6 = ef 6 from (h2.2.2.2.2.2).1 6 rfl).symm)
  have hFln : f1 13 = ef2 14 := (hE1.1 13 rfl).trans (hFl.trans (show ef2 14 = ef 14 from (h2.2.2.2.2.2).1 14 rfl).symm)
  have hSpn : f1 15 = ef2 37 := (hE1.1 15 rfl).trans (hSp.trans (show ef2 37 = ef 37 from (h2.2.2.2.2.2).1 37 rfl).symm)
  have hStn : f1 16 = ef2 0 := hq.2.1
  have hRfn : rfE (a1 94) (ea2 1) := hq.2.2
  have hSln : rlS K tt f1 a1 (g1.2 15) ef2 ea2 := hq.1
  have hJ0n : rlI K tt i0 (imK (ea2 3) 0) := (by rw [(show ea2 3 = ea 3 from (h2.2.2.2.2.2).2 3 rfl)]; exact hJ0)
  have hJ1n : rlI K tt i1 (imK (ea2 3) 1) := (by rw [(show ea2 3 = ea 3 from (h2.2.2.2.2.2).2 3 rfl)]; exact hJ1)
  refine lv_pop hx hb dL_law_607 rfl ?_
  refine lv_goto (tgt := 1127) hx hb dL_law_608 (by decide) ?_
  refine W.widen (k := c0 + 21) (n := s0 + 467) (by show c0 + 0 + 0 ≤ c0 + 21; omega) (by show s0 + 0 + 0 ≤ s0 + 467; omega) ?_
  exact kk _ _ _ _ _ _ _ _ _ _ _ ⟨hI1, hG1, hj0, hj1, hq0, hq1, hM2, hRn, hImn, hTpn, hChn, hFln, hSpn, hStn, hRfn, hSln, hJ0n, hJ1n⟩ hP hD hS
set_option maxHeartbeats 4000000 in
set_option maxRecDepth 100000 in
theorem law_stands {p : Program} {e : Env} {s : State} {m : MethodId} {below : List Frame} {meth : Method} {c : Code} (l : Launch) {b L : Nat} {xs : Nat → Int32} (C0 : lw_At p s m meth c b L xs) (hL2 : L ≤ 3072) {D : va_G} {K : Nat → ClassId} (hK : va_K D vwCl (tysK K) s) (hV : xE K (fun q : Nat => s.heap.size ≤ q) s s.heap) {u : Nat → Nat} {o : Nat} {r : Nat → Nat} {f : Nat → Int32} {a : Nat → Nat → Int32} {g : xG} {i0 i1 : Option sX} {tt : va_W} {ef : Nat → Int32} {ea : Nat → Nat → Int32} {eg : Nat → Int64} (hJ : rJ K f a g i0 i1 tt ef ea) {i : Int32} {ii : Nat} (hi : i.toInt = (ii : Int)) (hL : ii + 6 ≤ L) {c0 s0 : Nat} (hc0 : c0 + 21 ≤ 600000) (hs0 : s0 + 467 ≤ 7302250) {H : Heap} {locs : List Loc} (hP : va_P D vwCl (lWd K u f a g i0 i1 tt o r ef ea eg) H) (hD : va_D (fun q : Nat => s.heap.size ≤ q) (lWd K u f a g i0 i1 tt o r ef ea eg)) (hS : va_S (fun q : Nat => s.heap.size ≤ q) s.heap H locs) {ls : Array Slot} (hl : lv_has ls 4 [(3, .int i), (2, .ref o), (1, .ref (u 0)), (0, .ref b)]) (kk : ∀ (f : Nat → Int32) (a : Nat → Nat → Int32) (g : xG) (i0 i1 : Option sX) (tt : va_W) (ef : Nat → Int32) (ea : Nat → Nat → Int32) (eg : Nat → Int64) (H : Heap) (locs : List Loc), rJ K f a g i0 i1 tt ef ea → va_P D vwCl (lWd K u f a g i0 i1 tt o r ef ea eg) H → va_D (fun q : Nat => s.heap.size ≤ q) (lWd K u f a g i0 i1 tt o r ef ea eg) → va_S (fun q : Nat => s.heap.size ≤ q) s.heap H locs → W p l e room_1 s m #[Value.ref b] below meth c H locs (c0 + 21) (s0 + 467) (lw_Z below #[Value.ref b] s) (F0 m 1127 ls [])) : W p l e room_1 s m #[Value.ref b] below meth c H locs c0 s0 (lw_Z below #[Value.ref b] s) (F0 m 611 ls []) := by
  obtain ⟨hx, hb, hr, hml, hown, hts, hX, hbl, hlocks, hgv⟩ := id C0
  have hA : ∀ q : Nat, s.heap.size ≤ q → (fun q : Nat => s.heap.size ≤ q) q := fun _ h => h
  have hbA : ¬ (fun q : Nat => s.heap.size ≤ q) b := Nat.not_le.mpr hbl
  have hg : ∀ w ∈ kG, w.before #[Value.ref b] s = true := fun w h => hts w (kG_in w h)
  have hown : s.vm.findClass RL = some m.cls := hown
  obtain ⟨hI, hG, hi0, hi1, hg0, hg1, hM, hR, hIm, hTp, hCh, hFl, hSp, hSt, hRf, hSl, hJ0, hJ1⟩ := hJ
  obtain ⟨DD, P, hSV, hkk, h22, hLM, hLC, hXP, hMP, hPO⟩ := id hSl
  refine lv_aload_n hx hb dL_law_611 rfl (lv_at hl 2 rfl) ?_
  refine lv_aload_n hx hb dL_law_612 rfl (lv_at hl 3 rfl) ?_
  refine lv_iload_n hx hb dL_law_613 rfl (lv_at hl 0 rfl) ?_
  refine lv_iconst (v := 1) hx hb dL_law_614 (by decide) ?_
  refine lv_iadd hx hb dL_law_615 ?_
  refine va_sld hx hb hX hbl hbA hS (ix_in hi hL hL2 (kn := 1) (by decide +kernel) (by decide)) dL_law_616 ?_
  refine lv_topi (fun y1 ey1 => ?_)
  refine kIG.callX (As := [.int y1]) (rest := []) ⟨hx, hb, hml, hown, hg⟩ (z_stands l u f a g (iW K i0 ++ (iW K i1 ++ tt)) tt mem_rr hI hG y1 (ea 2) hSV hkk ) (cwV 1 hg (kgV wt4_160 wt4_161 wt4_162 wt1_1 wt4_163) rfl rfl rfl (by decide +kernel) ⟨by decide, by decide⟩) hV hK hP hD hS hA 0 11 rfl rfl rfl hl.1 rfl (Nat.le_of_ble_eq_true rfl) dL_law_617 ⟨by show c0 + 0 ≤ 600000; omega, by show s0 + 0 ≤ 7302250; omega⟩ (fun v1 u1 H locs h1 hP hD hS => ?_)
  have hI1 := hI
  have hG1 := hG
  have hj0 := hi0
  have hj1 := hi1
  have hq0 := hg0
  have hq1 := hg1
  have hP : va_P D vwCl (lWd K u f a g i0 i1 tt o r ef ea eg) H := hP
  have hD : va_D (fun q : Nat => s.heap.size ≤ q) (lWd K u f a g i0 i1 tt o r ef ea eg) := hD
  refine lv_pop hx hb dL_law_620 rfl ?_
  refine lv_aload_n hx hb dL_law_621 rfl (lv_at hl 1 rfl) ?_
  refine lv_aload_n hx hb dL_law_622 rfl (lv_at hl 3 rfl) ?_
  refine lv_iload_n hx hb dL_law_623 rfl (lv_at hl 0 rfl) ?_
  refine lv_iconst (v := 1) hx hb dL_law_624 (by decide) ?_
  refine lv_iadd hx hb dL_law_625 ?_
  refine va_sld hx hb hX hbl hbA hS (ix_in hi hL hL2 (kn := 1) (by decide +kernel) (by decide)) dL_law_626 ?_
  refine k_top (z := y1) ey1.symm ?_
  refine kI.callM (As := [.int y1]) (rest := []) ⟨hx, hb, hml, hown, hg⟩ (n_stands l o r ef ea eg hM y1 hkk) (cwV 1 hg (kgV wt7_108 wt7_109 wt7_110 wt1_14 wt7_111) rfl rfl rfl (by decide +kernel) ⟨by decide, by decide⟩) hK hP hD hS hA 0 12 rfl rfl rfl hl.1 rfl (Nat.le_of_ble_eq_true rfl) dL_law_627 ⟨by show c0 + 0 + 0 ≤ 600000; omega, by show s0 + 0 + 0 ≤ 7302250; omega⟩ (fun v2 u2 H locs h2 hP hD hS => ?_)
  have hM2 := hM
  have hP : va_P D vwCl (lWd K u f a g i0 i1 tt o r ef ea eg) H := hP
  have hD : va_D (fun q : Nat => s.heap.size ≤ q) (lWd K u f a g i0 i1 tt o r ef ea eg) := hD
  have hRn : f 12 = ef 13 := (rfl : f 12 = f 12).trans (hR.trans (rfl : ef 13 = ef 13).symm)
  have hImn : xIm i0 i1 (ea 4) := (by rw [(rfl : ea 4 = ea 4)]; exact hIm)
  have hTpn : xTq (a 93) (ea 11) := xTq_k hTp (rfl : a 93 = a 93) (rfl : ea 11 = ea 11)
  have hChn : f 14 = ef 6 := (rfl : f 14 = f 14).trans (hCh.trans (rfl : ef 6 = ef 6).symm)
  have hFln : f 13 = ef 14 := (rfl : f 13 = f 13).trans (hFl.trans (rfl : ef 14 = ef 14).symm)
  have hSpn : f 15 = ef 37 := (rfl : f 15 = f 15).trans (hSp.trans (rfl : ef 37 = ef 37).symm)
  have hStn : f 16 = ef 0 := (rfl : f 16 = f 16).trans (hSt.trans (rfl : ef 0 = ef 0).symm)
  have hRfn : rfE (a 94) (ea 1) := (by rw [show a 94 = a 94 from (rfl : a 94 = a 94), (rfl : ea 1 = ea 1)]; exact hRf)
  have hSln : rlS K tt f a (g.2 15) ef ea := rlS_k hSl ⟨rfl, rfl, rfl, rfl, rfl, rfl, rfl⟩ ⟨rfl, fun _ _ => rfl⟩ rfl (rfl : ea 2 = ea 2) (rfl : ef 33 = ef 33) (rfl : ea 31 = ea 31)
  have hJ0n : rlI K tt i0 (imK (ea 3) 0) := (by rw [(rfl : ea 3 = ea 3)]; exact hJ0)
  have hJ1n : rlI K tt i1 (imK (ea 3) 1) := (by rw [(rfl : ea 3 = ea 3)]; exact hJ1)
  refine lv_pop hx hb dL_law_630 rfl ?_
  refine lv_goto (tgt := 1127) hx hb dL_law_631 (by decide) ?_
  refine W.widen (k := c0 + 21) (n := s0 + 467) (by show c0 + 0 + 0 ≤ c0 + 21; omega) (by show s0 + 0 + 0 ≤ s0 + 467; omega) ?_
  exact kk _ _ _ _ _ _ _ _ _ _ _ ⟨hI1, hG1, hj0, hj1, hq0, hq1, hM2, hRn, hImn, hTpn, hChn, hFln, hSpn, hStn, hRfn, hSln, hJ0n, hJ1n⟩ hP hD hS
set_option maxHeartbeats 4000000 in
set_option maxRecDepth 100000 in
theorem law_send {p : Program} {e : Env} {s : State} {m : MethodId} {below : List Frame} {meth : Method} {c : Code} (l : Launch) {b L : Nat} {xs : Nat → Int32} (C0 : lw_At p s m meth c b L xs) (hL2 : L ≤ 3072) {D : va_G} {K : Nat → ClassId} (hK : va_K D vwCl (tysK K) s) (hV : xE K (fun q : Nat => s.heap.size ≤ q) s s.heap) {u : Nat → Nat} {o : Nat} {r : Nat → Nat} {f : Nat → Int32} {a : Nat → Nat → Int32} {g : xG} {i0 i1 : Option sX} {tt : va_W} {ef : Nat → Int32} {ea : Nat → Nat → Int32} {eg : Nat → Int64} (hJ : rJ K f a g i0 i1 tt ef ea) {i : Int32} {ii : Nat} (hi : i.toInt = (ii : Int)) (hL : ii + 6 ≤ L) {c0 s0 : Nat} (hc0 : c0 + 21 ≤ 600000) (hs0 : s0 + 467 ≤ 7302250) {H : Heap} {locs : List Loc} (hP : va_P D vwCl (lWd K u f a g i0 i1 tt o r ef ea eg) H) (hD : va_D (fun q : Nat => s.heap.size ≤ q) (lWd K u f a g i0 i1 tt o r ef ea eg)) (hS : va_S (fun q : Nat => s.heap.size ≤ q) s.heap H locs) {ls : Array Slot} (hl : lv_has ls 4 [(3, .int i), (2, .ref o), (1, .ref (u 0)), (0, .ref b)]) (kk : ∀ (f : Nat → Int32) (a : Nat → Nat → Int32) (g : xG) (i0 i1 : Option sX) (tt : va_W) (ef : Nat → Int32) (ea : Nat → Nat → Int32) (eg : Nat → Int64) (H : Heap) (locs : List Loc), rJ K f a g i0 i1 tt ef ea → va_P D vwCl (lWd K u f a g i0 i1 tt o r ef ea eg) H → va_D (fun q : Nat => s.heap.size ≤ q) (lWd K u f a g i0 i1 tt o r ef ea eg) → va_S (fun q : Nat => s.heap.size ≤ q) s.heap H locs → W p l e room_1 s m #[Value.ref b] below meth c H locs (c0 + 21) (s0 + 467) (lw_Z below #[Value.ref b] s) (F0 m 1127 ls [])) : W p l e room_1 s m #[Value.ref b] below meth c H locs c0 s0 (lw_Z below #[Value.ref b] s) (F0 m 634 ls []) := by
  obtain ⟨hx, hb, hr, hml, hown, hts, hX, hbl, hlocks, hgv⟩ := id C0
  have hA : ∀ q : Nat, s.heap.size ≤ q → (fun q : Nat => s.heap.size ≤ q) q := fun _ h => h
  have hbA : ¬ (fun q : Nat => s.heap.size ≤ q) b := Nat.not_le.mpr hbl
  have hg : ∀ w ∈ kG, w.before #[Value.ref b] s = true := fun w h => hts w (kG_in w h)
  have hown : s.vm.findClass RL = some m.cls := hown
  obtain ⟨hI, hG, hi0, hi1, hg0, hg1, hM, hR, hIm, hTp, hCh, hFl, hSp, hSt, hRf, hSl, hJ0, hJ1⟩ := hJ
  obtain ⟨DD, P, hSV, hkk, h22, hLM, hLC, hXP, hMP, hPO⟩ := id hSl
  refine lv_aload_n hx hb dL_law_634 rfl (lv_at hl 2 rfl) ?_
  refine lv_aload_n hx hb dL_law_635 rfl (lv_at hl 3 rfl) ?_
  refine lv_iload_n hx hb dL_law_636 rfl (lv_at hl 0 rfl) ?_
  refine lv_iconst (v := 1) hx hb dL_law_637 (by decide) ?_
  refine lv_iadd hx hb dL_law_638 ?_
  refine va_sld hx hb hX hbl hbA hS (ix_in hi hL hL2 (kn := 1) (by decide +kernel) (by decide)) dL_law_639 ?_
  refine lv_topi (fun y1 ey1 => ?_)
  refine lv_aload_n hx hb dL_law_640 rfl (lv_at hl 3 rfl) ?_
  refine lv_iload_n hx hb dL_law_641 rfl (lv_at hl 0 rfl) ?_
  refine lv_iconst (v := 2) hx hb dL_law_642 (by decide) ?_
  refine lv_iadd hx hb dL_law_643 ?_
  refine va_sld hx hb hX hbl hbA hS (ix_in hi hL hL2 (kn := 2) (by decide +kernel) (by decide)) dL_law_644 ?_
  refine lv_topi (fun y2 ey2 => ?_)
  refine kIG.callX (As := [.int y1, .int y2]) (rest := []) ⟨hx, hb, hml, hown, hg⟩ (z_send l u f a g (iW K i0 ++ (iW K i1 ++ tt)) tt mem_rr hI hG y1 y2 (ea 2) hSV hkk DD hLC P hXP) (cwV 2 hg (kgV wt4_165 wt4_166 wt4_167 wt1_1 wt4_168) rfl rfl rfl (by decide +kernel) ⟨by decide, by decide⟩) hV hK hP hD hS hA 0 11 rfl rfl rfl hl.1 rfl (Nat.le_of_ble_eq_true rfl) dL_law_645 ⟨by show c0 + 0 ≤ 600000; omega, by show s0 + 0 ≤ 7302250; omega⟩ (fun v1 u1 H locs h1 hP hD hS => ?_)
  obtain ⟨f1, a1, g1⟩ := u1
  have hI1 : xI f1 a1 := h1.2.1
  have hG1 : gOK K g1.2 tt := h1.2.2.1
  have hE1 : xEk ([16, 704, 705, 2565, 2566, 2786], [10, 23, 81, 94], []) f a g f1 a1 g1 := h1.2.2.2.1
  have hj0 := hi0
  have hj1 := hi1
  have hq0 : g1.2 92 0 = iA i0 := by rw [show g1.2 92 = g.2 92 from hE1.2.2 92 rfl]; exact hg0
  have hq1 : g1.2 92 1 = iA i1 := by rw [show g1.2 92 = g.2 92 from hE1.2.2 92 rfl]; exact hg1
  have hP : va_P D vwCl (lWd K u f1 a1 g1 i0 i1 tt o r ef ea eg) H := hP
  have hD : va_D (fun q : Nat => s.heap.size ≤ q) (lWd K u f1 a1 g1 i0 i1 tt o r ef ea eg) := hD
  refine lv_pop hx hb dL_law_648 rfl ?_
  refine lv_aload_n hx hb dL_law_649 rfl (lv_at hl 1 rfl) ?_
  refine lv_aload_n hx hb dL_law_650 rfl (lv_at hl 3 rfl) ?_
  refine lv_iload_n hx hb dL_law_651 rfl (lv_at hl 0 rfl) ?_
  refine lv_iconst (v := 1) hx hb dL_law_652 (by decide) ?_
  refine lv_iadd hx hb dL_law_653 ?_
  refine va_sld hx hb hX hbl hbA hS (ix_in hi hL hL2 (kn := 1) (by decide +kernel) (by decide)) dL_law_654 ?_
  refine k_top (z := y1) ey1.symm ?_
  refine lv_aload_n hx hb dL_law_655 rfl (lv_at hl 3 rfl) ?_
  refine lv_iload_n hx hb dL_law_656 rfl (lv_at hl 0 rfl) ?_
  refine lv_iconst (v := 2) hx hb dL_law_657 (by decide) ?_
  refine lv_iadd hx hb dL_law_658 ?_
  refine va_sld hx hb hX hbl hbA hS (ix_in hi hL hL2 (kn := 2) (by decide +kernel) (by decide)) dL_law_659 ?_
  refine k_top (z := y2) ey2.symm ?_
  refine kI.callM (As := [.int y1, .int y2]) (rest := []) ⟨hx, hb, hml, hown, hg⟩ (n_send l o r ef ea eg hM y1 y2 DD P hkk hLM hMP) (cwV 2 hg (kgV wt7_116 wt7_117 wt7_118 wt1_14 wt7_119) rfl rfl rfl (by decide +kernel) ⟨by decide, by decide⟩) hK hP hD hS hA 0 12 rfl rfl rfl hl.1 rfl (Nat.le_of_ble_eq_true rfl) dL_law_660 ⟨by show c0 + 0 + 0 ≤ 600000; omega, by show s0 + 0 + 0 ≤ 7302250; omega⟩ (fun v2 u2 H locs h2 hP hD hS => ?_)
  obtain ⟨ef2, ea2, eg2⟩ := u2
  have hM2 : mI ef2 ea2 := (h2.2.1)
  have hP : va_P D vwCl (lWd K u f1 a1 g1 i0 i1 tt o r ef2 ea2 eg2) H := hP
  have hD : va_D (fun q : Nat => s.heap.size ≤ q) (lWd K u f1 a1 g1 i0 i1 tt o r ef2 ea2 eg2) := hD
  have hm : mTp v2 ef2 ea2 (ea 1) (sndF DD (ea 2) P y1 y2) (decide ((sndF DD (ea 2) P y1 y2).1 < 0)) := (h2.2.2.2.1)
  have hx1 : xTp 32 2 v1 f1 a1 (a 94) (sndF DD (ea 2) P y1 y2) (kBn (ea 2)) (decide ((sndF DD (ea 2) P y1 y2).1 < 0)) := (h1.2.2.2.2)
  have hq := dd_st hx1 hm hRf
  have hRn : f1 12 = ef2 13 := (hE1.1 12 rfl).trans (hR.trans (show ef2 13 = ef 13 from (h2.2.2.2.2).1 13 rfl).symm)
  have hImn : xIm i0 i1 (ea2 4) := (by rw [(show ea2 4 = ea 4 from (h2.2.2.2.2).2 4 rfl)]; exact hIm)
  have hTpn : xTq (a1 93) (ea2 11) := xTq_k hTp (hE1.2.1 93 rfl) (show ea2 11 = ea 11 from (h2.2.2.2.2).2 11 rfl)
  have hChn : f1 14 = ef2 6 := (hE1.1 14 rfl).trans (hCh.trans (show ef2 6 = ef 6 from (h2.2.2.2.2).1 6 rfl).symm)
  have hFln : f1 13 = ef2 14 := (hE1.1 13 rfl).trans (hFl.trans (show ef2 14 = ef 14 from (h2.2.2.2.2).1 14 rfl).symm)
  have hSpn : f1 15 = ef2 37 := (hE1.1 15 rfl).trans (hSp.trans (show ef2 37 = ef 37 from (h2.2.2.2.2).1 37 rfl).symm)
  have hStn : f1 16 = ef2 0 := hq.2.1
  have hRfn : rfE (a1 94) (ea2 1) := hq.2.2
  have hSln : rlS K tt f1 a1 (g1.2 15) ef2 ea2 := rlS_d (sndF_p hkk h22 hPO) hx1.1 hm.1 hkk hLM hLC (hE1.2.2 15 rfl)
  have hJ0n : rlI K tt i0 (imK (ea2 3) 0) := (by rw [(show ea2 3 = ea 3 from (h2.2.2.2.2).2 3 rfl)]; exact hJ0)
  have hJ1n : rlI K tt i1 (imK (ea2 3) 1) := (by rw [(show ea2 3 = ea 3 from (h2.2.2.2.2).2 3 rfl)]; exact hJ1)
  refine lv_pop hx hb dL_law_663 rfl ?_
  refine lv_goto (tgt := 1127) hx hb dL_law_664 (by decide) ?_
  refine W.widen (k := c0 + 21) (n := s0 + 467) (by show c0 + 0 + 0 ≤ c0 + 21; omega) (by show s0 + 0 + 0 ≤ s0 + 467; omega) ?_
  exact kk _ _ _ _ _ _ _ _ _ _ _ ⟨hI1, hG1, hj0, hj1, hq0, hq1, hM2, hRn, hImn, hTpn, hChn, hFln, hSpn, hStn, hRfn, hSln, hJ0n, hJ1n⟩ hP hD hS
set_option maxHeartbeats 4000000 in
set_option maxRecDepth 100000 in
theorem law_rest {p : Program} {e : Env} {s : State} {m : MethodId} {below : List Frame} {meth : Method} {c : Code} (l : Launch) {b L : Nat} {xs : Nat → Int32} (C0 : lw_At p s m meth c b L xs) (hL2 : L ≤ 3072) {D : va_G} {K : Nat → ClassId} (hK : va_K D vwCl (tysK K) s) (hV : xE K (fun q : Nat => s.heap.size ≤ q) s s.heap) {u : Nat → Nat} {o : Nat} {r : Nat → Nat} {f : Nat → Int32} {a : Nat → Nat → Int32} {g : xG} {i0 i1 : Option sX} {tt : va_W} {ef : Nat → Int32} {ea : Nat → Nat → Int32} {eg : Nat → Int64} (hJ : rJ K f a g i0 i1 tt ef ea) {i : Int32} {ii : Nat} (hi : i.toInt = (ii : Int)) (hL : ii + 6 ≤ L) {c0 s0 : Nat} (hc0 : c0 + 21 ≤ 600000) (hs0 : s0 + 467 ≤ 7302250) {H : Heap} {locs : List Loc} (hP : va_P D vwCl (lWd K u f a g i0 i1 tt o r ef ea eg) H) (hD : va_D (fun q : Nat => s.heap.size ≤ q) (lWd K u f a g i0 i1 tt o r ef ea eg)) (hS : va_S (fun q : Nat => s.heap.size ≤ q) s.heap H locs) {ls : Array Slot} (hl : lv_has ls 4 [(3, .int i), (2, .ref o), (1, .ref (u 0)), (0, .ref b)]) (kk : ∀ (f : Nat → Int32) (a : Nat → Nat → Int32) (g : xG) (i0 i1 : Option sX) (tt : va_W) (ef : Nat → Int32) (ea : Nat → Nat → Int32) (eg : Nat → Int64) (H : Heap) (locs : List Loc), rJ K f a g i0 i1 tt ef ea → va_P D vwCl (lWd K u f a g i0 i1 tt o r ef ea eg) H → va_D (fun q : Nat => s.heap.size ≤ q) (lWd K u f a g i0 i1 tt o r ef ea eg) → va_S (fun q : Nat => s.heap.size ≤ q) s.heap H locs → W p l e room_1 s m #[Value.ref b] below meth c H locs (c0 + 21) (s0 + 467) (lw_Z below #[Value.ref b] s) (F0 m 1127 ls [])) : W p l e room_1 s m #[Value.ref b] below meth c H locs c0 s0 (lw_Z below #[Value.ref b] s) (F0 m 667 ls []) := by
  obtain ⟨hx, hb, hr, hml, hown, hts, hX, hbl, hlocks, hgv⟩ := id C0
  have hA : ∀ q : Nat, s.heap.size ≤ q → (fun q : Nat => s.heap.size ≤ q) q := fun _ h => h
  have hbA : ¬ (fun q : Nat => s.heap.size ≤ q) b := Nat.not_le.mpr hbl
  have hg : ∀ w ∈ kG, w.before #[Value.ref b] s = true := fun w h => hts w (kG_in w h)
  have hown : s.vm.findClass RL = some m.cls := hown
  obtain ⟨hI, hG, hi0, hi1, hg0, hg1, hM, hR, hIm, hTp, hCh, hFl, hSp, hSt, hRf, hSl, hJ0, hJ1⟩ := hJ
  obtain ⟨DD, P, hSV, hkk, h22, hLM, hLC, hXP, hMP, hPO⟩ := id hSl
  refine lv_aload_n hx hb dL_law_667 rfl (lv_at hl 2 rfl) ?_
  refine lv_aload_n hx hb dL_law_668 rfl (lv_at hl 3 rfl) ?_
  refine lv_iload_n hx hb dL_law_669 rfl (lv_at hl 0 rfl) ?_
  refine lv_iconst (v := 1) hx hb dL_law_670 (by decide) ?_
  refine lv_iadd hx hb dL_law_671 ?_
  refine va_sld hx hb hX hbl hbA hS (ix_in hi hL hL2 (kn := 1) (by decide +kernel) (by decide)) dL_law_672 ?_
  refine lv_topi (fun y1 ey1 => ?_)
  refine kIG.callX (As := [.int y1]) (rest := []) ⟨hx, hb, hml, hown, hg⟩ (z_rest l u f a g (iW K i0 ++ (iW K i1 ++ tt)) tt mem_rr hI hG y1 (ea 2) hSV hkk P hXP) (cwV 1 hg (kgV wt4_174 wt4_175 wt4_176 wt1_1 wt4_177) rfl rfl rfl (by decide +kernel) ⟨by decide, by decide⟩) hV hK hP hD hS hA 0 11 rfl rfl rfl hl.1 rfl (Nat.le_of_ble_eq_true rfl) dL_law_673 ⟨by show c0 + 0 ≤ 600000; omega, by show s0 + 0 ≤ 7302250; omega⟩ (fun v1 u1 H locs h1 hP hD hS => ?_)
  obtain ⟨f1, a1, g1⟩ := u1
  have hI1 : xI f1 a1 := h1.2.1
  have hG1 : gOK K g1.2 tt := h1.2.2.1
  have hE1 : xEk ([16, 704, 705, 2565, 2566, 2786], [10, 23, 81, 94], []) f a g f1 a1 g1 := h1.2.2.2.1
  have hj0 := hi0
  have hj1 := hi1
  have hq0 : g1.2 92 0 = iA i0 := by rw [show g1.2 92 = g.2 92 from hE1.2.2 92 rfl]; exact hg0
  have hq1 : g1.2 92 1 = iA i1 := by rw [show g1.2 92 = g.2 92 from hE1.2.2 92 rfl]; exact hg1
  have hP : va_P D vwCl (lWd K u f1 a1 g1 i0 i1 tt o r ef ea eg) H := hP
  have hD : va_D (fun q : Nat => s.heap.size ≤ q) (lWd K u f1 a1 g1 i0 i1 tt o r ef ea eg) := hD
  refine lv_pop hx hb dL_law_676 rfl ?_
  refine lv_aload_n hx hb dL_law_677 rfl (lv_at hl 1 rfl) ?_
  refine lv_aload_n hx hb dL_law_678 rfl (lv_at hl 3 rfl) ?_
  refine lv_iload_n hx hb dL_law_679 rfl (lv_at hl 0 rfl) ?_
  refine lv_iconst (v := 1) hx hb dL_law_680 (by decide) ?_
  refine lv_iadd hx hb dL_law_681 ?_
  refine va_sld hx hb hX hbl hbA hS (ix_in hi hL hL2 (kn := 1) (by decide +kernel) (by decide)) dL_law_682 ?_
  refine k_top (z := y1) ey1.symm ?_
  refine kI.callM (As := [.int y1]) (rest := []) ⟨hx, hb, hml, hown, hg⟩ (n_rest l o r ef ea eg hM y1 P hMP) (cwV 1 hg (kgV wt7_132 wt7_133 wt7_134 wt1_14 wt7_135) rfl rfl rfl (by decide +kernel) ⟨by decide, by decide⟩) hK hP hD hS hA 0 12 rfl rfl rfl hl.1 rfl (Nat.le_of_ble_eq_true rfl) dL_law_683 ⟨by show c0 + 0 + 0 ≤ 600000; omega, by show s0 + 0 + 0 ≤ 7302250; omega⟩ (fun v2 u2 H locs h2 hP hD hS => ?_)
  obtain ⟨ef2, ea2, eg2⟩ := u2
  have hM2 : mI ef2 ea2 := (h2.2.1)
  have hP : va_P D vwCl (lWd K u f1 a1 g1 i0 i1 tt o r ef2 ea2 eg2) H := hP
  have hD : va_D (fun q : Nat => s.heap.size ≤ q) (lWd K u f1 a1 g1 i0 i1 tt o r ef2 ea2 eg2) := hD
  have hm : mTp v2 ef2 ea2 (ea 1) (rstF (ea 2) P y1) (decide ((rstF (ea 2) P y1).1 < 0)) := (h2.2.2.2.1)
  have hx1 : xTp 32 2 v1 f1 a1 (a 94) (rstF (ea 2) P y1) (kBn (ea 2)) (decide ((rstF (ea 2) P y1).1 < 0)) := (h1.2.2.2.2)
  have hq := dd_st hx1 hm hRf
  have hRn : f1 12 = ef2 13 := (hE1.1 12 rfl).trans (hR.trans (show ef2 13 = ef 13 from (h2.2.2.2.2).1 13 rfl).symm)
  have hImn : xIm i0 i1 (ea2 4) := (by rw [(show ea2 4 = ea 4 from (h2.2.2.2.2).2 4 rfl)]; exact hIm)
  have hTpn : xTq (a1 93) (ea2 11) := xTq_k hTp (hE1.2.1 93 rfl) (show ea2 11 = ea 11 from (h2.2.2.2.2).2 11 rfl)
  have hChn : f1 14 = ef2 6 := (hE1.1 14 rfl).trans (hCh.trans (show ef2 6 = ef 6 from (h2.2.2.2.2).1 6 rfl).symm)
  have hFln : f1 13 = ef2 14 := (hE1.1 13 rfl).trans (hFl.trans (show ef2 14 = ef 14 from (h2.2.2.2.2).1 14 rfl).symm)
  have hSpn : f1 15 = ef2 37 := (hE1.1 15 rfl).trans (hSp.trans (show ef2 37 = ef 37 from (h2.2.2.2.2).1 37 rfl).symm)
  have hStn : f1 16 = ef2 0 := hq.2.1
  have hRfn : rfE (a1 94) (ea2 1) := hq.2.2
  have hSln : rlS K tt f1 a1 (g1.2 15) ef2 ea2 := rlS_d (rstF_p hkk h22 hPO) hx1.1 hm.1 hkk hLM hLC (hE1.2.2 15 rfl)
  have hJ0n : rlI K tt i0 (imK (ea2 3) 0) := (by rw [(show ea2 3 = ea 3 from (h2.2.2.2.2).2 3 rfl)]; exact hJ0)
  have hJ1n : rlI K tt i1 (imK (ea2 3) 1) := (by rw [(show ea2 3 = ea 3 from (h2.2.2.2.2).2 3 rfl)]; exact hJ1)
  refine lv_pop hx hb dL_law_686 rfl ?_
  refine lv_goto (tgt := 1127) hx hb dL_law_687 (by decide) ?_
  refine W.widen (k := c0 + 21) (n := s0 + 467) (by show c0 + 0 + 0 ≤ c0 + 21; omega) (by show s0 + 0 + 0 ≤ s0 + 467; omega) ?_
  exact kk _ _ _ _ _ _ _ _ _ _ _ ⟨hI1, hG1, hj0, hj1, hq0, hq1, hM2, hRn, hImn, hTpn, hChn, hFln, hSpn, hStn, hRfn, hSln, hJ0n, hJ1n⟩ hP hD hS
set_option maxHeartbeats 4000000 in
set_option maxRecDepth 100000 in
theorem law_throwDown {p : Program} {e : Env} {s : State} {m : MethodId} {below : List Frame} {meth : Method} {c : Code} (l : Launch) {b L : Nat} {xs : Nat → Int32} (C0 : lw_At p s m meth c b L xs) (hL2 : L ≤ 3072) {D : va_G} {K : Nat → ClassId} (hK : va_K D vwCl (tysK K) s) (hV : xE K (fun q : Nat => s.heap.size ≤ q) s s.heap) {u : Nat → Nat} {o : Nat} {r : Nat → Nat} {f : Nat → Int32} {a : Nat → Nat → Int32} {g : xG} {i0 i1 : Option sX} {tt : va_W} {ef : Nat → Int32} {ea : Nat → Nat → Int32} {eg : Nat → Int64} (hJ : rJ K f a g i0 i1 tt ef ea) {i : Int32} {ii : Nat} (hi : i.toInt = (ii : Int)) (hL : ii + 6 ≤ L) {c0 s0 : Nat} (hc0 : c0 + 21 ≤ 600000) (hs0 : s0 + 467 ≤ 7302250) {H : Heap} {locs : List Loc} (hP : va_P D vwCl (lWd K u f a g i0 i1 tt o r ef ea eg) H) (hD : va_D (fun q : Nat => s.heap.size ≤ q) (lWd K u f a g i0 i1 tt o r ef ea eg)) (hS : va_S (fun q : Nat => s.heap.size ≤ q) s.heap H locs) {ls : Array Slot} (hl : lv_has ls 4 [(3, .int i), (2, .ref o), (1, .ref (u 0)), (0, .ref b)]) (kk : ∀ (f : Nat → Int32) (a : Nat → Nat → Int32) (g : xG) (i0 i1 : Option sX) (tt : va_W) (ef : Nat → Int32) (ea : Nat → Nat → Int32) (eg : Nat → Int64) (H : Heap) (locs : List Loc), rJ K f a g i0 i1 tt ef ea → va_P D vwCl (lWd K u f a g i0 i1 tt o r ef ea eg) H → va_D (fun q : Nat => s.heap.size ≤ q) (lWd K u f a g i0 i1 tt o r ef ea eg) → va_S (fun q : Nat => s.heap.size ≤ q) s.heap H locs → W p l e room_1 s m #[Value.ref b] below meth c H locs (c0 + 21) (s0 + 467) (lw_Z below #[Value.ref b] s) (F0 m 1127 ls [])) : W p l e room_1 s m #[Value.ref b] below meth c H locs c0 s0 (lw_Z below #[Value.ref b] s) (F0 m 690 ls []) := by
  obtain ⟨hx, hb, hr, hml, hown, hts, hX, hbl, hlocks, hgv⟩ := id C0
  have hA : ∀ q : Nat, s.heap.size ≤ q → (fun q : Nat => s.heap.size ≤ q) q := fun _ h => h
  have hbA : ¬ (fun q : Nat => s.heap.size ≤ q) b := Nat.not_le.mpr hbl
  have hg : ∀ w ∈ kG, w.before #[Value.ref b] s = true := fun w h => hts w (kG_in w h)
  have hown : s.vm.findClass RL = some m.cls := hown
  obtain ⟨hI, hG, hi0, hi1, hg0, hg1, hM, hR, hIm, hTp, hCh, hFl, hSp, hSt, hRf, hSl, hJ0, hJ1⟩ := hJ
  obtain ⟨DD, P, hSV, hkk, h22, hLM, hLC, hXP, hMP, hPO⟩ := id hSl
  refine lv_aload_n hx hb dL_law_690 rfl (lv_at hl 2 rfl) ?_
  refine lv_aload_n hx hb dL_law_691 rfl (lv_at hl 3 rfl) ?_
  refine lv_iload_n hx hb dL_law_692 rfl (lv_at hl 0 rfl) ?_
  refine lv_iconst (v := 1) hx hb dL_law_693 (by decide) ?_
  refine lv_iadd hx hb dL_law_694 ?_
  refine va_sld hx hb hX hbl hbA hS (ix_in hi hL hL2 (kn := 1) (by decide +kernel) (by decide)) dL_law_695 ?_
  refine lv_topi (fun y1 ey1 => ?_)
  refine kIG.callX (As := [.int y1]) (rest := []) ⟨hx, hb, hml, hown, hg⟩ (z_throwDown l u f a g (iW K i0 ++ (iW K i1 ++ tt)) tt mem_rr hI hG y1 (ea 2) hSV hkk P hXP) (cwV 1 hg (kgV wt4_179 wt4_180 wt4_181 wt1_1 wt4_182) rfl rfl rfl (by decide +kernel) ⟨by decide, by decide⟩) hV hK hP hD hS hA 0 11 rfl rfl rfl hl.1 rfl (Nat.le_of_ble_eq_true rfl) dL_law_696 ⟨by show c0 + 0 ≤ 600000; omega, by show s0 + 0 ≤ 7302250; omega⟩ (fun v1 u1 H locs h1 hP hD hS => ?_)
  obtain ⟨f1, a1, g1⟩ := u1
  have hI1 : xI f1 a1 := h1.2.1
  have hG1 : gOK K g1.2 tt := h1.2.2.1
  have hE1 : xEk ([16, 704, 705, 2565, 2566, 2786], [6, 23, 81, 94], []) f a g f1 a1 g1 := h1.2.2.2.1
  have hj0 := hi0
  have hj1 := hi1
  have hq0 : g1.2 92 0 = iA i0 := by rw [show g1.2 92 = g.2 92 from hE1.2.2 92 rfl]; exact hg0
  have hq1 : g1.2 92 1 = iA i1 := by rw [show g1.2 92 = g.2 92 from hE1.2.2 92 rfl]; exact hg1
  have hP : va_P D vwCl (lWd K u f1 a1 g1 i0 i1 tt o r ef ea eg) H := hP
  have hD : va_D (fun q : Nat => s.heap.size ≤ q) (lWd K u f1 a1 g1 i0 i1 tt o r ef ea eg) := hD
  refine lv_pop hx hb dL_law_699 rfl ?_
  refine lv_aload_n hx hb dL_law_700 rfl (lv_at hl 1 rfl) ?_
  refine lv_aload_n hx hb dL_law_701 rfl (lv_at hl 3 rfl) ?_
  refine lv_iload_n hx hb dL_law_702 rfl (lv_at hl 0 rfl) ?_
  refine lv_iconst (v := 1) hx hb dL_law_703 (by decide) ?_
  refine lv_iadd hx hb dL_law_704 ?_
  refine va_sld hx hb hX hbl hbA hS (ix_in hi hL hL2 (kn := 1) (by decide +kernel) (by decide)) dL_law_705 ?_
  refine k_top (z := y1) ey1.symm ?_
  refine kI.callM (As := [.int y1]) (rest := []) ⟨hx, hb, hml, hown, hg⟩ (n_throwDown l o r ef ea eg hM y1 P hkk hMP) (cwV 1 hg (kgV wt7_140 wt7_141 wt7_142 wt1_14 wt7_143) rfl rfl rfl (by decide +kernel) ⟨by decide, by decide⟩) hK hP hD hS hA 0 12 rfl rfl rfl hl.1 rfl (Nat.le_of_ble_eq_true rfl) dL_law_706 ⟨by show c0 + 0 + 0 ≤ 600000; omega, by show s0 + 0 + 0 ≤ 7302250; omega⟩ (fun v2 u2 H locs h2 hP hD hS => ?_)
  obtain ⟨ef2, ea2, eg2⟩ := u2
  have hM2 : mI ef2 ea2 := (h2.2.1)
  have hP : va_P D vwCl (lWd K u f1 a1 g1 i0 i1 tt o r ef2 ea2 eg2) H := hP
  have hD : va_D (fun q : Nat => s.heap.size ≤ q) (lWd K u f1 a1 g1 i0 i1 tt o r ef2 ea2 eg2) := hD
  have hm : mTp v2 ef2 ea2 (ea 1) (thrF (ea 2) P y1) (decide ((thrF (ea 2) P y1).1 < 0)) := (h2.2.2.2.1)
  have hx1 : xTp 32 2 v1 f1 a1 (a 94) (thrF (ea 2) P y1) (kBn (ea 2)) (decide ((thrF (ea 2) P y1).1 < 0)) := (h1.2.2.2.2)
  have hq := dd_st hx1 hm hRf
  have hRn : f1 12 = ef2 13 := (hE1.1 12 rfl).trans (hR.trans (show ef2 13 = ef 13 from (h2.2.2.2.2).1 13 rfl).symm)
  have hImn : xIm i0 i1 (ea2 4) := (by rw [(show ea2 4 = ea 4 from (h2.2.2.2.2).2 4 rfl)]; exact hIm)
  have hTpn : xTq (a1 93) (ea2 11) := xTq_k hTp (hE1.2.1 93 rfl) (show ea2 11 = ea 11 from (h2.2.2.2.2).2 11 rfl)
  have hChn : f1 14 = ef2 6 := (hE1.1 14 rfl).trans (hCh.trans (show ef2 6 = ef 6 from (h2.2.2.2.2).1 6 rfl).symm)
  have hFln : f1 13 = ef2 14 := (hE1.1 13 rfl).trans (hFl.trans (show ef2 14 = ef 14 from (h2.2.2.2.2).1 14 rfl).symm)
  have hSpn : f1 15 = ef2 37 := (hE1.1 15 rfl).trans (hSp.trans (show ef2 37 = ef 37 from (h2.2.2.2.2).1 37 rfl).symm)
  have hStn : f1 16 = ef2 0 := hq.2.1
  have hRfn : rfE (a1 94) (ea2 1) := hq.2.2
  have hSln : rlS K tt f1 a1 (g1.2 15) ef2 ea2 := rlS_d (thrF_p hkk h22 hPO) hx1.1 hm.1 hkk hLM hLC (hE1.2.2 15 rfl)
  have hJ0n : rlI K tt i0 (imK (ea2 3) 0) := (by rw [(show ea2 3 = ea 3 from (h2.2.2.2.2).2 3 rfl)]; exact hJ0)
  have hJ1n : rlI K tt i1 (imK (ea2 3) 1) := (by rw [(show ea2 3 = ea 3 from (h2.2.2.2.2).2 3 rfl)]; exact hJ1)
  refine lv_pop hx hb dL_law_709 rfl ?_
  refine lv_goto (tgt := 1127) hx hb dL_law_710 (by decide) ?_
  refine W.widen (k := c0 + 21) (n := s0 + 467) (by show c0 + 0 + 0 ≤ c0 + 21; omega) (by show s0 + 0 + 0 ≤ s0 + 467; omega) ?_
  exact kk _ _ _ _ _ _ _ _ _ _ _ ⟨hI1, hG1, hj0, hj1, hq0, hq1, hM2, hRn, hImn, hTpn, hChn, hFln, hSpn, hStn, hRfn, hSln, hJ0n, hJ1n⟩ hP hD hS
set_option maxHeartbeats 4000000 in
set_option maxRecDepth 100000 in
theorem law_tick {p : Program} {e : Env} {s : State} {m : MethodId} {below : List Frame} {meth : Method} {c : Code} (l : Launch) {b L : Nat} {xs : Nat → Int32} (C0 : lw_At p s m meth c b L xs) (hL2 : L ≤ 3072) {D : va_G} {K : Nat → ClassId} (hK : va_K D vwCl (tysK K) s) (hV : xE K (fun q : Nat => s.heap.size ≤ q) s s.heap) {u : Nat → Nat} {o : Nat} {r : Nat → Nat} {f : Nat → Int32} {a : Nat → Nat → Int32} {g : xG} {i0 i1 : Option sX} {tt : va_W} {ef : Nat → Int32} {ea : Nat → Nat → Int32} {eg : Nat → Int64} (hJ : rJ K f a g i0 i1 tt ef ea) {i : Int32} {ii : Nat} (hi : i.toInt = (ii : Int)) (hL : ii + 6 ≤ L) {c0 s0 : Nat} (hc0 : c0 + 21 ≤ 600000) (hs0 : s0 + 467 ≤ 7302250) {H : Heap} {locs : List Loc} (hP : va_P D vwCl (lWd K u f a g i0 i1 tt o r ef ea eg) H) (hD : va_D (fun q : Nat => s.heap.size ≤ q) (lWd K u f a g i0 i1 tt o r ef ea eg)) (hS : va_S (fun q : Nat => s.heap.size ≤ q) s.heap H locs) {ls : Array Slot} (hl : lv_has ls 4 [(3, .int i), (2, .ref o), (1, .ref (u 0)), (0, .ref b)]) (kk : ∀ (f : Nat → Int32) (a : Nat → Nat → Int32) (g : xG) (i0 i1 : Option sX) (tt : va_W) (ef : Nat → Int32) (ea : Nat → Nat → Int32) (eg : Nat → Int64) (H : Heap) (locs : List Loc), rJ K f a g i0 i1 tt ef ea → va_P D vwCl (lWd K u f a g i0 i1 tt o r ef ea eg) H → va_D (fun q : Nat => s.heap.size ≤ q) (lWd K u f a g i0 i1 tt o r ef ea eg) → va_S (fun q : Nat => s.heap.size ≤ q) s.heap H locs → W p l e room_1 s m #[Value.ref b] below meth c H locs (c0 + 21) (s0 + 467) (lw_Z below #[Value.ref b] s) (F0 m 1127 ls [])) : W p l e room_1 s m #[Value.ref b] below meth c H locs c0 s0 (lw_Z below #[Value.ref b] s) (F0 m 713 ls []) := by
  obtain ⟨hx, hb, hr, hml, hown, hts, hX, hbl, hlocks, hgv⟩ := id C0
  have hA : ∀ q : Nat, s.heap.size ≤ q → (fun q : Nat => s.heap.size ≤ q) q := fun _ h => h
  have hbA : ¬ (fun q : Nat => s.heap.size ≤ q) b := Nat.not_le.mpr hbl
  have hg : ∀ w ∈ kG, w.before #[Value.ref b] s = true := fun w h => hts w (kG_in w h)
  have hown : s.vm.findClass RL = some m.cls := hown
  obtain ⟨hI, hG, hi0, hi1, hg0, hg1, hM, hR, hIm, hTp, hCh, hFl, hSp, hSt, hRf, hSl, hJ0, hJ1⟩ := hJ
  obtain ⟨DD, P, hSV, hkk, h22, hLM, hLC, hXP, hMP, hPO⟩ := id hSl
  refine lv_aload_n hx hb dL_law_713 rfl (lv_at hl 2 rfl) ?_
  refine kIG.callX (As := []) (rest := []) ⟨hx, hb, hml, hown, hg⟩ (z_tick l u f a g (iW K i0 ++ (iW K i1 ++ tt)) tt mem_rr hI hG  (ea 2) hSV hkk DD hLC P hXP) (cwV 0 hg (kgV wt4_184 wt4_185 wt4_186 wt1_1 wt4_187) rfl rfl rfl (by decide +kernel) ⟨by decide, by decide⟩) hV hK hP hD hS hA 0 11 rfl rfl rfl hl.1 rfl (Nat.le_of_ble_eq_true rfl) dL_law_714 ⟨by show c0 + 0 ≤ 600000; omega, by show s0 + 0 ≤ 7302250; omega⟩ (fun v1 u1 H locs h1 hP hD hS => ?_)
  obtain ⟨f1, a1, g1⟩ := u1
  have hI1 : xI f1 a1 := h1.2.1
  have hG1 : gOK K g1.2 tt := h1.2.2.1
  have hE1 : xEk ([16, 704, 705, 2565, 2566, 2786], [6, 9, 10, 11, 19, 20, 23, 81, 94], []) f a g f1 a1 g1 := h1.2.2.2.1
  have hj0 := hi0
  have hj1 := hi1
  have hq0 : g1.2 92 0 = iA i0 := by rw [show g1.2 92 = g.2 92 from hE1.2.2 92 rfl]; exact hg0
  have hq1 : g1.2 92 1 = iA i1 := by rw [show g1.2 92 = g.2 92 from hE1.2.2 92 rfl]; exact hg1
  have hP : va_P D vwCl (lWd K u f1 a1 g1 i0 i1 tt o r ef ea eg) H := hP
  have hD : va_D (fun q : Nat => s.heap.size ≤ q) (lWd K u f1 a1 g1 i0 i1 tt o r ef ea eg) := hD
  refine lv_pop hx hb dL_law_717 rfl ?_
  refine lv_aload_n hx hb dL_law_718 rfl (lv_at hl 1 rfl) ?_
  refine kI.callM (As := []) (rest := []) ⟨hx, hb, hml, hown, hg⟩ (n_tick l o r ef ea eg hM  DD P hkk hLM hMP h22) (cwV 0 hg (kgV wt7_156 wt7_157 wt7_158 wt1_14 wt7_159) rfl rfl rfl (by decide +kernel) ⟨by decide, by decide⟩) hK hP hD hS hA 0 12 rfl rfl rfl hl.1 rfl (Nat.le_of_ble_eq_true rfl) dL_law_719 ⟨by show c0 + 0 + 0 ≤ 600000; omega, by show s0 + 0 + 0 ≤ 7302250; omega⟩ (fun v2 u2 H locs h2 hP hD hS => ?_)
  obtain ⟨ef2, ea2, eg2⟩ := u2
  have hM2 : mI ef2 ea2 := (h2.2.1)
  have hP : va_P D vwCl (lWd K u f1 a1 g1 i0 i1 tt o r ef2 ea2 eg2) H := hP
  have hD : va_D (fun q : Nat => s.heap.size ≤ q) (lWd K u f1 a1 g1 i0 i1 tt o r ef2 ea2 eg2) := hD
  have hm : mTp v2 ef2 ea2 (ea 1) (ticF DD (ea 2) P) (decide ((ticF DD (ea 2) P).1 < 0)) := (h2.2.2.2.1)
  have hx1 : xTp 32 2 v1 f1 a1 (a 94) (ticF DD (ea 2) P) (kBn (ea 2)) (decide ((ticF DD (ea 2) P).1 < 0)) := (h1.2.2.2.2)
  have hq := dd_st hx1 hm hRf
  have hRn : f1 12 = ef2 13 := (hE1.1 12 rfl).trans (hR.trans (show ef2 13 = ef 13 from (h2.2.2.2.2).1 13 rfl).symm)
  have hImn : xIm i0 i1 (ea2 4) := (by rw [(show ea2 4 = ea 4 from (h2.2.2.2.2).2 4 rfl)]; exact hIm)
  have hTpn : xTq (a1 93) (ea2 11) := xTq_k hTp (hE1.2.1 93 rfl) (show ea2 11 = ea 11 from (h2.2.2.2.2).2 11 rfl)
  have hChn : f1 14 = ef2 6 := (hE1.1 14 rfl).trans (hCh.trans (show ef2 6 = ef 6 from (h2.2.2.2.2).1 6 rfl).symm)
  have hFln : f1 13 = ef2 14 := (hE1.1 13 rfl).trans (hFl.trans (show ef2 14 = ef 14 from (h2.2.2.2.2).1 14 rfl).symm)
  have hSpn : f1 15 = ef2 37 := (hE1.1 15 rfl).trans (hSp.trans (show ef2 37 = ef 37 from (h2.2.2.2.2).1 37 rfl).symm)
  have hStn : f1 16 = ef2 0 := hq.2.1
  have hRfn : rfE (a1 94) (ea2 1) := hq.2.2
  have hSln : rlS K tt f1 a1 (g1.2 15) ef2 ea2 := rlS_d (ticF_p hkk h22 hPO) hx1.1 hm.1 hkk hLM hLC (hE1.2.2 15 rfl)
  have hJ0n : rlI K tt i0 (imK (ea2 3) 0) := (by rw [(show ea2 3 = ea 3 from (h2.2.2.2.2).2 3 rfl)]; exact hJ0)
  have hJ1n : rlI K tt i1 (imK (ea2 3) 1) := (by rw [(show ea2 3 = ea 3 from (h2.2.2.2.2).2 3 rfl)]; exact hJ1)
  refine lv_pop hx hb dL_law_722 rfl ?_
  refine lv_goto (tgt := 1127) hx hb dL_law_723 (by decide) ?_
  refine W.widen (k := c0 + 21) (n := s0 + 467) (by show c0 + 0 + 0 ≤ c0 + 21; omega) (by show s0 + 0 + 0 ≤ s0 + 467; omega) ?_
  exact kk _ _ _ _ _ _ _ _ _ _ _ ⟨hI1, hG1, hj0, hj1, hq0, hq1, hM2, hRn, hImn, hTpn, hChn, hFln, hSpn, hStn, hRfn, hSln, hJ0n, hJ1n⟩ hP hD hS
set_option maxHeartbeats 4000000 in
set_option maxRecDepth 100000 in
theorem law_undo {p : Program} {e : Env} {s : State} {m : MethodId} {below : List Frame} {meth : Method} {c : Code} (l : Launch) {b L : Nat} {xs : Nat → Int32} (C0 : lw_At p s m meth c b L xs) (hL2 : L ≤ 3072) {D : va_G} {K : Nat → ClassId} (hK : va_K D vwCl (tysK K) s) (hV : xE K (fun q : Nat => s.heap.size ≤ q) s s.heap) {u : Nat → Nat} {o : Nat} {r : Nat → Nat} {f : Nat → Int32} {a : Nat → Nat → Int32} {g : xG} {i0 i1 : Option sX} {tt : va_W} {ef : Nat → Int32} {ea : Nat → Nat → Int32} {eg : Nat → Int64} (hJ : rJ K f a g i0 i1 tt ef ea) {i : Int32} {ii : Nat} (hi : i.toInt = (ii : Int)) (hL : ii + 6 ≤ L) {c0 s0 : Nat} (hc0 : c0 + 21 ≤ 600000) (hs0 : s0 + 467 ≤ 7302250) {H : Heap} {locs : List Loc} (hP : va_P D vwCl (lWd K u f a g i0 i1 tt o r ef ea eg) H) (hD : va_D (fun q : Nat => s.heap.size ≤ q) (lWd K u f a g i0 i1 tt o r ef ea eg)) (hS : va_S (fun q : Nat => s.heap.size ≤ q) s.heap H locs) {ls : Array Slot} (hl : lv_has ls 4 [(3, .int i), (2, .ref o), (1, .ref (u 0)), (0, .ref b)]) (kk : ∀ (f : Nat → Int32) (a : Nat → Nat → Int32) (g : xG) (i0 i1 : Option sX) (tt : va_W) (ef : Nat → Int32) (ea : Nat → Nat → Int32) (eg : Nat → Int64) (H : Heap) (locs : List Loc), rJ K f a g i0 i1 tt ef ea → va_P D vwCl (lWd K u f a g i0 i1 tt o r ef ea eg) H → va_D (fun q : Nat => s.heap.size ≤ q) (lWd K u f a g i0 i1 tt o r ef ea eg) → va_S (fun q : Nat => s.heap.size ≤ q) s.heap H locs → W p l e room_1 s m #[Value.ref b] below meth c H locs (c0 + 21) (s0 + 467) (lw_Z below #[Value.ref b] s) (F0 m 1127 ls [])) : W p l e room_1 s m #[Value.ref b] below meth c H locs c0 s0 (lw_Z below #[Value.ref b] s) (F0 m 726 ls []) := by
  obtain ⟨hx, hb, hr, hml, hown, hts, hX, hbl, hlocks, hgv⟩ := id C0
  have hA : ∀ q : Nat, s.heap.size ≤ q → (fun q : Nat => s.heap.size ≤ q) q := fun _ h => h
  have hbA : ¬ (fun q : Nat => s.heap.size ≤ q) b := Nat.not_le.mpr hbl
  have hg : ∀ w ∈ kG, w.before #[Value.ref b] s = true := fun w h => hts w (kG_in w h)
  have hown : s.vm.findClass RL = some m.cls := hown
  obtain ⟨hI, hG, hi0, hi1, hg0, hg1, hM, hR, hIm, hTp, hCh, hFl, hSp, hSt, hRf, hSl, hJ0, hJ1⟩ := hJ
  obtain ⟨DD, P, hSV, hkk, h22, hLM, hLC, hXP, hMP, hPO⟩ := id hSl
  refine lv_aload_n hx hb dL_law_726 rfl (lv_at hl 2 rfl) ?_
  refine kIG.callX (As := []) (rest := []) ⟨hx, hb, hml, hown, hg⟩ (z_undo l u f a g (iW K i0 ++ (iW K i1 ++ tt)) tt mem_rr hI hG  (ea 2) hSV hkk P hXP (fun j hj => (hPO j hj).1)) (cwV 0 hg (kgV wt4_189 wt4_190 wt4_191 wt1_1 wt4_192) rfl rfl rfl (by decide +kernel) ⟨by decide, by decide⟩) hV hK hP hD hS hA 0 11 rfl rfl rfl hl.1 rfl (Nat.le_of_ble_eq_true rfl) dL_law_727 ⟨by show c0 + 0 ≤ 600000; omega, by show s0 + 0 ≤ 7302250; omega⟩ (fun v1 u1 H locs h1 hP hD hS => ?_)
  obtain ⟨f1, a1, g1⟩ := u1
  have hI1 : xI f1 a1 := h1.2.1
  have hG1 : gOK K g1.2 tt := h1.2.2.1
  have hE1 : xEk ([16, 704, 705, 2565, 2566, 2786], [6, 9, 10, 11, 81, 94], []) f a g f1 a1 g1 := h1.2.2.2.1
  have hj0 := hi0
  have hj1 := hi1
  have hq0 : g1.2 92 0 = iA i0 := by rw [show g1.2 92 = g.2 92 from hE1.2.2 92 rfl]; exact hg0
  have hq1 : g1.2 92 1 = iA i1 := by rw [show g1.2 92 = g.2 92 from hE1.2.2 92 rfl]; exact hg1
  have hP : va_P D vwCl (lWd K u f1 a1 g1 i0 i1 tt o r ef ea eg) H := hP
  have hD : va_D (fun q : Nat => s.heap.size ≤ q) (lWd K u f1 a1 g1 i0 i1 tt o r ef ea eg) := hD
  refine lv_pop hx hb dL_law_730 rfl ?_
  refine lv_aload_n hx hb dL_law_731 rfl (lv_at hl 1 rfl) ?_
  refine kI.callM (As := []) (rest := []) ⟨hx, hb, hml, hown, hg⟩ (n_undo l o r ef ea eg hM  P hMP) (cwV 0 hg (kgV wt7_112 wt7_113 wt7_114 wt1_14 wt7_115) rfl rfl rfl (by decide +kernel) ⟨by decide, by decide⟩) hK hP hD hS hA 0 12 rfl rfl rfl hl.1 rfl (Nat.le_of_ble_eq_true rfl) dL_law_732 ⟨by show c0 + 0 + 0 ≤ 600000; omega, by show s0 + 0 + 0 ≤ 7302250; omega⟩ (fun v2 u2 H locs h2 hP hD hS => ?_)
  obtain ⟨ef2, ea2, eg2⟩ := u2
  have hM2 : mI ef2 ea2 := (h2.2.1)
  have hP : va_P D vwCl (lWd K u f1 a1 g1 i0 i1 tt o r ef2 ea2 eg2) H := hP
  have hD : va_D (fun q : Nat => s.heap.size ≤ q) (lWd K u f1 a1 g1 i0 i1 tt o r ef2 ea2 eg2) := hD
  have hb9 := ud_b (k := ea 2) (fun j hj => (hPO j hj).1)
  have hm : mTp v2 ef2 ea2 (ea 1) (udF (ea 2) P) (decide ((udF (ea 2) P).1 < 0)) := ⟨(h2.2.2.2.1), by rw [← hb9]; exact (h2.2.2.2.2.1), by rw [← hb9]; exact (h2.2.2.2.2.2.1)⟩
  have hx1 : xTp 32 2 v1 f1 a1 (a 94) (udF (ea 2) P) (kBn (ea 2)) (decide ((udF (ea 2) P).1 < 0)) := (h1.2.2.2.2)
  have hq := dd_st hx1 hm hRf
  have hRn : f1 12 = ef2 13 := (hE1.1 12 rfl).trans (hR.trans (show ef2 13 = ef 13 from (h2.2.2.2.2.2.2).1 13 rfl).symm)
  have hImn : xIm i0 i1 (ea2 4) := (by rw [(show ea2 4 = ea 4 from (h2.2.2.2.2.2.2).2 4 rfl)]; exact hIm)
  have hTpn : xTq (a1 93) (ea2 11) := xTq_k hTp (hE1.2.1 93 rfl) (show ea2 11 = ea 11 from (h2.2.2.2.2.2.2).2 11 rfl)
  have hChn : f1 14 = ef2 6 := (hE1.1 14 rfl).trans (hCh.trans (show ef2 6 = ef 6 from (h2.2.2.2.2.2.2).1 6 rfl).symm)
  have hFln : f1 13 = ef2 14 := (hE1.1 13 rfl).trans (hFl.trans (show ef2 14 = ef 14 from (h2.2.2.2.2.2.2).1 14 rfl).symm)
  have hSpn : f1 15 = ef2 37 := (hE1.1 15 rfl).trans (hSp.trans (show ef2 37 = ef 37 from (h2.2.2.2.2.2.2).1 37 rfl).symm)
  have hStn : f1 16 = ef2 0 := hq.2.1
  have hRfn : rfE (a1 94) (ea2 1) := hq.2.2
  have hSln : rlS K tt f1 a1 (g1.2 15) ef2 ea2 := rlS_d (udF_p hkk h22 hPO) hx1.1 hm.1 hkk hLM hLC (hE1.2.2 15 rfl)
  have hJ0n : rlI K tt i0 (imK (ea2 3) 0) := (by rw [(show ea2 3 = ea 3 from (h2.2.2.2.2.2.2).2 3 rfl)]; exact hJ0)
  have hJ1n : rlI K tt i1 (imK (ea2 3) 1) := (by rw [(show ea2 3 = ea 3 from (h2.2.2.2.2.2.2).2 3 rfl)]; exact hJ1)
  refine lv_pop hx hb dL_law_735 rfl ?_
  refine lv_goto (tgt := 1127) hx hb dL_law_736 (by decide) ?_
  refine W.widen (k := c0 + 21) (n := s0 + 467) (by show c0 + 0 + 0 ≤ c0 + 21; omega) (by show s0 + 0 + 0 ≤ s0 + 467; omega) ?_
  exact kk _ _ _ _ _ _ _ _ _ _ _ ⟨hI1, hG1, hj0, hj1, hq0, hq1, hM2, hRn, hImn, hTpn, hChn, hFln, hSpn, hStn, hRfn, hSln, hJ0n, hJ1n⟩ hP hD hS
set_option maxHeartbeats 4000000 in
set_option maxRecDepth 100000 in
theorem law_longest {p : Program} {e : Env} {s : State} {m : MethodId} {below : List Frame} {meth : Method} {c : Code} (l : Launch) {b L : Nat} {xs : Nat → Int32} (C0 : lw_At p s m meth c b L xs) (hL2 : L ≤ 3072) {D : va_G} {K : Nat → ClassId} (hK : va_K D vwCl (tysK K) s) (hV : xE K (fun q : Nat => s.heap.size ≤ q) s s.heap) {u : Nat → Nat} {o : Nat} {r : Nat → Nat} {f : Nat → Int32} {a : Nat → Nat → Int32} {g : xG} {i0 i1 : Option sX} {tt : va_W} {ef : Nat → Int32} {ea : Nat → Nat → Int32} {eg : Nat → Int64} (hJ : rJ K f a g i0 i1 tt ef ea) {i : Int32} {ii : Nat} (hi : i.toInt = (ii : Int)) (hL : ii + 6 ≤ L) {c0 s0 : Nat} (hc0 : c0 + 21 ≤ 600000) (hs0 : s0 + 467 ≤ 7302250) {H : Heap} {locs : List Loc} (hP : va_P D vwCl (lWd K u f a g i0 i1 tt o r ef ea eg) H) (hD : va_D (fun q : Nat => s.heap.size ≤ q) (lWd K u f a g i0 i1 tt o r ef ea eg)) (hS : va_S (fun q : Nat => s.heap.size ≤ q) s.heap H locs) {ls : Array Slot} (hl : lv_has ls 4 [(3, .int i), (2, .ref o), (1, .ref (u 0)), (0, .ref b)]) (kk : ∀ (f : Nat → Int32) (a : Nat → Nat → Int32) (g : xG) (i0 i1 : Option sX) (tt : va_W) (ef : Nat → Int32) (ea : Nat → Nat → Int32) (eg : Nat → Int64) (H : Heap) (locs : List Loc), rJ K f a g i0 i1 tt ef ea → va_P D vwCl (lWd K u f a g i0 i1 tt o r ef ea eg) H → va_D (fun q : Nat => s.heap.size ≤ q) (lWd K u f a g i0 i1 tt o r ef ea eg) → va_S (fun q : Nat => s.heap.size ≤ q) s.heap H locs → W p l e room_1 s m #[Value.ref b] below meth c H locs (c0 + 21) (s0 + 467) (lw_Z below #[Value.ref b] s) (F0 m 1127 ls [])) : W p l e room_1 s m #[Value.ref b] below meth c H locs c0 s0 (lw_Z below #[Value.ref b] s) (F0 m 739 ls []) := by
  obtain ⟨hx, hb, hr, hml, hown, hts, hX, hbl, hlocks, hgv⟩ := id C0
  have hA : ∀ q : Nat, s.heap.size ≤ q → (fun q : Nat => s.heap.size ≤ q) q := fun _ h => h
  have hbA : ¬ (fun q : Nat => s.heap.size ≤ q) b := Nat.not_le.mpr hbl
  have hg : ∀ w ∈ kG, w.before #[Value.ref b] s = true := fun w h => hts w (kG_in w h)
  have hown : s.vm.findClass RL = some m.cls := hown
  obtain ⟨hI, hG, hi0, hi1, hg0, hg1, hM, hR, hIm, hTp, hCh, hFl, hSp, hSt, hRf, hSl, hJ0, hJ1⟩ := hJ
  obtain ⟨DD, P, hSV, hkk, h22, hLM, hLC, hXP, hMP, hPO⟩ := id hSl
  refine lv_aload_n hx hb dL_law_739 rfl (lv_at hl 2 rfl) ?_
  refine kIG.callX (As := []) (rest := []) ⟨hx, hb, hml, hown, hg⟩ (z_longest l u f a g (iW K i0 ++ (iW K i1 ++ tt)) tt mem_rr hI hG  (ea 2) hSV hkk ) (cwV 0 hg (kgV wt4_197 wt4_198 wt4_199 wt1_1 wt4_200) rfl rfl rfl (by decide +kernel) ⟨by decide, by decide⟩) hV hK hP hD hS hA 0 11 rfl rfl rfl hl.1 rfl (Nat.le_of_ble_eq_true rfl) dL_law_740 ⟨by show c0 + 0 ≤ 600000; omega, by show s0 + 0 ≤ 7302250; omega⟩ (fun v1 u1 H locs h1 hP hD hS => ?_)
  obtain ⟨f1, a1, g1⟩ := u1
  have hI1 : xI f1 a1 := h1.2.1
  have hG1 : gOK K g1.2 tt := h1.2.2.1
  have hE1 : xEk ([], [21], []) f a g f1 a1 g1 := h1.2.2.2.1
  have hj0 := hi0
  have hj1 := hi1
  have hq0 : g1.2 92 0 = iA i0 := by rw [show g1.2 92 = g.2 92 from hE1.2.2 92 rfl]; exact hg0
  have hq1 : g1.2 92 1 = iA i1 := by rw [show g1.2 92 = g.2 92 from hE1.2.2 92 rfl]; exact hg1
  have hP : va_P D vwCl (lWd K u f1 a1 g1 i0 i1 tt o r ef ea eg) H := hP
  have hD : va_D (fun q : Nat => s.heap.size ≤ q) (lWd K u f1 a1 g1 i0 i1 tt o r ef ea eg) := hD
  refine lv_pop hx hb dL_law_743 rfl ?_
  refine lv_aload_n hx hb dL_law_744 rfl (lv_at hl 1 rfl) ?_
  refine kI.callM (As := []) (rest := []) ⟨hx, hb, hml, hown, hg⟩ (n_longest l o r ef ea eg hM  hkk) (cwV 0 hg (kgV wt7_175 wt7_176 wt7_177 wt1_14 wt7_178) rfl rfl rfl (by decide +kernel) ⟨by decide, by decide⟩) hK hP hD hS hA 0 12 rfl rfl rfl hl.1 rfl (Nat.le_of_ble_eq_true rfl) dL_law_745 ⟨by show c0 + 0 + 0 ≤ 600000; omega, by show s0 + 0 + 0 ≤ 7302250; omega⟩ (fun v2 u2 H locs h2 hP hD hS => ?_)
  obtain ⟨ef2, ea2, eg2⟩ := u2
  have hM2 : mI ef2 ea2 := (h2.2.1)
  have hP : va_P D vwCl (lWd K u f1 a1 g1 i0 i1 tt o r ef2 ea2 eg2) H := hP
  have hD : va_D (fun q : Nat => s.heap.size ≤ q) (lWd K u f1 a1 g1 i0 i1 tt o r ef2 ea2 eg2) := hD
  have hRn : f1 12 = ef2 13 := (hE1.1 12 rfl).trans (hR.trans (show ef2 13 = ef 13 from (h2.2.2.2.2).1 13 rfl).symm)
  have hImn : xIm i0 i1 (ea2 4) := (by rw [(show ea2 4 = ea 4 from (h2.2.2.2.2).2 4 rfl)]; exact hIm)
  have hTpn : xTq (a1 93) (ea2 11) := xTq_k hTp (hE1.2.1 93 rfl) (show ea2 11 = ea 11 from (h2.2.2.2.2).2 11 rfl)
  have hChn : f1 14 = ef2 6 := (hE1.1 14 rfl).trans (hCh.trans (show ef2 6 = ef 6 from (h2.2.2.2.2).1 6 rfl).symm)
  have hFln : f1 13 = ef2 14 := (hE1.1 13 rfl).trans (hFl.trans (show ef2 14 = ef 14 from (h2.2.2.2.2).1 14 rfl).symm)
  have hSpn : f1 15 = ef2 37 := (hE1.1 15 rfl).trans (hSp.trans (show ef2 37 = ef 37 from (h2.2.2.2.2).1 37 rfl).symm)
  have hStn : f1 16 = ef2 0 := (hE1.1 16 rfl).trans (hSt.trans (show ef2 0 = ef 0 from (h2.2.2.2.2).1 0 rfl).symm)
  have hRfn : rfE (a1 94) (ea2 1) := (by rw [show a1 94 = a 94 from (hE1.2.1 94 rfl), (show ea2 1 = ea 1 from (h2.2.2.2.2).2 1 rfl)]; exact hRf)
  have hSln : rlS K tt f1 a1 (g1.2 15) ef2 ea2 := rlS_k hSl (smFy hE1 (by decide)) (smRy hE1 (by decide)) (hE1.2.2 15 rfl) (show ea2 2 = ea 2 from funext fun i => (h2.2.2.1).2.2.1 i rfl) (show ef2 33 = ef 33 from (h2.2.2.2.2).1 33 rfl) (show ea2 31 = ea 31 from (h2.2.2.2.2).2 31 rfl)
  have hJ0n : rlI K tt i0 (imK (ea2 3) 0) := (by rw [(show ea2 3 = ea 3 from (h2.2.2.2.2).2 3 rfl)]; exact hJ0)
  have hJ1n : rlI K tt i1 (imK (ea2 3) 1) := (by rw [(show ea2 3 = ea 3 from (h2.2.2.2.2).2 3 rfl)]; exact hJ1)
  refine lv_pop hx hb dL_law_748 rfl ?_
  refine lv_goto (tgt := 1127) hx hb dL_law_749 (by decide) ?_
  refine W.widen (k := c0 + 21) (n := s0 + 467) (by show c0 + 0 + 0 ≤ c0 + 21; omega) (by show s0 + 0 + 0 ≤ s0 + 467; omega) ?_
  exact kk _ _ _ _ _ _ _ _ _ _ _ ⟨hI1, hG1, hj0, hj1, hq0, hq1, hM2, hRn, hImn, hTpn, hChn, hFln, hSpn, hStn, hRfn, hSln, hJ0n, hJ1n⟩ hP hD hS
set_option maxHeartbeats 4000000 in
set_option maxRecDepth 100000 in
theorem law_rows {p : Program} {e : Env} {s : State} {m : MethodId} {below : List Frame} {meth : Method} {c : Code} (l : Launch) {b L : Nat} {xs : Nat → Int32} (C0 : lw_At p s m meth c b L xs) (hL2 : L ≤ 3072) {D : va_G} {K : Nat → ClassId} (hK : va_K D vwCl (tysK K) s) (hV : xE K (fun q : Nat => s.heap.size ≤ q) s s.heap) {u : Nat → Nat} {o : Nat} {r : Nat → Nat} {f : Nat → Int32} {a : Nat → Nat → Int32} {g : xG} {i0 i1 : Option sX} {tt : va_W} {ef : Nat → Int32} {ea : Nat → Nat → Int32} {eg : Nat → Int64} (hJ : rJ K f a g i0 i1 tt ef ea) {i : Int32} {ii : Nat} (hi : i.toInt = (ii : Int)) (hL : ii + 6 ≤ L) {c0 s0 : Nat} (hc0 : c0 + 21 ≤ 600000) (hs0 : s0 + 467 ≤ 7302250) {H : Heap} {locs : List Loc} (hP : va_P D vwCl (lWd K u f a g i0 i1 tt o r ef ea eg) H) (hD : va_D (fun q : Nat => s.heap.size ≤ q) (lWd K u f a g i0 i1 tt o r ef ea eg)) (hS : va_S (fun q : Nat => s.heap.size ≤ q) s.heap H locs) {ls : Array Slot} (hl : lv_has ls 4 [(3, .int i), (2, .ref o), (1, .ref (u 0)), (0, .ref b)]) (kk : ∀ (f : Nat → Int32) (a : Nat → Nat → Int32) (g : xG) (i0 i1 : Option sX) (tt : va_W) (ef : Nat → Int32) (ea : Nat → Nat → Int32) (eg : Nat → Int64) (H : Heap) (locs : List Loc), rJ K f a g i0 i1 tt ef ea → va_P D vwCl (lWd K u f a g i0 i1 tt o r ef ea eg) H → va_D (fun q : Nat => s.heap.size ≤ q) (lWd K u f a g i0 i1 tt o r ef ea eg) → va_S (fun q : Nat => s.heap.size ≤ q) s.heap H locs → W p l e room_1 s m #[Value.ref b] below meth c H locs (c0 + 21) (s0 + 467) (lw_Z below #[Value.ref b] s) (F0 m 1127 ls [])) : W p l e room_1 s m #[Value.ref b] below meth c H locs c0 s0 (lw_Z below #[Value.ref b] s) (F0 m 752 ls []) := by
  obtain ⟨hx, hb, hr, hml, hown, hts, hX, hbl, hlocks, hgv⟩ := id C0
  have hA : ∀ q : Nat, s.heap.size ≤ q → (fun q : Nat => s.heap.size ≤ q) q := fun _ h => h
  have hbA : ¬ (fun q : Nat => s.heap.size ≤ q) b := Nat.not_le.mpr hbl
  have hg : ∀ w ∈ kG, w.before #[Value.ref b] s = true := fun w h => hts w (kG_in w h)
  have hown : s.vm.findClass RL = some m.cls := hown
  obtain ⟨hI, hG, hi0, hi1, hg0, hg1, hM, hR, hIm, hTp, hCh, hFl, hSp, hSt, hRf, hSl, hJ0, hJ1⟩ := hJ
  obtain ⟨DD, P, hSV, hkk, h22, hLM, hLC, hXP, hMP, hPO⟩ := id hSl
  refine lv_aload_n hx hb dL_law_752 rfl (lv_at hl 2 rfl) ?_
  refine lv_aload_n hx hb dL_law_753 rfl (lv_at hl 3 rfl) ?_
  refine lv_iload_n hx hb dL_law_754 rfl (lv_at hl 0 rfl) ?_
  refine lv_iconst (v := 1) hx hb dL_law_755 (by decide) ?_
  refine lv_iadd hx hb dL_law_756 ?_
  refine va_sld hx hb hX hbl hbA hS (ix_in hi hL hL2 (kn := 1) (by decide +kernel) (by decide)) dL_law_757 ?_
  refine lv_topi (fun y1 ey1 => ?_)
  refine lv_aload_n hx hb dL_law_758 rfl (lv_at hl 3 rfl) ?_
  refine lv_iload_n hx hb dL_law_759 rfl (lv_at hl 0 rfl) ?_
  refine lv_iconst (v := 2) hx hb dL_law_760 (by decide) ?_
  refine lv_iadd hx hb dL_law_761 ?_
  refine va_sld hx hb hX hbl hbA hS (ix_in hi hL hL2 (kn := 2) (by decide +kernel) (by decide)) dL_law_762 ?_
  refine lv_topi (fun y2 ey2 => ?_)
  refine kIG.callX (As := [.int y1, .int y2]) (rest := []) ⟨hx, hb, hml, hown, hg⟩ (x_11_rows l u f a g (iW K i0 ++ (iW K i1 ++ tt)) tt mem_rr hI hG y1 y2  ) (cwV 2 hg (kgV wt4_201 wt4_202 wt4_203 wt1_1 wt4_204) rfl rfl rfl (by decide +kernel) ⟨by decide, by decide⟩) hV hK hP hD hS hA 0 11 rfl rfl rfl hl.1 rfl (Nat.le_of_ble_eq_true rfl) dL_law_763 ⟨by show c0 + 0 ≤ 600000; omega, by show s0 + 0 ≤ 7302250; omega⟩ (fun v1 u1 H locs h1 hP hD hS => ?_)
  obtain ⟨f1, a1, g1⟩ := u1
  have hI1 : xI f1 a1 := h1.2.1
  have hG1 : gOK K g1.2 tt := h1.2.2.1
  have hE1 : xEk ([2786], [88], []) f a g f1 a1 g1 := h1.2.2.2
  have hj0 := hi0
  have hj1 := hi1
  have hq0 : g1.2 92 0 = iA i0 := by rw [show g1.2 92 = g.2 92 from hE1.2.2 92 rfl]; exact hg0
  have hq1 : g1.2 92 1 = iA i1 := by rw [show g1.2 92 = g.2 92 from hE1.2.2 92 rfl]; exact hg1
  have hP : va_P D vwCl (lWd K u f1 a1 g1 i0 i1 tt o r ef ea eg) H := hP
  have hD : va_D (fun q : Nat => s.heap.size ≤ q) (lWd K u f1 a1 g1 i0 i1 tt o r ef ea eg) := hD
  refine lv_pop hx hb dL_law_766 rfl ?_
  refine lv_aload_n hx hb dL_law_767 rfl (lv_at hl 1 rfl) ?_
  refine lv_aload_n hx hb dL_law_768 rfl (lv_at hl 3 rfl) ?_
  refine lv_iload_n hx hb dL_law_769 rfl (lv_at hl 0 rfl) ?_
  refine lv_iconst (v := 1) hx hb dL_law_770 (by decide) ?_
  refine lv_iadd hx hb dL_law_771 ?_
  refine va_sld hx hb hX hbl hbA hS (ix_in hi hL hL2 (kn := 1) (by decide +kernel) (by decide)) dL_law_772 ?_
  refine k_top (z := y1) ey1.symm ?_
  refine lv_aload_n hx hb dL_law_773 rfl (lv_at hl 3 rfl) ?_
  refine lv_iload_n hx hb dL_law_774 rfl (lv_at hl 0 rfl) ?_
  refine lv_iconst (v := 2) hx hb dL_law_775 (by decide) ?_
  refine lv_iadd hx hb dL_law_776 ?_
  refine va_sld hx hb hX hbl hbA hS (ix_in hi hL hL2 (kn := 2) (by decide +kernel) (by decide)) dL_law_777 ?_
  refine k_top (z := y2) ey2.symm ?_
  refine kI.callM (As := [.int y1, .int y2]) (rest := []) ⟨hx, hb, hml, hown, hg⟩ (m_rows l o r ef ea eg hM y1 y2 ) (cwV 2 hg (kgV wt7_179 wt7_180 wt7_181 wt1_14 wt7_182) rfl rfl rfl (by decide +kernel) ⟨by decide, by decide⟩) hK hP hD hS hA 0 12 rfl rfl rfl hl.1 rfl (Nat.le_of_ble_eq_true rfl) dL_law_778 ⟨by show c0 + 0 + 0 ≤ 600000; omega, by show s0 + 0 + 0 ≤ 7302250; omega⟩ (fun v2 u2 H locs h2 hP hD hS => ?_)
  obtain ⟨ef2, ea2, eg2⟩ := u2
  have hM2 : mI ef2 ea2 := (h2.2.1)
  have hP : va_P D vwCl (lWd K u f1 a1 g1 i0 i1 tt o r ef2 ea2 eg2) H := hP
  have hD : va_D (fun q : Nat => s.heap.size ≤ q) (lWd K u f1 a1 g1 i0 i1 tt o r ef2 ea2 eg2) := hD
  have hRn : f1 12 = ef2 13 := (hE1.1 12 rfl).trans (hR.trans (show ef2 13 = ef 13 from (h2.2.2.2).1 13 rfl).symm)
  have hImn : xIm i0 i1 (ea2 4) := (by rw [(show ea2 4 = ea 4 from (h2.2.2.2).2 4 rfl)]; exact hIm)
  have hTpn : xTq (a1 93) (ea2 11) := xTq_k hTp (hE1.2.1 93 rfl) (show ea2 11 = ea 11 from (h2.2.2.2).2 11 rfl)
  have hChn : f1 14 = ef2 6 := (hE1.1 14 rfl).trans (hCh.trans (show ef2 6 = ef 6 from (h2.2.2.2).1 6 rfl).symm)
  have hFln : f1 13 = ef2 14 := (hE1.1 13 rfl).trans (hFl.trans (show ef2 14 = ef 14 from (h2.2.2.2).1 14 rfl).symm)
  have hSpn : f1 15 = ef2 37 := (hE1.1 15 rfl).trans (hSp.trans (show ef2 37 = ef 37 from (h2.2.2.2).1 37 rfl).symm)
  have hStn : f1 16 = ef2 0 := (hE1.1 16 rfl).trans (hSt.trans (show ef2 0 = ef 0 from (h2.2.2.2).1 0 rfl).symm)
  have hRfn : rfE (a1 94) (ea2 1) := (by rw [show a1 94 = a 94 from (hE1.2.1 94 rfl), (show ea2 1 = ea 1 from (h2.2.2.2).2 1 rfl)]; exact hRf)
  have hSln : rlS K tt f1 a1 (g1.2 15) ef2 ea2 := rlS_k hSl (smFy hE1 (by decide)) (smRy hE1 (by decide)) (hE1.2.2 15 rfl) (show ea2 2 = ea 2 from funext fun i => (h2.2.2.1).2.2.1 i rfl) (show ef2 33 = ef 33 from (h2.2.2.2).1 33 rfl) (show ea2 31 = ea 31 from (h2.2.2.2).2 31 rfl)
  have hJ0n : rlI K tt i0 (imK (ea2 3) 0) := (by rw [(show ea2 3 = ea 3 from (h2.2.2.2).2 3 rfl)]; exact hJ0)
  have hJ1n : rlI K tt i1 (imK (ea2 3) 1) := (by rw [(show ea2 3 = ea 3 from (h2.2.2.2).2 3 rfl)]; exact hJ1)
  refine lv_pop hx hb dL_law_781 rfl ?_
  refine lv_goto (tgt := 1127) hx hb dL_law_782 (by decide) ?_
  refine W.widen (k := c0 + 21) (n := s0 + 467) (by show c0 + 0 + 0 ≤ c0 + 21; omega) (by show s0 + 0 + 0 ≤ s0 + 467; omega) ?_
  exact kk _ _ _ _ _ _ _ _ _ _ _ ⟨hI1, hG1, hj0, hj1, hq0, hq1, hM2, hRn, hImn, hTpn, hChn, hFln, hSpn, hStn, hRfn, hSln, hJ0n, hJ1n⟩ hP hD hS
set_option maxHeartbeats 4000000 in
set_option maxRecDepth 100000 in
theorem law_plan {p : Program} {e : Env} {s : State} {m : MethodId} {below : List Frame} {meth : Method} {c : Code} (l : Launch) {b L : Nat} {xs : Nat → Int32} (C0 : lw_At p s m meth c b L xs) (hL2 : L ≤ 3072) {D : va_G} {K : Nat → ClassId} (hK : va_K D vwCl (tysK K) s) (hV : xE K (fun q : Nat => s.heap.size ≤ q) s s.heap) {u : Nat → Nat} {o : Nat} {r : Nat → Nat} {f : Nat → Int32} {a : Nat → Nat → Int32} {g : xG} {i0 i1 : Option sX} {tt : va_W} {ef : Nat → Int32} {ea : Nat → Nat → Int32} {eg : Nat → Int64} (hJ : rJ K f a g i0 i1 tt ef ea) {i : Int32} {ii : Nat} (hi : i.toInt = (ii : Int)) (hL : ii + 6 ≤ L) {c0 s0 : Nat} (hc0 : c0 + 21 ≤ 600000) (hs0 : s0 + 467 ≤ 7302250) {H : Heap} {locs : List Loc} (hP : va_P D vwCl (lWd K u f a g i0 i1 tt o r ef ea eg) H) (hD : va_D (fun q : Nat => s.heap.size ≤ q) (lWd K u f a g i0 i1 tt o r ef ea eg)) (hS : va_S (fun q : Nat => s.heap.size ≤ q) s.heap H locs) {ls : Array Slot} (hl : lv_has ls 4 [(3, .int i), (2, .ref o), (1, .ref (u 0)), (0, .ref b)]) (kk : ∀ (f : Nat → Int32) (a : Nat → Nat → Int32) (g : xG) (i0 i1 : Option sX) (tt : va_W) (ef : Nat → Int32) (ea : Nat → Nat → Int32) (eg : Nat → Int64) (H : Heap) (locs : List Loc), rJ K f a g i0 i1 tt ef ea → va_P D vwCl (lWd K u f a g i0 i1 tt o r ef ea eg) H → va_D (fun q : Nat => s.heap.size ≤ q) (lWd K u f a g i0 i1 tt o r ef ea eg) → va_S (fun q : Nat => s.heap.size ≤ q) s.heap H locs → W p l e room_1 s m #[Value.ref b] below meth c H locs (c0 + 21) (s0 + 467) (lw_Z below #[Value.ref b] s) (F0 m 1127 ls [])) : W p l e room_1 s m #[Value.ref b] below meth c H locs c0 s0 (lw_Z below #[Value.ref b] s) (F0 m 785 ls []) := by
  obtain ⟨hx, hb, hr, hml, hown, hts, hX, hbl, hlocks, hgv⟩ := id C0
  have hA : ∀ q : Nat, s.heap.size ≤ q → (fun q : Nat => s.heap.size ≤ q) q := fun _ h => h
  have hbA : ¬ (fun q : Nat => s.heap.size ≤ q) b := Nat.not_le.mpr hbl
  have hg : ∀ w ∈ kG, w.before #[Value.ref b] s = true := fun w h => hts w (kG_in w h)
  have hown : s.vm.findClass RL = some m.cls := hown
  obtain ⟨hI, hG, hi0, hi1, hg0, hg1, hM, hR, hIm, hTp, hCh, hFl, hSp, hSt, hRf, hSl, hJ0, hJ1⟩ := hJ
  obtain ⟨DD, P, hSV, hkk, h22, hLM, hLC, hXP, hMP, hPO⟩ := id hSl
  refine lv_aload_n hx hb dL_law_785 rfl (lv_at hl 2 rfl) ?_
  refine lv_aload_n hx hb dL_law_786 rfl (lv_at hl 3 rfl) ?_
  refine lv_iload_n hx hb dL_law_787 rfl (lv_at hl 0 rfl) ?_
  refine lv_iconst (v := 1) hx hb dL_law_788 (by decide) ?_
  refine lv_iadd hx hb dL_law_789 ?_
  refine va_sld hx hb hX hbl hbA hS (ix_in hi hL hL2 (kn := 1) (by decide +kernel) (by decide)) dL_law_790 ?_
  refine lv_topi (fun y1 ey1 => ?_)
  refine kIG.callX (As := [.int y1]) (rest := []) ⟨hx, hb, hml, hown, hg⟩ (x_11_plan l u f a g (iW K i0 ++ (iW K i1 ++ tt)) tt mem_rr hI hG y1  ) (cwV 1 hg (kgV wt4_224 wt4_225 wt4_226 wt1_1 wt4_227) rfl rfl rfl (by decide +kernel) ⟨by decide, by decide⟩) hV hK hP hD hS hA 0 11 rfl rfl rfl hl.1 rfl (Nat.le_of_ble_eq_true rfl) dL_law_791 ⟨by show c0 + 0 ≤ 600000; omega, by show s0 + 0 ≤ 7302250; omega⟩ (fun v1 u1 H locs h1 hP hD hS => ?_)
  obtain ⟨f1, a1, g1⟩ := u1
  have hI1 : xI f1 a1 := h1.2.1
  have hG1 : gOK K g1.2 tt := h1.2.2.1
  have hE1 : xEk ([1888, 1894, 1900, 1905, 1906], [60, 61, 62, 63, 64, 65, 66, 67, 68, 69, 70, 71, 72, 77, 78, 79, 81], [73]) f a g f1 a1 g1 := h1.2.2.2
  have hj0 := hi0
  have hj1 := hi1
  have hq0 : g1.2 92 0 = iA i0 := by rw [show g1.2 92 = g.2 92 from hE1.2.2 92 rfl]; exact hg0
  have hq1 : g1.2 92 1 = iA i1 := by rw [show g1.2 92 = g.2 92 from hE1.2.2 92 rfl]; exact hg1
  have hP : va_P D vwCl (lWd K u f1 a1 g1 i0 i1 tt o r ef ea eg) H := hP
  have hD : va_D (fun q : Nat => s.heap.size ≤ q) (lWd K u f1 a1 g1 i0 i1 tt o r ef ea eg) := hD
  refine lv_pop hx hb dL_law_794 rfl ?_
  refine lv_aload_n hx hb dL_law_795 rfl (lv_at hl 1 rfl) ?_
  refine lv_aload_n hx hb dL_law_796 rfl (lv_at hl 3 rfl) ?_
  refine lv_iload_n hx hb dL_law_797 rfl (lv_at hl 0 rfl) ?_
  refine lv_iconst (v := 1) hx hb dL_law_798 (by decide) ?_
  refine lv_iadd hx hb dL_law_799 ?_
  refine va_sld hx hb hX hbl hbA hS (ix_in hi hL hL2 (kn := 1) (by decide +kernel) (by decide)) dL_law_800 ?_
  refine k_top (z := y1) ey1.symm ?_
  refine kI.callM (As := [.int y1]) (rest := []) ⟨hx, hb, hml, hown, hg⟩ (m_plan l o r ef ea eg hM y1 ) (cwV 1 hg (kgV wt7_195 wt7_196 wt7_197 wt1_14 wt7_198) rfl rfl rfl (by decide +kernel) ⟨by decide, by decide⟩) hK hP hD hS hA 0 12 rfl rfl rfl hl.1 rfl (Nat.le_of_ble_eq_true rfl) dL_law_801 ⟨by show c0 + 0 + 0 ≤ 600000; omega, by show s0 + 0 + 0 ≤ 7302250; omega⟩ (fun v2 u2 H locs h2 hP hD hS => ?_)
  obtain ⟨ef2, ea2, eg2⟩ := u2
  have hM2 : mI ef2 ea2 := (h2.2.1)
  have hP : va_P D vwCl (lWd K u f1 a1 g1 i0 i1 tt o r ef2 ea2 eg2) H := hP
  have hD : va_D (fun q : Nat => s.heap.size ≤ q) (lWd K u f1 a1 g1 i0 i1 tt o r ef2 ea2 eg2) := hD
  have hRn : f1 12 = ef2 13 := (hE1.1 12 rfl).trans (hR.trans (show ef2 13 = ef 13 from (h2.2.2.2).1 13 rfl).symm)
  have hImn : xIm i0 i1 (ea2 4) := (by rw [(show ea2 4 = ea 4 from (h2.2.2.2).2 4 rfl)]; exact hIm)
  have hTpn : xTq (a1 93) (ea2 11) := xTq_k hTp (hE1.2.1 93 rfl) (show ea2 11 = ea 11 from (h2.2.2.2).2 11 rfl)
  have hChn : f1 14 = ef2 6 := (hE1.1 14 rfl).trans (hCh.trans (show ef2 6 = ef 6 from (h2.2.2.2).1 6 rfl).symm)
  have hFln : f1 13 = ef2 14 := (hE1.1 13 rfl).trans (hFl.trans (show ef2 14 = ef 14 from (h2.2.2.2).1 14 rfl).symm)
  have hSpn : f1 15 = ef2 37 := (hE1.1 15 rfl).trans (hSp.trans (show ef2 37 = ef 37 from (h2.2.2.2).1 37 rfl).symm)
  have hStn : f1 16 = ef2 0 := (hE1.1 16 rfl).trans (hSt.trans (show ef2 0 = ef 0 from (h2.2.2.2).1 0 rfl).symm)
  have hRfn : rfE (a1 94) (ea2 1) := (by rw [show a1 94 = a 94 from (hE1.2.1 94 rfl), (show ea2 1 = ea 1 from (h2.2.2.2).2 1 rfl)]; exact hRf)
  have hSln : rlS K tt f1 a1 (g1.2 15) ef2 ea2 := rlS_k hSl (smFy hE1 (by decide)) (smRy hE1 (by decide)) (hE1.2.2 15 rfl) (show ea2 2 = ea 2 from funext fun i => (h2.2.2.1).2.2.1 i rfl) (show ef2 33 = ef 33 from (h2.2.2.2).1 33 rfl) (show ea2 31 = ea 31 from (h2.2.2.2).2 31 rfl)
  have hJ0n : rlI K tt i0 (imK (ea2 3) 0) := (by rw [(show ea2 3 = ea 3 from (h2.2.2.2).2 3 rfl)]; exact hJ0)
  have hJ1n : rlI K tt i1 (imK (ea2 3) 1) := (by rw [(show ea2 3 = ea 3 from (h2.2.2.2).2 3 rfl)]; exact hJ1)
  refine lv_pop hx hb dL_law_804 rfl ?_
  refine lv_goto (tgt := 1127) hx hb dL_law_805 (by decide) ?_
  refine W.widen (k := c0 + 21) (n := s0 + 467) (by show c0 + 0 + 0 ≤ c0 + 21; omega) (by show s0 + 0 + 0 ≤ s0 + 467; omega) ?_
  exact kk _ _ _ _ _ _ _ _ _ _ _ ⟨hI1, hG1, hj0, hj1, hq0, hq1, hM2, hRn, hImn, hTpn, hChn, hFln, hSpn, hStn, hRfn, hSln, hJ0n, hJ1n⟩ hP hD hS
set_option maxHeartbeats 4000000 in
set_option maxRecDepth 100000 in
theorem law_hands {p : Program} {e : Env} {s : State} {m : MethodId} {below : List Frame} {meth : Method} {c : Code} (l : Launch) {b L : Nat} {xs : Nat → Int32} (C0 : lw_At p s m meth c b L xs) (hL2 : L ≤ 3072) {D : va_G} {K : Nat → ClassId} (hK : va_K D vwCl (tysK K) s) (hV : xE K (fun q : Nat => s.heap.size ≤ q) s s.heap) {u : Nat → Nat} {o : Nat} {r : Nat → Nat} {f : Nat → Int32} {a : Nat → Nat → Int32} {g : xG} {i0 i1 : Option sX} {tt : va_W} {ef : Nat → Int32} {ea : Nat → Nat → Int32} {eg : Nat → Int64} (hJ : rJ K f a g i0 i1 tt ef ea) {i : Int32} {ii : Nat} (hi : i.toInt = (ii : Int)) (hL : ii + 6 ≤ L) {c0 s0 : Nat} (hc0 : c0 + 21 ≤ 600000) (hs0 : s0 + 467 ≤ 7302250) {H : Heap} {locs : List Loc} (hP : va_P D vwCl (lWd K u f a g i0 i1 tt o r ef ea eg) H) (hD : va_D (fun q : Nat => s.heap.size ≤ q) (lWd K u f a g i0 i1 tt o r ef ea eg)) (hS : va_S (fun q : Nat => s.heap.size ≤ q) s.heap H locs) {ls : Array Slot} (hl : lv_has ls 4 [(3, .int i), (2, .ref o), (1, .ref (u 0)), (0, .ref b)]) (kk : ∀ (f : Nat → Int32) (a : Nat → Nat → Int32) (g : xG) (i0 i1 : Option sX) (tt : va_W) (ef : Nat → Int32) (ea : Nat → Nat → Int32) (eg : Nat → Int64) (H : Heap) (locs : List Loc), rJ K f a g i0 i1 tt ef ea → va_P D vwCl (lWd K u f a g i0 i1 tt o r ef ea eg) H → va_D (fun q : Nat => s.heap.size ≤ q) (lWd K u f a g i0 i1 tt o r ef ea eg) → va_S (fun q : Nat => s.heap.size ≤ q) s.heap H locs → W p l e room_1 s m #[Value.ref b] below meth c H locs (c0 + 21) (s0 + 467) (lw_Z below #[Value.ref b] s) (F0 m 1127 ls [])) : W p l e room_1 s m #[Value.ref b] below meth c H locs c0 s0 (lw_Z below #[Value.ref b] s) (F0 m 808 ls []) := by
  obtain ⟨hx, hb, hr, hml, hown, hts, hX, hbl, hlocks, hgv⟩ := id C0
  have hA : ∀ q : Nat, s.heap.size ≤ q → (fun q : Nat => s.heap.size ≤ q) q := fun _ h => h
  have hbA : ¬ (fun q : Nat => s.heap.size ≤ q) b := Nat.not_le.mpr hbl
  have hg : ∀ w ∈ kG, w.before #[Value.ref b] s = true := fun w h => hts w (kG_in w h)
  have hown : s.vm.findClass RL = some m.cls := hown
  obtain ⟨hI, hG, hi0, hi1, hg0, hg1, hM, hR, hIm, hTp, hCh, hFl, hSp, hSt, hRf, hSl, hJ0, hJ1⟩ := hJ
  obtain ⟨DD, P, hSV, hkk, h22, hLM, hLC, hXP, hMP, hPO⟩ := id hSl
  refine lv_aload_n hx hb dL_law_808 rfl (lv_at hl 2 rfl) ?_
  refine lv_aload_n hx hb dL_law_809 rfl (lv_at hl 3 rfl) ?_
  refine lv_iload_n hx hb dL_law_810 rfl (lv_at hl 0 rfl) ?_
  refine lv_iconst (v := 1) hx hb dL_law_811 (by decide) ?_
  refine lv_iadd hx hb dL_law_812 ?_
  refine va_sld hx hb hX hbl hbA hS (ix_in hi hL hL2 (kn := 1) (by decide +kernel) (by decide)) dL_law_813 ?_
  refine lv_topi (fun y1 ey1 => ?_)
  refine kIG.callX (As := [.int y1]) (rest := []) ⟨hx, hb, hml, hown, hg⟩ (x_11_hands l u f a g (iW K i0 ++ (iW K i1 ++ tt)) tt mem_rr hI hG y1  ) (cwV 1 hg (kgV wt5_28 wt5_29 wt5_30 wt1_1 wt5_31) rfl rfl rfl (by decide +kernel) ⟨by decide, by decide⟩) hV hK hP hD hS hA 0 11 rfl rfl rfl hl.1 rfl (Nat.le_of_ble_eq_true rfl) dL_law_814 ⟨by show c0 + 0 ≤ 600000; omega, by show s0 + 0 ≤ 7302250; omega⟩ (fun v1 u1 H locs h1 hP hD hS => ?_)
  obtain ⟨f1, a1, g1⟩ := u1
  have hI1 : xI f1 a1 := h1.2.1
  have hG1 : gOK K g1.2 tt := h1.2.2.1
  have hE1 : xEk ([1888, 1894, 1900, 1905, 1906, 2565], [60, 61, 62, 63, 64, 65, 66, 67, 68, 69, 70, 71, 72, 77, 78, 79, 83], [73]) f a g f1 a1 g1 := h1.2.2.2
  have hj0 := hi0
  have hj1 := hi1
  have hq0 : g1.2 92 0 = iA i0 := by rw [show g1.2 92 = g.2 92 from hE1.2.2 92 rfl]; exact hg0
  have hq1 : g1.2 92 1 = iA i1 := by rw [show g1.2 92 = g.2 92 from hE1.2.2 92 rfl]; exact hg1
  have hP : va_P D vwCl (lWd K u f1 a1 g1 i0 i1 tt o r ef ea eg) H := hP
  have hD : va_D (fun q : Nat => s.heap.size ≤ q) (lWd K u f1 a1 g1 i0 i1 tt o r ef ea eg) := hD
  refine lv_pop hx hb dL_law_817 rfl ?_
  refine lv_aload_n hx hb dL_law_818 rfl (lv_at hl 1 rfl) ?_
  refine lv_aload_n hx hb dL_law_819 rfl (lv_at hl 3 rfl) ?_
  refine lv_iload_n hx hb dL_law_820 rfl (lv_at hl 0 rfl) ?_
  refine lv_iconst (v := 1) hx hb dL_law_821 (by decide) ?_
  refine lv_iadd hx hb dL_law_822 ?_
  refine va_sld hx hb hX hbl hbA hS (ix_in hi hL hL2 (kn := 1) (by decide +kernel) (by decide)) dL_law_823 ?_
  refine k_top (z := y1) ey1.symm ?_
  refine kI.callM (As := [.int y1]) (rest := []) ⟨hx, hb, hml, hown, hg⟩ (m_hands l o r ef ea eg hM y1 ) (cwV 1 hg (kgV wt7_227 wt7_228 wt7_229 wt1_14 wt7_230) rfl rfl rfl (by decide +kernel) ⟨by decide, by decide⟩) hK hP hD hS hA 0 12 rfl rfl rfl hl.1 rfl (Nat.le_of_ble_eq_true rfl) dL_law_824 ⟨by show c0 + 0 + 0 ≤ 600000; omega, by show s0 + 0 + 0 ≤ 7302250; omega⟩ (fun v2 u2 H locs h2 hP hD hS => ?_)
  obtain ⟨ef2, ea2, eg2⟩ := u2
  have hM2 : mI ef2 ea2 := (h2.2.1)
  have hP : va_P D vwCl (lWd K u f1 a1 g1 i0 i1 tt o r ef2 ea2 eg2) H := hP
  have hD : va_D (fun q : Nat => s.heap.size ≤ q) (lWd K u f1 a1 g1 i0 i1 tt o r ef2 ea2 eg2) := hD
  have hRn : f1 12 = ef2 13 := (hE1.1 12 rfl).trans (hR.trans (show ef2 13 = ef 13 from (h2.2.2.2).1 13 rfl).symm)
  have hImn : xIm i0 i1 (ea2 4) := (by rw [(show ea2 4 = ea 4 from (h2.2.2.2).2 4 rfl)]; exact hIm)
  have hTpn : xTq (a1 93) (ea2 11) := xTq_k hTp (hE1.2.1 93 rfl) (show ea2 11 = ea 11 from (h2.2.2.2).2 11 rfl)
  have hChn : f1 14 = ef2 6 := (hE1.1 14 rfl).trans (hCh.trans (show ef2 6 = ef 6 from (h2.2.2.2).1 6 rfl).symm)
  have hFln : f1 13 = ef2 14 := (hE1.1 13 rfl).trans (hFl.trans (show ef2 14 = ef 14 from (h2.2.2.2).1 14 rfl).symm)
  have hSpn : f1 15 = ef2 37 := (hE1.1 15 rfl).trans (hSp.trans (show ef2 37 = ef 37 from (h2.2.2.2).1 37 rfl).symm)
  have hStn : f1 16 = ef2 0 := (hE1.1 16 rfl).trans (hSt.trans (show ef2 0 = ef 0 from (h2.2.2.2).1 0 rfl).symm)
  have hRfn : rfE (a1 94) (ea2 1) := (by rw [show a1 94 = a 94 from (hE1.2.1 94 rfl), (show ea2 1 = ea 1 from (h2.2.2.2).2 1 rfl)]; exact hRf)
  have hSln : rlS K tt f1 a1 (g1.2 15) ef2 ea2 := rlS_k hSl (smFy hE1 (by decide)) (smRy hE1 (by decide)) (hE1.2.2 15 rfl) (show ea2 2 = ea 2 from funext fun i => (h2.2.2.1).2.2.1 i rfl) (show ef2 33 = ef 33 from (h2.2.2.2).1 33 rfl) (show ea2 31 = ea 31 from (h2.2.2.2).2 31 rfl)
  have hJ0n : rlI K tt i0 (imK (ea2 3) 0) := (by rw [(show ea2 3 = ea 3 from (h2.2.2.2).2 3 rfl)]; exact hJ0)
  have hJ1n : rlI K tt i1 (imK (ea2 3) 1) := (by rw [(show ea2 3 = ea 3 from (h2.2.2.2).2 3 rfl)]; exact hJ1)
  refine lv_pop hx hb dL_law_827 rfl ?_
  refine lv_goto (tgt := 1127) hx hb dL_law_828 (by decide) ?_
  refine W.widen (k := c0 + 21) (n := s0 + 467) (by show c0 + 0 + 0 ≤ c0 + 21; omega) (by show s0 + 0 + 0 ≤ s0 + 467; omega) ?_
  exact kk _ _ _ _ _ _ _ _ _ _ _ ⟨hI1, hG1, hj0, hj1, hq0, hq1, hM2, hRn, hImn, hTpn, hChn, hFln, hSpn, hStn, hRfn, hSln, hJ0n, hJ1n⟩ hP hD hS
set_option maxHeartbeats 4000000 in
set_option maxRecDepth 100000 in
theorem law_taught {p : Program} {e : Env} {s : State} {m : MethodId} {below : List Frame} {meth : Method} {c : Code} (l : Launch) {b L : Nat} {xs : Nat → Int32} (C0 : lw_At p s m meth c b L xs) (hL2 : L ≤ 3072) {D : va_G} {K : Nat → ClassId} (hK : va_K D vwCl (tysK K) s) (hV : xE K (fun q : Nat => s.heap.size ≤ q) s s.heap) {u : Nat → Nat} {o : Nat} {r : Nat → Nat} {f : Nat → Int32} {a : Nat → Nat → Int32} {g : xG} {i0 i1 : Option sX} {tt : va_W} {ef : Nat → Int32} {ea : Nat → Nat → Int32} {eg : Nat → Int64} (hJ : rJ K f a g i0 i1 tt ef ea) {i : Int32} {ii : Nat} (hi : i.toInt = (ii : Int)) (hL : ii + 6 ≤ L) {c0 s0 : Nat} (hc0 : c0 + 21 ≤ 600000) (hs0 : s0 + 467 ≤ 7302250) {H : Heap} {locs : List Loc} (hP : va_P D vwCl (lWd K u f a g i0 i1 tt o r ef ea eg) H) (hD : va_D (fun q : Nat => s.heap.size ≤ q) (lWd K u f a g i0 i1 tt o r ef ea eg)) (hS : va_S (fun q : Nat => s.heap.size ≤ q) s.heap H locs) {ls : Array Slot} (hl : lv_has ls 4 [(3, .int i), (2, .ref o), (1, .ref (u 0)), (0, .ref b)]) (kk : ∀ (f : Nat → Int32) (a : Nat → Nat → Int32) (g : xG) (i0 i1 : Option sX) (tt : va_W) (ef : Nat → Int32) (ea : Nat → Nat → Int32) (eg : Nat → Int64) (H : Heap) (locs : List Loc), rJ K f a g i0 i1 tt ef ea → va_P D vwCl (lWd K u f a g i0 i1 tt o r ef ea eg) H → va_D (fun q : Nat => s.heap.size ≤ q) (lWd K u f a g i0 i1 tt o r ef ea eg) → va_S (fun q : Nat => s.heap.size ≤ q) s.heap H locs → W p l e room_1 s m #[Value.ref b] below meth c H locs (c0 + 21) (s0 + 467) (lw_Z below #[Value.ref b] s) (F0 m 1127 ls [])) : W p l e room_1 s m #[Value.ref b] below meth c H locs c0 s0 (lw_Z below #[Value.ref b] s) (F0 m 831 ls []) := by
  obtain ⟨hx, hb, hr, hml, hown, hts, hX, hbl, hlocks, hgv⟩ := id C0
  have hA : ∀ q : Nat, s.heap.size ≤ q → (fun q : Nat => s.heap.size ≤ q) q := fun _ h => h
  have hbA : ¬ (fun q : Nat => s.heap.size ≤ q) b := Nat.not_le.mpr hbl
  have hg : ∀ w ∈ kG, w.before #[Value.ref b] s = true := fun w h => hts w (kG_in w h)
  have hown : s.vm.findClass RL = some m.cls := hown
  obtain ⟨hI, hG, hi0, hi1, hg0, hg1, hM, hR, hIm, hTp, hCh, hFl, hSp, hSt, hRf, hSl, hJ0, hJ1⟩ := hJ
  obtain ⟨DD, P, hSV, hkk, h22, hLM, hLC, hXP, hMP, hPO⟩ := id hSl
  refine lv_aload_n hx hb dL_law_831 rfl (lv_at hl 2 rfl) ?_
  refine lv_aload_n hx hb dL_law_832 rfl (lv_at hl 3 rfl) ?_
  refine lv_iload_n hx hb dL_law_833 rfl (lv_at hl 0 rfl) ?_
  refine lv_iconst (v := 1) hx hb dL_law_834 (by decide) ?_
  refine lv_iadd hx hb dL_law_835 ?_
  refine va_sld hx hb hX hbl hbA hS (ix_in hi hL hL2 (kn := 1) (by decide +kernel) (by decide)) dL_law_836 ?_
  refine lv_topi (fun y1 ey1 => ?_)
  refine kIG.callX (As := [.int y1]) (rest := []) ⟨hx, hb, hml, hown, hg⟩ (x_11_taught l u f a g (iW K i0 ++ (iW K i1 ++ tt)) tt mem_rr hI hG y1  ) (cwV 1 hg (kgV wt5_43 wt5_44 wt5_45 wt1_1 wt5_46) rfl rfl rfl (by decide +kernel) ⟨by decide, by decide⟩) hV hK hP hD hS hA 0 11 rfl rfl rfl hl.1 rfl (Nat.le_of_ble_eq_true rfl) dL_law_837 ⟨by show c0 + 0 ≤ 600000; omega, by show s0 + 0 ≤ 7302250; omega⟩ (fun v1 u1 H locs h1 hP hD hS => ?_)
  obtain ⟨f1, a1, g1⟩ := u1
  have hI1 : xI f1 a1 := h1.2.1
  have hG1 : gOK K g1.2 tt := h1.2.2.1
  have hE1 : xEk ([1858, 1859, 1888, 1894, 1900, 1905, 1906, 2566], [60, 61, 62, 63, 64, 65, 66, 67, 68, 69, 70, 71, 72, 77, 78, 79, 81, 82, 84], [73]) f a g f1 a1 g1 := h1.2.2.2
  have hj0 := hi0
  have hj1 := hi1
  have hq0 : g1.2 92 0 = iA i0 := by rw [show g1.2 92 = g.2 92 from hE1.2.2 92 rfl]; exact hg0
  have hq1 : g1.2 92 1 = iA i1 := by rw [show g1.2 92 = g.2 92 from hE1.2.2 92 rfl]; exact hg1
  have hP : va_P D vwCl (lWd K u f1 a1 g1 i0 i1 tt o r ef ea eg) H := hP
  have hD : va_D (fun q : Nat => s.heap.size ≤ q) (lWd K u f1 a1 g1 i0 i1 tt o r ef ea eg) := hD
  refine lv_pop hx hb dL_law_840 rfl ?_
  refine lv_aload_n hx hb dL_law_841 rfl (lv_at hl 1 rfl) ?_
  refine lv_aload_n hx hb dL_law_842 rfl (lv_at hl 3 rfl) ?_
  refine lv_iload_n hx hb dL_law_843 rfl (lv_at hl 0 rfl) ?_
  refine lv_iconst (v := 1) hx hb dL_law_844 (by decide) ?_
  refine lv_iadd hx hb dL_law_845 ?_
  refine va_sld hx hb hX hbl hbA hS (ix_in hi hL hL2 (kn := 1) (by decide +kernel) (by decide)) dL_law_846 ?_
  refine k_top (z := y1) ey1.symm ?_
  refine kI.callM (As := [.int y1]) (rest := []) ⟨hx, hb, hml, hown, hg⟩ (m_taught l o r ef ea eg hM y1 ) (cwV 1 hg (kgV wt7_231 wt7_232 wt7_233 wt1_14 wt7_234) rfl rfl rfl (by decide +kernel) ⟨by decide, by decide⟩) hK hP hD hS hA 0 12 rfl rfl rfl hl.1 rfl (Nat.le_of_ble_eq_true rfl) dL_law_847 ⟨by show c0 + 0 + 0 ≤ 600000; omega, by show s0 + 0 + 0 ≤ 7302250; omega⟩ (fun v2 u2 H locs h2 hP hD hS => ?_)
  obtain ⟨ef2, ea2, eg2⟩ := u2
  have hM2 : mI ef2 ea2 := (h2.2.1)
  have hP : va_P D vwCl (lWd K u f1 a1 g1 i0 i1 tt o r ef2 ea2 eg2) H := hP
  have hD : va_D (fun q : Nat => s.heap.size ≤ q) (lWd K u f1 a1 g1 i0 i1 tt o r ef2 ea2 eg2) := hD
  have hRn : f1 12 = ef2 13 := (hE1.1 12 rfl).trans (hR.trans (show ef2 13 = ef 13 from (h2.2.2.2).1 13 rfl).symm)
  have hImn : xIm i0 i1 (ea2 4) := (by rw [(show ea2 4 = ea 4 from (h2.2.2.2).2 4 rfl)]; exact hIm)
  have hTpn : xTq (a1 93) (ea2 11) := xTq_k hTp (hE1.2.1 93 rfl) (show ea2 11 = ea 11 from (h2.2.2.2).2 11 rfl)
  have hChn : f1 14 = ef2 6 := (hE1.1 14 rfl).trans (hCh.trans (show ef2 6 = ef 6 from (h2.2.2.2).1 6 rfl).symm)
  have hFln : f1 13 = ef2 14 := (hE1.1 13 rfl).trans (hFl.trans (show ef2 14 = ef 14 from (h2.2.2.2).1 14 rfl).symm)
  have hSpn : f1 15 = ef2 37 := (hE1.1 15 rfl).trans (hSp.trans (show ef2 37 = ef 37 from (h2.2.2.2).1 37 rfl).symm)
  have hStn : f1 16 = ef2 0 := (hE1.1 16 rfl).trans (hSt.trans (show ef2 0 = ef 0 from (h2.2.2.2).1 0 rfl).symm)
  have hRfn : rfE (a1 94) (ea2 1) := (by rw [show a1 94 = a 94 from (hE1.2.1 94 rfl), (show ea2 1 = ea 1 from (h2.2.2.2).2 1 rfl)]; exact hRf)
  have hSln : rlS K tt f1 a1 (g1.2 15) ef2 ea2 := rlS_k hSl (smFy hE1 (by decide)) (smRy hE1 (by decide)) (hE1.2.2 15 rfl) (show ea2 2 = ea 2 from funext fun i => (h2.2.2.1).2.2.1 i rfl) (show ef2 33 = ef 33 from (h2.2.2.2).1 33 rfl) (show ea2 31 = ea 31 from (h2.2.2.2).2 31 rfl)
  have hJ0n : rlI K tt i0 (imK (ea2 3) 0) := (by rw [(show ea2 3 = ea 3 from (h2.2.2.2).2 3 rfl)]; exact hJ0)
  have hJ1n : rlI K tt i1 (imK (ea2 3) 1) := (by rw [(show ea2 3 = ea 3 from (h2.2.2.2).2 3 rfl)]; exact hJ1)
  refine lv_pop hx hb dL_law_850 rfl ?_
  refine lv_goto (tgt := 1127) hx hb dL_law_851 (by decide) ?_
  refine W.widen (k := c0 + 21) (n := s0 + 467) (by show c0 + 0 + 0 ≤ c0 + 21; omega) (by show s0 + 0 + 0 ≤ s0 + 467; omega) ?_
  exact kk _ _ _ _ _ _ _ _ _ _ _ ⟨hI1, hG1, hj0, hj1, hq0, hq1, hM2, hRn, hImn, hTpn, hChn, hFln, hSpn, hStn, hRfn, hSln, hJ0n, hJ1n⟩ hP hD hS
set_option maxHeartbeats 4000000 in
set_option maxRecDepth 100000 in
theorem law_unseen {p : Program} {e : Env} {s : State} {m : MethodId} {below : List Frame} {meth : Method} {c : Code} (l : Launch) {b L : Nat} {xs : Nat → Int32} (C0 : lw_At p s m meth c b L xs) (hL2 : L ≤ 3072) {D : va_G} {K : Nat → ClassId} (hK : va_K D vwCl (tysK K) s) (hV : xE K (fun q : Nat => s.heap.size ≤ q) s s.heap) {u : Nat → Nat} {o : Nat} {r : Nat → Nat} {f : Nat → Int32} {a : Nat → Nat → Int32} {g : xG} {i0 i1 : Option sX} {tt : va_W} {ef : Nat → Int32} {ea : Nat → Nat → Int32} {eg : Nat → Int64} (hJ : rJ K f a g i0 i1 tt ef ea) {i : Int32} {ii : Nat} (hi : i.toInt = (ii : Int)) (hL : ii + 6 ≤ L) {c0 s0 : Nat} (hc0 : c0 + 21 ≤ 600000) (hs0 : s0 + 467 ≤ 7302250) {H : Heap} {locs : List Loc} (hP : va_P D vwCl (lWd K u f a g i0 i1 tt o r ef ea eg) H) (hD : va_D (fun q : Nat => s.heap.size ≤ q) (lWd K u f a g i0 i1 tt o r ef ea eg)) (hS : va_S (fun q : Nat => s.heap.size ≤ q) s.heap H locs) {ls : Array Slot} (hl : lv_has ls 4 [(3, .int i), (2, .ref o), (1, .ref (u 0)), (0, .ref b)]) (kk : ∀ (f : Nat → Int32) (a : Nat → Nat → Int32) (g : xG) (i0 i1 : Option sX) (tt : va_W) (ef : Nat → Int32) (ea : Nat → Nat → Int32) (eg : Nat → Int64) (H : Heap) (locs : List Loc), rJ K f a g i0 i1 tt ef ea → va_P D vwCl (lWd K u f a g i0 i1 tt o r ef ea eg) H → va_D (fun q : Nat => s.heap.size ≤ q) (lWd K u f a g i0 i1 tt o r ef ea eg) → va_S (fun q : Nat => s.heap.size ≤ q) s.heap H locs → W p l e room_1 s m #[Value.ref b] below meth c H locs (c0 + 21) (s0 + 467) (lw_Z below #[Value.ref b] s) (F0 m 1127 ls [])) : W p l e room_1 s m #[Value.ref b] below meth c H locs c0 s0 (lw_Z below #[Value.ref b] s) (F0 m 854 ls []) := by
  obtain ⟨hx, hb, hr, hml, hown, hts, hX, hbl, hlocks, hgv⟩ := id C0
  have hA : ∀ q : Nat, s.heap.size ≤ q → (fun q : Nat => s.heap.size ≤ q) q := fun _ h => h
  have hbA : ¬ (fun q : Nat => s.heap.size ≤ q) b := Nat.not_le.mpr hbl
  have hg : ∀ w ∈ kG, w.before #[Value.ref b] s = true := fun w h => hts w (kG_in w h)
  have hown : s.vm.findClass RL = some m.cls := hown
  obtain ⟨hI, hG, hi0, hi1, hg0, hg1, hM, hR, hIm, hTp, hCh, hFl, hSp, hSt, hRf, hSl, hJ0, hJ1⟩ := hJ
  obtain ⟨DD, P, hSV, hkk, h22, hLM, hLC, hXP, hMP, hPO⟩ := id hSl
  refine lv_aload_n hx hb dL_law_854 rfl (lv_at hl 2 rfl) ?_
  refine lv_aload_n hx hb dL_law_855 rfl (lv_at hl 3 rfl) ?_
  refine lv_iload_n hx hb dL_law_856 rfl (lv_at hl 0 rfl) ?_
  refine lv_iconst (v := 1) hx hb dL_law_857 (by decide) ?_
  refine lv_iadd hx hb dL_law_858 ?_
  refine va_sld hx hb hX hbl hbA hS (ix_in hi hL hL2 (kn := 1) (by decide +kernel) (by decide)) dL_law_859 ?_
  refine lv_topi (fun y1 ey1 => ?_)
  refine kLG.callX (As := [.int y1]) (rest := []) ⟨hx, hb, hml, hown, hg⟩ (x_11_unseen l u f a g (iW K i0 ++ (iW K i1 ++ tt)) tt mem_rr hI hG y1  ) (cwV 1 hg (kgV wt5_60 wt5_61 wt5_62 wt1_1 wt5_63) rfl rfl rfl (by decide +kernel) ⟨by decide, by decide⟩) hV hK hP hD hS hA 0 11 rfl rfl rfl hl.1 rfl (Nat.le_of_ble_eq_true rfl) dL_law_860 ⟨by show c0 + 0 ≤ 600000; omega, by show s0 + 0 ≤ 7302250; omega⟩ (fun v1 u1 H locs h1 hP hD hS => ?_)
  obtain ⟨f1, a1, g1⟩ := u1
  have hI1 : xI f1 a1 := h1.2.1
  have hG1 : gOK K g1.2 tt := h1.2.2.1
  have hE1 : xEk ([1888, 1894, 1900, 1905, 1906], [60, 61, 62, 63, 64, 65, 66, 67, 68, 69, 70, 71, 72, 77, 78, 79], [73]) f a g f1 a1 g1 := h1.2.2.2
  have hj0 := hi0
  have hj1 := hi1
  have hq0 : g1.2 92 0 = iA i0 := by rw [show g1.2 92 = g.2 92 from hE1.2.2 92 rfl]; exact hg0
  have hq1 : g1.2 92 1 = iA i1 := by rw [show g1.2 92 = g.2 92 from hE1.2.2 92 rfl]; exact hg1
  have hP : va_P D vwCl (lWd K u f1 a1 g1 i0 i1 tt o r ef ea eg) H := hP
  have hD : va_D (fun q : Nat => s.heap.size ≤ q) (lWd K u f1 a1 g1 i0 i1 tt o r ef ea eg) := hD
  refine lv_pop2_2 hx hb dL_law_863 rfl ?_
  refine lv_aload_n hx hb dL_law_864 rfl (lv_at hl 1 rfl) ?_
  refine lv_aload_n hx hb dL_law_865 rfl (lv_at hl 3 rfl) ?_
  refine lv_iload_n hx hb dL_law_866 rfl (lv_at hl 0 rfl) ?_
  refine lv_iconst (v := 1) hx hb dL_law_867 (by decide) ?_
  refine lv_iadd hx hb dL_law_868 ?_
  refine va_sld hx hb hX hbl hbA hS (ix_in hi hL hL2 (kn := 1) (by decide +kernel) (by decide)) dL_law_869 ?_
  refine k_top (z := y1) ey1.symm ?_
  refine kL.callM (As := [.int y1]) (rest := []) ⟨hx, hb, hml, hown, hg⟩ (m_unseen l o r ef ea eg hM y1 ) (cwV 1 hg (kgV wt8_0 wt8_1 wt8_2 wt1_14 wt8_3) rfl rfl rfl (by decide +kernel) ⟨by decide, by decide⟩) hK hP hD hS hA 0 12 rfl rfl rfl hl.1 rfl (Nat.le_of_ble_eq_true rfl) dL_law_870 ⟨by show c0 + 0 + 0 ≤ 600000; omega, by show s0 + 0 + 0 ≤ 7302250; omega⟩ (fun v2 u2 H locs h2 hP hD hS => ?_)
  obtain ⟨ef2, ea2, eg2⟩ := u2
  have hM2 : mI ef2 ea2 := (h2.2.1)
  have hP : va_P D vwCl (lWd K u f1 a1 g1 i0 i1 tt o r ef2 ea2 eg2) H := hP
  have hD : va_D (fun q : Nat => s.heap.size ≤ q) (lWd K u f1 a1 g1 i0 i1 tt o r ef2 ea2 eg2) := hD
  have hRn : f1 12 = ef2 13 := (hE1.1 12 rfl).trans (hR.trans (show ef2 13 = ef 13 from (h2.2.2.2).1 13 rfl).symm)
  have hImn : xIm i0 i1 (ea2 4) := (by rw [(show ea2 4 = ea 4 from (h2.2.2.2).2 4 rfl)]; exact hIm)
  have hTpn : xTq (a1 93) (ea2 11) := xTq_k hTp (hE1.2.1 93 rfl) (show ea2 11 = ea 11 from (h2.2.2.2).2 11 rfl)
  have hChn : f1 14 = ef2 6 := (hE1.1 14 rfl).trans (hCh.trans (show ef2 6 = ef 6 from (h2.2.2.2).1 6 rfl).symm)
  have hFln : f1 13 = ef2 14 := (hE1.1 13 rfl).trans (hFl.trans (show ef2 14 = ef 14 from (h2.2.2.2).1 14 rfl).symm)
  have hSpn : f1 15 = ef2 37 := (hE1.1 15 rfl).trans (hSp.trans (show ef2 37 = ef 37 from (h2.2.2.2).1 37 rfl).symm)
  have hStn : f1 16 = ef2 0 := (hE1.1 16 rfl).trans (hSt.trans (show ef2 0 = ef 0 from (h2.2.2.2).1 0 rfl).symm)
  have hRfn : rfE (a1 94) (ea2 1) := (by rw [show a1 94 = a 94 from (hE1.2.1 94 rfl), (show ea2 1 = ea 1 from (h2.2.2.2).2 1 rfl)]; exact hRf)
  have hSln : rlS K tt f1 a1 (g1.2 15) ef2 ea2 := rlS_k hSl (smFy hE1 (by decide)) (smRy hE1 (by decide)) (hE1.2.2 15 rfl) (show ea2 2 = ea 2 from funext fun i => (h2.2.2.1).2.2.1 i rfl) (show ef2 33 = ef 33 from (h2.2.2.2).1 33 rfl) (show ea2 31 = ea 31 from (h2.2.2.2).2 31 rfl)
  have hJ0n : rlI K tt i0 (imK (ea2 3) 0) := (by rw [(show ea2 3 = ea 3 from (h2.2.2.2).2 3 rfl)]; exact hJ0)
  have hJ1n : rlI K tt i1 (imK (ea2 3) 1) := (by rw [(show ea2 3 = ea 3 from (h2.2.2.2).2 3 rfl)]; exact hJ1)
  refine lv_pop2_2 hx hb dL_law_873 rfl ?_
  refine lv_goto (tgt := 1127) hx hb dL_law_874 (by decide) ?_
  refine W.widen (k := c0 + 21) (n := s0 + 467) (by show c0 + 0 + 0 ≤ c0 + 21; omega) (by show s0 + 0 + 0 ≤ s0 + 467; omega) ?_
  exact kk _ _ _ _ _ _ _ _ _ _ _ ⟨hI1, hG1, hj0, hj1, hq0, hq1, hM2, hRn, hImn, hTpn, hChn, hFln, hSpn, hStn, hRfn, hSln, hJ0n, hJ1n⟩ hP hD hS
set_option maxHeartbeats 4000000 in
set_option maxRecDepth 100000 in
theorem law_sight {p : Program} {e : Env} {s : State} {m : MethodId} {below : List Frame} {meth : Method} {c : Code} (l : Launch) {b L : Nat} {xs : Nat → Int32} (C0 : lw_At p s m meth c b L xs) (hL2 : L ≤ 3072) {D : va_G} {K : Nat → ClassId} (hK : va_K D vwCl (tysK K) s) (hV : xE K (fun q : Nat => s.heap.size ≤ q) s s.heap) {u : Nat → Nat} {o : Nat} {r : Nat → Nat} {f : Nat → Int32} {a : Nat → Nat → Int32} {g : xG} {i0 i1 : Option sX} {tt : va_W} {ef : Nat → Int32} {ea : Nat → Nat → Int32} {eg : Nat → Int64} (hJ : rJ K f a g i0 i1 tt ef ea) {i : Int32} {ii : Nat} (hi : i.toInt = (ii : Int)) (hL : ii + 6 ≤ L) {c0 s0 : Nat} (hc0 : c0 + 21 ≤ 600000) (hs0 : s0 + 467 ≤ 7302250) {H : Heap} {locs : List Loc} (hP : va_P D vwCl (lWd K u f a g i0 i1 tt o r ef ea eg) H) (hD : va_D (fun q : Nat => s.heap.size ≤ q) (lWd K u f a g i0 i1 tt o r ef ea eg)) (hS : va_S (fun q : Nat => s.heap.size ≤ q) s.heap H locs) {ls : Array Slot} (hl : lv_has ls 4 [(3, .int i), (2, .ref o), (1, .ref (u 0)), (0, .ref b)]) (kk : ∀ (f : Nat → Int32) (a : Nat → Nat → Int32) (g : xG) (i0 i1 : Option sX) (tt : va_W) (ef : Nat → Int32) (ea : Nat → Nat → Int32) (eg : Nat → Int64) (H : Heap) (locs : List Loc), rJ K f a g i0 i1 tt ef ea → va_P D vwCl (lWd K u f a g i0 i1 tt o r ef ea eg) H → va_D (fun q : Nat => s.heap.size ≤ q) (lWd K u f a g i0 i1 tt o r ef ea eg) → va_S (fun q : Nat => s.heap.size ≤ q) s.heap H locs → W p l e room_1 s m #[Value.ref b] below meth c H locs (c0 + 21) (s0 + 467) (lw_Z below #[Value.ref b] s) (F0 m 1127 ls [])) : W p l e room_1 s m #[Value.ref b] below meth c H locs c0 s0 (lw_Z below #[Value.ref b] s) (F0 m 877 ls []) := by
  obtain ⟨hx, hb, hr, hml, hown, hts, hX, hbl, hlocks, hgv⟩ := id C0
  have hA : ∀ q : Nat, s.heap.size ≤ q → (fun q : Nat => s.heap.size ≤ q) q := fun _ h => h
  have hbA : ¬ (fun q : Nat => s.heap.size ≤ q) b := Nat.not_le.mpr hbl
  have hg : ∀ w ∈ kG, w.before #[Value.ref b] s = true := fun w h => hts w (kG_in w h)
  have hown : s.vm.findClass RL = some m.cls := hown
  obtain ⟨hI, hG, hi0, hi1, hg0, hg1, hM, hR, hIm, hTp, hCh, hFl, hSp, hSt, hRf, hSl, hJ0, hJ1⟩ := hJ
  obtain ⟨DD, P, hSV, hkk, h22, hLM, hLC, hXP, hMP, hPO⟩ := id hSl
  refine lv_aload_n hx hb dL_law_877 rfl (lv_at hl 2 rfl) ?_
  refine lv_aload_n hx hb dL_law_878 rfl (lv_at hl 3 rfl) ?_
  refine lv_iload_n hx hb dL_law_879 rfl (lv_at hl 0 rfl) ?_
  refine lv_iconst (v := 1) hx hb dL_law_880 (by decide) ?_
  refine lv_iadd hx hb dL_law_881 ?_
  refine va_sld hx hb hX hbl hbA hS (ix_in hi hL hL2 (kn := 1) (by decide +kernel) (by decide)) dL_law_882 ?_
  refine lv_topi (fun y1 ey1 => ?_)
  refine lv_aload_n hx hb dL_law_883 rfl (lv_at hl 3 rfl) ?_
  refine lv_iload_n hx hb dL_law_884 rfl (lv_at hl 0 rfl) ?_
  refine lv_iconst (v := 2) hx hb dL_law_885 (by decide) ?_
  refine lv_iadd hx hb dL_law_886 ?_
  refine va_sld hx hb hX hbl hbA hS (ix_in hi hL hL2 (kn := 2) (by decide +kernel) (by decide)) dL_law_887 ?_
  refine lv_topi (fun y2 ey2 => ?_)
  refine lv_aload_n hx hb dL_law_888 rfl (lv_at hl 3 rfl) ?_
  refine lv_iload_n hx hb dL_law_889 rfl (lv_at hl 0 rfl) ?_
  refine lv_iconst (v := 3) hx hb dL_law_890 (by decide) ?_
  refine lv_iadd hx hb dL_law_891 ?_
  refine va_sld hx hb hX hbl hbA hS (ix_in hi hL hL2 (kn := 3) (by decide +kernel) (by decide)) dL_law_892 ?_
  refine lv_topi (fun y3 ey3 => ?_)
  refine kIG.callX (As := [.int y1, .int y2, .int y3]) (rest := []) ⟨hx, hb, hml, hown, hg⟩ (z_sight l u f a g (iW K i0 ++ (iW K i1 ++ tt)) tt mem_rr hI hG y1 y2 y3 (ea 2) hSV hkk P hXP) (cwV 3 hg (kgV wt5_77 wt5_78 wt5_79 wt1_1 wt5_80) rfl rfl rfl (by decide +kernel) ⟨by decide, by decide⟩) hV hK hP hD hS hA 0 11 rfl rfl rfl hl.1 rfl (Nat.le_of_ble_eq_true rfl) dL_law_893 ⟨by show c0 + 0 ≤ 600000; omega, by show s0 + 0 ≤ 7302250; omega⟩ (fun v1 u1 H locs h1 hP hD hS => ?_)
  obtain ⟨f1, a1, g1⟩ := u1
  have hI1 : xI f1 a1 := h1.2.1
  have hG1 : gOK K g1.2 tt := h1.2.2.1
  have hE1 : xEk ([16, 44], [12, 13, 14, 94], []) f a g f1 a1 g1 := h1.2.2.2.1
  have hj0 := hi0
  have hj1 := hi1
  have hq0 : g1.2 92 0 = iA i0 := by rw [show g1.2 92 = g.2 92 from hE1.2.2 92 rfl]; exact hg0
  have hq1 : g1.2 92 1 = iA i1 := by rw [show g1.2 92 = g.2 92 from hE1.2.2 92 rfl]; exact hg1
  have hP : va_P D vwCl (lWd K u f1 a1 g1 i0 i1 tt o r ef ea eg) H := hP
  have hD : va_D (fun q : Nat => s.heap.size ≤ q) (lWd K u f1 a1 g1 i0 i1 tt o r ef ea eg) := hD
  refine lv_pop hx hb dL_law_896 rfl ?_
  refine lv_aload_n hx hb dL_law_897 rfl (lv_at hl 1 rfl) ?_
  refine lv_aload_n hx hb dL_law_898 rfl (lv_at hl 3 rfl) ?_
  refine lv_iload_n hx hb dL_law_899 rfl (lv_at hl 0 rfl) ?_
  refine lv_iconst (v := 1) hx hb dL_law_900 (by decide) ?_
  refine lv_iadd hx hb dL_law_901 ?_
  refine va_sld hx hb hX hbl hbA hS (ix_in hi hL hL2 (kn := 1) (by decide +kernel) (by decide)) dL_law_902 ?_
  refine k_top (z := y1) ey1.symm ?_
  refine lv_aload_n hx hb dL_law_903 rfl (lv_at hl 3 rfl) ?_
  refine lv_iload_n hx hb dL_law_904 rfl (lv_at hl 0 rfl) ?_
  refine lv_iconst (v := 2) hx hb dL_law_905 (by decide) ?_
  refine lv_iadd hx hb dL_law_906 ?_
  refine va_sld hx hb hX hbl hbA hS (ix_in hi hL hL2 (kn := 2) (by decide +kernel) (by decide)) dL_law_907 ?_
  refine k_top (z := y2) ey2.symm ?_
  refine lv_aload_n hx hb dL_law_908 rfl (lv_at hl 3 rfl) ?_
  refine lv_iload_n hx hb dL_law_909 rfl (lv_at hl 0 rfl) ?_
  refine lv_iconst (v := 3) hx hb dL_law_910 (by decide) ?_
  refine lv_iadd hx hb dL_law_911 ?_
  refine va_sld hx hb hX hbl hbA hS (ix_in hi hL hL2 (kn := 3) (by decide +kernel) (by decide)) dL_law_912 ?_
  refine k_top (z := y3) ey3.symm ?_
  refine kI.callM (As := [.int y1, .int y2, .int y3]) (rest := []) ⟨hx, hb, hml, hown, hg⟩ (n_sight l o r ef ea eg hM y1 y2 y3 P hMP) (cwV 3 hg (kgV wt8_7 wt8_8 wt8_9 wt1_14 wt8_10) rfl rfl rfl (by decide +kernel) ⟨by decide, by decide⟩) hK hP hD hS hA 0 12 rfl rfl rfl hl.1 rfl (Nat.le_of_ble_eq_true rfl) dL_law_913 ⟨by show c0 + 0 + 0 ≤ 600000; omega, by show s0 + 0 + 0 ≤ 7302250; omega⟩ (fun v2 u2 H locs h2 hP hD hS => ?_)
  obtain ⟨ef2, ea2, eg2⟩ := u2
  have hM2 : mI ef2 ea2 := (h2.2.1)
  have hP : va_P D vwCl (lWd K u f1 a1 g1 i0 i1 tt o r ef2 ea2 eg2) H := hP
  have hD : va_D (fun q : Nat => s.heap.size ≤ q) (lWd K u f1 a1 g1 i0 i1 tt o r ef2 ea2 eg2) := hD
  have hb1 : sgtP y1 y2 y3 v1 (f 32) (f 44) (f1 44) := (h1.2.2.2.2.1)
  rw [show f 32 = ea 2 102 from sv_parts hSV, show f 44 = ea 2 104 from sv_sights hSV] at hb1
  have hb2 : sgtP y1 y2 y3 v2 (ea 2 102) (ea 2 104) (ea2 2 104) := (h2.2.2.2.1)
  have hv := (sgt_eq hb1 hb2).1
  have hq := rlS_t (h1.2.2.2.2.2) (h2.2.2.2.2.1) hv hkk h22 hLM hLC hPO (hE1.2.2 15 rfl) hRf (fun n9 => by have q := sgt_o hb2 (hv ▸ n9); exact sgt_n hkk q.1 q.2.1 q.2.2 h22 hLM hPO)
  have hRn : f1 12 = ef2 13 := (hE1.1 12 rfl).trans (hR.trans (show ef2 13 = ef 13 from (h2.2.2.2.2.2).1 13 rfl).symm)
  have hImn : xIm i0 i1 (ea2 4) := (by rw [(show ea2 4 = ea 4 from (h2.2.2.2.2.2).2 4 rfl)]; exact hIm)
  have hTpn : xTq (a1 93) (ea2 11) := xTq_k hTp (hE1.2.1 93 rfl) (show ea2 11 = ea 11 from (h2.2.2.2.2.2).2 11 rfl)
  have hChn : f1 14 = ef2 6 := (hE1.1 14 rfl).trans (hCh.trans (show ef2 6 = ef 6 from (h2.2.2.2.2.2).1 6 rfl).symm)
  have hFln : f1 13 = ef2 14 := (hE1.1 13 rfl).trans (hFl.trans (show ef2 14 = ef 14 from (h2.2.2.2.2.2).1 14 rfl).symm)
  have hSpn : f1 15 = ef2 37 := (hE1.1 15 rfl).trans (hSp.trans (show ef2 37 = ef 37 from (h2.2.2.2.2.2).1 37 rfl).symm)
  have hStn : f1 16 = ef2 0 := hq.2.1
  have hRfn : rfE (a1 94) (ea2 1) := hq.2.2
  have hSln : rlS K tt f1 a1 (g1.2 15) ef2 ea2 := hq.1
  have hJ0n : rlI K tt i0 (imK (ea2 3) 0) := (by rw [(show ea2 3 = ea 3 from (h2.2.2.2.2.2).2 3 rfl)]; exact hJ0)
  have hJ1n : rlI K tt i1 (imK (ea2 3) 1) := (by rw [(show ea2 3 = ea 3 from (h2.2.2.2.2.2).2 3 rfl)]; exact hJ1)
  refine lv_pop hx hb dL_law_916 rfl ?_
  refine lv_goto (tgt := 1127) hx hb dL_law_917 (by decide) ?_
  refine W.widen (k := c0 + 21) (n := s0 + 467) (by show c0 + 0 + 0 ≤ c0 + 21; omega) (by show s0 + 0 + 0 ≤ s0 + 467; omega) ?_
  exact kk _ _ _ _ _ _ _ _ _ _ _ ⟨hI1, hG1, hj0, hj1, hq0, hq1, hM2, hRn, hImn, hTpn, hChn, hFln, hSpn, hStn, hRfn, hSln, hJ0n, hJ1n⟩ hP hD hS
set_option maxHeartbeats 4000000 in
set_option maxRecDepth 100000 in
theorem law_forget {p : Program} {e : Env} {s : State} {m : MethodId} {below : List Frame} {meth : Method} {c : Code} (l : Launch) {b L : Nat} {xs : Nat → Int32} (C0 : lw_At p s m meth c b L xs) (hL2 : L ≤ 3072) {D : va_G} {K : Nat → ClassId} (hK : va_K D vwCl (tysK K) s) (hV : xE K (fun q : Nat => s.heap.size ≤ q) s s.heap) {u : Nat → Nat} {o : Nat} {r : Nat → Nat} {f : Nat → Int32} {a : Nat → Nat → Int32} {g : xG} {i0 i1 : Option sX} {tt : va_W} {ef : Nat → Int32} {ea : Nat → Nat → Int32} {eg : Nat → Int64} (hJ : rJ K f a g i0 i1 tt ef ea) {i : Int32} {ii : Nat} (hi : i.toInt = (ii : Int)) (hL : ii + 6 ≤ L) {c0 s0 : Nat} (hc0 : c0 + 21 ≤ 600000) (hs0 : s0 + 467 ≤ 7302250) {H : Heap} {locs : List Loc} (hP : va_P D vwCl (lWd K u f a g i0 i1 tt o r ef ea eg) H) (hD : va_D (fun q : Nat => s.heap.size ≤ q) (lWd K u f a g i0 i1 tt o r ef ea eg)) (hS : va_S (fun q : Nat => s.heap.size ≤ q) s.heap H locs) {ls : Array Slot} (hl : lv_has ls 4 [(3, .int i), (2, .ref o), (1, .ref (u 0)), (0, .ref b)]) (kk : ∀ (f : Nat → Int32) (a : Nat → Nat → Int32) (g : xG) (i0 i1 : Option sX) (tt : va_W) (ef : Nat → Int32) (ea : Nat → Nat → Int32) (eg : Nat → Int64) (H : Heap) (locs : List Loc), rJ K f a g i0 i1 tt ef ea → va_P D vwCl (lWd K u f a g i0 i1 tt o r ef ea eg) H → va_D (fun q : Nat => s.heap.size ≤ q) (lWd K u f a g i0 i1 tt o r ef ea eg) → va_S (fun q : Nat => s.heap.size ≤ q) s.heap H locs → W p l e room_1 s m #[Value.ref b] below meth c H locs (c0 + 21) (s0 + 467) (lw_Z below #[Value.ref b] s) (F0 m 1127 ls [])) : W p l e room_1 s m #[Value.ref b] below meth c H locs c0 s0 (lw_Z below #[Value.ref b] s) (F0 m 920 ls []) := by
  obtain ⟨hx, hb, hr, hml, hown, hts, hX, hbl, hlocks, hgv⟩ := id C0
  have hA : ∀ q : Nat, s.heap.size ≤ q → (fun q : Nat => s.heap.size ≤ q) q := fun _ h => h
  have hbA : ¬ (fun q : Nat => s.heap.size ≤ q) b := Nat.not_le.mpr hbl
  have hg : ∀ w ∈ kG, w.before #[Value.ref b] s = true := fun w h => hts w (kG_in w h)
  have hown : s.vm.findClass RL = some m.cls := hown
  obtain ⟨hI, hG, hi0, hi1, hg0, hg1, hM, hR, hIm, hTp, hCh, hFl, hSp, hSt, hRf, hSl, hJ0, hJ1⟩ := hJ
  obtain ⟨DD, P, hSV, hkk, h22, hLM, hLC, hXP, hMP, hPO⟩ := id hSl
  refine lv_aload_n hx hb dL_law_920 rfl (lv_at hl 2 rfl) ?_
  refine kIG.callX (As := []) (rest := []) ⟨hx, hb, hml, hown, hg⟩ (z_forget l u f a g (iW K i0 ++ (iW K i1 ++ tt)) tt mem_rr hI hG  (ea 2) hSV hkk ) (cwV 0 hg (kgV wt5_81 wt5_82 wt5_83 wt1_1 wt5_84) rfl rfl rfl (by decide +kernel) ⟨by decide, by decide⟩) hV hK hP hD hS hA 0 11 rfl rfl rfl hl.1 rfl (Nat.le_of_ble_eq_true rfl) dL_law_921 ⟨by show c0 + 0 ≤ 600000; omega, by show s0 + 0 ≤ 7302250; omega⟩ (fun v1 u1 H locs h1 hP hD hS => ?_)
  obtain ⟨f1, a1, g1⟩ := u1
  have hI1 : xI f1 a1 := h1.2.1
  have hG1 : gOK K g1.2 tt := h1.2.2.1
  have hE1 : xEk ([44], [], []) f a g f1 a1 g1 := h1.2.2.2.1
  have hj0 := hi0
  have hj1 := hi1
  have hq0 : g1.2 92 0 = iA i0 := by rw [show g1.2 92 = g.2 92 from hE1.2.2 92 rfl]; exact hg0
  have hq1 : g1.2 92 1 = iA i1 := by rw [show g1.2 92 = g.2 92 from hE1.2.2 92 rfl]; exact hg1
  have hP : va_P D vwCl (lWd K u f1 a1 g1 i0 i1 tt o r ef ea eg) H := hP
  have hD : va_D (fun q : Nat => s.heap.size ≤ q) (lWd K u f1 a1 g1 i0 i1 tt o r ef ea eg) := hD
  refine lv_pop hx hb dL_law_924 rfl ?_
  refine lv_aload_n hx hb dL_law_925 rfl (lv_at hl 1 rfl) ?_
  refine kI.callM (As := []) (rest := []) ⟨hx, hb, hml, hown, hg⟩ (n_forget l o r ef ea eg hM  ) (cwV 0 hg (kgV wt8_11 wt8_12 wt8_13 wt1_14 wt8_14) rfl rfl rfl (by decide +kernel) ⟨by decide, by decide⟩) hK hP hD hS hA 0 12 rfl rfl rfl hl.1 rfl (Nat.le_of_ble_eq_true rfl) dL_law_926 ⟨by show c0 + 0 + 0 ≤ 600000; omega, by show s0 + 0 + 0 ≤ 7302250; omega⟩ (fun v2 u2 H locs h2 hP hD hS => ?_)
  obtain ⟨ef2, ea2, eg2⟩ := u2
  have hM2 : mI ef2 ea2 := (h2.2.1)
  have hP : va_P D vwCl (lWd K u f1 a1 g1 i0 i1 tt o r ef2 ea2 eg2) H := hP
  have hD : va_D (fun q : Nat => s.heap.size ≤ q) (lWd K u f1 a1 g1 i0 i1 tt o r ef2 ea2 eg2) := hD
  have hRn : f1 12 = ef2 13 := (hE1.1 12 rfl).trans (hR.trans (show ef2 13 = ef 13 from (h2.2.2.2.2.2.2).1 13 rfl).symm)
  have hImn : xIm i0 i1 (ea2 4) := (by rw [(show ea2 4 = ea 4 from (h2.2.2.2.2.2.2).2 4 rfl)]; exact hIm)
  have hTpn : xTq (a1 93) (ea2 11) := xTq_k hTp (hE1.2.1 93 rfl) (show ea2 11 = ea 11 from (h2.2.2.2.2.2.2).2 11 rfl)
  have hChn : f1 14 = ef2 6 := (hE1.1 14 rfl).trans (hCh.trans (show ef2 6 = ef 6 from (h2.2.2.2.2.2.2).1 6 rfl).symm)
  have hFln : f1 13 = ef2 14 := (hE1.1 13 rfl).trans (hFl.trans (show ef2 14 = ef 14 from (h2.2.2.2.2.2.2).1 14 rfl).symm)
  have hSpn : f1 15 = ef2 37 := (hE1.1 15 rfl).trans (hSp.trans (show ef2 37 = ef 37 from (h2.2.2.2.2.2.2).1 37 rfl).symm)
  have hStn : f1 16 = ef2 0 := (hE1.1 16 rfl).trans (hSt.trans (show ef2 0 = ef 0 from (h2.2.2.2.2.2.2).1 0 rfl).symm)
  have hRfn : rfE (a1 94) (ea2 1) := (by rw [show a1 94 = a 94 from (hE1.2.1 94 rfl), (show ea2 1 = ea 1 from (h2.2.2.2.2.2.2).2 1 rfl)]; exact hRf)
  have hSln : rlS K tt f1 a1 (g1.2 15) ef2 ea2 := rlS_u (h1.2.2.2.2.2.2) (up_n (kK_104 hkk) (Or.inl rfl) h22 hLM hPO) hkk hLC (xP_cg hXP (hE1.1 704 rfl) (hE1.1 705 rfl) (hE1.2.1 23 rfl)) (by rw [(show ef2 33 = ef 33 from (h2.2.2.2.2.2.2).1 33 rfl), (show ea2 31 = ea 31 from (h2.2.2.2.2.2.2).2 31 rfl)]; exact hMP) (hE1.2.2 15 rfl) (h2.2.2.2.2.2.1)
  have hJ0n : rlI K tt i0 (imK (ea2 3) 0) := (by rw [(show ea2 3 = ea 3 from (h2.2.2.2.2.2.2).2 3 rfl)]; exact hJ0)
  have hJ1n : rlI K tt i1 (imK (ea2 3) 1) := (by rw [(show ea2 3 = ea 3 from (h2.2.2.2.2.2.2).2 3 rfl)]; exact hJ1)
  refine lv_pop hx hb dL_law_929 rfl ?_
  refine lv_goto (tgt := 1127) hx hb dL_law_930 (by decide) ?_
  refine W.widen (k := c0 + 21) (n := s0 + 467) (by show c0 + 0 + 0 ≤ c0 + 21; omega) (by show s0 + 0 + 0 ≤ s0 + 467; omega) ?_
  exact kk _ _ _ _ _ _ _ _ _ _ _ ⟨hI1, hG1, hj0, hj1, hq0, hq1, hM2, hRn, hImn, hTpn, hChn, hFln, hSpn, hStn, hRfn, hSln, hJ0n, hJ1n⟩ hP hD hS
set_option maxHeartbeats 4000000 in
set_option maxRecDepth 100000 in
theorem law_whose {p : Program} {e : Env} {s : State} {m : MethodId} {below : List Frame} {meth : Method} {c : Code} (l : Launch) {b L : Nat} {xs : Nat → Int32} (C0 : lw_At p s m meth c b L xs) (hL2 : L ≤ 3072) {D : va_G} {K : Nat → ClassId} (hK : va_K D vwCl (tysK K) s) (hV : xE K (fun q : Nat => s.heap.size ≤ q) s s.heap) {u : Nat → Nat} {o : Nat} {r : Nat → Nat} {f : Nat → Int32} {a : Nat → Nat → Int32} {g : xG} {i0 i1 : Option sX} {tt : va_W} {ef : Nat → Int32} {ea : Nat → Nat → Int32} {eg : Nat → Int64} (hJ : rJ K f a g i0 i1 tt ef ea) {i : Int32} {ii : Nat} (hi : i.toInt = (ii : Int)) (hL : ii + 6 ≤ L) {c0 s0 : Nat} (hc0 : c0 + 21 ≤ 600000) (hs0 : s0 + 467 ≤ 7302250) {H : Heap} {locs : List Loc} (hP : va_P D vwCl (lWd K u f a g i0 i1 tt o r ef ea eg) H) (hD : va_D (fun q : Nat => s.heap.size ≤ q) (lWd K u f a g i0 i1 tt o r ef ea eg)) (hS : va_S (fun q : Nat => s.heap.size ≤ q) s.heap H locs) {ls : Array Slot} (hl : lv_has ls 4 [(3, .int i), (2, .ref o), (1, .ref (u 0)), (0, .ref b)]) (kk : ∀ (f : Nat → Int32) (a : Nat → Nat → Int32) (g : xG) (i0 i1 : Option sX) (tt : va_W) (ef : Nat → Int32) (ea : Nat → Nat → Int32) (eg : Nat → Int64) (H : Heap) (locs : List Loc), rJ K f a g i0 i1 tt ef ea → va_P D vwCl (lWd K u f a g i0 i1 tt o r ef ea eg) H → va_D (fun q : Nat => s.heap.size ≤ q) (lWd K u f a g i0 i1 tt o r ef ea eg) → va_S (fun q : Nat => s.heap.size ≤ q) s.heap H locs → W p l e room_1 s m #[Value.ref b] below meth c H locs (c0 + 21) (s0 + 467) (lw_Z below #[Value.ref b] s) (F0 m 1127 ls [])) : W p l e room_1 s m #[Value.ref b] below meth c H locs c0 s0 (lw_Z below #[Value.ref b] s) (F0 m 933 ls []) := by
  obtain ⟨hx, hb, hr, hml, hown, hts, hX, hbl, hlocks, hgv⟩ := id C0
  have hA : ∀ q : Nat, s.heap.size ≤ q → (fun q : Nat => s.heap.size ≤ q) q := fun _ h => h
  have hbA : ¬ (fun q : Nat => s.heap.size ≤ q) b := Nat.not_le.mpr hbl
  have hg : ∀ w ∈ kG, w.before #[Value.ref b] s = true := fun w h => hts w (kG_in w h)
  have hown : s.vm.findClass RL = some m.cls := hown
  obtain ⟨hI, hG, hi0, hi1, hg0, hg1, hM, hR, hIm, hTp, hCh, hFl, hSp, hSt, hRf, hSl, hJ0, hJ1⟩ := hJ
  obtain ⟨DD, P, hSV, hkk, h22, hLM, hLC, hXP, hMP, hPO⟩ := id hSl
  refine lv_aload_n hx hb dL_law_933 rfl (lv_at hl 2 rfl) ?_
  refine lv_aload_n hx hb dL_law_934 rfl (lv_at hl 3 rfl) ?_
  refine lv_iload_n hx hb dL_law_935 rfl (lv_at hl 0 rfl) ?_
  refine lv_iconst (v := 1) hx hb dL_law_936 (by decide) ?_
  refine lv_iadd hx hb dL_law_937 ?_
  refine va_sld hx hb hX hbl hbA hS (ix_in hi hL hL2 (kn := 1) (by decide +kernel) (by decide)) dL_law_938 ?_
  refine lv_topi (fun y1 ey1 => ?_)
  refine kIG.callX (As := [.int y1]) (rest := []) ⟨hx, hb, hml, hown, hg⟩ (x_11_whose l u f a g (iW K i0 ++ (iW K i1 ++ tt)) tt mem_rr hI hG y1  ) (cwV 1 hg (kgV wt5_85 wt5_86 wt5_87 wt1_1 wt5_88) rfl rfl rfl (by decide +kernel) ⟨by decide, by decide⟩) hV hK hP hD hS hA 0 11 rfl rfl rfl hl.1 rfl (Nat.le_of_ble_eq_true rfl) dL_law_939 ⟨by show c0 + 0 ≤ 600000; omega, by show s0 + 0 ≤ 7302250; omega⟩ (fun v1 u1 H locs h1 hP hD hS => ?_)
  obtain ⟨f1, a1, g1⟩ := u1
  have hI1 : xI f1 a1 := h1.2.1
  have hG1 : gOK K g1.2 tt := h1.2.2.1
  have hE1 : xEk ([1888, 1894, 1900, 1905, 1906, 2565], [60, 61, 62, 63, 64, 65, 66, 67, 68, 69, 70, 71, 72, 77, 78, 79, 83, 85], [73]) f a g f1 a1 g1 := h1.2.2.2
  have hj0 := hi0
  have hj1 := hi1
  have hq0 : g1.2 92 0 = iA i0 := by rw [show g1.2 92 = g.2 92 from hE1.2.2 92 rfl]; exact hg0
  have hq1 : g1.2 92 1 = iA i1 := by rw [show g1.2 92 = g.2 92 from hE1.2.2 92 rfl]; exact hg1
  have hP : va_P D vwCl (lWd K u f1 a1 g1 i0 i1 tt o r ef ea eg) H := hP
  have hD : va_D (fun q : Nat => s.heap.size ≤ q) (lWd K u f1 a1 g1 i0 i1 tt o r ef ea eg) := hD
  refine lv_pop hx hb dL_law_942 rfl ?_
  refine lv_aload_n hx hb dL_law_943 rfl (lv_at hl 1 rfl) ?_
  refine lv_aload_n hx hb dL_law_944 rfl (lv_at hl 3 rfl) ?_
  refine lv_iload_n hx hb dL_law_945 rfl (lv_at hl 0 rfl) ?_
  refine lv_iconst (v := 1) hx hb dL_law_946 (by decide) ?_
  refine lv_iadd hx hb dL_law_947 ?_
  refine va_sld hx hb hX hbl hbA hS (ix_in hi hL hL2 (kn := 1) (by decide +kernel) (by decide)) dL_law_948 ?_
  refine k_top (z := y1) ey1.symm ?_
  refine kI.callM (As := [.int y1]) (rest := []) ⟨hx, hb, hml, hown, hg⟩ (m_whose l o r ef ea eg hM y1 ) (cwV 1 hg (kgV wt8_15 wt8_16 wt8_17 wt1_14 wt8_18) rfl rfl rfl (by decide +kernel) ⟨by decide, by decide⟩) hK hP hD hS hA 0 12 rfl rfl rfl hl.1 rfl (Nat.le_of_ble_eq_true rfl) dL_law_949 ⟨by show c0 + 0 + 0 ≤ 600000; omega, by show s0 + 0 + 0 ≤ 7302250; omega⟩ (fun v2 u2 H locs h2 hP hD hS => ?_)
  obtain ⟨ef2, ea2, eg2⟩ := u2
  have hM2 : mI ef2 ea2 := (h2.2.1)
  have hP : va_P D vwCl (lWd K u f1 a1 g1 i0 i1 tt o r ef2 ea2 eg2) H := hP
  have hD : va_D (fun q : Nat => s.heap.size ≤ q) (lWd K u f1 a1 g1 i0 i1 tt o r ef2 ea2 eg2) := hD
  have hRn : f1 12 = ef2 13 := (hE1.1 12 rfl).trans (hR.trans (show ef2 13 = ef 13 from (h2.2.2.2).1 13 rfl).symm)
  have hImn : xIm i0 i1 (ea2 4) := (by rw [(show ea2 4 = ea 4 from (h2.2.2.2).2 4 rfl)]; exact hIm)
  have hTpn : xTq (a1 93) (ea2 11) := xTq_k hTp (hE1.2.1 93 rfl) (show ea2 11 = ea 11 from (h2.2.2.2).2 11 rfl)
  have hChn : f1 14 = ef2 6 := (hE1.1 14 rfl).trans (hCh.trans (show ef2 6 = ef 6 from (h2.2.2.2).1 6 rfl).symm)
  have hFln : f1 13 = ef2 14 := (hE1.1 13 rfl).trans (hFl.trans (show ef2 14 = ef 14 from (h2.2.2.2).1 14 rfl).symm)
  have hSpn : f1 15 = ef2 37 := (hE1.1 15 rfl).trans (hSp.trans (show ef2 37 = ef 37 from (h2.2.2.2).1 37 rfl).symm)
  have hStn : f1 16 = ef2 0 := (hE1.1 16 rfl).trans (hSt.trans (show ef2 0 = ef 0 from (h2.2.2.2).1 0 rfl).symm)
  have hRfn : rfE (a1 94) (ea2 1) := (by rw [show a1 94 = a 94 from (hE1.2.1 94 rfl), (show ea2 1 = ea 1 from (h2.2.2.2).2 1 rfl)]; exact hRf)
  have hSln : rlS K tt f1 a1 (g1.2 15) ef2 ea2 := rlS_k hSl (smFy hE1 (by decide)) (smRy hE1 (by decide)) (hE1.2.2 15 rfl) (show ea2 2 = ea 2 from funext fun i => (h2.2.2.1).2.2.1 i rfl) (show ef2 33 = ef 33 from (h2.2.2.2).1 33 rfl) (show ea2 31 = ea 31 from (h2.2.2.2).2 31 rfl)
  have hJ0n : rlI K tt i0 (imK (ea2 3) 0) := (by rw [(show ea2 3 = ea 3 from (h2.2.2.2).2 3 rfl)]; exact hJ0)
  have hJ1n : rlI K tt i1 (imK (ea2 3) 1) := (by rw [(show ea2 3 = ea 3 from (h2.2.2.2).2 3 rfl)]; exact hJ1)
  refine lv_pop hx hb dL_law_952 rfl ?_
  refine lv_goto (tgt := 1127) hx hb dL_law_953 (by decide) ?_
  refine W.widen (k := c0 + 21) (n := s0 + 467) (by show c0 + 0 + 0 ≤ c0 + 21; omega) (by show s0 + 0 + 0 ≤ s0 + 467; omega) ?_
  exact kk _ _ _ _ _ _ _ _ _ _ _ ⟨hI1, hG1, hj0, hj1, hq0, hq1, hM2, hRn, hImn, hTpn, hChn, hFln, hSpn, hStn, hRfn, hSln, hJ0n, hJ1n⟩ hP hD hS
set_option maxHeartbeats 4000000 in
set_option maxRecDepth 100000 in
theorem law_look {p : Program} {e : Env} {s : State} {m : MethodId} {below : List Frame} {meth : Method} {c : Code} (l : Launch) {b L : Nat} {xs : Nat → Int32} (C0 : lw_At p s m meth c b L xs) (hL2 : L ≤ 3072) {D : va_G} {K : Nat → ClassId} (hK : va_K D vwCl (tysK K) s) (hV : xE K (fun q : Nat => s.heap.size ≤ q) s s.heap) {u : Nat → Nat} {o : Nat} {r : Nat → Nat} {f : Nat → Int32} {a : Nat → Nat → Int32} {g : xG} {i0 i1 : Option sX} {tt : va_W} {ef : Nat → Int32} {ea : Nat → Nat → Int32} {eg : Nat → Int64} (hJ : rJ K f a g i0 i1 tt ef ea) {i : Int32} {ii : Nat} (hi : i.toInt = (ii : Int)) (hL : ii + 6 ≤ L) {c0 s0 : Nat} (hc0 : c0 + 21 ≤ 600000) (hs0 : s0 + 467 ≤ 7302250) {H : Heap} {locs : List Loc} (hP : va_P D vwCl (lWd K u f a g i0 i1 tt o r ef ea eg) H) (hD : va_D (fun q : Nat => s.heap.size ≤ q) (lWd K u f a g i0 i1 tt o r ef ea eg)) (hS : va_S (fun q : Nat => s.heap.size ≤ q) s.heap H locs) {ls : Array Slot} (hl : lv_has ls 4 [(3, .int i), (2, .ref o), (1, .ref (u 0)), (0, .ref b)]) (kk : ∀ (f : Nat → Int32) (a : Nat → Nat → Int32) (g : xG) (i0 i1 : Option sX) (tt : va_W) (ef : Nat → Int32) (ea : Nat → Nat → Int32) (eg : Nat → Int64) (H : Heap) (locs : List Loc), rJ K f a g i0 i1 tt ef ea → va_P D vwCl (lWd K u f a g i0 i1 tt o r ef ea eg) H → va_D (fun q : Nat => s.heap.size ≤ q) (lWd K u f a g i0 i1 tt o r ef ea eg) → va_S (fun q : Nat => s.heap.size ≤ q) s.heap H locs → W p l e room_1 s m #[Value.ref b] below meth c H locs (c0 + 21) (s0 + 467) (lw_Z below #[Value.ref b] s) (F0 m 1127 ls [])) : W p l e room_1 s m #[Value.ref b] below meth c H locs c0 s0 (lw_Z below #[Value.ref b] s) (F0 m 956 ls []) := by
  obtain ⟨hx, hb, hr, hml, hown, hts, hX, hbl, hlocks, hgv⟩ := id C0
  have hA : ∀ q : Nat, s.heap.size ≤ q → (fun q : Nat => s.heap.size ≤ q) q := fun _ h => h
  have hbA : ¬ (fun q : Nat => s.heap.size ≤ q) b := Nat.not_le.mpr hbl
  have hg : ∀ w ∈ kG, w.before #[Value.ref b] s = true := fun w h => hts w (kG_in w h)
  have hown : s.vm.findClass RL = some m.cls := hown
  obtain ⟨hI, hG, hi0, hi1, hg0, hg1, hM, hR, hIm, hTp, hCh, hFl, hSp, hSt, hRf, hSl, hJ0, hJ1⟩ := hJ
  obtain ⟨DD, P, hSV, hkk, h22, hLM, hLC, hXP, hMP, hPO⟩ := id hSl
  refine lv_aload_n hx hb dL_law_956 rfl (lv_at hl 2 rfl) ?_
  refine lv_aload_n hx hb dL_law_957 rfl (lv_at hl 3 rfl) ?_
  refine lv_iload_n hx hb dL_law_958 rfl (lv_at hl 0 rfl) ?_
  refine lv_iconst (v := 1) hx hb dL_law_959 (by decide) ?_
  refine lv_iadd hx hb dL_law_960 ?_
  refine va_sld hx hb hX hbl hbA hS (ix_in hi hL hL2 (kn := 1) (by decide +kernel) (by decide)) dL_law_961 ?_
  refine lv_topi (fun y1 ey1 => ?_)
  refine kIG.callX (As := [.int y1]) (rest := []) ⟨hx, hb, hml, hown, hg⟩ (x_11_look l u f a g (iW K i0 ++ (iW K i1 ++ tt)) tt mem_rr hI hG y1  ) (cwV 1 hg (kgV wt5_101 wt5_102 wt5_103 wt1_1 wt5_104) rfl rfl rfl (by decide +kernel) ⟨by decide, by decide⟩) hV hK hP hD hS hA 0 11 rfl rfl rfl hl.1 rfl (Nat.le_of_ble_eq_true rfl) dL_law_962 ⟨by show c0 + 0 ≤ 600000; omega, by show s0 + 0 ≤ 7302250; omega⟩ (fun v1 u1 H locs h1 hP hD hS => ?_)
  obtain ⟨f1, a1, g1⟩ := u1
  have hI1 : xI f1 a1 := h1.2.1
  have hG1 : gOK K g1.2 tt := h1.2.2.1
  have hE1 : xEk ([1888, 1894, 1900, 1905, 1906, 2565], [60, 61, 62, 63, 64, 65, 66, 67, 68, 69, 70, 71, 72, 77, 78, 79, 83, 85, 86], [73]) f a g f1 a1 g1 := h1.2.2.2
  have hj0 := hi0
  have hj1 := hi1
  have hq0 : g1.2 92 0 = iA i0 := by rw [show g1.2 92 = g.2 92 from hE1.2.2 92 rfl]; exact hg0
  have hq1 : g1.2 92 1 = iA i1 := by rw [show g1.2 92 = g.2 92 from hE1.2.2 92 rfl]; exact hg1
  have hP : va_P D vwCl (lWd K u f1 a1 g1 i0 i1 tt o r ef ea eg) H := hP
  have hD : va_D (fun q : Nat => s.heap.size ≤ q) (lWd K u f1 a1 g1 i0 i1 tt o r ef ea eg) := hD
  refine lv_pop hx hb dL_law_965 rfl ?_
  refine lv_aload_n hx hb dL_law_966 rfl (lv_at hl 1 rfl) ?_
  refine lv_aload_n hx hb dL_law_967 rfl (lv_at hl 3 rfl) ?_
  refine lv_iload_n hx hb dL_law_968 rfl (lv_at hl 0 rfl) ?_
  refine lv_iconst (v := 1) hx hb dL_law_969 (by decide) ?_
  refine lv_iadd hx hb dL_law_970 ?_
  refine va_sld hx hb hX hbl hbA hS (ix_in hi hL hL2 (kn := 1) (by decide +kernel) (by decide)) dL_law_971 ?_
  refine k_top (z := y1) ey1.symm ?_
  refine kI.callM (As := [.int y1]) (rest := []) ⟨hx, hb, hml, hown, hg⟩ (m_look l o r ef ea eg hM y1 ) (cwV 1 hg (kgV wt8_35 wt8_36 wt8_37 wt1_14 wt8_38) rfl rfl rfl (by decide +kernel) ⟨by decide, by decide⟩) hK hP hD hS hA 0 12 rfl rfl rfl hl.1 rfl (Nat.le_of_ble_eq_true rfl) dL_law_972 ⟨by show c0 + 0 + 0 ≤ 600000; omega, by show s0 + 0 + 0 ≤ 7302250; omega⟩ (fun v2 u2 H locs h2 hP hD hS => ?_)
  obtain ⟨ef2, ea2, eg2⟩ := u2
  have hM2 : mI ef2 ea2 := (h2.2.1)
  have hP : va_P D vwCl (lWd K u f1 a1 g1 i0 i1 tt o r ef2 ea2 eg2) H := hP
  have hD : va_D (fun q : Nat => s.heap.size ≤ q) (lWd K u f1 a1 g1 i0 i1 tt o r ef2 ea2 eg2) := hD
  have hRn : f1 12 = ef2 13 := (hE1.1 12 rfl).trans (hR.trans (show ef2 13 = ef 13 from (h2.2.2.2).1 13 rfl).symm)
  have hImn : xIm i0 i1 (ea2 4) := (by rw [(show ea2 4 = ea 4 from (h2.2.2.2).2 4 rfl)]; exact hIm)
  have hTpn : xTq (a1 93) (ea2 11) := xTq_k hTp (hE1.2.1 93 rfl) (show ea2 11 = ea 11 from (h2.2.2.2).2 11 rfl)
  have hChn : f1 14 = ef2 6 := (hE1.1 14 rfl).trans (hCh.trans (show ef2 6 = ef 6 from (h2.2.2.2).1 6 rfl).symm)
  have hFln : f1 13 = ef2 14 := (hE1.1 13 rfl).trans (hFl.trans (show ef2 14 = ef 14 from (h2.2.2.2).1 14 rfl).symm)
  have hSpn : f1 15 = ef2 37 := (hE1.1 15 rfl).trans (hSp.trans (show ef2 37 = ef 37 from (h2.2.2.2).1 37 rfl).symm)
  have hStn : f1 16 = ef2 0 := (hE1.1 16 rfl).trans (hSt.trans (show ef2 0 = ef 0 from (h2.2.2.2).1 0 rfl).symm)
  have hRfn : rfE (a1 94) (ea2 1) := (by rw [show a1 94 = a 94 from (hE1.2.1 94 rfl), (show ea2 1 = ea 1 from (h2.2.2.2).2 1 rfl)]; exact hRf)
  have hSln : rlS K tt f1 a1 (g1.2 15) ef2 ea2 := rlS_k hSl (smFy hE1 (by decide)) (smRy hE1 (by decide)) (hE1.2.2 15 rfl) (show ea2 2 = ea 2 from funext fun i => (h2.2.2.1).2.2.1 i rfl) (show ef2 33 = ef 33 from (h2.2.2.2).1 33 rfl) (show ea2 31 = ea 31 from (h2.2.2.2).2 31 rfl)
  have hJ0n : rlI K tt i0 (imK (ea2 3) 0) := (by rw [(show ea2 3 = ea 3 from (h2.2.2.2).2 3 rfl)]; exact hJ0)
  have hJ1n : rlI K tt i1 (imK (ea2 3) 1) := (by rw [(show ea2 3 = ea 3 from (h2.2.2.2).2 3 rfl)]; exact hJ1)
  refine lv_pop hx hb dL_law_975 rfl ?_
  refine lv_goto (tgt := 1127) hx hb dL_law_976 (by decide) ?_
  refine W.widen (k := c0 + 21) (n := s0 + 467) (by show c0 + 0 + 0 ≤ c0 + 21; omega) (by show s0 + 0 + 0 ≤ s0 + 467; omega) ?_
  exact kk _ _ _ _ _ _ _ _ _ _ _ ⟨hI1, hG1, hj0, hj1, hq0, hq1, hM2, hRn, hImn, hTpn, hChn, hFln, hSpn, hStn, hRfn, hSln, hJ0n, hJ1n⟩ hP hD hS
set_option maxHeartbeats 4000000 in
set_option maxRecDepth 100000 in
theorem law_nights {p : Program} {e : Env} {s : State} {m : MethodId} {below : List Frame} {meth : Method} {c : Code} (l : Launch) {b L : Nat} {xs : Nat → Int32} (C0 : lw_At p s m meth c b L xs) (hL2 : L ≤ 3072) {D : va_G} {K : Nat → ClassId} (hK : va_K D vwCl (tysK K) s) (hV : xE K (fun q : Nat => s.heap.size ≤ q) s s.heap) {u : Nat → Nat} {o : Nat} {r : Nat → Nat} {f : Nat → Int32} {a : Nat → Nat → Int32} {g : xG} {i0 i1 : Option sX} {tt : va_W} {ef : Nat → Int32} {ea : Nat → Nat → Int32} {eg : Nat → Int64} (hJ : rJ K f a g i0 i1 tt ef ea) {i : Int32} {ii : Nat} (hi : i.toInt = (ii : Int)) (hL : ii + 6 ≤ L) {c0 s0 : Nat} (hc0 : c0 + 21 ≤ 600000) (hs0 : s0 + 467 ≤ 7302250) {H : Heap} {locs : List Loc} (hP : va_P D vwCl (lWd K u f a g i0 i1 tt o r ef ea eg) H) (hD : va_D (fun q : Nat => s.heap.size ≤ q) (lWd K u f a g i0 i1 tt o r ef ea eg)) (hS : va_S (fun q : Nat => s.heap.size ≤ q) s.heap H locs) {ls : Array Slot} (hl : lv_has ls 4 [(3, .int i), (2, .ref o), (1, .ref (u 0)), (0, .ref b)]) (kk : ∀ (f : Nat → Int32) (a : Nat → Nat → Int32) (g : xG) (i0 i1 : Option sX) (tt : va_W) (ef : Nat → Int32) (ea : Nat → Nat → Int32) (eg : Nat → Int64) (H : Heap) (locs : List Loc), rJ K f a g i0 i1 tt ef ea → va_P D vwCl (lWd K u f a g i0 i1 tt o r ef ea eg) H → va_D (fun q : Nat => s.heap.size ≤ q) (lWd K u f a g i0 i1 tt o r ef ea eg) → va_S (fun q : Nat => s.heap.size ≤ q) s.heap H locs → W p l e room_1 s m #[Value.ref b] below meth c H locs (c0 + 21) (s0 + 467) (lw_Z below #[Value.ref b] s) (F0 m 1127 ls [])) : W p l e room_1 s m #[Value.ref b] below meth c H locs c0 s0 (lw_Z below #[Value.ref b] s) (F0 m 979 ls []) := by
  obtain ⟨hx, hb, hr, hml, hown, hts, hX, hbl, hlocks, hgv⟩ := id C0
  have hA : ∀ q : Nat, s.heap.size ≤ q → (fun q : Nat => s.heap.size ≤ q) q := fun _ h => h
  have hbA : ¬ (fun q : Nat => s.heap.size ≤ q) b := Nat.not_le.mpr hbl
  have hg : ∀ w ∈ kG, w.before #[Value.ref b] s = true := fun w h => hts w (kG_in w h)
  have hown : s.vm.findClass RL = some m.cls := hown
  obtain ⟨hI, hG, hi0, hi1, hg0, hg1, hM, hR, hIm, hTp, hCh, hFl, hSp, hSt, hRf, hSl, hJ0, hJ1⟩ := hJ
  obtain ⟨DD, P, hSV, hkk, h22, hLM, hLC, hXP, hMP, hPO⟩ := id hSl
  refine lv_aload_n hx hb dL_law_979 rfl (lv_at hl 2 rfl) ?_
  refine lv_aload_n hx hb dL_law_980 rfl (lv_at hl 3 rfl) ?_
  refine lv_iload_n hx hb dL_law_981 rfl (lv_at hl 0 rfl) ?_
  refine lv_iconst (v := 1) hx hb dL_law_982 (by decide) ?_
  refine lv_iadd hx hb dL_law_983 ?_
  refine va_sld hx hb hX hbl hbA hS (ix_in hi hL hL2 (kn := 1) (by decide +kernel) (by decide)) dL_law_984 ?_
  refine lv_topi (fun y1 ey1 => ?_)
  refine lv_aload_n hx hb dL_law_985 rfl (lv_at hl 3 rfl) ?_
  refine lv_iload_n hx hb dL_law_986 rfl (lv_at hl 0 rfl) ?_
  refine lv_iconst (v := 2) hx hb dL_law_987 (by decide) ?_
  refine lv_iadd hx hb dL_law_988 ?_
  refine va_sld hx hb hX hbl hbA hS (ix_in hi hL hL2 (kn := 2) (by decide +kernel) (by decide)) dL_law_989 ?_
  refine lv_topi (fun y2 ey2 => ?_)
  refine kIG.callX (As := [.int y1, .int y2]) (rest := []) ⟨hx, hb, hml, hown, hg⟩ (z_nights l u f a g (iW K i0 ++ (iW K i1 ++ tt)) tt mem_rr hI hG y1 y2  ) (cwV 2 hg (kgV wt5_114 wt5_115 wt5_116 wt1_1 wt5_117) rfl rfl rfl (by decide +kernel) ⟨by decide, by decide⟩) hV hK hP hD hS hA 0 11 rfl rfl rfl hl.1 rfl (Nat.le_of_ble_eq_true rfl) dL_law_990 ⟨by show c0 + 0 ≤ 600000; omega, by show s0 + 0 ≤ 7302250; omega⟩ (fun v1 u1 H locs h1 hP hD hS => ?_)
  obtain ⟨f1, a1, g1⟩ := u1
  have hI1 : xI f1 a1 := h1.2.1
  have hG1 : gOK K g1.2 tt := h1.2.2.1
  have hE1 : xEk ([16, 1888, 1894, 1900, 1905, 1906, 2849, 2850], [60, 61, 62, 63, 64, 65, 66, 67, 68, 69, 70, 71, 72, 77, 78, 79, 90, 91, 94], [73]) f a g f1 a1 g1 := h1.2.2.2.1
  have hj0 := hi0
  have hj1 := hi1
  have hq0 : g1.2 92 0 = iA i0 := by rw [show g1.2 92 = g.2 92 from hE1.2.2 92 rfl]; exact hg0
  have hq1 : g1.2 92 1 = iA i1 := by rw [show g1.2 92 = g.2 92 from hE1.2.2 92 rfl]; exact hg1
  have hP : va_P D vwCl (lWd K u f1 a1 g1 i0 i1 tt o r ef ea eg) H := hP
  have hD : va_D (fun q : Nat => s.heap.size ≤ q) (lWd K u f1 a1 g1 i0 i1 tt o r ef ea eg) := hD
  refine lv_pop hx hb dL_law_993 rfl ?_
  refine lv_aload_n hx hb dL_law_994 rfl (lv_at hl 1 rfl) ?_
  refine lv_aload_n hx hb dL_law_995 rfl (lv_at hl 3 rfl) ?_
  refine lv_iload_n hx hb dL_law_996 rfl (lv_at hl 0 rfl) ?_
  refine lv_iconst (v := 1) hx hb dL_law_997 (by decide) ?_
  refine lv_iadd hx hb dL_law_998 ?_
  refine va_sld hx hb hX hbl hbA hS (ix_in hi hL hL2 (kn := 1) (by decide +kernel) (by decide)) dL_law_999 ?_
  refine k_top (z := y1) ey1.symm ?_
  refine lv_aload_n hx hb dL_law_1000 rfl (lv_at hl 3 rfl) ?_
  refine lv_iload_n hx hb dL_law_1001 rfl (lv_at hl 0 rfl) ?_
  refine lv_iconst (v := 2) hx hb dL_law_1002 (by decide) ?_
  refine lv_iadd hx hb dL_law_1003 ?_
  refine va_sld hx hb hX hbl hbA hS (ix_in hi hL hL2 (kn := 2) (by decide +kernel) (by decide)) dL_law_1004 ?_
  refine k_top (z := y2) ey2.symm ?_
  refine kI.callM (As := [.int y1, .int y2]) (rest := []) ⟨hx, hb, hml, hown, hg⟩ (n_nights l o r ef ea eg hM y1 y2 ) (cwV 2 hg (kgV wt8_67 wt8_68 wt8_69 wt1_14 wt8_70) rfl rfl rfl (by decide +kernel) ⟨by decide, by decide⟩) hK hP hD hS hA 0 12 rfl rfl rfl hl.1 rfl (Nat.le_of_ble_eq_true rfl) dL_law_1005 ⟨by show c0 + 0 + 0 ≤ 600000; omega, by show s0 + 0 + 0 ≤ 7302250; omega⟩ (fun v2 u2 H locs h2 hP hD hS => ?_)
  obtain ⟨ef2, ea2, eg2⟩ := u2
  have hM2 : mI ef2 ea2 := (h2.2.1)
  have hP : va_P D vwCl (lWd K u f1 a1 g1 i0 i1 tt o r ef2 ea2 eg2) H := hP
  have hD : va_D (fun q : Nat => s.heap.size ≤ q) (lWd K u f1 a1 g1 i0 i1 tt o r ef2 ea2 eg2) := hD
  have hq := ngt_e (h1.2.2.2.2) (h2.2.2.2.1) hRf
  have hRn : f1 12 = ef2 13 := (hE1.1 12 rfl).trans (hR.trans (show ef2 13 = ef 13 from (h2.2.2.2.2).1 13 rfl).symm)
  have hImn : xIm i0 i1 (ea2 4) := (by rw [(show ea2 4 = ea 4 from (h2.2.2.2.2).2 4 rfl)]; exact hIm)
  have hTpn : xTq (a1 93) (ea2 11) := xTq_k hTp (hE1.2.1 93 rfl) (show ea2 11 = ea 11 from (h2.2.2.2.2).2 11 rfl)
  have hChn : f1 14 = ef2 6 := (hE1.1 14 rfl).trans (hCh.trans (show ef2 6 = ef 6 from (h2.2.2.2.2).1 6 rfl).symm)
  have hFln : f1 13 = ef2 14 := (hE1.1 13 rfl).trans (hFl.trans (show ef2 14 = ef 14 from (h2.2.2.2.2).1 14 rfl).symm)
  have hSpn : f1 15 = ef2 37 := (hE1.1 15 rfl).trans (hSp.trans (show ef2 37 = ef 37 from (h2.2.2.2.2).1 37 rfl).symm)
  have hStn : f1 16 = ef2 0 := hq.1
  have hRfn : rfE (a1 94) (ea2 1) := hq.2
  have hSln : rlS K tt f1 a1 (g1.2 15) ef2 ea2 := rlS_k hSl (smFy hE1 (by decide)) (smRy hE1 (by decide)) (hE1.2.2 15 rfl) (show ea2 2 = ea 2 from funext fun i => (h2.2.2.1).2.2.1 i rfl) (show ef2 33 = ef 33 from (h2.2.2.2.2).1 33 rfl) (show ea2 31 = ea 31 from (h2.2.2.2.2).2 31 rfl)
  have hJ0n : rlI K tt i0 (imK (ea2 3) 0) := (by rw [(show ea2 3 = ea 3 from (h2.2.2.2.2).2 3 rfl)]; exact hJ0)
  have hJ1n : rlI K tt i1 (imK (ea2 3) 1) := (by rw [(show ea2 3 = ea 3 from (h2.2.2.2.2).2 3 rfl)]; exact hJ1)
  refine lv_pop hx hb dL_law_1008 rfl ?_
  refine lv_goto (tgt := 1127) hx hb dL_law_1009 (by decide) ?_
  refine W.widen (k := c0 + 21) (n := s0 + 467) (by show c0 + 0 + 0 ≤ c0 + 21; omega) (by show s0 + 0 + 0 ≤ s0 + 467; omega) ?_
  exact kk _ _ _ _ _ _ _ _ _ _ _ ⟨hI1, hG1, hj0, hj1, hq0, hq1, hM2, hRn, hImn, hTpn, hChn, hFln, hSpn, hStn, hRfn, hSln, hJ0n, hJ1n⟩ hP hD hS
set_option maxHeartbeats 4000000 in
set_option maxRecDepth 100000 in
theorem law_drawn {p : Program} {e : Env} {s : State} {m : MethodId} {below : List Frame} {meth : Method} {c : Code} (l : Launch) {b L : Nat} {xs : Nat → Int32} (C0 : lw_At p s m meth c b L xs) (hL2 : L ≤ 3072) {D : va_G} {K : Nat → ClassId} (hK : va_K D vwCl (tysK K) s) (hV : xE K (fun q : Nat => s.heap.size ≤ q) s s.heap) {u : Nat → Nat} {o : Nat} {r : Nat → Nat} {f : Nat → Int32} {a : Nat → Nat → Int32} {g : xG} {i0 i1 : Option sX} {tt : va_W} {ef : Nat → Int32} {ea : Nat → Nat → Int32} {eg : Nat → Int64} (hJ : rJ K f a g i0 i1 tt ef ea) {i : Int32} {ii : Nat} (hi : i.toInt = (ii : Int)) (hL : ii + 6 ≤ L) {c0 s0 : Nat} (hc0 : c0 + 21 ≤ 600000) (hs0 : s0 + 467 ≤ 7302250) {H : Heap} {locs : List Loc} (hP : va_P D vwCl (lWd K u f a g i0 i1 tt o r ef ea eg) H) (hD : va_D (fun q : Nat => s.heap.size ≤ q) (lWd K u f a g i0 i1 tt o r ef ea eg)) (hS : va_S (fun q : Nat => s.heap.size ≤ q) s.heap H locs) {ls : Array Slot} (hl : lv_has ls 4 [(3, .int i), (2, .ref o), (1, .ref (u 0)), (0, .ref b)]) (kk : ∀ (f : Nat → Int32) (a : Nat → Nat → Int32) (g : xG) (i0 i1 : Option sX) (tt : va_W) (ef : Nat → Int32) (ea : Nat → Nat → Int32) (eg : Nat → Int64) (H : Heap) (locs : List Loc), rJ K f a g i0 i1 tt ef ea → va_P D vwCl (lWd K u f a g i0 i1 tt o r ef ea eg) H → va_D (fun q : Nat => s.heap.size ≤ q) (lWd K u f a g i0 i1 tt o r ef ea eg) → va_S (fun q : Nat => s.heap.size ≤ q) s.heap H locs → W p l e room_1 s m #[Value.ref b] below meth c H locs (c0 + 21) (s0 + 467) (lw_Z below #[Value.ref b] s) (F0 m 1127 ls [])) : W p l e room_1 s m #[Value.ref b] below meth c H locs c0 s0 (lw_Z below #[Value.ref b] s) (F0 m 1012 ls []) := by
  obtain ⟨hx, hb, hr, hml, hown, hts, hX, hbl, hlocks, hgv⟩ := id C0
  have hA : ∀ q : Nat, s.heap.size ≤ q → (fun q : Nat => s.heap.size ≤ q) q := fun _ h => h
  have hbA : ¬ (fun q : Nat => s.heap.size ≤ q) b := Nat.not_le.mpr hbl
  have hg : ∀ w ∈ kG, w.before #[Value.ref b] s = true := fun w h => hts w (kG_in w h)
  have hown : s.vm.findClass RL = some m.cls := hown
  obtain ⟨hI, hG, hi0, hi1, hg0, hg1, hM, hR, hIm, hTp, hCh, hFl, hSp, hSt, hRf, hSl, hJ0, hJ1⟩ := hJ
  obtain ⟨DD, P, hSV, hkk, h22, hLM, hLC, hXP, hMP, hPO⟩ := id hSl
  refine lv_aload_n hx hb dL_law_1012 rfl (lv_at hl 2 rfl) ?_
  refine lv_aload_n hx hb dL_law_1013 rfl (lv_at hl 3 rfl) ?_
  refine lv_iload_n hx hb dL_law_1014 rfl (lv_at hl 0 rfl) ?_
  refine lv_iconst (v := 1) hx hb dL_law_1015 (by decide) ?_
  refine lv_iadd hx hb dL_law_1016 ?_
  refine va_sld hx hb hX hbl hbA hS (ix_in hi hL hL2 (kn := 1) (by decide +kernel) (by decide)) dL_law_1017 ?_
  refine lv_topi (fun y1 ey1 => ?_)
  refine lv_aload_n hx hb dL_law_1018 rfl (lv_at hl 3 rfl) ?_
  refine lv_iload_n hx hb dL_law_1019 rfl (lv_at hl 0 rfl) ?_
  refine lv_iconst (v := 2) hx hb dL_law_1020 (by decide) ?_
  refine lv_iadd hx hb dL_law_1021 ?_
  refine va_sld hx hb hX hbl hbA hS (ix_in hi hL hL2 (kn := 2) (by decide +kernel) (by decide)) dL_law_1022 ?_
  refine lv_topi (fun y2 ey2 => ?_)
  refine kIG.callX (As := [.int y1, .int y2]) (rest := []) ⟨hx, hb, hml, hown, hg⟩ (x_11_drawn l u f a g (iW K i0 ++ (iW K i1 ++ tt)) tt mem_rr hI hG y1 y2  ) (cwV 2 hg (kgV wt5_129 wt5_130 wt5_131 wt1_1 wt5_132) rfl rfl rfl (by decide +kernel) ⟨by decide, by decide⟩) hV hK hP hD hS hA 0 11 rfl rfl rfl hl.1 rfl (Nat.le_of_ble_eq_true rfl) dL_law_1023 ⟨by show c0 + 0 ≤ 600000; omega, by show s0 + 0 ≤ 7302250; omega⟩ (fun v1 u1 H locs h1 hP hD hS => ?_)
  have hI1 := hI
  have hG1 := hG
  have hj0 := hi0
  have hj1 := hi1
  have hq0 := hg0
  have hq1 := hg1
  have hP : va_P D vwCl (lWd K u f a g i0 i1 tt o r ef ea eg) H := hP
  have hD : va_D (fun q : Nat => s.heap.size ≤ q) (lWd K u f a g i0 i1 tt o r ef ea eg) := hD
  refine lv_pop hx hb dL_law_1026 rfl ?_
  refine lv_aload_n hx hb dL_law_1027 rfl (lv_at hl 1 rfl) ?_
  refine lv_aload_n hx hb dL_law_1028 rfl (lv_at hl 3 rfl) ?_
  refine lv_iload_n hx hb dL_law_1029 rfl (lv_at hl 0 rfl) ?_
  refine lv_iconst (v := 1) hx hb dL_law_1030 (by decide) ?_
  refine lv_iadd hx hb dL_law_1031 ?_
  refine va_sld hx hb hX hbl hbA hS (ix_in hi hL hL2 (kn := 1) (by decide +kernel) (by decide)) dL_law_1032 ?_
  refine k_top (z := y1) ey1.symm ?_
  refine lv_aload_n hx hb dL_law_1033 rfl (lv_at hl 3 rfl) ?_
  refine lv_iload_n hx hb dL_law_1034 rfl (lv_at hl 0 rfl) ?_
  refine lv_iconst (v := 2) hx hb dL_law_1035 (by decide) ?_
  refine lv_iadd hx hb dL_law_1036 ?_
  refine va_sld hx hb hX hbl hbA hS (ix_in hi hL hL2 (kn := 2) (by decide +kernel) (by decide)) dL_law_1037 ?_
  refine k_top (z := y2) ey2.symm ?_
  refine kI.callM (As := [.int y1, .int y2]) (rest := []) ⟨hx, hb, hml, hown, hg⟩ (m_drawn l o r ef ea eg hM y1 y2 ) (cwV 2 hg (kgV wt8_78 wt8_79 wt8_80 wt1_14 wt8_81) rfl rfl rfl (by decide +kernel) ⟨by decide, by decide⟩) hK hP hD hS hA 0 12 rfl rfl rfl hl.1 rfl (Nat.le_of_ble_eq_true rfl) dL_law_1038 ⟨by show c0 + 0 + 0 ≤ 600000; omega, by show s0 + 0 + 0 ≤ 7302250; omega⟩ (fun v2 u2 H locs h2 hP hD hS => ?_)
  have hM2 := hM
  have hP : va_P D vwCl (lWd K u f a g i0 i1 tt o r ef ea eg) H := hP
  have hD : va_D (fun q : Nat => s.heap.size ≤ q) (lWd K u f a g i0 i1 tt o r ef ea eg) := hD
  have hRn : f 12 = ef 13 := (rfl : f 12 = f 12).trans (hR.trans (rfl : ef 13 = ef 13).symm)
  have hImn : xIm i0 i1 (ea 4) := (by rw [(rfl : ea 4 = ea 4)]; exact hIm)
  have hTpn : xTq (a 93) (ea 11) := xTq_k hTp (rfl : a 93 = a 93) (rfl : ea 11 = ea 11)
  have hChn : f 14 = ef 6 := (rfl : f 14 = f 14).trans (hCh.trans (rfl : ef 6 = ef 6).symm)
  have hFln : f 13 = ef 14 := (rfl : f 13 = f 13).trans (hFl.trans (rfl : ef 14 = ef 14).symm)
  have hSpn : f 15 = ef 37 := (rfl : f 15 = f 15).trans (hSp.trans (rfl : ef 37 = ef 37).symm)
  have hStn : f 16 = ef 0 := (rfl : f 16 = f 16).trans (hSt.trans (rfl : ef 0 = ef 0).symm)
  have hRfn : rfE (a 94) (ea 1) := (by rw [show a 94 = a 94 from (rfl : a 94 = a 94), (rfl : ea 1 = ea 1)]; exact hRf)
  have hSln : rlS K tt f a (g.2 15) ef ea := rlS_k hSl ⟨rfl, rfl, rfl, rfl, rfl, rfl, rfl⟩ ⟨rfl, fun _ _ => rfl⟩ rfl (rfl : ea 2 = ea 2) (rfl : ef 33 = ef 33) (rfl : ea 31 = ea 31)
  have hJ0n : rlI K tt i0 (imK (ea 3) 0) := (by rw [(rfl : ea 3 = ea 3)]; exact hJ0)
  have hJ1n : rlI K tt i1 (imK (ea 3) 1) := (by rw [(rfl : ea 3 = ea 3)]; exact hJ1)
  refine lv_pop hx hb dL_law_1041 rfl ?_
  refine lv_goto (tgt := 1127) hx hb dL_law_1042 (by decide) ?_
  refine W.widen (k := c0 + 21) (n := s0 + 467) (by show c0 + 0 + 0 ≤ c0 + 21; omega) (by show s0 + 0 + 0 ≤ s0 + 467; omega) ?_
  exact kk _ _ _ _ _ _ _ _ _ _ _ ⟨hI1, hG1, hj0, hj1, hq0, hq1, hM2, hRn, hImn, hTpn, hChn, hFln, hSpn, hStn, hRfn, hSln, hJ0n, hJ1n⟩ hP hD hS
set_option maxHeartbeats 4000000 in
set_option maxRecDepth 100000 in
theorem law_image {p : Program} {e : Env} {s : State} {m : MethodId} {below : List Frame} {meth : Method} {c : Code} (l : Launch) {b L : Nat} {xs : Nat → Int32} (C0 : lw_At p s m meth c b L xs) (hL2 : L ≤ 3072) {D : va_G} {K : Nat → ClassId} (hK : va_K D vwCl (tysK K) s) (hV : xE K (fun q : Nat => s.heap.size ≤ q) s s.heap) {u : Nat → Nat} {o : Nat} {r : Nat → Nat} {f : Nat → Int32} {a : Nat → Nat → Int32} {g : xG} {i0 i1 : Option sX} {tt : va_W} {ef : Nat → Int32} {ea : Nat → Nat → Int32} {eg : Nat → Int64} (hJ : rJ K f a g i0 i1 tt ef ea) {i : Int32} {ii : Nat} (hi : i.toInt = (ii : Int)) (hL : ii + 6 ≤ L) {c0 s0 : Nat} (hc0 : c0 + 21 ≤ 600000) (hs0 : s0 + 467 ≤ 7302250) {H : Heap} {locs : List Loc} (hP : va_P D vwCl (lWd K u f a g i0 i1 tt o r ef ea eg) H) (hD : va_D (fun q : Nat => s.heap.size ≤ q) (lWd K u f a g i0 i1 tt o r ef ea eg)) (hS : va_S (fun q : Nat => s.heap.size ≤ q) s.heap H locs) {ls : Array Slot} (hl : lv_has ls 4 [(3, .int i), (2, .ref o), (1, .ref (u 0)), (0, .ref b)]) (kk : ∀ (f : Nat → Int32) (a : Nat → Nat → Int32) (g : xG) (i0 i1 : Option sX) (tt : va_W) (ef : Nat → Int32) (ea : Nat → Nat → Int32) (eg : Nat → Int64) (H : Heap) (locs : List Loc), rJ K f a g i0 i1 tt ef ea → va_P D vwCl (lWd K u f a g i0 i1 tt o r ef ea eg) H → va_D (fun q : Nat => s.heap.size ≤ q) (lWd K u f a g i0 i1 tt o r ef ea eg) → va_S (fun q : Nat => s.heap.size ≤ q) s.heap H locs → W p l e room_1 s m #[Value.ref b] below meth c H locs (c0 + 21) (s0 + 467) (lw_Z below #[Value.ref b] s) (F0 m 1127 ls [])) : W p l e room_1 s m #[Value.ref b] below meth c H locs c0 s0 (lw_Z below #[Value.ref b] s) (F0 m 1045 ls []) := by
  obtain ⟨hx, hb, hr, hml, hown, hts, hX, hbl, hlocks, hgv⟩ := id C0
  have hA : ∀ q : Nat, s.heap.size ≤ q → (fun q : Nat => s.heap.size ≤ q) q := fun _ h => h
  have hbA : ¬ (fun q : Nat => s.heap.size ≤ q) b := Nat.not_le.mpr hbl
  have hg : ∀ w ∈ kG, w.before #[Value.ref b] s = true := fun w h => hts w (kG_in w h)
  have hown : s.vm.findClass RL = some m.cls := hown
  obtain ⟨hI, hG, hi0, hi1, hg0, hg1, hM, hR, hIm, hTp, hCh, hFl, hSp, hSt, hRf, hSl, hJ0, hJ1⟩ := hJ
  obtain ⟨DD, P, hSV, hkk, h22, hLM, hLC, hXP, hMP, hPO⟩ := id hSl
  refine lv_aload_n hx hb dL_law_1045 rfl (lv_at hl 2 rfl) ?_
  refine lv_aload_n hx hb dL_law_1046 rfl (lv_at hl 3 rfl) ?_
  refine lv_iload_n hx hb dL_law_1047 rfl (lv_at hl 0 rfl) ?_
  refine lv_iconst (v := 1) hx hb dL_law_1048 (by decide) ?_
  refine lv_iadd hx hb dL_law_1049 ?_
  refine va_sld hx hb hX hbl hbA hS (ix_in hi hL hL2 (kn := 1) (by decide +kernel) (by decide)) dL_law_1050 ?_
  refine lv_topi (fun y1 ey1 => ?_)
  refine kIG.callX (As := [.int y1]) (rest := []) ⟨hx, hb, hml, hown, hg⟩ (z_image l u f a g i0 i1 tt hI hG hi0 hi1 hg0 hg1 y1 hSV hkk) (cwV 1 hg (kgV wt5_137 wt5_138 wt5_139 wt1_1 wt5_140) rfl rfl rfl (by decide +kernel) ⟨by decide, by decide⟩) hV hK hP hD hS hA 0 11 rfl rfl rfl hl.1 rfl (Nat.le_of_ble_eq_true rfl) dL_law_1051 ⟨by show c0 + 21 ≤ 600000; omega, by show s0 + 197 ≤ 7302250; omega⟩ (fun v1 u1 H locs h1 hP hD hS => ?_)
  obtain ⟨⟨f1, a1, g1⟩, j0, j1⟩ := u1
  obtain ⟨hI1, hG1, hj0, hj1, hq0, hq1, hnF, hz, hs16⟩ := h1
  have hnF : nF [16] [94] [92] f a g.2 f1 a1 g1.2 := hnF
  have hz : imZ y1 v1 i0 i1 j0 j1 (ea 2) (g.2 15) (a 94) (a1 94) := hz
  have hs16 : f1 16 = v1 := hs16
  have hP : va_P D vwCl (lWd K u f1 a1 g1 j0 j1 tt o r ef ea eg) H := hP
  have hD : va_D (fun q : Nat => s.heap.size ≤ q) (lWd K u f1 a1 g1 j0 j1 tt o r ef ea eg) := hD
  refine lv_pop hx hb dL_law_1054 rfl ?_
  refine lv_aload_n hx hb dL_law_1055 rfl (lv_at hl 1 rfl) ?_
  refine lv_aload_n hx hb dL_law_1056 rfl (lv_at hl 3 rfl) ?_
  refine lv_iload_n hx hb dL_law_1057 rfl (lv_at hl 0 rfl) ?_
  refine lv_iconst (v := 1) hx hb dL_law_1058 (by decide) ?_
  refine lv_iadd hx hb dL_law_1059 ?_
  refine va_sld hx hb hX hbl hbA hS (ix_in hi hL hL2 (kn := 1) (by decide +kernel) (by decide)) dL_law_1060 ?_
  refine k_top (z := y1) ey1.symm ?_
  refine kI.callM (As := [.int y1]) (rest := []) ⟨hx, hb, hml, hown, hg⟩ (n_image l o r ef ea eg hM y1 P hMP) (cwV 1 hg (kgV wt6_65 wt6_66 wt6_67 wt1_14 wt6_68) rfl rfl rfl (by decide +kernel) ⟨by decide, by decide⟩) hK hP hD hS hA 0 12 rfl rfl rfl hl.1 rfl (Nat.le_of_ble_eq_true rfl) dL_law_1061 ⟨by show c0 + 21 + 0 ≤ 600000; omega, by show s0 + 197 + 0 ≤ 7302250; omega⟩ (fun v2 u2 H locs h2 hP hD hS => ?_)
  obtain ⟨ef2, ea2, eg2⟩ := u2
  have hM2 : mI ef2 ea2 := (h2.2.1)
  have hP : va_P D vwCl (lWd K u f1 a1 g1 j0 j1 tt o r ef2 ea2 eg2) H := hP
  have hD : va_D (fun q : Nat => s.heap.size ≤ q) (lWd K u f1 a1 g1 j0 j1 tt o r ef2 ea2 eg2) := hD
  have hq := im_r hz (h2.2.2.1).2.2.2 (h2.2.2.2.2.2.1).2 hIm (mI_sm hM) hkk h22 hLM hLC hJ0 hJ1 hRf
  have hns := nF_s hnF (by decide) (by decide) rfl
  have hRn : f1 12 = ef2 13 := (show f1 12 = f 12 from hnF.1 12 (by decide) rfl).trans (hR.trans (show ef2 13 = ef 13 from (h2.2.2.2.2.2.2).1 13 rfl).symm)
  have hImn : xIm j0 j1 (ea2 4) := hq.2.1
  have hTpn : xTq (a1 93) (ea2 11) := xTq_k hTp (show a1 93 = a 93 from hnF.2.1 93 (by decide) rfl) (show ea2 11 = ea 11 from (h2.2.2.2.2.2.2).2 11 rfl)
  have hChn : f1 14 = ef2 6 := (show f1 14 = f 14 from hnF.1 14 (by decide) rfl).trans (hCh.trans (show ef2 6 = ef 6 from (h2.2.2.2.2.2.2).1 6 rfl).symm)
  have hFln : f1 13 = ef2 14 := (show f1 13 = f 13 from hnF.1 13 (by decide) rfl).trans (hFl.trans (show ef2 14 = ef 14 from (h2.2.2.2.2.2.2).1 14 rfl).symm)
  have hSpn : f1 15 = ef2 37 := (show f1 15 = f 15 from hnF.1 15 (by decide) rfl).trans (hSp.trans (show ef2 37 = ef 37 from (h2.2.2.2.2.2.2).1 37 rfl).symm)
  have hStn : f1 16 = ef2 0 := (hs16.trans (hq.1.trans (h2.2.2.2.2.2.1).1.symm))
  have hRfn : rfE (a1 94) (ea2 1) := hq.2.2.2.2.1
  have hSln : rlS K tt f1 a1 (g1.2 15) ef2 ea2 := rlS_s hns.1 hns.2.1 hSV hkk h22 hLM hLC hXP hPO hns.2.2 (show ea2 2 = ea 2 from (h2.2.2.2.2.2.2).2 2 rfl) hq.2.2.2.2.2
  have hJ0n : rlI K tt j0 (imK (ea2 3) 0) := hq.2.2.1
  have hJ1n : rlI K tt j1 (imK (ea2 3) 1) := hq.2.2.2.1
  refine lv_pop hx hb dL_law_1064 rfl ?_
  refine lv_goto (tgt := 1127) hx hb dL_law_1065 (by decide) ?_
  refine W.widen (k := c0 + 21) (n := s0 + 467) (by show c0 + 21 + 0 ≤ c0 + 21; omega) (by show s0 + 197 + 0 ≤ s0 + 467; omega) ?_
  exact kk _ _ _ _ _ _ _ _ _ _ _ ⟨hI1, hG1, hj0, hj1, hq0, hq1, hM2, hRn, hImn, hTpn, hChn, hFln, hSpn, hStn, hRfn, hSln, hJ0n, hJ1n⟩ hP hD hS
set_option maxHeartbeats 4000000 in
set_option maxRecDepth 100000 in
theorem law_back {p : Program} {e : Env} {s : State} {m : MethodId} {below : List Frame} {meth : Method} {c : Code} (l : Launch) {b L : Nat} {xs : Nat → Int32} (C0 : lw_At p s m meth c b L xs) (hL2 : L ≤ 3072) {D : va_G} {K : Nat → ClassId} (hK : va_K D vwCl (tysK K) s) (hV : xE K (fun q : Nat => s.heap.size ≤ q) s s.heap) {u : Nat → Nat} {o : Nat} {r : Nat → Nat} {f : Nat → Int32} {a : Nat → Nat → Int32} {g : xG} {i0 i1 : Option sX} {tt : va_W} {ef : Nat → Int32} {ea : Nat → Nat → Int32} {eg : Nat → Int64} (hJ : rJ K f a g i0 i1 tt ef ea) {i : Int32} {ii : Nat} (hi : i.toInt = (ii : Int)) (hL : ii + 6 ≤ L) {c0 s0 : Nat} (hc0 : c0 + 21 ≤ 600000) (hs0 : s0 + 467 ≤ 7302250) {H : Heap} {locs : List Loc} (hP : va_P D vwCl (lWd K u f a g i0 i1 tt o r ef ea eg) H) (hD : va_D (fun q : Nat => s.heap.size ≤ q) (lWd K u f a g i0 i1 tt o r ef ea eg)) (hS : va_S (fun q : Nat => s.heap.size ≤ q) s.heap H locs) {ls : Array Slot} (hl : lv_has ls 4 [(3, .int i), (2, .ref o), (1, .ref (u 0)), (0, .ref b)]) (kk : ∀ (f : Nat → Int32) (a : Nat → Nat → Int32) (g : xG) (i0 i1 : Option sX) (tt : va_W) (ef : Nat → Int32) (ea : Nat → Nat → Int32) (eg : Nat → Int64) (H : Heap) (locs : List Loc), rJ K f a g i0 i1 tt ef ea → va_P D vwCl (lWd K u f a g i0 i1 tt o r ef ea eg) H → va_D (fun q : Nat => s.heap.size ≤ q) (lWd K u f a g i0 i1 tt o r ef ea eg) → va_S (fun q : Nat => s.heap.size ≤ q) s.heap H locs → W p l e room_1 s m #[Value.ref b] below meth c H locs (c0 + 21) (s0 + 467) (lw_Z below #[Value.ref b] s) (F0 m 1127 ls [])) : W p l e room_1 s m #[Value.ref b] below meth c H locs c0 s0 (lw_Z below #[Value.ref b] s) (F0 m 1068 ls []) := by
  obtain ⟨hx, hb, hr, hml, hown, hts, hX, hbl, hlocks, hgv⟩ := id C0
  have hA : ∀ q : Nat, s.heap.size ≤ q → (fun q : Nat => s.heap.size ≤ q) q := fun _ h => h
  have hbA : ¬ (fun q : Nat => s.heap.size ≤ q) b := Nat.not_le.mpr hbl
  have hg : ∀ w ∈ kG, w.before #[Value.ref b] s = true := fun w h => hts w (kG_in w h)
  have hown : s.vm.findClass RL = some m.cls := hown
  obtain ⟨hI, hG, hi0, hi1, hg0, hg1, hM, hR, hIm, hTp, hCh, hFl, hSp, hSt, hRf, hSl, hJ0, hJ1⟩ := hJ
  obtain ⟨DD, P, hSV, hkk, h22, hLM, hLC, hXP, hMP, hPO⟩ := id hSl
  refine lv_aload_n hx hb dL_law_1068 rfl (lv_at hl 2 rfl) ?_
  refine lv_aload_n hx hb dL_law_1069 rfl (lv_at hl 3 rfl) ?_
  refine lv_iload_n hx hb dL_law_1070 rfl (lv_at hl 0 rfl) ?_
  refine lv_iconst (v := 1) hx hb dL_law_1071 (by decide) ?_
  refine lv_iadd hx hb dL_law_1072 ?_
  refine va_sld hx hb hX hbl hbA hS (ix_in hi hL hL2 (kn := 1) (by decide +kernel) (by decide)) dL_law_1073 ?_
  refine lv_topi (fun y1 ey1 => ?_)
  have hV0 : ∀ s, i0 = some s → sV 3040 96 s.2.1 s.2.2.1 (imK (ea 3) 0) ∧ kK (imK (ea 3) 0) := fun s es => by obtain ⟨_, q1, q2, _⟩ := hJ0 s es; exact ⟨q1, q2⟩
  have hV1 : ∀ s, i1 = some s → sV 3040 96 s.2.1 s.2.2.1 (imK (ea 3) 1) ∧ kK (imK (ea 3) 1) := fun s es => by obtain ⟨_, q1, q2, _⟩ := hJ1 s es; exact ⟨q1, q2⟩
  refine kIG.callX (As := [.int y1]) (rest := []) ⟨hx, hb, hml, hown, hg⟩ (z_back l u f a g i0 i1 tt hI hG hi0 hi1 hg0 hg1 y1 hV0 hV1) (cwV 1 hg (kgV wt5_142 wt5_143 wt5_144 wt1_1 wt5_145) rfl rfl rfl (by decide +kernel) ⟨by decide, by decide⟩) hV hK hP hD hS hA 0 11 rfl rfl rfl hl.1 rfl (Nat.le_of_ble_eq_true rfl) dL_law_1074 ⟨by show c0 + 21 ≤ 600000; omega, by show s0 + 197 ≤ 7302250; omega⟩ (fun v1 u1 H locs h1 hP hD hS => ?_)
  obtain ⟨⟨f1, a1, g1⟩, j0, j1⟩ := u1
  obtain ⟨hI1, hG1, hj0, hj1, hq0, hq1, hiq0, hiq1, hz, hs16⟩ := h1
  have hz : bkZ y1 v1 i0 i1 (imK (ea 3) 0) (imK (ea 3) 1) f a g.2 f1 a1 g1.2 := hz
  have hnF := bkZ_F hz
  have hs16 : f1 16 = v1 := hs16
  have hP : va_P D vwCl (lWd K u f1 a1 g1 j0 j1 tt o r ef ea eg) H := hP
  have hD : va_D (fun q : Nat => s.heap.size ≤ q) (lWd K u f1 a1 g1 j0 j1 tt o r ef ea eg) := hD
  refine lv_pop hx hb dL_law_1077 rfl ?_
  refine lv_aload_n hx hb dL_law_1078 rfl (lv_at hl 1 rfl) ?_
  refine lv_aload_n hx hb dL_law_1079 rfl (lv_at hl 3 rfl) ?_
  refine lv_iload_n hx hb dL_law_1080 rfl (lv_at hl 0 rfl) ?_
  refine lv_iconst (v := 1) hx hb dL_law_1081 (by decide) ?_
  refine lv_iadd hx hb dL_law_1082 ?_
  refine va_sld hx hb hX hbl hbA hS (ix_in hi hL hL2 (kn := 1) (by decide +kernel) (by decide)) dL_law_1083 ?_
  refine k_top (z := y1) ey1.symm ?_
  refine kI.callM (As := [.int y1]) (rest := []) ⟨hx, hb, hml, hown, hg⟩ (n_back l o r ef ea eg hM y1 P hMP) (cwV 1 hg (kgV wt6_80 wt6_81 wt6_82 wt1_14 wt6_83) rfl rfl rfl (by decide +kernel) ⟨by decide, by decide⟩) hK hP hD hS hA 0 12 rfl rfl rfl hl.1 rfl (Nat.le_of_ble_eq_true rfl) dL_law_1084 ⟨by show c0 + 21 + 0 ≤ 600000; omega, by show s0 + 197 + 0 ≤ 7302250; omega⟩ (fun v2 u2 H locs h2 hP hD hS => ?_)
  obtain ⟨ef2, ea2, eg2⟩ := u2
  have hM2 : mI ef2 ea2 := (h2.2.1)
  have hP : va_P D vwCl (lWd K u f1 a1 g1 j0 j1 tt o r ef2 ea2 eg2) H := hP
  have hD : va_D (fun q : Nat => s.heap.size ≤ q) (lWd K u f1 a1 g1 j0 j1 tt o r ef2 ea2 eg2) := hD
  have hq := bk_r hz (h2.2.2.1).2.2.2.2 (h2.2.2.2.2.2.1).2 hIm hSV hkk h22 hLM hLC hXP hPO hJ0 hJ1 hRf
  have hRn : f1 12 = ef2 13 := (show f1 12 = f 12 from hnF.1 12 (by decide) rfl).trans (hR.trans (show ef2 13 = ef 13 from (h2.2.2.2.2.2.2).1 13 rfl).symm)
  have hImn : xIm j0 j1 (ea2 4) := (by rw [(show ea2 4 = ea 4 from (h2.2.2.2.2.2.2).2 4 rfl)]; exact ⟨(iQ_none hiq0).trans hIm.1, (iQ_none hiq1).trans hIm.2⟩)
  have hTpn : xTq (a1 93) (ea2 11) := xTq_k hTp (show a1 93 = a 93 from hnF.2.1 93 (by decide) rfl) (show ea2 11 = ea 11 from (h2.2.2.2.2.2.2).2 11 rfl)
  have hChn : f1 14 = ef2 6 := (show f1 14 = f 14 from hnF.1 14 (by decide) rfl).trans (hCh.trans (show ef2 6 = ef 6 from (h2.2.2.2.2.2.2).1 6 rfl).symm)
  have hFln : f1 13 = ef2 14 := (show f1 13 = f 13 from hnF.1 13 (by decide) rfl).trans (hFl.trans (show ef2 14 = ef 14 from (h2.2.2.2.2.2.2).1 14 rfl).symm)
  have hSpn : f1 15 = ef2 37 := (show f1 15 = f 15 from hnF.1 15 (by decide) rfl).trans (hSp.trans (show ef2 37 = ef 37 from (h2.2.2.2.2.2.2).1 37 rfl).symm)
  have hStn : f1 16 = ef2 0 := (hs16.trans (hq.1.trans (h2.2.2.2.2.2.1).1.symm))
  have hRfn : rfE (a1 94) (ea2 1) := hq.2.2
  have hSln : rlS K tt f1 a1 (g1.2 15) ef2 ea2 := hq.2.1
  have hJ0n : rlI K tt j0 (imK (ea2 3) 0) := (by rw [(show ea2 3 = ea 3 from (h2.2.2.2.2.2.2).2 3 rfl)]; exact rlI_q hJ0 hiq0)
  have hJ1n : rlI K tt j1 (imK (ea2 3) 1) := (by rw [(show ea2 3 = ea 3 from (h2.2.2.2.2.2.2).2 3 rfl)]; exact rlI_q hJ1 hiq1)
  refine lv_pop hx hb dL_law_1087 rfl ?_
  refine lv_goto (tgt := 1127) hx hb dL_law_1088 (by decide) ?_
  refine W.widen (k := c0 + 21) (n := s0 + 467) (by show c0 + 21 + 0 ≤ c0 + 21; omega) (by show s0 + 197 + 0 ≤ s0 + 467; omega) ?_
  exact kk _ _ _ _ _ _ _ _ _ _ _ ⟨hI1, hG1, hj0, hj1, hq0, hq1, hM2, hRn, hImn, hTpn, hChn, hFln, hSpn, hStn, hRfn, hSln, hJ0n, hJ1n⟩ hP hD hS
set_option maxHeartbeats 4000000 in
set_option maxRecDepth 100000 in
theorem law_count {p : Program} {e : Env} {s : State} {m : MethodId} {below : List Frame} {meth : Method} {c : Code} (l : Launch) {b L : Nat} {xs : Nat → Int32} (C0 : lw_At p s m meth c b L xs) (hL2 : L ≤ 3072) {D : va_G} {K : Nat → ClassId} (hK : va_K D vwCl (tysK K) s) (hV : xE K (fun q : Nat => s.heap.size ≤ q) s s.heap) {u : Nat → Nat} {o : Nat} {r : Nat → Nat} {f : Nat → Int32} {a : Nat → Nat → Int32} {g : xG} {i0 i1 : Option sX} {tt : va_W} {ef : Nat → Int32} {ea : Nat → Nat → Int32} {eg : Nat → Int64} (hJ : rJ K f a g i0 i1 tt ef ea) {i : Int32} {ii : Nat} (hi : i.toInt = (ii : Int)) (hL : ii + 6 ≤ L) {c0 s0 : Nat} (hc0 : c0 + 21 ≤ 600000) (hs0 : s0 + 467 ≤ 7302250) {H : Heap} {locs : List Loc} (hP : va_P D vwCl (lWd K u f a g i0 i1 tt o r ef ea eg) H) (hD : va_D (fun q : Nat => s.heap.size ≤ q) (lWd K u f a g i0 i1 tt o r ef ea eg)) (hS : va_S (fun q : Nat => s.heap.size ≤ q) s.heap H locs) {ls : Array Slot} (hl : lv_has ls 4 [(3, .int i), (2, .ref o), (1, .ref (u 0)), (0, .ref b)]) (kk : ∀ (f : Nat → Int32) (a : Nat → Nat → Int32) (g : xG) (i0 i1 : Option sX) (tt : va_W) (ef : Nat → Int32) (ea : Nat → Nat → Int32) (eg : Nat → Int64) (H : Heap) (locs : List Loc), rJ K f a g i0 i1 tt ef ea → va_P D vwCl (lWd K u f a g i0 i1 tt o r ef ea eg) H → va_D (fun q : Nat => s.heap.size ≤ q) (lWd K u f a g i0 i1 tt o r ef ea eg) → va_S (fun q : Nat => s.heap.size ≤ q) s.heap H locs → W p l e room_1 s m #[Value.ref b] below meth c H locs (c0 + 21) (s0 + 467) (lw_Z below #[Value.ref b] s) (F0 m 1127 ls [])) : W p l e room_1 s m #[Value.ref b] below meth c H locs c0 s0 (lw_Z below #[Value.ref b] s) (F0 m 1091 ls []) := by
  obtain ⟨hx, hb, hr, hml, hown, hts, hX, hbl, hlocks, hgv⟩ := id C0
  have hA : ∀ q : Nat, s.heap.size ≤ q → (fun q : Nat => s.heap.size ≤ q) q := fun _ h => h
  have hbA : ¬ (fun q : Nat => s.heap.size ≤ q) b := Nat.not_le.mpr hbl
  have hg : ∀ w ∈ kG, w.before #[Value.ref b] s = true := fun w h => hts w (kG_in w h)
  have hown : s.vm.findClass RL = some m.cls := hown
  obtain ⟨hI, hG, hi0, hi1, hg0, hg1, hM, hR, hIm, hTp, hCh, hFl, hSp, hSt, hRf, hSl, hJ0, hJ1⟩ := hJ
  obtain ⟨DD, P, hSV, hkk, h22, hLM, hLC, hXP, hMP, hPO⟩ := id hSl
  refine lv_aload_n hx hb dL_law_1091 rfl (lv_at hl 2 rfl) ?_
  refine lv_aload_n hx hb dL_law_1092 rfl (lv_at hl 3 rfl) ?_
  refine lv_iload_n hx hb dL_law_1093 rfl (lv_at hl 0 rfl) ?_
  refine lv_iconst (v := 1) hx hb dL_law_1094 (by decide) ?_
  refine lv_iadd hx hb dL_law_1095 ?_
  refine va_sld hx hb hX hbl hbA hS (ix_in hi hL hL2 (kn := 1) (by decide +kernel) (by decide)) dL_law_1096 ?_
  refine lv_topi (fun y1 ey1 => ?_)
  refine kIG.callX (As := [.int y1]) (rest := []) ⟨hx, hb, hml, hown, hg⟩ (z_count l u f a g (iW K i0 ++ (iW K i1 ++ tt)) tt mem_rr hI hG y1 (ea 2) hSV hkk ) (cwV 1 hg (kgV wt5_146 wt5_147 wt5_148 wt1_1 wt5_149) rfl rfl rfl (by decide +kernel) ⟨by decide, by decide⟩) hV hK hP hD hS hA 0 11 rfl rfl rfl hl.1 rfl (Nat.le_of_ble_eq_true rfl) dL_law_1097 ⟨by show c0 + 0 ≤ 600000; omega, by show s0 + 0 ≤ 7302250; omega⟩ (fun v1 u1 H locs h1 hP hD hS => ?_)
  have hI1 := hI
  have hG1 := hG
  have hj0 := hi0
  have hj1 := hi1
  have hq0 := hg0
  have hq1 := hg1
  have hP : va_P D vwCl (lWd K u f a g i0 i1 tt o r ef ea eg) H := hP
  have hD : va_D (fun q : Nat => s.heap.size ≤ q) (lWd K u f a g i0 i1 tt o r ef ea eg) := hD
  refine lv_pop hx hb dL_law_1100 rfl ?_
  refine lv_aload_n hx hb dL_law_1101 rfl (lv_at hl 1 rfl) ?_
  refine lv_aload_n hx hb dL_law_1102 rfl (lv_at hl 3 rfl) ?_
  refine lv_iload_n hx hb dL_law_1103 rfl (lv_at hl 0 rfl) ?_
  refine lv_iconst (v := 1) hx hb dL_law_1104 (by decide) ?_
  refine lv_iadd hx hb dL_law_1105 ?_
  refine va_sld hx hb hX hbl hbA hS (ix_in hi hL hL2 (kn := 1) (by decide +kernel) (by decide)) dL_law_1106 ?_
  refine k_top (z := y1) ey1.symm ?_
  refine kI.callM (As := [.int y1]) (rest := []) ⟨hx, hb, hml, hown, hg⟩ (n_count l o r ef ea eg hM y1 hkk) (cwV 1 hg (kgV wt8_82 wt8_83 wt8_84 wt1_14 wt8_85) rfl rfl rfl (by decide +kernel) ⟨by decide, by decide⟩) hK hP hD hS hA 0 12 rfl rfl rfl hl.1 rfl (Nat.le_of_ble_eq_true rfl) dL_law_1107 ⟨by show c0 + 0 + 0 ≤ 600000; omega, by show s0 + 0 + 0 ≤ 7302250; omega⟩ (fun v2 u2 H locs h2 hP hD hS => ?_)
  have hM2 := hM
  have hP : va_P D vwCl (lWd K u f a g i0 i1 tt o r ef ea eg) H := hP
  have hD : va_D (fun q : Nat => s.heap.size ≤ q) (lWd K u f a g i0 i1 tt o r ef ea eg) := hD
  have hRn : f 12 = ef 13 := (rfl : f 12 = f 12).trans (hR.trans (rfl : ef 13 = ef 13).symm)
  have hImn : xIm i0 i1 (ea 4) := (by rw [(rfl : ea 4 = ea 4)]; exact hIm)
  have hTpn : xTq (a 93) (ea 11) := xTq_k hTp (rfl : a 93 = a 93) (rfl : ea 11 = ea 11)
  have hChn : f 14 = ef 6 := (rfl : f 14 = f 14).trans (hCh.trans (rfl : ef 6 = ef 6).symm)
  have hFln : f 13 = ef 14 := (rfl : f 13 = f 13).trans (hFl.trans (rfl : ef 14 = ef 14).symm)
  have hSpn : f 15 = ef 37 := (rfl : f 15 = f 15).trans (hSp.trans (rfl : ef 37 = ef 37).symm)
  have hStn : f 16 = ef 0 := (rfl : f 16 = f 16).trans (hSt.trans (rfl : ef 0 = ef 0).symm)
  have hRfn : rfE (a 94) (ea 1) := (by rw [show a 94 = a 94 from (rfl : a 94 = a 94), (rfl : ea 1 = ea 1)]; exact hRf)
  have hSln : rlS K tt f a (g.2 15) ef ea := rlS_k hSl ⟨rfl, rfl, rfl, rfl, rfl, rfl, rfl⟩ ⟨rfl, fun _ _ => rfl⟩ rfl (rfl : ea 2 = ea 2) (rfl : ef 33 = ef 33) (rfl : ea 31 = ea 31)
  have hJ0n : rlI K tt i0 (imK (ea 3) 0) := (by rw [(rfl : ea 3 = ea 3)]; exact hJ0)
  have hJ1n : rlI K tt i1 (imK (ea 3) 1) := (by rw [(rfl : ea 3 = ea 3)]; exact hJ1)
  refine lv_pop hx hb dL_law_1110 rfl ?_
  refine lv_goto (tgt := 1127) hx hb dL_law_1111 (by decide) ?_
  refine W.widen (k := c0 + 21) (n := s0 + 467) (by show c0 + 0 + 0 ≤ c0 + 21; omega) (by show s0 + 0 + 0 ≤ s0 + 467; omega) ?_
  exact kk _ _ _ _ _ _ _ _ _ _ _ ⟨hI1, hG1, hj0, hj1, hq0, hq1, hM2, hRn, hImn, hTpn, hChn, hFln, hSpn, hStn, hRfn, hSln, hJ0n, hJ1n⟩ hP hD hS
set_option maxHeartbeats 4000000 in
set_option maxRecDepth 100000 in
theorem law_status {p : Program} {e : Env} {s : State} {m : MethodId} {below : List Frame} {meth : Method} {c : Code} (l : Launch) {b L : Nat} {xs : Nat → Int32} (C0 : lw_At p s m meth c b L xs) (hL2 : L ≤ 3072) {D : va_G} {K : Nat → ClassId} (hK : va_K D vwCl (tysK K) s) (hV : xE K (fun q : Nat => s.heap.size ≤ q) s s.heap) {u : Nat → Nat} {o : Nat} {r : Nat → Nat} {f : Nat → Int32} {a : Nat → Nat → Int32} {g : xG} {i0 i1 : Option sX} {tt : va_W} {ef : Nat → Int32} {ea : Nat → Nat → Int32} {eg : Nat → Int64} (hJ : rJ K f a g i0 i1 tt ef ea) {i : Int32} {ii : Nat} (hi : i.toInt = (ii : Int)) (hL : ii + 6 ≤ L) {c0 s0 : Nat} (hc0 : c0 + 21 ≤ 600000) (hs0 : s0 + 467 ≤ 7302250) {H : Heap} {locs : List Loc} (hP : va_P D vwCl (lWd K u f a g i0 i1 tt o r ef ea eg) H) (hD : va_D (fun q : Nat => s.heap.size ≤ q) (lWd K u f a g i0 i1 tt o r ef ea eg)) (hS : va_S (fun q : Nat => s.heap.size ≤ q) s.heap H locs) {ls : Array Slot} (hl : lv_has ls 4 [(3, .int i), (2, .ref o), (1, .ref (u 0)), (0, .ref b)]) (kk : ∀ (f : Nat → Int32) (a : Nat → Nat → Int32) (g : xG) (i0 i1 : Option sX) (tt : va_W) (ef : Nat → Int32) (ea : Nat → Nat → Int32) (eg : Nat → Int64) (H : Heap) (locs : List Loc), rJ K f a g i0 i1 tt ef ea → va_P D vwCl (lWd K u f a g i0 i1 tt o r ef ea eg) H → va_D (fun q : Nat => s.heap.size ≤ q) (lWd K u f a g i0 i1 tt o r ef ea eg) → va_S (fun q : Nat => s.heap.size ≤ q) s.heap H locs → W p l e room_1 s m #[Value.ref b] below meth c H locs (c0 + 21) (s0 + 467) (lw_Z below #[Value.ref b] s) (F0 m 1127 ls [])) : W p l e room_1 s m #[Value.ref b] below meth c H locs c0 s0 (lw_Z below #[Value.ref b] s) (F0 m 1114 ls []) := by
  obtain ⟨hx, hb, hr, hml, hown, hts, hX, hbl, hlocks, hgv⟩ := id C0
  have hA : ∀ q : Nat, s.heap.size ≤ q → (fun q : Nat => s.heap.size ≤ q) q := fun _ h => h
  have hbA : ¬ (fun q : Nat => s.heap.size ≤ q) b := Nat.not_le.mpr hbl
  have hg : ∀ w ∈ kG, w.before #[Value.ref b] s = true := fun w h => hts w (kG_in w h)
  have hown : s.vm.findClass RL = some m.cls := hown
  obtain ⟨hI, hG, hi0, hi1, hg0, hg1, hM, hR, hIm, hTp, hCh, hFl, hSp, hSt, hRf, hSl, hJ0, hJ1⟩ := hJ
  obtain ⟨DD, P, hSV, hkk, h22, hLM, hLC, hXP, hMP, hPO⟩ := id hSl
  refine lv_aload_n hx hb dL_law_1114 rfl (lv_at hl 2 rfl) ?_
  refine kIG.callX (As := []) (rest := []) ⟨hx, hb, hml, hown, hg⟩ (z_status l u f a g (iW K i0 ++ (iW K i1 ++ tt)) tt mem_rr hI hG   ) (cwV 0 hg (kgV wt5_150 wt5_151 wt5_152 wt1_1 wt5_153) rfl rfl rfl (by decide +kernel) ⟨by decide, by decide⟩) hV hK hP hD hS hA 0 11 rfl rfl rfl hl.1 rfl (Nat.le_of_ble_eq_true rfl) dL_law_1115 ⟨by show c0 + 0 ≤ 600000; omega, by show s0 + 0 ≤ 7302250; omega⟩ (fun v1 u1 H locs h1 hP hD hS => ?_)
  have hI1 := hI
  have hG1 := hG
  have hj0 := hi0
  have hj1 := hi1
  have hq0 := hg0
  have hq1 := hg1
  have hP : va_P D vwCl (lWd K u f a g i0 i1 tt o r ef ea eg) H := hP
  have hD : va_D (fun q : Nat => s.heap.size ≤ q) (lWd K u f a g i0 i1 tt o r ef ea eg) := hD
  refine lv_pop hx hb dL_law_1118 rfl ?_
  refine lv_aload_n hx hb dL_law_1119 rfl (lv_at hl 1 rfl) ?_
  refine kI.callM (As := []) (rest := []) ⟨hx, hb, hml, hown, hg⟩ (n_status l o r ef ea eg hM  ) (cwV 0 hg (kgV wt8_86 wt8_87 wt8_88 wt1_14 wt8_89) rfl rfl rfl (by decide +kernel) ⟨by decide, by decide⟩) hK hP hD hS hA 0 12 rfl rfl rfl hl.1 rfl (Nat.le_of_ble_eq_true rfl) dL_law_1120 ⟨by show c0 + 0 + 0 ≤ 600000; omega, by show s0 + 0 + 0 ≤ 7302250; omega⟩ (fun v2 u2 H locs h2 hP hD hS => ?_)
  have hM2 := hM
  have hP : va_P D vwCl (lWd K u f a g i0 i1 tt o r ef ea eg) H := hP
  have hD : va_D (fun q : Nat => s.heap.size ≤ q) (lWd K u f a g i0 i1 tt o r ef ea eg) := hD
  have hRn : f 12 = ef 13 := (rfl : f 12 = f 12).trans (hR.trans (rfl : ef 13 = ef 13).symm)
  have hImn : xIm i0 i1 (ea 4) := (by rw [(rfl : ea 4 = ea 4)]; exact hIm)
  have hTpn : xTq (a 93) (ea 11) := xTq_k hTp (rfl : a 93 = a 93) (rfl : ea 11 = ea 11)
  have hChn : f 14 = ef 6 := (rfl : f 14 = f 14).trans (hCh.trans (rfl : ef 6 = ef 6).symm)
  have hFln : f 13 = ef 14 := (rfl : f 13 = f 13).trans (hFl.trans (rfl : ef 14 = ef 14).symm)
  have hSpn : f 15 = ef 37 := (rfl : f 15 = f 15).trans (hSp.trans (rfl : ef 37 = ef 37).symm)
  have hStn : f 16 = ef 0 := (rfl : f 16 = f 16).trans (hSt.trans (rfl : ef 0 = ef 0).symm)
  have hRfn : rfE (a 94) (ea 1) := (by rw [show a 94 = a 94 from (rfl : a 94 = a 94), (rfl : ea 1 = ea 1)]; exact hRf)
  have hSln : rlS K tt f a (g.2 15) ef ea := rlS_k hSl ⟨rfl, rfl, rfl, rfl, rfl, rfl, rfl⟩ ⟨rfl, fun _ _ => rfl⟩ rfl (rfl : ea 2 = ea 2) (rfl : ef 33 = ef 33) (rfl : ea 31 = ea 31)
  have hJ0n : rlI K tt i0 (imK (ea 3) 0) := (by rw [(rfl : ea 3 = ea 3)]; exact hJ0)
  have hJ1n : rlI K tt i1 (imK (ea 3) 1) := (by rw [(rfl : ea 3 = ea 3)]; exact hJ1)
  refine lv_pop hx hb dL_law_1123 rfl ?_
  refine lv_goto (tgt := 1127) hx hb dL_law_1124 (by decide) ?_
  refine W.widen (k := c0 + 21) (n := s0 + 467) (by show c0 + 0 + 0 ≤ c0 + 21; omega) (by show s0 + 0 + 0 ≤ s0 + 467; omega) ?_
  exact kk _ _ _ _ _ _ _ _ _ _ _ ⟨hI1, hG1, hj0, hj1, hq0, hq1, hM2, hRn, hImn, hTpn, hChn, hFln, hSpn, hStn, hRfn, hSln, hJ0n, hJ1n⟩ hP hD hS
