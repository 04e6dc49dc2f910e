theorem dX10_init_184 : decode cX10_init 184 = .ok (.bastore, 1) := by decide +kernel
theorem dX10_init_185 : decode cX10_init 185 = .ok (.dup, 1) := by decide +kernel
theorem dX10_init_186 : decode cX10_init 186 = .ok (.bipush 21, 2) := by decide +kernel
theorem dX10_init_188 : decode cX10_init 188 = .ok (.bipush 111, 2) := by decide +kernel
theorem dX10_init_190 : decode cX10_init 190 = .ok (.bastore, 1) := by decide +kernel
theorem dX10_init_191 : decode cX10_init 191 = .ok (.dup, 1) := by decide +kernel
theorem dX10_init_192 : decode cX10_init 192 = .ok (.bipush 22, 2) := by decide +kernel
theorem dX10_init_194 : decode cX10_init 194 = .ok (.bipush 97, 2) := by decide +kernel
theorem dX10_init_196 : decode cX10_init 196 = .ok (.bastore, 1) := by decide +kernel
theorem dX10_init_197 : decode cX10_init 197 = .ok (.dup, 1) := by decide +kernel
theorem dX10_init_198 : decode cX10_init 198 = .ok (.bipush 23, 2) := by decide +kernel
theorem dX10_init_200 : decode cX10_init 200 = .ok (.bipush 116, 2) := by decide +kernel
theorem dX10_init_202 : decode cX10_init 202 = .ok (.bastore, 1) := by decide +kernel
theorem dX10_init_203 : decode cX10_init 203 = .ok (.dup, 1) := by decide +kernel
theorem dX10_init_204 : decode cX10_init 204 = .ok (.bipush 24, 2) := by decide +kernel
theorem dX10_init_206 : decode cX10_init 206 = .ok (.bipush 104, 2) := by decide +kernel
theorem dX10_init_208 : decode cX10_init 208 = .ok (.bastore, 1) := by decide +kernel
theorem dX10_init_209 : decode cX10_init 209 = .ok (.dup, 1) := by decide +kernel
theorem dX10_init_210 : decode cX10_init 210 = .ok (.bipush 25, 2) := by decide +kernel
theorem dX10_init_212 : decode cX10_init 212 = .ok (.iconst 0, 1) := by decide +kernel
theorem dX10_init_213 : decode cX10_init 213 = .ok (.bastore, 1) := by decide +kernel
theorem dX10_init_214 : decode cX10_init 214 = .ok (.dup, 1) := by decide +kernel
theorem dX10_init_215 : decode cX10_init 215 = .ok (.bipush 26, 2) := by decide +kernel
theorem dX10_init_217 : decode cX10_init 217 = .ok (.iconst 0, 1) := by decide +kernel
theorem dX10_init_218 : decode cX10_init 218 = .ok (.bastore, 1) := by decide +kernel
theorem dX10_init_219 : decode cX10_init 219 = .ok (.dup, 1) := by decide +kernel
theorem dX10_init_220 : decode cX10_init 220 = .ok (.bipush 27, 2) := by decide +kernel
theorem dX10_init_222 : decode cX10_init 222 = .ok (.iconst 0, 1) := by decide +kernel
theorem dX10_init_223 : decode cX10_init 223 = .ok (.bastore, 1) := by decide +kernel
theorem dX10_init_224 : decode cX10_init 224 = .ok (.dup, 1) := by decide +kernel
theorem dX10_init_225 : decode cX10_init 225 = .ok (.bipush 28, 2) := by decide +kernel
theorem dX10_init_227 : decode cX10_init 227 = .ok (.bipush 100, 2) := by decide +kernel
theorem dX10_init_229 : decode cX10_init 229 = .ok (.bastore, 1) := by decide +kernel
theorem dX10_init_230 : decode cX10_init 230 = .ok (.dup, 1) := by decide +kernel
theorem dX10_init_231 : decode cX10_init 231 = .ok (.bipush 29, 2) := by decide +kernel
theorem dX10_init_233 : decode cX10_init 233 = .ok (.bipush 101, 2) := by decide +kernel
theorem dX10_init_235 : decode cX10_init 235 = .ok (.bastore, 1) := by decide +kernel
theorem dX10_init_236 : decode cX10_init 236 = .ok (.dup, 1) := by decide +kernel
theorem dX10_init_237 : decode cX10_init 237 = .ok (.bipush 30, 2) := by decide +kernel
theorem dX10_init_239 : decode cX10_init 239 = .ok (.bipush 110, 2) := by decide +kernel
theorem dX10_init_241 : decode cX10_init 241 = .ok (.bastore, 1) := by decide +kernel
theorem dX10_init_242 : decode cX10_init 242 = .ok (.dup, 1) := by decide +kernel
theorem dX10_init_243 : decode cX10_init 243 = .ok (.bipush 31, 2) := by decide +kernel
theorem dX10_init_245 : decode cX10_init 245 = .ok (.bipush 105, 2) := by decide +kernel
theorem dX10_init_247 : decode cX10_init 247 = .ok (.bastore, 1) := by decide +kernel
theorem dX10_init_248 : decode cX10_init 248 = .ok (.dup, 1) := by decide +kernel
theorem dX10_init_249 : decode cX10_init 249 = .ok (.bipush 32, 2) := by decide +kernel
theorem dX10_init_251 : decode cX10_init 251 = .ok (.bipush 101, 2) := by decide +kernel
theorem dX10_init_253 : decode cX10_init 253 = .ok (.bastore, 1) := by decide +kernel
theorem dX10_init_254 : decode cX10_init 254 = .ok (.dup, 1) := by decide +kernel
theorem dX10_init_255 : decode cX10_init 255 = .ok (.bipush 33, 2) := by decide +kernel
theorem dX10_init_257 : decode cX10_init 257 = .ok (.bipush 100, 2) := by decide +kernel
theorem dX10_init_259 : decode cX10_init 259 = .ok (.bastore, 1) := by decide +kernel
theorem dX10_init_260 : decode cX10_init 260 = .ok (.dup, 1) := by decide +kernel
theorem dX10_init_261 : decode cX10_init 261 = .ok (.bipush 34, 2) := by decide +kernel
theorem dX10_init_263 : decode cX10_init 263 = .ok (.iconst 0, 1) := by decide +kernel
theorem dX10_init_264 : decode cX10_init 264 = .ok (.bastore, 1) := by decide +kernel
theorem dX10_init_265 : decode cX10_init 265 = .ok (.dup, 1) := by decide +kernel
theorem dX10_init_266 : decode cX10_init 266 = .ok (.bipush 35, 2) := by decide +kernel
theorem dX10_init_268 : decode cX10_init 268 = .ok (.bipush 110, 2) := by decide +kernel
theorem dX10_init_270 : decode cX10_init 270 = .ok (.bastore, 1) := by decide +kernel
theorem dX10_init_271 : decode cX10_init 271 = .ok (.dup, 1) := by decide +kernel
theorem dX10_init_272 : decode cX10_init 272 = .ok (.bipush 36, 2) := by decide +kernel
theorem dX10_init_274 : decode cX10_init 274 = .ok (.bipush 111, 2) := by decide +kernel
theorem dX10_init_276 : decode cX10_init 276 = .ok (.bastore, 1) := by decide +kernel
theorem dX10_init_277 : decode cX10_init 277 = .ok (.dup, 1) := by decide +kernel
theorem dX10_init_278 : decode cX10_init 278 = .ok (.bipush 37, 2) := by decide +kernel
theorem dX10_init_280 : decode cX10_init 280 = .ok (.bipush 116, 2) := by decide +kernel
theorem dX10_init_282 : decode cX10_init 282 = .ok (.bastore, 1) := by decide +kernel
theorem dX10_init_283 : decode cX10_init 283 = .ok (.dup, 1) := by decide +kernel
theorem dX10_init_284 : decode cX10_init 284 = .ok (.bipush 38, 2) := by decide +kernel
theorem dX10_init_286 : decode cX10_init 286 = .ok (.bipush 101, 2) := by decide +kernel
theorem dX10_init_288 : decode cX10_init 288 = .ok (.bastore, 1) := by decide +kernel
theorem dX10_init_289 : decode cX10_init 289 = .ok (.dup, 1) := by decide +kernel
theorem dX10_init_290 : decode cX10_init 290 = .ok (.bipush 39, 2) := by decide +kernel
theorem dX10_init_292 : decode cX10_init 292 = .ok (.iconst 0, 1) := by decide +kernel
theorem dX10_init_293 : decode cX10_init 293 = .ok (.bastore, 1) := by decide +kernel
theorem dX10_init_294 : decode cX10_init 294 = .ok (.dup, 1) := by decide +kernel
theorem dX10_init_295 : decode cX10_init 295 = .ok (.bipush 40, 2) := by decide +kernel
theorem dX10_init_297 : decode cX10_init 297 = .ok (.iconst 0, 1) := by decide +kernel
theorem dX10_init_298 : decode cX10_init 298 = .ok (.bastore, 1) := by decide +kernel
theorem dX10_init_299 : decode cX10_init 299 = .ok (.dup, 1) := by decide +kernel
theorem dX10_init_300 : decode cX10_init 300 = .ok (.bipush 41, 2) := by decide +kernel
theorem dX10_init_302 : decode cX10_init 302 = .ok (.iconst 0, 1) := by decide +kernel
theorem dX10_init_303 : decode cX10_init 303 = .ok (.bastore, 1) := by decide +kernel
theorem dX10_init_304 : decode cX10_init 304 = .ok (.dup, 1) := by decide +kernel
theorem dX10_init_305 : decode cX10_init 305 = .ok (.bipush 42, 2) := by decide +kernel
theorem dX10_init_307 : decode cX10_init 307 = .ok (.bipush 119, 2) := by decide +kernel
theorem dX10_init_309 : decode cX10_init 309 = .ok (.bastore, 1) := by decide +kernel
theorem dX10_init_310 : decode cX10_init 310 = .ok (.dup, 1) := by decide +kernel
theorem dX10_init_311 : decode cX10_init 311 = .ok (.bipush 43, 2) := by decide +kernel
theorem dX10_init_313 : decode cX10_init 313 = .ok (.bipush 105, 2) := by decide +kernel
theorem dX10_init_315 : decode cX10_init 315 = .ok (.bastore, 1) := by decide +kernel
theorem dX10_init_316 : decode cX10_init 316 = .ok (.dup, 1) := by decide +kernel
theorem dX10_init_317 : decode cX10_init 317 = .ok (.bipush 44, 2) := by decide +kernel
theorem dX10_init_319 : decode cX10_init 319 = .ok (.bipush 116, 2) := by decide +kernel
theorem dX10_init_321 : decode cX10_init 321 = .ok (.bastore, 1) := by decide +kernel
theorem dX10_init_322 : decode cX10_init 322 = .ok (.dup, 1) := by decide +kernel
theorem dX10_init_323 : decode cX10_init 323 = .ok (.bipush 45, 2) := by decide +kernel
theorem dX10_init_325 : decode cX10_init 325 = .ok (.bipush 110, 2) := by decide +kernel
theorem dX10_init_327 : decode cX10_init 327 = .ok (.bastore, 1) := by decide +kernel
theorem dX10_init_328 : decode cX10_init 328 = .ok (.dup, 1) := by decide +kernel
theorem dX10_init_329 : decode cX10_init 329 = .ok (.bipush 46, 2) := by decide +kernel
theorem dX10_init_331 : decode cX10_init 331 = .ok (.bipush 101, 2) := by decide +kernel
theorem dX10_init_333 : decode cX10_init 333 = .ok (.bastore, 1) := by decide +kernel
theorem dX10_init_334 : decode cX10_init 334 = .ok (.dup, 1) := by decide +kernel
theorem dX10_init_335 : decode cX10_init 335 = .ok (.bipush 47, 2) := by decide +kernel
theorem dX10_init_337 : decode cX10_init 337 = .ok (.bipush 115, 2) := by decide +kernel
theorem dX10_init_339 : decode cX10_init 339 = .ok (.bastore, 1) := by decide +kernel
theorem dX10_init_340 : decode cX10_init 340 = .ok (.dup, 1) := by decide +kernel
theorem dX10_init_341 : decode cX10_init 341 = .ok (.bipush 48, 2) := by decide +kernel
theorem dX10_init_343 : decode cX10_init 343 = .ok (.bipush 115, 2) := by decide +kernel
theorem dX10_init_345 : decode cX10_init 345 = .ok (.bastore, 1) := by decide +kernel
theorem dX10_init_346 : decode cX10_init 346 = .ok (.dup, 1) := by decide +kernel
theorem dX10_init_347 : decode cX10_init 347 = .ok (.bipush 49, 2) := by decide +kernel
theorem dX10_init_349 : decode cX10_init 349 = .ok (.bipush 111, 2) := by decide +kernel
theorem dX10_init_351 : decode cX10_init 351 = .ok (.bastore, 1) := by decide +kernel
theorem dX10_init_352 : decode cX10_init 352 = .ok (.dup, 1) := by decide +kernel
theorem dX10_init_353 : decode cX10_init 353 = .ok (.bipush 50, 2) := by decide +kernel
theorem dX10_init_355 : decode cX10_init 355 = .ok (.bipush 119, 2) := by decide +kernel
theorem dX10_init_357 : decode cX10_init 357 = .ok (.bastore, 1) := by decide +kernel
theorem dX10_init_358 : decode cX10_init 358 = .ok (.dup, 1) := by decide +kernel
theorem dX10_init_359 : decode cX10_init 359 = .ok (.bipush 51, 2) := by decide +kernel
theorem dX10_init_361 : decode cX10_init 361 = .ok (.bipush 110, 2) := by decide +kernel
theorem dX10_init_363 : decode cX10_init 363 = .ok (.bastore, 1) := by decide +kernel
theorem dX10_init_364 : decode cX10_init 364 = .ok (.dup, 1) := by decide +kernel
theorem dX10_init_365 : decode cX10_init 365 = .ok (.bipush 52, 2) := by decide +kernel
theorem dX10_init_367 : decode cX10_init 367 = .ok (.iconst 0, 1) := by decide +kernel
theorem dX10_init_368 : decode cX10_init 368 = .ok (.bastore, 1) := by decide +kernel
theorem dX10_init_369 : decode cX10_init 369 = .ok (.dup, 1) := by decide +kernel
theorem dX10_init_370 : decode cX10_init 370 = .ok (.bipush 53, 2) := by decide +kernel
theorem dX10_init_372 : decode cX10_init 372 = .ok (.iconst 0, 1) := by decide +kernel
theorem dX10_init_373 : decode cX10_init 373 = .ok (.bastore, 1) := by decide +kernel
theorem dX10_init_374 : decode cX10_init 374 = .ok (.dup, 1) := by decide +kernel
theorem dX10_init_375 : decode cX10_init 375 = .ok (.bipush 54, 2) := by decide +kernel
theorem dX10_init_377 : decode cX10_init 377 = .ok (.iconst 0, 1) := by decide +kernel
theorem dX10_init_378 : decode cX10_init 378 = .ok (.bastore, 1) := by decide +kernel
theorem dX10_init_379 : decode cX10_init 379 = .ok (.dup, 1) := by decide +kernel
theorem dX10_init_380 : decode cX10_init 380 = .ok (.bipush 55, 2) := by decide +kernel
theorem dX10_init_382 : decode cX10_init 382 = .ok (.iconst 0, 1) := by decide +kernel
theorem dX10_init_383 : decode cX10_init 383 = .ok (.bastore, 1) := by decide +kernel
theorem dX10_init_384 : decode cX10_init 384 = .ok (.dup, 1) := by decide +kernel
theorem dX10_init_385 : decode cX10_init 385 = .ok (.bipush 56, 2) := by decide +kernel
theorem dX10_init_387 : decode cX10_init 387 = .ok (.bipush 111, 2) := by decide +kernel
theorem dX10_init_389 : decode cX10_init 389 = .ok (.bastore, 1) := by decide +kernel
theorem dX10_init_390 : decode cX10_init 390 = .ok (.dup, 1) := by decide +kernel
theorem dX10_init_391 : decode cX10_init 391 = .ok (.bipush 57, 2) := by decide +kernel
theorem dX10_init_393 : decode cX10_init 393 = .ok (.bipush 116, 2) := by decide +kernel
theorem dX10_init_395 : decode cX10_init 395 = .ok (.bastore, 1) := by decide +kernel
theorem dX10_init_396 : decode cX10_init 396 = .ok (.dup, 1) := by decide +kernel
theorem dX10_init_397 : decode cX10_init 397 = .ok (.bipush 58, 2) := by decide +kernel
theorem dX10_init_399 : decode cX10_init 399 = .ok (.bipush 104, 2) := by decide +kernel
theorem dX10_init_401 : decode cX10_init 401 = .ok (.bastore, 1) := by decide +kernel
theorem dX10_init_402 : decode cX10_init 402 = .ok (.dup, 1) := by decide +kernel
theorem dX10_init_403 : decode cX10_init 403 = .ok (.bipush 59, 2) := by decide +kernel
theorem dX10_init_405 : decode cX10_init 405 = .ok (.bipush 101, 2) := by decide +kernel
theorem dX10_init_407 : decode cX10_init 407 = .ok (.bastore, 1) := by decide +kernel
theorem dX10_init_408 : decode cX10_init 408 = .ok (.dup, 1) := by decide +kernel
theorem dX10_init_409 : decode cX10_init 409 = .ok (.bipush 60, 2) := by decide +kernel
theorem dX10_init_411 : decode cX10_init 411 = .ok (.bipush 114, 2) := by decide +kernel
theorem dX10_init_413 : decode cX10_init 413 = .ok (.bastore, 1) := by decide +kernel
theorem dX10_init_414 : decode cX10_init 414 = .ok (.dup, 1) := by decide +kernel
theorem dX10_init_415 : decode cX10_init 415 = .ok (.bipush 61, 2) := by decide +kernel
theorem dX10_init_417 : decode cX10_init 417 = .ok (.iconst 0, 1) := by decide +kernel
theorem dX10_init_418 : decode cX10_init 418 = .ok (.bastore, 1) := by decide +kernel
theorem dX10_init_419 : decode cX10_init 419 = .ok (.dup, 1) := by decide +kernel
theorem dX10_init_420 : decode cX10_init 420 = .ok (.bipush 62, 2) := by decide +kernel
theorem dX10_init_422 : decode cX10_init 422 = .ok (.iconst 0, 1) := by decide +kernel
theorem dX10_init_423 : decode cX10_init 423 = .ok (.bastore, 1) := by decide +kernel
theorem dX10_init_424 : decode cX10_init 424 = .ok (.dup, 1) := by decide +kernel
theorem dX10_init_425 : decode cX10_init 425 = .ok (.bipush 63, 2) := by decide +kernel
theorem dX10_init_427 : decode cX10_init 427 = .ok (.bipush 97, 2) := by decide +kernel
theorem dX10_init_429 : decode cX10_init 429 = .ok (.bastore, 1) := by decide +kernel
theorem dX10_init_430 : decode cX10_init 430 = .ok (.dup, 1) := by decide +kernel
theorem dX10_init_431 : decode cX10_init 431 = .ok (.bipush 64, 2) := by decide +kernel
theorem dX10_init_433 : decode cX10_init 433 = .ok (.bipush 108, 2) := by decide +kernel
theorem dX10_init_435 : decode cX10_init 435 = .ok (.bastore, 1) := by decide +kernel
theorem dX10_init_436 : decode cX10_init 436 = .ok (.dup, 1) := by decide +kernel
theorem dX10_init_437 : decode cX10_init 437 = .ok (.bipush 65, 2) := by decide +kernel
theorem dX10_init_439 : decode cX10_init 439 = .ok (.bipush 105, 2) := by decide +kernel
theorem dX10_init_441 : decode cX10_init 441 = .ok (.bastore, 1) := by decide +kernel
theorem dX10_init_442 : decode cX10_init 442 = .ok (.dup, 1) := by decide +kernel
theorem dX10_init_443 : decode cX10_init 443 = .ok (.bipush 66, 2) := by decide +kernel
theorem dX10_init_445 : decode cX10_init 445 = .ok (.bipush 107, 2) := by decide +kernel
theorem dX10_init_447 : decode cX10_init 447 = .ok (.bastore, 1) := by decide +kernel
theorem dX10_init_448 : decode cX10_init 448 = .ok (.dup, 1) := by decide +kernel
theorem dX10_init_449 : decode cX10_init 449 = .ok (.bipush 67, 2) := by decide +kernel
theorem dX10_init_451 : decode cX10_init 451 = .ok (.bipush 101, 2) := by decide +kernel
theorem dX10_init_453 : decode cX10_init 453 = .ok (.bastore, 1) := by decide +kernel
theorem dX10_init_454 : decode cX10_init 454 = .ok (.dup, 1) := by decide +kernel
theorem dX10_init_455 : decode cX10_init 455 = .ok (.bipush 68, 2) := by decide +kernel
theorem dX10_init_457 : decode cX10_init 457 = .ok (.iconst 0, 1) := by decide +kernel
theorem dX10_init_458 : decode cX10_init 458 = .ok (.bastore, 1) := by decide +kernel
theorem dX10_init_459 : decode cX10_init 459 = .ok (.dup, 1) := by decide +kernel
theorem dX10_init_460 : decode cX10_init 460 = .ok (.bipush 69, 2) := by decide +kernel
theorem dX10_init_462 : decode cX10_init 462 = .ok (.iconst 0, 1) := by decide +kernel
theorem dX10_init_463 : decode cX10_init 463 = .ok (.bastore, 1) := by decide +kernel
theorem dX10_init_464 : decode cX10_init 464 = .ok (.dup, 1) := by decide +kernel
theorem dX10_init_465 : decode cX10_init 465 = .ok (.bipush 70, 2) := by decide +kernel
theorem dX10_init_467 : decode cX10_init 467 = .ok (.bipush 99, 2) := by decide +kernel
theorem dX10_init_469 : decode cX10_init 469 = .ok (.bastore, 1) := by decide +kernel
theorem dX10_init_470 : decode cX10_init 470 = .ok (.dup, 1) := by decide +kernel
theorem dX10_init_471 : decode cX10_init 471 = .ok (.bipush 71, 2) := by decide +kernel
theorem dX10_init_473 : decode cX10_init 473 = .ok (.bipush 108, 2) := by decide +kernel
theorem dX10_init_475 : decode cX10_init 475 = .ok (.bastore, 1) := by decide +kernel
theorem dX10_init_476 : decode cX10_init 476 = .ok (.dup, 1) := by decide +kernel
theorem dX10_init_477 : decode cX10_init 477 = .ok (.bipush 72, 2) := by decide +kernel
theorem dX10_init_479 : decode cX10_init 479 = .ok (.bipush 97, 2) := by decide +kernel
theorem dX10_init_481 : decode cX10_init 481 = .ok (.bastore, 1) := by decide +kernel
theorem dX10_init_482 : decode cX10_init 482 = .ok (.dup, 1) := by decide +kernel
theorem dX10_init_483 : decode cX10_init 483 = .ok (.bipush 73, 2) := by decide +kernel
theorem dX10_init_485 : decode cX10_init 485 = .ok (.bipush 105, 2) := by decide +kernel
theorem dX10_init_487 : decode cX10_init 487 = .ok (.bastore, 1) := by decide +kernel
theorem dX10_init_488 : decode cX10_init 488 = .ok (.dup, 1) := by decide +kernel
theorem dX10_init_489 : decode cX10_init 489 = .ok (.bipush 74, 2) := by decide +kernel
theorem dX10_init_491 : decode cX10_init 491 = .ok (.bipush 109, 2) := by decide +kernel
theorem dX10_init_493 : decode cX10_init 493 = .ok (.bastore, 1) := by decide +kernel
theorem dX10_init_494 : decode cX10_init 494 = .ok (.dup, 1) := by decide +kernel
theorem dX10_init_495 : decode cX10_init 495 = .ok (.bipush 75, 2) := by decide +kernel
theorem dX10_init_497 : decode cX10_init 497 = .ok (.bipush 101, 2) := by decide +kernel
theorem dX10_init_499 : decode cX10_init 499 = .ok (.bastore, 1) := by decide +kernel
theorem dX10_init_500 : decode cX10_init 500 = .ok (.dup, 1) := by decide +kernel
theorem dX10_init_501 : decode cX10_init 501 = .ok (.bipush 76, 2) := by decide +kernel
theorem dX10_init_503 : decode cX10_init 503 = .ok (.bipush 100, 2) := by decide +kernel
theorem dX10_init_505 : decode cX10_init 505 = .ok (.bastore, 1) := by decide +kernel
theorem dX10_init_506 : decode cX10_init 506 = .ok (.dup, 1) := by decide +kernel
theorem dX10_init_507 : decode cX10_init 507 = .ok (.bipush 77, 2) := by decide +kernel
theorem dX10_init_509 : decode cX10_init 509 = .ok (.bipush 109, 2) := by decide +kernel
theorem dX10_init_511 : decode cX10_init 511 = .ok (.bastore, 1) := by decide +kernel
theorem dX10_init_512 : decode cX10_init 512 = .ok (.dup, 1) := by decide +kernel
theorem dX10_init_513 : decode cX10_init 513 = .ok (.bipush 78, 2) := by decide +kernel
theorem dX10_init_515 : decode cX10_init 515 = .ok (.bipush 111, 2) := by decide +kernel
theorem dX10_init_517 : decode cX10_init 517 = .ok (.bastore, 1) := by decide +kernel
theorem dX10_init_518 : decode cX10_init 518 = .ok (.dup, 1) := by decide +kernel
theorem dX10_init_519 : decode cX10_init 519 = .ok (.bipush 79, 2) := by decide +kernel
theorem dX10_init_521 : decode cX10_init 521 = .ok (.bipush 115, 2) := by decide +kernel
theorem dX10_init_523 : decode cX10_init 523 = .ok (.bastore, 1) := by decide +kernel
theorem dX10_init_524 : decode cX10_init 524 = .ok (.dup, 1) := by decide +kernel
theorem dX10_init_525 : decode cX10_init 525 = .ok (.bipush 80, 2) := by decide +kernel
theorem dX10_init_527 : decode cX10_init 527 = .ok (.bipush 116, 2) := by decide +kernel
theorem dX10_init_529 : decode cX10_init 529 = .ok (.bastore, 1) := by decide +kernel
theorem dX10_init_530 : decode cX10_init 530 = .ok (.dup, 1) := by decide +kernel
theorem dX10_init_531 : decode cX10_init 531 = .ok (.bipush 81, 2) := by decide +kernel
theorem dX10_init_533 : decode cX10_init 533 = .ok (.iconst 0, 1) := by decide +kernel
theorem dX10_init_534 : decode cX10_init 534 = .ok (.bastore, 1) := by decide +kernel
theorem dX10_init_535 : decode cX10_init 535 = .ok (.dup, 1) := by decide +kernel
theorem dX10_init_536 : decode cX10_init 536 = .ok (.bipush 82, 2) := by decide +kernel
theorem dX10_init_538 : decode cX10_init 538 = .ok (.iconst 0, 1) := by decide +kernel
theorem dX10_init_539 : decode cX10_init 539 = .ok (.bastore, 1) := by decide +kernel
theorem dX10_init_540 : decode cX10_init 540 = .ok (.dup, 1) := by decide +kernel
theorem dX10_init_541 : decode cX10_init 541 = .ok (.bipush 83, 2) := by decide +kernel
theorem dX10_init_543 : decode cX10_init 543 = .ok (.iconst 0, 1) := by decide +kernel
theorem dX10_init_544 : decode cX10_init 544 = .ok (.bastore, 1) := by decide +kernel
theorem dX10_init_545 : decode cX10_init 545 = .ok (.dup, 1) := by decide +kernel
theorem dX10_init_546 : decode cX10_init 546 = .ok (.bipush 84, 2) := by decide +kernel
theorem dX10_init_548 : decode cX10_init 548 = .ok (.bipush 115, 2) := by decide +kernel
theorem dX10_init_550 : decode cX10_init 550 = .ok (.bastore, 1) := by decide +kernel
theorem dX10_init_551 : decode cX10_init 551 = .ok (.dup, 1) := by decide +kernel
theorem dX10_init_552 : decode cX10_init 552 = .ok (.bipush 85, 2) := by decide +kernel
theorem dX10_init_554 : decode cX10_init 554 = .ok (.bipush 112, 2) := by decide +kernel
theorem dX10_init_556 : decode cX10_init 556 = .ok (.bastore, 1) := by decide +kernel
theorem dX10_init_557 : decode cX10_init 557 = .ok (.dup, 1) := by decide +kernel
theorem dX10_init_558 : decode cX10_init 558 = .ok (.bipush 86, 2) := by decide +kernel
theorem dX10_init_560 : decode cX10_init 560 = .ok (.bipush 108, 2) := by decide +kernel
theorem dX10_init_562 : decode cX10_init 562 = .ok (.bastore, 1) := by decide +kernel
theorem dX10_init_563 : decode cX10_init 563 = .ok (.dup, 1) := by decide +kernel
theorem dX10_init_564 : decode cX10_init 564 = .ok (.bipush 87, 2) := by decide +kernel
theorem dX10_init_566 : decode cX10_init 566 = .ok (.bipush 105, 2) := by decide +kernel
theorem dX10_init_568 : decode cX10_init 568 = .ok (.bastore, 1) := by decide +kernel
theorem dX10_init_569 : decode cX10_init 569 = .ok (.dup, 1) := by decide +kernel
theorem dX10_init_570 : decode cX10_init 570 = .ok (.bipush 88, 2) := by decide +kernel
theorem dX10_init_572 : decode cX10_init 572 = .ok (.bipush 116, 2) := by decide +kernel
theorem dX10_init_574 : decode cX10_init 574 = .ok (.bastore, 1) := by decide +kernel
theorem dX10_init_575 : decode cX10_init 575 = .ok (.dup, 1) := by decide +kernel
theorem dX10_init_576 : decode cX10_init 576 = .ok (.bipush 89, 2) := by decide +kernel
theorem dX10_init_578 : decode cX10_init 578 = .ok (.iconst 0, 1) := by decide +kernel
theorem dX10_init_579 : decode cX10_init 579 = .ok (.bastore, 1) := by decide +kernel
theorem dX10_init_580 : decode cX10_init 580 = .ok (.dup, 1) := by decide +kernel
theorem dX10_init_581 : decode cX10_init 581 = .ok (.bipush 90, 2) := by decide +kernel
theorem dX10_init_583 : decode cX10_init 583 = .ok (.iconst 0, 1) := by decide +kernel
theorem dX10_init_584 : decode cX10_init 584 = .ok (.bastore, 1) := by decide +kernel
theorem dX10_init_585 : decode cX10_init 585 = .ok (.dup, 1) := by decide +kernel
theorem dX10_init_586 : decode cX10_init 586 = .ok (.bipush 91, 2) := by decide +kernel
theorem dX10_init_588 : decode cX10_init 588 = .ok (.bipush 119, 2) := by decide +kernel
theorem dX10_init_590 : decode cX10_init 590 = .ok (.bastore, 1) := by decide +kernel
theorem dX10_init_591 : decode cX10_init 591 = .ok (.dup, 1) := by decide +kernel
theorem dX10_init_592 : decode cX10_init 592 = .ok (.bipush 92, 2) := by decide +kernel
theorem dX10_init_594 : decode cX10_init 594 = .ok (.bipush 101, 2) := by decide +kernel
theorem dX10_init_596 : decode cX10_init 596 = .ok (.bastore, 1) := by decide +kernel
theorem dX10_init_597 : decode cX10_init 597 = .ok (.dup, 1) := by decide +kernel
theorem dX10_init_598 : decode cX10_init 598 = .ok (.bipush 93, 2) := by decide +kernel
theorem dX10_init_600 : decode cX10_init 600 = .ok (.bipush 101, 2) := by decide +kernel
theorem dX10_init_602 : decode cX10_init 602 = .ok (.bastore, 1) := by decide +kernel
theorem dX10_init_603 : decode cX10_init 603 = .ok (.dup, 1) := by decide +kernel
theorem dX10_init_604 : decode cX10_init 604 = .ok (.bipush 94, 2) := by decide +kernel
theorem dX10_init_606 : decode cX10_init 606 = .ok (.bipush 107, 2) := by decide +kernel
theorem dX10_init_608 : decode cX10_init 608 = .ok (.bastore, 1) := by decide +kernel
theorem dX10_init_609 : decode cX10_init 609 = .ok (.dup, 1) := by decide +kernel
theorem dX10_init_610 : decode cX10_init 610 = .ok (.bipush 95, 2) := by decide +kernel
theorem dX10_init_612 : decode cX10_init 612 = .ok (.iconst 0, 1) := by decide +kernel
theorem dX10_init_613 : decode cX10_init 613 = .ok (.bastore, 1) := by decide +kernel
theorem dX10_init_614 : decode cX10_init 614 = .ok (.dup, 1) := by decide +kernel
theorem dX10_init_615 : decode cX10_init 615 = .ok (.bipush 96, 2) := by decide +kernel
theorem dX10_init_617 : decode cX10_init 617 = .ok (.iconst 0, 1) := by decide +kernel
theorem dX10_init_618 : decode cX10_init 618 = .ok (.bastore, 1) := by decide +kernel
theorem dX10_init_619 : decode cX10_init 619 = .ok (.dup, 1) := by decide +kernel
theorem dX10_init_620 : decode cX10_init 620 = .ok (.bipush 97, 2) := by decide +kernel
theorem dX10_init_622 : decode cX10_init 622 = .ok (.iconst 0, 1) := by decide +kernel
theorem dX10_init_623 : decode cX10_init 623 = .ok (.bastore, 1) := by decide +kernel
theorem dX10_init_624 : decode cX10_init 624 = .ok (.dup, 1) := by decide +kernel
theorem dX10_init_625 : decode cX10_init 625 = .ok (.bipush 98, 2) := by decide +kernel
theorem dX10_init_627 : decode cX10_init 627 = .ok (.bipush 107, 2) := by decide +kernel
theorem dX10_init_629 : decode cX10_init 629 = .ok (.bastore, 1) := by decide +kernel
theorem dX10_init_630 : decode cX10_init 630 = .ok (.dup, 1) := by decide +kernel
theorem dX10_init_631 : decode cX10_init 631 = .ok (.bipush 99, 2) := by decide +kernel
theorem dX10_init_633 : decode cX10_init 633 = .ok (.bipush 101, 2) := by decide +kernel
theorem dX10_init_635 : decode cX10_init 635 = .ok (.bastore, 1) := by decide +kernel
theorem dX10_init_636 : decode cX10_init 636 = .ok (.dup, 1) := by decide +kernel
theorem dX10_init_637 : decode cX10_init 637 = .ok (.bipush 100, 2) := by decide +kernel
theorem dX10_init_639 : decode cX10_init 639 = .ok (.bipush 101, 2) := by decide +kernel
theorem dX10_init_641 : decode cX10_init 641 = .ok (.bastore, 1) := by decide +kernel
theorem dX10_init_642 : decode cX10_init 642 = .ok (.dup, 1) := by decide +kernel
theorem dX10_init_643 : decode cX10_init 643 = .ok (.bipush 101, 2) := by decide +kernel
theorem dX10_init_645 : decode cX10_init 645 = .ok (.bipush 112, 2) := by decide +kernel
theorem dX10_init_647 : decode cX10_init 647 = .ok (.bastore, 1) := by decide +kernel
theorem dX10_init_648 : decode cX10_init 648 = .ok (.dup, 1) := by decide +kernel
theorem dX10_init_649 : decode cX10_init 649 = .ok (.bipush 102, 2) := by decide +kernel
theorem dX10_init_651 : decode cX10_init 651 = .ok (.iconst 0, 1) := by decide +kernel
theorem dX10_init_652 : decode cX10_init 652 = .ok (.bastore, 1) := by decide +kernel
theorem dX10_init_653 : decode cX10_init 653 = .ok (.dup, 1) := by decide +kernel
theorem dX10_init_654 : decode cX10_init 654 = .ok (.bipush 103, 2) := by decide +kernel
theorem dX10_init_656 : decode cX10_init 656 = .ok (.iconst 0, 1) := by decide +kernel
theorem dX10_init_657 : decode cX10_init 657 = .ok (.bastore, 1) := by decide +kernel
theorem dX10_init_658 : decode cX10_init 658 = .ok (.dup, 1) := by decide +kernel
theorem dX10_init_659 : decode cX10_init 659 = .ok (.bipush 104, 2) := by decide +kernel
theorem dX10_init_661 : decode cX10_init 661 = .ok (.iconst 0, 1) := by decide +kernel
theorem dX10_init_662 : decode cX10_init 662 = .ok (.bastore, 1) := by decide +kernel
theorem dX10_init_663 : decode cX10_init 663 = .ok (.dup, 1) := by decide +kernel
theorem dX10_init_664 : decode cX10_init 664 = .ok (.bipush 105, 2) := by decide +kernel
theorem dX10_init_666 : decode cX10_init 666 = .ok (.bipush 108, 2) := by decide +kernel
theorem dX10_init_668 : decode cX10_init 668 = .ok (.bastore, 1) := by decide +kernel
theorem dX10_init_669 : decode cX10_init 669 = .ok (.dup, 1) := by decide +kernel
theorem dX10_init_670 : decode cX10_init 670 = .ok (.bipush 106, 2) := by decide +kernel
theorem dX10_init_672 : decode cX10_init 672 = .ok (.bipush 97, 2) := by decide +kernel
theorem dX10_init_674 : decode cX10_init 674 = .ok (.bastore, 1) := by decide +kernel
theorem dX10_init_675 : decode cX10_init 675 = .ok (.dup, 1) := by decide +kernel
theorem dX10_init_676 : decode cX10_init 676 = .ok (.bipush 107, 2) := by decide +kernel
theorem dX10_init_678 : decode cX10_init 678 = .ok (.bipush 116, 2) := by decide +kernel
theorem dX10_init_680 : decode cX10_init 680 = .ok (.bastore, 1) := by decide +kernel
theorem dX10_init_681 : decode cX10_init 681 = .ok (.dup, 1) := by decide +kernel
theorem dX10_init_682 : decode cX10_init 682 = .ok (.bipush 108, 2) := by decide +kernel
theorem dX10_init_684 : decode cX10_init 684 = .ok (.bipush 101, 2) := by decide +kernel
theorem dX10_init_686 : decode cX10_init 686 = .ok (.bastore, 1) := by decide +kernel
theorem dX10_init_687 : decode cX10_init 687 = .ok (.dup, 1) := by decide +kernel
theorem dX10_init_688 : decode cX10_init 688 = .ok (.bipush 109, 2) := by decide +kernel
theorem dX10_init_690 : decode cX10_init 690 = .ok (.iconst 0, 1) := by decide +kernel
theorem dX10_init_691 : decode cX10_init 691 = .ok (.bastore, 1) := by decide +kernel
theorem dX10_init_692 : decode cX10_init 692 = .ok (.dup, 1) := by decide +kernel
theorem dX10_init_693 : decode cX10_init 693 = .ok (.bipush 110, 2) := by decide +kernel
theorem dX10_init_695 : decode cX10_init 695 = .ok (.iconst 0, 1) := by decide +kernel
theorem dX10_init_696 : decode cX10_init 696 = .ok (.bastore, 1) := by decide +kernel
theorem dX10_init_697 : decode cX10_init 697 = .ok (.dup, 1) := by decide +kernel
theorem dX10_init_698 : decode cX10_init 698 = .ok (.bipush 111, 2) := by decide +kernel
theorem dX10_init_700 : decode cX10_init 700 = .ok (.iconst 0, 1) := by decide +kernel
theorem dX10_init_701 : decode cX10_init 701 = .ok (.bastore, 1) := by decide +kernel
theorem dX10_init_702 : decode cX10_init 702 = .ok (.dup, 1) := by decide +kernel
theorem dX10_init_703 : decode cX10_init 703 = .ok (.bipush 112, 2) := by decide +kernel
theorem dX10_init_705 : decode cX10_init 705 = .ok (.bipush 103, 2) := by decide +kernel
theorem dX10_init_707 : decode cX10_init 707 = .ok (.bastore, 1) := by decide +kernel
theorem dX10_init_708 : decode cX10_init 708 = .ok (.dup, 1) := by decide +kernel
theorem dX10_init_709 : decode cX10_init 709 = .ok (.bipush 113, 2) := by decide +kernel
theorem dX10_init_711 : decode cX10_init 711 = .ok (.bipush 97, 2) := by decide +kernel
theorem dX10_init_713 : decode cX10_init 713 = .ok (.bastore, 1) := by decide +kernel
theorem dX10_init_714 : decode cX10_init 714 = .ok (.dup, 1) := by decide +kernel
theorem dX10_init_715 : decode cX10_init 715 = .ok (.bipush 114, 2) := by decide +kernel
theorem dX10_init_717 : decode cX10_init 717 = .ok (.bipush 111, 2) := by decide +kernel
theorem dX10_init_719 : decode cX10_init 719 = .ok (.bastore, 1) := by decide +kernel
theorem dX10_init_720 : decode cX10_init 720 = .ok (.dup, 1) := by decide +kernel
theorem dX10_init_721 : decode cX10_init 721 = .ok (.bipush 115, 2) := by decide +kernel
theorem dX10_init_723 : decode cX10_init 723 = .ok (.bipush 108, 2) := by decide +kernel
theorem dX10_init_725 : decode cX10_init 725 = .ok (.bastore, 1) := by decide +kernel
theorem dX10_init_726 : decode cX10_init 726 = .ok (.dup, 1) := by decide +kernel
theorem dX10_init_727 : decode cX10_init 727 = .ok (.bipush 116, 2) := by decide +kernel
theorem dX10_init_729 : decode cX10_init 729 = .ok (.iconst 0, 1) := by decide +kernel
theorem dX10_init_730 : decode cX10_init 730 = .ok (.bastore, 1) := by decide +kernel
theorem dX10_init_731 : decode cX10_init 731 = .ok (.dup, 1) := by decide +kernel
theorem dX10_init_732 : decode cX10_init 732 = .ok (.bipush 117, 2) := by decide +kernel
theorem dX10_init_734 : decode cX10_init 734 = .ok (.iconst 0, 1) := by decide +kernel
theorem dX10_init_735 : decode cX10_init 735 = .ok (.bastore, 1) := by decide +kernel
theorem dX10_init_736 : decode cX10_init 736 = .ok (.dup, 1) := by decide +kernel
theorem dX10_init_737 : decode cX10_init 737 = .ok (.bipush 118, 2) := by decide +kernel
theorem dX10_init_739 : decode cX10_init 739 = .ok (.iconst 0, 1) := by decide +kernel
theorem dX10_init_740 : decode cX10_init 740 = .ok (.bastore, 1) := by decide +kernel
theorem dX10_init_741 : decode cX10_init 741 = .ok (.dup, 1) := by decide +kernel
theorem dX10_init_742 : decode cX10_init 742 = .ok (.bipush 119, 2) := by decide +kernel
theorem dX10_init_744 : decode cX10_init 744 = .ok (.bipush 108, 2) := by decide +kernel
theorem dX10_init_746 : decode cX10_init 746 = .ok (.bastore, 1) := by decide +kernel
theorem dX10_init_747 : decode cX10_init 747 = .ok (.dup, 1) := by decide +kernel
theorem dX10_init_748 : decode cX10_init 748 = .ok (.bipush 120, 2) := by decide +kernel
theorem dX10_init_750 : decode cX10_init 750 = .ok (.bipush 111, 2) := by decide +kernel
theorem dX10_init_752 : decode cX10_init 752 = .ok (.bastore, 1) := by decide +kernel
theorem dX10_init_753 : decode cX10_init 753 = .ok (.dup, 1) := by decide +kernel
theorem dX10_init_754 : decode cX10_init 754 = .ok (.bipush 121, 2) := by decide +kernel
theorem dX10_init_756 : decode cX10_init 756 = .ok (.bipush 110, 2) := by decide +kernel
theorem dX10_init_758 : decode cX10_init 758 = .ok (.bastore, 1) := by decide +kernel
theorem dX10_init_759 : decode cX10_init 759 = .ok (.dup, 1) := by decide +kernel
theorem dX10_init_760 : decode cX10_init 760 = .ok (.bipush 122, 2) := by decide +kernel
theorem dX10_init_762 : decode cX10_init 762 = .ok (.bipush 103, 2) := by decide +kernel
theorem dX10_init_764 : decode cX10_init 764 = .ok (.bastore, 1) := by decide +kernel
theorem dX10_init_765 : decode cX10_init 765 = .ok (.dup, 1) := by decide +kernel
theorem dX10_init_766 : decode cX10_init 766 = .ok (.bipush 123, 2) := by decide +kernel
theorem dX10_init_768 : decode cX10_init 768 = .ok (.bipush 101, 2) := by decide +kernel
theorem dX10_init_770 : decode cX10_init 770 = .ok (.bastore, 1) := by decide +kernel
theorem dX10_init_771 : decode cX10_init 771 = .ok (.dup, 1) := by decide +kernel
theorem dX10_init_772 : decode cX10_init 772 = .ok (.bipush 124, 2) := by decide +kernel
theorem dX10_init_774 : decode cX10_init 774 = .ok (.bipush 115, 2) := by decide +kernel
theorem dX10_init_776 : decode cX10_init 776 = .ok (.bastore, 1) := by decide +kernel
theorem dX10_init_777 : decode cX10_init 777 = .ok (.dup, 1) := by decide +kernel
theorem dX10_init_778 : decode cX10_init 778 = .ok (.bipush 125, 2) := by decide +kernel
theorem dX10_init_780 : decode cX10_init 780 = .ok (.bipush 116, 2) := by decide +kernel
theorem dX10_init_782 : decode cX10_init 782 = .ok (.bastore, 1) := by decide +kernel
theorem dX10_init_783 : decode cX10_init 783 = .ok (.dup, 1) := by decide +kernel
theorem dX10_init_784 : decode cX10_init 784 = .ok (.bipush 126, 2) := by decide +kernel
theorem dX10_init_786 : decode cX10_init 786 = .ok (.bipush 97, 2) := by decide +kernel
theorem dX10_init_788 : decode cX10_init 788 = .ok (.bastore, 1) := by decide +kernel
theorem dX10_init_789 : decode cX10_init 789 = .ok (.dup, 1) := by decide +kernel
theorem dX10_init_790 : decode cX10_init 790 = .ok (.bipush 127, 2) := by decide +kernel
theorem dX10_init_792 : decode cX10_init 792 = .ok (.bipush 103, 2) := by decide +kernel
theorem dX10_init_794 : decode cX10_init 794 = .ok (.bastore, 1) := by decide +kernel
theorem dX10_init_795 : decode cX10_init 795 = .ok (.dup, 1) := by decide +kernel
theorem dX10_init_796 : decode cX10_init 796 = .ok (.sipush 128, 3) := by decide +kernel
theorem dX10_init_799 : decode cX10_init 799 = .ok (.bipush 101, 2) := by decide +kernel
theorem dX10_init_801 : decode cX10_init 801 = .ok (.bastore, 1) := by decide +kernel
theorem dX10_init_802 : decode cX10_init 802 = .ok (.dup, 1) := by decide +kernel
theorem dX10_init_803 : decode cX10_init 803 = .ok (.sipush 129, 3) := by decide +kernel
theorem dX10_init_806 : decode cX10_init 806 = .ok (.iconst 0, 1) := by decide +kernel
theorem dX10_init_807 : decode cX10_init 807 = .ok (.bastore, 1) := by decide +kernel
theorem dX10_init_808 : decode cX10_init 808 = .ok (.dup, 1) := by decide +kernel
theorem dX10_init_809 : decode cX10_init 809 = .ok (.sipush 130, 3) := by decide +kernel
theorem dX10_init_812 : decode cX10_init 812 = .ok (.iconst 0, 1) := by decide +kernel
theorem dX10_init_813 : decode cX10_init 813 = .ok (.bastore, 1) := by decide +kernel
theorem dX10_init_814 : decode cX10_init 814 = .ok (.dup, 1) := by decide +kernel
theorem dX10_init_815 : decode cX10_init 815 = .ok (.sipush 131, 3) := by decide +kernel
theorem dX10_init_818 : decode cX10_init 818 = .ok (.iconst 0, 1) := by decide +kernel
theorem dX10_init_819 : decode cX10_init 819 = .ok (.bastore, 1) := by decide +kernel
theorem dX10_init_820 : decode cX10_init 820 = .ok (.dup, 1) := by decide +kernel
theorem dX10_init_821 : decode cX10_init 821 = .ok (.sipush 132, 3) := by decide +kernel
theorem dX10_init_824 : decode cX10_init 824 = .ok (.iconst 0, 1) := by decide +kernel
theorem dX10_init_825 : decode cX10_init 825 = .ok (.bastore, 1) := by decide +kernel
theorem dX10_init_826 : decode cX10_init 826 = .ok (.dup, 1) := by decide +kernel
theorem dX10_init_827 : decode cX10_init 827 = .ok (.sipush 133, 3) := by decide +kernel
theorem dX10_init_830 : decode cX10_init 830 = .ok (.bipush 99, 2) := by decide +kernel
theorem dX10_init_832 : decode cX10_init 832 = .ok (.bastore, 1) := by decide +kernel
theorem dX10_init_833 : decode cX10_init 833 = .ok (.dup, 1) := by decide +kernel
theorem dX10_init_834 : decode cX10_init 834 = .ok (.sipush 134, 3) := by decide +kernel
theorem dX10_init_837 : decode cX10_init 837 = .ok (.bipush 111, 2) := by decide +kernel
theorem dX10_init_839 : decode cX10_init 839 = .ok (.bastore, 1) := by decide +kernel
theorem dX10_init_840 : decode cX10_init 840 = .ok (.dup, 1) := by decide +kernel
theorem dX10_init_841 : decode cX10_init 841 = .ok (.sipush 135, 3) := by decide +kernel
theorem dX10_init_844 : decode cX10_init 844 = .ok (.bipush 115, 2) := by decide +kernel
theorem dX10_init_846 : decode cX10_init 846 = .ok (.bastore, 1) := by decide +kernel
theorem dX10_init_847 : decode cX10_init 847 = .ok (.dup, 1) := by decide +kernel
theorem dX10_init_848 : decode cX10_init 848 = .ok (.sipush 136, 3) := by decide +kernel
theorem dX10_init_851 : decode cX10_init 851 = .ok (.bipush 116, 2) := by decide +kernel
theorem dX10_init_853 : decode cX10_init 853 = .ok (.bastore, 1) := by decide +kernel
theorem dX10_init_854 : decode cX10_init 854 = .ok (.dup, 1) := by decide +kernel
theorem dX10_init_855 : decode cX10_init 855 = .ok (.sipush 137, 3) := by decide +kernel
theorem dX10_init_858 : decode cX10_init 858 = .ok (.iconst 0, 1) := by decide +kernel
theorem dX10_init_859 : decode cX10_init 859 = .ok (.bastore, 1) := by decide +kernel
theorem dX10_init_860 : decode cX10_init 860 = .ok (.dup, 1) := by decide +kernel
theorem dX10_init_861 : decode cX10_init 861 = .ok (.sipush 138, 3) := by decide +kernel
theorem dX10_init_864 : decode cX10_init 864 = .ok (.iconst 0, 1) := by decide +kernel
theorem dX10_init_865 : decode cX10_init 865 = .ok (.bastore, 1) := by decide +kernel
theorem dX10_init_866 : decode cX10_init 866 = .ok (.dup, 1) := by decide +kernel
theorem dX10_init_867 : decode cX10_init 867 = .ok (.sipush 139, 3) := by decide +kernel
theorem dX10_init_870 : decode cX10_init 870 = .ok (.iconst 0, 1) := by decide +kernel
theorem dX10_init_871 : decode cX10_init 871 = .ok (.bastore, 1) := by decide +kernel
theorem dX10_init_872 : decode cX10_init 872 = .ok (.dup, 1) := by decide +kernel
theorem dX10_init_873 : decode cX10_init 873 = .ok (.sipush 140, 3) := by decide +kernel
theorem dX10_init_876 : decode cX10_init 876 = .ok (.bipush 112, 2) := by decide +kernel
theorem dX10_init_878 : decode cX10_init 878 = .ok (.bastore, 1) := by decide +kernel
theorem dX10_init_879 : decode cX10_init 879 = .ok (.dup, 1) := by decide +kernel
theorem dX10_init_880 : decode cX10_init 880 = .ok (.sipush 141, 3) := by decide +kernel
theorem dX10_init_883 : decode cX10_init 883 = .ok (.bipush 114, 2) := by decide +kernel
theorem dX10_init_885 : decode cX10_init 885 = .ok (.bastore, 1) := by decide +kernel
theorem dX10_init_886 : decode cX10_init 886 = .ok (.dup, 1) := by decide +kernel
theorem dX10_init_887 : decode cX10_init 887 = .ok (.sipush 142, 3) := by decide +kernel
theorem dX10_init_890 : decode cX10_init 890 = .ok (.bipush 111, 2) := by decide +kernel
theorem dX10_init_892 : decode cX10_init 892 = .ok (.bastore, 1) := by decide +kernel
theorem dX10_init_893 : decode cX10_init 893 = .ok (.dup, 1) := by decide +kernel
theorem dX10_init_894 : decode cX10_init 894 = .ok (.sipush 143, 3) := by decide +kernel
theorem dX10_init_897 : decode cX10_init 897 = .ok (.bipush 118, 2) := by decide +kernel
theorem dX10_init_899 : decode cX10_init 899 = .ok (.bastore, 1) := by decide +kernel
theorem dX10_init_900 : decode cX10_init 900 = .ok (.dup, 1) := by decide +kernel
theorem dX10_init_901 : decode cX10_init 901 = .ok (.sipush 144, 3) := by decide +kernel
theorem dX10_init_904 : decode cX10_init 904 = .ok (.bipush 101, 2) := by decide +kernel
theorem dX10_init_906 : decode cX10_init 906 = .ok (.bastore, 1) := by decide +kernel
theorem dX10_init_907 : decode cX10_init 907 = .ok (.dup, 1) := by decide +kernel
theorem dX10_init_908 : decode cX10_init 908 = .ok (.sipush 145, 3) := by decide +kernel
theorem dX10_init_911 : decode cX10_init 911 = .ok (.iconst 0, 1) := by decide +kernel
theorem dX10_init_912 : decode cX10_init 912 = .ok (.bastore, 1) := by decide +kernel
theorem dX10_init_913 : decode cX10_init 913 = .ok (.dup, 1) := by decide +kernel
theorem dX10_init_914 : decode cX10_init 914 = .ok (.sipush 146, 3) := by decide +kernel
theorem dX10_init_917 : decode cX10_init 917 = .ok (.iconst 0, 1) := by decide +kernel
theorem dX10_init_918 : decode cX10_init 918 = .ok (.bastore, 1) := by decide +kernel
theorem dX10_init_919 : decode cX10_init 919 = .ok (.dup, 1) := by decide +kernel
theorem dX10_init_920 : decode cX10_init 920 = .ok (.sipush 147, 3) := by decide +kernel
theorem dX10_init_923 : decode cX10_init 923 = .ok (.bipush 115, 2) := by decide +kernel
theorem dX10_init_925 : decode cX10_init 925 = .ok (.bastore, 1) := by decide +kernel
theorem dX10_init_926 : decode cX10_init 926 = .ok (.dup, 1) := by decide +kernel
theorem dX10_init_927 : decode cX10_init 927 = .ok (.sipush 148, 3) := by decide +kernel
theorem dX10_init_930 : decode cX10_init 930 = .ok (.bipush 117, 2) := by decide +kernel
theorem dX10_init_932 : decode cX10_init 932 = .ok (.bastore, 1) := by decide +kernel
theorem dX10_init_933 : decode cX10_init 933 = .ok (.dup, 1) := by decide +kernel
theorem dX10_init_934 : decode cX10_init 934 = .ok (.sipush 149, 3) := by decide +kernel
theorem dX10_init_937 : decode cX10_init 937 = .ok (.bipush 109, 2) := by decide +kernel
theorem dX10_init_939 : decode cX10_init 939 = .ok (.bastore, 1) := by decide +kernel
theorem dX10_init_940 : decode cX10_init 940 = .ok (.dup, 1) := by decide +kernel
theorem dX10_init_941 : decode cX10_init 941 = .ok (.sipush 150, 3) := by decide +kernel
theorem dX10_init_944 : decode cX10_init 944 = .ok (.bipush 109, 2) := by decide +kernel
theorem dX10_init_946 : decode cX10_init 946 = .ok (.bastore, 1) := by decide +kernel
theorem dX10_init_947 : decode cX10_init 947 = .ok (.dup, 1) := by decide +kernel
theorem dX10_init_948 : decode cX10_init 948 = .ok (.sipush 151, 3) := by decide +kernel
theorem dX10_init_951 : decode cX10_init 951 = .ok (.bipush 111, 2) := by decide +kernel
theorem dX10_init_953 : decode cX10_init 953 = .ok (.bastore, 1) := by decide +kernel
theorem dX10_init_954 : decode cX10_init 954 = .ok (.dup, 1) := by decide +kernel
theorem dX10_init_955 : decode cX10_init 955 = .ok (.sipush 152, 3) := by decide +kernel
theorem dX10_init_958 : decode cX10_init 958 = .ok (.bipush 110, 2) := by decide +kernel
theorem dX10_init_960 : decode cX10_init 960 = .ok (.bastore, 1) := by decide +kernel
theorem dX10_init_961 : decode cX10_init 961 = .ok (.dup, 1) := by decide +kernel
theorem dX10_init_962 : decode cX10_init 962 = .ok (.sipush 153, 3) := by decide +kernel
theorem dX10_init_965 : decode cX10_init 965 = .ok (.bipush 115, 2) := by decide +kernel
theorem dX10_init_967 : decode cX10_init 967 = .ok (.bastore, 1) := by decide +kernel
theorem dX10_init_968 : decode cX10_init 968 = .ok (.dup, 1) := by decide +kernel
theorem dX10_init_969 : decode cX10_init 969 = .ok (.sipush 154, 3) := by decide +kernel
theorem dX10_init_972 : decode cX10_init 972 = .ok (.bipush 104, 2) := by decide +kernel
theorem dX10_init_974 : decode cX10_init 974 = .ok (.bastore, 1) := by decide +kernel
theorem dX10_init_975 : decode cX10_init 975 = .ok (.dup, 1) := by decide +kernel
theorem dX10_init_976 : decode cX10_init 976 = .ok (.sipush 155, 3) := by decide +kernel
theorem dX10_init_979 : decode cX10_init 979 = .ok (.bipush 101, 2) := by decide +kernel
theorem dX10_init_981 : decode cX10_init 981 = .ok (.bastore, 1) := by decide +kernel
theorem dX10_init_982 : decode cX10_init 982 = .ok (.dup, 1) := by decide +kernel
theorem dX10_init_983 : decode cX10_init 983 = .ok (.sipush 156, 3) := by decide +kernel
theorem dX10_init_986 : decode cX10_init 986 = .ok (.bipush 97, 2) := by decide +kernel
theorem dX10_init_988 : decode cX10_init 988 = .ok (.bastore, 1) := by decide +kernel
theorem dX10_init_989 : decode cX10_init 989 = .ok (.dup, 1) := by decide +kernel
theorem dX10_init_990 : decode cX10_init 990 = .ok (.sipush 157, 3) := by decide +kernel
theorem dX10_init_993 : decode cX10_init 993 = .ok (.bipush 114, 2) := by decide +kernel
theorem dX10_init_995 : decode cX10_init 995 = .ok (.bastore, 1) := by decide +kernel
theorem dX10_init_996 : decode cX10_init 996 = .ok (.dup, 1) := by decide +kernel
theorem dX10_init_997 : decode cX10_init 997 = .ok (.sipush 158, 3) := by decide +kernel
theorem dX10_init_1000 : decode cX10_init 1000 = .ok (.bipush 105, 2) := by decide +kernel
theorem dX10_init_1002 : decode cX10_init 1002 = .ok (.bastore, 1) := by decide +kernel
theorem dX10_init_1003 : decode cX10_init 1003 = .ok (.dup, 1) := by decide +kernel
theorem dX10_init_1004 : decode cX10_init 1004 = .ok (.sipush 159, 3) := by decide +kernel
theorem dX10_init_1007 : decode cX10_init 1007 = .ok (.bipush 110, 2) := by decide +kernel
theorem dX10_init_1009 : decode cX10_init 1009 = .ok (.bastore, 1) := by decide +kernel
theorem dX10_init_1010 : decode cX10_init 1010 = .ok (.dup, 1) := by decide +kernel
theorem dX10_init_1011 : decode cX10_init 1011 = .ok (.sipush 160, 3) := by decide +kernel
theorem dX10_init_1014 : decode cX10_init 1014 = .ok (.bipush 103, 2) := by decide +kernel
theorem dX10_init_1016 : decode cX10_init 1016 = .ok (.bastore, 1) := by decide +kernel
theorem dX10_init_1017 : decode cX10_init 1017 = .ok (.dup, 1) := by decide +kernel
theorem dX10_init_1018 : decode cX10_init 1018 = .ok (.sipush 161, 3) := by decide +kernel
theorem dX10_init_1021 : decode cX10_init 1021 = .ok (.bipush 111, 2) := by decide +kernel
theorem dX10_init_1023 : decode cX10_init 1023 = .ok (.bastore, 1) := by decide +kernel
theorem dX10_init_1024 : decode cX10_init 1024 = .ok (.dup, 1) := by decide +kernel
theorem dX10_init_1025 : decode cX10_init 1025 = .ok (.sipush 162, 3) := by decide +kernel
theorem dX10_init_1028 : decode cX10_init 1028 = .ok (.bipush 114, 2) := by decide +kernel
theorem dX10_init_1030 : decode cX10_init 1030 = .ok (.bastore, 1) := by decide +kernel
theorem dX10_init_1031 : decode cX10_init 1031 = .ok (.dup, 1) := by decide +kernel
theorem dX10_init_1032 : decode cX10_init 1032 = .ok (.sipush 163, 3) := by decide +kernel
theorem dX10_init_1035 : decode cX10_init 1035 = .ok (.bipush 100, 2) := by decide +kernel
theorem dX10_init_1037 : decode cX10_init 1037 = .ok (.bastore, 1) := by decide +kernel
theorem dX10_init_1038 : decode cX10_init 1038 = .ok (.dup, 1) := by decide +kernel
theorem dX10_init_1039 : decode cX10_init 1039 = .ok (.sipush 164, 3) := by decide +kernel
theorem dX10_init_1042 : decode cX10_init 1042 = .ok (.bipush 101, 2) := by decide +kernel
theorem dX10_init_1044 : decode cX10_init 1044 = .ok (.bastore, 1) := by decide +kernel
theorem dX10_init_1045 : decode cX10_init 1045 = .ok (.dup, 1) := by decide +kernel
theorem dX10_init_1046 : decode cX10_init 1046 = .ok (.sipush 165, 3) := by decide +kernel
theorem dX10_init_1049 : decode cX10_init 1049 = .ok (.bipush 114, 2) := by decide +kernel
theorem dX10_init_1051 : decode cX10_init 1051 = .ok (.bastore, 1) := by decide +kernel
theorem dX10_init_1052 : decode cX10_init 1052 = .ok (.dup, 1) := by decide +kernel
theorem dX10_init_1053 : decode cX10_init 1053 = .ok (.sipush 166, 3) := by decide +kernel
theorem dX10_init_1056 : decode cX10_init 1056 = .ok (.iconst 0, 1) := by decide +kernel
theorem dX10_init_1057 : decode cX10_init 1057 = .ok (.bastore, 1) := by decide +kernel
theorem dX10_init_1058 : decode cX10_init 1058 = .ok (.dup, 1) := by decide +kernel
theorem dX10_init_1059 : decode cX10_init 1059 = .ok (.sipush 167, 3) := by decide +kernel
theorem dX10_init_1062 : decode cX10_init 1062 = .ok (.iconst 0, 1) := by decide +kernel
theorem dX10_init_1063 : decode cX10_init 1063 = .ok (.bastore, 1) := by decide +kernel
theorem dX10_init_1064 : decode cX10_init 1064 = .ok (.dup, 1) := by decide +kernel
theorem dX10_init_1065 : decode cX10_init 1065 = .ok (.sipush 168, 3) := by decide +kernel
theorem dX10_init_1068 : decode cX10_init 1068 = .ok (.bipush 115, 2) := by decide +kernel
theorem dX10_init_1070 : decode cX10_init 1070 = .ok (.bastore, 1) := by decide +kernel
theorem dX10_init_1071 : decode cX10_init 1071 = .ok (.dup, 1) := by decide +kernel
theorem dX10_init_1072 : decode cX10_init 1072 = .ok (.sipush 169, 3) := by decide +kernel
theorem dX10_init_1075 : decode cX10_init 1075 = .ok (.bipush 101, 2) := by decide +kernel
theorem dX10_init_1077 : decode cX10_init 1077 = .ok (.bastore, 1) := by decide +kernel
theorem dX10_init_1078 : decode cX10_init 1078 = .ok (.dup, 1) := by decide +kernel
theorem dX10_init_1079 : decode cX10_init 1079 = .ok (.sipush 170, 3) := by decide +kernel
theorem dX10_init_1082 : decode cX10_init 1082 = .ok (.bipush 105, 2) := by decide +kernel
theorem dX10_init_1084 : decode cX10_init 1084 = .ok (.bastore, 1) := by decide +kernel
theorem dX10_init_1085 : decode cX10_init 1085 = .ok (.dup, 1) := by decide +kernel
theorem dX10_init_1086 : decode cX10_init 1086 = .ok (.sipush 171, 3) := by decide +kernel
theorem dX10_init_1089 : decode cX10_init 1089 = .ok (.bipush 122, 2) := by decide +kernel
theorem dX10_init_1091 : decode cX10_init 1091 = .ok (.bastore, 1) := by decide +kernel
theorem dX10_init_1092 : decode cX10_init 1092 = .ok (.dup, 1) := by decide +kernel
theorem dX10_init_1093 : decode cX10_init 1093 = .ok (.sipush 172, 3) := by decide +kernel
theorem dX10_init_1096 : decode cX10_init 1096 = .ok (.bipush 117, 2) := by decide +kernel
theorem dX10_init_1098 : decode cX10_init 1098 = .ok (.bastore, 1) := by decide +kernel
theorem dX10_init_1099 : decode cX10_init 1099 = .ok (.dup, 1) := by decide +kernel
theorem dX10_init_1100 : decode cX10_init 1100 = .ok (.sipush 173, 3) := by decide +kernel
theorem dX10_init_1103 : decode cX10_init 1103 = .ok (.bipush 114, 2) := by decide +kernel
theorem dX10_init_1105 : decode cX10_init 1105 = .ok (.bastore, 1) := by decide +kernel
theorem dX10_init_1106 : decode cX10_init 1106 = .ok (.dup, 1) := by decide +kernel
theorem dX10_init_1107 : decode cX10_init 1107 = .ok (.sipush 174, 3) := by decide +kernel
theorem dX10_init_1110 : decode cX10_init 1110 = .ok (.bipush 101, 2) := by decide +kernel
theorem dX10_init_1112 : decode cX10_init 1112 = .ok (.bastore, 1) := by decide +kernel
theorem dX10_init_1113 : decode cX10_init 1113 = .ok (.putfield 35, 3) := by decide +kernel
theorem dX10_init_1116 : decode cX10_init 1116 = .ok (.aload_n 0, 1) := by decide +kernel
theorem dX10_init_1117 : decode cX10_init 1117 = .ok (.bipush 40, 2) := by decide +kernel
theorem dX10_init_1119 : decode cX10_init 1119 = .ok (.newarray .int, 2) := by decide +kernel
theorem dX10_init_1121 : decode cX10_init 1121 = .ok (.putfield 38, 3) := by decide +kernel
theorem dX10_init_1124 : decode cX10_init 1124 = .ok (.aload_n 0, 1) := by decide +kernel
theorem dX10_init_1125 : decode cX10_init 1125 = .ok (.bipush 40, 2) := by decide +kernel
theorem dX10_init_1127 : decode cX10_init 1127 = .ok (.newarray .int, 2) := by decide +kernel
theorem dX10_init_1129 : decode cX10_init 1129 = .ok (.putfield 41, 3) := by decide +kernel
theorem dX10_init_1132 : decode cX10_init 1132 = .ok (.aload_n 0, 1) := by decide +kernel
theorem dX10_init_1133 : decode cX10_init 1133 = .ok (.bipush 40, 2) := by decide +kernel
theorem dX10_init_1135 : decode cX10_init 1135 = .ok (.newarray .int, 2) := by decide +kernel
theorem dX10_init_1137 : decode cX10_init 1137 = .ok (.putfield 44, 3) := by decide +kernel
theorem dX10_init_1140 : decode cX10_init 1140 = .ok (.aload_n 0, 1) := by decide +kernel
theorem dX10_init_1141 : decode cX10_init 1141 = .ok (.bipush 40, 2) := by decide +kernel
theorem dX10_init_1143 : decode cX10_init 1143 = .ok (.newarray .int, 2) := by decide +kernel
theorem dX10_init_1145 : decode cX10_init 1145 = .ok (.putfield 47, 3) := by decide +kernel
theorem dX10_init_1148 : decode cX10_init 1148 = .ok (.aload_n 0, 1) := by decide +kernel
theorem dX10_init_1149 : decode cX10_init 1149 = .ok (.bipush 40, 2) := by decide +kernel
theorem dX10_init_1151 : decode cX10_init 1151 = .ok (.newarray .int, 2) := by decide +kernel
theorem dX10_init_1153 : decode cX10_init 1153 = .ok (.putfield 50, 3) := by decide +kernel
theorem dX10_init_1156 : decode cX10_init 1156 = .ok (.aload_n 0, 1) := by decide +kernel
theorem dX10_init_1157 : decode cX10_init 1157 = .ok (.bipush 40, 2) := by decide +kernel
theorem dX10_init_1159 : decode cX10_init 1159 = .ok (.newarray .int, 2) := by decide +kernel
theorem dX10_init_1161 : decode cX10_init 1161 = .ok (.putfield 53, 3) := by decide +kernel
theorem dX10_init_1164 : decode cX10_init 1164 = .ok (.aload_n 0, 1) := by decide +kernel
theorem dX10_init_1165 : decode cX10_init 1165 = .ok (.bipush 40, 2) := by decide +kernel
theorem dX10_init_1167 : decode cX10_init 1167 = .ok (.newarray .boolean, 2) := by decide +kernel
theorem dX10_init_1169 : decode cX10_init 1169 = .ok (.putfield 56, 3) := by decide +kernel
theorem dX10_init_1172 : decode cX10_init 1172 = .ok (.aload_n 0, 1) := by decide +kernel
theorem dX10_init_1173 : decode cX10_init 1173 = .ok (.bipush 40, 2) := by decide +kernel
theorem dX10_init_1175 : decode cX10_init 1175 = .ok (.newarray .boolean, 2) := by decide +kernel
theorem dX10_init_1177 : decode cX10_init 1177 = .ok (.putfield 60, 3) := by decide +kernel
theorem dX10_init_1180 : decode cX10_init 1180 = .ok (.aload_n 0, 1) := by decide +kernel
theorem dX10_init_1181 : decode cX10_init 1181 = .ok (.sipush 400, 3) := by decide +kernel
theorem dX10_init_1184 : decode cX10_init 1184 = .ok (.newarray .int, 2) := by decide +kernel
theorem dX10_init_1186 : decode cX10_init 1186 = .ok (.putfield 63, 3) := by decide +kernel
theorem dX10_init_1189 : decode cX10_init 1189 = .ok (.aload_n 0, 1) := by decide +kernel
theorem dX10_init_1190 : decode cX10_init 1190 = .ok (.sipush 400, 3) := by decide +kernel
theorem dX10_init_1193 : decode cX10_init 1193 = .ok (.newarray .int, 2) := by decide +kernel
theorem dX10_init_1195 : decode cX10_init 1195 = .ok (.putfield 66, 3) := by decide +kernel
theorem dX10_init_1198 : decode cX10_init 1198 = .ok (.aload_n 0, 1) := by decide +kernel
theorem dX10_init_1199 : decode cX10_init 1199 = .ok (.sipush 400, 3) := by decide +kernel
theorem dX10_init_1202 : decode cX10_init 1202 = .ok (.newarray .int, 2) := by decide +kernel
theorem dX10_init_1204 : decode cX10_init 1204 = .ok (.putfield 69, 3) := by decide +kernel
theorem dX10_init_1207 : decode cX10_init 1207 = .ok (.aload_n 0, 1) := by decide +kernel
theorem dX10_init_1208 : decode cX10_init 1208 = .ok (.sipush 400, 3) := by decide +kernel
theorem dX10_init_1211 : decode cX10_init 1211 = .ok (.newarray .int, 2) := by decide +kernel
theorem dX10_init_1213 : decode cX10_init 1213 = .ok (.putfield 72, 3) := by decide +kernel
theorem dX10_init_1216 : decode cX10_init 1216 = .ok (.aload_n 0, 1) := by decide +kernel
theorem dX10_init_1217 : decode cX10_init 1217 = .ok (.sipush 400, 3) := by decide +kernel
theorem dX10_init_1220 : decode cX10_init 1220 = .ok (.newarray .int, 2) := by decide +kernel
theorem dX10_init_1222 : decode cX10_init 1222 = .ok (.putfield 75, 3) := by decide +kernel
theorem dX10_init_1225 : decode cX10_init 1225 = .ok (.aload_n 0, 1) := by decide +kernel
theorem dX10_init_1226 : decode cX10_init 1226 = .ok (.sipush 400, 3) := by decide +kernel
theorem dX10_init_1229 : decode cX10_init 1229 = .ok (.newarray .boolean, 2) := by decide +kernel
theorem dX10_init_1231 : decode cX10_init 1231 = .ok (.putfield 78, 3) := by decide +kernel
theorem dX10_init_1234 : decode cX10_init 1234 = .ok (.aload_n 0, 1) := by decide +kernel
theorem dX10_init_1235 : decode cX10_init 1235 = .ok (.bipush 100, 2) := by decide +kernel
theorem dX10_init_1237 : decode cX10_init 1237 = .ok (.newarray .int, 2) := by decide +kernel
theorem dX10_init_1239 : decode cX10_init 1239 = .ok (.putfield 81, 3) := by decide +kernel
theorem dX10_init_1242 : decode cX10_init 1242 = .ok (.aload_n 0, 1) := by decide +kernel
theorem dX10_init_1243 : decode cX10_init 1243 = .ok (.bipush 100, 2) := by decide +kernel
theorem dX10_init_1245 : decode cX10_init 1245 = .ok (.newarray .int, 2) := by decide +kernel
theorem dX10_init_1247 : decode cX10_init 1247 = .ok (.putfield 84, 3) := by decide +kernel
theorem dX10_init_1250 : decode cX10_init 1250 = .ok (.aload_n 0, 1) := by decide +kernel
theorem dX10_init_1251 : decode cX10_init 1251 = .ok (.bipush 100, 2) := by decide +kernel
theorem dX10_init_1253 : decode cX10_init 1253 = .ok (.newarray .int, 2) := by decide +kernel
theorem dX10_init_1255 : decode cX10_init 1255 = .ok (.putfield 87, 3) := by decide +kernel
theorem dX10_init_1258 : decode cX10_init 1258 = .ok (.aload_n 0, 1) := by decide +kernel
theorem dX10_init_1259 : decode cX10_init 1259 = .ok (.bipush 100, 2) := by decide +kernel
theorem dX10_init_1261 : decode cX10_init 1261 = .ok (.newarray .int, 2) := by decide +kernel
theorem dX10_init_1263 : decode cX10_init 1263 = .ok (.putfield 90, 3) := by decide +kernel
theorem dX10_init_1266 : decode cX10_init 1266 = .ok (.aload_n 0, 1) := by decide +kernel
theorem dX10_init_1267 : decode cX10_init 1267 = .ok (.bipush 100, 2) := by decide +kernel
theorem dX10_init_1269 : decode cX10_init 1269 = .ok (.newarray .boolean, 2) := by decide +kernel
theorem dX10_init_1271 : decode cX10_init 1271 = .ok (.putfield 93, 3) := by decide +kernel
theorem dX10_init_1274 : decode cX10_init 1274 = .ok (.aload_n 0, 1) := by decide +kernel
theorem dX10_init_1275 : decode cX10_init 1275 = .ok (.bipush 100, 2) := by decide +kernel
theorem dX10_init_1277 : decode cX10_init 1277 = .ok (.newarray .int, 2) := by decide +kernel
theorem dX10_init_1279 : decode cX10_init 1279 = .ok (.putfield 96, 3) := by decide +kernel
theorem dX10_init_1282 : decode cX10_init 1282 = .ok (.aload_n 0, 1) := by decide +kernel
theorem dX10_init_1283 : decode cX10_init 1283 = .ok (.bipush 100, 2) := by decide +kernel
theorem dX10_init_1285 : decode cX10_init 1285 = .ok (.newarray .int, 2) := by decide +kernel
theorem dX10_init_1287 : decode cX10_init 1287 = .ok (.putfield 99, 3) := by decide +kernel
theorem dX10_init_1290 : decode cX10_init 1290 = .ok (.aload_n 0, 1) := by decide +kernel
theorem dX10_init_1291 : decode cX10_init 1291 = .ok (.bipush 100, 2) := by decide +kernel
theorem dX10_init_1293 : decode cX10_init 1293 = .ok (.newarray .int, 2) := by decide +kernel
theorem dX10_init_1295 : decode cX10_init 1295 = .ok (.putfield 102, 3) := by decide +kernel
theorem dX10_init_1298 : decode cX10_init 1298 = .ok (.aload_n 0, 1) := by decide +kernel
theorem dX10_init_1299 : decode cX10_init 1299 = .ok (.bipush 100, 2) := by decide +kernel
theorem dX10_init_1301 : decode cX10_init 1301 = .ok (.newarray .int, 2) := by decide +kernel
theorem dX10_init_1303 : decode cX10_init 1303 = .ok (.putfield 105, 3) := by decide +kernel
theorem dX10_init_1306 : decode cX10_init 1306 = .ok (.aload_n 0, 1) := by decide +kernel
theorem dX10_init_1307 : decode cX10_init 1307 = .ok (.bipush 100, 2) := by decide +kernel
theorem dX10_init_1309 : decode cX10_init 1309 = .ok (.newarray .int, 2) := by decide +kernel
theorem dX10_init_1311 : decode cX10_init 1311 = .ok (.putfield 108, 3) := by decide +kernel
theorem dX10_init_1314 : decode cX10_init 1314 = .ok (.aload_n 0, 1) := by decide +kernel
theorem dX10_init_1315 : decode cX10_init 1315 = .ok (.bipush 100, 2) := by decide +kernel
theorem dX10_init_1317 : decode cX10_init 1317 = .ok (.newarray .int, 2) := by decide +kernel
theorem dX10_init_1319 : decode cX10_init 1319 = .ok (.putfield 111, 3) := by decide +kernel
theorem dX10_init_1322 : decode cX10_init 1322 = .ok (.aload_n 0, 1) := by decide +kernel
theorem dX10_init_1323 : decode cX10_init 1323 = .ok (.bipush 100, 2) := by decide +kernel
theorem dX10_init_1325 : decode cX10_init 1325 = .ok (.newarray .int, 2) := by decide +kernel
theorem dX10_init_1327 : decode cX10_init 1327 = .ok (.putfield 114, 3) := by decide +kernel
theorem dX10_init_1330 : decode cX10_init 1330 = .ok (.aload_n 0, 1) := by decide +kernel
theorem dX10_init_1331 : decode cX10_init 1331 = .ok (.bipush 100, 2) := by decide +kernel
theorem dX10_init_1333 : decode cX10_init 1333 = .ok (.newarray .int, 2) := by decide +kernel
theorem dX10_init_1335 : decode cX10_init 1335 = .ok (.putfield 117, 3) := by decide +kernel
theorem dX10_init_1338 : decode cX10_init 1338 = .ok (.aload_n 0, 1) := by decide +kernel
theorem dX10_init_1339 : decode cX10_init 1339 = .ok (.bipush 100, 2) := by decide +kernel
theorem dX10_init_1341 : decode cX10_init 1341 = .ok (.newarray .int, 2) := by decide +kernel
theorem dX10_init_1343 : decode cX10_init 1343 = .ok (.putfield 120, 3) := by decide +kernel
theorem dX10_init_1346 : decode cX10_init 1346 = .ok (.aload_n 0, 1) := by decide +kernel
theorem dX10_init_1347 : decode cX10_init 1347 = .ok (.bipush 100, 2) := by decide +kernel
theorem dX10_init_1349 : decode cX10_init 1349 = .ok (.newarray .int, 2) := by decide +kernel
theorem dX10_init_1351 : decode cX10_init 1351 = .ok (.putfield 123, 3) := by decide +kernel
theorem dX10_init_1354 : decode cX10_init 1354 = .ok (.aload_n 0, 1) := by decide +kernel
theorem dX10_init_1355 : decode cX10_init 1355 = .ok (.sipush 300, 3) := by decide +kernel
theorem dX10_init_1358 : decode cX10_init 1358 = .ok (.newarray .int, 2) := by decide +kernel
theorem dX10_init_1360 : decode cX10_init 1360 = .ok (.putfield 126, 3) := by decide +kernel
theorem dX10_init_1363 : decode cX10_init 1363 = .ok (.aload_n 0, 1) := by decide +kernel
theorem dX10_init_1364 : decode cX10_init 1364 = .ok (.sipush 800, 3) := by decide +kernel
theorem dX10_init_1367 : decode cX10_init 1367 = .ok (.newarray .int, 2) := by decide +kernel
theorem dX10_init_1369 : decode cX10_init 1369 = .ok (.putfield 129, 3) := by decide +kernel
theorem dX10_init_1372 : decode cX10_init 1372 = .ok (.aload_n 0, 1) := by decide +kernel
theorem dX10_init_1373 : decode cX10_init 1373 = .ok (.bipush 100, 2) := by decide +kernel
theorem dX10_init_1375 : decode cX10_init 1375 = .ok (.newarray .int, 2) := by decide +kernel
theorem dX10_init_1377 : decode cX10_init 1377 = .ok (.putfield 132, 3) := by decide +kernel
theorem dX10_init_1380 : decode cX10_init 1380 = .ok (.aload_n 0, 1) := by decide +kernel
theorem dX10_init_1381 : decode cX10_init 1381 = .ok (.bipush 100, 2) := by decide +kernel
theorem dX10_init_1383 : decode cX10_init 1383 = .ok (.newarray .int, 2) := by decide +kernel
theorem dX10_init_1385 : decode cX10_init 1385 = .ok (.putfield 135, 3) := by decide +kernel
theorem dX10_init_1388 : decode cX10_init 1388 = .ok (.aload_n 0, 1) := by decide +kernel
theorem dX10_init_1389 : decode cX10_init 1389 = .ok (.bipush 100, 2) := by decide +kernel
theorem dX10_init_1391 : decode cX10_init 1391 = .ok (.newarray .int, 2) := by decide +kernel
theorem dX10_init_1393 : decode cX10_init 1393 = .ok (.putfield 138, 3) := by decide +kernel
theorem dX10_init_1396 : decode cX10_init 1396 = .ok (.aload_n 0, 1) := by decide +kernel
theorem dX10_init_1397 : decode cX10_init 1397 = .ok (.bipush 100, 2) := by decide +kernel
theorem dX10_init_1399 : decode cX10_init 1399 = .ok (.newarray .int, 2) := by decide +kernel
theorem dX10_init_1401 : decode cX10_init 1401 = .ok (.putfield 141, 3) := by decide +kernel
theorem dX10_init_1404 : decode cX10_init 1404 = .ok (.aload_n 0, 1) := by decide +kernel
theorem dX10_init_1405 : decode cX10_init 1405 = .ok (.sipush 600, 3) := by decide +kernel
theorem dX10_init_1408 : decode cX10_init 1408 = .ok (.newarray .int, 2) := by decide +kernel
theorem dX10_init_1410 : decode cX10_init 1410 = .ok (.putfield 144, 3) := by decide +kernel
theorem dX10_init_1413 : decode cX10_init 1413 = .ok (.aload_n 0, 1) := by decide +kernel
theorem dX10_init_1414 : decode cX10_init 1414 = .ok (.sipush 600, 3) := by decide +kernel
theorem dX10_init_1417 : decode cX10_init 1417 = .ok (.newarray .int, 2) := by decide +kernel
theorem dX10_init_1419 : decode cX10_init 1419 = .ok (.putfield 147, 3) := by decide +kernel
theorem dX10_init_1422 : decode cX10_init 1422 = .ok (.aload_n 0, 1) := by decide +kernel
theorem dX10_init_1423 : decode cX10_init 1423 = .ok (.sipush 600, 3) := by decide +kernel
theorem dX10_init_1426 : decode cX10_init 1426 = .ok (.newarray .int, 2) := by decide +kernel
theorem dX10_init_1428 : decode cX10_init 1428 = .ok (.putfield 150, 3) := by decide +kernel
theorem dX10_init_1431 : decode cX10_init 1431 = .ok (.aload_n 0, 1) := by decide +kernel
theorem dX10_init_1432 : decode cX10_init 1432 = .ok (.sipush 600, 3) := by decide +kernel
theorem dX10_init_1435 : decode cX10_init 1435 = .ok (.newarray .int, 2) := by decide +kernel
theorem dX10_init_1437 : decode cX10_init 1437 = .ok (.putfield 153, 3) := by decide +kernel
theorem dX10_init_1440 : decode cX10_init 1440 = .ok (.aload_n 0, 1) := by decide +kernel
theorem dX10_init_1441 : decode cX10_init 1441 = .ok (.sipush 600, 3) := by decide +kernel
theorem dX10_init_1444 : decode cX10_init 1444 = .ok (.newarray .int, 2) := by decide +kernel
theorem dX10_init_1446 : decode cX10_init 1446 = .ok (.putfield 156, 3) := by decide +kernel
theorem dX10_init_1449 : decode cX10_init 1449 = .ok (.aload_n 0, 1) := by decide +kernel
theorem dX10_init_1450 : decode cX10_init 1450 = .ok (.bipush 40, 2) := by decide +kernel
theorem dX10_init_1452 : decode cX10_init 1452 = .ok (.newarray .int, 2) := by decide +kernel
theorem dX10_init_1454 : decode cX10_init 1454 = .ok (.putfield 159, 3) := by decide +kernel
theorem dX10_init_1457 : decode cX10_init 1457 = .ok (.aload_n 0, 1) := by decide +kernel
theorem dX10_init_1458 : decode cX10_init 1458 = .ok (.sipush 128, 3) := by decide +kernel
theorem dX10_init_1461 : decode cX10_init 1461 = .ok (.newarray .boolean, 2) := by decide +kernel
theorem dX10_init_1463 : decode cX10_init 1463 = .ok (.putfield 162, 3) := by decide +kernel
theorem dX10_init_1466 : decode cX10_init 1466 = .ok (.aload_n 0, 1) := by decide +kernel
theorem dX10_init_1467 : decode cX10_init 1467 = .ok (.iconst 4, 1) := by decide +kernel
theorem dX10_init_1468 : decode cX10_init 1468 = .ok (.newarray .int, 2) := by decide +kernel
theorem dX10_init_1470 : decode cX10_init 1470 = .ok (.putfield 165, 3) := by decide +kernel
theorem dX10_init_1473 : decode cX10_init 1473 = .ok (.aload_n 0, 1) := by decide +kernel
theorem dX10_init_1474 : decode cX10_init 1474 = .ok (.iconst 4, 1) := by decide +kernel
theorem dX10_init_1475 : decode cX10_init 1475 = .ok (.newarray .int, 2) := by decide +kernel
theorem dX10_init_1477 : decode cX10_init 1477 = .ok (.putfield 168, 3) := by decide +kernel
theorem dX10_init_1480 : decode cX10_init 1480 = .ok (.aload_n 0, 1) := by decide +kernel
theorem dX10_init_1481 : decode cX10_init 1481 = .ok (.iconst 4, 1) := by decide +kernel
theorem dX10_init_1482 : decode cX10_init 1482 = .ok (.newarray .int, 2) := by decide +kernel
theorem dX10_init_1484 : decode cX10_init 1484 = .ok (.putfield 171, 3) := by decide +kernel
theorem dX10_init_1487 : decode cX10_init 1487 = .ok (.aload_n 0, 1) := by decide +kernel
theorem dX10_init_1488 : decode cX10_init 1488 = .ok (.iconst 4, 1) := by decide +kernel
theorem dX10_init_1489 : decode cX10_init 1489 = .ok (.newarray .int, 2) := by decide +kernel
theorem dX10_init_1491 : decode cX10_init 1491 = .ok (.putfield 174, 3) := by decide +kernel
theorem dX10_init_1494 : decode cX10_init 1494 = .ok (.aload_n 0, 1) := by decide +kernel
theorem dX10_init_1495 : decode cX10_init 1495 = .ok (.iconst 4, 1) := by decide +kernel
theorem dX10_init_1496 : decode cX10_init 1496 = .ok (.newarray .int, 2) := by decide +kernel
theorem dX10_init_1498 : decode cX10_init 1498 = .ok (.putfield 177, 3) := by decide +kernel
theorem dX10_init_1501 : decode cX10_init 1501 = .ok (.aload_n 0, 1) := by decide +kernel
theorem dX10_init_1502 : decode cX10_init 1502 = .ok (.iconst 4, 1) := by decide +kernel
theorem dX10_init_1503 : decode cX10_init 1503 = .ok (.newarray .int, 2) := by decide +kernel
theorem dX10_init_1505 : decode cX10_init 1505 = .ok (.putfield 180, 3) := by decide +kernel
theorem dX10_init_1508 : decode cX10_init 1508 = .ok (.aload_n 0, 1) := by decide +kernel
theorem dX10_init_1509 : decode cX10_init 1509 = .ok (.iconst 4, 1) := by decide +kernel
theorem dX10_init_1510 : decode cX10_init 1510 = .ok (.newarray .int, 2) := by decide +kernel
theorem dX10_init_1512 : decode cX10_init 1512 = .ok (.putfield 183, 3) := by decide +kernel
theorem dX10_init_1515 : decode cX10_init 1515 = .ok (.aload_n 0, 1) := by decide +kernel
theorem dX10_init_1516 : decode cX10_init 1516 = .ok (.iconst 4, 1) := by decide +kernel
theorem dX10_init_1517 : decode cX10_init 1517 = .ok (.newarray .int, 2) := by decide +kernel
theorem dX10_init_1519 : decode cX10_init 1519 = .ok (.putfield 186, 3) := by decide +kernel
theorem dX10_init_1522 : decode cX10_init 1522 = .ok (.aload_n 0, 1) := by decide +kernel
theorem dX10_init_1523 : decode cX10_init 1523 = .ok (.sipush 1600, 3) := by decide +kernel
theorem dX10_init_1526 : decode cX10_init 1526 = .ok (.newarray .int, 2) := by decide +kernel
theorem dX10_init_1528 : decode cX10_init 1528 = .ok (.putfield 189, 3) := by decide +kernel
theorem dX10_init_1531 : decode cX10_init 1531 = .ok (.aload_n 0, 1) := by decide +kernel
theorem dX10_init_1532 : decode cX10_init 1532 = .ok (.sipush 300, 3) := by decide +kernel
theorem dX10_init_1535 : decode cX10_init 1535 = .ok (.newarray .int, 2) := by decide +kernel
theorem dX10_init_1537 : decode cX10_init 1537 = .ok (.putfield 192, 3) := by decide +kernel
theorem dX10_init_1540 : decode cX10_init 1540 = .ok (.aload_n 0, 1) := by decide +kernel
theorem dX10_init_1541 : decode cX10_init 1541 = .ok (.iconst 4, 1) := by decide +kernel
theorem dX10_init_1542 : decode cX10_init 1542 = .ok (.newarray .int, 2) := by decide +kernel
theorem dX10_init_1544 : decode cX10_init 1544 = .ok (.putfield 195, 3) := by decide +kernel
theorem dX10_init_1547 : decode cX10_init 1547 = .ok (.aload_n 0, 1) := by decide +kernel
theorem dX10_init_1548 : decode cX10_init 1548 = .ok (.iconst 4, 1) := by decide +kernel
theorem dX10_init_1549 : decode cX10_init 1549 = .ok (.newarray .int, 2) := by decide +kernel
theorem dX10_init_1551 : decode cX10_init 1551 = .ok (.putfield 198, 3) := by decide +kernel
theorem dX10_init_1554 : decode cX10_init 1554 = .ok (.aload_n 0, 1) := by decide +kernel
theorem dX10_init_1555 : decode cX10_init 1555 = .ok (.bipush 8, 2) := by decide +kernel
theorem dX10_init_1557 : decode cX10_init 1557 = .ok (.newarray .int, 2) := by decide +kernel
theorem dX10_init_1559 : decode cX10_init 1559 = .ok (.putfield 201, 3) := by decide +kernel
theorem dX10_init_1562 : decode cX10_init 1562 = .ok (.aload_n 0, 1) := by decide +kernel
theorem dX10_init_1563 : decode cX10_init 1563 = .ok (.bipush 8, 2) := by decide +kernel
theorem dX10_init_1565 : decode cX10_init 1565 = .ok (.newarray .int, 2) := by decide +kernel
theorem dX10_init_1567 : decode cX10_init 1567 = .ok (.putfield 204, 3) := by decide +kernel
theorem dX10_init_1570 : decode cX10_init 1570 = .ok (.aload_n 0, 1) := by decide +kernel
theorem dX10_init_1571 : decode cX10_init 1571 = .ok (.sipush 2304, 3) := by decide +kernel
theorem dX10_init_1574 : decode cX10_init 1574 = .ok (.newarray .int, 2) := by decide +kernel
theorem dX10_init_1576 : decode cX10_init 1576 = .ok (.putfield 207, 3) := by decide +kernel
theorem dX10_init_1579 : decode cX10_init 1579 = .ok (.aload_n 0, 1) := by decide +kernel
theorem dX10_init_1580 : decode cX10_init 1580 = .ok (.bipush 61, 2) := by decide +kernel
theorem dX10_init_1582 : decode cX10_init 1582 = .ok (.newarray .long, 2) := by decide +kernel
theorem dX10_init_1584 : decode cX10_init 1584 = .ok (.putfield 210, 3) := by decide +kernel
theorem dX10_init_1587 : decode cX10_init 1587 = .ok (.iconst 0, 1) := by decide +kernel
theorem dX10_init_1588 : decode cX10_init 1588 = .ok (.istore_n 1, 1) := by decide +kernel
theorem dX10_init_1589 : decode cX10_init 1589 = .ok (.iload_n 1, 1) := by decide +kernel
theorem dX10_init_1590 : decode cX10_init 1590 = .ok (.bipush 13, 2) := by decide +kernel
theorem dX10_init_1592 : decode cX10_init 1592 = .ok (.if_icmp .ge 19, 3) := by decide +kernel
theorem dX10_init_1595 : decode cX10_init 1595 = .ok (.aload_n 0, 1) := by decide +kernel
theorem dX10_init_1596 : decode cX10_init 1596 = .ok (.getfield 13, 3) := by decide +kernel
theorem dX10_init_1599 : decode cX10_init 1599 = .ok (.iload_n 1, 1) := by decide +kernel
theorem dX10_init_1600 : decode cX10_init 1600 = .ok (.iload_n 1, 1) := by decide +kernel
theorem dX10_init_1601 : decode cX10_init 1601 = .ok (.invokestatic 214, 3) := by decide +kernel
theorem dX10_init_1604 : decode cX10_init 1604 = .ok (.iastore, 1) := by decide +kernel
theorem dX10_init_1605 : decode cX10_init 1605 = .ok (.iinc 1 1, 3) := by decide +kernel
theorem dX10_init_1608 : decode cX10_init 1608 = .ok (.goto (-19), 3) := by decide +kernel
theorem dX10_init_1611 : decode cX10_init 1611 = .ok (.aload_n 0, 1) := by decide +kernel
theorem dX10_init_1612 : decode cX10_init 1612 = .ok (.invokevirtual 218, 3) := by decide +kernel
theorem dX10_init_1615 : decode cX10_init 1615 = .ok (.aload_n 0, 1) := by decide +kernel
theorem dX10_init_1616 : decode cX10_init 1616 = .ok (.invokevirtual 221, 3) := by decide +kernel
theorem dX10_init_1619 : decode cX10_init 1619 = .ok (.aload_n 0, 1) := by decide +kernel
theorem dX10_init_1620 : decode cX10_init 1620 = .ok (.iconst 0, 1) := by decide +kernel
theorem dX10_init_1621 : decode cX10_init 1621 = .ok (.invokevirtual 224, 3) := by decide +kernel
theorem dX10_init_1624 : decode cX10_init 1624 = .ok (.return_, 1) := by decide +kernel
theorem dX10_in_0 : decode cX10_in 0 = .ok (.iload_n 0, 1) := by decide +kernel
theorem dX10_in_1 : decode cX10_in 1 = .ok (.iload_n 1, 1) := by decide +kernel
theorem dX10_in_2 : decode cX10_in 2 = .ok (.if_icmp .lt 12, 3) := by decide +kernel
theorem dX10_in_5 : decode cX10_in 5 = .ok (.iload_n 0, 1) := by decide +kernel
theorem dX10_in_6 : decode cX10_in 6 = .ok (.iload_n 2, 1) := by decide +kernel
theorem dX10_in_7 : decode cX10_in 7 = .ok (.if_icmp .gt 7, 3) := by decide +kernel
theorem dX10_in_10 : decode cX10_in 10 = .ok (.iconst 1, 1) := by decide +kernel
theorem dX10_in_11 : decode cX10_in 11 = .ok (.goto 4, 3) := by decide +kernel
theorem dX10_in_14 : decode cX10_in 14 = .ok (.iconst 0, 1) := by decide +kernel
theorem dX10_in_15 : decode cX10_in 15 = .ok (.ireturn, 1) := by decide +kernel
theorem dX10_isDay_0 : decode cX10_isDay 0 = .ok (.iload_n 0, 1) := by decide +kernel
theorem dX10_isDay_1 : decode cX10_isDay 1 = .ok (.iconst 0, 1) := by decide +kernel
theorem dX10_isDay_2 : decode cX10_isDay 2 = .ok (.sipush 7999, 3) := by decide +kernel
theorem dX10_isDay_5 : decode cX10_isDay 5 = .ok (.invokestatic 228, 3) := by decide +kernel
theorem dX10_isDay_8 : decode cX10_isDay 8 = .ok (.ireturn, 1) := by decide +kernel
theorem dX10_clock_0 : decode cX10_clock 0 = .ok (.iload_n 1, 1) := by decide +kernel
theorem dX10_clock_1 : decode cX10_clock 1 = .ok (.aload_n 0, 1) := by decide +kernel
theorem dX10_clock_2 : decode cX10_clock 2 = .ok (.getfield 232, 3) := by decide +kernel
theorem dX10_clock_5 : decode cX10_clock 5 = .ok (.sipush 7999, 3) := by decide +kernel
theorem dX10_clock_8 : decode cX10_clock 8 = .ok (.invokestatic 228, 3) := by decide +kernel
theorem dX10_clock_11 : decode cX10_clock 11 = .ok (.ifCond .ne 5, 3) := by decide +kernel
theorem dX10_clock_14 : decode cX10_clock 14 = .ok (.iconst 0, 1) := by decide +kernel
theorem dX10_clock_15 : decode cX10_clock 15 = .ok (.ireturn, 1) := by decide +kernel
theorem dX10_clock_16 : decode cX10_clock 16 = .ok (.aload_n 0, 1) := by decide +kernel
theorem dX10_clock_17 : decode cX10_clock 17 = .ok (.iload_n 1, 1) := by decide +kernel
theorem dX10_clock_18 : decode cX10_clock 18 = .ok (.putfield 232, 3) := by decide +kernel
theorem dX10_clock_21 : decode cX10_clock 21 = .ok (.iconst 1, 1) := by decide +kernel
theorem dX10_clock_22 : decode cX10_clock 22 = .ok (.ireturn, 1) := by decide +kernel
theorem dX10_without_0 : decode cX10_without 0 = .ok (.iload_n 0, 1) := by decide +kernel
theorem dX10_without_1 : decode cX10_without 1 = .ok (.tableswitch 76 0 8 #[51, 55, 58, 61, 64, 66, 68, 70, 73], 51) := by decide +kernel
theorem dX10_without_52 : decode cX10_without 52 = .ok (.sipush 480, 3) := by decide +kernel
theorem dX10_without_55 : decode cX10_without 55 = .ok (.ireturn, 1) := by decide +kernel
theorem dX10_without_56 : decode cX10_without 56 = .ok (.bipush 30, 2) := by decide +kernel
theorem dX10_without_58 : decode cX10_without 58 = .ok (.ireturn, 1) := by decide +kernel
theorem dX10_without_59 : decode cX10_without 59 = .ok (.bipush 12, 2) := by decide +kernel
theorem dX10_without_61 : decode cX10_without 61 = .ok (.ireturn, 1) := by decide +kernel
theorem dX10_without_62 : decode cX10_without 62 = .ok (.bipush 60, 2) := by decide +kernel
theorem dX10_without_64 : decode cX10_without 64 = .ok (.ireturn, 1) := by decide +kernel
theorem dX10_without_65 : decode cX10_without 65 = .ok (.iconst 2, 1) := by decide +kernel
theorem dX10_without_66 : decode cX10_without 66 = .ok (.ireturn, 1) := by decide +kernel
theorem dX10_without_67 : decode cX10_without 67 = .ok (.iconst 4, 1) := by decide +kernel
theorem dX10_without_68 : decode cX10_without 68 = .ok (.ireturn, 1) := by decide +kernel
theorem dX10_without_69 : decode cX10_without 69 = .ok (.iconst 1, 1) := by decide +kernel
theorem dX10_without_70 : decode cX10_without 70 = .ok (.ireturn, 1) := by decide +kernel
theorem dX10_without_71 : decode cX10_without 71 = .ok (.bipush 40, 2) := by decide +kernel
theorem dX10_without_73 : decode cX10_without 73 = .ok (.ireturn, 1) := by decide +kernel
theorem dX10_without_74 : decode cX10_without 74 = .ok (.bipush 21, 2) := by decide +kernel
theorem dX10_without_76 : decode cX10_without 76 = .ok (.ireturn, 1) := by decide +kernel
theorem dX10_without_77 : decode cX10_without 77 = .ok (.iconst 0, 1) := by decide +kernel
theorem dX10_without_78 : decode cX10_without 78 = .ok (.ireturn, 1) := by decide +kernel
theorem dX10_leastOf_0 : decode cX10_leastOf 0 = .ok (.iload_n 0, 1) := by decide +kernel
theorem dX10_leastOf_1 : decode cX10_leastOf 1 = .ok (.iconst 1, 1) := by decide +kernel
theorem dX10_leastOf_2 : decode cX10_leastOf 2 = .ok (.if_icmp .eq 14, 3) := by decide +kernel
theorem dX10_leastOf_5 : decode cX10_leastOf 5 = .ok (.iload_n 0, 1) := by decide +kernel
theorem dX10_leastOf_6 : decode cX10_leastOf 6 = .ok (.iconst 3, 1) := by decide +kernel
theorem dX10_leastOf_7 : decode cX10_leastOf 7 = .ok (.if_icmp .eq 9, 3) := by decide +kernel
theorem dX10_leastOf_10 : decode cX10_leastOf 10 = .ok (.iload_n 0, 1) := by decide +kernel
theorem dX10_leastOf_11 : decode cX10_leastOf 11 = .ok (.bipush 8, 2) := by decide +kernel
theorem dX10_leastOf_13 : decode cX10_leastOf 13 = .ok (.if_icmp .lt 7, 3) := by decide +kernel
theorem dX10_leastOf_16 : decode cX10_leastOf 16 = .ok (.iconst 0, 1) := by decide +kernel
theorem dX10_leastOf_17 : decode cX10_leastOf 17 = .ok (.goto 4, 3) := by decide +kernel
theorem dX10_leastOf_20 : decode cX10_leastOf 20 = .ok (.iconst 1, 1) := by decide +kernel
theorem dX10_leastOf_21 : decode cX10_leastOf 21 = .ok (.ireturn, 1) := by decide +kernel
theorem dX10_mostOf_0 : decode cX10_mostOf 0 = .ok (.iload_n 0, 1) := by decide +kernel
theorem dX10_mostOf_1 : decode cX10_mostOf 1 = .ok (.tableswitch 83 0 8 #[51, 55, 59, 63, 67, 70, 73, 76, 80], 51) := by decide +kernel
theorem dX10_mostOf_52 : decode cX10_mostOf 52 = .ok (.sipush 9999, 3) := by decide +kernel
theorem dX10_mostOf_55 : decode cX10_mostOf 55 = .ok (.ireturn, 1) := by decide +kernel
theorem dX10_mostOf_56 : decode cX10_mostOf 56 = .ok (.sipush 365, 3) := by decide +kernel
theorem dX10_mostOf_59 : decode cX10_mostOf 59 = .ok (.ireturn, 1) := by decide +kernel
theorem dX10_mostOf_60 : decode cX10_mostOf 60 = .ok (.sipush 999, 3) := by decide +kernel
theorem dX10_mostOf_63 : decode cX10_mostOf 63 = .ok (.ireturn, 1) := by decide +kernel
theorem dX10_mostOf_64 : decode cX10_mostOf 64 = .ok (.sipush 999, 3) := by decide +kernel
theorem dX10_mostOf_67 : decode cX10_mostOf 67 = .ok (.ireturn, 1) := by decide +kernel
theorem dX10_mostOf_68 : decode cX10_mostOf 68 = .ok (.bipush 20, 2) := by decide +kernel
theorem dX10_mostOf_70 : decode cX10_mostOf 70 = .ok (.ireturn, 1) := by decide +kernel
theorem dX10_mostOf_71 : decode cX10_mostOf 71 = .ok (.bipush 20, 2) := by decide +kernel
theorem dX10_mostOf_73 : decode cX10_mostOf 73 = .ok (.ireturn, 1) := by decide +kernel
theorem dX10_mostOf_74 : decode cX10_mostOf 74 = .ok (.bipush 30, 2) := by decide +kernel
theorem dX10_mostOf_76 : decode cX10_mostOf 76 = .ok (.ireturn, 1) := by decide +kernel
theorem dX10_mostOf_77 : decode cX10_mostOf 77 = .ok (.sipush 400, 3) := by decide +kernel
theorem dX10_mostOf_80 : decode cX10_mostOf 80 = .ok (.ireturn, 1) := by decide +kernel
theorem dX10_mostOf_81 : decode cX10_mostOf 81 = .ok (.bipush 40, 2) := by decide +kernel
theorem dX10_mostOf_83 : decode cX10_mostOf 83 = .ok (.ireturn, 1) := by decide +kernel
theorem dX10_mostOf_84 : decode cX10_mostOf 84 = .ok (.sipush 999, 3) := by decide +kernel
theorem dX10_mostOf_87 : decode cX10_mostOf 87 = .ok (.ireturn, 1) := by decide +kernel
theorem dX10_four_0 : decode cX10_four 0 = .ok (.bipush 24, 2) := by decide +kernel
theorem dX10_four_2 : decode cX10_four 2 = .ok (.istore_n 2, 1) := by decide +kernel
theorem dX10_four_3 : decode cX10_four 3 = .ok (.iload_n 2, 1) := by decide +kernel
theorem dX10_four_4 : decode cX10_four 4 = .ok (.ifCond .lt 32, 3) := by decide +kernel
theorem dX10_four_7 : decode cX10_four 7 = .ok (.aload_n 0, 1) := by decide +kernel
theorem dX10_four_8 : decode cX10_four 8 = .ok (.getfield 22, 3) := by decide +kernel
theorem dX10_four_11 : decode cX10_four 11 = .ok (.aload_n 0, 1) := by decide +kernel
theorem dX10_four_12 : decode cX10_four 12 = .ok (.getfield 236, 3) := by decide +kernel
theorem dX10_four_15 : decode cX10_four 15 = .ok (.iload_n 1, 1) := by decide +kernel
theorem dX10_four_16 : decode cX10_four 16 = .ok (.iload_n 2, 1) := by decide +kernel
theorem dX10_four_17 : decode cX10_four 17 = .ok (.ishr, 1) := by decide +kernel
theorem dX10_four_18 : decode cX10_four 18 = .ok (.i2b, 1) := by decide +kernel
theorem dX10_four_19 : decode cX10_four 19 = .ok (.bastore, 1) := by decide +kernel
theorem dX10_four_20 : decode cX10_four 20 = .ok (.aload_n 0, 1) := by decide +kernel
theorem dX10_four_21 : decode cX10_four 21 = .ok (.dup, 1) := by decide +kernel
theorem dX10_four_22 : decode cX10_four 22 = .ok (.getfield 236, 3) := by decide +kernel
theorem dX10_four_25 : decode cX10_four 25 = .ok (.iconst 1, 1) := by decide +kernel
theorem dX10_four_26 : decode cX10_four 26 = .ok (.iadd, 1) := by decide +kernel
theorem dX10_four_27 : decode cX10_four 27 = .ok (.putfield 236, 3) := by decide +kernel
theorem dX10_four_30 : decode cX10_four 30 = .ok (.iinc 2 (-8), 3) := by decide +kernel
theorem dX10_four_33 : decode cX10_four 33 = .ok (.goto (-30), 3) := by decide +kernel
theorem dX10_four_36 : decode cX10_four 36 = .ok (.return_, 1) := by decide +kernel
theorem dX10_feed_0 : decode cX10_feed 0 = .ok (.aload_n 0, 1) := by decide +kernel
theorem dX10_feed_1 : decode cX10_feed 1 = .ok (.getfield 236, 3) := by decide +kernel
theorem dX10_feed_4 : decode cX10_feed 4 = .ok (.bipush 20, 2) := by decide +kernel
theorem dX10_feed_6 : decode cX10_feed 6 = .ok (.iadd, 1) := by decide +kernel
theorem dX10_feed_7 : decode cX10_feed 7 = .ok (.sipush 400, 3) := by decide +kernel
theorem dX10_feed_10 : decode cX10_feed 10 = .ok (.if_icmp .le 5, 3) := by decide +kernel
theorem dX10_feed_13 : decode cX10_feed 13 = .ok (.iconst (-1), 1) := by decide +kernel
theorem dX10_feed_14 : decode cX10_feed 14 = .ok (.ireturn, 1) := by decide +kernel
theorem dX10_feed_15 : decode cX10_feed 15 = .ok (.aload_n 0, 1) := by decide +kernel
theorem dX10_feed_16 : decode cX10_feed 16 = .ok (.iload_n 1, 1) := by decide +kernel
theorem dX10_feed_17 : decode cX10_feed 17 = .ok (.invokevirtual 239, 3) := by decide +kernel
theorem dX10_feed_20 : decode cX10_feed 20 = .ok (.aload_n 0, 1) := by decide +kernel
theorem dX10_feed_21 : decode cX10_feed 21 = .ok (.iload_n 2, 1) := by decide +kernel
theorem dX10_feed_22 : decode cX10_feed 22 = .ok (.invokevirtual 239, 3) := by decide +kernel
theorem dX10_feed_25 : decode cX10_feed 25 = .ok (.aload_n 0, 1) := by decide +kernel
theorem dX10_feed_26 : decode cX10_feed 26 = .ok (.iload_n 3, 1) := by decide +kernel
theorem dX10_feed_27 : decode cX10_feed 27 = .ok (.invokevirtual 239, 3) := by decide +kernel
theorem dX10_feed_30 : decode cX10_feed 30 = .ok (.aload_n 0, 1) := by decide +kernel
theorem dX10_feed_31 : decode cX10_feed 31 = .ok (.iload 4, 2) := by decide +kernel
theorem dX10_feed_33 : decode cX10_feed 33 = .ok (.invokevirtual 239, 3) := by decide +kernel
theorem dX10_feed_36 : decode cX10_feed 36 = .ok (.aload_n 0, 1) := by decide +kernel
theorem dX10_feed_37 : decode cX10_feed 37 = .ok (.iload 5, 2) := by decide +kernel
theorem dX10_feed_39 : decode cX10_feed 39 = .ok (.invokevirtual 239, 3) := by decide +kernel
theorem dX10_feed_42 : decode cX10_feed 42 = .ok (.aload_n 0, 1) := by decide +kernel
theorem dX10_feed_43 : decode cX10_feed 43 = .ok (.getfield 236, 3) := by decide +kernel
theorem dX10_feed_46 : decode cX10_feed 46 = .ok (.ireturn, 1) := by decide +kernel
theorem dX10_end_0 : decode cX10_end 0 = .ok (.iload_n 1, 1) := by decide +kernel
theorem dX10_end_1 : decode cX10_end 1 = .ok (.ifCond .lt 11, 3) := by decide +kernel
theorem dX10_end_4 : decode cX10_end 4 = .ok (.iload_n 1, 1) := by decide +kernel
theorem dX10_end_5 : decode cX10_end 5 = .ok (.aload_n 0, 1) := by decide +kernel
theorem dX10_end_6 : decode cX10_end 6 = .ok (.getfield 236, 3) := by decide +kernel
theorem dX10_end_9 : decode cX10_end 9 = .ok (.if_icmp .le 5, 3) := by decide +kernel
theorem dX10_end_12 : decode cX10_end 12 = .ok (.iconst (-1), 1) := by decide +kernel
theorem dX10_end_13 : decode cX10_end 13 = .ok (.ireturn, 1) := by decide +kernel
theorem dX10_end_14 : decode cX10_end 14 = .ok (.aload_n 0, 1) := by decide +kernel
theorem dX10_end_15 : decode cX10_end 15 = .ok (.iload_n 1, 1) := by decide +kernel
theorem dX10_end_16 : decode cX10_end 16 = .ok (.putfield 236, 3) := by decide +kernel
theorem dX10_end_19 : decode cX10_end 19 = .ok (.iload_n 1, 1) := by decide +kernel
theorem dX10_end_20 : decode cX10_end 20 = .ok (.ireturn, 1) := by decide +kernel
theorem dX10_fails_0 : decode cX10_fails 0 = .ok (.aload_n 0, 1) := by decide +kernel
theorem dX10_fails_1 : decode cX10_fails 1 = .ok (.getfield 242, 3) := by decide +kernel
theorem dX10_fails_4 : decode cX10_fails 4 = .ok (.ifCond .ne 15, 3) := by decide +kernel
theorem dX10_fails_7 : decode cX10_fails 7 = .ok (.aload_n 0, 1) := by decide +kernel
theorem dX10_fails_8 : decode cX10_fails 8 = .ok (.iconst 1, 1) := by decide +kernel
theorem dX10_fails_9 : decode cX10_fails 9 = .ok (.bipush 8, 2) := by decide +kernel
theorem dX10_fails_11 : decode cX10_fails 11 = .ok (.iload_n 2, 1) := by decide +kernel
theorem dX10_fails_12 : decode cX10_fails 12 = .ok (.imul, 1) := by decide +kernel
theorem dX10_fails_13 : decode cX10_fails 13 = .ok (.iadd, 1) := by decide +kernel
theorem dX10_fails_14 : decode cX10_fails 14 = .ok (.iload_n 1, 1) := by decide +kernel
theorem dX10_fails_15 : decode cX10_fails 15 = .ok (.iadd, 1) := by decide +kernel
theorem dX10_fails_16 : decode cX10_fails 16 = .ok (.putfield 242, 3) := by decide +kernel
theorem dX10_fails_19 : decode cX10_fails 19 = .ok (.iconst 0, 1) := by decide +kernel
theorem dX10_fails_20 : decode cX10_fails 20 = .ok (.ireturn, 1) := by decide +kernel
theorem dX10_see_0 : decode cX10_see 0 = .ok (.aload_n 0, 1) := by decide +kernel
theorem dX10_see_1 : decode cX10_see 1 = .ok (.getfield 245, 3) := by decide +kernel
theorem dX10_see_4 : decode cX10_see 4 = .ok (.aload_n 0, 1) := by decide +kernel
theorem dX10_see_5 : decode cX10_see 5 = .ok (.getfield 236, 3) := by decide +kernel
theorem dX10_see_8 : decode cX10_see 8 = .ok (.if_icmp .ge 30, 3) := by decide +kernel
theorem dX10_see_11 : decode cX10_see 11 = .ok (.aload_n 0, 1) := by decide +kernel
theorem dX10_see_12 : decode cX10_see 12 = .ok (.getfield 22, 3) := by decide +kernel
theorem dX10_see_15 : decode cX10_see 15 = .ok (.aload_n 0, 1) := by decide +kernel
theorem dX10_see_16 : decode cX10_see 16 = .ok (.getfield 245, 3) := by decide +kernel
theorem dX10_see_19 : decode cX10_see 19 = .ok (.baload, 1) := by decide +kernel
theorem dX10_see_20 : decode cX10_see 20 = .ok (.bipush 32, 2) := by decide +kernel
theorem dX10_see_22 : decode cX10_see 22 = .ok (.if_icmp .ne 16, 3) := by decide +kernel
theorem dX10_see_25 : decode cX10_see 25 = .ok (.aload_n 0, 1) := by decide +kernel
theorem dX10_see_26 : decode cX10_see 26 = .ok (.dup, 1) := by decide +kernel
theorem dX10_see_27 : decode cX10_see 27 = .ok (.getfield 245, 3) := by decide +kernel
theorem dX10_see_30 : decode cX10_see 30 = .ok (.iconst 1, 1) := by decide +kernel
theorem dX10_see_31 : decode cX10_see 31 = .ok (.iadd, 1) := by decide +kernel
theorem dX10_see_32 : decode cX10_see 32 = .ok (.putfield 245, 3) := by decide +kernel
theorem dX10_see_35 : decode cX10_see 35 = .ok (.goto (-35), 3) := by decide +kernel
theorem dX10_see_38 : decode cX10_see 38 = .ok (.aload_n 0, 1) := by decide +kernel
theorem dX10_see_39 : decode cX10_see 39 = .ok (.getfield 245, 3) := by decide +kernel
theorem dX10_see_42 : decode cX10_see 42 = .ok (.aload_n 0, 1) := by decide +kernel
theorem dX10_see_43 : decode cX10_see 43 = .ok (.getfield 236, 3) := by decide +kernel
theorem dX10_see_46 : decode cX10_see 46 = .ok (.if_icmp .ge 19, 3) := by decide +kernel
theorem dX10_see_49 : decode cX10_see 49 = .ok (.aload_n 0, 1) := by decide +kernel
theorem dX10_see_50 : decode cX10_see 50 = .ok (.getfield 22, 3) := by decide +kernel
theorem dX10_see_53 : decode cX10_see 53 = .ok (.aload_n 0, 1) := by decide +kernel
theorem dX10_see_54 : decode cX10_see 54 = .ok (.getfield 245, 3) := by decide +kernel
theorem dX10_see_57 : decode cX10_see 57 = .ok (.baload, 1) := by decide +kernel
theorem dX10_see_58 : decode cX10_see 58 = .ok (.sipush 255, 3) := by decide +kernel
theorem dX10_see_61 : decode cX10_see 61 = .ok (.iand, 1) := by decide +kernel
theorem dX10_see_62 : decode cX10_see 62 = .ok (.goto 4, 3) := by decide +kernel
theorem dX10_see_65 : decode cX10_see 65 = .ok (.iconst (-1), 1) := by decide +kernel
theorem dX10_see_66 : decode cX10_see 66 = .ok (.ireturn, 1) := by decide +kernel
theorem dX10_wordHere_0 : decode cX10_wordHere 0 = .ok (.aload_n 0, 1) := by decide +kernel
theorem dX10_wordHere_1 : decode cX10_wordHere 1 = .ok (.invokevirtual 248, 3) := by decide +kernel
theorem dX10_wordHere_4 : decode cX10_wordHere 4 = .ok (.pop, 1) := by decide +kernel
theorem dX10_wordHere_5 : decode cX10_wordHere 5 = .ok (.aload_n 0, 1) := by decide +kernel
theorem dX10_wordHere_6 : decode cX10_wordHere 6 = .ok (.iconst 0, 1) := by decide +kernel
theorem dX10_wordHere_7 : decode cX10_wordHere 7 = .ok (.putfield 252, 3) := by decide +kernel
theorem dX10_wordHere_10 : decode cX10_wordHere 10 = .ok (.aload_n 0, 1) := by decide +kernel
theorem dX10_wordHere_11 : decode cX10_wordHere 11 = .ok (.getfield 245, 3) := by decide +kernel
theorem dX10_wordHere_14 : decode cX10_wordHere 14 = .ok (.aload_n 0, 1) := by decide +kernel
theorem dX10_wordHere_15 : decode cX10_wordHere 15 = .ok (.getfield 252, 3) := by decide +kernel
theorem dX10_wordHere_18 : decode cX10_wordHere 18 = .ok (.iadd, 1) := by decide +kernel
theorem dX10_wordHere_19 : decode cX10_wordHere 19 = .ok (.aload_n 0, 1) := by decide +kernel
theorem dX10_wordHere_20 : decode cX10_wordHere 20 = .ok (.getfield 236, 3) := by decide +kernel
theorem dX10_wordHere_23 : decode cX10_wordHere 23 = .ok (.if_icmp .ge 54, 3) := by decide +kernel
theorem dX10_wordHere_26 : decode cX10_wordHere 26 = .ok (.aload_n 0, 1) := by decide +kernel
theorem dX10_wordHere_27 : decode cX10_wordHere 27 = .ok (.getfield 22, 3) := by decide +kernel
theorem dX10_wordHere_30 : decode cX10_wordHere 30 = .ok (.aload_n 0, 1) := by decide +kernel
theorem dX10_wordHere_31 : decode cX10_wordHere 31 = .ok (.getfield 245, 3) := by decide +kernel
theorem dX10_wordHere_34 : decode cX10_wordHere 34 = .ok (.aload_n 0, 1) := by decide +kernel
theorem dX10_wordHere_35 : decode cX10_wordHere 35 = .ok (.getfield 252, 3) := by decide +kernel
theorem dX10_wordHere_38 : decode cX10_wordHere 38 = .ok (.iadd, 1) := by decide +kernel
theorem dX10_wordHere_39 : decode cX10_wordHere 39 = .ok (.baload, 1) := by decide +kernel
theorem dX10_wordHere_40 : decode cX10_wordHere 40 = .ok (.bipush 97, 2) := by decide +kernel
theorem dX10_wordHere_42 : decode cX10_wordHere 42 = .ok (.if_icmp .lt 35, 3) := by decide +kernel
theorem dX10_wordHere_45 : decode cX10_wordHere 45 = .ok (.aload_n 0, 1) := by decide +kernel
theorem dX10_wordHere_46 : decode cX10_wordHere 46 = .ok (.getfield 22, 3) := by decide +kernel
theorem dX10_wordHere_49 : decode cX10_wordHere 49 = .ok (.aload_n 0, 1) := by decide +kernel
theorem dX10_wordHere_50 : decode cX10_wordHere 50 = .ok (.getfield 245, 3) := by decide +kernel
theorem dX10_wordHere_53 : decode cX10_wordHere 53 = .ok (.aload_n 0, 1) := by decide +kernel
theorem dX10_wordHere_54 : decode cX10_wordHere 54 = .ok (.getfield 252, 3) := by decide +kernel
theorem dX10_wordHere_57 : decode cX10_wordHere 57 = .ok (.iadd, 1) := by decide +kernel
theorem dX10_wordHere_58 : decode cX10_wordHere 58 = .ok (.baload, 1) := by decide +kernel
theorem dX10_wordHere_59 : decode cX10_wordHere 59 = .ok (.bipush 122, 2) := by decide +kernel
theorem dX10_wordHere_61 : decode cX10_wordHere 61 = .ok (.if_icmp .gt 16, 3) := by decide +kernel
theorem dX10_wordHere_64 : decode cX10_wordHere 64 = .ok (.aload_n 0, 1) := by decide +kernel
theorem dX10_wordHere_65 : decode cX10_wordHere 65 = .ok (.dup, 1) := by decide +kernel
theorem dX10_wordHere_66 : decode cX10_wordHere 66 = .ok (.getfield 252, 3) := by decide +kernel
theorem dX10_wordHere_69 : decode cX10_wordHere 69 = .ok (.iconst 1, 1) := by decide +kernel
theorem dX10_wordHere_70 : decode cX10_wordHere 70 = .ok (.iadd, 1) := by decide +kernel
theorem dX10_wordHere_71 : decode cX10_wordHere 71 = .ok (.putfield 252, 3) := by decide +kernel
theorem dX10_wordHere_74 : decode cX10_wordHere 74 = .ok (.goto (-64), 3) := by decide +kernel
theorem dX10_wordHere_77 : decode cX10_wordHere 77 = .ok (.iconst 0, 1) := by decide +kernel
theorem dX10_wordHere_78 : decode cX10_wordHere 78 = .ok (.istore_n 1, 1) := by decide +kernel
theorem dX10_wordHere_79 : decode cX10_wordHere 79 = .ok (.iload_n 1, 1) := by decide +kernel
theorem dX10_wordHere_80 : decode cX10_wordHere 80 = .ok (.bipush 25, 2) := by decide +kernel
theorem dX10_wordHere_82 : decode cX10_wordHere 82 = .ok (.if_icmp .ge 118, 3) := by decide +kernel
theorem dX10_wordHere_85 : decode cX10_wordHere 85 = .ok (.aload_n 0, 1) := by decide +kernel
theorem dX10_wordHere_86 : decode cX10_wordHere 86 = .ok (.getfield 252, 3) := by decide +kernel
theorem dX10_wordHere_89 : decode cX10_wordHere 89 = .ok (.bipush 7, 2) := by decide +kernel
theorem dX10_wordHere_91 : decode cX10_wordHere 91 = .ok (.if_icmp .gt 109, 3) := by decide +kernel
theorem dX10_wordHere_94 : decode cX10_wordHere 94 = .ok (.iconst 0, 1) := by decide +kernel
theorem dX10_wordHere_95 : decode cX10_wordHere 95 = .ok (.istore_n 2, 1) := by decide +kernel
theorem dX10_wordHere_96 : decode cX10_wordHere 96 = .ok (.iload_n 2, 1) := by decide +kernel
theorem dX10_wordHere_97 : decode cX10_wordHere 97 = .ok (.bipush 7, 2) := by decide +kernel
theorem dX10_wordHere_99 : decode cX10_wordHere 99 = .ok (.if_icmp .ge 23, 3) := by decide +kernel
theorem dX10_wordHere_102 : decode cX10_wordHere 102 = .ok (.aload_n 0, 1) := by decide +kernel
theorem dX10_wordHere_103 : decode cX10_wordHere 103 = .ok (.getfield 35, 3) := by decide +kernel
theorem dX10_wordHere_106 : decode cX10_wordHere 106 = .ok (.bipush 7, 2) := by decide +kernel
theorem dX10_wordHere_108 : decode cX10_wordHere 108 = .ok (.iload_n 1, 1) := by decide +kernel
theorem dX10_wordHere_109 : decode cX10_wordHere 109 = .ok (.imul, 1) := by decide +kernel
theorem dX10_wordHere_110 : decode cX10_wordHere 110 = .ok (.iload_n 2, 1) := by decide +kernel
theorem dX10_wordHere_111 : decode cX10_wordHere 111 = .ok (.iadd, 1) := by decide +kernel
theorem dX10_wordHere_112 : decode cX10_wordHere 112 = .ok (.baload, 1) := by decide +kernel
theorem dX10_wordHere_113 : decode cX10_wordHere 113 = .ok (.ifCond .eq 9, 3) := by decide +kernel
theorem dX10_wordHere_116 : decode cX10_wordHere 116 = .ok (.iinc 2 1, 3) := by decide +kernel
theorem dX10_wordHere_119 : decode cX10_wordHere 119 = .ok (.goto (-23), 3) := by decide +kernel
theorem dX10_wordHere_122 : decode cX10_wordHere 122 = .ok (.iload_n 2, 1) := by decide +kernel
theorem dX10_wordHere_123 : decode cX10_wordHere 123 = .ok (.aload_n 0, 1) := by decide +kernel
theorem dX10_wordHere_124 : decode cX10_wordHere 124 = .ok (.getfield 252, 3) := by decide +kernel
theorem dX10_wordHere_127 : decode cX10_wordHere 127 = .ok (.if_icmp .ne 7, 3) := by decide +kernel
theorem dX10_wordHere_130 : decode cX10_wordHere 130 = .ok (.iconst 1, 1) := by decide +kernel
theorem dX10_wordHere_131 : decode cX10_wordHere 131 = .ok (.goto 4, 3) := by decide +kernel
theorem dX10_wordHere_134 : decode cX10_wordHere 134 = .ok (.iconst 0, 1) := by decide +kernel
theorem dX10_wordHere_135 : decode cX10_wordHere 135 = .ok (.istore_n 3, 1) := by decide +kernel
theorem dX10_wordHere_136 : decode cX10_wordHere 136 = .ok (.iconst 0, 1) := by decide +kernel
theorem dX10_wordHere_137 : decode cX10_wordHere 137 = .ok (.istore 4, 2) := by decide +kernel
theorem dX10_wordHere_139 : decode cX10_wordHere 139 = .ok (.iload_n 3, 1) := by decide +kernel
theorem dX10_wordHere_140 : decode cX10_wordHere 140 = .ok (.ifCond .eq 48, 3) := by decide +kernel
theorem dX10_wordHere_143 : decode cX10_wordHere 143 = .ok (.iload 4, 2) := by decide +kernel
theorem dX10_wordHere_145 : decode cX10_wordHere 145 = .ok (.iload_n 2, 1) := by decide +kernel
theorem dX10_wordHere_146 : decode cX10_wordHere 146 = .ok (.if_icmp .ge 42, 3) := by decide +kernel
theorem dX10_wordHere_149 : decode cX10_wordHere 149 = .ok (.aload_n 0, 1) := by decide +kernel
theorem dX10_wordHere_150 : decode cX10_wordHere 150 = .ok (.getfield 35, 3) := by decide +kernel
theorem dX10_wordHere_153 : decode cX10_wordHere 153 = .ok (.bipush 7, 2) := by decide +kernel
theorem dX10_wordHere_155 : decode cX10_wordHere 155 = .ok (.iload_n 1, 1) := by decide +kernel
theorem dX10_wordHere_156 : decode cX10_wordHere 156 = .ok (.imul, 1) := by decide +kernel
theorem dX10_wordHere_157 : decode cX10_wordHere 157 = .ok (.iload 4, 2) := by decide +kernel
theorem dX10_wordHere_159 : decode cX10_wordHere 159 = .ok (.iadd, 1) := by decide +kernel
theorem dX10_wordHere_160 : decode cX10_wordHere 160 = .ok (.baload, 1) := by decide +kernel
theorem dX10_wordHere_161 : decode cX10_wordHere 161 = .ok (.aload_n 0, 1) := by decide +kernel
theorem dX10_wordHere_162 : decode cX10_wordHere 162 = .ok (.getfield 22, 3) := by decide +kernel
theorem dX10_wordHere_165 : decode cX10_wordHere 165 = .ok (.aload_n 0, 1) := by decide +kernel
theorem dX10_wordHere_166 : decode cX10_wordHere 166 = .ok (.getfield 245, 3) := by decide +kernel
theorem dX10_wordHere_169 : decode cX10_wordHere 169 = .ok (.iload 4, 2) := by decide +kernel
theorem dX10_wordHere_171 : decode cX10_wordHere 171 = .ok (.iadd, 1) := by decide +kernel
theorem dX10_wordHere_172 : decode cX10_wordHere 172 = .ok (.baload, 1) := by decide +kernel
theorem dX10_wordHere_173 : decode cX10_wordHere 173 = .ok (.if_icmp .ne 7, 3) := by decide +kernel
theorem dX10_wordHere_176 : decode cX10_wordHere 176 = .ok (.iconst 1, 1) := by decide +kernel
theorem dX10_wordHere_177 : decode cX10_wordHere 177 = .ok (.goto 4, 3) := by decide +kernel
theorem dX10_wordHere_180 : decode cX10_wordHere 180 = .ok (.iconst 0, 1) := by decide +kernel
theorem dX10_wordHere_181 : decode cX10_wordHere 181 = .ok (.istore_n 3, 1) := by decide +kernel
theorem dX10_wordHere_182 : decode cX10_wordHere 182 = .ok (.iinc 4 1, 3) := by decide +kernel
theorem dX10_wordHere_185 : decode cX10_wordHere 185 = .ok (.goto (-46), 3) := by decide +kernel
theorem dX10_wordHere_188 : decode cX10_wordHere 188 = .ok (.iload_n 3, 1) := by decide +kernel
theorem dX10_wordHere_189 : decode cX10_wordHere 189 = .ok (.ifCond .eq 5, 3) := by decide +kernel
theorem dX10_wordHere_192 : decode cX10_wordHere 192 = .ok (.iload_n 1, 1) := by decide +kernel
theorem dX10_wordHere_193 : decode cX10_wordHere 193 = .ok (.ireturn, 1) := by decide +kernel
theorem dX10_wordHere_194 : decode cX10_wordHere 194 = .ok (.iinc 1 1, 3) := by decide +kernel
theorem dX10_wordHere_197 : decode cX10_wordHere 197 = .ok (.goto (-118), 3) := by decide +kernel
theorem dX10_wordHere_200 : decode cX10_wordHere 200 = .ok (.iconst (-1), 1) := by decide +kernel
theorem dX10_wordHere_201 : decode cX10_wordHere 201 = .ok (.ireturn, 1) := by decide +kernel
theorem dX10_number_0 : decode cX10_number 0 = .ok (.aload_n 0, 1) := by decide +kernel
theorem dX10_number_1 : decode cX10_number 1 = .ok (.invokevirtual 248, 3) := by decide +kernel
theorem dX10_number_4 : decode cX10_number 4 = .ok (.istore_n 3, 1) := by decide +kernel
theorem dX10_number_5 : decode cX10_number 5 = .ok (.iload_n 3, 1) := by decide +kernel
theorem dX10_number_6 : decode cX10_number 6 = .ok (.bipush 48, 2) := by decide +kernel
theorem dX10_number_8 : decode cX10_number 8 = .ok (.if_icmp .lt 9, 3) := by decide +kernel
theorem dX10_number_11 : decode cX10_number 11 = .ok (.iload_n 3, 1) := by decide +kernel
theorem dX10_number_12 : decode cX10_number 12 = .ok (.bipush 57, 2) := by decide +kernel
theorem dX10_number_14 : decode cX10_number 14 = .ok (.if_icmp .le 13, 3) := by decide +kernel
theorem dX10_number_17 : decode cX10_number 17 = .ok (.aload_n 0, 1) := by decide +kernel
theorem dX10_number_18 : decode cX10_number 18 = .ok (.iconst 0, 1) := by decide +kernel
theorem dX10_number_19 : decode cX10_number 19 = .ok (.aload_n 0, 1) := by decide +kernel
theorem dX10_number_20 : decode cX10_number 20 = .ok (.getfield 245, 3) := by decide +kernel
theorem dX10_number_23 : decode cX10_number 23 = .ok (.invokevirtual 255, 3) := by decide +kernel
theorem dX10_number_26 : decode cX10_number 26 = .ok (.ireturn, 1) := by decide +kernel
theorem dX10_number_27 : decode cX10_number 27 = .ok (.aload_n 0, 1) := by decide +kernel
theorem dX10_number_28 : decode cX10_number 28 = .ok (.getfield 245, 3) := by decide +kernel
theorem dX10_number_31 : decode cX10_number 31 = .ok (.istore 4, 2) := by decide +kernel
theorem dX10_number_33 : decode cX10_number 33 = .ok (.iconst 0, 1) := by decide +kernel
theorem dX10_number_34 : decode cX10_number 34 = .ok (.istore 5, 2) := by decide +kernel
theorem dX10_number_36 : decode cX10_number 36 = .ok (.iconst 0, 1) := by decide +kernel
theorem dX10_number_37 : decode cX10_number 37 = .ok (.istore 6, 2) := by decide +kernel
theorem dX10_number_39 : decode cX10_number 39 = .ok (.aload_n 0, 1) := by decide +kernel
theorem dX10_number_40 : decode cX10_number 40 = .ok (.getfield 245, 3) := by decide +kernel
theorem dX10_number_43 : decode cX10_number 43 = .ok (.aload_n 0, 1) := by decide +kernel
theorem dX10_number_44 : decode cX10_number 44 = .ok (.getfield 236, 3) := by decide +kernel
theorem dX10_number_47 : decode cX10_number 47 = .ok (.if_icmp .ge 73, 3) := by decide +kernel
theorem dX10_number_50 : decode cX10_number 50 = .ok (.aload_n 0, 1) := by decide +kernel
theorem dX10_number_51 : decode cX10_number 51 = .ok (.getfield 22, 3) := by decide +kernel
theorem dX10_number_54 : decode cX10_number 54 = .ok (.aload_n 0, 1) := by decide +kernel
theorem dX10_number_55 : decode cX10_number 55 = .ok (.getfield 245, 3) := by decide +kernel
theorem dX10_number_58 : decode cX10_number 58 = .ok (.baload, 1) := by decide +kernel
theorem dX10_number_59 : decode cX10_number 59 = .ok (.bipush 48, 2) := by decide +kernel
theorem dX10_number_61 : decode cX10_number 61 = .ok (.if_icmp .lt 59, 3) := by decide +kernel
theorem dX10_number_64 : decode cX10_number 64 = .ok (.aload_n 0, 1) := by decide +kernel
theorem dX10_number_65 : decode cX10_number 65 = .ok (.getfield 22, 3) := by decide +kernel
theorem dX10_number_68 : decode cX10_number 68 = .ok (.aload_n 0, 1) := by decide +kernel
theorem dX10_number_69 : decode cX10_number 69 = .ok (.getfield 245, 3) := by decide +kernel
theorem dX10_number_72 : decode cX10_number 72 = .ok (.baload, 1) := by decide +kernel
theorem dX10_number_73 : decode cX10_number 73 = .ok (.bipush 57, 2) := by decide +kernel
theorem dX10_number_75 : decode cX10_number 75 = .ok (.if_icmp .gt 45, 3) := by decide +kernel
theorem dX10_number_78 : decode cX10_number 78 = .ok (.iload 5, 2) := by decide +kernel
theorem dX10_number_80 : decode cX10_number 80 = .ok (.iconst 4, 1) := by decide +kernel
theorem dX10_number_81 : decode cX10_number 81 = .ok (.if_icmp .ge 23, 3) := by decide +kernel
theorem dX10_number_84 : decode cX10_number 84 = .ok (.bipush 10, 2) := by decide +kernel
theorem dX10_number_86 : decode cX10_number 86 = .ok (.iload 6, 2) := by decide +kernel
theorem dX10_number_88 : decode cX10_number 88 = .ok (.imul, 1) := by decide +kernel
theorem dX10_number_89 : decode cX10_number 89 = .ok (.aload_n 0, 1) := by decide +kernel
theorem dX10_number_90 : decode cX10_number 90 = .ok (.getfield 22, 3) := by decide +kernel
theorem dX10_number_93 : decode cX10_number 93 = .ok (.aload_n 0, 1) := by decide +kernel
theorem dX10_number_94 : decode cX10_number 94 = .ok (.getfield 245, 3) := by decide +kernel
theorem dX10_number_97 : decode cX10_number 97 = .ok (.baload, 1) := by decide +kernel
theorem dX10_number_98 : decode cX10_number 98 = .ok (.iadd, 1) := by decide +kernel
theorem dX10_number_99 : decode cX10_number 99 = .ok (.bipush 48, 2) := by decide +kernel
theorem dX10_number_101 : decode cX10_number 101 = .ok (.isub, 1) := by decide +kernel
theorem dX10_number_102 : decode cX10_number 102 = .ok (.istore 6, 2) := by decide +kernel
theorem dX10_number_104 : decode cX10_number 104 = .ok (.iinc 5 1, 3) := by decide +kernel
theorem dX10_number_107 : decode cX10_number 107 = .ok (.aload_n 0, 1) := by decide +kernel
theorem dX10_number_108 : decode cX10_number 108 = .ok (.dup, 1) := by decide +kernel
theorem dX10_number_109 : decode cX10_number 109 = .ok (.getfield 245, 3) := by decide +kernel
theorem dX10_number_112 : decode cX10_number 112 = .ok (.iconst 1, 1) := by decide +kernel
theorem dX10_number_113 : decode cX10_number 113 = .ok (.iadd, 1) := by decide +kernel
theorem dX10_number_114 : decode cX10_number 114 = .ok (.putfield 245, 3) := by decide +kernel
theorem dX10_number_117 : decode cX10_number 117 = .ok (.goto (-78), 3) := by decide +kernel
theorem dX10_number_120 : decode cX10_number 120 = .ok (.aload_n 0, 1) := by decide +kernel
theorem dX10_number_121 : decode cX10_number 121 = .ok (.iload 6, 2) := by decide +kernel
theorem dX10_number_123 : decode cX10_number 123 = .ok (.putfield 259, 3) := by decide +kernel
theorem dX10_number_126 : decode cX10_number 126 = .ok (.iload 5, 2) := by decide +kernel
theorem dX10_number_128 : decode cX10_number 128 = .ok (.iconst 4, 1) := by decide +kernel
theorem dX10_number_129 : decode cX10_number 129 = .ok (.if_icmp .gt 13, 3) := by decide +kernel
theorem dX10_number_132 : decode cX10_number 132 = .ok (.iload 6, 2) := by decide +kernel
theorem dX10_number_134 : decode cX10_number 134 = .ok (.iload_n 1, 1) := by decide +kernel
theorem dX10_number_135 : decode cX10_number 135 = .ok (.iload_n 2, 1) := by decide +kernel
theorem dX10_number_136 : decode cX10_number 136 = .ok (.invokestatic 228, 3) := by decide +kernel
theorem dX10_number_139 : decode cX10_number 139 = .ok (.ifCond .ne 13, 3) := by decide +kernel
theorem dX10_number_142 : decode cX10_number 142 = .ok (.aload_n 0, 1) := by decide +kernel
theorem dX10_number_143 : decode cX10_number 143 = .ok (.iconst 1, 1) := by decide +kernel
theorem dX10_number_144 : decode cX10_number 144 = .ok (.iload 4, 2) := by decide +kernel
theorem dX10_number_146 : decode cX10_number 146 = .ok (.invokevirtual 255, 3) := by decide +kernel
theorem dX10_number_149 : decode cX10_number 149 = .ok (.ifCond .eq 7, 3) := by decide +kernel
theorem dX10_number_152 : decode cX10_number 152 = .ok (.iconst 1, 1) := by decide +kernel
theorem dX10_number_153 : decode cX10_number 153 = .ok (.goto 4, 3) := by decide +kernel
theorem dX10_number_156 : decode cX10_number 156 = .ok (.iconst 0, 1) := by decide +kernel
theorem dX10_number_157 : decode cX10_number 157 = .ok (.ireturn, 1) := by decide +kernel
theorem dX10_writes_0 : decode cX10_writes 0 = .ok (.aload_n 0, 1) := by decide +kernel
theorem dX10_writes_1 : decode cX10_writes 1 = .ok (.getfield 29, 3) := by decide +kernel
theorem dX10_writes_4 : decode cX10_writes 4 = .ok (.aload_n 0, 1) := by decide +kernel
theorem dX10_writes_5 : decode cX10_writes 5 = .ok (.getfield 262, 3) := by decide +kernel
theorem dX10_writes_8 : decode cX10_writes 8 = .ok (.iload_n 1, 1) := by decide +kernel
theorem dX10_writes_9 : decode cX10_writes 9 = .ok (.iastore, 1) := by decide +kernel
theorem dX10_writes_10 : decode cX10_writes 10 = .ok (.aload_n 0, 1) := by decide +kernel
theorem dX10_writes_11 : decode cX10_writes 11 = .ok (.dup, 1) := by decide +kernel
theorem dX10_writes_12 : decode cX10_writes 12 = .ok (.getfield 262, 3) := by decide +kernel
theorem dX10_writes_15 : decode cX10_writes 15 = .ok (.iconst 1, 1) := by decide +kernel
theorem dX10_writes_16 : decode cX10_writes 16 = .ok (.iadd, 1) := by decide +kernel
theorem dX10_writes_17 : decode cX10_writes 17 = .ok (.putfield 262, 3) := by decide +kernel
theorem dX10_writes_20 : decode cX10_writes 20 = .ok (.return_, 1) := by decide +kernel
theorem dX10_deep_0 : decode cX10_deep 0 = .ok (.iconst 0, 1) := by decide +kernel
theorem dX10_deep_1 : decode cX10_deep 1 = .ok (.istore_n 1, 1) := by decide +kernel
theorem dX10_deep_2 : decode cX10_deep 2 = .ok (.iconst 0, 1) := by decide +kernel
theorem dX10_deep_3 : decode cX10_deep 3 = .ok (.istore_n 2, 1) := by decide +kernel
theorem dX10_deep_4 : decode cX10_deep 4 = .ok (.iload_n 2, 1) := by decide +kernel
theorem dX10_deep_5 : decode cX10_deep 5 = .ok (.aload_n 0, 1) := by decide +kernel
theorem dX10_deep_6 : decode cX10_deep 6 = .ok (.getfield 265, 3) := by decide +kernel
theorem dX10_deep_9 : decode cX10_deep 9 = .ok (.if_icmp .ge 38, 3) := by decide +kernel
theorem dX10_deep_12 : decode cX10_deep 12 = .ok (.iload_n 1, 1) := by decide +kernel
theorem dX10_deep_13 : decode cX10_deep 13 = .ok (.aload_n 0, 1) := by decide +kernel
theorem dX10_deep_14 : decode cX10_deep 14 = .ok (.getfield 32, 3) := by decide +kernel
theorem dX10_deep_17 : decode cX10_deep 17 = .ok (.iload_n 2, 1) := by decide +kernel
theorem dX10_deep_18 : decode cX10_deep 18 = .ok (.iaload, 1) := by decide +kernel
theorem dX10_deep_19 : decode cX10_deep 19 = .ok (.iconst 2, 1) := by decide +kernel
theorem dX10_deep_20 : decode cX10_deep 20 = .ok (.if_icmp .eq 14, 3) := by decide +kernel
theorem dX10_deep_23 : decode cX10_deep 23 = .ok (.aload_n 0, 1) := by decide +kernel
theorem dX10_deep_24 : decode cX10_deep 24 = .ok (.getfield 32, 3) := by decide +kernel
theorem dX10_deep_27 : decode cX10_deep 27 = .ok (.iload_n 2, 1) := by decide +kernel
theorem dX10_deep_28 : decode cX10_deep 28 = .ok (.iaload, 1) := by decide +kernel
theorem dX10_deep_29 : decode cX10_deep 29 = .ok (.bipush 100, 2) := by decide +kernel
theorem dX10_deep_31 : decode cX10_deep 31 = .ok (.if_icmp .ne 7, 3) := by decide +kernel
theorem dX10_deep_34 : decode cX10_deep 34 = .ok (.iconst 1, 1) := by decide +kernel
theorem dX10_deep_35 : decode cX10_deep 35 = .ok (.goto 4, 3) := by decide +kernel
theorem dX10_deep_38 : decode cX10_deep 38 = .ok (.iconst 0, 1) := by decide +kernel
theorem dX10_deep_39 : decode cX10_deep 39 = .ok (.iadd, 1) := by decide +kernel
theorem dX10_deep_40 : decode cX10_deep 40 = .ok (.istore_n 1, 1) := by decide +kernel
theorem dX10_deep_41 : decode cX10_deep 41 = .ok (.iinc 2 1, 3) := by decide +kernel
theorem dX10_deep_44 : decode cX10_deep 44 = .ok (.goto (-40), 3) := by decide +kernel
theorem dX10_deep_47 : decode cX10_deep 47 = .ok (.iload_n 1, 1) := by decide +kernel
theorem dX10_deep_48 : decode cX10_deep 48 = .ok (.ireturn, 1) := by decide +kernel
theorem dX10_isFact_0 : decode cX10_isFact 0 = .ok (.iload_n 0, 1) := by decide +kernel
theorem dX10_isFact_1 : decode cX10_isFact 1 = .ok (.iconst 3, 1) := by decide +kernel
theorem dX10_isFact_2 : decode cX10_isFact 2 = .ok (.bipush 10, 2) := by decide +kernel
theorem dX10_isFact_4 : decode cX10_isFact 4 = .ok (.invokestatic 228, 3) := by decide +kernel
theorem dX10_isFact_7 : decode cX10_isFact 7 = .ok (.ireturn, 1) := by decide +kernel
theorem dX10_compareOf_0 : decode cX10_compareOf 0 = .ok (.ldc_w 268, 3) := by decide +kernel
theorem dX10_compareOf_3 : decode cX10_compareOf 3 = .ok (.iconst 1, 1) := by decide +kernel
theorem dX10_compareOf_4 : decode cX10_compareOf 4 = .ok (.iload_n 0, 1) := by decide +kernel
theorem dX10_compareOf_5 : decode cX10_compareOf 5 = .ok (.iadd, 1) := by decide +kernel
theorem dX10_compareOf_6 : decode cX10_compareOf 6 = .ok (.imul, 1) := by decide +kernel
theorem dX10_compareOf_7 : decode cX10_compareOf 7 = .ok (.ldc_w 269, 3) := by decide +kernel
theorem dX10_compareOf_10 : decode cX10_compareOf 10 = .ok (.iload_n 1, 1) := by decide +kernel
theorem dX10_compareOf_11 : decode cX10_compareOf 11 = .ok (.imul, 1) := by decide +kernel
theorem dX10_compareOf_12 : decode cX10_compareOf 12 = .ok (.iadd, 1) := by decide +kernel
theorem dX10_compareOf_13 : decode cX10_compareOf 13 = .ok (.iload_n 2, 1) := by decide +kernel
theorem dX10_compareOf_14 : decode cX10_compareOf 14 = .ok (.iadd, 1) := by decide +kernel
theorem dX10_compareOf_15 : decode cX10_compareOf 15 = .ok (.ireturn, 1) := by decide +kernel
theorem dX10_compare_0 : decode cX10_compare 0 = .ok (.iload_n 1, 1) := by decide +kernel
theorem dX10_compare_1 : decode cX10_compare 1 = .ok (.invokestatic 270, 3) := by decide +kernel
theorem dX10_compare_4 : decode cX10_compare 4 = .ok (.ifCond .ne 13, 3) := by decide +kernel
theorem dX10_compare_7 : decode cX10_compare 7 = .ok (.aload_n 0, 1) := by decide +kernel
theorem dX10_compare_8 : decode cX10_compare 8 = .ok (.iconst 0, 1) := by decide +kernel
theorem dX10_compare_9 : decode cX10_compare 9 = .ok (.aload_n 0, 1) := by decide +kernel
theorem dX10_compare_10 : decode cX10_compare 10 = .ok (.getfield 245, 3) := by decide +kernel
theorem dX10_compare_13 : decode cX10_compare 13 = .ok (.invokevirtual 255, 3) := by decide +kernel
theorem dX10_compare_16 : decode cX10_compare 16 = .ok (.ireturn, 1) := by decide +kernel
theorem dX10_compare_17 : decode cX10_compare 17 = .ok (.aload_n 0, 1) := by decide +kernel
theorem dX10_compare_18 : decode cX10_compare 18 = .ok (.getfield 274, 3) := by decide +kernel
theorem dX10_compare_21 : decode cX10_compare 21 = .ok (.bipush 20, 2) := by decide +kernel
theorem dX10_compare_23 : decode cX10_compare 23 = .ok (.if_icmp .ne 13, 3) := by decide +kernel
theorem dX10_compare_26 : decode cX10_compare 26 = .ok (.aload_n 0, 1) := by decide +kernel
theorem dX10_compare_27 : decode cX10_compare 27 = .ok (.iconst 4, 1) := by decide +kernel
theorem dX10_compare_28 : decode cX10_compare 28 = .ok (.aload_n 0, 1) := by decide +kernel
theorem dX10_compare_29 : decode cX10_compare 29 = .ok (.getfield 245, 3) := by decide +kernel
theorem dX10_compare_32 : decode cX10_compare 32 = .ok (.invokevirtual 255, 3) := by decide +kernel
theorem dX10_compare_35 : decode cX10_compare 35 = .ok (.ireturn, 1) := by decide +kernel
theorem dX10_compare_36 : decode cX10_compare 36 = .ok (.aload_n 0, 1) := by decide +kernel
theorem dX10_compare_37 : decode cX10_compare 37 = .ok (.dup, 1) := by decide +kernel
theorem dX10_compare_38 : decode cX10_compare 38 = .ok (.getfield 274, 3) := by decide +kernel
theorem dX10_compare_41 : decode cX10_compare 41 = .ok (.iconst 1, 1) := by decide +kernel
theorem dX10_compare_42 : decode cX10_compare 42 = .ok (.iadd, 1) := by decide +kernel
theorem dX10_compare_43 : decode cX10_compare 43 = .ok (.putfield 274, 3) := by decide +kernel
theorem dX10_compare_46 : decode cX10_compare 46 = .ok (.aload_n 0, 1) := by decide +kernel
theorem dX10_compare_47 : decode cX10_compare 47 = .ok (.dup, 1) := by decide +kernel
theorem dX10_compare_48 : decode cX10_compare 48 = .ok (.getfield 245, 3) := by decide +kernel
theorem dX10_compare_51 : decode cX10_compare 51 = .ok (.aload_n 0, 1) := by decide +kernel
theorem dX10_compare_52 : decode cX10_compare 52 = .ok (.getfield 252, 3) := by decide +kernel
theorem dX10_compare_55 : decode cX10_compare 55 = .ok (.iadd, 1) := by decide +kernel
theorem dX10_compare_56 : decode cX10_compare 56 = .ok (.putfield 245, 3) := by decide +kernel
theorem dX10_compare_59 : decode cX10_compare 59 = .ok (.aload_n 0, 1) := by decide +kernel
theorem dX10_compare_60 : decode cX10_compare 60 = .ok (.invokevirtual 248, 3) := by decide +kernel
theorem dX10_compare_63 : decode cX10_compare 63 = .ok (.istore_n 2, 1) := by decide +kernel
theorem dX10_compare_64 : decode cX10_compare 64 = .ok (.iload_n 2, 1) := by decide +kernel
theorem dX10_compare_65 : decode cX10_compare 65 = .ok (.bipush 60, 2) := by decide +kernel
theorem dX10_compare_67 : decode cX10_compare 67 = .ok (.if_icmp .eq 25, 3) := by decide +kernel
theorem dX10_compare_70 : decode cX10_compare 70 = .ok (.iload_n 2, 1) := by decide +kernel
theorem dX10_compare_71 : decode cX10_compare 71 = .ok (.bipush 61, 2) := by decide +kernel
theorem dX10_compare_73 : decode cX10_compare 73 = .ok (.if_icmp .eq 19, 3) := by decide +kernel
theorem dX10_compare_76 : decode cX10_compare 76 = .ok (.iload_n 2, 1) := by decide +kernel
theorem dX10_compare_77 : decode cX10_compare 77 = .ok (.bipush 62, 2) := by decide +kernel
theorem dX10_compare_79 : decode cX10_compare 79 = .ok (.if_icmp .eq 13, 3) := by decide +kernel
theorem dX10_compare_82 : decode cX10_compare 82 = .ok (.aload_n 0, 1) := by decide +kernel
theorem dX10_compare_83 : decode cX10_compare 83 = .ok (.iconst 0, 1) := by decide +kernel
theorem dX10_compare_84 : decode cX10_compare 84 = .ok (.aload_n 0, 1) := by decide +kernel
theorem dX10_compare_85 : decode cX10_compare 85 = .ok (.getfield 245, 3) := by decide +kernel
theorem dX10_compare_88 : decode cX10_compare 88 = .ok (.invokevirtual 255, 3) := by decide +kernel
theorem dX10_compare_91 : decode cX10_compare 91 = .ok (.ireturn, 1) := by decide +kernel
theorem dX10_compare_92 : decode cX10_compare 92 = .ok (.aload_n 0, 1) := by decide +kernel
theorem dX10_compare_93 : decode cX10_compare 93 = .ok (.dup, 1) := by decide +kernel
theorem dX10_compare_94 : decode cX10_compare 94 = .ok (.getfield 245, 3) := by decide +kernel
theorem dX10_compare_97 : decode cX10_compare 97 = .ok (.iconst 1, 1) := by decide +kernel
theorem dX10_compare_98 : decode cX10_compare 98 = .ok (.iadd, 1) := by decide +kernel
theorem dX10_compare_99 : decode cX10_compare 99 = .ok (.putfield 245, 3) := by decide +kernel
theorem dX10_compare_102 : decode cX10_compare 102 = .ok (.iload_n 2, 1) := by decide +kernel
theorem dX10_compare_103 : decode cX10_compare 103 = .ok (.bipush 61, 2) := by decide +kernel
theorem dX10_compare_105 : decode cX10_compare 105 = .ok (.if_icmp .eq 32, 3) := by decide +kernel
theorem dX10_compare_108 : decode cX10_compare 108 = .ok (.aload_n 0, 1) := by decide +kernel
theorem dX10_compare_109 : decode cX10_compare 109 = .ok (.getfield 245, 3) := by decide +kernel
theorem dX10_compare_112 : decode cX10_compare 112 = .ok (.aload_n 0, 1) := by decide +kernel
theorem dX10_compare_113 : decode cX10_compare 113 = .ok (.getfield 236, 3) := by decide +kernel
theorem dX10_compare_116 : decode cX10_compare 116 = .ok (.if_icmp .ge 21, 3) := by decide +kernel
theorem dX10_compare_119 : decode cX10_compare 119 = .ok (.aload_n 0, 1) := by decide +kernel
theorem dX10_compare_120 : decode cX10_compare 120 = .ok (.getfield 22, 3) := by decide +kernel
theorem dX10_compare_123 : decode cX10_compare 123 = .ok (.aload_n 0, 1) := by decide +kernel
theorem dX10_compare_124 : decode cX10_compare 124 = .ok (.getfield 245, 3) := by decide +kernel
theorem dX10_compare_127 : decode cX10_compare 127 = .ok (.baload, 1) := by decide +kernel
theorem dX10_compare_128 : decode cX10_compare 128 = .ok (.bipush 61, 2) := by decide +kernel
theorem dX10_compare_130 : decode cX10_compare 130 = .ok (.if_icmp .ne 7, 3) := by decide +kernel
theorem dX10_compare_133 : decode cX10_compare 133 = .ok (.iconst 1, 1) := by decide +kernel
theorem dX10_compare_134 : decode cX10_compare 134 = .ok (.goto 4, 3) := by decide +kernel
theorem dX10_compare_137 : decode cX10_compare 137 = .ok (.iconst 0, 1) := by decide +kernel
theorem dX10_compare_138 : decode cX10_compare 138 = .ok (.istore_n 3, 1) := by decide +kernel
theorem dX10_compare_139 : decode cX10_compare 139 = .ok (.iload_n 3, 1) := by decide +kernel
theorem dX10_compare_140 : decode cX10_compare 140 = .ok (.ifCond .eq 13, 3) := by decide +kernel
theorem dX10_compare_143 : decode cX10_compare 143 = .ok (.aload_n 0, 1) := by decide +kernel
theorem dX10_compare_144 : decode cX10_compare 144 = .ok (.dup, 1) := by decide +kernel
theorem dX10_compare_145 : decode cX10_compare 145 = .ok (.getfield 245, 3) := by decide +kernel
theorem dX10_compare_148 : decode cX10_compare 148 = .ok (.iconst 1, 1) := by decide +kernel
theorem dX10_compare_149 : decode cX10_compare 149 = .ok (.iadd, 1) := by decide +kernel
theorem dX10_compare_150 : decode cX10_compare 150 = .ok (.putfield 245, 3) := by decide +kernel
theorem dX10_compare_153 : decode cX10_compare 153 = .ok (.iload_n 2, 1) := by decide +kernel
theorem dX10_compare_154 : decode cX10_compare 154 = .ok (.bipush 60, 2) := by decide +kernel
theorem dX10_compare_156 : decode cX10_compare 156 = .ok (.if_icmp .ne 15, 3) := by decide +kernel
theorem dX10_compare_159 : decode cX10_compare 159 = .ok (.iload_n 3, 1) := by decide +kernel
theorem dX10_compare_160 : decode cX10_compare 160 = .ok (.ifCond .eq 7, 3) := by decide +kernel
theorem dX10_compare_163 : decode cX10_compare 163 = .ok (.iconst 1, 1) := by decide +kernel
theorem dX10_compare_164 : decode cX10_compare 164 = .ok (.goto 26, 3) := by decide +kernel
theorem dX10_compare_167 : decode cX10_compare 167 = .ok (.iconst 0, 1) := by decide +kernel
theorem dX10_compare_168 : decode cX10_compare 168 = .ok (.goto 22, 3) := by decide +kernel
theorem dX10_compare_171 : decode cX10_compare 171 = .ok (.iload_n 2, 1) := by decide +kernel
theorem dX10_compare_172 : decode cX10_compare 172 = .ok (.bipush 61, 2) := by decide +kernel
theorem dX10_compare_174 : decode cX10_compare 174 = .ok (.if_icmp .ne 7, 3) := by decide +kernel
theorem dX10_compare_177 : decode cX10_compare 177 = .ok (.iconst 2, 1) := by decide +kernel
theorem dX10_compare_178 : decode cX10_compare 178 = .ok (.goto 12, 3) := by decide +kernel
theorem dX10_compare_181 : decode cX10_compare 181 = .ok (.iload_n 3, 1) := by decide +kernel
theorem dX10_compare_182 : decode cX10_compare 182 = .ok (.ifCond .eq 7, 3) := by decide +kernel
theorem dX10_compare_185 : decode cX10_compare 185 = .ok (.iconst 3, 1) := by decide +kernel
theorem dX10_compare_186 : decode cX10_compare 186 = .ok (.goto 4, 3) := by decide +kernel
theorem dX10_compare_189 : decode cX10_compare 189 = .ok (.iconst 4, 1) := by decide +kernel
theorem dX10_compare_190 : decode cX10_compare 190 = .ok (.istore 4, 2) := by decide +kernel
theorem dX10_compare_192 : decode cX10_compare 192 = .ok (.aload_n 0, 1) := by decide +kernel
theorem dX10_compare_193 : decode cX10_compare 193 = .ok (.invokevirtual 277, 3) := by decide +kernel
theorem dX10_compare_196 : decode cX10_compare 196 = .ok (.istore 5, 2) := by decide +kernel
theorem dX10_compare_198 : decode cX10_compare 198 = .ok (.iload 5, 2) := by decide +kernel
theorem dX10_compare_200 : decode cX10_compare 200 = .ok (.invokestatic 270, 3) := by decide +kernel
theorem dX10_compare_203 : decode cX10_compare 203 = .ok (.ifCond .eq 38, 3) := by decide +kernel
theorem dX10_compare_206 : decode cX10_compare 206 = .ok (.aload_n 0, 1) := by decide +kernel
theorem dX10_compare_207 : decode cX10_compare 207 = .ok (.dup, 1) := by decide +kernel
theorem dX10_compare_208 : decode cX10_compare 208 = .ok (.getfield 245, 3) := by decide +kernel
theorem dX10_compare_211 : decode cX10_compare 211 = .ok (.aload_n 0, 1) := by decide +kernel
theorem dX10_compare_212 : decode cX10_compare 212 = .ok (.getfield 252, 3) := by decide +kernel
theorem dX10_compare_215 : decode cX10_compare 215 = .ok (.iadd, 1) := by decide +kernel
theorem dX10_compare_216 : decode cX10_compare 216 = .ok (.putfield 245, 3) := by decide +kernel
theorem dX10_compare_219 : decode cX10_compare 219 = .ok (.aload_n 0, 1) := by decide +kernel
theorem dX10_compare_220 : decode cX10_compare 220 = .ok (.iload_n 1, 1) := by decide +kernel
theorem dX10_compare_221 : decode cX10_compare 221 = .ok (.iconst 3, 1) := by decide +kernel
theorem dX10_compare_222 : decode cX10_compare 222 = .ok (.isub, 1) := by decide +kernel
theorem dX10_compare_223 : decode cX10_compare 223 = .ok (.iload 4, 2) := by decide +kernel
theorem dX10_compare_225 : decode cX10_compare 225 = .ok (.sipush 10000, 3) := by decide +kernel
theorem dX10_compare_228 : decode cX10_compare 228 = .ok (.iload 5, 2) := by decide +kernel
theorem dX10_compare_230 : decode cX10_compare 230 = .ok (.iadd, 1) := by decide +kernel
theorem dX10_compare_231 : decode cX10_compare 231 = .ok (.iconst 3, 1) := by decide +kernel
theorem dX10_compare_232 : decode cX10_compare 232 = .ok (.isub, 1) := by decide +kernel
theorem dX10_compare_233 : decode cX10_compare 233 = .ok (.invokestatic 280, 3) := by decide +kernel
theorem dX10_compare_236 : decode cX10_compare 236 = .ok (.invokevirtual 284, 3) := by decide +kernel
theorem dX10_compare_239 : decode cX10_compare 239 = .ok (.iconst 1, 1) := by decide +kernel
theorem dX10_compare_240 : decode cX10_compare 240 = .ok (.ireturn, 1) := by decide +kernel
theorem dX10_compare_241 : decode cX10_compare 241 = .ok (.aload_n 0, 1) := by decide +kernel
theorem dX10_compare_242 : decode cX10_compare 242 = .ok (.iconst 0, 1) := by decide +kernel
theorem dX10_compare_243 : decode cX10_compare 243 = .ok (.sipush 9999, 3) := by decide +kernel
theorem dX10_compare_246 : decode cX10_compare 246 = .ok (.invokevirtual 287, 3) := by decide +kernel
theorem dX10_compare_249 : decode cX10_compare 249 = .ok (.ifCond .ne 5, 3) := by decide +kernel
theorem dX10_compare_252 : decode cX10_compare 252 = .ok (.iconst 0, 1) := by decide +kernel
theorem dX10_compare_253 : decode cX10_compare 253 = .ok (.ireturn, 1) := by decide +kernel
theorem dX10_compare_254 : decode cX10_compare 254 = .ok (.aload_n 0, 1) := by decide +kernel
theorem dX10_compare_255 : decode cX10_compare 255 = .ok (.iload_n 1, 1) := by decide +kernel
theorem dX10_compare_256 : decode cX10_compare 256 = .ok (.iconst 3, 1) := by decide +kernel
theorem dX10_compare_257 : decode cX10_compare 257 = .ok (.isub, 1) := by decide +kernel
theorem dX10_compare_258 : decode cX10_compare 258 = .ok (.iload 4, 2) := by decide +kernel
theorem dX10_compare_260 : decode cX10_compare 260 = .ok (.aload_n 0, 1) := by decide +kernel
theorem dX10_compare_261 : decode cX10_compare 261 = .ok (.getfield 259, 3) := by decide +kernel
theorem dX10_compare_264 : decode cX10_compare 264 = .ok (.invokestatic 280, 3) := by decide +kernel
theorem dX10_compare_267 : decode cX10_compare 267 = .ok (.invokevirtual 284, 3) := by decide +kernel
theorem dX10_compare_270 : decode cX10_compare 270 = .ok (.iconst 1, 1) := by decide +kernel
theorem dX10_compare_271 : decode cX10_compare 271 = .ok (.ireturn, 1) := by decide +kernel
theorem dX10_begins_0 : decode cX10_begins 0 = .ok (.aload_n 0, 1) := by decide +kernel
theorem dX10_begins_1 : decode cX10_begins 1 = .ok (.invokevirtual 248, 3) := by decide +kernel
theorem dX10_begins_4 : decode cX10_begins 4 = .ok (.istore_n 1, 1) := by decide +kernel
theorem dX10_begins_5 : decode cX10_begins 5 = .ok (.aload_n 0, 1) := by decide +kernel
theorem dX10_begins_6 : decode cX10_begins 6 = .ok (.invokevirtual 277, 3) := by decide +kernel
theorem dX10_begins_9 : decode cX10_begins 9 = .ok (.istore_n 2, 1) := by decide +kernel
theorem dX10_begins_10 : decode cX10_begins 10 = .ok (.iload_n 1, 1) := by decide +kernel
theorem dX10_begins_11 : decode cX10_begins 11 = .ok (.bipush 40, 2) := by decide +kernel
theorem dX10_begins_13 : decode cX10_begins 13 = .ok (.if_icmp .eq 14, 3) := by decide +kernel
theorem dX10_begins_16 : decode cX10_begins 16 = .ok (.iload_n 2, 1) := by decide +kernel
theorem dX10_begins_17 : decode cX10_begins 17 = .ok (.iconst 2, 1) := by decide +kernel
theorem dX10_begins_18 : decode cX10_begins 18 = .ok (.if_icmp .eq 9, 3) := by decide +kernel
theorem dX10_begins_21 : decode cX10_begins 21 = .ok (.aload_n 0, 1) := by decide +kernel
theorem dX10_begins_22 : decode cX10_begins 22 = .ok (.iload_n 2, 1) := by decide +kernel
theorem dX10_begins_23 : decode cX10_begins 23 = .ok (.invokevirtual 290, 3) := by decide +kernel
theorem dX10_begins_26 : decode cX10_begins 26 = .ok (.ireturn, 1) := by decide +kernel
theorem dX10_begins_27 : decode cX10_begins 27 = .ok (.aload_n 0, 1) := by decide +kernel
theorem dX10_begins_28 : decode cX10_begins 28 = .ok (.invokevirtual 293, 3) := by decide +kernel
theorem dX10_begins_31 : decode cX10_begins 31 = .ok (.bipush 8, 2) := by decide +kernel
theorem dX10_begins_33 : decode cX10_begins 33 = .ok (.if_icmp .ne 13, 3) := by decide +kernel
theorem dX10_begins_36 : decode cX10_begins 36 = .ok (.aload_n 0, 1) := by decide +kernel
theorem dX10_begins_37 : decode cX10_begins 37 = .ok (.iconst 3, 1) := by decide +kernel
theorem dX10_begins_38 : decode cX10_begins 38 = .ok (.aload_n 0, 1) := by decide +kernel
theorem dX10_begins_39 : decode cX10_begins 39 = .ok (.getfield 245, 3) := by decide +kernel
theorem dX10_begins_42 : decode cX10_begins 42 = .ok (.invokevirtual 255, 3) := by decide +kernel
theorem dX10_begins_45 : decode cX10_begins 45 = .ok (.ireturn, 1) := by decide +kernel
theorem dX10_begins_46 : decode cX10_begins 46 = .ok (.aload_n 0, 1) := by decide +kernel
theorem dX10_begins_47 : decode cX10_begins 47 = .ok (.getfield 32, 3) := by decide +kernel
theorem dX10_begins_50 : decode cX10_begins 50 = .ok (.aload_n 0, 1) := by decide +kernel
theorem dX10_begins_51 : decode cX10_begins 51 = .ok (.getfield 265, 3) := by decide +kernel
theorem dX10_begins_54 : decode cX10_begins 54 = .ok (.iload_n 1, 1) := by decide +kernel
theorem dX10_begins_55 : decode cX10_begins 55 = .ok (.bipush 40, 2) := by decide +kernel
theorem dX10_begins_57 : decode cX10_begins 57 = .ok (.if_icmp .ne 8, 3) := by decide +kernel
theorem dX10_begins_60 : decode cX10_begins 60 = .ok (.bipush 100, 2) := by decide +kernel
theorem dX10_begins_62 : decode cX10_begins 62 = .ok (.goto 4, 3) := by decide +kernel
theorem dX10_begins_65 : decode cX10_begins 65 = .ok (.iconst 2, 1) := by decide +kernel
theorem dX10_begins_66 : decode cX10_begins 66 = .ok (.iastore, 1) := by decide +kernel
theorem dX10_begins_67 : decode cX10_begins 67 = .ok (.aload_n 0, 1) := by decide +kernel
theorem dX10_begins_68 : decode cX10_begins 68 = .ok (.dup, 1) := by decide +kernel
theorem dX10_begins_69 : decode cX10_begins 69 = .ok (.getfield 265, 3) := by decide +kernel
theorem dX10_begins_72 : decode cX10_begins 72 = .ok (.iconst 1, 1) := by decide +kernel
theorem dX10_begins_73 : decode cX10_begins 73 = .ok (.iadd, 1) := by decide +kernel
theorem dX10_begins_74 : decode cX10_begins 74 = .ok (.putfield 265, 3) := by decide +kernel
theorem dX10_begins_77 : decode cX10_begins 77 = .ok (.aload_n 0, 1) := by decide +kernel
theorem dX10_begins_78 : decode cX10_begins 78 = .ok (.dup, 1) := by decide +kernel
theorem dX10_begins_79 : decode cX10_begins 79 = .ok (.getfield 245, 3) := by decide +kernel
theorem dX10_begins_82 : decode cX10_begins 82 = .ok (.iload_n 1, 1) := by decide +kernel
theorem dX10_begins_83 : decode cX10_begins 83 = .ok (.bipush 40, 2) := by decide +kernel
theorem dX10_begins_85 : decode cX10_begins 85 = .ok (.if_icmp .ne 7, 3) := by decide +kernel
theorem dX10_begins_88 : decode cX10_begins 88 = .ok (.iconst 1, 1) := by decide +kernel
theorem dX10_begins_89 : decode cX10_begins 89 = .ok (.goto 4, 3) := by decide +kernel
theorem dX10_begins_92 : decode cX10_begins 92 = .ok (.iconst 3, 1) := by decide +kernel
theorem dX10_begins_93 : decode cX10_begins 93 = .ok (.iadd, 1) := by decide +kernel
theorem dX10_begins_94 : decode cX10_begins 94 = .ok (.putfield 245, 3) := by decide +kernel
theorem dX10_begins_97 : decode cX10_begins 97 = .ok (.goto (-97), 3) := by decide +kernel
theorem dX10_closesNots_0 : decode cX10_closesNots 0 = .ok (.aload_n 0, 1) := by decide +kernel
theorem dX10_closesNots_1 : decode cX10_closesNots 1 = .ok (.getfield 265, 3) := by decide +kernel
theorem dX10_closesNots_4 : decode cX10_closesNots 4 = .ok (.ifCond .le 36, 3) := by decide +kernel
theorem dX10_closesNots_7 : decode cX10_closesNots 7 = .ok (.aload_n 0, 1) := by decide +kernel
theorem dX10_closesNots_8 : decode cX10_closesNots 8 = .ok (.getfield 32, 3) := by decide +kernel
theorem dX10_closesNots_11 : decode cX10_closesNots 11 = .ok (.aload_n 0, 1) := by decide +kernel
theorem dX10_closesNots_12 : decode cX10_closesNots 12 = .ok (.getfield 265, 3) := by decide +kernel
theorem dX10_closesNots_15 : decode cX10_closesNots 15 = .ok (.iconst 1, 1) := by decide +kernel
theorem dX10_closesNots_16 : decode cX10_closesNots 16 = .ok (.isub, 1) := by decide +kernel
theorem dX10_closesNots_17 : decode cX10_closesNots 17 = .ok (.iaload, 1) := by decide +kernel
theorem dX10_closesNots_18 : decode cX10_closesNots 18 = .ok (.iconst 2, 1) := by decide +kernel
theorem dX10_closesNots_19 : decode cX10_closesNots 19 = .ok (.if_icmp .ne 21, 3) := by decide +kernel
theorem dX10_closesNots_22 : decode cX10_closesNots 22 = .ok (.aload_n 0, 1) := by decide +kernel
theorem dX10_closesNots_23 : decode cX10_closesNots 23 = .ok (.iconst 2, 1) := by decide +kernel
theorem dX10_closesNots_24 : decode cX10_closesNots 24 = .ok (.invokevirtual 284, 3) := by decide +kernel
theorem dX10_closesNots_27 : decode cX10_closesNots 27 = .ok (.aload_n 0, 1) := by decide +kernel
theorem dX10_closesNots_28 : decode cX10_closesNots 28 = .ok (.dup, 1) := by decide +kernel
theorem dX10_closesNots_29 : decode cX10_closesNots 29 = .ok (.getfield 265, 3) := by decide +kernel
theorem dX10_closesNots_32 : decode cX10_closesNots 32 = .ok (.iconst 1, 1) := by decide +kernel
theorem dX10_closesNots_33 : decode cX10_closesNots 33 = .ok (.isub, 1) := by decide +kernel
theorem dX10_closesNots_34 : decode cX10_closesNots 34 = .ok (.putfield 265, 3) := by decide +kernel
theorem dX10_closesNots_37 : decode cX10_closesNots 37 = .ok (.goto (-37), 3) := by decide +kernel
theorem dX10_closesNots_40 : decode cX10_closesNots 40 = .ok (.return_, 1) := by decide +kernel
theorem dX10_closesDown_0 : decode cX10_closesDown 0 = .ok (.aload_n 0, 1) := by decide +kernel
theorem dX10_closesDown_1 : decode cX10_closesDown 1 = .ok (.getfield 265, 3) := by decide +kernel
theorem dX10_closesDown_4 : decode cX10_closesDown 4 = .ok (.ifCond .le 62, 3) := by decide +kernel
theorem dX10_closesDown_7 : decode cX10_closesDown 7 = .ok (.aload_n 0, 1) := by decide +kernel
theorem dX10_closesDown_8 : decode cX10_closesDown 8 = .ok (.getfield 32, 3) := by decide +kernel
theorem dX10_closesDown_11 : decode cX10_closesDown 11 = .ok (.aload_n 0, 1) := by decide +kernel
theorem dX10_closesDown_12 : decode cX10_closesDown 12 = .ok (.getfield 265, 3) := by decide +kernel
theorem dX10_closesDown_15 : decode cX10_closesDown 15 = .ok (.iconst 1, 1) := by decide +kernel
theorem dX10_closesDown_16 : decode cX10_closesDown 16 = .ok (.isub, 1) := by decide +kernel
theorem dX10_closesDown_17 : decode cX10_closesDown 17 = .ok (.iaload, 1) := by decide +kernel
theorem dX10_closesDown_18 : decode cX10_closesDown 18 = .ok (.bipush 100, 2) := by decide +kernel
theorem dX10_closesDown_20 : decode cX10_closesDown 20 = .ok (.if_icmp .eq 46, 3) := by decide +kernel
theorem dX10_closesDown_23 : decode cX10_closesDown 23 = .ok (.aload_n 0, 1) := by decide +kernel
theorem dX10_closesDown_24 : decode cX10_closesDown 24 = .ok (.getfield 32, 3) := by decide +kernel
theorem dX10_closesDown_27 : decode cX10_closesDown 27 = .ok (.aload_n 0, 1) := by decide +kernel
theorem dX10_closesDown_28 : decode cX10_closesDown 28 = .ok (.getfield 265, 3) := by decide +kernel
theorem dX10_closesDown_31 : decode cX10_closesDown 31 = .ok (.iconst 1, 1) := by decide +kernel
theorem dX10_closesDown_32 : decode cX10_closesDown 32 = .ok (.isub, 1) := by decide +kernel
theorem dX10_closesDown_33 : decode cX10_closesDown 33 = .ok (.iaload, 1) := by decide +kernel
theorem dX10_closesDown_34 : decode cX10_closesDown 34 = .ok (.iload_n 1, 1) := by decide +kernel
theorem dX10_closesDown_35 : decode cX10_closesDown 35 = .ok (.if_icmp .lt 31, 3) := by decide +kernel
theorem dX10_closesDown_38 : decode cX10_closesDown 38 = .ok (.aload_n 0, 1) := by decide +kernel
theorem dX10_closesDown_39 : decode cX10_closesDown 39 = .ok (.aload_n 0, 1) := by decide +kernel
theorem dX10_closesDown_40 : decode cX10_closesDown 40 = .ok (.getfield 32, 3) := by decide +kernel
theorem dX10_closesDown_43 : decode cX10_closesDown 43 = .ok (.aload_n 0, 1) := by decide +kernel
theorem dX10_closesDown_44 : decode cX10_closesDown 44 = .ok (.getfield 265, 3) := by decide +kernel
theorem dX10_closesDown_47 : decode cX10_closesDown 47 = .ok (.iconst 1, 1) := by decide +kernel
theorem dX10_closesDown_48 : decode cX10_closesDown 48 = .ok (.isub, 1) := by decide +kernel
theorem dX10_closesDown_49 : decode cX10_closesDown 49 = .ok (.iaload, 1) := by decide +kernel
theorem dX10_closesDown_50 : decode cX10_closesDown 50 = .ok (.invokevirtual 284, 3) := by decide +kernel
theorem dX10_closesDown_53 : decode cX10_closesDown 53 = .ok (.aload_n 0, 1) := by decide +kernel
theorem dX10_closesDown_54 : decode cX10_closesDown 54 = .ok (.dup, 1) := by decide +kernel
theorem dX10_closesDown_55 : decode cX10_closesDown 55 = .ok (.getfield 265, 3) := by decide +kernel
theorem dX10_closesDown_58 : decode cX10_closesDown 58 = .ok (.iconst 1, 1) := by decide +kernel
theorem dX10_closesDown_59 : decode cX10_closesDown 59 = .ok (.isub, 1) := by decide +kernel
theorem dX10_closesDown_60 : decode cX10_closesDown 60 = .ok (.putfield 265, 3) := by decide +kernel
theorem dX10_closesDown_63 : decode cX10_closesDown 63 = .ok (.goto (-63), 3) := by decide +kernel
theorem dX10_closesDown_66 : decode cX10_closesDown 66 = .ok (.return_, 1) := by decide +kernel
theorem dX10_clears_0 : decode cX10_clears 0 = .ok (.aload_n 0, 1) := by decide +kernel
theorem dX10_clears_1 : decode cX10_clears 1 = .ok (.iconst 0, 1) := by decide +kernel
theorem dX10_clears_2 : decode cX10_clears 2 = .ok (.putfield 262, 3) := by decide +kernel
theorem dX10_clears_5 : decode cX10_clears 5 = .ok (.aload_n 0, 1) := by decide +kernel
theorem dX10_clears_6 : decode cX10_clears 6 = .ok (.iconst 0, 1) := by decide +kernel
theorem dX10_clears_7 : decode cX10_clears 7 = .ok (.putfield 274, 3) := by decide +kernel
theorem dX10_clears_10 : decode cX10_clears 10 = .ok (.aload_n 0, 1) := by decide +kernel
theorem dX10_clears_11 : decode cX10_clears 11 = .ok (.iconst 0, 1) := by decide +kernel
theorem dX10_clears_12 : decode cX10_clears 12 = .ok (.putfield 265, 3) := by decide +kernel
theorem dX10_clears_15 : decode cX10_clears 15 = .ok (.return_, 1) := by decide +kernel
theorem dX10_withoutProof_0 : decode cX10_withoutProof 0 = .ok (.aload_n 0, 1) := by decide +kernel
theorem dX10_withoutProof_1 : decode cX10_withoutProof 1 = .ok (.iconst 0, 1) := by decide +kernel
theorem dX10_withoutProof_2 : decode cX10_withoutProof 2 = .ok (.iconst 2, 1) := by decide +kernel
theorem dX10_withoutProof_3 : decode cX10_withoutProof 3 = .ok (.iconst 1, 1) := by decide +kernel
theorem dX10_withoutProof_4 : decode cX10_withoutProof 4 = .ok (.invokestatic 280, 3) := by decide +kernel
theorem dX10_withoutProof_7 : decode cX10_withoutProof 7 = .ok (.invokevirtual 284, 3) := by decide +kernel
theorem dX10_withoutProof_10 : decode cX10_withoutProof 10 = .ok (.aload_n 0, 1) := by decide +kernel
theorem dX10_withoutProof_11 : decode cX10_withoutProof 11 = .ok (.iconst 1, 1) := by decide +kernel
theorem dX10_withoutProof_12 : decode cX10_withoutProof 12 = .ok (.iconst 2, 1) := by decide +kernel
theorem dX10_withoutProof_13 : decode cX10_withoutProof 13 = .ok (.iconst 0, 1) := by decide +kernel
theorem dX10_withoutProof_14 : decode cX10_withoutProof 14 = .ok (.invokestatic 280, 3) := by decide +kernel
theorem dX10_withoutProof_17 : decode cX10_withoutProof 17 = .ok (.invokevirtual 284, 3) := by decide +kernel
theorem dX10_withoutProof_20 : decode cX10_withoutProof 20 = .ok (.aload_n 0, 1) := by decide +kernel
theorem dX10_withoutProof_21 : decode cX10_withoutProof 21 = .ok (.iconst 1, 1) := by decide +kernel
theorem dX10_withoutProof_22 : decode cX10_withoutProof 22 = .ok (.invokevirtual 284, 3) := by decide +kernel
theorem dX10_withoutProof_25 : decode cX10_withoutProof 25 = .ok (.return_, 1) := by decide +kernel
theorem dX10_keepsProof_0 : decode cX10_keepsProof 0 = .ok (.aload_n 0, 1) := by decide +kernel
theorem dX10_keepsProof_1 : decode cX10_keepsProof 1 = .ok (.getfield 16, 3) := by decide +kernel
theorem dX10_keepsProof_4 : decode cX10_keepsProof 4 = .ok (.iload_n 1, 1) := by decide +kernel
theorem dX10_keepsProof_5 : decode cX10_keepsProof 5 = .ok (.aload_n 0, 1) := by decide +kernel
theorem dX10_keepsProof_6 : decode cX10_keepsProof 6 = .ok (.getfield 262, 3) := by decide +kernel
theorem dX10_keepsProof_9 : decode cX10_keepsProof 9 = .ok (.iastore, 1) := by decide +kernel
theorem dX10_keepsProof_10 : decode cX10_keepsProof 10 = .ok (.iconst 0, 1) := by decide +kernel
theorem dX10_keepsProof_11 : decode cX10_keepsProof 11 = .ok (.istore_n 2, 1) := by decide +kernel
theorem dX10_keepsProof_12 : decode cX10_keepsProof 12 = .ok (.iload_n 2, 1) := by decide +kernel
theorem dX10_keepsProof_13 : decode cX10_keepsProof 13 = .ok (.aload_n 0, 1) := by decide +kernel
theorem dX10_keepsProof_14 : decode cX10_keepsProof 14 = .ok (.getfield 262, 3) := by decide +kernel
theorem dX10_keepsProof_17 : decode cX10_keepsProof 17 = .ok (.if_icmp .ge 27, 3) := by decide +kernel
theorem dX10_keepsProof_20 : decode cX10_keepsProof 20 = .ok (.aload_n 0, 1) := by decide +kernel
theorem dX10_keepsProof_21 : decode cX10_keepsProof 21 = .ok (.getfield 19, 3) := by decide +kernel
theorem dX10_keepsProof_24 : decode cX10_keepsProof 24 = .ok (.sipush 128, 3) := by decide +kernel
theorem dX10_keepsProof_27 : decode cX10_keepsProof 27 = .ok (.iload_n 1, 1) := by decide +kernel
theorem dX10_keepsProof_28 : decode cX10_keepsProof 28 = .ok (.imul, 1) := by decide +kernel
theorem dX10_keepsProof_29 : decode cX10_keepsProof 29 = .ok (.iload_n 2, 1) := by decide +kernel
theorem dX10_keepsProof_30 : decode cX10_keepsProof 30 = .ok (.iadd, 1) := by decide +kernel
theorem dX10_keepsProof_31 : decode cX10_keepsProof 31 = .ok (.aload_n 0, 1) := by decide +kernel
theorem dX10_keepsProof_32 : decode cX10_keepsProof 32 = .ok (.getfield 29, 3) := by decide +kernel
theorem dX10_keepsProof_35 : decode cX10_keepsProof 35 = .ok (.iload_n 2, 1) := by decide +kernel
theorem dX10_keepsProof_36 : decode cX10_keepsProof 36 = .ok (.iaload, 1) := by decide +kernel
theorem dX10_keepsProof_37 : decode cX10_keepsProof 37 = .ok (.iastore, 1) := by decide +kernel
theorem dX10_keepsProof_38 : decode cX10_keepsProof 38 = .ok (.iinc 2 1, 3) := by decide +kernel
theorem dX10_keepsProof_41 : decode cX10_keepsProof 41 = .ok (.goto (-29), 3) := by decide +kernel
theorem dX10_keepsProof_44 : decode cX10_keepsProof 44 = .ok (.return_, 1) := by decide +kernel
theorem dX10_either_0 : decode cX10_either 0 = .ok (.aload_n 0, 1) := by decide +kernel
theorem dX10_either_1 : decode cX10_either 1 = .ok (.invokevirtual 218, 3) := by decide +kernel
theorem dX10_either_4 : decode cX10_either 4 = .ok (.iconst 1, 1) := by decide +kernel
theorem dX10_either_5 : decode cX10_either 5 = .ok (.istore_n 1, 1) := by decide +kernel
theorem dX10_either_6 : decode cX10_either 6 = .ok (.iload_n 1, 1) := by decide +kernel
theorem dX10_either_7 : decode cX10_either 7 = .ok (.ifCond .eq 12, 3) := by decide +kernel
theorem dX10_either_10 : decode cX10_either 10 = .ok (.aload_n 0, 1) := by decide +kernel
theorem dX10_either_11 : decode cX10_either 11 = .ok (.invokevirtual 296, 3) := by decide +kernel
theorem dX10_either_14 : decode cX10_either 14 = .ok (.ifCond .ne 5, 3) := by decide +kernel
theorem dX10_either_17 : decode cX10_either 17 = .ok (.iconst 0, 1) := by decide +kernel
theorem dX10_either_18 : decode cX10_either 18 = .ok (.ireturn, 1) := by decide +kernel
theorem dX10_either_19 : decode cX10_either 19 = .ok (.iload_n 1, 1) := by decide +kernel
theorem dX10_either_20 : decode cX10_either 20 = .ok (.ifCond .eq 7, 3) := by decide +kernel
theorem dX10_either_23 : decode cX10_either 23 = .ok (.aload_n 0, 1) := by decide +kernel
theorem dX10_either_24 : decode cX10_either 24 = .ok (.invokevirtual 300, 3) := by decide +kernel
theorem dX10_either_27 : decode cX10_either 27 = .ok (.iconst 0, 1) := by decide +kernel
theorem dX10_either_28 : decode cX10_either 28 = .ok (.istore_n 1, 1) := by decide +kernel
theorem dX10_either_29 : decode cX10_either 29 = .ok (.aload_n 0, 1) := by decide +kernel
theorem dX10_either_30 : decode cX10_either 30 = .ok (.invokevirtual 248, 3) := by decide +kernel
theorem dX10_either_33 : decode cX10_either 33 = .ok (.istore_n 2, 1) := by decide +kernel
theorem dX10_either_34 : decode cX10_either 34 = .ok (.aload_n 0, 1) := by decide +kernel
theorem dX10_either_35 : decode cX10_either 35 = .ok (.invokevirtual 277, 3) := by decide +kernel
theorem dX10_either_38 : decode cX10_either 38 = .ok (.istore_n 3, 1) := by decide +kernel
theorem dX10_either_39 : decode cX10_either 39 = .ok (.iload_n 3, 1) := by decide +kernel
theorem dX10_either_40 : decode cX10_either 40 = .ok (.iconst 1, 1) := by decide +kernel
theorem dX10_either_41 : decode cX10_either 41 = .ok (.if_icmp .eq 7, 3) := by decide +kernel
theorem dX10_either_44 : decode cX10_either 44 = .ok (.iload_n 3, 1) := by decide +kernel
theorem dX10_either_45 : decode cX10_either 45 = .ok (.ifCond .ne 46, 3) := by decide +kernel
theorem dX10_either_48 : decode cX10_either 48 = .ok (.aload_n 0, 1) := by decide +kernel
theorem dX10_either_49 : decode cX10_either 49 = .ok (.iload_n 3, 1) := by decide +kernel
theorem dX10_either_50 : decode cX10_either 50 = .ok (.invokevirtual 303, 3) := by decide +kernel
theorem dX10_either_53 : decode cX10_either 53 = .ok (.aload_n 0, 1) := by decide +kernel
theorem dX10_either_54 : decode cX10_either 54 = .ok (.getfield 32, 3) := by decide +kernel
theorem dX10_either_57 : decode cX10_either 57 = .ok (.aload_n 0, 1) := by decide +kernel
theorem dX10_either_58 : decode cX10_either 58 = .ok (.getfield 265, 3) := by decide +kernel
theorem dX10_either_61 : decode cX10_either 61 = .ok (.iload_n 3, 1) := by decide +kernel
theorem dX10_either_62 : decode cX10_either 62 = .ok (.iastore, 1) := by decide +kernel
theorem dX10_either_63 : decode cX10_either 63 = .ok (.aload_n 0, 1) := by decide +kernel
theorem dX10_either_64 : decode cX10_either 64 = .ok (.dup, 1) := by decide +kernel
theorem dX10_either_65 : decode cX10_either 65 = .ok (.getfield 265, 3) := by decide +kernel
theorem dX10_either_68 : decode cX10_either 68 = .ok (.iconst 1, 1) := by decide +kernel
theorem dX10_either_69 : decode cX10_either 69 = .ok (.iadd, 1) := by decide +kernel
theorem dX10_either_70 : decode cX10_either 70 = .ok (.putfield 265, 3) := by decide +kernel
theorem dX10_either_73 : decode cX10_either 73 = .ok (.aload_n 0, 1) := by decide +kernel
theorem dX10_either_74 : decode cX10_either 74 = .ok (.dup, 1) := by decide +kernel
theorem dX10_either_75 : decode cX10_either 75 = .ok (.getfield 245, 3) := by decide +kernel
theorem dX10_either_78 : decode cX10_either 78 = .ok (.aload_n 0, 1) := by decide +kernel
theorem dX10_either_79 : decode cX10_either 79 = .ok (.getfield 252, 3) := by decide +kernel
theorem dX10_either_82 : decode cX10_either 82 = .ok (.iadd, 1) := by decide +kernel
theorem dX10_either_83 : decode cX10_either 83 = .ok (.putfield 245, 3) := by decide +kernel
theorem dX10_either_86 : decode cX10_either 86 = .ok (.iconst 1, 1) := by decide +kernel
theorem dX10_either_87 : decode cX10_either 87 = .ok (.istore_n 1, 1) := by decide +kernel
theorem dX10_either_88 : decode cX10_either 88 = .ok (.goto 88, 3) := by decide +kernel
theorem dX10_either_91 : decode cX10_either 91 = .ok (.iload_n 2, 1) := by decide +kernel
theorem dX10_either_92 : decode cX10_either 92 = .ok (.bipush 41, 2) := by decide +kernel
theorem dX10_either_94 : decode cX10_either 94 = .ok (.if_icmp .ne 52, 3) := by decide +kernel
theorem dX10_either_97 : decode cX10_either 97 = .ok (.aload_n 0, 1) := by decide +kernel
theorem dX10_either_98 : decode cX10_either 98 = .ok (.iconst 0, 1) := by decide +kernel
theorem dX10_either_99 : decode cX10_either 99 = .ok (.invokevirtual 303, 3) := by decide +kernel
theorem dX10_either_102 : decode cX10_either 102 = .ok (.aload_n 0, 1) := by decide +kernel
theorem dX10_either_103 : decode cX10_either 103 = .ok (.getfield 265, 3) := by decide +kernel
theorem dX10_either_106 : decode cX10_either 106 = .ok (.ifCond .ne 13, 3) := by decide +kernel
theorem dX10_either_109 : decode cX10_either 109 = .ok (.aload_n 0, 1) := by decide +kernel
theorem dX10_either_110 : decode cX10_either 110 = .ok (.iconst 0, 1) := by decide +kernel
theorem dX10_either_111 : decode cX10_either 111 = .ok (.aload_n 0, 1) := by decide +kernel
theorem dX10_either_112 : decode cX10_either 112 = .ok (.getfield 245, 3) := by decide +kernel
theorem dX10_either_115 : decode cX10_either 115 = .ok (.invokevirtual 255, 3) := by decide +kernel
theorem dX10_either_118 : decode cX10_either 118 = .ok (.ireturn, 1) := by decide +kernel
theorem dX10_either_119 : decode cX10_either 119 = .ok (.aload_n 0, 1) := by decide +kernel
theorem dX10_either_120 : decode cX10_either 120 = .ok (.dup, 1) := by decide +kernel
theorem dX10_either_121 : decode cX10_either 121 = .ok (.getfield 265, 3) := by decide +kernel
theorem dX10_either_124 : decode cX10_either 124 = .ok (.iconst 1, 1) := by decide +kernel
theorem dX10_either_125 : decode cX10_either 125 = .ok (.isub, 1) := by decide +kernel
theorem dX10_either_126 : decode cX10_either 126 = .ok (.putfield 265, 3) := by decide +kernel
theorem dX10_either_129 : decode cX10_either 129 = .ok (.aload_n 0, 1) := by decide +kernel
theorem dX10_either_130 : decode cX10_either 130 = .ok (.dup, 1) := by decide +kernel
theorem dX10_either_131 : decode cX10_either 131 = .ok (.getfield 245, 3) := by decide +kernel
theorem dX10_either_134 : decode cX10_either 134 = .ok (.iconst 1, 1) := by decide +kernel
theorem dX10_either_135 : decode cX10_either 135 = .ok (.iadd, 1) := by decide +kernel
theorem dX10_either_136 : decode cX10_either 136 = .ok (.putfield 245, 3) := by decide +kernel
theorem dX10_either_139 : decode cX10_either 139 = .ok (.aload_n 0, 1) := by decide +kernel
theorem dX10_either_140 : decode cX10_either 140 = .ok (.invokevirtual 300, 3) := by decide +kernel
theorem dX10_either_143 : decode cX10_either 143 = .ok (.goto 33, 3) := by decide +kernel
theorem dX10_either_146 : decode cX10_either 146 = .ok (.aload_n 0, 1) := by decide +kernel
theorem dX10_either_147 : decode cX10_either 147 = .ok (.iconst 0, 1) := by decide +kernel
theorem dX10_either_148 : decode cX10_either 148 = .ok (.invokevirtual 303, 3) := by decide +kernel
theorem dX10_either_151 : decode cX10_either 151 = .ok (.aload_n 0, 1) := by decide +kernel
theorem dX10_either_152 : decode cX10_either 152 = .ok (.getfield 265, 3) := by decide +kernel
theorem dX10_either_155 : decode cX10_either 155 = .ok (.ifCond .eq 15, 3) := by decide +kernel
theorem dX10_either_158 : decode cX10_either 158 = .ok (.aload_n 0, 1) := by decide +kernel
theorem dX10_either_159 : decode cX10_either 159 = .ok (.iconst 0, 1) := by decide +kernel
theorem dX10_either_160 : decode cX10_either 160 = .ok (.aload_n 0, 1) := by decide +kernel
theorem dX10_either_161 : decode cX10_either 161 = .ok (.getfield 245, 3) := by decide +kernel
theorem dX10_either_164 : decode cX10_either 164 = .ok (.invokevirtual 255, 3) := by decide +kernel
theorem dX10_either_167 : decode cX10_either 167 = .ok (.ifCond .eq 7, 3) := by decide +kernel
theorem dX10_either_170 : decode cX10_either 170 = .ok (.iconst 1, 1) := by decide +kernel
theorem dX10_either_171 : decode cX10_either 171 = .ok (.goto 4, 3) := by decide +kernel
theorem dX10_either_174 : decode cX10_either 174 = .ok (.iconst 0, 1) := by decide +kernel
theorem dX10_either_175 : decode cX10_either 175 = .ok (.ireturn, 1) := by decide +kernel
theorem dX10_either_176 : decode cX10_either 176 = .ok (.goto (-170), 3) := by decide +kernel
theorem dX10_isNew_0 : decode cX10_isNew 0 = .ok (.aload_n 0, 1) := by decide +kernel
theorem dX10_isNew_1 : decode cX10_isNew 1 = .ok (.getfield 306, 3) := by decide +kernel
theorem dX10_isNew_4 : decode cX10_isNew 4 = .ok (.iload_n 1, 1) := by decide +kernel
theorem dX10_isNew_5 : decode cX10_isNew 5 = .ok (.ishr, 1) := by decide +kernel
theorem dX10_isNew_6 : decode cX10_isNew 6 = .ok (.iconst 1, 1) := by decide +kernel
theorem dX10_isNew_7 : decode cX10_isNew 7 = .ok (.iand, 1) := by decide +kernel
theorem dX10_isNew_8 : decode cX10_isNew 8 = .ok (.iconst 1, 1) := by decide +kernel
theorem dX10_isNew_9 : decode cX10_isNew 9 = .ok (.if_icmp .ne 10, 3) := by decide +kernel
theorem dX10_isNew_12 : decode cX10_isNew 12 = .ok (.aload_n 0, 1) := by decide +kernel
theorem dX10_isNew_13 : decode cX10_isNew 13 = .ok (.iconst 2, 1) := by decide +kernel
theorem dX10_isNew_14 : decode cX10_isNew 14 = .ok (.iload_n 2, 1) := by decide +kernel
theorem dX10_isNew_15 : decode cX10_isNew 15 = .ok (.invokevirtual 255, 3) := by decide +kernel
theorem dX10_isNew_18 : decode cX10_isNew 18 = .ok (.ireturn, 1) := by decide +kernel
theorem dX10_isNew_19 : decode cX10_isNew 19 = .ok (.aload_n 0, 1) := by decide +kernel
theorem dX10_isNew_20 : decode cX10_isNew 20 = .ok (.dup, 1) := by decide +kernel
theorem dX10_isNew_21 : decode cX10_isNew 21 = .ok (.getfield 306, 3) := by decide +kernel
theorem dX10_isNew_24 : decode cX10_isNew 24 = .ok (.iconst 1, 1) := by decide +kernel
theorem dX10_isNew_25 : decode cX10_isNew 25 = .ok (.iload_n 1, 1) := by decide +kernel
theorem dX10_isNew_26 : decode cX10_isNew 26 = .ok (.ishl, 1) := by decide +kernel
theorem dX10_isNew_27 : decode cX10_isNew 27 = .ok (.ior, 1) := by decide +kernel
theorem dX10_isNew_28 : decode cX10_isNew 28 = .ok (.putfield 306, 3) := by decide +kernel
theorem dX10_isNew_31 : decode cX10_isNew 31 = .ok (.iconst 1, 1) := by decide +kernel
theorem dX10_isNew_32 : decode cX10_isNew 32 = .ok (.ireturn, 1) := by decide +kernel
theorem dX10_clause_0 : decode cX10_clause 0 = .ok (.aload_n 0, 1) := by decide +kernel
theorem dX10_clause_1 : decode cX10_clause 1 = .ok (.invokevirtual 277, 3) := by decide +kernel
theorem dX10_clause_4 : decode cX10_clause 4 = .ok (.istore_n 1, 1) := by decide +kernel
theorem dX10_clause_5 : decode cX10_clause 5 = .ok (.aload_n 0, 1) := by decide +kernel
theorem dX10_clause_6 : decode cX10_clause 6 = .ok (.getfield 245, 3) := by decide +kernel
theorem dX10_clause_9 : decode cX10_clause 9 = .ok (.istore_n 2, 1) := by decide +kernel
theorem dX10_clause_10 : decode cX10_clause 10 = .ok (.iload_n 1, 1) := by decide +kernel
theorem dX10_clause_11 : decode cX10_clause 11 = .ok (.bipush 11, 2) := by decide +kernel
theorem dX10_clause_13 : decode cX10_clause 13 = .ok (.bipush 20, 2) := by decide +kernel
theorem dX10_clause_15 : decode cX10_clause 15 = .ok (.invokestatic 228, 3) := by decide +kernel
theorem dX10_clause_18 : decode cX10_clause 18 = .ok (.ifCond .ne 10, 3) := by decide +kernel
theorem dX10_clause_21 : decode cX10_clause 21 = .ok (.aload_n 0, 1) := by decide +kernel
theorem dX10_clause_22 : decode cX10_clause 22 = .ok (.iconst 0, 1) := by decide +kernel
theorem dX10_clause_23 : decode cX10_clause 23 = .ok (.iload_n 2, 1) := by decide +kernel
theorem dX10_clause_24 : decode cX10_clause 24 = .ok (.invokevirtual 255, 3) := by decide +kernel
theorem dX10_clause_27 : decode cX10_clause 27 = .ok (.ireturn, 1) := by decide +kernel
theorem dX10_clause_28 : decode cX10_clause 28 = .ok (.iload_n 1, 1) := by decide +kernel
theorem dX10_clause_29 : decode cX10_clause 29 = .ok (.bipush 20, 2) := by decide +kernel
theorem dX10_clause_31 : decode cX10_clause 31 = .ok (.if_icmp .ne 33, 3) := by decide +kernel
theorem dX10_clause_34 : decode cX10_clause 34 = .ok (.aload_n 0, 1) := by decide +kernel
theorem dX10_clause_35 : decode cX10_clause 35 = .ok (.bipush 20, 2) := by decide +kernel
theorem dX10_clause_37 : decode cX10_clause 37 = .ok (.iload_n 2, 1) := by decide +kernel
theorem dX10_clause_38 : decode cX10_clause 38 = .ok (.invokevirtual 309, 3) := by decide +kernel
theorem dX10_clause_41 : decode cX10_clause 41 = .ok (.ifCond .ne 5, 3) := by decide +kernel
theorem dX10_clause_44 : decode cX10_clause 44 = .ok (.iconst 0, 1) := by decide +kernel
theorem dX10_clause_45 : decode cX10_clause 45 = .ok (.ireturn, 1) := by decide +kernel
theorem dX10_clause_46 : decode cX10_clause 46 = .ok (.aload_n 0, 1) := by decide +kernel
theorem dX10_clause_47 : decode cX10_clause 47 = .ok (.dup, 1) := by decide +kernel
theorem dX10_clause_48 : decode cX10_clause 48 = .ok (.getfield 245, 3) := by decide +kernel
theorem dX10_clause_51 : decode cX10_clause 51 = .ok (.aload_n 0, 1) := by decide +kernel
theorem dX10_clause_52 : decode cX10_clause 52 = .ok (.getfield 252, 3) := by decide +kernel
theorem dX10_clause_55 : decode cX10_clause 55 = .ok (.iadd, 1) := by decide +kernel
theorem dX10_clause_56 : decode cX10_clause 56 = .ok (.putfield 245, 3) := by decide +kernel
theorem dX10_clause_59 : decode cX10_clause 59 = .ok (.aload_n 0, 1) := by decide +kernel
theorem dX10_clause_60 : decode cX10_clause 60 = .ok (.invokevirtual 312, 3) := by decide +kernel
theorem dX10_clause_63 : decode cX10_clause 63 = .ok (.ireturn, 1) := by decide +kernel
theorem dX10_clause_64 : decode cX10_clause 64 = .ok (.iload_n 1, 1) := by decide +kernel
theorem dX10_clause_65 : decode cX10_clause 65 = .ok (.bipush 19, 2) := by decide +kernel
theorem dX10_clause_67 : decode cX10_clause 67 = .ok (.if_icmp .ne 101, 3) := by decide +kernel
theorem dX10_clause_70 : decode cX10_clause 70 = .ok (.aload_n 0, 1) := by decide +kernel
theorem dX10_clause_71 : decode cX10_clause 71 = .ok (.dup, 1) := by decide +kernel
theorem dX10_clause_72 : decode cX10_clause 72 = .ok (.getfield 245, 3) := by decide +kernel
theorem dX10_clause_75 : decode cX10_clause 75 = .ok (.aload_n 0, 1) := by decide +kernel
theorem dX10_clause_76 : decode cX10_clause 76 = .ok (.getfield 252, 3) := by decide +kernel
theorem dX10_clause_79 : decode cX10_clause 79 = .ok (.iadd, 1) := by decide +kernel
theorem dX10_clause_80 : decode cX10_clause 80 = .ok (.putfield 245, 3) := by decide +kernel
theorem dX10_clause_83 : decode cX10_clause 83 = .ok (.aload_n 0, 1) := by decide +kernel
theorem dX10_clause_84 : decode cX10_clause 84 = .ok (.invokevirtual 277, 3) := by decide +kernel
theorem dX10_clause_87 : decode cX10_clause 87 = .ok (.bipush 21, 2) := by decide +kernel
theorem dX10_clause_89 : decode cX10_clause 89 = .ok (.isub, 1) := by decide +kernel
theorem dX10_clause_90 : decode cX10_clause 90 = .ok (.istore_n 3, 1) := by decide +kernel
theorem dX10_clause_91 : decode cX10_clause 91 = .ok (.iload_n 3, 1) := by decide +kernel
theorem dX10_clause_92 : decode cX10_clause 92 = .ok (.iconst 0, 1) := by decide +kernel
theorem dX10_clause_93 : decode cX10_clause 93 = .ok (.iconst 3, 1) := by decide +kernel
theorem dX10_clause_94 : decode cX10_clause 94 = .ok (.invokestatic 228, 3) := by decide +kernel
theorem dX10_clause_97 : decode cX10_clause 97 = .ok (.ifCond .ne 13, 3) := by decide +kernel
theorem dX10_clause_100 : decode cX10_clause 100 = .ok (.aload_n 0, 1) := by decide +kernel
theorem dX10_clause_101 : decode cX10_clause 101 = .ok (.iconst 0, 1) := by decide +kernel
theorem dX10_clause_102 : decode cX10_clause 102 = .ok (.aload_n 0, 1) := by decide +kernel
theorem dX10_clause_103 : decode cX10_clause 103 = .ok (.getfield 245, 3) := by decide +kernel
theorem dX10_clause_106 : decode cX10_clause 106 = .ok (.invokevirtual 255, 3) := by decide +kernel
theorem dX10_clause_109 : decode cX10_clause 109 = .ok (.ireturn, 1) := by decide +kernel
theorem dX10_clause_110 : decode cX10_clause 110 = .ok (.aload_n 0, 1) := by decide +kernel
theorem dX10_clause_111 : decode cX10_clause 111 = .ok (.bipush 9, 2) := by decide +kernel
theorem dX10_clause_113 : decode cX10_clause 113 = .ok (.iload_n 3, 1) := by decide +kernel
theorem dX10_clause_114 : decode cX10_clause 114 = .ok (.iadd, 1) := by decide +kernel
theorem dX10_clause_115 : decode cX10_clause 115 = .ok (.aload_n 0, 1) := by decide +kernel
theorem dX10_clause_116 : decode cX10_clause 116 = .ok (.getfield 245, 3) := by decide +kernel
theorem dX10_clause_119 : decode cX10_clause 119 = .ok (.invokevirtual 309, 3) := by decide +kernel
theorem dX10_clause_122 : decode cX10_clause 122 = .ok (.ifCond .ne 5, 3) := by decide +kernel
theorem dX10_clause_125 : decode cX10_clause 125 = .ok (.iconst 0, 1) := by decide +kernel
theorem dX10_clause_126 : decode cX10_clause 126 = .ok (.ireturn, 1) := by decide +kernel
theorem dX10_clause_127 : decode cX10_clause 127 = .ok (.aload_n 0, 1) := by decide +kernel
theorem dX10_clause_128 : decode cX10_clause 128 = .ok (.dup, 1) := by decide +kernel
theorem dX10_clause_129 : decode cX10_clause 129 = .ok (.getfield 245, 3) := by decide +kernel
theorem dX10_clause_132 : decode cX10_clause 132 = .ok (.aload_n 0, 1) := by decide +kernel
theorem dX10_clause_133 : decode cX10_clause 133 = .ok (.getfield 252, 3) := by decide +kernel
theorem dX10_clause_136 : decode cX10_clause 136 = .ok (.iadd, 1) := by decide +kernel
theorem dX10_clause_137 : decode cX10_clause 137 = .ok (.putfield 245, 3) := by decide +kernel
theorem dX10_clause_140 : decode cX10_clause 140 = .ok (.aload_n 0, 1) := by decide +kernel
theorem dX10_clause_141 : decode cX10_clause 141 = .ok (.iconst 0, 1) := by decide +kernel
theorem dX10_clause_142 : decode cX10_clause 142 = .ok (.sipush 999, 3) := by decide +kernel
theorem dX10_clause_145 : decode cX10_clause 145 = .ok (.invokevirtual 287, 3) := by decide +kernel
theorem dX10_clause_148 : decode cX10_clause 148 = .ok (.ifCond .ne 5, 3) := by decide +kernel
theorem dX10_clause_151 : decode cX10_clause 151 = .ok (.iconst 0, 1) := by decide +kernel
theorem dX10_clause_152 : decode cX10_clause 152 = .ok (.ireturn, 1) := by decide +kernel
theorem dX10_clause_153 : decode cX10_clause 153 = .ok (.aload_n 0, 1) := by decide +kernel
theorem dX10_clause_154 : decode cX10_clause 154 = .ok (.getfield 26, 3) := by decide +kernel
theorem dX10_clause_157 : decode cX10_clause 157 = .ok (.bipush 9, 2) := by decide +kernel
theorem dX10_clause_159 : decode cX10_clause 159 = .ok (.iload_n 3, 1) := by decide +kernel
theorem dX10_clause_160 : decode cX10_clause 160 = .ok (.iadd, 1) := by decide +kernel
theorem dX10_clause_161 : decode cX10_clause 161 = .ok (.aload_n 0, 1) := by decide +kernel
theorem dX10_clause_162 : decode cX10_clause 162 = .ok (.getfield 259, 3) := by decide +kernel
theorem dX10_clause_165 : decode cX10_clause 165 = .ok (.iastore, 1) := by decide +kernel
theorem dX10_clause_166 : decode cX10_clause 166 = .ok (.iconst 1, 1) := by decide +kernel
theorem dX10_clause_167 : decode cX10_clause 167 = .ok (.ireturn, 1) := by decide +kernel
theorem dX10_clause_168 : decode cX10_clause 168 = .ok (.iload_n 1, 1) := by decide +kernel
theorem dX10_clause_169 : decode cX10_clause 169 = .ok (.bipush 11, 2) := by decide +kernel
theorem dX10_clause_171 : decode cX10_clause 171 = .ok (.isub, 1) := by decide +kernel
theorem dX10_clause_172 : decode cX10_clause 172 = .ok (.istore_n 3, 1) := by decide +kernel
theorem dX10_clause_173 : decode cX10_clause 173 = .ok (.iload_n 3, 1) := by decide +kernel
theorem dX10_clause_174 : decode cX10_clause 174 = .ok (.iconst 5, 1) := by decide +kernel
theorem dX10_clause_175 : decode cX10_clause 175 = .ok (.if_icmp .le 9, 3) := by decide +kernel
theorem dX10_clause_178 : decode cX10_clause 178 = .ok (.iload_n 3, 1) := by decide +kernel
theorem dX10_clause_179 : decode cX10_clause 179 = .ok (.iconst 1, 1) := by decide +kernel
theorem dX10_clause_180 : decode cX10_clause 180 = .ok (.iadd, 1) := by decide +kernel
theorem dX10_clause_181 : decode cX10_clause 181 = .ok (.goto 4, 3) := by decide +kernel
theorem dX10_clause_184 : decode cX10_clause 184 = .ok (.iload_n 3, 1) := by decide +kernel
theorem dX10_clause_185 : decode cX10_clause 185 = .ok (.istore_n 3, 1) := by decide +kernel
theorem dX10_clause_186 : decode cX10_clause 186 = .ok (.aload_n 0, 1) := by decide +kernel
theorem dX10_clause_187 : decode cX10_clause 187 = .ok (.iload_n 3, 1) := by decide +kernel
theorem dX10_clause_188 : decode cX10_clause 188 = .ok (.iload_n 2, 1) := by decide +kernel
theorem dX10_clause_189 : decode cX10_clause 189 = .ok (.invokevirtual 309, 3) := by decide +kernel
theorem dX10_clause_192 : decode cX10_clause 192 = .ok (.ifCond .ne 5, 3) := by decide +kernel
theorem dX10_clause_195 : decode cX10_clause 195 = .ok (.iconst 0, 1) := by decide +kernel
theorem dX10_clause_196 : decode cX10_clause 196 = .ok (.ireturn, 1) := by decide +kernel
theorem dX10_clause_197 : decode cX10_clause 197 = .ok (.aload_n 0, 1) := by decide +kernel
theorem dX10_clause_198 : decode cX10_clause 198 = .ok (.dup, 1) := by decide +kernel
theorem dX10_clause_199 : decode cX10_clause 199 = .ok (.getfield 245, 3) := by decide +kernel
theorem dX10_clause_202 : decode cX10_clause 202 = .ok (.aload_n 0, 1) := by decide +kernel
theorem dX10_clause_203 : decode cX10_clause 203 = .ok (.getfield 252, 3) := by decide +kernel
theorem dX10_clause_206 : decode cX10_clause 206 = .ok (.iadd, 1) := by decide +kernel
theorem dX10_clause_207 : decode cX10_clause 207 = .ok (.putfield 245, 3) := by decide +kernel
theorem dX10_clause_210 : decode cX10_clause 210 = .ok (.aload_n 0, 1) := by decide +kernel
theorem dX10_clause_211 : decode cX10_clause 211 = .ok (.iload_n 3, 1) := by decide +kernel
theorem dX10_clause_212 : decode cX10_clause 212 = .ok (.invokestatic 315, 3) := by decide +kernel
theorem dX10_clause_215 : decode cX10_clause 215 = .ok (.iload_n 3, 1) := by decide +kernel
theorem dX10_clause_216 : decode cX10_clause 216 = .ok (.invokestatic 318, 3) := by decide +kernel
theorem dX10_clause_219 : decode cX10_clause 219 = .ok (.invokevirtual 287, 3) := by decide +kernel
theorem dX10_clause_222 : decode cX10_clause 222 = .ok (.ifCond .ne 5, 3) := by decide +kernel
theorem dX10_clause_225 : decode cX10_clause 225 = .ok (.iconst 0, 1) := by decide +kernel
theorem dX10_clause_226 : decode cX10_clause 226 = .ok (.ireturn, 1) := by decide +kernel
theorem dX10_clause_227 : decode cX10_clause 227 = .ok (.aload_n 0, 1) := by decide +kernel
theorem dX10_clause_228 : decode cX10_clause 228 = .ok (.getfield 26, 3) := by decide +kernel
theorem dX10_clause_231 : decode cX10_clause 231 = .ok (.iload_n 3, 1) := by decide +kernel
theorem dX10_clause_232 : decode cX10_clause 232 = .ok (.aload_n 0, 1) := by decide +kernel
theorem dX10_clause_233 : decode cX10_clause 233 = .ok (.getfield 259, 3) := by decide +kernel
theorem dX10_clause_236 : decode cX10_clause 236 = .ok (.iastore, 1) := by decide +kernel
theorem dX10_clause_237 : decode cX10_clause 237 = .ok (.iload_n 3, 1) := by decide +kernel
theorem dX10_clause_238 : decode cX10_clause 238 = .ok (.iconst 5, 1) := by decide +kernel
theorem dX10_clause_239 : decode cX10_clause 239 = .ok (.if_icmp .eq 5, 3) := by decide +kernel
theorem dX10_clause_242 : decode cX10_clause 242 = .ok (.iconst 1, 1) := by decide +kernel
theorem dX10_clause_243 : decode cX10_clause 243 = .ok (.ireturn, 1) := by decide +kernel
theorem dX10_clause_244 : decode cX10_clause 244 = .ok (.aload_n 0, 1) := by decide +kernel
theorem dX10_clause_245 : decode cX10_clause 245 = .ok (.iconst 1, 1) := by decide +kernel
theorem dX10_clause_246 : decode cX10_clause 246 = .ok (.bipush 30, 2) := by decide +kernel
theorem dX10_clause_248 : decode cX10_clause 248 = .ok (.invokevirtual 287, 3) := by decide +kernel
theorem dX10_clause_251 : decode cX10_clause 251 = .ok (.ifCond .ne 5, 3) := by decide +kernel
theorem dX10_clause_254 : decode cX10_clause 254 = .ok (.iconst 0, 1) := by decide +kernel
theorem dX10_clause_255 : decode cX10_clause 255 = .ok (.ireturn, 1) := by decide +kernel
theorem dX10_clause_256 : decode cX10_clause 256 = .ok (.aload_n 0, 1) := by decide +kernel
theorem dX10_clause_257 : decode cX10_clause 257 = .ok (.getfield 26, 3) := by decide +kernel
theorem dX10_clause_260 : decode cX10_clause 260 = .ok (.bipush 6, 2) := by decide +kernel
theorem dX10_clause_262 : decode cX10_clause 262 = .ok (.aload_n 0, 1) := by decide +kernel
theorem dX10_clause_263 : decode cX10_clause 263 = .ok (.getfield 259, 3) := by decide +kernel
theorem dX10_clause_266 : decode cX10_clause 266 = .ok (.iastore, 1) := by decide +kernel
theorem dX10_clause_267 : decode cX10_clause 267 = .ok (.iconst 1, 1) := by decide +kernel
theorem dX10_clause_268 : decode cX10_clause 268 = .ok (.ireturn, 1) := by decide +kernel
theorem dX10_act_0 : decode cX10_act 0 = .ok (.aload_n 0, 1) := by decide +kernel
theorem dX10_act_1 : decode cX10_act 1 = .ok (.getfield 321, 3) := by decide +kernel
theorem dX10_act_4 : decode cX10_act 4 = .ok (.bipush 8, 2) := by decide +kernel
theorem dX10_act_6 : decode cX10_act 6 = .ok (.if_icmp .eq 10, 3) := by decide +kernel
theorem dX10_act_9 : decode cX10_act 9 = .ok (.iload_n 1, 1) := by decide +kernel
theorem dX10_act_10 : decode cX10_act 10 = .ok (.invokestatic 324, 3) := by decide +kernel
theorem dX10_act_13 : decode cX10_act 13 = .ok (.ifCond .ne 5, 3) := by decide +kernel
theorem dX10_act_16 : decode cX10_act 16 = .ok (.iconst (-1), 1) := by decide +kernel
theorem dX10_act_17 : decode cX10_act 17 = .ok (.ireturn, 1) := by decide +kernel
theorem dX10_act_18 : decode cX10_act 18 = .ok (.aload_n 0, 1) := by decide +kernel
theorem dX10_act_19 : decode cX10_act 19 = .ok (.iconst 0, 1) := by decide +kernel
theorem dX10_act_20 : decode cX10_act 20 = .ok (.putfield 245, 3) := by decide +kernel
theorem dX10_act_23 : decode cX10_act 23 = .ok (.aload_n 0, 1) := by decide +kernel
theorem dX10_act_24 : decode cX10_act 24 = .ok (.iconst 0, 1) := by decide +kernel
theorem dX10_act_25 : decode cX10_act 25 = .ok (.putfield 242, 3) := by decide +kernel
theorem dX10_act_28 : decode cX10_act 28 = .ok (.aload_n 0, 1) := by decide +kernel
theorem dX10_act_29 : decode cX10_act 29 = .ok (.iconst 0, 1) := by decide +kernel
theorem dX10_act_30 : decode cX10_act 30 = .ok (.putfield 306, 3) := by decide +kernel
theorem dX10_act_33 : decode cX10_act 33 = .ok (.iconst 0, 1) := by decide +kernel
theorem dX10_act_34 : decode cX10_act 34 = .ok (.istore_n 2, 1) := by decide +kernel
theorem dX10_act_35 : decode cX10_act 35 = .ok (.iload_n 2, 1) := by decide +kernel
theorem dX10_act_36 : decode cX10_act 36 = .ok (.bipush 13, 2) := by decide +kernel
theorem dX10_act_38 : decode cX10_act 38 = .ok (.if_icmp .ge 19, 3) := by decide +kernel
theorem dX10_act_41 : decode cX10_act 41 = .ok (.aload_n 0, 1) := by decide +kernel
theorem dX10_act_42 : decode cX10_act 42 = .ok (.getfield 26, 3) := by decide +kernel
theorem dX10_act_45 : decode cX10_act 45 = .ok (.iload_n 2, 1) := by decide +kernel
theorem dX10_act_46 : decode cX10_act 46 = .ok (.iload_n 2, 1) := by decide +kernel
theorem dX10_act_47 : decode cX10_act 47 = .ok (.invokestatic 214, 3) := by decide +kernel
theorem dX10_act_50 : decode cX10_act 50 = .ok (.iastore, 1) := by decide +kernel
theorem dX10_act_51 : decode cX10_act 51 = .ok (.iinc 2 1, 3) := by decide +kernel
theorem dX10_act_54 : decode cX10_act 54 = .ok (.goto (-19), 3) := by decide +kernel
theorem dX10_act_57 : decode cX10_act 57 = .ok (.aload_n 0, 1) := by decide +kernel
theorem dX10_act_58 : decode cX10_act 58 = .ok (.invokevirtual 218, 3) := by decide +kernel
theorem dX10_act_61 : decode cX10_act 61 = .ok (.aload_n 0, 1) := by decide +kernel
theorem dX10_act_62 : decode cX10_act 62 = .ok (.invokevirtual 221, 3) := by decide +kernel
theorem dX10_act_65 : decode cX10_act 65 = .ok (.iconst 1, 1) := by decide +kernel
theorem dX10_act_66 : decode cX10_act 66 = .ok (.istore_n 2, 1) := by decide +kernel
theorem dX10_act_67 : decode cX10_act 67 = .ok (.aload_n 0, 1) := by decide +kernel
theorem dX10_act_68 : decode cX10_act 68 = .ok (.invokevirtual 248, 3) := by decide +kernel
theorem dX10_act_71 : decode cX10_act 71 = .ok (.iconst (-1), 1) := by decide +kernel
theorem dX10_act_72 : decode cX10_act 72 = .ok (.if_icmp .eq 7, 3) := by decide +kernel
theorem dX10_act_75 : decode cX10_act 75 = .ok (.iconst 1, 1) := by decide +kernel
theorem dX10_act_76 : decode cX10_act 76 = .ok (.goto 4, 3) := by decide +kernel
theorem dX10_act_79 : decode cX10_act 79 = .ok (.iconst 0, 1) := by decide +kernel
theorem dX10_act_80 : decode cX10_act 80 = .ok (.istore_n 3, 1) := by decide +kernel
theorem dX10_act_81 : decode cX10_act 81 = .ok (.iload_n 2, 1) := by decide +kernel
theorem dX10_act_82 : decode cX10_act 82 = .ok (.ifCond .eq 96, 3) := by decide +kernel
theorem dX10_act_85 : decode cX10_act 85 = .ok (.iload_n 3, 1) := by decide +kernel
theorem dX10_act_86 : decode cX10_act 86 = .ok (.ifCond .eq 92, 3) := by decide +kernel
theorem dX10_act_89 : decode cX10_act 89 = .ok (.aload_n 0, 1) := by decide +kernel
theorem dX10_act_90 : decode cX10_act 90 = .ok (.invokevirtual 327, 3) := by decide +kernel
theorem dX10_act_93 : decode cX10_act 93 = .ok (.istore_n 2, 1) := by decide +kernel
theorem dX10_act_94 : decode cX10_act 94 = .ok (.iload_n 2, 1) := by decide +kernel
theorem dX10_act_95 : decode cX10_act 95 = .ok (.ifCond .eq 15, 3) := by decide +kernel
theorem dX10_act_98 : decode cX10_act 98 = .ok (.aload_n 0, 1) := by decide +kernel
theorem dX10_act_99 : decode cX10_act 99 = .ok (.invokevirtual 248, 3) := by decide +kernel
theorem dX10_act_102 : decode cX10_act 102 = .ok (.iconst (-1), 1) := by decide +kernel
theorem dX10_act_103 : decode cX10_act 103 = .ok (.if_icmp .eq 7, 3) := by decide +kernel
theorem dX10_act_106 : decode cX10_act 106 = .ok (.iconst 1, 1) := by decide +kernel
theorem dX10_act_107 : decode cX10_act 107 = .ok (.goto 4, 3) := by decide +kernel
theorem dX10_act_110 : decode cX10_act 110 = .ok (.iconst 0, 1) := by decide +kernel
theorem dX10_act_111 : decode cX10_act 111 = .ok (.istore_n 3, 1) := by decide +kernel
theorem dX10_act_112 : decode cX10_act 112 = .ok (.iload_n 3, 1) := by decide +kernel
theorem dX10_act_113 : decode cX10_act 113 = .ok (.ifCond .eq 22, 3) := by decide +kernel
theorem dX10_act_116 : decode cX10_act 116 = .ok (.aload_n 0, 1) := by decide +kernel
theorem dX10_act_117 : decode cX10_act 117 = .ok (.invokevirtual 248, 3) := by decide +kernel
theorem dX10_act_120 : decode cX10_act 120 = .ok (.bipush 59, 2) := by decide +kernel
theorem dX10_act_122 : decode cX10_act 122 = .ok (.if_icmp .eq 13, 3) := by decide +kernel
theorem dX10_act_125 : decode cX10_act 125 = .ok (.aload_n 0, 1) := by decide +kernel
theorem dX10_act_126 : decode cX10_act 126 = .ok (.iconst 0, 1) := by decide +kernel
theorem dX10_act_127 : decode cX10_act 127 = .ok (.aload_n 0, 1) := by decide +kernel
theorem dX10_act_128 : decode cX10_act 128 = .ok (.getfield 245, 3) := by decide +kernel
theorem dX10_act_131 : decode cX10_act 131 = .ok (.invokevirtual 255, 3) := by decide +kernel
theorem dX10_act_134 : decode cX10_act 134 = .ok (.istore_n 2, 1) := by decide +kernel
theorem dX10_act_135 : decode cX10_act 135 = .ok (.iload_n 3, 1) := by decide +kernel
theorem dX10_act_136 : decode cX10_act 136 = .ok (.ifCond .eq 13, 3) := by decide +kernel
theorem dX10_act_139 : decode cX10_act 139 = .ok (.aload_n 0, 1) := by decide +kernel
theorem dX10_act_140 : decode cX10_act 140 = .ok (.dup, 1) := by decide +kernel
theorem dX10_act_141 : decode cX10_act 141 = .ok (.getfield 245, 3) := by decide +kernel
theorem dX10_act_144 : decode cX10_act 144 = .ok (.iconst 1, 1) := by decide +kernel
theorem dX10_act_145 : decode cX10_act 145 = .ok (.iadd, 1) := by decide +kernel
theorem dX10_act_146 : decode cX10_act 146 = .ok (.putfield 245, 3) := by decide +kernel
theorem dX10_act_149 : decode cX10_act 149 = .ok (.iload_n 2, 1) := by decide +kernel
theorem dX10_act_150 : decode cX10_act 150 = .ok (.ifCond .eq (-69), 3) := by decide +kernel
theorem dX10_act_153 : decode cX10_act 153 = .ok (.iload_n 3, 1) := by decide +kernel
theorem dX10_act_154 : decode cX10_act 154 = .ok (.ifCond .eq (-73), 3) := by decide +kernel
theorem dX10_act_157 : decode cX10_act 157 = .ok (.aload_n 0, 1) := by decide +kernel
theorem dX10_act_158 : decode cX10_act 158 = .ok (.invokevirtual 248, 3) := by decide +kernel
theorem dX10_act_161 : decode cX10_act 161 = .ok (.iconst (-1), 1) := by decide +kernel
theorem dX10_act_162 : decode cX10_act 162 = .ok (.if_icmp .ne (-81), 3) := by decide +kernel
theorem dX10_act_165 : decode cX10_act 165 = .ok (.aload_n 0, 1) := by decide +kernel
theorem dX10_act_166 : decode cX10_act 166 = .ok (.iconst 0, 1) := by decide +kernel
theorem dX10_act_167 : decode cX10_act 167 = .ok (.aload_n 0, 1) := by decide +kernel
theorem dX10_act_168 : decode cX10_act 168 = .ok (.getfield 245, 3) := by decide +kernel
theorem dX10_act_171 : decode cX10_act 171 = .ok (.invokevirtual 255, 3) := by decide +kernel
theorem dX10_act_174 : decode cX10_act 174 = .ok (.istore_n 2, 1) := by decide +kernel
theorem dX10_act_175 : decode cX10_act 175 = .ok (.goto (-94), 3) := by decide +kernel
theorem dX10_act_178 : decode cX10_act 178 = .ok (.aload_n 0, 1) := by decide +kernel
theorem dX10_act_179 : decode cX10_act 179 = .ok (.iconst 0, 1) := by decide +kernel
theorem dX10_act_180 : decode cX10_act 180 = .ok (.putfield 236, 3) := by decide +kernel
theorem dX10_act_183 : decode cX10_act 183 = .ok (.iload_n 2, 1) := by decide +kernel
theorem dX10_act_184 : decode cX10_act 184 = .ok (.ifCond .ne 11, 3) := by decide +kernel
theorem dX10_act_187 : decode cX10_act 187 = .ok (.bipush (-2), 2) := by decide +kernel
theorem dX10_act_189 : decode cX10_act 189 = .ok (.aload_n 0, 1) := by decide +kernel
theorem dX10_act_190 : decode cX10_act 190 = .ok (.getfield 242, 3) := by decide +kernel
theorem dX10_act_193 : decode cX10_act 193 = .ok (.isub, 1) := by decide +kernel
theorem dX10_act_194 : decode cX10_act 194 = .ok (.ireturn, 1) := by decide +kernel
theorem dX10_act_195 : decode cX10_act 195 = .ok (.aload_n 0, 1) := by decide +kernel
theorem dX10_act_196 : decode cX10_act 196 = .ok (.dup, 1) := by decide +kernel
theorem dX10_act_197 : decode cX10_act 197 = .ok (.getfield 321, 3) := by decide +kernel
theorem dX10_act_200 : decode cX10_act 200 = .ok (.iconst 1, 1) := by decide +kernel
theorem dX10_act_201 : decode cX10_act 201 = .ok (.iadd, 1) := by decide +kernel
theorem dX10_act_202 : decode cX10_act 202 = .ok (.putfield 321, 3) := by decide +kernel
theorem dX10_act_205 : decode cX10_act 205 = .ok (.aload_n 0, 1) := by decide +kernel
theorem dX10_act_206 : decode cX10_act 206 = .ok (.getfield 7, 3) := by decide +kernel
theorem dX10_act_209 : decode cX10_act 209 = .ok (.aload_n 0, 1) := by decide +kernel
theorem dX10_act_210 : decode cX10_act 210 = .ok (.getfield 321, 3) := by decide +kernel
theorem dX10_act_213 : decode cX10_act 213 = .ok (.iload_n 1, 1) := by decide +kernel
theorem dX10_act_214 : decode cX10_act 214 = .ok (.iastore, 1) := by decide +kernel
theorem dX10_act_215 : decode cX10_act 215 = .ok (.iconst 0, 1) := by decide +kernel
theorem dX10_act_216 : decode cX10_act 216 = .ok (.istore 4, 2) := by decide +kernel
theorem dX10_act_218 : decode cX10_act 218 = .ok (.iload 4, 2) := by decide +kernel
theorem dX10_act_220 : decode cX10_act 220 = .ok (.bipush 13, 2) := by decide +kernel
theorem dX10_act_222 : decode cX10_act 222 = .ok (.if_icmp .ge 31, 3) := by decide +kernel
theorem dX10_act_225 : decode cX10_act 225 = .ok (.aload_n 0, 1) := by decide +kernel
theorem dX10_act_226 : decode cX10_act 226 = .ok (.getfield 13, 3) := by decide +kernel
theorem dX10_act_229 : decode cX10_act 229 = .ok (.bipush 13, 2) := by decide +kernel
theorem dX10_act_231 : decode cX10_act 231 = .ok (.aload_n 0, 1) := by decide +kernel
theorem dX10_act_232 : decode cX10_act 232 = .ok (.getfield 321, 3) := by decide +kernel
theorem dX10_act_235 : decode cX10_act 235 = .ok (.imul, 1) := by decide +kernel
theorem dX10_act_236 : decode cX10_act 236 = .ok (.iload 4, 2) := by decide +kernel
theorem dX10_act_238 : decode cX10_act 238 = .ok (.iadd, 1) := by decide +kernel
theorem dX10_act_239 : decode cX10_act 239 = .ok (.aload_n 0, 1) := by decide +kernel
theorem dX10_act_240 : decode cX10_act 240 = .ok (.getfield 26, 3) := by decide +kernel
theorem dX10_act_243 : decode cX10_act 243 = .ok (.iload 4, 2) := by decide +kernel
theorem dX10_act_245 : decode cX10_act 245 = .ok (.iaload, 1) := by decide +kernel
theorem dX10_act_246 : decode cX10_act 246 = .ok (.iastore, 1) := by decide +kernel
theorem dX10_act_247 : decode cX10_act 247 = .ok (.iinc 4 1, 3) := by decide +kernel
theorem dX10_act_250 : decode cX10_act 250 = .ok (.goto (-32), 3) := by decide +kernel
theorem dX10_act_253 : decode cX10_act 253 = .ok (.aload_n 0, 1) := by decide +kernel
theorem dX10_act_254 : decode cX10_act 254 = .ok (.aload_n 0, 1) := by decide +kernel
theorem dX10_act_255 : decode cX10_act 255 = .ok (.getfield 321, 3) := by decide +kernel
theorem dX10_act_258 : decode cX10_act 258 = .ok (.invokevirtual 224, 3) := by decide +kernel
theorem dX10_act_261 : decode cX10_act 261 = .ok (.aload_n 0, 1) := by decide +kernel
theorem dX10_act_262 : decode cX10_act 262 = .ok (.getfield 321, 3) := by decide +kernel
theorem dX10_act_265 : decode cX10_act 265 = .ok (.iconst 1, 1) := by decide +kernel
theorem dX10_act_266 : decode cX10_act 266 = .ok (.isub, 1) := by decide +kernel
theorem dX10_act_267 : decode cX10_act 267 = .ok (.ireturn, 1) := by decide +kernel
theorem dX10_inForce_0 : decode cX10_inForce 0 = .ok (.iconst 0, 1) := by decide +kernel
theorem dX10_inForce_1 : decode cX10_inForce 1 = .ok (.istore_n 2, 1) := by decide +kernel
theorem dX10_inForce_2 : decode cX10_inForce 2 = .ok (.iconst 1, 1) := by decide +kernel
theorem dX10_inForce_3 : decode cX10_inForce 3 = .ok (.istore_n 3, 1) := by decide +kernel
theorem dX10_inForce_4 : decode cX10_inForce 4 = .ok (.iload_n 3, 1) := by decide +kernel
theorem dX10_inForce_5 : decode cX10_inForce 5 = .ok (.aload_n 0, 1) := by decide +kernel
theorem dX10_inForce_6 : decode cX10_inForce 6 = .ok (.getfield 321, 3) := by decide +kernel
theorem dX10_inForce_9 : decode cX10_inForce 9 = .ok (.if_icmp .gt 40, 3) := by decide +kernel
theorem dX10_inForce_12 : decode cX10_inForce 12 = .ok (.aload_n 0, 1) := by decide +kernel
theorem dX10_inForce_13 : decode cX10_inForce 13 = .ok (.getfield 7, 3) := by decide +kernel
theorem dX10_inForce_16 : decode cX10_inForce 16 = .ok (.iload_n 3, 1) := by decide +kernel
theorem dX10_inForce_17 : decode cX10_inForce 17 = .ok (.iaload, 1) := by decide +kernel
theorem dX10_inForce_18 : decode cX10_inForce 18 = .ok (.iload_n 1, 1) := by decide +kernel
theorem dX10_inForce_19 : decode cX10_inForce 19 = .ok (.if_icmp .gt 24, 3) := by decide +kernel
theorem dX10_inForce_22 : decode cX10_inForce 22 = .ok (.iload_n 2, 1) := by decide +kernel
theorem dX10_inForce_23 : decode cX10_inForce 23 = .ok (.ifCond .eq 18, 3) := by decide +kernel
theorem dX10_inForce_26 : decode cX10_inForce 26 = .ok (.aload_n 0, 1) := by decide +kernel
theorem dX10_inForce_27 : decode cX10_inForce 27 = .ok (.getfield 7, 3) := by decide +kernel
theorem dX10_inForce_30 : decode cX10_inForce 30 = .ok (.iload_n 3, 1) := by decide +kernel
theorem dX10_inForce_31 : decode cX10_inForce 31 = .ok (.iaload, 1) := by decide +kernel
theorem dX10_inForce_32 : decode cX10_inForce 32 = .ok (.aload_n 0, 1) := by decide +kernel
theorem dX10_inForce_33 : decode cX10_inForce 33 = .ok (.getfield 7, 3) := by decide +kernel
theorem dX10_inForce_36 : decode cX10_inForce 36 = .ok (.iload_n 2, 1) := by decide +kernel
theorem dX10_inForce_37 : decode cX10_inForce 37 = .ok (.iaload, 1) := by decide +kernel
theorem dX10_inForce_38 : decode cX10_inForce 38 = .ok (.if_icmp .lt 5, 3) := by decide +kernel
theorem dX10_inForce_41 : decode cX10_inForce 41 = .ok (.iload_n 3, 1) := by decide +kernel
theorem dX10_inForce_42 : decode cX10_inForce 42 = .ok (.istore_n 2, 1) := by decide +kernel
theorem dX10_inForce_43 : decode cX10_inForce 43 = .ok (.iinc 3 1, 3) := by decide +kernel
theorem dX10_inForce_46 : decode cX10_inForce 46 = .ok (.goto (-42), 3) := by decide +kernel
theorem dX10_inForce_49 : decode cX10_inForce 49 = .ok (.iload_n 2, 1) := by decide +kernel
theorem dX10_inForce_50 : decode cX10_inForce 50 = .ok (.ireturn, 1) := by decide +kernel
theorem dX10_ruleOf_0 : decode cX10_ruleOf 0 = .ok (.aload_n 0, 1) := by decide +kernel
theorem dX10_ruleOf_1 : decode cX10_ruleOf 1 = .ok (.getfield 13, 3) := by decide +kernel
theorem dX10_ruleOf_4 : decode cX10_ruleOf 4 = .ok (.bipush 13, 2) := by decide +kernel
theorem dX10_ruleOf_6 : decode cX10_ruleOf 6 = .ok (.iload_n 1, 1) := by decide +kernel
theorem dX10_ruleOf_7 : decode cX10_ruleOf 7 = .ok (.imul, 1) := by decide +kernel
theorem dX10_ruleOf_8 : decode cX10_ruleOf 8 = .ok (.iload_n 2, 1) := by decide +kernel
theorem dX10_ruleOf_9 : decode cX10_ruleOf 9 = .ok (.iadd, 1) := by decide +kernel
theorem dX10_ruleOf_10 : decode cX10_ruleOf 10 = .ok (.iaload, 1) := by decide +kernel
theorem dX10_ruleOf_11 : decode cX10_ruleOf 11 = .ok (.ireturn, 1) := by decide +kernel
theorem dX10_force_0 : decode cX10_force 0 = .ok (.iload_n 1, 1) := by decide +kernel
theorem dX10_force_1 : decode cX10_force 1 = .ok (.invokestatic 324, 3) := by decide +kernel
theorem dX10_force_4 : decode cX10_force 4 = .ok (.ifCond .eq 13, 3) := by decide +kernel
theorem dX10_force_7 : decode cX10_force 7 = .ok (.iload_n 2, 1) := by decide +kernel
theorem dX10_force_8 : decode cX10_force 8 = .ok (.iconst 0, 1) := by decide +kernel
theorem dX10_force_9 : decode cX10_force 9 = .ok (.bipush 13, 2) := by decide +kernel
theorem dX10_force_11 : decode cX10_force 11 = .ok (.invokestatic 228, 3) := by decide +kernel
theorem dX10_force_14 : decode cX10_force 14 = .ok (.ifCond .ne 5, 3) := by decide +kernel
theorem dX10_force_17 : decode cX10_force 17 = .ok (.iconst (-1), 1) := by decide +kernel
theorem dX10_force_18 : decode cX10_force 18 = .ok (.ireturn, 1) := by decide +kernel
theorem dX10_force_19 : decode cX10_force 19 = .ok (.aload_n 0, 1) := by decide +kernel
theorem dX10_force_20 : decode cX10_force 20 = .ok (.iload_n 1, 1) := by decide +kernel
theorem dX10_force_21 : decode cX10_force 21 = .ok (.invokevirtual 330, 3) := by decide +kernel
theorem dX10_force_24 : decode cX10_force 24 = .ok (.istore_n 3, 1) := by decide +kernel
theorem dX10_force_25 : decode cX10_force 25 = .ok (.iload_n 2, 1) := by decide +kernel
theorem dX10_force_26 : decode cX10_force 26 = .ok (.ifCond .ne 9, 3) := by decide +kernel
theorem dX10_force_29 : decode cX10_force 29 = .ok (.iload_n 3, 1) := by decide +kernel
theorem dX10_force_30 : decode cX10_force 30 = .ok (.iconst 1, 1) := by decide +kernel
theorem dX10_force_31 : decode cX10_force 31 = .ok (.isub, 1) := by decide +kernel
theorem dX10_force_32 : decode cX10_force 32 = .ok (.goto 11, 3) := by decide +kernel
theorem dX10_force_35 : decode cX10_force 35 = .ok (.aload_n 0, 1) := by decide +kernel
theorem dX10_force_36 : decode cX10_force 36 = .ok (.iload_n 3, 1) := by decide +kernel
theorem dX10_force_37 : decode cX10_force 37 = .ok (.iload_n 2, 1) := by decide +kernel
theorem dX10_force_38 : decode cX10_force 38 = .ok (.iconst 1, 1) := by decide +kernel
theorem dX10_force_39 : decode cX10_force 39 = .ok (.isub, 1) := by decide +kernel
theorem dX10_force_40 : decode cX10_force 40 = .ok (.invokevirtual 333, 3) := by decide +kernel
theorem dX10_force_43 : decode cX10_force 43 = .ok (.ireturn, 1) := by decide +kernel
theorem dX10_isPerson_0 : decode cX10_isPerson 0 = .ok (.iload_n 1, 1) := by decide +kernel
theorem dX10_isPerson_1 : decode cX10_isPerson 1 = .ok (.iconst 0, 1) := by decide +kernel
theorem dX10_isPerson_2 : decode cX10_isPerson 2 = .ok (.aload_n 0, 1) := by decide +kernel
theorem dX10_isPerson_3 : decode cX10_isPerson 3 = .ok (.getfield 337, 3) := by decide +kernel
theorem dX10_isPerson_6 : decode cX10_isPerson 6 = .ok (.iconst 1, 1) := by decide +kernel
theorem dX10_isPerson_7 : decode cX10_isPerson 7 = .ok (.isub, 1) := by decide +kernel
theorem dX10_isPerson_8 : decode cX10_isPerson 8 = .ok (.invokestatic 228, 3) := by decide +kernel
theorem dX10_isPerson_11 : decode cX10_isPerson 11 = .ok (.ireturn, 1) := by decide +kernel
theorem dX10_areLives_0 : decode cX10_areLives 0 = .ok (.iload_n 0, 1) := by decide +kernel
theorem dX10_areLives_1 : decode cX10_areLives 1 = .ok (.iconst 0, 1) := by decide +kernel
theorem dX10_areLives_2 : decode cX10_areLives 2 = .ok (.sipush 9999, 3) := by decide +kernel
theorem dX10_areLives_5 : decode cX10_areLives 5 = .ok (.invokestatic 228, 3) := by decide +kernel
theorem dX10_areLives_8 : decode cX10_areLives 8 = .ok (.ifCond .eq 37, 3) := by decide +kernel
theorem dX10_areLives_11 : decode cX10_areLives 11 = .ok (.iload_n 1, 1) := by decide +kernel
theorem dX10_areLives_12 : decode cX10_areLives 12 = .ok (.iconst 1, 1) := by decide +kernel
theorem dX10_areLives_13 : decode cX10_areLives 13 = .ok (.bipush 20, 2) := by decide +kernel
theorem dX10_areLives_15 : decode cX10_areLives 15 = .ok (.invokestatic 228, 3) := by decide +kernel
theorem dX10_areLives_18 : decode cX10_areLives 18 = .ok (.ifCond .eq 27, 3) := by decide +kernel
theorem dX10_areLives_21 : decode cX10_areLives 21 = .ok (.iload_n 2, 1) := by decide +kernel
theorem dX10_areLives_22 : decode cX10_areLives 22 = .ok (.iconst 0, 1) := by decide +kernel
theorem dX10_areLives_23 : decode cX10_areLives 23 = .ok (.bipush 99, 2) := by decide +kernel
theorem dX10_areLives_25 : decode cX10_areLives 25 = .ok (.invokestatic 228, 3) := by decide +kernel
theorem dX10_areLives_28 : decode cX10_areLives 28 = .ok (.ifCond .eq 17, 3) := by decide +kernel
theorem dX10_areLives_31 : decode cX10_areLives 31 = .ok (.iload_n 3, 1) := by decide +kernel
theorem dX10_areLives_32 : decode cX10_areLives 32 = .ok (.iconst 0, 1) := by decide +kernel
theorem dX10_areLives_33 : decode cX10_areLives 33 = .ok (.bipush 99, 2) := by decide +kernel
theorem dX10_areLives_35 : decode cX10_areLives 35 = .ok (.invokestatic 228, 3) := by decide +kernel
theorem dX10_areLives_38 : decode cX10_areLives 38 = .ok (.ifCond .eq 7, 3) := by decide +kernel
theorem dX10_areLives_41 : decode cX10_areLives 41 = .ok (.iconst 1, 1) := by decide +kernel
theorem dX10_areLives_42 : decode cX10_areLives 42 = .ok (.goto 4, 3) := by decide +kernel
theorem dX10_areLives_45 : decode cX10_areLives 45 = .ok (.iconst 0, 1) := by decide +kernel
theorem dX10_areLives_46 : decode cX10_areLives 46 = .ok (.ireturn, 1) := by decide +kernel
theorem dX10_person_0 : decode cX10_person 0 = .ok (.aload_n 0, 1) := by decide +kernel
theorem dX10_person_1 : decode cX10_person 1 = .ok (.getfield 337, 3) := by decide +kernel
theorem dX10_person_4 : decode cX10_person 4 = .ok (.bipush 40, 2) := by decide +kernel
theorem dX10_person_6 : decode cX10_person 6 = .ok (.if_icmp .eq 39, 3) := by decide +kernel
theorem dX10_person_9 : decode cX10_person 9 = .ok (.iload_n 1, 1) := by decide +kernel
theorem dX10_person_10 : decode cX10_person 10 = .ok (.sipush (-30000), 3) := by decide +kernel
theorem dX10_person_13 : decode cX10_person 13 = .ok (.sipush 7999, 3) := by decide +kernel
theorem dX10_person_16 : decode cX10_person 16 = .ok (.invokestatic 228, 3) := by decide +kernel
theorem dX10_person_19 : decode cX10_person 19 = .ok (.ifCond .eq 26, 3) := by decide +kernel
theorem dX10_person_22 : decode cX10_person 22 = .ok (.iload_n 2, 1) := by decide +kernel
theorem dX10_person_23 : decode cX10_person 23 = .ok (.iload_n 3, 1) := by decide +kernel
theorem dX10_person_24 : decode cX10_person 24 = .ok (.iload 4, 2) := by decide +kernel
theorem dX10_person_26 : decode cX10_person 26 = .ok (.iload 5, 2) := by decide +kernel
theorem dX10_person_28 : decode cX10_person 28 = .ok (.invokestatic 340, 3) := by decide +kernel
theorem dX10_person_31 : decode cX10_person 31 = .ok (.ifCond .eq 14, 3) := by decide +kernel
theorem dX10_person_34 : decode cX10_person 34 = .ok (.iload 6, 2) := by decide +kernel
theorem dX10_person_36 : decode cX10_person 36 = .ok (.iconst (-1), 1) := by decide +kernel
theorem dX10_person_37 : decode cX10_person 37 = .ok (.bipush 19, 2) := by decide +kernel
theorem dX10_person_39 : decode cX10_person 39 = .ok (.invokestatic 228, 3) := by decide +kernel
theorem dX10_person_42 : decode cX10_person 42 = .ok (.ifCond .ne 5, 3) := by decide +kernel
theorem dX10_person_45 : decode cX10_person 45 = .ok (.iconst (-1), 1) := by decide +kernel
theorem dX10_person_46 : decode cX10_person 46 = .ok (.ireturn, 1) := by decide +kernel
theorem dX10_person_47 : decode cX10_person 47 = .ok (.aload_n 0, 1) := by decide +kernel
theorem dX10_person_48 : decode cX10_person 48 = .ok (.getfield 38, 3) := by decide +kernel
theorem dX10_person_51 : decode cX10_person 51 = .ok (.aload_n 0, 1) := by decide +kernel
theorem dX10_person_52 : decode cX10_person 52 = .ok (.getfield 337, 3) := by decide +kernel
theorem dX10_person_55 : decode cX10_person 55 = .ok (.iload_n 1, 1) := by decide +kernel
theorem dX10_person_56 : decode cX10_person 56 = .ok (.iastore, 1) := by decide +kernel
theorem dX10_person_57 : decode cX10_person 57 = .ok (.aload_n 0, 1) := by decide +kernel
theorem dX10_person_58 : decode cX10_person 58 = .ok (.getfield 53, 3) := by decide +kernel
theorem dX10_person_61 : decode cX10_person 61 = .ok (.aload_n 0, 1) := by decide +kernel
theorem dX10_person_62 : decode cX10_person 62 = .ok (.getfield 337, 3) := by decide +kernel
theorem dX10_person_65 : decode cX10_person 65 = .ok (.iload 6, 2) := by decide +kernel
theorem dX10_person_67 : decode cX10_person 67 = .ok (.iastore, 1) := by decide +kernel
theorem dX10_person_68 : decode cX10_person 68 = .ok (.aload_n 0, 1) := by decide +kernel
theorem dX10_person_69 : decode cX10_person 69 = .ok (.dup, 1) := by decide +kernel
theorem dX10_person_70 : decode cX10_person 70 = .ok (.getfield 337, 3) := by decide +kernel
theorem dX10_person_73 : decode cX10_person 73 = .ok (.iconst 1, 1) := by decide +kernel
theorem dX10_person_74 : decode cX10_person 74 = .ok (.iadd, 1) := by decide +kernel
theorem dX10_person_75 : decode cX10_person 75 = .ok (.putfield 337, 3) := by decide +kernel
theorem dX10_person_78 : decode cX10_person 78 = .ok (.aload_n 0, 1) := by decide +kernel
theorem dX10_person_79 : decode cX10_person 79 = .ok (.aload_n 0, 1) := by decide +kernel
theorem dX10_person_80 : decode cX10_person 80 = .ok (.getfield 337, 3) := by decide +kernel
theorem dX10_person_83 : decode cX10_person 83 = .ok (.iconst 1, 1) := by decide +kernel
theorem dX10_person_84 : decode cX10_person 84 = .ok (.isub, 1) := by decide +kernel
theorem dX10_person_85 : decode cX10_person 85 = .ok (.iload_n 2, 1) := by decide +kernel
theorem dX10_person_86 : decode cX10_person 86 = .ok (.iload_n 3, 1) := by decide +kernel
theorem dX10_person_87 : decode cX10_person 87 = .ok (.iload 4, 2) := by decide +kernel
theorem dX10_person_89 : decode cX10_person 89 = .ok (.iload 5, 2) := by decide +kernel
theorem dX10_person_91 : decode cX10_person 91 = .ok (.invokevirtual 344, 3) := by decide +kernel
theorem dX10_person_94 : decode cX10_person 94 = .ok (.aload_n 0, 1) := by decide +kernel
theorem dX10_person_95 : decode cX10_person 95 = .ok (.getfield 337, 3) := by decide +kernel
theorem dX10_person_98 : decode cX10_person 98 = .ok (.iconst 1, 1) := by decide +kernel
theorem dX10_person_99 : decode cX10_person 99 = .ok (.isub, 1) := by decide +kernel
theorem dX10_person_100 : decode cX10_person 100 = .ok (.ireturn, 1) := by decide +kernel
theorem dX10_lives_0 : decode cX10_lives 0 = .ok (.aload_n 0, 1) := by decide +kernel
theorem dX10_lives_1 : decode cX10_lives 1 = .ok (.getfield 41, 3) := by decide +kernel
theorem dX10_lives_4 : decode cX10_lives 4 = .ok (.iload_n 1, 1) := by decide +kernel
theorem dX10_lives_5 : decode cX10_lives 5 = .ok (.iload_n 2, 1) := by decide +kernel
theorem dX10_lives_6 : decode cX10_lives 6 = .ok (.iastore, 1) := by decide +kernel
theorem dX10_lives_7 : decode cX10_lives 7 = .ok (.aload_n 0, 1) := by decide +kernel
theorem dX10_lives_8 : decode cX10_lives 8 = .ok (.getfield 44, 3) := by decide +kernel
theorem dX10_lives_11 : decode cX10_lives 11 = .ok (.iload_n 1, 1) := by decide +kernel
theorem dX10_lives_12 : decode cX10_lives 12 = .ok (.iload_n 3, 1) := by decide +kernel
theorem dX10_lives_13 : decode cX10_lives 13 = .ok (.iastore, 1) := by decide +kernel
theorem dX10_lives_14 : decode cX10_lives 14 = .ok (.aload_n 0, 1) := by decide +kernel
theorem dX10_lives_15 : decode cX10_lives 15 = .ok (.getfield 47, 3) := by decide +kernel
theorem dX10_lives_18 : decode cX10_lives 18 = .ok (.iload_n 1, 1) := by decide +kernel
theorem dX10_lives_19 : decode cX10_lives 19 = .ok (.iload 4, 2) := by decide +kernel
theorem dX10_lives_21 : decode cX10_lives 21 = .ok (.iastore, 1) := by decide +kernel
theorem dX10_lives_22 : decode cX10_lives 22 = .ok (.aload_n 0, 1) := by decide +kernel
theorem dX10_lives_23 : decode cX10_lives 23 = .ok (.getfield 50, 3) := by decide +kernel
theorem dX10_lives_26 : decode cX10_lives 26 = .ok (.iload_n 1, 1) := by decide +kernel
theorem dX10_lives_27 : decode cX10_lives 27 = .ok (.iload 5, 2) := by decide +kernel
theorem dX10_lives_29 : decode cX10_lives 29 = .ok (.iastore, 1) := by decide +kernel
theorem dX10_lives_30 : decode cX10_lives 30 = .ok (.return_, 1) := by decide +kernel
theorem dX10_anew_0 : decode cX10_anew 0 = .ok (.aload_n 0, 1) := by decide +kernel
theorem dX10_anew_1 : decode cX10_anew 1 = .ok (.iload_n 1, 1) := by decide +kernel
theorem dX10_anew_2 : decode cX10_anew 2 = .ok (.invokevirtual 348, 3) := by decide +kernel
theorem dX10_anew_5 : decode cX10_anew 5 = .ok (.ifCond .eq 24, 3) := by decide +kernel
theorem dX10_anew_8 : decode cX10_anew 8 = .ok (.aload_n 0, 1) := by decide +kernel
theorem dX10_anew_9 : decode cX10_anew 9 = .ok (.getfield 56, 3) := by decide +kernel
theorem dX10_anew_12 : decode cX10_anew 12 = .ok (.iload_n 1, 1) := by decide +kernel
theorem dX10_anew_13 : decode cX10_anew 13 = .ok (.baload, 1) := by decide +kernel
theorem dX10_anew_14 : decode cX10_anew 14 = .ok (.ifCond .ne 15, 3) := by decide +kernel
theorem dX10_anew_17 : decode cX10_anew 17 = .ok (.iload_n 2, 1) := by decide +kernel
theorem dX10_anew_18 : decode cX10_anew 18 = .ok (.iload_n 3, 1) := by decide +kernel
theorem dX10_anew_19 : decode cX10_anew 19 = .ok (.iload 4, 2) := by decide +kernel
theorem dX10_anew_21 : decode cX10_anew 21 = .ok (.iload 5, 2) := by decide +kernel
theorem dX10_anew_23 : decode cX10_anew 23 = .ok (.invokestatic 340, 3) := by decide +kernel
theorem dX10_anew_26 : decode cX10_anew 26 = .ok (.ifCond .ne 5, 3) := by decide +kernel
theorem dX10_anew_29 : decode cX10_anew 29 = .ok (.iconst 0, 1) := by decide +kernel
theorem dX10_anew_30 : decode cX10_anew 30 = .ok (.ireturn, 1) := by decide +kernel
theorem dX10_anew_31 : decode cX10_anew 31 = .ok (.aload_n 0, 1) := by decide +kernel
theorem dX10_anew_32 : decode cX10_anew 32 = .ok (.iload_n 1, 1) := by decide +kernel
theorem dX10_anew_33 : decode cX10_anew 33 = .ok (.iload_n 2, 1) := by decide +kernel
theorem dX10_anew_34 : decode cX10_anew 34 = .ok (.iload_n 3, 1) := by decide +kernel
theorem dX10_anew_35 : decode cX10_anew 35 = .ok (.iload 4, 2) := by decide +kernel
theorem dX10_anew_37 : decode cX10_anew 37 = .ok (.iload 5, 2) := by decide +kernel
theorem dX10_anew_39 : decode cX10_anew 39 = .ok (.invokevirtual 344, 3) := by decide +kernel
theorem dX10_anew_42 : decode cX10_anew 42 = .ok (.iconst 1, 1) := by decide +kernel
theorem dX10_anew_43 : decode cX10_anew 43 = .ok (.ireturn, 1) := by decide +kernel
theorem dX10_dies_0 : decode cX10_dies 0 = .ok (.aload_n 0, 1) := by decide +kernel
theorem dX10_dies_1 : decode cX10_dies 1 = .ok (.iload_n 1, 1) := by decide +kernel
theorem dX10_dies_2 : decode cX10_dies 2 = .ok (.invokevirtual 348, 3) := by decide +kernel
theorem dX10_dies_5 : decode cX10_dies 5 = .ok (.ifCond .eq 12, 3) := by decide +kernel
theorem dX10_dies_8 : decode cX10_dies 8 = .ok (.aload_n 0, 1) := by decide +kernel
theorem dX10_dies_9 : decode cX10_dies 9 = .ok (.getfield 56, 3) := by decide +kernel
theorem dX10_dies_12 : decode cX10_dies 12 = .ok (.iload_n 1, 1) := by decide +kernel
theorem dX10_dies_13 : decode cX10_dies 13 = .ok (.baload, 1) := by decide +kernel
theorem dX10_dies_14 : decode cX10_dies 14 = .ok (.ifCond .eq 5, 3) := by decide +kernel
theorem dX10_dies_17 : decode cX10_dies 17 = .ok (.iconst 0, 1) := by decide +kernel
theorem dX10_dies_18 : decode cX10_dies 18 = .ok (.ireturn, 1) := by decide +kernel
theorem dX10_dies_19 : decode cX10_dies 19 = .ok (.aload_n 0, 1) := by decide +kernel
theorem dX10_dies_20 : decode cX10_dies 20 = .ok (.getfield 56, 3) := by decide +kernel
theorem dX10_dies_23 : decode cX10_dies 23 = .ok (.iload_n 1, 1) := by decide +kernel
theorem dX10_dies_24 : decode cX10_dies 24 = .ok (.iconst 1, 1) := by decide +kernel
theorem dX10_dies_25 : decode cX10_dies 25 = .ok (.bastore, 1) := by decide +kernel
theorem dX10_dies_26 : decode cX10_dies 26 = .ok (.iconst 1, 1) := by decide +kernel
theorem dX10_dies_27 : decode cX10_dies 27 = .ok (.ireturn, 1) := by decide +kernel
theorem dX10_judge_0 : decode cX10_judge 0 = .ok (.aload_n 0, 1) := by decide +kernel
theorem dX10_judge_1 : decode cX10_judge 1 = .ok (.iload_n 1, 1) := by decide +kernel
theorem dX10_judge_2 : decode cX10_judge 2 = .ok (.invokevirtual 348, 3) := by decide +kernel
theorem dX10_judge_5 : decode cX10_judge 5 = .ok (.ifCond .eq 13, 3) := by decide +kernel
theorem dX10_judge_8 : decode cX10_judge 8 = .ok (.aload_n 0, 1) := by decide +kernel
theorem dX10_judge_9 : decode cX10_judge 9 = .ok (.getfield 60, 3) := by decide +kernel
theorem dX10_judge_12 : decode cX10_judge 12 = .ok (.iload_n 1, 1) := by decide +kernel
theorem dX10_judge_13 : decode cX10_judge 13 = .ok (.baload, 1) := by decide +kernel
theorem dX10_judge_14 : decode cX10_judge 14 = .ok (.iload_n 2, 1) := by decide +kernel
theorem dX10_judge_15 : decode cX10_judge 15 = .ok (.if_icmp .ne 5, 3) := by decide +kernel
theorem dX10_judge_18 : decode cX10_judge 18 = .ok (.iconst 0, 1) := by decide +kernel
theorem dX10_judge_19 : decode cX10_judge 19 = .ok (.ireturn, 1) := by decide +kernel
theorem dX10_judge_20 : decode cX10_judge 20 = .ok (.aload_n 0, 1) := by decide +kernel
theorem dX10_judge_21 : decode cX10_judge 21 = .ok (.getfield 60, 3) := by decide +kernel
theorem dX10_judge_24 : decode cX10_judge 24 = .ok (.iload_n 1, 1) := by decide +kernel
theorem dX10_judge_25 : decode cX10_judge 25 = .ok (.iload_n 2, 1) := by decide +kernel
theorem dX10_judge_26 : decode cX10_judge 26 = .ok (.bastore, 1) := by decide +kernel
theorem dX10_judge_27 : decode cX10_judge 27 = .ok (.iconst 1, 1) := by decide +kernel
theorem dX10_judge_28 : decode cX10_judge 28 = .ok (.ireturn, 1) := by decide +kernel
theorem dX10_line_0 : decode cX10_line 0 = .ok (.aload_n 0, 1) := by decide +kernel
theorem dX10_line_1 : decode cX10_line 1 = .ok (.getfield 351, 3) := by decide +kernel
theorem dX10_line_4 : decode cX10_line 4 = .ok (.sipush 400, 3) := by decide +kernel
theorem dX10_line_7 : decode cX10_line 7 = .ok (.if_icmp .eq 58, 3) := by decide +kernel
theorem dX10_line_10 : decode cX10_line 10 = .ok (.aload_n 0, 1) := by decide +kernel
theorem dX10_line_11 : decode cX10_line 11 = .ok (.iload_n 1, 1) := by decide +kernel
theorem dX10_line_12 : decode cX10_line 12 = .ok (.invokevirtual 348, 3) := by decide +kernel
theorem dX10_line_15 : decode cX10_line 15 = .ok (.ifCond .eq 50, 3) := by decide +kernel
theorem dX10_line_18 : decode cX10_line 18 = .ok (.aload_n 0, 1) := by decide +kernel
theorem dX10_line_19 : decode cX10_line 19 = .ok (.iload_n 2, 1) := by decide +kernel
theorem dX10_line_20 : decode cX10_line 20 = .ok (.invokevirtual 348, 3) := by decide +kernel
theorem dX10_line_23 : decode cX10_line 23 = .ok (.ifCond .eq 42, 3) := by decide +kernel
theorem dX10_line_26 : decode cX10_line 26 = .ok (.iload_n 1, 1) := by decide +kernel
theorem dX10_line_27 : decode cX10_line 27 = .ok (.iload_n 2, 1) := by decide +kernel
theorem dX10_line_28 : decode cX10_line 28 = .ok (.if_icmp .eq 37, 3) := by decide +kernel
theorem dX10_line_31 : decode cX10_line 31 = .ok (.iload_n 3, 1) := by decide +kernel
theorem dX10_line_32 : decode cX10_line 32 = .ok (.iconst 0, 1) := by decide +kernel
theorem dX10_line_33 : decode cX10_line 33 = .ok (.aload_n 0, 1) := by decide +kernel
theorem dX10_line_34 : decode cX10_line 34 = .ok (.getfield 232, 3) := by decide +kernel
theorem dX10_line_37 : decode cX10_line 37 = .ok (.invokestatic 228, 3) := by decide +kernel
theorem dX10_line_40 : decode cX10_line 40 = .ok (.ifCond .eq 25, 3) := by decide +kernel
theorem dX10_line_43 : decode cX10_line 43 = .ok (.iload 4, 2) := by decide +kernel
theorem dX10_line_45 : decode cX10_line 45 = .ok (.iconst 0, 1) := by decide +kernel
theorem dX10_line_46 : decode cX10_line 46 = .ok (.iconst 3, 1) := by decide +kernel
theorem dX10_line_47 : decode cX10_line 47 = .ok (.invokestatic 228, 3) := by decide +kernel
theorem dX10_line_50 : decode cX10_line 50 = .ok (.ifCond .eq 15, 3) := by decide +kernel
theorem dX10_line_53 : decode cX10_line 53 = .ok (.iload 5, 2) := by decide +kernel
theorem dX10_line_55 : decode cX10_line 55 = .ok (.iconst 1, 1) := by decide +kernel
theorem dX10_line_56 : decode cX10_line 56 = .ok (.sipush 9999, 3) := by decide +kernel
theorem dX10_line_59 : decode cX10_line 59 = .ok (.invokestatic 228, 3) := by decide +kernel
theorem dX10_line_62 : decode cX10_line 62 = .ok (.ifCond .ne 5, 3) := by decide +kernel
theorem dX10_line_65 : decode cX10_line 65 = .ok (.iconst (-1), 1) := by decide +kernel
theorem dX10_line_66 : decode cX10_line 66 = .ok (.ireturn, 1) := by decide +kernel
theorem dX10_line_67 : decode cX10_line 67 = .ok (.aload_n 0, 1) := by decide +kernel
theorem dX10_line_68 : decode cX10_line 68 = .ok (.getfield 63, 3) := by decide +kernel
theorem dX10_line_71 : decode cX10_line 71 = .ok (.aload_n 0, 1) := by decide +kernel
theorem dX10_line_72 : decode cX10_line 72 = .ok (.getfield 351, 3) := by decide +kernel
theorem dX10_line_75 : decode cX10_line 75 = .ok (.iload_n 1, 1) := by decide +kernel
theorem dX10_line_76 : decode cX10_line 76 = .ok (.iastore, 1) := by decide +kernel
theorem dX10_line_77 : decode cX10_line 77 = .ok (.aload_n 0, 1) := by decide +kernel
theorem dX10_line_78 : decode cX10_line 78 = .ok (.getfield 66, 3) := by decide +kernel
theorem dX10_line_81 : decode cX10_line 81 = .ok (.aload_n 0, 1) := by decide +kernel
theorem dX10_line_82 : decode cX10_line 82 = .ok (.getfield 351, 3) := by decide +kernel
theorem dX10_line_85 : decode cX10_line 85 = .ok (.iload_n 2, 1) := by decide +kernel
theorem dX10_line_86 : decode cX10_line 86 = .ok (.iastore, 1) := by decide +kernel
theorem dX10_line_87 : decode cX10_line 87 = .ok (.aload_n 0, 1) := by decide +kernel
theorem dX10_line_88 : decode cX10_line 88 = .ok (.getfield 69, 3) := by decide +kernel
theorem dX10_line_91 : decode cX10_line 91 = .ok (.aload_n 0, 1) := by decide +kernel
theorem dX10_line_92 : decode cX10_line 92 = .ok (.getfield 351, 3) := by decide +kernel
theorem dX10_line_95 : decode cX10_line 95 = .ok (.iload_n 3, 1) := by decide +kernel
theorem dX10_line_96 : decode cX10_line 96 = .ok (.iastore, 1) := by decide +kernel
theorem dX10_line_97 : decode cX10_line 97 = .ok (.aload_n 0, 1) := by decide +kernel
theorem dX10_line_98 : decode cX10_line 98 = .ok (.getfield 72, 3) := by decide +kernel
theorem dX10_line_101 : decode cX10_line 101 = .ok (.aload_n 0, 1) := by decide +kernel
theorem dX10_line_102 : decode cX10_line 102 = .ok (.getfield 351, 3) := by decide +kernel
theorem dX10_line_105 : decode cX10_line 105 = .ok (.iload 4, 2) := by decide +kernel
theorem dX10_line_107 : decode cX10_line 107 = .ok (.iastore, 1) := by decide +kernel
theorem dX10_line_108 : decode cX10_line 108 = .ok (.aload_n 0, 1) := by decide +kernel
theorem dX10_line_109 : decode cX10_line 109 = .ok (.getfield 75, 3) := by decide +kernel
theorem dX10_line_112 : decode cX10_line 112 = .ok (.aload_n 0, 1) := by decide +kernel
theorem dX10_line_113 : decode cX10_line 113 = .ok (.getfield 351, 3) := by decide +kernel
theorem dX10_line_116 : decode cX10_line 116 = .ok (.iload 5, 2) := by decide +kernel
theorem dX10_line_118 : decode cX10_line 118 = .ok (.iastore, 1) := by decide +kernel
theorem dX10_line_119 : decode cX10_line 119 = .ok (.aload_n 0, 1) := by decide +kernel
theorem dX10_line_120 : decode cX10_line 120 = .ok (.dup, 1) := by decide +kernel
theorem dX10_line_121 : decode cX10_line 121 = .ok (.getfield 351, 3) := by decide +kernel
theorem dX10_line_124 : decode cX10_line 124 = .ok (.iconst 1, 1) := by decide +kernel
theorem dX10_line_125 : decode cX10_line 125 = .ok (.iadd, 1) := by decide +kernel
theorem dX10_line_126 : decode cX10_line 126 = .ok (.putfield 351, 3) := by decide +kernel
theorem dX10_line_129 : decode cX10_line 129 = .ok (.aload_n 0, 1) := by decide +kernel
theorem dX10_line_130 : decode cX10_line 130 = .ok (.getfield 351, 3) := by decide +kernel
theorem dX10_line_133 : decode cX10_line 133 = .ok (.ireturn, 1) := by decide +kernel
theorem dX10_bookSum_0 : decode cX10_bookSum 0 = .ok (.iconst 0, 1) := by decide +kernel
theorem dX10_bookSum_1 : decode cX10_bookSum 1 = .ok (.istore 4, 2) := by decide +kernel
theorem dX10_bookSum_3 : decode cX10_bookSum 3 = .ok (.iconst 0, 1) := by decide +kernel
theorem dX10_bookSum_4 : decode cX10_bookSum 4 = .ok (.istore 5, 2) := by decide +kernel
theorem dX10_bookSum_6 : decode cX10_bookSum 6 = .ok (.iload 5, 2) := by decide +kernel
theorem dX10_bookSum_8 : decode cX10_bookSum 8 = .ok (.aload_n 0, 1) := by decide +kernel
theorem dX10_bookSum_9 : decode cX10_bookSum 9 = .ok (.getfield 351, 3) := by decide +kernel
theorem dX10_bookSum_12 : decode cX10_bookSum 12 = .ok (.if_icmp .ge 86, 3) := by decide +kernel
theorem dX10_bookSum_15 : decode cX10_bookSum 15 = .ok (.aload_n 0, 1) := by decide +kernel
theorem dX10_bookSum_16 : decode cX10_bookSum 16 = .ok (.getfield 63, 3) := by decide +kernel
theorem dX10_bookSum_19 : decode cX10_bookSum 19 = .ok (.iload 5, 2) := by decide +kernel
theorem dX10_bookSum_21 : decode cX10_bookSum 21 = .ok (.iaload, 1) := by decide +kernel
theorem dX10_bookSum_22 : decode cX10_bookSum 22 = .ok (.iload_n 1, 1) := by decide +kernel
theorem dX10_bookSum_23 : decode cX10_bookSum 23 = .ok (.if_icmp .ne 69, 3) := by decide +kernel
theorem dX10_bookSum_26 : decode cX10_bookSum 26 = .ok (.aload_n 0, 1) := by decide +kernel
theorem dX10_bookSum_27 : decode cX10_bookSum 27 = .ok (.getfield 66, 3) := by decide +kernel
theorem dX10_bookSum_30 : decode cX10_bookSum 30 = .ok (.iload 5, 2) := by decide +kernel
theorem dX10_bookSum_32 : decode cX10_bookSum 32 = .ok (.iaload, 1) := by decide +kernel
theorem dX10_bookSum_33 : decode cX10_bookSum 33 = .ok (.iload_n 2, 1) := by decide +kernel
theorem dX10_bookSum_34 : decode cX10_bookSum 34 = .ok (.if_icmp .ne 58, 3) := by decide +kernel
theorem dX10_bookSum_37 : decode cX10_bookSum 37 = .ok (.aload_n 0, 1) := by decide +kernel
theorem dX10_bookSum_38 : decode cX10_bookSum 38 = .ok (.getfield 69, 3) := by decide +kernel
theorem dX10_bookSum_41 : decode cX10_bookSum 41 = .ok (.iload 5, 2) := by decide +kernel
theorem dX10_bookSum_43 : decode cX10_bookSum 43 = .ok (.iaload, 1) := by decide +kernel
