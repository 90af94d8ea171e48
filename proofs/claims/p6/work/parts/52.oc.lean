theorem dL_law_168 : decode cL_law 168 = .ok (.aload_n 1, 1) := by decide +kernel
theorem dL_law_169 : decode cL_law 169 = .ok (.aload_n 0, 1) := by decide +kernel
theorem dL_law_170 : decode cL_law 170 = .ok (.iload 4, 2) := by decide +kernel
theorem dL_law_172 : decode cL_law 172 = .ok (.iconst 1, 1) := by decide +kernel
theorem dL_law_173 : decode cL_law 173 = .ok (.iadd, 1) := by decide +kernel
theorem dL_law_174 : decode cL_law 174 = .ok (.iaload, 1) := by decide +kernel
theorem dL_law_175 : decode cL_law 175 = .ok (.aload_n 0, 1) := by decide +kernel
theorem dL_law_176 : decode cL_law 176 = .ok (.iload 4, 2) := by decide +kernel
theorem dL_law_178 : decode cL_law 178 = .ok (.iconst 2, 1) := by decide +kernel
theorem dL_law_179 : decode cL_law 179 = .ok (.iadd, 1) := by decide +kernel
theorem dL_law_180 : decode cL_law 180 = .ok (.iaload, 1) := by decide +kernel
theorem dL_law_181 : decode cL_law 181 = .ok (.aload_n 0, 1) := by decide +kernel
theorem dL_law_182 : decode cL_law 182 = .ok (.iload 4, 2) := by decide +kernel
theorem dL_law_184 : decode cL_law 184 = .ok (.iconst 3, 1) := by decide +kernel
theorem dL_law_185 : decode cL_law 185 = .ok (.iadd, 1) := by decide +kernel
theorem dL_law_186 : decode cL_law 186 = .ok (.iaload, 1) := by decide +kernel
theorem dL_law_187 : decode cL_law 187 = .ok (.aload_n 0, 1) := by decide +kernel
theorem dL_law_188 : decode cL_law 188 = .ok (.iload 4, 2) := by decide +kernel
theorem dL_law_190 : decode cL_law 190 = .ok (.iconst 4, 1) := by decide +kernel
theorem dL_law_191 : decode cL_law 191 = .ok (.iadd, 1) := by decide +kernel
theorem dL_law_192 : decode cL_law 192 = .ok (.iaload, 1) := by decide +kernel
theorem dL_law_193 : decode cL_law 193 = .ok (.aload_n 0, 1) := by decide +kernel
theorem dL_law_194 : decode cL_law 194 = .ok (.iload 4, 2) := by decide +kernel
theorem dL_law_196 : decode cL_law 196 = .ok (.iconst 5, 1) := by decide +kernel
theorem dL_law_197 : decode cL_law 197 = .ok (.iadd, 1) := by decide +kernel
theorem dL_law_198 : decode cL_law 198 = .ok (.iaload, 1) := by decide +kernel
theorem dL_law_202 : decode cL_law 202 = .ok (.pop, 1) := by decide +kernel
theorem dL_law_203 : decode cL_law 203 = .ok (.aload_n 2, 1) := by decide +kernel
theorem dL_law_204 : decode cL_law 204 = .ok (.aload_n 0, 1) := by decide +kernel
theorem dL_law_205 : decode cL_law 205 = .ok (.iload 4, 2) := by decide +kernel
theorem dL_law_207 : decode cL_law 207 = .ok (.iconst 1, 1) := by decide +kernel
theorem dL_law_208 : decode cL_law 208 = .ok (.iadd, 1) := by decide +kernel
theorem dL_law_209 : decode cL_law 209 = .ok (.iaload, 1) := by decide +kernel
theorem dL_law_210 : decode cL_law 210 = .ok (.aload_n 0, 1) := by decide +kernel
theorem dL_law_211 : decode cL_law 211 = .ok (.iload 4, 2) := by decide +kernel
theorem dL_law_213 : decode cL_law 213 = .ok (.iconst 2, 1) := by decide +kernel
theorem dL_law_214 : decode cL_law 214 = .ok (.iadd, 1) := by decide +kernel
theorem dL_law_215 : decode cL_law 215 = .ok (.iaload, 1) := by decide +kernel
theorem dL_law_216 : decode cL_law 216 = .ok (.aload_n 0, 1) := by decide +kernel
theorem dL_law_217 : decode cL_law 217 = .ok (.iload 4, 2) := by decide +kernel
theorem dL_law_219 : decode cL_law 219 = .ok (.iconst 3, 1) := by decide +kernel
theorem dL_law_220 : decode cL_law 220 = .ok (.iadd, 1) := by decide +kernel
theorem dL_law_221 : decode cL_law 221 = .ok (.iaload, 1) := by decide +kernel
theorem dL_law_222 : decode cL_law 222 = .ok (.aload_n 0, 1) := by decide +kernel
theorem dL_law_223 : decode cL_law 223 = .ok (.iload 4, 2) := by decide +kernel
theorem dL_law_225 : decode cL_law 225 = .ok (.iconst 4, 1) := by decide +kernel
theorem dL_law_226 : decode cL_law 226 = .ok (.iadd, 1) := by decide +kernel
theorem dL_law_227 : decode cL_law 227 = .ok (.iaload, 1) := by decide +kernel
theorem dL_law_228 : decode cL_law 228 = .ok (.aload_n 0, 1) := by decide +kernel
theorem dL_law_229 : decode cL_law 229 = .ok (.iload 4, 2) := by decide +kernel
theorem dL_law_231 : decode cL_law 231 = .ok (.iconst 5, 1) := by decide +kernel
theorem dL_law_232 : decode cL_law 232 = .ok (.iadd, 1) := by decide +kernel
theorem dL_law_233 : decode cL_law 233 = .ok (.iaload, 1) := by decide +kernel
theorem dL_law_237 : decode cL_law 237 = .ok (.pop, 1) := by decide +kernel
theorem dL_law_238 : decode cL_law 238 = .ok (.goto 1045, 3) := by decide +kernel
theorem dL_law_241 : decode cL_law 241 = .ok (.aload_n 1, 1) := by decide +kernel
theorem dL_law_242 : decode cL_law 242 = .ok (.aload_n 0, 1) := by decide +kernel
theorem dL_law_243 : decode cL_law 243 = .ok (.iload 4, 2) := by decide +kernel
theorem dL_law_245 : decode cL_law 245 = .ok (.iconst 1, 1) := by decide +kernel
theorem dL_law_246 : decode cL_law 246 = .ok (.iadd, 1) := by decide +kernel
theorem dL_law_247 : decode cL_law 247 = .ok (.iaload, 1) := by decide +kernel
theorem dL_law_251 : decode cL_law 251 = .ok (.pop, 1) := by decide +kernel
theorem dL_law_252 : decode cL_law 252 = .ok (.aload_n 2, 1) := by decide +kernel
theorem dL_law_253 : decode cL_law 253 = .ok (.aload_n 0, 1) := by decide +kernel
theorem dL_law_254 : decode cL_law 254 = .ok (.iload 4, 2) := by decide +kernel
theorem dL_law_256 : decode cL_law 256 = .ok (.iconst 1, 1) := by decide +kernel
theorem dL_law_257 : decode cL_law 257 = .ok (.iadd, 1) := by decide +kernel
theorem dL_law_258 : decode cL_law 258 = .ok (.iaload, 1) := by decide +kernel
theorem dL_law_262 : decode cL_law 262 = .ok (.pop, 1) := by decide +kernel
theorem dL_law_263 : decode cL_law 263 = .ok (.goto 1020, 3) := by decide +kernel
theorem dL_law_266 : decode cL_law 266 = .ok (.aload_n 1, 1) := by decide +kernel
theorem dL_law_267 : decode cL_law 267 = .ok (.aload_n 0, 1) := by decide +kernel
theorem dL_law_268 : decode cL_law 268 = .ok (.iload 4, 2) := by decide +kernel
theorem dL_law_270 : decode cL_law 270 = .ok (.iconst 1, 1) := by decide +kernel
theorem dL_law_271 : decode cL_law 271 = .ok (.iadd, 1) := by decide +kernel
theorem dL_law_272 : decode cL_law 272 = .ok (.iaload, 1) := by decide +kernel
theorem dL_law_273 : decode cL_law 273 = .ok (.aload_n 0, 1) := by decide +kernel
theorem dL_law_274 : decode cL_law 274 = .ok (.iload 4, 2) := by decide +kernel
theorem dL_law_276 : decode cL_law 276 = .ok (.iconst 2, 1) := by decide +kernel
theorem dL_law_277 : decode cL_law 277 = .ok (.iadd, 1) := by decide +kernel
theorem dL_law_278 : decode cL_law 278 = .ok (.iaload, 1) := by decide +kernel
theorem dL_law_279 : decode cL_law 279 = .ok (.aload_n 0, 1) := by decide +kernel
theorem dL_law_280 : decode cL_law 280 = .ok (.iload 4, 2) := by decide +kernel
theorem dL_law_282 : decode cL_law 282 = .ok (.iconst 3, 1) := by decide +kernel
theorem dL_law_283 : decode cL_law 283 = .ok (.iadd, 1) := by decide +kernel
theorem dL_law_284 : decode cL_law 284 = .ok (.iaload, 1) := by decide +kernel
theorem dL_law_288 : decode cL_law 288 = .ok (.pop, 1) := by decide +kernel
theorem dL_law_289 : decode cL_law 289 = .ok (.aload_n 2, 1) := by decide +kernel
theorem dL_law_290 : decode cL_law 290 = .ok (.aload_n 0, 1) := by decide +kernel
theorem dL_law_291 : decode cL_law 291 = .ok (.iload 4, 2) := by decide +kernel
theorem dL_law_293 : decode cL_law 293 = .ok (.iconst 1, 1) := by decide +kernel
theorem dL_law_294 : decode cL_law 294 = .ok (.iadd, 1) := by decide +kernel
theorem dL_law_295 : decode cL_law 295 = .ok (.iaload, 1) := by decide +kernel
theorem dL_law_296 : decode cL_law 296 = .ok (.aload_n 0, 1) := by decide +kernel
theorem dL_law_297 : decode cL_law 297 = .ok (.iload 4, 2) := by decide +kernel
theorem dL_law_299 : decode cL_law 299 = .ok (.iconst 2, 1) := by decide +kernel
theorem dL_law_300 : decode cL_law 300 = .ok (.iadd, 1) := by decide +kernel
theorem dL_law_301 : decode cL_law 301 = .ok (.iaload, 1) := by decide +kernel
theorem dL_law_302 : decode cL_law 302 = .ok (.aload_n 0, 1) := by decide +kernel
theorem dL_law_303 : decode cL_law 303 = .ok (.iload 4, 2) := by decide +kernel
theorem dL_law_305 : decode cL_law 305 = .ok (.iconst 3, 1) := by decide +kernel
theorem dL_law_306 : decode cL_law 306 = .ok (.iadd, 1) := by decide +kernel
theorem dL_law_307 : decode cL_law 307 = .ok (.iaload, 1) := by decide +kernel
theorem dL_law_311 : decode cL_law 311 = .ok (.pop, 1) := by decide +kernel
theorem dL_law_312 : decode cL_law 312 = .ok (.goto 971, 3) := by decide +kernel
theorem dL_law_315 : decode cL_law 315 = .ok (.aload_n 1, 1) := by decide +kernel
theorem dL_law_316 : decode cL_law 316 = .ok (.aload_n 0, 1) := by decide +kernel
theorem dL_law_317 : decode cL_law 317 = .ok (.iload 4, 2) := by decide +kernel
theorem dL_law_319 : decode cL_law 319 = .ok (.iconst 1, 1) := by decide +kernel
theorem dL_law_320 : decode cL_law 320 = .ok (.iadd, 1) := by decide +kernel
theorem dL_law_321 : decode cL_law 321 = .ok (.iaload, 1) := by decide +kernel
theorem dL_law_322 : decode cL_law 322 = .ok (.aload_n 0, 1) := by decide +kernel
theorem dL_law_323 : decode cL_law 323 = .ok (.iload 4, 2) := by decide +kernel
theorem dL_law_325 : decode cL_law 325 = .ok (.iconst 2, 1) := by decide +kernel
theorem dL_law_326 : decode cL_law 326 = .ok (.iadd, 1) := by decide +kernel
theorem dL_law_327 : decode cL_law 327 = .ok (.iaload, 1) := by decide +kernel
theorem dL_law_331 : decode cL_law 331 = .ok (.pop, 1) := by decide +kernel
theorem dL_law_332 : decode cL_law 332 = .ok (.aload_n 2, 1) := by decide +kernel
theorem dL_law_333 : decode cL_law 333 = .ok (.aload_n 0, 1) := by decide +kernel
theorem dL_law_334 : decode cL_law 334 = .ok (.iload 4, 2) := by decide +kernel
theorem dL_law_336 : decode cL_law 336 = .ok (.iconst 1, 1) := by decide +kernel
theorem dL_law_337 : decode cL_law 337 = .ok (.iadd, 1) := by decide +kernel
theorem dL_law_338 : decode cL_law 338 = .ok (.iaload, 1) := by decide +kernel
theorem dL_law_339 : decode cL_law 339 = .ok (.aload_n 0, 1) := by decide +kernel
theorem dL_law_340 : decode cL_law 340 = .ok (.iload 4, 2) := by decide +kernel
theorem dL_law_342 : decode cL_law 342 = .ok (.iconst 2, 1) := by decide +kernel
theorem dL_law_343 : decode cL_law 343 = .ok (.iadd, 1) := by decide +kernel
theorem dL_law_344 : decode cL_law 344 = .ok (.iaload, 1) := by decide +kernel
theorem dL_law_348 : decode cL_law 348 = .ok (.pop, 1) := by decide +kernel
theorem dL_law_349 : decode cL_law 349 = .ok (.goto 934, 3) := by decide +kernel
theorem dL_law_352 : decode cL_law 352 = .ok (.aload_n 1, 1) := by decide +kernel
theorem dL_law_353 : decode cL_law 353 = .ok (.aload_n 0, 1) := by decide +kernel
theorem dL_law_354 : decode cL_law 354 = .ok (.iload 4, 2) := by decide +kernel
theorem dL_law_356 : decode cL_law 356 = .ok (.iconst 1, 1) := by decide +kernel
theorem dL_law_357 : decode cL_law 357 = .ok (.iadd, 1) := by decide +kernel
theorem dL_law_358 : decode cL_law 358 = .ok (.iaload, 1) := by decide +kernel
theorem dL_law_359 : decode cL_law 359 = .ok (.aload_n 0, 1) := by decide +kernel
theorem dL_law_360 : decode cL_law 360 = .ok (.iload 4, 2) := by decide +kernel
theorem dL_law_362 : decode cL_law 362 = .ok (.iconst 2, 1) := by decide +kernel
theorem dL_law_363 : decode cL_law 363 = .ok (.iadd, 1) := by decide +kernel
theorem dL_law_364 : decode cL_law 364 = .ok (.iaload, 1) := by decide +kernel
theorem dL_law_368 : decode cL_law 368 = .ok (.aload_n 2, 1) := by decide +kernel
theorem dL_law_369 : decode cL_law 369 = .ok (.aload_n 0, 1) := by decide +kernel
theorem dL_law_370 : decode cL_law 370 = .ok (.iload 4, 2) := by decide +kernel
theorem dL_law_372 : decode cL_law 372 = .ok (.iconst 1, 1) := by decide +kernel
theorem dL_law_373 : decode cL_law 373 = .ok (.iadd, 1) := by decide +kernel
theorem dL_law_374 : decode cL_law 374 = .ok (.iaload, 1) := by decide +kernel
theorem dL_law_375 : decode cL_law 375 = .ok (.aload_n 0, 1) := by decide +kernel
theorem dL_law_376 : decode cL_law 376 = .ok (.iload 4, 2) := by decide +kernel
theorem dL_law_378 : decode cL_law 378 = .ok (.iconst 2, 1) := by decide +kernel
theorem dL_law_379 : decode cL_law 379 = .ok (.iadd, 1) := by decide +kernel
theorem dL_law_380 : decode cL_law 380 = .ok (.iaload, 1) := by decide +kernel
theorem dL_law_384 : decode cL_law 384 = .ok (.if_icmp .eq 899, 3) := by decide +kernel
theorem dL_law_389 : decode cL_law 389 = .ok (.aload_n 1, 1) := by decide +kernel
theorem dL_law_390 : decode cL_law 390 = .ok (.aload_n 0, 1) := by decide +kernel
theorem dL_law_391 : decode cL_law 391 = .ok (.iload 4, 2) := by decide +kernel
theorem dL_law_393 : decode cL_law 393 = .ok (.iconst 1, 1) := by decide +kernel
theorem dL_law_394 : decode cL_law 394 = .ok (.iadd, 1) := by decide +kernel
theorem dL_law_395 : decode cL_law 395 = .ok (.iaload, 1) := by decide +kernel
theorem dL_law_396 : decode cL_law 396 = .ok (.aload_n 0, 1) := by decide +kernel
theorem dL_law_397 : decode cL_law 397 = .ok (.iload 4, 2) := by decide +kernel
theorem dL_law_399 : decode cL_law 399 = .ok (.iconst 2, 1) := by decide +kernel
theorem dL_law_400 : decode cL_law 400 = .ok (.iadd, 1) := by decide +kernel
theorem dL_law_401 : decode cL_law 401 = .ok (.iaload, 1) := by decide +kernel
theorem dL_law_405 : decode cL_law 405 = .ok (.pop, 1) := by decide +kernel
theorem dL_law_406 : decode cL_law 406 = .ok (.aload_n 2, 1) := by decide +kernel
theorem dL_law_407 : decode cL_law 407 = .ok (.aload_n 0, 1) := by decide +kernel
theorem dL_law_408 : decode cL_law 408 = .ok (.iload 4, 2) := by decide +kernel
theorem dL_law_410 : decode cL_law 410 = .ok (.iconst 1, 1) := by decide +kernel
theorem dL_law_411 : decode cL_law 411 = .ok (.iadd, 1) := by decide +kernel
theorem dL_law_412 : decode cL_law 412 = .ok (.iaload, 1) := by decide +kernel
theorem dL_law_413 : decode cL_law 413 = .ok (.aload_n 0, 1) := by decide +kernel
theorem dL_law_414 : decode cL_law 414 = .ok (.iload 4, 2) := by decide +kernel
theorem dL_law_416 : decode cL_law 416 = .ok (.iconst 2, 1) := by decide +kernel
theorem dL_law_417 : decode cL_law 417 = .ok (.iadd, 1) := by decide +kernel
theorem dL_law_418 : decode cL_law 418 = .ok (.iaload, 1) := by decide +kernel
theorem dL_law_422 : decode cL_law 422 = .ok (.pop, 1) := by decide +kernel
theorem dL_law_423 : decode cL_law 423 = .ok (.goto 860, 3) := by decide +kernel
theorem dL_law_426 : decode cL_law 426 = .ok (.aload_n 1, 1) := by decide +kernel
theorem dL_law_427 : decode cL_law 427 = .ok (.aload_n 0, 1) := by decide +kernel
theorem dL_law_428 : decode cL_law 428 = .ok (.iload 4, 2) := by decide +kernel
theorem dL_law_430 : decode cL_law 430 = .ok (.iconst 1, 1) := by decide +kernel
theorem dL_law_431 : decode cL_law 431 = .ok (.iadd, 1) := by decide +kernel
theorem dL_law_432 : decode cL_law 432 = .ok (.iaload, 1) := by decide +kernel
theorem dL_law_433 : decode cL_law 433 = .ok (.aload_n 0, 1) := by decide +kernel
theorem dL_law_434 : decode cL_law 434 = .ok (.iload 4, 2) := by decide +kernel
theorem dL_law_436 : decode cL_law 436 = .ok (.iconst 2, 1) := by decide +kernel
theorem dL_law_437 : decode cL_law 437 = .ok (.iadd, 1) := by decide +kernel
theorem dL_law_438 : decode cL_law 438 = .ok (.iaload, 1) := by decide +kernel
theorem dL_law_442 : decode cL_law 442 = .ok (.pop, 1) := by decide +kernel
theorem dL_law_443 : decode cL_law 443 = .ok (.aload_n 2, 1) := by decide +kernel
theorem dL_law_444 : decode cL_law 444 = .ok (.aload_n 0, 1) := by decide +kernel
theorem dL_law_445 : decode cL_law 445 = .ok (.iload 4, 2) := by decide +kernel
theorem dL_law_447 : decode cL_law 447 = .ok (.iconst 1, 1) := by decide +kernel
theorem dL_law_448 : decode cL_law 448 = .ok (.iadd, 1) := by decide +kernel
theorem dL_law_449 : decode cL_law 449 = .ok (.iaload, 1) := by decide +kernel
theorem dL_law_450 : decode cL_law 450 = .ok (.aload_n 0, 1) := by decide +kernel
theorem dL_law_451 : decode cL_law 451 = .ok (.iload 4, 2) := by decide +kernel
theorem dL_law_453 : decode cL_law 453 = .ok (.iconst 2, 1) := by decide +kernel
theorem dL_law_454 : decode cL_law 454 = .ok (.iadd, 1) := by decide +kernel
theorem dL_law_455 : decode cL_law 455 = .ok (.iaload, 1) := by decide +kernel
theorem dL_law_459 : decode cL_law 459 = .ok (.pop, 1) := by decide +kernel
theorem dL_law_460 : decode cL_law 460 = .ok (.goto 823, 3) := by decide +kernel
theorem dL_law_463 : decode cL_law 463 = .ok (.aload_n 1, 1) := by decide +kernel
theorem dL_law_464 : decode cL_law 464 = .ok (.aload_n 0, 1) := by decide +kernel
theorem dL_law_465 : decode cL_law 465 = .ok (.iload 4, 2) := by decide +kernel
theorem dL_law_467 : decode cL_law 467 = .ok (.iconst 1, 1) := by decide +kernel
theorem dL_law_468 : decode cL_law 468 = .ok (.iadd, 1) := by decide +kernel
theorem dL_law_469 : decode cL_law 469 = .ok (.iaload, 1) := by decide +kernel
theorem dL_law_470 : decode cL_law 470 = .ok (.aload_n 0, 1) := by decide +kernel
theorem dL_law_471 : decode cL_law 471 = .ok (.iload 4, 2) := by decide +kernel
theorem dL_law_473 : decode cL_law 473 = .ok (.iconst 2, 1) := by decide +kernel
theorem dL_law_474 : decode cL_law 474 = .ok (.iadd, 1) := by decide +kernel
theorem dL_law_475 : decode cL_law 475 = .ok (.iaload, 1) := by decide +kernel
theorem dL_law_479 : decode cL_law 479 = .ok (.pop, 1) := by decide +kernel
theorem dL_law_480 : decode cL_law 480 = .ok (.aload_n 2, 1) := by decide +kernel
theorem dL_law_481 : decode cL_law 481 = .ok (.aload_n 0, 1) := by decide +kernel
theorem dL_law_482 : decode cL_law 482 = .ok (.iload 4, 2) := by decide +kernel
theorem dL_law_484 : decode cL_law 484 = .ok (.iconst 1, 1) := by decide +kernel
theorem dL_law_485 : decode cL_law 485 = .ok (.iadd, 1) := by decide +kernel
theorem dL_law_486 : decode cL_law 486 = .ok (.iaload, 1) := by decide +kernel
theorem dL_law_487 : decode cL_law 487 = .ok (.aload_n 0, 1) := by decide +kernel
theorem dL_law_488 : decode cL_law 488 = .ok (.iload 4, 2) := by decide +kernel
theorem dL_law_490 : decode cL_law 490 = .ok (.iconst 2, 1) := by decide +kernel
theorem dL_law_491 : decode cL_law 491 = .ok (.iadd, 1) := by decide +kernel
theorem dL_law_492 : decode cL_law 492 = .ok (.iaload, 1) := by decide +kernel
theorem dL_law_496 : decode cL_law 496 = .ok (.pop, 1) := by decide +kernel
theorem dL_law_497 : decode cL_law 497 = .ok (.goto 786, 3) := by decide +kernel
theorem dL_law_500 : decode cL_law 500 = .ok (.aload_n 1, 1) := by decide +kernel
theorem dL_law_501 : decode cL_law 501 = .ok (.aload_n 0, 1) := by decide +kernel
theorem dL_law_502 : decode cL_law 502 = .ok (.iload 4, 2) := by decide +kernel
theorem dL_law_504 : decode cL_law 504 = .ok (.iconst 1, 1) := by decide +kernel
theorem dL_law_505 : decode cL_law 505 = .ok (.iadd, 1) := by decide +kernel
theorem dL_law_506 : decode cL_law 506 = .ok (.iaload, 1) := by decide +kernel
theorem dL_law_507 : decode cL_law 507 = .ok (.aload_n 0, 1) := by decide +kernel
theorem dL_law_508 : decode cL_law 508 = .ok (.iload 4, 2) := by decide +kernel
theorem dL_law_510 : decode cL_law 510 = .ok (.iconst 2, 1) := by decide +kernel
theorem dL_law_511 : decode cL_law 511 = .ok (.iadd, 1) := by decide +kernel
theorem dL_law_512 : decode cL_law 512 = .ok (.iaload, 1) := by decide +kernel
theorem dL_law_516 : decode cL_law 516 = .ok (.pop, 1) := by decide +kernel
theorem dL_law_517 : decode cL_law 517 = .ok (.aload_n 2, 1) := by decide +kernel
theorem dL_law_518 : decode cL_law 518 = .ok (.aload_n 0, 1) := by decide +kernel
theorem dL_law_519 : decode cL_law 519 = .ok (.iload 4, 2) := by decide +kernel
theorem dL_law_521 : decode cL_law 521 = .ok (.iconst 1, 1) := by decide +kernel
theorem dL_law_522 : decode cL_law 522 = .ok (.iadd, 1) := by decide +kernel
theorem dL_law_523 : decode cL_law 523 = .ok (.iaload, 1) := by decide +kernel
theorem dL_law_524 : decode cL_law 524 = .ok (.aload_n 0, 1) := by decide +kernel
theorem dL_law_525 : decode cL_law 525 = .ok (.iload 4, 2) := by decide +kernel
theorem dL_law_527 : decode cL_law 527 = .ok (.iconst 2, 1) := by decide +kernel
theorem dL_law_528 : decode cL_law 528 = .ok (.iadd, 1) := by decide +kernel
theorem dL_law_529 : decode cL_law 529 = .ok (.iaload, 1) := by decide +kernel
theorem dL_law_533 : decode cL_law 533 = .ok (.pop, 1) := by decide +kernel
theorem dL_law_534 : decode cL_law 534 = .ok (.goto 749, 3) := by decide +kernel
theorem dL_law_537 : decode cL_law 537 = .ok (.aload_n 1, 1) := by decide +kernel
theorem dL_law_538 : decode cL_law 538 = .ok (.aload_n 0, 1) := by decide +kernel
theorem dL_law_539 : decode cL_law 539 = .ok (.iload 4, 2) := by decide +kernel
theorem dL_law_541 : decode cL_law 541 = .ok (.iconst 1, 1) := by decide +kernel
theorem dL_law_542 : decode cL_law 542 = .ok (.iadd, 1) := by decide +kernel
theorem dL_law_543 : decode cL_law 543 = .ok (.iaload, 1) := by decide +kernel
theorem dL_law_544 : decode cL_law 544 = .ok (.aload_n 0, 1) := by decide +kernel
theorem dL_law_545 : decode cL_law 545 = .ok (.iload 4, 2) := by decide +kernel
theorem dL_law_547 : decode cL_law 547 = .ok (.iconst 2, 1) := by decide +kernel
theorem dL_law_548 : decode cL_law 548 = .ok (.iadd, 1) := by decide +kernel
theorem dL_law_549 : decode cL_law 549 = .ok (.iaload, 1) := by decide +kernel
theorem dL_law_553 : decode cL_law 553 = .ok (.pop, 1) := by decide +kernel
theorem dL_law_554 : decode cL_law 554 = .ok (.aload_n 2, 1) := by decide +kernel
theorem dL_law_555 : decode cL_law 555 = .ok (.aload_n 0, 1) := by decide +kernel
theorem dL_law_556 : decode cL_law 556 = .ok (.iload 4, 2) := by decide +kernel
theorem dL_law_558 : decode cL_law 558 = .ok (.iconst 1, 1) := by decide +kernel
theorem dL_law_559 : decode cL_law 559 = .ok (.iadd, 1) := by decide +kernel
theorem dL_law_560 : decode cL_law 560 = .ok (.iaload, 1) := by decide +kernel
theorem dL_law_561 : decode cL_law 561 = .ok (.aload_n 0, 1) := by decide +kernel
theorem dL_law_562 : decode cL_law 562 = .ok (.iload 4, 2) := by decide +kernel
theorem dL_law_564 : decode cL_law 564 = .ok (.iconst 2, 1) := by decide +kernel
theorem dL_law_565 : decode cL_law 565 = .ok (.iadd, 1) := by decide +kernel
theorem dL_law_566 : decode cL_law 566 = .ok (.iaload, 1) := by decide +kernel
theorem dL_law_570 : decode cL_law 570 = .ok (.pop, 1) := by decide +kernel
theorem dL_law_571 : decode cL_law 571 = .ok (.goto 712, 3) := by decide +kernel
theorem dL_law_574 : decode cL_law 574 = .ok (.aload_n 1, 1) := by decide +kernel
theorem dL_law_575 : decode cL_law 575 = .ok (.aload_n 0, 1) := by decide +kernel
theorem dL_law_576 : decode cL_law 576 = .ok (.iload 4, 2) := by decide +kernel
theorem dL_law_578 : decode cL_law 578 = .ok (.iconst 1, 1) := by decide +kernel
theorem dL_law_579 : decode cL_law 579 = .ok (.iadd, 1) := by decide +kernel
theorem dL_law_580 : decode cL_law 580 = .ok (.iaload, 1) := by decide +kernel
theorem dL_law_581 : decode cL_law 581 = .ok (.aload_n 0, 1) := by decide +kernel
theorem dL_law_582 : decode cL_law 582 = .ok (.iload 4, 2) := by decide +kernel
theorem dL_law_584 : decode cL_law 584 = .ok (.iconst 2, 1) := by decide +kernel
theorem dL_law_585 : decode cL_law 585 = .ok (.iadd, 1) := by decide +kernel
theorem dL_law_586 : decode cL_law 586 = .ok (.iaload, 1) := by decide +kernel
theorem dL_law_590 : decode cL_law 590 = .ok (.pop, 1) := by decide +kernel
theorem dL_law_591 : decode cL_law 591 = .ok (.aload_n 2, 1) := by decide +kernel
theorem dL_law_592 : decode cL_law 592 = .ok (.aload_n 0, 1) := by decide +kernel
theorem dL_law_593 : decode cL_law 593 = .ok (.iload 4, 2) := by decide +kernel
theorem dL_law_595 : decode cL_law 595 = .ok (.iconst 1, 1) := by decide +kernel
theorem dL_law_596 : decode cL_law 596 = .ok (.iadd, 1) := by decide +kernel
theorem dL_law_597 : decode cL_law 597 = .ok (.iaload, 1) := by decide +kernel
theorem dL_law_598 : decode cL_law 598 = .ok (.aload_n 0, 1) := by decide +kernel
theorem dL_law_599 : decode cL_law 599 = .ok (.iload 4, 2) := by decide +kernel
theorem dL_law_601 : decode cL_law 601 = .ok (.iconst 2, 1) := by decide +kernel
theorem dL_law_602 : decode cL_law 602 = .ok (.iadd, 1) := by decide +kernel
theorem dL_law_603 : decode cL_law 603 = .ok (.iaload, 1) := by decide +kernel
theorem dL_law_607 : decode cL_law 607 = .ok (.pop, 1) := by decide +kernel
theorem dL_law_608 : decode cL_law 608 = .ok (.goto 675, 3) := by decide +kernel
theorem dL_law_611 : decode cL_law 611 = .ok (.aload_n 1, 1) := by decide +kernel
theorem dL_law_612 : decode cL_law 612 = .ok (.aload_n 0, 1) := by decide +kernel
theorem dL_law_613 : decode cL_law 613 = .ok (.iload 4, 2) := by decide +kernel
theorem dL_law_615 : decode cL_law 615 = .ok (.iconst 1, 1) := by decide +kernel
theorem dL_law_616 : decode cL_law 616 = .ok (.iadd, 1) := by decide +kernel
theorem dL_law_617 : decode cL_law 617 = .ok (.iaload, 1) := by decide +kernel
theorem dL_law_618 : decode cL_law 618 = .ok (.aload_n 0, 1) := by decide +kernel
theorem dL_law_619 : decode cL_law 619 = .ok (.iload 4, 2) := by decide +kernel
theorem dL_law_621 : decode cL_law 621 = .ok (.iconst 2, 1) := by decide +kernel
theorem dL_law_622 : decode cL_law 622 = .ok (.iadd, 1) := by decide +kernel
theorem dL_law_623 : decode cL_law 623 = .ok (.iaload, 1) := by decide +kernel
theorem dL_law_627 : decode cL_law 627 = .ok (.pop, 1) := by decide +kernel
theorem dL_law_628 : decode cL_law 628 = .ok (.aload_n 2, 1) := by decide +kernel
theorem dL_law_629 : decode cL_law 629 = .ok (.aload_n 0, 1) := by decide +kernel
theorem dL_law_630 : decode cL_law 630 = .ok (.iload 4, 2) := by decide +kernel
theorem dL_law_632 : decode cL_law 632 = .ok (.iconst 1, 1) := by decide +kernel
theorem dL_law_633 : decode cL_law 633 = .ok (.iadd, 1) := by decide +kernel
theorem dL_law_634 : decode cL_law 634 = .ok (.iaload, 1) := by decide +kernel
theorem dL_law_635 : decode cL_law 635 = .ok (.aload_n 0, 1) := by decide +kernel
theorem dL_law_636 : decode cL_law 636 = .ok (.iload 4, 2) := by decide +kernel
theorem dL_law_638 : decode cL_law 638 = .ok (.iconst 2, 1) := by decide +kernel
theorem dL_law_639 : decode cL_law 639 = .ok (.iadd, 1) := by decide +kernel
theorem dL_law_640 : decode cL_law 640 = .ok (.iaload, 1) := by decide +kernel
theorem dL_law_644 : decode cL_law 644 = .ok (.pop, 1) := by decide +kernel
theorem dL_law_645 : decode cL_law 645 = .ok (.goto 638, 3) := by decide +kernel
theorem dL_law_648 : decode cL_law 648 = .ok (.aload_n 1, 1) := by decide +kernel
theorem dL_law_649 : decode cL_law 649 = .ok (.aload_n 0, 1) := by decide +kernel
theorem dL_law_650 : decode cL_law 650 = .ok (.iload 4, 2) := by decide +kernel
theorem dL_law_652 : decode cL_law 652 = .ok (.iconst 1, 1) := by decide +kernel
theorem dL_law_653 : decode cL_law 653 = .ok (.iadd, 1) := by decide +kernel
theorem dL_law_654 : decode cL_law 654 = .ok (.iaload, 1) := by decide +kernel
theorem dL_law_655 : decode cL_law 655 = .ok (.aload_n 0, 1) := by decide +kernel
theorem dL_law_656 : decode cL_law 656 = .ok (.iload 4, 2) := by decide +kernel
theorem dL_law_658 : decode cL_law 658 = .ok (.iconst 2, 1) := by decide +kernel
theorem dL_law_659 : decode cL_law 659 = .ok (.iadd, 1) := by decide +kernel
theorem dL_law_660 : decode cL_law 660 = .ok (.iaload, 1) := by decide +kernel
theorem dL_law_664 : decode cL_law 664 = .ok (.pop, 1) := by decide +kernel
theorem dL_law_665 : decode cL_law 665 = .ok (.aload_n 2, 1) := by decide +kernel
theorem dL_law_666 : decode cL_law 666 = .ok (.aload_n 0, 1) := by decide +kernel
theorem dL_law_667 : decode cL_law 667 = .ok (.iload 4, 2) := by decide +kernel
theorem dL_law_669 : decode cL_law 669 = .ok (.iconst 1, 1) := by decide +kernel
theorem dL_law_670 : decode cL_law 670 = .ok (.iadd, 1) := by decide +kernel
theorem dL_law_671 : decode cL_law 671 = .ok (.iaload, 1) := by decide +kernel
theorem dL_law_672 : decode cL_law 672 = .ok (.aload_n 0, 1) := by decide +kernel
theorem dL_law_673 : decode cL_law 673 = .ok (.iload 4, 2) := by decide +kernel
theorem dL_law_675 : decode cL_law 675 = .ok (.iconst 2, 1) := by decide +kernel
theorem dL_law_676 : decode cL_law 676 = .ok (.iadd, 1) := by decide +kernel
theorem dL_law_677 : decode cL_law 677 = .ok (.iaload, 1) := by decide +kernel
theorem dL_law_681 : decode cL_law 681 = .ok (.pop, 1) := by decide +kernel
theorem dL_law_682 : decode cL_law 682 = .ok (.goto 601, 3) := by decide +kernel
theorem dL_law_685 : decode cL_law 685 = .ok (.aload_n 1, 1) := by decide +kernel
theorem dL_law_686 : decode cL_law 686 = .ok (.aload_n 0, 1) := by decide +kernel
theorem dL_law_687 : decode cL_law 687 = .ok (.iload 4, 2) := by decide +kernel
theorem dL_law_689 : decode cL_law 689 = .ok (.iconst 1, 1) := by decide +kernel
theorem dL_law_690 : decode cL_law 690 = .ok (.iadd, 1) := by decide +kernel
theorem dL_law_691 : decode cL_law 691 = .ok (.iaload, 1) := by decide +kernel
theorem dL_law_692 : decode cL_law 692 = .ok (.aload_n 0, 1) := by decide +kernel
theorem dL_law_693 : decode cL_law 693 = .ok (.iload 4, 2) := by decide +kernel
theorem dL_law_695 : decode cL_law 695 = .ok (.iconst 2, 1) := by decide +kernel
theorem dL_law_696 : decode cL_law 696 = .ok (.iadd, 1) := by decide +kernel
theorem dL_law_697 : decode cL_law 697 = .ok (.iaload, 1) := by decide +kernel
theorem dL_law_701 : decode cL_law 701 = .ok (.pop, 1) := by decide +kernel
theorem dL_law_702 : decode cL_law 702 = .ok (.aload_n 2, 1) := by decide +kernel
theorem dL_law_703 : decode cL_law 703 = .ok (.aload_n 0, 1) := by decide +kernel
theorem dL_law_704 : decode cL_law 704 = .ok (.iload 4, 2) := by decide +kernel
theorem dL_law_706 : decode cL_law 706 = .ok (.iconst 1, 1) := by decide +kernel
theorem dL_law_707 : decode cL_law 707 = .ok (.iadd, 1) := by decide +kernel
theorem dL_law_708 : decode cL_law 708 = .ok (.iaload, 1) := by decide +kernel
theorem dL_law_709 : decode cL_law 709 = .ok (.aload_n 0, 1) := by decide +kernel
theorem dL_law_710 : decode cL_law 710 = .ok (.iload 4, 2) := by decide +kernel
theorem dL_law_712 : decode cL_law 712 = .ok (.iconst 2, 1) := by decide +kernel
theorem dL_law_713 : decode cL_law 713 = .ok (.iadd, 1) := by decide +kernel
theorem dL_law_714 : decode cL_law 714 = .ok (.iaload, 1) := by decide +kernel
theorem dL_law_718 : decode cL_law 718 = .ok (.pop, 1) := by decide +kernel
theorem dL_law_719 : decode cL_law 719 = .ok (.goto 564, 3) := by decide +kernel
theorem dL_law_722 : decode cL_law 722 = .ok (.aload_n 1, 1) := by decide +kernel
theorem dL_law_723 : decode cL_law 723 = .ok (.aload_n 0, 1) := by decide +kernel
theorem dL_law_724 : decode cL_law 724 = .ok (.iload 4, 2) := by decide +kernel
theorem dL_law_726 : decode cL_law 726 = .ok (.iconst 1, 1) := by decide +kernel
theorem dL_law_727 : decode cL_law 727 = .ok (.iadd, 1) := by decide +kernel
theorem dL_law_728 : decode cL_law 728 = .ok (.iaload, 1) := by decide +kernel
theorem dL_law_729 : decode cL_law 729 = .ok (.aload_n 0, 1) := by decide +kernel
theorem dL_law_730 : decode cL_law 730 = .ok (.iload 4, 2) := by decide +kernel
theorem dL_law_732 : decode cL_law 732 = .ok (.iconst 2, 1) := by decide +kernel
theorem dL_law_733 : decode cL_law 733 = .ok (.iadd, 1) := by decide +kernel
theorem dL_law_734 : decode cL_law 734 = .ok (.iaload, 1) := by decide +kernel
theorem dL_law_735 : decode cL_law 735 = .ok (.aload_n 0, 1) := by decide +kernel
theorem dL_law_736 : decode cL_law 736 = .ok (.iload 4, 2) := by decide +kernel
theorem dL_law_738 : decode cL_law 738 = .ok (.iconst 3, 1) := by decide +kernel
theorem dL_law_739 : decode cL_law 739 = .ok (.iadd, 1) := by decide +kernel
theorem dL_law_740 : decode cL_law 740 = .ok (.iaload, 1) := by decide +kernel
theorem dL_law_741 : decode cL_law 741 = .ok (.aload_n 3, 1) := by decide +kernel
theorem dL_law_745 : decode cL_law 745 = .ok (.istore 5, 2) := by decide +kernel
theorem dL_law_747 : decode cL_law 747 = .ok (.aload_n 2, 1) := by decide +kernel
theorem dL_law_748 : decode cL_law 748 = .ok (.aload_n 0, 1) := by decide +kernel
theorem dL_law_749 : decode cL_law 749 = .ok (.iload 4, 2) := by decide +kernel
theorem dL_law_751 : decode cL_law 751 = .ok (.iconst 1, 1) := by decide +kernel
theorem dL_law_752 : decode cL_law 752 = .ok (.iadd, 1) := by decide +kernel
theorem dL_law_753 : decode cL_law 753 = .ok (.iaload, 1) := by decide +kernel
theorem dL_law_754 : decode cL_law 754 = .ok (.aload_n 0, 1) := by decide +kernel
theorem dL_law_755 : decode cL_law 755 = .ok (.iload 4, 2) := by decide +kernel
theorem dL_law_757 : decode cL_law 757 = .ok (.iconst 2, 1) := by decide +kernel
theorem dL_law_758 : decode cL_law 758 = .ok (.iadd, 1) := by decide +kernel
theorem dL_law_759 : decode cL_law 759 = .ok (.iaload, 1) := by decide +kernel
theorem dL_law_760 : decode cL_law 760 = .ok (.aload_n 0, 1) := by decide +kernel
theorem dL_law_761 : decode cL_law 761 = .ok (.iload 4, 2) := by decide +kernel
theorem dL_law_763 : decode cL_law 763 = .ok (.iconst 3, 1) := by decide +kernel
theorem dL_law_764 : decode cL_law 764 = .ok (.iadd, 1) := by decide +kernel
theorem dL_law_765 : decode cL_law 765 = .ok (.iaload, 1) := by decide +kernel
theorem dL_law_769 : decode cL_law 769 = .ok (.istore 6, 2) := by decide +kernel
theorem dL_law_771 : decode cL_law 771 = .ok (.goto 512, 3) := by decide +kernel
theorem dL_law_774 : decode cL_law 774 = .ok (.aload_n 1, 1) := by decide +kernel
theorem dL_law_775 : decode cL_law 775 = .ok (.aload_n 0, 1) := by decide +kernel
theorem dL_law_776 : decode cL_law 776 = .ok (.iload 4, 2) := by decide +kernel
theorem dL_law_778 : decode cL_law 778 = .ok (.iconst 1, 1) := by decide +kernel
theorem dL_law_779 : decode cL_law 779 = .ok (.iadd, 1) := by decide +kernel
theorem dL_law_780 : decode cL_law 780 = .ok (.iaload, 1) := by decide +kernel
theorem dL_law_781 : decode cL_law 781 = .ok (.aload_n 0, 1) := by decide +kernel
theorem dL_law_782 : decode cL_law 782 = .ok (.iload 4, 2) := by decide +kernel
theorem dL_law_784 : decode cL_law 784 = .ok (.iconst 2, 1) := by decide +kernel
theorem dL_law_785 : decode cL_law 785 = .ok (.iadd, 1) := by decide +kernel
theorem dL_law_786 : decode cL_law 786 = .ok (.iaload, 1) := by decide +kernel
theorem dL_law_790 : decode cL_law 790 = .ok (.pop, 1) := by decide +kernel
theorem dL_law_791 : decode cL_law 791 = .ok (.aload_n 2, 1) := by decide +kernel
theorem dL_law_792 : decode cL_law 792 = .ok (.aload_n 0, 1) := by decide +kernel
theorem dL_law_793 : decode cL_law 793 = .ok (.iload 4, 2) := by decide +kernel
theorem dL_law_795 : decode cL_law 795 = .ok (.iconst 1, 1) := by decide +kernel
theorem dL_law_796 : decode cL_law 796 = .ok (.iadd, 1) := by decide +kernel
theorem dL_law_797 : decode cL_law 797 = .ok (.iaload, 1) := by decide +kernel
theorem dL_law_798 : decode cL_law 798 = .ok (.aload_n 0, 1) := by decide +kernel
theorem dL_law_799 : decode cL_law 799 = .ok (.iload 4, 2) := by decide +kernel
theorem dL_law_801 : decode cL_law 801 = .ok (.iconst 2, 1) := by decide +kernel
theorem dL_law_802 : decode cL_law 802 = .ok (.iadd, 1) := by decide +kernel
theorem dL_law_803 : decode cL_law 803 = .ok (.iaload, 1) := by decide +kernel
theorem dL_law_807 : decode cL_law 807 = .ok (.pop, 1) := by decide +kernel
theorem dL_law_808 : decode cL_law 808 = .ok (.goto 475, 3) := by decide +kernel
theorem dL_law_811 : decode cL_law 811 = .ok (.aload_n 1, 1) := by decide +kernel
theorem dL_law_812 : decode cL_law 812 = .ok (.aload_n 0, 1) := by decide +kernel
theorem dL_law_813 : decode cL_law 813 = .ok (.iload 4, 2) := by decide +kernel
theorem dL_law_815 : decode cL_law 815 = .ok (.iconst 1, 1) := by decide +kernel
theorem dL_law_816 : decode cL_law 816 = .ok (.iadd, 1) := by decide +kernel
theorem dL_law_817 : decode cL_law 817 = .ok (.iaload, 1) := by decide +kernel
theorem dL_law_818 : decode cL_law 818 = .ok (.aload_n 0, 1) := by decide +kernel
theorem dL_law_819 : decode cL_law 819 = .ok (.iload 4, 2) := by decide +kernel
theorem dL_law_821 : decode cL_law 821 = .ok (.iconst 2, 1) := by decide +kernel
theorem dL_law_822 : decode cL_law 822 = .ok (.iadd, 1) := by decide +kernel
theorem dL_law_823 : decode cL_law 823 = .ok (.iaload, 1) := by decide +kernel
theorem dL_law_827 : decode cL_law 827 = .ok (.pop, 1) := by decide +kernel
theorem dL_law_828 : decode cL_law 828 = .ok (.aload_n 2, 1) := by decide +kernel
theorem dL_law_829 : decode cL_law 829 = .ok (.aload_n 0, 1) := by decide +kernel
theorem dL_law_830 : decode cL_law 830 = .ok (.iload 4, 2) := by decide +kernel
theorem dL_law_832 : decode cL_law 832 = .ok (.iconst 1, 1) := by decide +kernel
theorem dL_law_833 : decode cL_law 833 = .ok (.iadd, 1) := by decide +kernel
theorem dL_law_834 : decode cL_law 834 = .ok (.iaload, 1) := by decide +kernel
theorem dL_law_835 : decode cL_law 835 = .ok (.aload_n 0, 1) := by decide +kernel
theorem dL_law_836 : decode cL_law 836 = .ok (.iload 4, 2) := by decide +kernel
theorem dL_law_838 : decode cL_law 838 = .ok (.iconst 2, 1) := by decide +kernel
theorem dL_law_839 : decode cL_law 839 = .ok (.iadd, 1) := by decide +kernel
theorem dL_law_840 : decode cL_law 840 = .ok (.iaload, 1) := by decide +kernel
theorem dL_law_844 : decode cL_law 844 = .ok (.pop, 1) := by decide +kernel
theorem dL_law_845 : decode cL_law 845 = .ok (.goto 438, 3) := by decide +kernel
theorem dL_law_848 : decode cL_law 848 = .ok (.aload_n 1, 1) := by decide +kernel
theorem dL_law_849 : decode cL_law 849 = .ok (.aload_n 0, 1) := by decide +kernel
theorem dL_law_850 : decode cL_law 850 = .ok (.iload 4, 2) := by decide +kernel
theorem dL_law_852 : decode cL_law 852 = .ok (.iconst 1, 1) := by decide +kernel
theorem dL_law_853 : decode cL_law 853 = .ok (.iadd, 1) := by decide +kernel
theorem dL_law_854 : decode cL_law 854 = .ok (.iaload, 1) := by decide +kernel
theorem dL_law_855 : decode cL_law 855 = .ok (.aload_n 0, 1) := by decide +kernel
theorem dL_law_856 : decode cL_law 856 = .ok (.iload 4, 2) := by decide +kernel
theorem dL_law_858 : decode cL_law 858 = .ok (.iconst 2, 1) := by decide +kernel
theorem dL_law_859 : decode cL_law 859 = .ok (.iadd, 1) := by decide +kernel
theorem dL_law_860 : decode cL_law 860 = .ok (.iaload, 1) := by decide +kernel
theorem dL_law_864 : decode cL_law 864 = .ok (.pop, 1) := by decide +kernel
theorem dL_law_865 : decode cL_law 865 = .ok (.aload_n 2, 1) := by decide +kernel
theorem dL_law_866 : decode cL_law 866 = .ok (.aload_n 0, 1) := by decide +kernel
theorem dL_law_867 : decode cL_law 867 = .ok (.iload 4, 2) := by decide +kernel
theorem dL_law_869 : decode cL_law 869 = .ok (.iconst 1, 1) := by decide +kernel
theorem dL_law_870 : decode cL_law 870 = .ok (.iadd, 1) := by decide +kernel
theorem dL_law_871 : decode cL_law 871 = .ok (.iaload, 1) := by decide +kernel
theorem dL_law_872 : decode cL_law 872 = .ok (.aload_n 0, 1) := by decide +kernel
theorem dL_law_873 : decode cL_law 873 = .ok (.iload 4, 2) := by decide +kernel
theorem dL_law_875 : decode cL_law 875 = .ok (.iconst 2, 1) := by decide +kernel
theorem dL_law_876 : decode cL_law 876 = .ok (.iadd, 1) := by decide +kernel
theorem dL_law_877 : decode cL_law 877 = .ok (.iaload, 1) := by decide +kernel
theorem dL_law_881 : decode cL_law 881 = .ok (.pop, 1) := by decide +kernel
theorem dL_law_882 : decode cL_law 882 = .ok (.goto 401, 3) := by decide +kernel
theorem dL_law_885 : decode cL_law 885 = .ok (.aload_n 1, 1) := by decide +kernel
theorem dL_law_886 : decode cL_law 886 = .ok (.aload_n 0, 1) := by decide +kernel
theorem dL_law_887 : decode cL_law 887 = .ok (.iload 4, 2) := by decide +kernel
theorem dL_law_889 : decode cL_law 889 = .ok (.iconst 1, 1) := by decide +kernel
theorem dL_law_890 : decode cL_law 890 = .ok (.iadd, 1) := by decide +kernel
theorem dL_law_891 : decode cL_law 891 = .ok (.iaload, 1) := by decide +kernel
theorem dL_law_892 : decode cL_law 892 = .ok (.aload_n 0, 1) := by decide +kernel
theorem dL_law_893 : decode cL_law 893 = .ok (.iload 4, 2) := by decide +kernel
theorem dL_law_895 : decode cL_law 895 = .ok (.iconst 2, 1) := by decide +kernel
theorem dL_law_896 : decode cL_law 896 = .ok (.iadd, 1) := by decide +kernel
theorem dL_law_897 : decode cL_law 897 = .ok (.iaload, 1) := by decide +kernel
theorem dL_law_898 : decode cL_law 898 = .ok (.aload_n 0, 1) := by decide +kernel
theorem dL_law_899 : decode cL_law 899 = .ok (.iload 4, 2) := by decide +kernel
theorem dL_law_901 : decode cL_law 901 = .ok (.iconst 3, 1) := by decide +kernel
theorem dL_law_902 : decode cL_law 902 = .ok (.iadd, 1) := by decide +kernel
theorem dL_law_903 : decode cL_law 903 = .ok (.iaload, 1) := by decide +kernel
theorem dL_law_907 : decode cL_law 907 = .ok (.pop, 1) := by decide +kernel
theorem dL_law_908 : decode cL_law 908 = .ok (.aload_n 2, 1) := by decide +kernel
theorem dL_law_909 : decode cL_law 909 = .ok (.aload_n 0, 1) := by decide +kernel
theorem dL_law_910 : decode cL_law 910 = .ok (.iload 4, 2) := by decide +kernel
theorem dL_law_912 : decode cL_law 912 = .ok (.iconst 1, 1) := by decide +kernel
theorem dL_law_913 : decode cL_law 913 = .ok (.iadd, 1) := by decide +kernel
theorem dL_law_914 : decode cL_law 914 = .ok (.iaload, 1) := by decide +kernel
theorem dL_law_915 : decode cL_law 915 = .ok (.aload_n 0, 1) := by decide +kernel
theorem dL_law_916 : decode cL_law 916 = .ok (.iload 4, 2) := by decide +kernel
theorem dL_law_918 : decode cL_law 918 = .ok (.iconst 2, 1) := by decide +kernel
theorem dL_law_919 : decode cL_law 919 = .ok (.iadd, 1) := by decide +kernel
theorem dL_law_920 : decode cL_law 920 = .ok (.iaload, 1) := by decide +kernel
theorem dL_law_921 : decode cL_law 921 = .ok (.aload_n 0, 1) := by decide +kernel
theorem dL_law_922 : decode cL_law 922 = .ok (.iload 4, 2) := by decide +kernel
theorem dL_law_924 : decode cL_law 924 = .ok (.iconst 3, 1) := by decide +kernel
theorem dL_law_925 : decode cL_law 925 = .ok (.iadd, 1) := by decide +kernel
theorem dL_law_926 : decode cL_law 926 = .ok (.iaload, 1) := by decide +kernel
theorem dL_law_930 : decode cL_law 930 = .ok (.pop, 1) := by decide +kernel
theorem dL_law_931 : decode cL_law 931 = .ok (.goto 352, 3) := by decide +kernel
theorem dL_law_934 : decode cL_law 934 = .ok (.aload_n 1, 1) := by decide +kernel
theorem dL_law_935 : decode cL_law 935 = .ok (.aload_n 0, 1) := by decide +kernel
theorem dL_law_936 : decode cL_law 936 = .ok (.iload 4, 2) := by decide +kernel
theorem dL_law_938 : decode cL_law 938 = .ok (.iconst 1, 1) := by decide +kernel
theorem dL_law_939 : decode cL_law 939 = .ok (.iadd, 1) := by decide +kernel
theorem dL_law_940 : decode cL_law 940 = .ok (.iaload, 1) := by decide +kernel
theorem dL_law_941 : decode cL_law 941 = .ok (.aload_n 0, 1) := by decide +kernel
theorem dL_law_942 : decode cL_law 942 = .ok (.iload 4, 2) := by decide +kernel
theorem dL_law_944 : decode cL_law 944 = .ok (.iconst 2, 1) := by decide +kernel
theorem dL_law_945 : decode cL_law 945 = .ok (.iadd, 1) := by decide +kernel
theorem dL_law_946 : decode cL_law 946 = .ok (.iaload, 1) := by decide +kernel
theorem dL_law_947 : decode cL_law 947 = .ok (.aload_n 0, 1) := by decide +kernel
theorem dL_law_948 : decode cL_law 948 = .ok (.iload 4, 2) := by decide +kernel
theorem dL_law_950 : decode cL_law 950 = .ok (.iconst 3, 1) := by decide +kernel
theorem dL_law_951 : decode cL_law 951 = .ok (.iadd, 1) := by decide +kernel
theorem dL_law_952 : decode cL_law 952 = .ok (.iaload, 1) := by decide +kernel
theorem dL_law_956 : decode cL_law 956 = .ok (.pop, 1) := by decide +kernel
theorem dL_law_957 : decode cL_law 957 = .ok (.aload_n 2, 1) := by decide +kernel
theorem dL_law_958 : decode cL_law 958 = .ok (.aload_n 0, 1) := by decide +kernel
theorem dL_law_959 : decode cL_law 959 = .ok (.iload 4, 2) := by decide +kernel
theorem dL_law_961 : decode cL_law 961 = .ok (.iconst 1, 1) := by decide +kernel
theorem dL_law_962 : decode cL_law 962 = .ok (.iadd, 1) := by decide +kernel
theorem dL_law_963 : decode cL_law 963 = .ok (.iaload, 1) := by decide +kernel
theorem dL_law_964 : decode cL_law 964 = .ok (.aload_n 0, 1) := by decide +kernel
theorem dL_law_965 : decode cL_law 965 = .ok (.iload 4, 2) := by decide +kernel
theorem dL_law_967 : decode cL_law 967 = .ok (.iconst 2, 1) := by decide +kernel
theorem dL_law_968 : decode cL_law 968 = .ok (.iadd, 1) := by decide +kernel
theorem dL_law_969 : decode cL_law 969 = .ok (.iaload, 1) := by decide +kernel
theorem dL_law_970 : decode cL_law 970 = .ok (.aload_n 0, 1) := by decide +kernel
theorem dL_law_971 : decode cL_law 971 = .ok (.iload 4, 2) := by decide +kernel
theorem dL_law_973 : decode cL_law 973 = .ok (.iconst 3, 1) := by decide +kernel
theorem dL_law_974 : decode cL_law 974 = .ok (.iadd, 1) := by decide +kernel
theorem dL_law_975 : decode cL_law 975 = .ok (.iaload, 1) := by decide +kernel
theorem dL_law_979 : decode cL_law 979 = .ok (.pop, 1) := by decide +kernel
theorem dL_law_980 : decode cL_law 980 = .ok (.goto 303, 3) := by decide +kernel
theorem dL_law_983 : decode cL_law 983 = .ok (.aload_n 1, 1) := by decide +kernel
theorem dL_law_984 : decode cL_law 984 = .ok (.aload_n 0, 1) := by decide +kernel
theorem dL_law_985 : decode cL_law 985 = .ok (.iload 4, 2) := by decide +kernel
theorem dL_law_987 : decode cL_law 987 = .ok (.iconst 1, 1) := by decide +kernel
theorem dL_law_988 : decode cL_law 988 = .ok (.iadd, 1) := by decide +kernel
theorem dL_law_989 : decode cL_law 989 = .ok (.iaload, 1) := by decide +kernel
theorem dL_law_990 : decode cL_law 990 = .ok (.aload_n 0, 1) := by decide +kernel
theorem dL_law_991 : decode cL_law 991 = .ok (.iload 4, 2) := by decide +kernel
theorem dL_law_993 : decode cL_law 993 = .ok (.iconst 2, 1) := by decide +kernel
theorem dL_law_994 : decode cL_law 994 = .ok (.iadd, 1) := by decide +kernel
theorem dL_law_995 : decode cL_law 995 = .ok (.iaload, 1) := by decide +kernel
theorem dL_law_996 : decode cL_law 996 = .ok (.aload_n 0, 1) := by decide +kernel
theorem dL_law_997 : decode cL_law 997 = .ok (.iload 4, 2) := by decide +kernel
theorem dL_law_999 : decode cL_law 999 = .ok (.iconst 3, 1) := by decide +kernel
theorem dL_law_1000 : decode cL_law 1000 = .ok (.iadd, 1) := by decide +kernel
theorem dL_law_1001 : decode cL_law 1001 = .ok (.iaload, 1) := by decide +kernel
theorem dL_law_1005 : decode cL_law 1005 = .ok (.pop, 1) := by decide +kernel
theorem dL_law_1006 : decode cL_law 1006 = .ok (.aload_n 2, 1) := by decide +kernel
theorem dL_law_1007 : decode cL_law 1007 = .ok (.aload_n 0, 1) := by decide +kernel
theorem dL_law_1008 : decode cL_law 1008 = .ok (.iload 4, 2) := by decide +kernel
theorem dL_law_1010 : decode cL_law 1010 = .ok (.iconst 1, 1) := by decide +kernel
theorem dL_law_1011 : decode cL_law 1011 = .ok (.iadd, 1) := by decide +kernel
theorem dL_law_1012 : decode cL_law 1012 = .ok (.iaload, 1) := by decide +kernel
theorem dL_law_1013 : decode cL_law 1013 = .ok (.aload_n 0, 1) := by decide +kernel
theorem dL_law_1014 : decode cL_law 1014 = .ok (.iload 4, 2) := by decide +kernel
theorem dL_law_1016 : decode cL_law 1016 = .ok (.iconst 2, 1) := by decide +kernel
theorem dL_law_1017 : decode cL_law 1017 = .ok (.iadd, 1) := by decide +kernel
theorem dL_law_1018 : decode cL_law 1018 = .ok (.iaload, 1) := by decide +kernel
theorem dL_law_1019 : decode cL_law 1019 = .ok (.aload_n 0, 1) := by decide +kernel
theorem dL_law_1020 : decode cL_law 1020 = .ok (.iload 4, 2) := by decide +kernel
theorem dL_law_1022 : decode cL_law 1022 = .ok (.iconst 3, 1) := by decide +kernel
theorem dL_law_1023 : decode cL_law 1023 = .ok (.iadd, 1) := by decide +kernel
theorem dL_law_1024 : decode cL_law 1024 = .ok (.iaload, 1) := by decide +kernel
theorem dL_law_1028 : decode cL_law 1028 = .ok (.pop, 1) := by decide +kernel
theorem dL_law_1029 : decode cL_law 1029 = .ok (.goto 254, 3) := by decide +kernel
theorem dL_law_1032 : decode cL_law 1032 = .ok (.aload_n 1, 1) := by decide +kernel
theorem dL_law_1033 : decode cL_law 1033 = .ok (.aload_n 0, 1) := by decide +kernel
theorem dL_law_1034 : decode cL_law 1034 = .ok (.iload 4, 2) := by decide +kernel
theorem dL_law_1036 : decode cL_law 1036 = .ok (.iconst 1, 1) := by decide +kernel
theorem dL_law_1037 : decode cL_law 1037 = .ok (.iadd, 1) := by decide +kernel
theorem dL_law_1038 : decode cL_law 1038 = .ok (.iaload, 1) := by decide +kernel
theorem dL_law_1039 : decode cL_law 1039 = .ok (.aload_n 0, 1) := by decide +kernel
theorem dL_law_1040 : decode cL_law 1040 = .ok (.iload 4, 2) := by decide +kernel
theorem dL_law_1042 : decode cL_law 1042 = .ok (.iconst 2, 1) := by decide +kernel
theorem dL_law_1043 : decode cL_law 1043 = .ok (.iadd, 1) := by decide +kernel
theorem dL_law_1044 : decode cL_law 1044 = .ok (.iaload, 1) := by decide +kernel
theorem dL_law_1045 : decode cL_law 1045 = .ok (.aload_n 0, 1) := by decide +kernel
theorem dL_law_1046 : decode cL_law 1046 = .ok (.iload 4, 2) := by decide +kernel
theorem dL_law_1048 : decode cL_law 1048 = .ok (.iconst 3, 1) := by decide +kernel
theorem dL_law_1049 : decode cL_law 1049 = .ok (.iadd, 1) := by decide +kernel
theorem dL_law_1050 : decode cL_law 1050 = .ok (.iaload, 1) := by decide +kernel
theorem dL_law_1054 : decode cL_law 1054 = .ok (.pop, 1) := by decide +kernel
theorem dL_law_1055 : decode cL_law 1055 = .ok (.aload_n 2, 1) := by decide +kernel
theorem dL_law_1056 : decode cL_law 1056 = .ok (.aload_n 0, 1) := by decide +kernel
theorem dL_law_1057 : decode cL_law 1057 = .ok (.iload 4, 2) := by decide +kernel
theorem dL_law_1059 : decode cL_law 1059 = .ok (.iconst 1, 1) := by decide +kernel
theorem dL_law_1060 : decode cL_law 1060 = .ok (.iadd, 1) := by decide +kernel
theorem dL_law_1061 : decode cL_law 1061 = .ok (.iaload, 1) := by decide +kernel
theorem dL_law_1062 : decode cL_law 1062 = .ok (.aload_n 0, 1) := by decide +kernel
theorem dL_law_1063 : decode cL_law 1063 = .ok (.iload 4, 2) := by decide +kernel
theorem dL_law_1065 : decode cL_law 1065 = .ok (.iconst 2, 1) := by decide +kernel
theorem dL_law_1066 : decode cL_law 1066 = .ok (.iadd, 1) := by decide +kernel
theorem dL_law_1067 : decode cL_law 1067 = .ok (.iaload, 1) := by decide +kernel
theorem dL_law_1068 : decode cL_law 1068 = .ok (.aload_n 0, 1) := by decide +kernel
theorem dL_law_1069 : decode cL_law 1069 = .ok (.iload 4, 2) := by decide +kernel
theorem dL_law_1071 : decode cL_law 1071 = .ok (.iconst 3, 1) := by decide +kernel
theorem dL_law_1072 : decode cL_law 1072 = .ok (.iadd, 1) := by decide +kernel
theorem dL_law_1073 : decode cL_law 1073 = .ok (.iaload, 1) := by decide +kernel
theorem dL_law_1077 : decode cL_law 1077 = .ok (.pop, 1) := by decide +kernel
theorem dL_law_1078 : decode cL_law 1078 = .ok (.goto 205, 3) := by decide +kernel
theorem dL_law_1081 : decode cL_law 1081 = .ok (.aload_n 1, 1) := by decide +kernel
theorem dL_law_1082 : decode cL_law 1082 = .ok (.aload_n 0, 1) := by decide +kernel
theorem dL_law_1083 : decode cL_law 1083 = .ok (.iload 4, 2) := by decide +kernel
theorem dL_law_1085 : decode cL_law 1085 = .ok (.iconst 1, 1) := by decide +kernel
theorem dL_law_1086 : decode cL_law 1086 = .ok (.iadd, 1) := by decide +kernel
theorem dL_law_1087 : decode cL_law 1087 = .ok (.iaload, 1) := by decide +kernel
theorem dL_law_1088 : decode cL_law 1088 = .ok (.aload_n 0, 1) := by decide +kernel
theorem dL_law_1089 : decode cL_law 1089 = .ok (.iload 4, 2) := by decide +kernel
theorem dL_law_1091 : decode cL_law 1091 = .ok (.iconst 2, 1) := by decide +kernel
theorem dL_law_1092 : decode cL_law 1092 = .ok (.iadd, 1) := by decide +kernel
theorem dL_law_1093 : decode cL_law 1093 = .ok (.iaload, 1) := by decide +kernel
theorem dL_law_1097 : decode cL_law 1097 = .ok (.pop, 1) := by decide +kernel
theorem dL_law_1098 : decode cL_law 1098 = .ok (.aload_n 2, 1) := by decide +kernel
theorem dL_law_1099 : decode cL_law 1099 = .ok (.aload_n 0, 1) := by decide +kernel
theorem dL_law_1100 : decode cL_law 1100 = .ok (.iload 4, 2) := by decide +kernel
theorem dL_law_1102 : decode cL_law 1102 = .ok (.iconst 1, 1) := by decide +kernel
theorem dL_law_1103 : decode cL_law 1103 = .ok (.iadd, 1) := by decide +kernel
theorem dL_law_1104 : decode cL_law 1104 = .ok (.iaload, 1) := by decide +kernel
theorem dL_law_1105 : decode cL_law 1105 = .ok (.aload_n 0, 1) := by decide +kernel
theorem dL_law_1106 : decode cL_law 1106 = .ok (.iload 4, 2) := by decide +kernel
theorem dL_law_1108 : decode cL_law 1108 = .ok (.iconst 2, 1) := by decide +kernel
theorem dL_law_1109 : decode cL_law 1109 = .ok (.iadd, 1) := by decide +kernel
theorem dL_law_1110 : decode cL_law 1110 = .ok (.iaload, 1) := by decide +kernel
theorem dL_law_1114 : decode cL_law 1114 = .ok (.pop, 1) := by decide +kernel
theorem dL_law_1115 : decode cL_law 1115 = .ok (.goto 168, 3) := by decide +kernel
theorem dL_law_1118 : decode cL_law 1118 = .ok (.aload_n 1, 1) := by decide +kernel
theorem dL_law_1119 : decode cL_law 1119 = .ok (.aload_n 0, 1) := by decide +kernel
theorem dL_law_1120 : decode cL_law 1120 = .ok (.iload 4, 2) := by decide +kernel
theorem dL_law_1122 : decode cL_law 1122 = .ok (.iconst 1, 1) := by decide +kernel
theorem dL_law_1123 : decode cL_law 1123 = .ok (.iadd, 1) := by decide +kernel
theorem dL_law_1124 : decode cL_law 1124 = .ok (.iaload, 1) := by decide +kernel
theorem dL_law_1125 : decode cL_law 1125 = .ok (.aload_n 0, 1) := by decide +kernel
theorem dL_law_1126 : decode cL_law 1126 = .ok (.iload 4, 2) := by decide +kernel
theorem dL_law_1128 : decode cL_law 1128 = .ok (.iconst 2, 1) := by decide +kernel
theorem dL_law_1129 : decode cL_law 1129 = .ok (.iadd, 1) := by decide +kernel
theorem dL_law_1130 : decode cL_law 1130 = .ok (.iaload, 1) := by decide +kernel
theorem dL_law_1134 : decode cL_law 1134 = .ok (.pop, 1) := by decide +kernel
theorem dL_law_1135 : decode cL_law 1135 = .ok (.aload_n 2, 1) := by decide +kernel
theorem dL_law_1136 : decode cL_law 1136 = .ok (.aload_n 0, 1) := by decide +kernel
theorem dL_law_1137 : decode cL_law 1137 = .ok (.iload 4, 2) := by decide +kernel
theorem dL_law_1139 : decode cL_law 1139 = .ok (.iconst 1, 1) := by decide +kernel
theorem dL_law_1140 : decode cL_law 1140 = .ok (.iadd, 1) := by decide +kernel
theorem dL_law_1141 : decode cL_law 1141 = .ok (.iaload, 1) := by decide +kernel
theorem dL_law_1142 : decode cL_law 1142 = .ok (.aload_n 0, 1) := by decide +kernel
theorem dL_law_1143 : decode cL_law 1143 = .ok (.iload 4, 2) := by decide +kernel
theorem dL_law_1145 : decode cL_law 1145 = .ok (.iconst 2, 1) := by decide +kernel
theorem dL_law_1146 : decode cL_law 1146 = .ok (.iadd, 1) := by decide +kernel
theorem dL_law_1147 : decode cL_law 1147 = .ok (.iaload, 1) := by decide +kernel
theorem dL_law_1151 : decode cL_law 1151 = .ok (.pop, 1) := by decide +kernel
theorem dL_law_1152 : decode cL_law 1152 = .ok (.goto 131, 3) := by decide +kernel
theorem dL_law_1155 : decode cL_law 1155 = .ok (.aload_n 1, 1) := by decide +kernel
theorem dL_law_1156 : decode cL_law 1156 = .ok (.aload_n 0, 1) := by decide +kernel
theorem dL_law_1157 : decode cL_law 1157 = .ok (.iload 4, 2) := by decide +kernel
theorem dL_law_1159 : decode cL_law 1159 = .ok (.iconst 1, 1) := by decide +kernel
theorem dL_law_1160 : decode cL_law 1160 = .ok (.iadd, 1) := by decide +kernel
theorem dL_law_1161 : decode cL_law 1161 = .ok (.iaload, 1) := by decide +kernel
theorem dL_law_1162 : decode cL_law 1162 = .ok (.aload_n 0, 1) := by decide +kernel
theorem dL_law_1163 : decode cL_law 1163 = .ok (.iload 4, 2) := by decide +kernel
theorem dL_law_1165 : decode cL_law 1165 = .ok (.iconst 2, 1) := by decide +kernel
theorem dL_law_1166 : decode cL_law 1166 = .ok (.iadd, 1) := by decide +kernel
theorem dL_law_1167 : decode cL_law 1167 = .ok (.iaload, 1) := by decide +kernel
theorem dL_law_1171 : decode cL_law 1171 = .ok (.pop, 1) := by decide +kernel
theorem dL_law_1172 : decode cL_law 1172 = .ok (.aload_n 2, 1) := by decide +kernel
theorem dL_law_1173 : decode cL_law 1173 = .ok (.aload_n 0, 1) := by decide +kernel
theorem dL_law_1174 : decode cL_law 1174 = .ok (.iload 4, 2) := by decide +kernel
theorem dL_law_1176 : decode cL_law 1176 = .ok (.iconst 1, 1) := by decide +kernel
theorem dL_law_1177 : decode cL_law 1177 = .ok (.iadd, 1) := by decide +kernel
theorem dL_law_1178 : decode cL_law 1178 = .ok (.iaload, 1) := by decide +kernel
theorem dL_law_1179 : decode cL_law 1179 = .ok (.aload_n 0, 1) := by decide +kernel
theorem dL_law_1180 : decode cL_law 1180 = .ok (.iload 4, 2) := by decide +kernel
theorem dL_law_1182 : decode cL_law 1182 = .ok (.iconst 2, 1) := by decide +kernel
theorem dL_law_1183 : decode cL_law 1183 = .ok (.iadd, 1) := by decide +kernel
theorem dL_law_1184 : decode cL_law 1184 = .ok (.iaload, 1) := by decide +kernel
theorem dL_law_1188 : decode cL_law 1188 = .ok (.pop, 1) := by decide +kernel
theorem dL_law_1189 : decode cL_law 1189 = .ok (.goto 94, 3) := by decide +kernel
theorem dL_law_1192 : decode cL_law 1192 = .ok (.aload_n 1, 1) := by decide +kernel
theorem dL_law_1196 : decode cL_law 1196 = .ok (.pop, 1) := by decide +kernel
theorem dL_law_1197 : decode cL_law 1197 = .ok (.aload_n 2, 1) := by decide +kernel
theorem dL_law_1201 : decode cL_law 1201 = .ok (.pop, 1) := by decide +kernel
theorem dL_law_1202 : decode cL_law 1202 = .ok (.goto 81, 3) := by decide +kernel
theorem dL_law_1205 : decode cL_law 1205 = .ok (.aload_n 1, 1) := by decide +kernel
theorem dL_law_1206 : decode cL_law 1206 = .ok (.aload_n 0, 1) := by decide +kernel
theorem dL_law_1207 : decode cL_law 1207 = .ok (.iload 4, 2) := by decide +kernel
theorem dL_law_1209 : decode cL_law 1209 = .ok (.iconst 1, 1) := by decide +kernel
theorem dL_law_1210 : decode cL_law 1210 = .ok (.iadd, 1) := by decide +kernel
theorem dL_law_1211 : decode cL_law 1211 = .ok (.iaload, 1) := by decide +kernel
theorem dL_law_1212 : decode cL_law 1212 = .ok (.aload_n 0, 1) := by decide +kernel
theorem dL_law_1213 : decode cL_law 1213 = .ok (.iload 4, 2) := by decide +kernel
theorem dL_law_1215 : decode cL_law 1215 = .ok (.iconst 2, 1) := by decide +kernel
theorem dL_law_1216 : decode cL_law 1216 = .ok (.iadd, 1) := by decide +kernel
theorem dL_law_1217 : decode cL_law 1217 = .ok (.iaload, 1) := by decide +kernel
theorem dL_law_1218 : decode cL_law 1218 = .ok (.ifCond .eq 7, 3) := by decide +kernel
theorem dL_law_1221 : decode cL_law 1221 = .ok (.iconst 1, 1) := by decide +kernel
theorem dL_law_1222 : decode cL_law 1222 = .ok (.goto 4, 3) := by decide +kernel
theorem dL_law_1225 : decode cL_law 1225 = .ok (.iconst 0, 1) := by decide +kernel
theorem dL_law_1229 : decode cL_law 1229 = .ok (.pop, 1) := by decide +kernel
theorem dL_law_1230 : decode cL_law 1230 = .ok (.aload_n 2, 1) := by decide +kernel
theorem dL_law_1231 : decode cL_law 1231 = .ok (.aload_n 0, 1) := by decide +kernel
theorem dL_law_1232 : decode cL_law 1232 = .ok (.iload 4, 2) := by decide +kernel
theorem dL_law_1234 : decode cL_law 1234 = .ok (.iconst 1, 1) := by decide +kernel
theorem dL_law_1235 : decode cL_law 1235 = .ok (.iadd, 1) := by decide +kernel
theorem dL_law_1236 : decode cL_law 1236 = .ok (.iaload, 1) := by decide +kernel
theorem dL_law_1237 : decode cL_law 1237 = .ok (.aload_n 0, 1) := by decide +kernel
theorem dL_law_1238 : decode cL_law 1238 = .ok (.iload 4, 2) := by decide +kernel
theorem dL_law_1240 : decode cL_law 1240 = .ok (.iconst 2, 1) := by decide +kernel
theorem dL_law_1241 : decode cL_law 1241 = .ok (.iadd, 1) := by decide +kernel
theorem dL_law_1242 : decode cL_law 1242 = .ok (.iaload, 1) := by decide +kernel
theorem dL_law_1243 : decode cL_law 1243 = .ok (.ifCond .eq 7, 3) := by decide +kernel
theorem dL_law_1246 : decode cL_law 1246 = .ok (.iconst 1, 1) := by decide +kernel
theorem dL_law_1247 : decode cL_law 1247 = .ok (.goto 4, 3) := by decide +kernel
theorem dL_law_1250 : decode cL_law 1250 = .ok (.iconst 0, 1) := by decide +kernel
theorem dL_law_1254 : decode cL_law 1254 = .ok (.pop, 1) := by decide +kernel
theorem dL_law_1255 : decode cL_law 1255 = .ok (.goto 28, 3) := by decide +kernel
theorem dL_law_1258 : decode cL_law 1258 = .ok (.aload_n 1, 1) := by decide +kernel
theorem dL_law_1259 : decode cL_law 1259 = .ok (.aload_n 0, 1) := by decide +kernel
theorem dL_law_1260 : decode cL_law 1260 = .ok (.iload 4, 2) := by decide +kernel
theorem dL_law_1262 : decode cL_law 1262 = .ok (.iconst 1, 1) := by decide +kernel
theorem dL_law_1263 : decode cL_law 1263 = .ok (.iadd, 1) := by decide +kernel
theorem dL_law_1264 : decode cL_law 1264 = .ok (.iaload, 1) := by decide +kernel
theorem dL_law_1268 : decode cL_law 1268 = .ok (.pop, 1) := by decide +kernel
theorem dL_law_1269 : decode cL_law 1269 = .ok (.aload_n 2, 1) := by decide +kernel
theorem dL_law_1270 : decode cL_law 1270 = .ok (.aload_n 0, 1) := by decide +kernel
theorem dL_law_1271 : decode cL_law 1271 = .ok (.iload 4, 2) := by decide +kernel
theorem dL_law_1273 : decode cL_law 1273 = .ok (.iconst 1, 1) := by decide +kernel
theorem dL_law_1274 : decode cL_law 1274 = .ok (.iadd, 1) := by decide +kernel
theorem dL_law_1275 : decode cL_law 1275 = .ok (.iaload, 1) := by decide +kernel
theorem dL_law_1279 : decode cL_law 1279 = .ok (.pop, 1) := by decide +kernel
theorem dL_law_1280 : decode cL_law 1280 = .ok (.goto 3, 3) := by decide +kernel

set_option maxHeartbeats 4000000 in
set_option maxRecDepth 100000 in
theorem oc_0 {p : Program} {e : Env} {s : State} {m : MethodId} {below : List Frame} {meth : Method} {c : Code} (l : Launch) (hflags : l.flags = flags0) {b0 L : Nat} {xs : Nat → Int32} (C0 : lw_At p s m meth c b0 L xs) (dC : Nat → ClassId) (dI : Nat → Nat → Nat) (g : Gv) {x0 m0 o0 : Nat} {cO : ClassId} {tm : List (ClassId × FieldType)} {wx rx wm : va_W} {tx : List (ClassId × FieldType)} {fo : Nat → Int64} {i : Int32} {H : Heap} {locs : List Loc} {ls : Array Slot} {cells slots : Nat} {Q : State → Prop} (h0 : 0 ≤ i.toInt) (h1 : i.toInt + 6 ≤ (L : Int)) (hL : L ≤ 3072) (hX : XW g x0 wx rx tx) (hM : MW g m0 wm tm) (hK : va_K (dC, dI) vwCl (tx ++ (tm ++ [(cO, .long)])) s) (hP : va_P (dC, dI) vwCl (wx ++ (rx ++ (wm ++ ([(o0, .inl (cO, 1, .inr (.inl fo)))] : va_W)))) H) (hD : va_D (fun q : Nat => s.heap.size ≤ q) (wx ++ (rx ++ (wm ++ ([(o0, .inl (cO, 1, .inr (.inl fo)))] : va_W))))) (hS : va_S (fun q : Nat => s.heap.size ≤ q) s.heap H locs) (hl : lv_has ls 7 [(4, .int i), (3, .ref o0), (2, .ref m0), (1, .ref x0), (0, .ref b0)]) (hE : Ev g (fun q : Nat => s.heap.size ≤ q) s) (hcc : cells + 1 ≤ 601024) (hss : slots + 6 ≤ 7293034) (kk : ∀ (wx rx : va_W) (tx : List (ClassId × FieldType)) (wm : va_W) (fo : Nat → Int64) (H : Heap) (locs : List Loc) (ls : Array Slot), XW g x0 wx rx tx → MW g m0 wm tm → va_K (dC, dI) vwCl (tx ++ (tm ++ [(cO, .long)])) s → va_P (dC, dI) vwCl (wx ++ (rx ++ (wm ++ ([(o0, .inl (cO, 1, .inr (.inl fo)))] : va_W)))) H → va_D (fun q : Nat => s.heap.size ≤ q) (wx ++ (rx ++ (wm ++ ([(o0, .inl (cO, 1, .inr (.inl fo)))] : va_W)))) → va_S (fun q : Nat => s.heap.size ≤ q) s.heap H locs → lv_has ls 7 [(4, .int i), (3, .ref o0), (2, .ref m0), (1, .ref x0), (0, .ref b0)] → W p l e room_1 s m #[Value.ref b0] below meth c H locs (cells + 1) (slots + 6) Q (F0 m 1283 ls [])) : W p l e room_1 s m #[Value.ref b0] below meth c H locs cells slots Q (F0 m 168 ls []) := by
  obtain ⟨hx, hb, hr, hml, hown, hts0, hXs, hbl, hlocks, hgv⟩ := id C0
  have hbA : ¬ (fun q : Nat => s.heap.size ≤ q) b0 := Nat.not_le.mpr hbl
  refine lv_aload_n hx hb dL_law_168 rfl (lv_at hl 3 rfl) ?_
  refine lv_aload_n hx hb dL_law_169 rfl (lv_at hl 4 rfl) ?_
  refine lv_iload hx hb dL_law_170 (lv_at hl 0 rfl) ?_
  refine lv_iconst (v := 1) hx hb dL_law_172 (by decide) ?_
  refine lv_iadd hx hb dL_law_173 ?_
  refine lv_topi (fun x1 e_x1 => ?_)
  have e_x1 := ti_add e_x1 rfl (show (1 : Int32).toInt = 1 by decide) (by omega)
  refine va_sld hx hb hXs hbl hbA hS (vinI (by omega) (by omega)) dL_law_174 ?_
  refine lv_topi (fun x2 e_x2 => ?_)
  refine lv_aload_n hx hb dL_law_175 rfl (lv_at hl 4 rfl) ?_
  refine lv_iload hx hb dL_law_176 (lv_at hl 0 rfl) ?_
  refine lv_iconst (v := 2) hx hb dL_law_178 (by decide) ?_
  refine lv_iadd hx hb dL_law_179 ?_
  refine lv_topi (fun x3 e_x3 => ?_)
  have e_x3 := ti_add e_x3 rfl (show (2 : Int32).toInt = 2 by decide) (by omega)
  refine va_sld hx hb hXs hbl hbA hS (vinI (by omega) (by omega)) dL_law_180 ?_
  refine lv_topi (fun x4 e_x4 => ?_)
  refine lv_aload_n hx hb dL_law_181 rfl (lv_at hl 4 rfl) ?_
  refine lv_iload hx hb dL_law_182 (lv_at hl 0 rfl) ?_
  refine lv_iconst (v := 3) hx hb dL_law_184 (by decide) ?_
  refine lv_iadd hx hb dL_law_185 ?_
  refine lv_topi (fun x5 e_x5 => ?_)
  have e_x5 := ti_add e_x5 rfl (show (3 : Int32).toInt = 3 by decide) (by omega)
  refine va_sld hx hb hXs hbl hbA hS (vinI (by omega) (by omega)) dL_law_186 ?_
  refine lv_topi (fun x6 e_x6 => ?_)
  refine lv_aload_n hx hb dL_law_187 rfl (lv_at hl 4 rfl) ?_
  refine lv_iload hx hb dL_law_188 (lv_at hl 0 rfl) ?_
  refine lv_iconst (v := 4) hx hb dL_law_190 (by decide) ?_
  refine lv_iadd hx hb dL_law_191 ?_
  refine lv_topi (fun x7 e_x7 => ?_)
  have e_x7 := ti_add e_x7 rfl (show (4 : Int32).toInt = 4 by decide) (by omega)
  refine va_sld hx hb hXs hbl hbA hS (vinI (by omega) (by omega)) dL_law_192 ?_
  refine lv_topi (fun x8 e_x8 => ?_)
  refine lv_aload_n hx hb dL_law_193 rfl (lv_at hl 4 rfl) ?_
  refine lv_iload hx hb dL_law_194 (lv_at hl 0 rfl) ?_
  refine lv_iconst (v := 5) hx hb dL_law_196 (by decide) ?_
  refine lv_iadd hx hb dL_law_197 ?_
  refine lv_topi (fun x9 e_x9 => ?_)
  have e_x9 := ti_add e_x9 rfl (show (5 : Int32).toInt = 5 by decide) (by omega)
  refine va_sld hx hb hXs hbl hbA hS (vinI (by omega) (by omega)) dL_law_198 ?_
  refine lv_topi (fun x10 e_x10 => ?_)
  refine ox_feed l C0 dC dI g  (x2) (x4) (x6) (x8) (x10) hX hK hP hD hS hE hl.1 (by omega) (by omega) (fun r11 wx rx tx H locs hX hK hP hD hS => ?_)
  refine lv_pop hx hb dL_law_202 rfl ?_
  refine lv_aload_n hx hb dL_law_203 rfl (lv_at hl 2 rfl) ?_
  refine lv_aload_n hx hb dL_law_204 rfl (lv_at hl 4 rfl) ?_
  refine lv_iload hx hb dL_law_205 (lv_at hl 0 rfl) ?_
  refine lv_iconst (v := 1) hx hb dL_law_207 (by decide) ?_
  refine lv_iadd hx hb dL_law_208 ?_
  refine lv_topi (fun x12 e_x12 => ?_)
  have e_x12 := ti_add e_x12 rfl (show (1 : Int32).toInt = 1 by decide) (by omega)
  refine va_sld hx hb hXs hbl hbA hS (vinI (by omega) (by omega)) dL_law_209 ?_
  refine lv_topi (fun x13 e_x13 => ?_)
  refine lv_aload_n hx hb dL_law_210 rfl (lv_at hl 4 rfl) ?_
  refine lv_iload hx hb dL_law_211 (lv_at hl 0 rfl) ?_
  refine lv_iconst (v := 2) hx hb dL_law_213 (by decide) ?_
  refine lv_iadd hx hb dL_law_214 ?_
  refine lv_topi (fun x14 e_x14 => ?_)
  have e_x14 := ti_add e_x14 rfl (show (2 : Int32).toInt = 2 by decide) (by omega)
  refine va_sld hx hb hXs hbl hbA hS (vinI (by omega) (by omega)) dL_law_215 ?_
  refine lv_topi (fun x15 e_x15 => ?_)
  refine lv_aload_n hx hb dL_law_216 rfl (lv_at hl 4 rfl) ?_
  refine lv_iload hx hb dL_law_217 (lv_at hl 0 rfl) ?_
  refine lv_iconst (v := 3) hx hb dL_law_219 (by decide) ?_
  refine lv_iadd hx hb dL_law_220 ?_
  refine lv_topi (fun x16 e_x16 => ?_)
  have e_x16 := ti_add e_x16 rfl (show (3 : Int32).toInt = 3 by decide) (by omega)
  refine va_sld hx hb hXs hbl hbA hS (vinI (by omega) (by omega)) dL_law_221 ?_
  refine lv_topi (fun x17 e_x17 => ?_)
  refine lv_aload_n hx hb dL_law_222 rfl (lv_at hl 4 rfl) ?_
  refine lv_iload hx hb dL_law_223 (lv_at hl 0 rfl) ?_
  refine lv_iconst (v := 4) hx hb dL_law_225 (by decide) ?_
  refine lv_iadd hx hb dL_law_226 ?_
  refine lv_topi (fun x18 e_x18 => ?_)
  have e_x18 := ti_add e_x18 rfl (show (4 : Int32).toInt = 4 by decide) (by omega)
  refine va_sld hx hb hXs hbl hbA hS (vinI (by omega) (by omega)) dL_law_227 ?_
  refine lv_topi (fun x19 e_x19 => ?_)
  refine lv_aload_n hx hb dL_law_228 rfl (lv_at hl 4 rfl) ?_
  refine lv_iload hx hb dL_law_229 (lv_at hl 0 rfl) ?_
  refine lv_iconst (v := 5) hx hb dL_law_231 (by decide) ?_
  refine lv_iadd hx hb dL_law_232 ?_
  refine lv_topi (fun x20 e_x20 => ?_)
  have e_x20 := ti_add e_x20 rfl (show (5 : Int32).toInt = 5 by decide) (by omega)
  refine va_sld hx hb hXs hbl hbA hS (vinI (by omega) (by omega)) dL_law_233 ?_
  refine lv_topi (fun x21 e_x21 => ?_)
  refine om_feed l C0 dC dI g  (x13) (x15) (x17) (x19) (x21) hM (rotK hK) (rotP hP) (rotD hD) hS hE hl.1 (by omega) (by omega) (fun r22 wm H locs hM hP9 hD9 hS => ?_)
  have hP := rotP hP9
  have hD := rotD hD9
  refine lv_pop hx hb dL_law_237 rfl ?_
  refine lv_goto (tgt := 1283) hx hb dL_law_238 (by decide) ?_
  refine W.widen (k := cells + 1) (n := slots + 6) (by omega) (by omega) ?_
  exact kk wx rx tx wm fo H locs _ hX hM hK hP hD hS (lv_sub hl [0, 1, 2, 3, 4] rfl)
set_option maxHeartbeats 4000000 in
set_option maxRecDepth 100000 in
theorem oc_1 {p : Program} {e : Env} {s : State} {m : MethodId} {below : List Frame} {meth : Method} {c : Code} (l : Launch) (hflags : l.flags = flags0) {b0 L : Nat} {xs : Nat → Int32} (C0 : lw_At p s m meth c b0 L xs) (dC : Nat → ClassId) (dI : Nat → Nat → Nat) (g : Gv) {x0 m0 o0 : Nat} {cO : ClassId} {tm : List (ClassId × FieldType)} {wx rx wm : va_W} {tx : List (ClassId × FieldType)} {fo : Nat → Int64} {i : Int32} {H : Heap} {locs : List Loc} {ls : Array Slot} {cells slots : Nat} {Q : State → Prop} (h0 : 0 ≤ i.toInt) (h1 : i.toInt + 6 ≤ (L : Int)) (hL : L ≤ 3072) (hX : XW g x0 wx rx tx) (hM : MW g m0 wm tm) (hK : va_K (dC, dI) vwCl (tx ++ (tm ++ [(cO, .long)])) s) (hP : va_P (dC, dI) vwCl (wx ++ (rx ++ (wm ++ ([(o0, .inl (cO, 1, .inr (.inl fo)))] : va_W)))) H) (hD : va_D (fun q : Nat => s.heap.size ≤ q) (wx ++ (rx ++ (wm ++ ([(o0, .inl (cO, 1, .inr (.inl fo)))] : va_W))))) (hS : va_S (fun q : Nat => s.heap.size ≤ q) s.heap H locs) (hl : lv_has ls 7 [(4, .int i), (3, .ref o0), (2, .ref m0), (1, .ref x0), (0, .ref b0)]) (hE : Ev g (fun q : Nat => s.heap.size ≤ q) s) (hcc : cells + 1 ≤ 601024) (hss : slots + 6 ≤ 7293034) (kk : ∀ (wx rx : va_W) (tx : List (ClassId × FieldType)) (wm : va_W) (fo : Nat → Int64) (H : Heap) (locs : List Loc) (ls : Array Slot), XW g x0 wx rx tx → MW g m0 wm tm → va_K (dC, dI) vwCl (tx ++ (tm ++ [(cO, .long)])) s → va_P (dC, dI) vwCl (wx ++ (rx ++ (wm ++ ([(o0, .inl (cO, 1, .inr (.inl fo)))] : va_W)))) H → va_D (fun q : Nat => s.heap.size ≤ q) (wx ++ (rx ++ (wm ++ ([(o0, .inl (cO, 1, .inr (.inl fo)))] : va_W)))) → va_S (fun q : Nat => s.heap.size ≤ q) s.heap H locs → lv_has ls 7 [(4, .int i), (3, .ref o0), (2, .ref m0), (1, .ref x0), (0, .ref b0)] → W p l e room_1 s m #[Value.ref b0] below meth c H locs (cells + 1) (slots + 6) Q (F0 m 1283 ls [])) : W p l e room_1 s m #[Value.ref b0] below meth c H locs cells slots Q (F0 m 241 ls []) := by
  obtain ⟨hx, hb, hr, hml, hown, hts0, hXs, hbl, hlocks, hgv⟩ := id C0
  have hbA : ¬ (fun q : Nat => s.heap.size ≤ q) b0 := Nat.not_le.mpr hbl
  refine lv_aload_n hx hb dL_law_241 rfl (lv_at hl 3 rfl) ?_
  refine lv_aload_n hx hb dL_law_242 rfl (lv_at hl 4 rfl) ?_
  refine lv_iload hx hb dL_law_243 (lv_at hl 0 rfl) ?_
  refine lv_iconst (v := 1) hx hb dL_law_245 (by decide) ?_
  refine lv_iadd hx hb dL_law_246 ?_
  refine lv_topi (fun x1 e_x1 => ?_)
  have e_x1 := ti_add e_x1 rfl (show (1 : Int32).toInt = 1 by decide) (by omega)
  refine va_sld hx hb hXs hbl hbA hS (vinI (by omega) (by omega)) dL_law_247 ?_
  refine lv_topi (fun x2 e_x2 => ?_)
  refine ox_text l C0 dC dI g  (x2) hX hK hP hD hS hE hl.1 (by omega) (by omega) (fun r3 wx rx tx H locs hX hK hP hD hS => ?_)
  refine lv_pop hx hb dL_law_251 rfl ?_
  refine lv_aload_n hx hb dL_law_252 rfl (lv_at hl 2 rfl) ?_
  refine lv_aload_n hx hb dL_law_253 rfl (lv_at hl 4 rfl) ?_
  refine lv_iload hx hb dL_law_254 (lv_at hl 0 rfl) ?_
  refine lv_iconst (v := 1) hx hb dL_law_256 (by decide) ?_
  refine lv_iadd hx hb dL_law_257 ?_
  refine lv_topi (fun x4 e_x4 => ?_)
  have e_x4 := ti_add e_x4 rfl (show (1 : Int32).toInt = 1 by decide) (by omega)
  refine va_sld hx hb hXs hbl hbA hS (vinI (by omega) (by omega)) dL_law_258 ?_
  refine lv_topi (fun x5 e_x5 => ?_)
  refine om_text l C0 dC dI g  (x5) hM (rotK hK) (rotP hP) (rotD hD) hS hE hl.1 (by omega) (by omega) (fun r6 wm H locs hM hP9 hD9 hS => ?_)
  have hP := rotP hP9
  have hD := rotD hD9
  refine lv_pop hx hb dL_law_262 rfl ?_
  refine lv_goto (tgt := 1283) hx hb dL_law_263 (by decide) ?_
  refine W.widen (k := cells + 1) (n := slots + 6) (by omega) (by omega) ?_
  exact kk wx rx tx wm fo H locs _ hX hM hK hP hD hS (lv_sub hl [0, 1, 2, 3, 4] rfl)
set_option maxHeartbeats 4000000 in
set_option maxRecDepth 100000 in
theorem oc_2 {p : Program} {e : Env} {s : State} {m : MethodId} {below : List Frame} {meth : Method} {c : Code} (l : Launch) (hflags : l.flags = flags0) {b0 L : Nat} {xs : Nat → Int32} (C0 : lw_At p s m meth c b0 L xs) (dC : Nat → ClassId) (dI : Nat → Nat → Nat) (g : Gv) {x0 m0 o0 : Nat} {cO : ClassId} {tm : List (ClassId × FieldType)} {wx rx wm : va_W} {tx : List (ClassId × FieldType)} {fo : Nat → Int64} {i : Int32} {H : Heap} {locs : List Loc} {ls : Array Slot} {cells slots : Nat} {Q : State → Prop} (h0 : 0 ≤ i.toInt) (h1 : i.toInt + 6 ≤ (L : Int)) (hL : L ≤ 3072) (hX : XW g x0 wx rx tx) (hM : MW g m0 wm tm) (hK : va_K (dC, dI) vwCl (tx ++ (tm ++ [(cO, .long)])) s) (hP : va_P (dC, dI) vwCl (wx ++ (rx ++ (wm ++ ([(o0, .inl (cO, 1, .inr (.inl fo)))] : va_W)))) H) (hD : va_D (fun q : Nat => s.heap.size ≤ q) (wx ++ (rx ++ (wm ++ ([(o0, .inl (cO, 1, .inr (.inl fo)))] : va_W))))) (hS : va_S (fun q : Nat => s.heap.size ≤ q) s.heap H locs) (hl : lv_has ls 7 [(4, .int i), (3, .ref o0), (2, .ref m0), (1, .ref x0), (0, .ref b0)]) (hE : Ev g (fun q : Nat => s.heap.size ≤ q) s) (hcc : cells + 1 ≤ 601024) (hss : slots + 6 ≤ 7293034) (kk : ∀ (wx rx : va_W) (tx : List (ClassId × FieldType)) (wm : va_W) (fo : Nat → Int64) (H : Heap) (locs : List Loc) (ls : Array Slot), XW g x0 wx rx tx → MW g m0 wm tm → va_K (dC, dI) vwCl (tx ++ (tm ++ [(cO, .long)])) s → va_P (dC, dI) vwCl (wx ++ (rx ++ (wm ++ ([(o0, .inl (cO, 1, .inr (.inl fo)))] : va_W)))) H → va_D (fun q : Nat => s.heap.size ≤ q) (wx ++ (rx ++ (wm ++ ([(o0, .inl (cO, 1, .inr (.inl fo)))] : va_W)))) → va_S (fun q : Nat => s.heap.size ≤ q) s.heap H locs → lv_has ls 7 [(4, .int i), (3, .ref o0), (2, .ref m0), (1, .ref x0), (0, .ref b0)] → W p l e room_1 s m #[Value.ref b0] below meth c H locs (cells + 1) (slots + 6) Q (F0 m 1283 ls [])) : W p l e room_1 s m #[Value.ref b0] below meth c H locs cells slots Q (F0 m 266 ls []) := by
  obtain ⟨hx, hb, hr, hml, hown, hts0, hXs, hbl, hlocks, hgv⟩ := id C0
  have hbA : ¬ (fun q : Nat => s.heap.size ≤ q) b0 := Nat.not_le.mpr hbl
  refine lv_aload_n hx hb dL_law_266 rfl (lv_at hl 3 rfl) ?_
  refine lv_aload_n hx hb dL_law_267 rfl (lv_at hl 4 rfl) ?_
  refine lv_iload hx hb dL_law_268 (lv_at hl 0 rfl) ?_
  refine lv_iconst (v := 1) hx hb dL_law_270 (by decide) ?_
  refine lv_iadd hx hb dL_law_271 ?_
  refine lv_topi (fun x1 e_x1 => ?_)
  have e_x1 := ti_add e_x1 rfl (show (1 : Int32).toInt = 1 by decide) (by omega)
  refine va_sld hx hb hXs hbl hbA hS (vinI (by omega) (by omega)) dL_law_272 ?_
  refine lv_topi (fun x2 e_x2 => ?_)
  refine lv_aload_n hx hb dL_law_273 rfl (lv_at hl 4 rfl) ?_
  refine lv_iload hx hb dL_law_274 (lv_at hl 0 rfl) ?_
  refine lv_iconst (v := 2) hx hb dL_law_276 (by decide) ?_
  refine lv_iadd hx hb dL_law_277 ?_
  refine lv_topi (fun x3 e_x3 => ?_)
  have e_x3 := ti_add e_x3 rfl (show (2 : Int32).toInt = 2 by decide) (by omega)
  refine va_sld hx hb hXs hbl hbA hS (vinI (by omega) (by omega)) dL_law_278 ?_
  refine lv_topi (fun x4 e_x4 => ?_)
  refine lv_aload_n hx hb dL_law_279 rfl (lv_at hl 4 rfl) ?_
  refine lv_iload hx hb dL_law_280 (lv_at hl 0 rfl) ?_
  refine lv_iconst (v := 3) hx hb dL_law_282 (by decide) ?_
  refine lv_iadd hx hb dL_law_283 ?_
  refine lv_topi (fun x5 e_x5 => ?_)
  have e_x5 := ti_add e_x5 rfl (show (3 : Int32).toInt = 3 by decide) (by omega)
  refine va_sld hx hb hXs hbl hbA hS (vinI (by omega) (by omega)) dL_law_284 ?_
  refine lv_topi (fun x6 e_x6 => ?_)
  refine ox_day l C0 dC dI g  (x2) (x4) (x6) hX hK hP hD hS hE hl.1 (by omega) (by omega) (fun r7 wx rx tx H locs hX hK hP hD hS => ?_)
  refine lv_pop hx hb dL_law_288 rfl ?_
  refine lv_aload_n hx hb dL_law_289 rfl (lv_at hl 2 rfl) ?_
  refine lv_aload_n hx hb dL_law_290 rfl (lv_at hl 4 rfl) ?_
  refine lv_iload hx hb dL_law_291 (lv_at hl 0 rfl) ?_
  refine lv_iconst (v := 1) hx hb dL_law_293 (by decide) ?_
  refine lv_iadd hx hb dL_law_294 ?_
  refine lv_topi (fun x8 e_x8 => ?_)
  have e_x8 := ti_add e_x8 rfl (show (1 : Int32).toInt = 1 by decide) (by omega)
  refine va_sld hx hb hXs hbl hbA hS (vinI (by omega) (by omega)) dL_law_295 ?_
  refine lv_topi (fun x9 e_x9 => ?_)
  refine lv_aload_n hx hb dL_law_296 rfl (lv_at hl 4 rfl) ?_
  refine lv_iload hx hb dL_law_297 (lv_at hl 0 rfl) ?_
  refine lv_iconst (v := 2) hx hb dL_law_299 (by decide) ?_
  refine lv_iadd hx hb dL_law_300 ?_
  refine lv_topi (fun x10 e_x10 => ?_)
  have e_x10 := ti_add e_x10 rfl (show (2 : Int32).toInt = 2 by decide) (by omega)
  refine va_sld hx hb hXs hbl hbA hS (vinI (by omega) (by omega)) dL_law_301 ?_
  refine lv_topi (fun x11 e_x11 => ?_)
  refine lv_aload_n hx hb dL_law_302 rfl (lv_at hl 4 rfl) ?_
  refine lv_iload hx hb dL_law_303 (lv_at hl 0 rfl) ?_
  refine lv_iconst (v := 3) hx hb dL_law_305 (by decide) ?_
  refine lv_iadd hx hb dL_law_306 ?_
  refine lv_topi (fun x12 e_x12 => ?_)
  have e_x12 := ti_add e_x12 rfl (show (3 : Int32).toInt = 3 by decide) (by omega)
  refine va_sld hx hb hXs hbl hbA hS (vinI (by omega) (by omega)) dL_law_307 ?_
  refine lv_topi (fun x13 e_x13 => ?_)
  refine om_day l C0 dC dI g  (x9) (x11) (x13) hM (rotK hK) (rotP hP) (rotD hD) hS hE hl.1 (by omega) (by omega) (fun r14 wm H locs hM hP9 hD9 hS => ?_)
  have hP := rotP hP9
  have hD := rotD hD9
  refine lv_pop hx hb dL_law_311 rfl ?_
  refine lv_goto (tgt := 1283) hx hb dL_law_312 (by decide) ?_
  refine W.widen (k := cells + 1) (n := slots + 6) (by omega) (by omega) ?_
  exact kk wx rx tx wm fo H locs _ hX hM hK hP hD hS (lv_sub hl [0, 1, 2, 3, 4] rfl)
set_option maxHeartbeats 4000000 in
set_option maxRecDepth 100000 in
theorem oc_3 {p : Program} {e : Env} {s : State} {m : MethodId} {below : List Frame} {meth : Method} {c : Code} (l : Launch) (hflags : l.flags = flags0) {b0 L : Nat} {xs : Nat → Int32} (C0 : lw_At p s m meth c b0 L xs) (dC : Nat → ClassId) (dI : Nat → Nat → Nat) (g : Gv) {x0 m0 o0 : Nat} {cO : ClassId} {tm : List (ClassId × FieldType)} {wx rx wm : va_W} {tx : List (ClassId × FieldType)} {fo : Nat → Int64} {i : Int32} {H : Heap} {locs : List Loc} {ls : Array Slot} {cells slots : Nat} {Q : State → Prop} (h0 : 0 ≤ i.toInt) (h1 : i.toInt + 6 ≤ (L : Int)) (hL : L ≤ 3072) (hX : XW g x0 wx rx tx) (hM : MW g m0 wm tm) (hK : va_K (dC, dI) vwCl (tx ++ (tm ++ [(cO, .long)])) s) (hP : va_P (dC, dI) vwCl (wx ++ (rx ++ (wm ++ ([(o0, .inl (cO, 1, .inr (.inl fo)))] : va_W)))) H) (hD : va_D (fun q : Nat => s.heap.size ≤ q) (wx ++ (rx ++ (wm ++ ([(o0, .inl (cO, 1, .inr (.inl fo)))] : va_W))))) (hS : va_S (fun q : Nat => s.heap.size ≤ q) s.heap H locs) (hl : lv_has ls 7 [(4, .int i), (3, .ref o0), (2, .ref m0), (1, .ref x0), (0, .ref b0)]) (hE : Ev g (fun q : Nat => s.heap.size ≤ q) s) (hcc : cells + 1 ≤ 601024) (hss : slots + 6 ≤ 7293034) (kk : ∀ (wx rx : va_W) (tx : List (ClassId × FieldType)) (wm : va_W) (fo : Nat → Int64) (H : Heap) (locs : List Loc) (ls : Array Slot), XW g x0 wx rx tx → MW g m0 wm tm → va_K (dC, dI) vwCl (tx ++ (tm ++ [(cO, .long)])) s → va_P (dC, dI) vwCl (wx ++ (rx ++ (wm ++ ([(o0, .inl (cO, 1, .inr (.inl fo)))] : va_W)))) H → va_D (fun q : Nat => s.heap.size ≤ q) (wx ++ (rx ++ (wm ++ ([(o0, .inl (cO, 1, .inr (.inl fo)))] : va_W)))) → va_S (fun q : Nat => s.heap.size ≤ q) s.heap H locs → lv_has ls 7 [(4, .int i), (3, .ref o0), (2, .ref m0), (1, .ref x0), (0, .ref b0)] → W p l e room_1 s m #[Value.ref b0] below meth c H locs (cells + 1) (slots + 6) Q (F0 m 1283 ls [])) : W p l e room_1 s m #[Value.ref b0] below meth c H locs cells slots Q (F0 m 315 ls []) := by
  obtain ⟨hx, hb, hr, hml, hown, hts0, hXs, hbl, hlocks, hgv⟩ := id C0
  have hbA : ¬ (fun q : Nat => s.heap.size ≤ q) b0 := Nat.not_le.mpr hbl
  refine lv_aload_n hx hb dL_law_315 rfl (lv_at hl 3 rfl) ?_
  refine lv_aload_n hx hb dL_law_316 rfl (lv_at hl 4 rfl) ?_
  refine lv_iload hx hb dL_law_317 (lv_at hl 0 rfl) ?_
  refine lv_iconst (v := 1) hx hb dL_law_319 (by decide) ?_
  refine lv_iadd hx hb dL_law_320 ?_
  refine lv_topi (fun x1 e_x1 => ?_)
  have e_x1 := ti_add e_x1 rfl (show (1 : Int32).toInt = 1 by decide) (by omega)
  refine va_sld hx hb hXs hbl hbA hS (vinI (by omega) (by omega)) dL_law_321 ?_
  refine lv_topi (fun x2 e_x2 => ?_)
  refine lv_aload_n hx hb dL_law_322 rfl (lv_at hl 4 rfl) ?_
  refine lv_iload hx hb dL_law_323 (lv_at hl 0 rfl) ?_
  refine lv_iconst (v := 2) hx hb dL_law_325 (by decide) ?_
  refine lv_iadd hx hb dL_law_326 ?_
  refine lv_topi (fun x3 e_x3 => ?_)
  have e_x3 := ti_add e_x3 rfl (show (2 : Int32).toInt = 2 by decide) (by omega)
  refine va_sld hx hb hXs hbl hbA hS (vinI (by omega) (by omega)) dL_law_327 ?_
  refine lv_topi (fun x4 e_x4 => ?_)
  refine ox_date l C0 dC dI g  (x2) (x4) hX hK hP hD hS hE hl.1 (by omega) (by omega) (fun r5 wx rx tx H locs hX hK hP hD hS => ?_)
  refine lv_pop hx hb dL_law_331 rfl ?_
  refine lv_aload_n hx hb dL_law_332 rfl (lv_at hl 2 rfl) ?_
  refine lv_aload_n hx hb dL_law_333 rfl (lv_at hl 4 rfl) ?_
  refine lv_iload hx hb dL_law_334 (lv_at hl 0 rfl) ?_
  refine lv_iconst (v := 1) hx hb dL_law_336 (by decide) ?_
  refine lv_iadd hx hb dL_law_337 ?_
  refine lv_topi (fun x6 e_x6 => ?_)
  have e_x6 := ti_add e_x6 rfl (show (1 : Int32).toInt = 1 by decide) (by omega)
  refine va_sld hx hb hXs hbl hbA hS (vinI (by omega) (by omega)) dL_law_338 ?_
  refine lv_topi (fun x7 e_x7 => ?_)
  refine lv_aload_n hx hb dL_law_339 rfl (lv_at hl 4 rfl) ?_
  refine lv_iload hx hb dL_law_340 (lv_at hl 0 rfl) ?_
  refine lv_iconst (v := 2) hx hb dL_law_342 (by decide) ?_
  refine lv_iadd hx hb dL_law_343 ?_
  refine lv_topi (fun x8 e_x8 => ?_)
  have e_x8 := ti_add e_x8 rfl (show (2 : Int32).toInt = 2 by decide) (by omega)
  refine va_sld hx hb hXs hbl hbA hS (vinI (by omega) (by omega)) dL_law_344 ?_
  refine lv_topi (fun x9 e_x9 => ?_)
  refine om_date l C0 dC dI g  (x7) (x9) hM (rotK hK) (rotP hP) (rotD hD) hS hE hl.1 (by omega) (by omega) (fun r10 wm H locs hM hP9 hD9 hS => ?_)
  have hP := rotP hP9
  have hD := rotD hD9
  refine lv_pop hx hb dL_law_348 rfl ?_
  refine lv_goto (tgt := 1283) hx hb dL_law_349 (by decide) ?_
  refine W.widen (k := cells + 1) (n := slots + 6) (by omega) (by omega) ?_
  exact kk wx rx tx wm fo H locs _ hX hM hK hP hD hS (lv_sub hl [0, 1, 2, 3, 4] rfl)
set_option maxHeartbeats 4000000 in
set_option maxRecDepth 100000 in
theorem oc_4 {p : Program} {e : Env} {s : State} {m : MethodId} {below : List Frame} {meth : Method} {c : Code} (l : Launch) (hflags : l.flags = flags0) {b0 L : Nat} {xs : Nat → Int32} (C0 : lw_At p s m meth c b0 L xs) (dC : Nat → ClassId) (dI : Nat → Nat → Nat) (g : Gv) {x0 m0 o0 : Nat} {cO : ClassId} {tm : List (ClassId × FieldType)} {wx rx wm : va_W} {tx : List (ClassId × FieldType)} {fo : Nat → Int64} {i : Int32} {H : Heap} {locs : List Loc} {ls : Array Slot} {cells slots : Nat} {Q : State → Prop} (h0 : 0 ≤ i.toInt) (h1 : i.toInt + 6 ≤ (L : Int)) (hL : L ≤ 3072) (hX : XW g x0 wx rx tx) (hM : MW g m0 wm tm) (hK : va_K (dC, dI) vwCl (tx ++ (tm ++ [(cO, .long)])) s) (hP : va_P (dC, dI) vwCl (wx ++ (rx ++ (wm ++ ([(o0, .inl (cO, 1, .inr (.inl fo)))] : va_W)))) H) (hD : va_D (fun q : Nat => s.heap.size ≤ q) (wx ++ (rx ++ (wm ++ ([(o0, .inl (cO, 1, .inr (.inl fo)))] : va_W))))) (hS : va_S (fun q : Nat => s.heap.size ≤ q) s.heap H locs) (hl : lv_has ls 7 [(4, .int i), (3, .ref o0), (2, .ref m0), (1, .ref x0), (0, .ref b0)]) (hE : Ev g (fun q : Nat => s.heap.size ≤ q) s) (hcc : cells + 1 ≤ 601024) (hss : slots + 6 ≤ 7293034) (kk : ∀ (wx rx : va_W) (tx : List (ClassId × FieldType)) (wm : va_W) (fo : Nat → Int64) (H : Heap) (locs : List Loc) (ls : Array Slot), XW g x0 wx rx tx → MW g m0 wm tm → va_K (dC, dI) vwCl (tx ++ (tm ++ [(cO, .long)])) s → va_P (dC, dI) vwCl (wx ++ (rx ++ (wm ++ ([(o0, .inl (cO, 1, .inr (.inl fo)))] : va_W)))) H → va_D (fun q : Nat => s.heap.size ≤ q) (wx ++ (rx ++ (wm ++ ([(o0, .inl (cO, 1, .inr (.inl fo)))] : va_W)))) → va_S (fun q : Nat => s.heap.size ≤ q) s.heap H locs → lv_has ls 7 [(4, .int i), (3, .ref o0), (2, .ref m0), (1, .ref x0), (0, .ref b0)] → W p l e room_1 s m #[Value.ref b0] below meth c H locs (cells + 1) (slots + 6) Q (F0 m 1283 ls [])) : W p l e room_1 s m #[Value.ref b0] below meth c H locs cells slots Q (F0 m 352 ls []) := by
  obtain ⟨hx, hb, hr, hml, hown, hts0, hXs, hbl, hlocks, hgv⟩ := id C0
  have hbA : ¬ (fun q : Nat => s.heap.size ≤ q) b0 := Nat.not_le.mpr hbl
  refine lv_aload_n hx hb dL_law_352 rfl (lv_at hl 3 rfl) ?_
  refine lv_aload_n hx hb dL_law_353 rfl (lv_at hl 4 rfl) ?_
  refine lv_iload hx hb dL_law_354 (lv_at hl 0 rfl) ?_
  refine lv_iconst (v := 1) hx hb dL_law_356 (by decide) ?_
  refine lv_iadd hx hb dL_law_357 ?_
  refine lv_topi (fun x1 e_x1 => ?_)
  have e_x1 := ti_add e_x1 rfl (show (1 : Int32).toInt = 1 by decide) (by omega)
  refine va_sld hx hb hXs hbl hbA hS (vinI (by omega) (by omega)) dL_law_358 ?_
  refine lv_topi (fun x2 e_x2 => ?_)
  refine lv_aload_n hx hb dL_law_359 rfl (lv_at hl 4 rfl) ?_
  refine lv_iload hx hb dL_law_360 (lv_at hl 0 rfl) ?_
  refine lv_iconst (v := 2) hx hb dL_law_362 (by decide) ?_
  refine lv_iadd hx hb dL_law_363 ?_
  refine lv_topi (fun x3 e_x3 => ?_)
  have e_x3 := ti_add e_x3 rfl (show (2 : Int32).toInt = 2 by decide) (by omega)
  refine va_sld hx hb hXs hbl hbA hS (vinI (by omega) (by omega)) dL_law_364 ?_
  refine lv_topi (fun x4 e_x4 => ?_)
  refine ox_plus l C0 dC dI g  (x2) (x4) hX hK hP hD hS hE hl.1 (by omega) (by omega) (fun r5 wx rx tx H locs hpfr5 hX hK hP hD hS => ?_)
  refine lv_aload_n hx hb dL_law_368 rfl (lv_at hl 2 rfl) ?_
  refine lv_aload_n hx hb dL_law_369 rfl (lv_at hl 4 rfl) ?_
  refine lv_iload hx hb dL_law_370 (lv_at hl 0 rfl) ?_
  refine lv_iconst (v := 1) hx hb dL_law_372 (by decide) ?_
  refine lv_iadd hx hb dL_law_373 ?_
  refine lv_topi (fun x6 e_x6 => ?_)
  have e_x6 := ti_add e_x6 rfl (show (1 : Int32).toInt = 1 by decide) (by omega)
  refine va_sld hx hb hXs hbl hbA hS (vinI (by omega) (by omega)) dL_law_374 ?_
  refine lv_topi (fun x7 e_x7 => ?_)
  obtain rfl : x2 = x7 := by rw [e_x2, e_x7]; exact congrArg (fun z : Int32 => xs z.toNatClampNeg) (Int32.toInt_inj.mp (by omega) : x1 = x6)
  refine lv_aload_n hx hb dL_law_375 rfl (lv_at hl 4 rfl) ?_
  refine lv_iload hx hb dL_law_376 (lv_at hl 0 rfl) ?_
  refine lv_iconst (v := 2) hx hb dL_law_378 (by decide) ?_
  refine lv_iadd hx hb dL_law_379 ?_
  refine lv_topi (fun x8 e_x8 => ?_)
  have e_x8 := ti_add e_x8 rfl (show (2 : Int32).toInt = 2 by decide) (by omega)
  refine va_sld hx hb hXs hbl hbA hS (vinI (by omega) (by omega)) dL_law_380 ?_
  refine lv_topi (fun x9 e_x9 => ?_)
  obtain rfl : x4 = x9 := by rw [e_x4, e_x9]; exact congrArg (fun z : Int32 => xs z.toNatClampNeg) (Int32.toInt_inj.mp (by omega) : x3 = x8)
  refine om_plus l C0 dC dI g (r5) (x2) (x4) hM (rotK hK) (rotP hP) (rotD hD) hS hE hl.1 (by omega) (by omega) (fun r10 wm H locs hpfr10 hM hP9 hD9 hS => ?_)
  have hP := rotP hP9
  have hD := rotD hD9
  refine lv_icmp_eq (tgt := 1283) hx hb dL_law_384 (by decide) (fun _ => ?_) (fun h9 => absurd (hpfr5.trans hpfr10.symm) h9)
  refine W.widen (k := cells + 1) (n := slots + 6) (by omega) (by omega) ?_
  exact kk wx rx tx wm fo H locs _ hX hM hK hP hD hS (lv_sub hl [0, 1, 2, 3, 4] rfl)
set_option maxHeartbeats 4000000 in
set_option maxRecDepth 100000 in
theorem oc_5 {p : Program} {e : Env} {s : State} {m : MethodId} {below : List Frame} {meth : Method} {c : Code} (l : Launch) (hflags : l.flags = flags0) {b0 L : Nat} {xs : Nat → Int32} (C0 : lw_At p s m meth c b0 L xs) (dC : Nat → ClassId) (dI : Nat → Nat → Nat) (g : Gv) {x0 m0 o0 : Nat} {cO : ClassId} {tm : List (ClassId × FieldType)} {wx rx wm : va_W} {tx : List (ClassId × FieldType)} {fo : Nat → Int64} {i : Int32} {H : Heap} {locs : List Loc} {ls : Array Slot} {cells slots : Nat} {Q : State → Prop} (h0 : 0 ≤ i.toInt) (h1 : i.toInt + 6 ≤ (L : Int)) (hL : L ≤ 3072) (hX : XW g x0 wx rx tx) (hM : MW g m0 wm tm) (hK : va_K (dC, dI) vwCl (tx ++ (tm ++ [(cO, .long)])) s) (hP : va_P (dC, dI) vwCl (wx ++ (rx ++ (wm ++ ([(o0, .inl (cO, 1, .inr (.inl fo)))] : va_W)))) H) (hD : va_D (fun q : Nat => s.heap.size ≤ q) (wx ++ (rx ++ (wm ++ ([(o0, .inl (cO, 1, .inr (.inl fo)))] : va_W))))) (hS : va_S (fun q : Nat => s.heap.size ≤ q) s.heap H locs) (hl : lv_has ls 7 [(4, .int i), (3, .ref o0), (2, .ref m0), (1, .ref x0), (0, .ref b0)]) (hE : Ev g (fun q : Nat => s.heap.size ≤ q) s) (hcc : cells + 1 ≤ 601024) (hss : slots + 6 ≤ 7293034) (kk : ∀ (wx rx : va_W) (tx : List (ClassId × FieldType)) (wm : va_W) (fo : Nat → Int64) (H : Heap) (locs : List Loc) (ls : Array Slot), XW g x0 wx rx tx → MW g m0 wm tm → va_K (dC, dI) vwCl (tx ++ (tm ++ [(cO, .long)])) s → va_P (dC, dI) vwCl (wx ++ (rx ++ (wm ++ ([(o0, .inl (cO, 1, .inr (.inl fo)))] : va_W)))) H → va_D (fun q : Nat => s.heap.size ≤ q) (wx ++ (rx ++ (wm ++ ([(o0, .inl (cO, 1, .inr (.inl fo)))] : va_W)))) → va_S (fun q : Nat => s.heap.size ≤ q) s.heap H locs → lv_has ls 7 [(4, .int i), (3, .ref o0), (2, .ref m0), (1, .ref x0), (0, .ref b0)] → W p l e room_1 s m #[Value.ref b0] below meth c H locs (cells + 1) (slots + 6) Q (F0 m 1283 ls [])) : W p l e room_1 s m #[Value.ref b0] below meth c H locs cells slots Q (F0 m 389 ls []) := by
  obtain ⟨hx, hb, hr, hml, hown, hts0, hXs, hbl, hlocks, hgv⟩ := id C0
  have hbA : ¬ (fun q : Nat => s.heap.size ≤ q) b0 := Nat.not_le.mpr hbl
  refine lv_aload_n hx hb dL_law_389 rfl (lv_at hl 3 rfl) ?_
  refine lv_aload_n hx hb dL_law_390 rfl (lv_at hl 4 rfl) ?_
  refine lv_iload hx hb dL_law_391 (lv_at hl 0 rfl) ?_
  refine lv_iconst (v := 1) hx hb dL_law_393 (by decide) ?_
  refine lv_iadd hx hb dL_law_394 ?_
  refine lv_topi (fun x1 e_x1 => ?_)
  have e_x1 := ti_add e_x1 rfl (show (1 : Int32).toInt = 1 by decide) (by omega)
  refine va_sld hx hb hXs hbl hbA hS (vinI (by omega) (by omega)) dL_law_395 ?_
  refine lv_topi (fun x2 e_x2 => ?_)
  refine lv_aload_n hx hb dL_law_396 rfl (lv_at hl 4 rfl) ?_
  refine lv_iload hx hb dL_law_397 (lv_at hl 0 rfl) ?_
  refine lv_iconst (v := 2) hx hb dL_law_399 (by decide) ?_
  refine lv_iadd hx hb dL_law_400 ?_
  refine lv_topi (fun x3 e_x3 => ?_)
  have e_x3 := ti_add e_x3 rfl (show (2 : Int32).toInt = 2 by decide) (by omega)
  refine va_sld hx hb hXs hbl hbA hS (vinI (by omega) (by omega)) dL_law_401 ?_
  refine lv_topi (fun x4 e_x4 => ?_)
  refine ox_piece l C0 dC dI g  (x2) (x4) hX hK hP hD hS hE hl.1 (by omega) (by omega) (fun r5 wx rx tx H locs hX hK hP hD hS => ?_)
  refine lv_pop hx hb dL_law_405 rfl ?_
  refine lv_aload_n hx hb dL_law_406 rfl (lv_at hl 2 rfl) ?_
  refine lv_aload_n hx hb dL_law_407 rfl (lv_at hl 4 rfl) ?_
  refine lv_iload hx hb dL_law_408 (lv_at hl 0 rfl) ?_
  refine lv_iconst (v := 1) hx hb dL_law_410 (by decide) ?_
  refine lv_iadd hx hb dL_law_411 ?_
  refine lv_topi (fun x6 e_x6 => ?_)
  have e_x6 := ti_add e_x6 rfl (show (1 : Int32).toInt = 1 by decide) (by omega)
  refine va_sld hx hb hXs hbl hbA hS (vinI (by omega) (by omega)) dL_law_412 ?_
  refine lv_topi (fun x7 e_x7 => ?_)
  refine lv_aload_n hx hb dL_law_413 rfl (lv_at hl 4 rfl) ?_
  refine lv_iload hx hb dL_law_414 (lv_at hl 0 rfl) ?_
  refine lv_iconst (v := 2) hx hb dL_law_416 (by decide) ?_
  refine lv_iadd hx hb dL_law_417 ?_
  refine lv_topi (fun x8 e_x8 => ?_)
  have e_x8 := ti_add e_x8 rfl (show (2 : Int32).toInt = 2 by decide) (by omega)
  refine va_sld hx hb hXs hbl hbA hS (vinI (by omega) (by omega)) dL_law_418 ?_
  refine lv_topi (fun x9 e_x9 => ?_)
  refine om_piece l C0 dC dI g  (x7) (x9) hM (rotK hK) (rotP hP) (rotD hD) hS hE hl.1 (by omega) (by omega) (fun r10 wm H locs hM hP9 hD9 hS => ?_)
  have hP := rotP hP9
  have hD := rotD hD9
  refine lv_pop hx hb dL_law_422 rfl ?_
  refine lv_goto (tgt := 1283) hx hb dL_law_423 (by decide) ?_
  refine W.widen (k := cells + 1) (n := slots + 6) (by omega) (by omega) ?_
  exact kk wx rx tx wm fo H locs _ hX hM hK hP hD hS (lv_sub hl [0, 1, 2, 3, 4] rfl)
set_option maxHeartbeats 4000000 in
set_option maxRecDepth 100000 in
theorem oc_6 {p : Program} {e : Env} {s : State} {m : MethodId} {below : List Frame} {meth : Method} {c : Code} (l : Launch) (hflags : l.flags = flags0) {b0 L : Nat} {xs : Nat → Int32} (C0 : lw_At p s m meth c b0 L xs) (dC : Nat → ClassId) (dI : Nat → Nat → Nat) (g : Gv) {x0 m0 o0 : Nat} {cO : ClassId} {tm : List (ClassId × FieldType)} {wx rx wm : va_W} {tx : List (ClassId × FieldType)} {fo : Nat → Int64} {i : Int32} {H : Heap} {locs : List Loc} {ls : Array Slot} {cells slots : Nat} {Q : State → Prop} (h0 : 0 ≤ i.toInt) (h1 : i.toInt + 6 ≤ (L : Int)) (hL : L ≤ 3072) (hX : XW g x0 wx rx tx) (hM : MW g m0 wm tm) (hK : va_K (dC, dI) vwCl (tx ++ (tm ++ [(cO, .long)])) s) (hP : va_P (dC, dI) vwCl (wx ++ (rx ++ (wm ++ ([(o0, .inl (cO, 1, .inr (.inl fo)))] : va_W)))) H) (hD : va_D (fun q : Nat => s.heap.size ≤ q) (wx ++ (rx ++ (wm ++ ([(o0, .inl (cO, 1, .inr (.inl fo)))] : va_W))))) (hS : va_S (fun q : Nat => s.heap.size ≤ q) s.heap H locs) (hl : lv_has ls 7 [(4, .int i), (3, .ref o0), (2, .ref m0), (1, .ref x0), (0, .ref b0)]) (hE : Ev g (fun q : Nat => s.heap.size ≤ q) s) (hcc : cells + 1 ≤ 601024) (hss : slots + 6 ≤ 7293034) (kk : ∀ (wx rx : va_W) (tx : List (ClassId × FieldType)) (wm : va_W) (fo : Nat → Int64) (H : Heap) (locs : List Loc) (ls : Array Slot), XW g x0 wx rx tx → MW g m0 wm tm → va_K (dC, dI) vwCl (tx ++ (tm ++ [(cO, .long)])) s → va_P (dC, dI) vwCl (wx ++ (rx ++ (wm ++ ([(o0, .inl (cO, 1, .inr (.inl fo)))] : va_W)))) H → va_D (fun q : Nat => s.heap.size ≤ q) (wx ++ (rx ++ (wm ++ ([(o0, .inl (cO, 1, .inr (.inl fo)))] : va_W)))) → va_S (fun q : Nat => s.heap.size ≤ q) s.heap H locs → lv_has ls 7 [(4, .int i), (3, .ref o0), (2, .ref m0), (1, .ref x0), (0, .ref b0)] → W p l e room_1 s m #[Value.ref b0] below meth c H locs (cells + 1) (slots + 6) Q (F0 m 1283 ls [])) : W p l e room_1 s m #[Value.ref b0] below meth c H locs cells slots Q (F0 m 426 ls []) := by
  obtain ⟨hx, hb, hr, hml, hown, hts0, hXs, hbl, hlocks, hgv⟩ := id C0
  have hbA : ¬ (fun q : Nat => s.heap.size ≤ q) b0 := Nat.not_le.mpr hbl
  refine lv_aload_n hx hb dL_law_426 rfl (lv_at hl 3 rfl) ?_
  refine lv_aload_n hx hb dL_law_427 rfl (lv_at hl 4 rfl) ?_
  refine lv_iload hx hb dL_law_428 (lv_at hl 0 rfl) ?_
  refine lv_iconst (v := 1) hx hb dL_law_430 (by decide) ?_
  refine lv_iadd hx hb dL_law_431 ?_
  refine lv_topi (fun x1 e_x1 => ?_)
  have e_x1 := ti_add e_x1 rfl (show (1 : Int32).toInt = 1 by decide) (by omega)
  refine va_sld hx hb hXs hbl hbA hS (vinI (by omega) (by omega)) dL_law_432 ?_
  refine lv_topi (fun x2 e_x2 => ?_)
  refine lv_aload_n hx hb dL_law_433 rfl (lv_at hl 4 rfl) ?_
  refine lv_iload hx hb dL_law_434 (lv_at hl 0 rfl) ?_
  refine lv_iconst (v := 2) hx hb dL_law_436 (by decide) ?_
  refine lv_iadd hx hb dL_law_437 ?_
  refine lv_topi (fun x3 e_x3 => ?_)
  have e_x3 := ti_add e_x3 rfl (show (2 : Int32).toInt = 2 by decide) (by omega)
  refine va_sld hx hb hXs hbl hbA hS (vinI (by omega) (by omega)) dL_law_438 ?_
  refine lv_topi (fun x4 e_x4 => ?_)
  refine ox_person l C0 dC dI g  (x2) (x4) hX hK hP hD hS hE hl.1 (by omega) (by omega) (fun r5 wx rx tx H locs hX hK hP hD hS => ?_)
  refine lv_pop hx hb dL_law_442 rfl ?_
  refine lv_aload_n hx hb dL_law_443 rfl (lv_at hl 2 rfl) ?_
  refine lv_aload_n hx hb dL_law_444 rfl (lv_at hl 4 rfl) ?_
  refine lv_iload hx hb dL_law_445 (lv_at hl 0 rfl) ?_
  refine lv_iconst (v := 1) hx hb dL_law_447 (by decide) ?_
  refine lv_iadd hx hb dL_law_448 ?_
  refine lv_topi (fun x6 e_x6 => ?_)
  have e_x6 := ti_add e_x6 rfl (show (1 : Int32).toInt = 1 by decide) (by omega)
  refine va_sld hx hb hXs hbl hbA hS (vinI (by omega) (by omega)) dL_law_449 ?_
  refine lv_topi (fun x7 e_x7 => ?_)
  refine lv_aload_n hx hb dL_law_450 rfl (lv_at hl 4 rfl) ?_
  refine lv_iload hx hb dL_law_451 (lv_at hl 0 rfl) ?_
  refine lv_iconst (v := 2) hx hb dL_law_453 (by decide) ?_
  refine lv_iadd hx hb dL_law_454 ?_
  refine lv_topi (fun x8 e_x8 => ?_)
  have e_x8 := ti_add e_x8 rfl (show (2 : Int32).toInt = 2 by decide) (by omega)
  refine va_sld hx hb hXs hbl hbA hS (vinI (by omega) (by omega)) dL_law_455 ?_
  refine lv_topi (fun x9 e_x9 => ?_)
  refine om_person l C0 dC dI g  (x7) (x9) hM (rotK hK) (rotP hP) (rotD hD) hS hE hl.1 (by omega) (by omega) (fun r10 wm H locs hM hP9 hD9 hS => ?_)
  have hP := rotP hP9
  have hD := rotD hD9
  refine lv_pop hx hb dL_law_459 rfl ?_
  refine lv_goto (tgt := 1283) hx hb dL_law_460 (by decide) ?_
  refine W.widen (k := cells + 1) (n := slots + 6) (by omega) (by omega) ?_
  exact kk wx rx tx wm fo H locs _ hX hM hK hP hD hS (lv_sub hl [0, 1, 2, 3, 4] rfl)
set_option maxHeartbeats 4000000 in
set_option maxRecDepth 100000 in
theorem oc_7 {p : Program} {e : Env} {s : State} {m : MethodId} {below : List Frame} {meth : Method} {c : Code} (l : Launch) (hflags : l.flags = flags0) {b0 L : Nat} {xs : Nat → Int32} (C0 : lw_At p s m meth c b0 L xs) (dC : Nat → ClassId) (dI : Nat → Nat → Nat) (g : Gv) {x0 m0 o0 : Nat} {cO : ClassId} {tm : List (ClassId × FieldType)} {wx rx wm : va_W} {tx : List (ClassId × FieldType)} {fo : Nat → Int64} {i : Int32} {H : Heap} {locs : List Loc} {ls : Array Slot} {cells slots : Nat} {Q : State → Prop} (h0 : 0 ≤ i.toInt) (h1 : i.toInt + 6 ≤ (L : Int)) (hL : L ≤ 3072) (hX : XW g x0 wx rx tx) (hM : MW g m0 wm tm) (hK : va_K (dC, dI) vwCl (tx ++ (tm ++ [(cO, .long)])) s) (hP : va_P (dC, dI) vwCl (wx ++ (rx ++ (wm ++ ([(o0, .inl (cO, 1, .inr (.inl fo)))] : va_W)))) H) (hD : va_D (fun q : Nat => s.heap.size ≤ q) (wx ++ (rx ++ (wm ++ ([(o0, .inl (cO, 1, .inr (.inl fo)))] : va_W))))) (hS : va_S (fun q : Nat => s.heap.size ≤ q) s.heap H locs) (hl : lv_has ls 7 [(4, .int i), (3, .ref o0), (2, .ref m0), (1, .ref x0), (0, .ref b0)]) (hE : Ev g (fun q : Nat => s.heap.size ≤ q) s) (hcc : cells + 1 ≤ 601024) (hss : slots + 6 ≤ 7293034) (kk : ∀ (wx rx : va_W) (tx : List (ClassId × FieldType)) (wm : va_W) (fo : Nat → Int64) (H : Heap) (locs : List Loc) (ls : Array Slot), XW g x0 wx rx tx → MW g m0 wm tm → va_K (dC, dI) vwCl (tx ++ (tm ++ [(cO, .long)])) s → va_P (dC, dI) vwCl (wx ++ (rx ++ (wm ++ ([(o0, .inl (cO, 1, .inr (.inl fo)))] : va_W)))) H → va_D (fun q : Nat => s.heap.size ≤ q) (wx ++ (rx ++ (wm ++ ([(o0, .inl (cO, 1, .inr (.inl fo)))] : va_W)))) → va_S (fun q : Nat => s.heap.size ≤ q) s.heap H locs → lv_has ls 7 [(4, .int i), (3, .ref o0), (2, .ref m0), (1, .ref x0), (0, .ref b0)] → W p l e room_1 s m #[Value.ref b0] below meth c H locs (cells + 1) (slots + 6) Q (F0 m 1283 ls [])) : W p l e room_1 s m #[Value.ref b0] below meth c H locs cells slots Q (F0 m 463 ls []) := by
  obtain ⟨hx, hb, hr, hml, hown, hts0, hXs, hbl, hlocks, hgv⟩ := id C0
  have hbA : ¬ (fun q : Nat => s.heap.size ≤ q) b0 := Nat.not_le.mpr hbl
  refine lv_aload_n hx hb dL_law_463 rfl (lv_at hl 3 rfl) ?_
  refine lv_aload_n hx hb dL_law_464 rfl (lv_at hl 4 rfl) ?_
  refine lv_iload hx hb dL_law_465 (lv_at hl 0 rfl) ?_
  refine lv_iconst (v := 1) hx hb dL_law_467 (by decide) ?_
  refine lv_iadd hx hb dL_law_468 ?_
  refine lv_topi (fun x1 e_x1 => ?_)
  have e_x1 := ti_add e_x1 rfl (show (1 : Int32).toInt = 1 by decide) (by omega)
  refine va_sld hx hb hXs hbl hbA hS (vinI (by omega) (by omega)) dL_law_469 ?_
  refine lv_topi (fun x2 e_x2 => ?_)
  refine lv_aload_n hx hb dL_law_470 rfl (lv_at hl 4 rfl) ?_
  refine lv_iload hx hb dL_law_471 (lv_at hl 0 rfl) ?_
  refine lv_iconst (v := 2) hx hb dL_law_473 (by decide) ?_
  refine lv_iadd hx hb dL_law_474 ?_
  refine lv_topi (fun x3 e_x3 => ?_)
  have e_x3 := ti_add e_x3 rfl (show (2 : Int32).toInt = 2 by decide) (by omega)
  refine va_sld hx hb hXs hbl hbA hS (vinI (by omega) (by omega)) dL_law_475 ?_
  refine lv_topi (fun x4 e_x4 => ?_)
  refine ox_closure l C0 dC dI g  (x2) (x4) hX hK hP hD hS hE hl.1 (by omega) (by omega) (fun r5 wx rx tx H locs hX hK hP hD hS => ?_)
  refine lv_pop hx hb dL_law_479 rfl ?_
  refine lv_aload_n hx hb dL_law_480 rfl (lv_at hl 2 rfl) ?_
  refine lv_aload_n hx hb dL_law_481 rfl (lv_at hl 4 rfl) ?_
  refine lv_iload hx hb dL_law_482 (lv_at hl 0 rfl) ?_
  refine lv_iconst (v := 1) hx hb dL_law_484 (by decide) ?_
  refine lv_iadd hx hb dL_law_485 ?_
  refine lv_topi (fun x6 e_x6 => ?_)
  have e_x6 := ti_add e_x6 rfl (show (1 : Int32).toInt = 1 by decide) (by omega)
  refine va_sld hx hb hXs hbl hbA hS (vinI (by omega) (by omega)) dL_law_486 ?_
  refine lv_topi (fun x7 e_x7 => ?_)
  refine lv_aload_n hx hb dL_law_487 rfl (lv_at hl 4 rfl) ?_
  refine lv_iload hx hb dL_law_488 (lv_at hl 0 rfl) ?_
  refine lv_iconst (v := 2) hx hb dL_law_490 (by decide) ?_
  refine lv_iadd hx hb dL_law_491 ?_
  refine lv_topi (fun x8 e_x8 => ?_)
  have e_x8 := ti_add e_x8 rfl (show (2 : Int32).toInt = 2 by decide) (by omega)
  refine va_sld hx hb hXs hbl hbA hS (vinI (by omega) (by omega)) dL_law_492 ?_
  refine lv_topi (fun x9 e_x9 => ?_)
  refine om_closure l C0 dC dI g  (x7) (x9) hM (rotK hK) (rotP hP) (rotD hD) hS hE hl.1 (by omega) (by omega) (fun r10 wm H locs hM hP9 hD9 hS => ?_)
  have hP := rotP hP9
  have hD := rotD hD9
  refine lv_pop hx hb dL_law_496 rfl ?_
  refine lv_goto (tgt := 1283) hx hb dL_law_497 (by decide) ?_
  refine W.widen (k := cells + 1) (n := slots + 6) (by omega) (by omega) ?_
  exact kk wx rx tx wm fo H locs _ hX hM hK hP hD hS (lv_sub hl [0, 1, 2, 3, 4] rfl)
set_option maxHeartbeats 4000000 in
set_option maxRecDepth 100000 in
theorem oc_8 {p : Program} {e : Env} {s : State} {m : MethodId} {below : List Frame} {meth : Method} {c : Code} (l : Launch) (hflags : l.flags = flags0) {b0 L : Nat} {xs : Nat → Int32} (C0 : lw_At p s m meth c b0 L xs) (dC : Nat → ClassId) (dI : Nat → Nat → Nat) (g : Gv) {x0 m0 o0 : Nat} {cO : ClassId} {tm : List (ClassId × FieldType)} {wx rx wm : va_W} {tx : List (ClassId × FieldType)} {fo : Nat → Int64} {i : Int32} {H : Heap} {locs : List Loc} {ls : Array Slot} {cells slots : Nat} {Q : State → Prop} (h0 : 0 ≤ i.toInt) (h1 : i.toInt + 6 ≤ (L : Int)) (hL : L ≤ 3072) (hX : XW g x0 wx rx tx) (hM : MW g m0 wm tm) (hK : va_K (dC, dI) vwCl (tx ++ (tm ++ [(cO, .long)])) s) (hP : va_P (dC, dI) vwCl (wx ++ (rx ++ (wm ++ ([(o0, .inl (cO, 1, .inr (.inl fo)))] : va_W)))) H) (hD : va_D (fun q : Nat => s.heap.size ≤ q) (wx ++ (rx ++ (wm ++ ([(o0, .inl (cO, 1, .inr (.inl fo)))] : va_W))))) (hS : va_S (fun q : Nat => s.heap.size ≤ q) s.heap H locs) (hl : lv_has ls 7 [(4, .int i), (3, .ref o0), (2, .ref m0), (1, .ref x0), (0, .ref b0)]) (hE : Ev g (fun q : Nat => s.heap.size ≤ q) s) (hcc : cells + 1 ≤ 601024) (hss : slots + 6 ≤ 7293034) (kk : ∀ (wx rx : va_W) (tx : List (ClassId × FieldType)) (wm : va_W) (fo : Nat → Int64) (H : Heap) (locs : List Loc) (ls : Array Slot), XW g x0 wx rx tx → MW g m0 wm tm → va_K (dC, dI) vwCl (tx ++ (tm ++ [(cO, .long)])) s → va_P (dC, dI) vwCl (wx ++ (rx ++ (wm ++ ([(o0, .inl (cO, 1, .inr (.inl fo)))] : va_W)))) H → va_D (fun q : Nat => s.heap.size ≤ q) (wx ++ (rx ++ (wm ++ ([(o0, .inl (cO, 1, .inr (.inl fo)))] : va_W)))) → va_S (fun q : Nat => s.heap.size ≤ q) s.heap H locs → lv_has ls 7 [(4, .int i), (3, .ref o0), (2, .ref m0), (1, .ref x0), (0, .ref b0)] → W p l e room_1 s m #[Value.ref b0] below meth c H locs (cells + 1) (slots + 6) Q (F0 m 1283 ls [])) : W p l e room_1 s m #[Value.ref b0] below meth c H locs cells slots Q (F0 m 500 ls []) := by
  obtain ⟨hx, hb, hr, hml, hown, hts0, hXs, hbl, hlocks, hgv⟩ := id C0
  have hbA : ¬ (fun q : Nat => s.heap.size ≤ q) b0 := Nat.not_le.mpr hbl
  refine lv_aload_n hx hb dL_law_500 rfl (lv_at hl 3 rfl) ?_
  refine lv_aload_n hx hb dL_law_501 rfl (lv_at hl 4 rfl) ?_
  refine lv_iload hx hb dL_law_502 (lv_at hl 0 rfl) ?_
  refine lv_iconst (v := 1) hx hb dL_law_504 (by decide) ?_
  refine lv_iadd hx hb dL_law_505 ?_
  refine lv_topi (fun x1 e_x1 => ?_)
  have e_x1 := ti_add e_x1 rfl (show (1 : Int32).toInt = 1 by decide) (by omega)
  refine va_sld hx hb hXs hbl hbA hS (vinI (by omega) (by omega)) dL_law_506 ?_
  refine lv_topi (fun x2 e_x2 => ?_)
  refine lv_aload_n hx hb dL_law_507 rfl (lv_at hl 4 rfl) ?_
  refine lv_iload hx hb dL_law_508 (lv_at hl 0 rfl) ?_
  refine lv_iconst (v := 2) hx hb dL_law_510 (by decide) ?_
  refine lv_iadd hx hb dL_law_511 ?_
  refine lv_topi (fun x3 e_x3 => ?_)
  have e_x3 := ti_add e_x3 rfl (show (2 : Int32).toInt = 2 by decide) (by omega)
  refine va_sld hx hb hXs hbl hbA hS (vinI (by omega) (by omega)) dL_law_512 ?_
  refine lv_topi (fun x4 e_x4 => ?_)
  refine ox_term l C0 dC dI g  (x2) (x4) hX hK hP hD hS hE hl.1 (by omega) (by omega) (fun r5 wx rx tx H locs hX hK hP hD hS => ?_)
  refine lv_pop hx hb dL_law_516 rfl ?_
  refine lv_aload_n hx hb dL_law_517 rfl (lv_at hl 2 rfl) ?_
  refine lv_aload_n hx hb dL_law_518 rfl (lv_at hl 4 rfl) ?_
  refine lv_iload hx hb dL_law_519 (lv_at hl 0 rfl) ?_
  refine lv_iconst (v := 1) hx hb dL_law_521 (by decide) ?_
  refine lv_iadd hx hb dL_law_522 ?_
  refine lv_topi (fun x6 e_x6 => ?_)
  have e_x6 := ti_add e_x6 rfl (show (1 : Int32).toInt = 1 by decide) (by omega)
  refine va_sld hx hb hXs hbl hbA hS (vinI (by omega) (by omega)) dL_law_523 ?_
  refine lv_topi (fun x7 e_x7 => ?_)
  refine lv_aload_n hx hb dL_law_524 rfl (lv_at hl 4 rfl) ?_
  refine lv_iload hx hb dL_law_525 (lv_at hl 0 rfl) ?_
  refine lv_iconst (v := 2) hx hb dL_law_527 (by decide) ?_
  refine lv_iadd hx hb dL_law_528 ?_
  refine lv_topi (fun x8 e_x8 => ?_)
  have e_x8 := ti_add e_x8 rfl (show (2 : Int32).toInt = 2 by decide) (by omega)
  refine va_sld hx hb hXs hbl hbA hS (vinI (by omega) (by omega)) dL_law_529 ?_
  refine lv_topi (fun x9 e_x9 => ?_)
  refine om_term l C0 dC dI g  (x7) (x9) hM (rotK hK) (rotP hP) (rotD hD) hS hE hl.1 (by omega) (by omega) (fun r10 wm H locs hM hP9 hD9 hS => ?_)
  have hP := rotP hP9
  have hD := rotD hD9
  refine lv_pop hx hb dL_law_533 rfl ?_
  refine lv_goto (tgt := 1283) hx hb dL_law_534 (by decide) ?_
  refine W.widen (k := cells + 1) (n := slots + 6) (by omega) (by omega) ?_
  exact kk wx rx tx wm fo H locs _ hX hM hK hP hD hS (lv_sub hl [0, 1, 2, 3, 4] rfl)
set_option maxHeartbeats 4000000 in
set_option maxRecDepth 100000 in
theorem oc_9 {p : Program} {e : Env} {s : State} {m : MethodId} {below : List Frame} {meth : Method} {c : Code} (l : Launch) (hflags : l.flags = flags0) {b0 L : Nat} {xs : Nat → Int32} (C0 : lw_At p s m meth c b0 L xs) (dC : Nat → ClassId) (dI : Nat → Nat → Nat) (g : Gv) {x0 m0 o0 : Nat} {cO : ClassId} {tm : List (ClassId × FieldType)} {wx rx wm : va_W} {tx : List (ClassId × FieldType)} {fo : Nat → Int64} {i : Int32} {H : Heap} {locs : List Loc} {ls : Array Slot} {cells slots : Nat} {Q : State → Prop} (h0 : 0 ≤ i.toInt) (h1 : i.toInt + 6 ≤ (L : Int)) (hL : L ≤ 3072) (hX : XW g x0 wx rx tx) (hM : MW g m0 wm tm) (hK : va_K (dC, dI) vwCl (tx ++ (tm ++ [(cO, .long)])) s) (hP : va_P (dC, dI) vwCl (wx ++ (rx ++ (wm ++ ([(o0, .inl (cO, 1, .inr (.inl fo)))] : va_W)))) H) (hD : va_D (fun q : Nat => s.heap.size ≤ q) (wx ++ (rx ++ (wm ++ ([(o0, .inl (cO, 1, .inr (.inl fo)))] : va_W))))) (hS : va_S (fun q : Nat => s.heap.size ≤ q) s.heap H locs) (hl : lv_has ls 7 [(4, .int i), (3, .ref o0), (2, .ref m0), (1, .ref x0), (0, .ref b0)]) (hE : Ev g (fun q : Nat => s.heap.size ≤ q) s) (hcc : cells + 1 ≤ 601024) (hss : slots + 6 ≤ 7293034) (kk : ∀ (wx rx : va_W) (tx : List (ClassId × FieldType)) (wm : va_W) (fo : Nat → Int64) (H : Heap) (locs : List Loc) (ls : Array Slot), XW g x0 wx rx tx → MW g m0 wm tm → va_K (dC, dI) vwCl (tx ++ (tm ++ [(cO, .long)])) s → va_P (dC, dI) vwCl (wx ++ (rx ++ (wm ++ ([(o0, .inl (cO, 1, .inr (.inl fo)))] : va_W)))) H → va_D (fun q : Nat => s.heap.size ≤ q) (wx ++ (rx ++ (wm ++ ([(o0, .inl (cO, 1, .inr (.inl fo)))] : va_W)))) → va_S (fun q : Nat => s.heap.size ≤ q) s.heap H locs → lv_has ls 7 [(4, .int i), (3, .ref o0), (2, .ref m0), (1, .ref x0), (0, .ref b0)] → W p l e room_1 s m #[Value.ref b0] below meth c H locs (cells + 1) (slots + 6) Q (F0 m 1283 ls [])) : W p l e room_1 s m #[Value.ref b0] below meth c H locs cells slots Q (F0 m 537 ls []) := by
  obtain ⟨hx, hb, hr, hml, hown, hts0, hXs, hbl, hlocks, hgv⟩ := id C0
  have hbA : ¬ (fun q : Nat => s.heap.size ≤ q) b0 := Nat.not_le.mpr hbl
  refine lv_aload_n hx hb dL_law_537 rfl (lv_at hl 3 rfl) ?_
  refine lv_aload_n hx hb dL_law_538 rfl (lv_at hl 4 rfl) ?_
  refine lv_iload hx hb dL_law_539 (lv_at hl 0 rfl) ?_
  refine lv_iconst (v := 1) hx hb dL_law_541 (by decide) ?_
  refine lv_iadd hx hb dL_law_542 ?_
  refine lv_topi (fun x1 e_x1 => ?_)
  have e_x1 := ti_add e_x1 rfl (show (1 : Int32).toInt = 1 by decide) (by omega)
  refine va_sld hx hb hXs hbl hbA hS (vinI (by omega) (by omega)) dL_law_543 ?_
  refine lv_topi (fun x2 e_x2 => ?_)
  refine lv_aload_n hx hb dL_law_544 rfl (lv_at hl 4 rfl) ?_
  refine lv_iload hx hb dL_law_545 (lv_at hl 0 rfl) ?_
  refine lv_iconst (v := 2) hx hb dL_law_547 (by decide) ?_
  refine lv_iadd hx hb dL_law_548 ?_
  refine lv_topi (fun x3 e_x3 => ?_)
  have e_x3 := ti_add e_x3 rfl (show (2 : Int32).toInt = 2 by decide) (by omega)
  refine va_sld hx hb hXs hbl hbA hS (vinI (by omega) (by omega)) dL_law_549 ?_
  refine lv_topi (fun x4 e_x4 => ?_)
  refine ox_ends l C0 dC dI g  (x2) (x4) hX hK hP hD hS hE hl.1 (by omega) (by omega) (fun r5 wx rx tx H locs hX hK hP hD hS => ?_)
  refine lv_pop hx hb dL_law_553 rfl ?_
  refine lv_aload_n hx hb dL_law_554 rfl (lv_at hl 2 rfl) ?_
  refine lv_aload_n hx hb dL_law_555 rfl (lv_at hl 4 rfl) ?_
  refine lv_iload hx hb dL_law_556 (lv_at hl 0 rfl) ?_
  refine lv_iconst (v := 1) hx hb dL_law_558 (by decide) ?_
  refine lv_iadd hx hb dL_law_559 ?_
  refine lv_topi (fun x6 e_x6 => ?_)
  have e_x6 := ti_add e_x6 rfl (show (1 : Int32).toInt = 1 by decide) (by omega)
  refine va_sld hx hb hXs hbl hbA hS (vinI (by omega) (by omega)) dL_law_560 ?_
  refine lv_topi (fun x7 e_x7 => ?_)
  refine lv_aload_n hx hb dL_law_561 rfl (lv_at hl 4 rfl) ?_
  refine lv_iload hx hb dL_law_562 (lv_at hl 0 rfl) ?_
  refine lv_iconst (v := 2) hx hb dL_law_564 (by decide) ?_
  refine lv_iadd hx hb dL_law_565 ?_
  refine lv_topi (fun x8 e_x8 => ?_)
  have e_x8 := ti_add e_x8 rfl (show (2 : Int32).toInt = 2 by decide) (by omega)
  refine va_sld hx hb hXs hbl hbA hS (vinI (by omega) (by omega)) dL_law_566 ?_
  refine lv_topi (fun x9 e_x9 => ?_)
  refine om_ends l C0 dC dI g  (x7) (x9) hM (rotK hK) (rotP hP) (rotD hD) hS hE hl.1 (by omega) (by omega) (fun r10 wm H locs hM hP9 hD9 hS => ?_)
  have hP := rotP hP9
  have hD := rotD hD9
  refine lv_pop hx hb dL_law_570 rfl ?_
  refine lv_goto (tgt := 1283) hx hb dL_law_571 (by decide) ?_
  refine W.widen (k := cells + 1) (n := slots + 6) (by omega) (by omega) ?_
  exact kk wx rx tx wm fo H locs _ hX hM hK hP hD hS (lv_sub hl [0, 1, 2, 3, 4] rfl)
set_option maxHeartbeats 4000000 in
set_option maxRecDepth 100000 in
theorem oc_10 {p : Program} {e : Env} {s : State} {m : MethodId} {below : List Frame} {meth : Method} {c : Code} (l : Launch) (hflags : l.flags = flags0) {b0 L : Nat} {xs : Nat → Int32} (C0 : lw_At p s m meth c b0 L xs) (dC : Nat → ClassId) (dI : Nat → Nat → Nat) (g : Gv) {x0 m0 o0 : Nat} {cO : ClassId} {tm : List (ClassId × FieldType)} {wx rx wm : va_W} {tx : List (ClassId × FieldType)} {fo : Nat → Int64} {i : Int32} {H : Heap} {locs : List Loc} {ls : Array Slot} {cells slots : Nat} {Q : State → Prop} (h0 : 0 ≤ i.toInt) (h1 : i.toInt + 6 ≤ (L : Int)) (hL : L ≤ 3072) (hX : XW g x0 wx rx tx) (hM : MW g m0 wm tm) (hK : va_K (dC, dI) vwCl (tx ++ (tm ++ [(cO, .long)])) s) (hP : va_P (dC, dI) vwCl (wx ++ (rx ++ (wm ++ ([(o0, .inl (cO, 1, .inr (.inl fo)))] : va_W)))) H) (hD : va_D (fun q : Nat => s.heap.size ≤ q) (wx ++ (rx ++ (wm ++ ([(o0, .inl (cO, 1, .inr (.inl fo)))] : va_W))))) (hS : va_S (fun q : Nat => s.heap.size ≤ q) s.heap H locs) (hl : lv_has ls 7 [(4, .int i), (3, .ref o0), (2, .ref m0), (1, .ref x0), (0, .ref b0)]) (hE : Ev g (fun q : Nat => s.heap.size ≤ q) s) (hcc : cells + 1 ≤ 601024) (hss : slots + 6 ≤ 7293034) (kk : ∀ (wx rx : va_W) (tx : List (ClassId × FieldType)) (wm : va_W) (fo : Nat → Int64) (H : Heap) (locs : List Loc) (ls : Array Slot), XW g x0 wx rx tx → MW g m0 wm tm → va_K (dC, dI) vwCl (tx ++ (tm ++ [(cO, .long)])) s → va_P (dC, dI) vwCl (wx ++ (rx ++ (wm ++ ([(o0, .inl (cO, 1, .inr (.inl fo)))] : va_W)))) H → va_D (fun q : Nat => s.heap.size ≤ q) (wx ++ (rx ++ (wm ++ ([(o0, .inl (cO, 1, .inr (.inl fo)))] : va_W)))) → va_S (fun q : Nat => s.heap.size ≤ q) s.heap H locs → lv_has ls 7 [(4, .int i), (3, .ref o0), (2, .ref m0), (1, .ref x0), (0, .ref b0)] → W p l e room_1 s m #[Value.ref b0] below meth c H locs (cells + 1) (slots + 6) Q (F0 m 1283 ls [])) : W p l e room_1 s m #[Value.ref b0] below meth c H locs cells slots Q (F0 m 574 ls []) := by
  obtain ⟨hx, hb, hr, hml, hown, hts0, hXs, hbl, hlocks, hgv⟩ := id C0
  have hbA : ¬ (fun q : Nat => s.heap.size ≤ q) b0 := Nat.not_le.mpr hbl
  refine lv_aload_n hx hb dL_law_574 rfl (lv_at hl 3 rfl) ?_
  refine lv_aload_n hx hb dL_law_575 rfl (lv_at hl 4 rfl) ?_
  refine lv_iload hx hb dL_law_576 (lv_at hl 0 rfl) ?_
  refine lv_iconst (v := 1) hx hb dL_law_578 (by decide) ?_
  refine lv_iadd hx hb dL_law_579 ?_
  refine lv_topi (fun x1 e_x1 => ?_)
  have e_x1 := ti_add e_x1 rfl (show (1 : Int32).toInt = 1 by decide) (by omega)
  refine va_sld hx hb hXs hbl hbA hS (vinI (by omega) (by omega)) dL_law_580 ?_
  refine lv_topi (fun x2 e_x2 => ?_)
  refine lv_aload_n hx hb dL_law_581 rfl (lv_at hl 4 rfl) ?_
  refine lv_iload hx hb dL_law_582 (lv_at hl 0 rfl) ?_
  refine lv_iconst (v := 2) hx hb dL_law_584 (by decide) ?_
  refine lv_iadd hx hb dL_law_585 ?_
  refine lv_topi (fun x3 e_x3 => ?_)
  have e_x3 := ti_add e_x3 rfl (show (2 : Int32).toInt = 2 by decide) (by omega)
  refine va_sld hx hb hXs hbl hbA hS (vinI (by omega) (by omega)) dL_law_586 ?_
  refine lv_topi (fun x4 e_x4 => ?_)
  refine ox_opens l C0 dC dI g  (x2) (x4) hX hK hP hD hS hE hl.1 (by omega) (by omega) (fun r5 wx rx tx H locs hX hK hP hD hS => ?_)
  refine lv_pop hx hb dL_law_590 rfl ?_
  refine lv_aload_n hx hb dL_law_591 rfl (lv_at hl 2 rfl) ?_
  refine lv_aload_n hx hb dL_law_592 rfl (lv_at hl 4 rfl) ?_
  refine lv_iload hx hb dL_law_593 (lv_at hl 0 rfl) ?_
  refine lv_iconst (v := 1) hx hb dL_law_595 (by decide) ?_
  refine lv_iadd hx hb dL_law_596 ?_
  refine lv_topi (fun x6 e_x6 => ?_)
  have e_x6 := ti_add e_x6 rfl (show (1 : Int32).toInt = 1 by decide) (by omega)
  refine va_sld hx hb hXs hbl hbA hS (vinI (by omega) (by omega)) dL_law_597 ?_
  refine lv_topi (fun x7 e_x7 => ?_)
  refine lv_aload_n hx hb dL_law_598 rfl (lv_at hl 4 rfl) ?_
  refine lv_iload hx hb dL_law_599 (lv_at hl 0 rfl) ?_
  refine lv_iconst (v := 2) hx hb dL_law_601 (by decide) ?_
  refine lv_iadd hx hb dL_law_602 ?_
  refine lv_topi (fun x8 e_x8 => ?_)
  have e_x8 := ti_add e_x8 rfl (show (2 : Int32).toInt = 2 by decide) (by omega)
  refine va_sld hx hb hXs hbl hbA hS (vinI (by omega) (by omega)) dL_law_603 ?_
  refine lv_topi (fun x9 e_x9 => ?_)
  refine om_opens l C0 dC dI g  (x7) (x9) hM (rotK hK) (rotP hP) (rotD hD) hS hE hl.1 (by omega) (by omega) (fun r10 wm H locs hM hP9 hD9 hS => ?_)
  have hP := rotP hP9
  have hD := rotD hD9
  refine lv_pop hx hb dL_law_607 rfl ?_
  refine lv_goto (tgt := 1283) hx hb dL_law_608 (by decide) ?_
  refine W.widen (k := cells + 1) (n := slots + 6) (by omega) (by omega) ?_
  exact kk wx rx tx wm fo H locs _ hX hM hK hP hD hS (lv_sub hl [0, 1, 2, 3, 4] rfl)
set_option maxHeartbeats 4000000 in
set_option maxRecDepth 100000 in
theorem oc_11 {p : Program} {e : Env} {s : State} {m : MethodId} {below : List Frame} {meth : Method} {c : Code} (l : Launch) (hflags : l.flags = flags0) {b0 L : Nat} {xs : Nat → Int32} (C0 : lw_At p s m meth c b0 L xs) (dC : Nat → ClassId) (dI : Nat → Nat → Nat) (g : Gv) {x0 m0 o0 : Nat} {cO : ClassId} {tm : List (ClassId × FieldType)} {wx rx wm : va_W} {tx : List (ClassId × FieldType)} {fo : Nat → Int64} {i : Int32} {H : Heap} {locs : List Loc} {ls : Array Slot} {cells slots : Nat} {Q : State → Prop} (h0 : 0 ≤ i.toInt) (h1 : i.toInt + 6 ≤ (L : Int)) (hL : L ≤ 3072) (hX : XW g x0 wx rx tx) (hM : MW g m0 wm tm) (hK : va_K (dC, dI) vwCl (tx ++ (tm ++ [(cO, .long)])) s) (hP : va_P (dC, dI) vwCl (wx ++ (rx ++ (wm ++ ([(o0, .inl (cO, 1, .inr (.inl fo)))] : va_W)))) H) (hD : va_D (fun q : Nat => s.heap.size ≤ q) (wx ++ (rx ++ (wm ++ ([(o0, .inl (cO, 1, .inr (.inl fo)))] : va_W))))) (hS : va_S (fun q : Nat => s.heap.size ≤ q) s.heap H locs) (hl : lv_has ls 7 [(4, .int i), (3, .ref o0), (2, .ref m0), (1, .ref x0), (0, .ref b0)]) (hE : Ev g (fun q : Nat => s.heap.size ≤ q) s) (hcc : cells + 1 ≤ 601024) (hss : slots + 6 ≤ 7293034) (kk : ∀ (wx rx : va_W) (tx : List (ClassId × FieldType)) (wm : va_W) (fo : Nat → Int64) (H : Heap) (locs : List Loc) (ls : Array Slot), XW g x0 wx rx tx → MW g m0 wm tm → va_K (dC, dI) vwCl (tx ++ (tm ++ [(cO, .long)])) s → va_P (dC, dI) vwCl (wx ++ (rx ++ (wm ++ ([(o0, .inl (cO, 1, .inr (.inl fo)))] : va_W)))) H → va_D (fun q : Nat => s.heap.size ≤ q) (wx ++ (rx ++ (wm ++ ([(o0, .inl (cO, 1, .inr (.inl fo)))] : va_W)))) → va_S (fun q : Nat => s.heap.size ≤ q) s.heap H locs → lv_has ls 7 [(4, .int i), (3, .ref o0), (2, .ref m0), (1, .ref x0), (0, .ref b0)] → W p l e room_1 s m #[Value.ref b0] below meth c H locs (cells + 1) (slots + 6) Q (F0 m 1283 ls [])) : W p l e room_1 s m #[Value.ref b0] below meth c H locs cells slots Q (F0 m 611 ls []) := by
  obtain ⟨hx, hb, hr, hml, hown, hts0, hXs, hbl, hlocks, hgv⟩ := id C0
  have hbA : ¬ (fun q : Nat => s.heap.size ≤ q) b0 := Nat.not_le.mpr hbl
  refine lv_aload_n hx hb dL_law_611 rfl (lv_at hl 3 rfl) ?_
  refine lv_aload_n hx hb dL_law_612 rfl (lv_at hl 4 rfl) ?_
  refine lv_iload hx hb dL_law_613 (lv_at hl 0 rfl) ?_
  refine lv_iconst (v := 1) hx hb dL_law_615 (by decide) ?_
  refine lv_iadd hx hb dL_law_616 ?_
  refine lv_topi (fun x1 e_x1 => ?_)
  have e_x1 := ti_add e_x1 rfl (show (1 : Int32).toInt = 1 by decide) (by omega)
  refine va_sld hx hb hXs hbl hbA hS (vinI (by omega) (by omega)) dL_law_617 ?_
  refine lv_topi (fun x2 e_x2 => ?_)
  refine lv_aload_n hx hb dL_law_618 rfl (lv_at hl 4 rfl) ?_
  refine lv_iload hx hb dL_law_619 (lv_at hl 0 rfl) ?_
  refine lv_iconst (v := 2) hx hb dL_law_621 (by decide) ?_
  refine lv_iadd hx hb dL_law_622 ?_
  refine lv_topi (fun x3 e_x3 => ?_)
  have e_x3 := ti_add e_x3 rfl (show (2 : Int32).toInt = 2 by decide) (by omega)
  refine va_sld hx hb hXs hbl hbA hS (vinI (by omega) (by omega)) dL_law_623 ?_
  refine lv_topi (fun x4 e_x4 => ?_)
  refine ox_allOf l C0 dC dI g  (x2) (x4) hX hK hP hD hS hE hl.1 (by omega) (by omega) (fun r5 wx rx tx H locs hX hK hP hD hS => ?_)
  refine lv_pop hx hb dL_law_627 rfl ?_
  refine lv_aload_n hx hb dL_law_628 rfl (lv_at hl 2 rfl) ?_
  refine lv_aload_n hx hb dL_law_629 rfl (lv_at hl 4 rfl) ?_
  refine lv_iload hx hb dL_law_630 (lv_at hl 0 rfl) ?_
  refine lv_iconst (v := 1) hx hb dL_law_632 (by decide) ?_
  refine lv_iadd hx hb dL_law_633 ?_
  refine lv_topi (fun x6 e_x6 => ?_)
  have e_x6 := ti_add e_x6 rfl (show (1 : Int32).toInt = 1 by decide) (by omega)
  refine va_sld hx hb hXs hbl hbA hS (vinI (by omega) (by omega)) dL_law_634 ?_
  refine lv_topi (fun x7 e_x7 => ?_)
  refine lv_aload_n hx hb dL_law_635 rfl (lv_at hl 4 rfl) ?_
  refine lv_iload hx hb dL_law_636 (lv_at hl 0 rfl) ?_
  refine lv_iconst (v := 2) hx hb dL_law_638 (by decide) ?_
  refine lv_iadd hx hb dL_law_639 ?_
  refine lv_topi (fun x8 e_x8 => ?_)
  have e_x8 := ti_add e_x8 rfl (show (2 : Int32).toInt = 2 by decide) (by omega)
  refine va_sld hx hb hXs hbl hbA hS (vinI (by omega) (by omega)) dL_law_640 ?_
  refine lv_topi (fun x9 e_x9 => ?_)
  refine om_allOf l C0 dC dI g  (x7) (x9) hM (rotK hK) (rotP hP) (rotD hD) hS hE hl.1 (by omega) (by omega) (fun r10 wm H locs hM hP9 hD9 hS => ?_)
  have hP := rotP hP9
  have hD := rotD hD9
  refine lv_pop hx hb dL_law_644 rfl ?_
  refine lv_goto (tgt := 1283) hx hb dL_law_645 (by decide) ?_
  refine W.widen (k := cells + 1) (n := slots + 6) (by omega) (by omega) ?_
  exact kk wx rx tx wm fo H locs _ hX hM hK hP hD hS (lv_sub hl [0, 1, 2, 3, 4] rfl)
set_option maxHeartbeats 4000000 in
set_option maxRecDepth 100000 in
theorem oc_12 {p : Program} {e : Env} {s : State} {m : MethodId} {below : List Frame} {meth : Method} {c : Code} (l : Launch) (hflags : l.flags = flags0) {b0 L : Nat} {xs : Nat → Int32} (C0 : lw_At p s m meth c b0 L xs) (dC : Nat → ClassId) (dI : Nat → Nat → Nat) (g : Gv) {x0 m0 o0 : Nat} {cO : ClassId} {tm : List (ClassId × FieldType)} {wx rx wm : va_W} {tx : List (ClassId × FieldType)} {fo : Nat → Int64} {i : Int32} {H : Heap} {locs : List Loc} {ls : Array Slot} {cells slots : Nat} {Q : State → Prop} (h0 : 0 ≤ i.toInt) (h1 : i.toInt + 6 ≤ (L : Int)) (hL : L ≤ 3072) (hX : XW g x0 wx rx tx) (hM : MW g m0 wm tm) (hK : va_K (dC, dI) vwCl (tx ++ (tm ++ [(cO, .long)])) s) (hP : va_P (dC, dI) vwCl (wx ++ (rx ++ (wm ++ ([(o0, .inl (cO, 1, .inr (.inl fo)))] : va_W)))) H) (hD : va_D (fun q : Nat => s.heap.size ≤ q) (wx ++ (rx ++ (wm ++ ([(o0, .inl (cO, 1, .inr (.inl fo)))] : va_W))))) (hS : va_S (fun q : Nat => s.heap.size ≤ q) s.heap H locs) (hl : lv_has ls 7 [(4, .int i), (3, .ref o0), (2, .ref m0), (1, .ref x0), (0, .ref b0)]) (hE : Ev g (fun q : Nat => s.heap.size ≤ q) s) (hcc : cells + 1 ≤ 601024) (hss : slots + 6 ≤ 7293034) (kk : ∀ (wx rx : va_W) (tx : List (ClassId × FieldType)) (wm : va_W) (fo : Nat → Int64) (H : Heap) (locs : List Loc) (ls : Array Slot), XW g x0 wx rx tx → MW g m0 wm tm → va_K (dC, dI) vwCl (tx ++ (tm ++ [(cO, .long)])) s → va_P (dC, dI) vwCl (wx ++ (rx ++ (wm ++ ([(o0, .inl (cO, 1, .inr (.inl fo)))] : va_W)))) H → va_D (fun q : Nat => s.heap.size ≤ q) (wx ++ (rx ++ (wm ++ ([(o0, .inl (cO, 1, .inr (.inl fo)))] : va_W)))) → va_S (fun q : Nat => s.heap.size ≤ q) s.heap H locs → lv_has ls 7 [(4, .int i), (3, .ref o0), (2, .ref m0), (1, .ref x0), (0, .ref b0)] → W p l e room_1 s m #[Value.ref b0] below meth c H locs (cells + 1) (slots + 6) Q (F0 m 1283 ls [])) : W p l e room_1 s m #[Value.ref b0] below meth c H locs cells slots Q (F0 m 648 ls []) := by
  obtain ⟨hx, hb, hr, hml, hown, hts0, hXs, hbl, hlocks, hgv⟩ := id C0
  have hbA : ¬ (fun q : Nat => s.heap.size ≤ q) b0 := Nat.not_le.mpr hbl
  refine lv_aload_n hx hb dL_law_648 rfl (lv_at hl 3 rfl) ?_
  refine lv_aload_n hx hb dL_law_649 rfl (lv_at hl 4 rfl) ?_
  refine lv_iload hx hb dL_law_650 (lv_at hl 0 rfl) ?_
  refine lv_iconst (v := 1) hx hb dL_law_652 (by decide) ?_
  refine lv_iadd hx hb dL_law_653 ?_
  refine lv_topi (fun x1 e_x1 => ?_)
  have e_x1 := ti_add e_x1 rfl (show (1 : Int32).toInt = 1 by decide) (by omega)
  refine va_sld hx hb hXs hbl hbA hS (vinI (by omega) (by omega)) dL_law_654 ?_
  refine lv_topi (fun x2 e_x2 => ?_)
  refine lv_aload_n hx hb dL_law_655 rfl (lv_at hl 4 rfl) ?_
  refine lv_iload hx hb dL_law_656 (lv_at hl 0 rfl) ?_
  refine lv_iconst (v := 2) hx hb dL_law_658 (by decide) ?_
  refine lv_iadd hx hb dL_law_659 ?_
  refine lv_topi (fun x3 e_x3 => ?_)
  have e_x3 := ti_add e_x3 rfl (show (2 : Int32).toInt = 2 by decide) (by omega)
  refine va_sld hx hb hXs hbl hbA hS (vinI (by omega) (by omega)) dL_law_660 ?_
  refine lv_topi (fun x4 e_x4 => ?_)
  refine ox_reason l C0 dC dI g  (x2) (x4) hX hK hP hD hS hE hl.1 (by omega) (by omega) (fun r5 wx rx tx H locs hX hK hP hD hS => ?_)
  refine lv_pop hx hb dL_law_664 rfl ?_
  refine lv_aload_n hx hb dL_law_665 rfl (lv_at hl 2 rfl) ?_
  refine lv_aload_n hx hb dL_law_666 rfl (lv_at hl 4 rfl) ?_
  refine lv_iload hx hb dL_law_667 (lv_at hl 0 rfl) ?_
  refine lv_iconst (v := 1) hx hb dL_law_669 (by decide) ?_
  refine lv_iadd hx hb dL_law_670 ?_
  refine lv_topi (fun x6 e_x6 => ?_)
  have e_x6 := ti_add e_x6 rfl (show (1 : Int32).toInt = 1 by decide) (by omega)
  refine va_sld hx hb hXs hbl hbA hS (vinI (by omega) (by omega)) dL_law_671 ?_
  refine lv_topi (fun x7 e_x7 => ?_)
  refine lv_aload_n hx hb dL_law_672 rfl (lv_at hl 4 rfl) ?_
  refine lv_iload hx hb dL_law_673 (lv_at hl 0 rfl) ?_
  refine lv_iconst (v := 2) hx hb dL_law_675 (by decide) ?_
  refine lv_iadd hx hb dL_law_676 ?_
  refine lv_topi (fun x8 e_x8 => ?_)
  have e_x8 := ti_add e_x8 rfl (show (2 : Int32).toInt = 2 by decide) (by omega)
  refine va_sld hx hb hXs hbl hbA hS (vinI (by omega) (by omega)) dL_law_677 ?_
  refine lv_topi (fun x9 e_x9 => ?_)
  refine om_reason l C0 dC dI g  (x7) (x9) hM (rotK hK) (rotP hP) (rotD hD) hS hE hl.1 (by omega) (by omega) (fun r10 wm H locs hM hP9 hD9 hS => ?_)
  have hP := rotP hP9
  have hD := rotD hD9
  refine lv_pop hx hb dL_law_681 rfl ?_
  refine lv_goto (tgt := 1283) hx hb dL_law_682 (by decide) ?_
  refine W.widen (k := cells + 1) (n := slots + 6) (by omega) (by omega) ?_
  exact kk wx rx tx wm fo H locs _ hX hM hK hP hD hS (lv_sub hl [0, 1, 2, 3, 4] rfl)
set_option maxHeartbeats 4000000 in
set_option maxRecDepth 100000 in
theorem oc_13 {p : Program} {e : Env} {s : State} {m : MethodId} {below : List Frame} {meth : Method} {c : Code} (l : Launch) (hflags : l.flags = flags0) {b0 L : Nat} {xs : Nat → Int32} (C0 : lw_At p s m meth c b0 L xs) (dC : Nat → ClassId) (dI : Nat → Nat → Nat) (g : Gv) {x0 m0 o0 : Nat} {cO : ClassId} {tm : List (ClassId × FieldType)} {wx rx wm : va_W} {tx : List (ClassId × FieldType)} {fo : Nat → Int64} {i : Int32} {H : Heap} {locs : List Loc} {ls : Array Slot} {cells slots : Nat} {Q : State → Prop} (h0 : 0 ≤ i.toInt) (h1 : i.toInt + 6 ≤ (L : Int)) (hL : L ≤ 3072) (hX : XW g x0 wx rx tx) (hM : MW g m0 wm tm) (hK : va_K (dC, dI) vwCl (tx ++ (tm ++ [(cO, .long)])) s) (hP : va_P (dC, dI) vwCl (wx ++ (rx ++ (wm ++ ([(o0, .inl (cO, 1, .inr (.inl fo)))] : va_W)))) H) (hD : va_D (fun q : Nat => s.heap.size ≤ q) (wx ++ (rx ++ (wm ++ ([(o0, .inl (cO, 1, .inr (.inl fo)))] : va_W))))) (hS : va_S (fun q : Nat => s.heap.size ≤ q) s.heap H locs) (hl : lv_has ls 7 [(4, .int i), (3, .ref o0), (2, .ref m0), (1, .ref x0), (0, .ref b0)]) (hE : Ev g (fun q : Nat => s.heap.size ≤ q) s) (hcc : cells + 1 ≤ 601024) (hss : slots + 6 ≤ 7293034) (kk : ∀ (wx rx : va_W) (tx : List (ClassId × FieldType)) (wm : va_W) (fo : Nat → Int64) (H : Heap) (locs : List Loc) (ls : Array Slot), XW g x0 wx rx tx → MW g m0 wm tm → va_K (dC, dI) vwCl (tx ++ (tm ++ [(cO, .long)])) s → va_P (dC, dI) vwCl (wx ++ (rx ++ (wm ++ ([(o0, .inl (cO, 1, .inr (.inl fo)))] : va_W)))) H → va_D (fun q : Nat => s.heap.size ≤ q) (wx ++ (rx ++ (wm ++ ([(o0, .inl (cO, 1, .inr (.inl fo)))] : va_W)))) → va_S (fun q : Nat => s.heap.size ≤ q) s.heap H locs → lv_has ls 7 [(4, .int i), (3, .ref o0), (2, .ref m0), (1, .ref x0), (0, .ref b0)] → W p l e room_1 s m #[Value.ref b0] below meth c H locs (cells + 1) (slots + 6) Q (F0 m 1283 ls [])) : W p l e room_1 s m #[Value.ref b0] below meth c H locs cells slots Q (F0 m 685 ls []) := by
  obtain ⟨hx, hb, hr, hml, hown, hts0, hXs, hbl, hlocks, hgv⟩ := id C0
  have hbA : ¬ (fun q : Nat => s.heap.size ≤ q) b0 := Nat.not_le.mpr hbl
  refine lv_aload_n hx hb dL_law_685 rfl (lv_at hl 3 rfl) ?_
  refine lv_aload_n hx hb dL_law_686 rfl (lv_at hl 4 rfl) ?_
  refine lv_iload hx hb dL_law_687 (lv_at hl 0 rfl) ?_
  refine lv_iconst (v := 1) hx hb dL_law_689 (by decide) ?_
  refine lv_iadd hx hb dL_law_690 ?_
  refine lv_topi (fun x1 e_x1 => ?_)
  have e_x1 := ti_add e_x1 rfl (show (1 : Int32).toInt = 1 by decide) (by omega)
  refine va_sld hx hb hXs hbl hbA hS (vinI (by omega) (by omega)) dL_law_691 ?_
  refine lv_topi (fun x2 e_x2 => ?_)
  refine lv_aload_n hx hb dL_law_692 rfl (lv_at hl 4 rfl) ?_
  refine lv_iload hx hb dL_law_693 (lv_at hl 0 rfl) ?_
  refine lv_iconst (v := 2) hx hb dL_law_695 (by decide) ?_
  refine lv_iadd hx hb dL_law_696 ?_
  refine lv_topi (fun x3 e_x3 => ?_)
  have e_x3 := ti_add e_x3 rfl (show (2 : Int32).toInt = 2 by decide) (by omega)
  refine va_sld hx hb hXs hbl hbA hS (vinI (by omega) (by omega)) dL_law_697 ?_
  refine lv_topi (fun x4 e_x4 => ?_)
  refine ox_closedBy l C0 dC dI g  (x2) (x4) hX hK hP hD hS hE hl.1 (by omega) (by omega) (fun r5 wx rx tx H locs hX hK hP hD hS => ?_)
  refine lv_pop hx hb dL_law_701 rfl ?_
  refine lv_aload_n hx hb dL_law_702 rfl (lv_at hl 2 rfl) ?_
  refine lv_aload_n hx hb dL_law_703 rfl (lv_at hl 4 rfl) ?_
  refine lv_iload hx hb dL_law_704 (lv_at hl 0 rfl) ?_
  refine lv_iconst (v := 1) hx hb dL_law_706 (by decide) ?_
  refine lv_iadd hx hb dL_law_707 ?_
  refine lv_topi (fun x6 e_x6 => ?_)
  have e_x6 := ti_add e_x6 rfl (show (1 : Int32).toInt = 1 by decide) (by omega)
  refine va_sld hx hb hXs hbl hbA hS (vinI (by omega) (by omega)) dL_law_708 ?_
  refine lv_topi (fun x7 e_x7 => ?_)
  refine lv_aload_n hx hb dL_law_709 rfl (lv_at hl 4 rfl) ?_
  refine lv_iload hx hb dL_law_710 (lv_at hl 0 rfl) ?_
  refine lv_iconst (v := 2) hx hb dL_law_712 (by decide) ?_
  refine lv_iadd hx hb dL_law_713 ?_
  refine lv_topi (fun x8 e_x8 => ?_)
  have e_x8 := ti_add e_x8 rfl (show (2 : Int32).toInt = 2 by decide) (by omega)
  refine va_sld hx hb hXs hbl hbA hS (vinI (by omega) (by omega)) dL_law_714 ?_
  refine lv_topi (fun x9 e_x9 => ?_)
  refine om_closedBy l C0 dC dI g  (x7) (x9) hM (rotK hK) (rotP hP) (rotD hD) hS hE hl.1 (by omega) (by omega) (fun r10 wm H locs hM hP9 hD9 hS => ?_)
  have hP := rotP hP9
  have hD := rotD hD9
  refine lv_pop hx hb dL_law_718 rfl ?_
  refine lv_goto (tgt := 1283) hx hb dL_law_719 (by decide) ?_
  refine W.widen (k := cells + 1) (n := slots + 6) (by omega) (by omega) ?_
  exact kk wx rx tx wm fo H locs _ hX hM hK hP hD hS (lv_sub hl [0, 1, 2, 3, 4] rfl)
set_option maxHeartbeats 4000000 in
set_option maxRecDepth 100000 in
theorem oc_14 {p : Program} {e : Env} {s : State} {m : MethodId} {below : List Frame} {meth : Method} {c : Code} (l : Launch) (hflags : l.flags = flags0) {b0 L : Nat} {xs : Nat → Int32} (C0 : lw_At p s m meth c b0 L xs) (dC : Nat → ClassId) (dI : Nat → Nat → Nat) (g : Gv) {x0 m0 o0 : Nat} {cO : ClassId} {tm : List (ClassId × FieldType)} {wx rx wm : va_W} {tx : List (ClassId × FieldType)} {fo : Nat → Int64} {i : Int32} {H : Heap} {locs : List Loc} {ls : Array Slot} {cells slots : Nat} {Q : State → Prop} (h0 : 0 ≤ i.toInt) (h1 : i.toInt + 6 ≤ (L : Int)) (hL : L ≤ 3072) (hX : XW g x0 wx rx tx) (hM : MW g m0 wm tm) (hK : va_K (dC, dI) vwCl (tx ++ (tm ++ [(cO, .long)])) s) (hP : va_P (dC, dI) vwCl (wx ++ (rx ++ (wm ++ ([(o0, .inl (cO, 1, .inr (.inl fo)))] : va_W)))) H) (hD : va_D (fun q : Nat => s.heap.size ≤ q) (wx ++ (rx ++ (wm ++ ([(o0, .inl (cO, 1, .inr (.inl fo)))] : va_W))))) (hS : va_S (fun q : Nat => s.heap.size ≤ q) s.heap H locs) (hl : lv_has ls 7 [(4, .int i), (3, .ref o0), (2, .ref m0), (1, .ref x0), (0, .ref b0)]) (hE : Ev g (fun q : Nat => s.heap.size ≤ q) s) (hcc : cells + 1 ≤ 601024) (hss : slots + 6 ≤ 7293034) (kk : ∀ (wx rx : va_W) (tx : List (ClassId × FieldType)) (wm : va_W) (fo : Nat → Int64) (H : Heap) (locs : List Loc) (ls : Array Slot), XW g x0 wx rx tx → MW g m0 wm tm → va_K (dC, dI) vwCl (tx ++ (tm ++ [(cO, .long)])) s → va_P (dC, dI) vwCl (wx ++ (rx ++ (wm ++ ([(o0, .inl (cO, 1, .inr (.inl fo)))] : va_W)))) H → va_D (fun q : Nat => s.heap.size ≤ q) (wx ++ (rx ++ (wm ++ ([(o0, .inl (cO, 1, .inr (.inl fo)))] : va_W)))) → va_S (fun q : Nat => s.heap.size ≤ q) s.heap H locs → lv_has ls 7 [(4, .int i), (3, .ref o0), (2, .ref m0), (1, .ref x0), (0, .ref b0)] → W p l e room_1 s m #[Value.ref b0] below meth c H locs (cells + 1) (slots + 6) Q (F0 m 1283 ls [])) : W p l e room_1 s m #[Value.ref b0] below meth c H locs cells slots Q (F0 m 722 ls []) := by
  obtain ⟨hx, hb, hr, hml, hown, hts0, hXs, hbl, hlocks, hgv⟩ := id C0
  have hbA : ¬ (fun q : Nat => s.heap.size ≤ q) b0 := Nat.not_le.mpr hbl
  refine lv_aload_n hx hb dL_law_722 rfl (lv_at hl 3 rfl) ?_
  refine lv_aload_n hx hb dL_law_723 rfl (lv_at hl 4 rfl) ?_
  refine lv_iload hx hb dL_law_724 (lv_at hl 0 rfl) ?_
  refine lv_iconst (v := 1) hx hb dL_law_726 (by decide) ?_
  refine lv_iadd hx hb dL_law_727 ?_
  refine lv_topi (fun x1 e_x1 => ?_)
  have e_x1 := ti_add e_x1 rfl (show (1 : Int32).toInt = 1 by decide) (by omega)
  refine va_sld hx hb hXs hbl hbA hS (vinI (by omega) (by omega)) dL_law_728 ?_
  refine lv_topi (fun x2 e_x2 => ?_)
  refine lv_aload_n hx hb dL_law_729 rfl (lv_at hl 4 rfl) ?_
  refine lv_iload hx hb dL_law_730 (lv_at hl 0 rfl) ?_
  refine lv_iconst (v := 2) hx hb dL_law_732 (by decide) ?_
  refine lv_iadd hx hb dL_law_733 ?_
  refine lv_topi (fun x3 e_x3 => ?_)
  have e_x3 := ti_add e_x3 rfl (show (2 : Int32).toInt = 2 by decide) (by omega)
  refine va_sld hx hb hXs hbl hbA hS (vinI (by omega) (by omega)) dL_law_734 ?_
  refine lv_topi (fun x4 e_x4 => ?_)
  refine lv_aload_n hx hb dL_law_735 rfl (lv_at hl 4 rfl) ?_
  refine lv_iload hx hb dL_law_736 (lv_at hl 0 rfl) ?_
  refine lv_iconst (v := 3) hx hb dL_law_738 (by decide) ?_
  refine lv_iadd hx hb dL_law_739 ?_
  refine lv_topi (fun x5 e_x5 => ?_)
  have e_x5 := ti_add e_x5 rfl (show (3 : Int32).toInt = 3 by decide) (by omega)
  refine va_sld hx hb hXs hbl hbA hS (vinI (by omega) (by omega)) dL_law_740 ?_
  refine lv_topi (fun x6 e_x6 => ?_)
  refine lv_aload_n hx hb dL_law_741 rfl (lv_at hl 1 rfl) ?_
  refine ol_sooner (m0 := m0) l hflags C0 dC dI g (x2) (x4) (x6) hX hK hP hD hS hE hl.1 (by omega) (by omega) (fun r7 wx rx fo H locs hX hP hD hS => ?_)
  refine lv_istore (lv' := [(5, .int r7), (4, .int i), (3, .ref o0), (2, .ref m0), (1, .ref x0), (0, .ref b0)]) hx hb dL_law_745 hl (by decide) rfl (fun ls hl => ?_)
  refine lv_aload_n hx hb dL_law_747 rfl (lv_at hl 3 rfl) ?_
  refine lv_aload_n hx hb dL_law_748 rfl (lv_at hl 5 rfl) ?_
  refine lv_iload hx hb dL_law_749 (lv_at hl 1 rfl) ?_
  refine lv_iconst (v := 1) hx hb dL_law_751 (by decide) ?_
  refine lv_iadd hx hb dL_law_752 ?_
  refine lv_topi (fun x8 e_x8 => ?_)
  have e_x8 := ti_add e_x8 rfl (show (1 : Int32).toInt = 1 by decide) (by omega)
  refine va_sld hx hb hXs hbl hbA hS (vinI (by omega) (by omega)) dL_law_753 ?_
  refine lv_topi (fun x9 e_x9 => ?_)
  refine lv_aload_n hx hb dL_law_754 rfl (lv_at hl 5 rfl) ?_
  refine lv_iload hx hb dL_law_755 (lv_at hl 1 rfl) ?_
  refine lv_iconst (v := 2) hx hb dL_law_757 (by decide) ?_
  refine lv_iadd hx hb dL_law_758 ?_
  refine lv_topi (fun x10 e_x10 => ?_)
  have e_x10 := ti_add e_x10 rfl (show (2 : Int32).toInt = 2 by decide) (by omega)
  refine va_sld hx hb hXs hbl hbA hS (vinI (by omega) (by omega)) dL_law_759 ?_
  refine lv_topi (fun x11 e_x11 => ?_)
  refine lv_aload_n hx hb dL_law_760 rfl (lv_at hl 5 rfl) ?_
  refine lv_iload hx hb dL_law_761 (lv_at hl 1 rfl) ?_
  refine lv_iconst (v := 3) hx hb dL_law_763 (by decide) ?_
  refine lv_iadd hx hb dL_law_764 ?_
  refine lv_topi (fun x12 e_x12 => ?_)
  have e_x12 := ti_add e_x12 rfl (show (3 : Int32).toInt = 3 by decide) (by omega)
  refine va_sld hx hb hXs hbl hbA hS (vinI (by omega) (by omega)) dL_law_765 ?_
  refine lv_topi (fun x13 e_x13 => ?_)
  refine om_sooner l C0 dC dI g  (x9) (x11) (x13) hM (rotK hK) (rotP hP) (rotD hD) hS hE hl.1 (by omega) (by omega) (fun r14 wm H locs hM hP9 hD9 hS => ?_)
  have hP := rotP hP9
  have hD := rotD hD9
  refine lv_istore (lv' := [(6, .int r14), (5, .int r7), (4, .int i), (3, .ref o0), (2, .ref m0), (1, .ref x0), (0, .ref b0)]) hx hb dL_law_769 hl (by decide) rfl (fun ls hl => ?_)
  refine lv_goto (tgt := 1283) hx hb dL_law_771 (by decide) ?_
  refine W.widen (k := cells + 1) (n := slots + 6) (by omega) (by omega) ?_
  exact kk wx rx tx wm fo H locs _ hX hM hK hP hD hS (lv_sub hl [2, 3, 4, 5, 6] rfl)
set_option maxHeartbeats 4000000 in
set_option maxRecDepth 100000 in
theorem oc_15 {p : Program} {e : Env} {s : State} {m : MethodId} {below : List Frame} {meth : Method} {c : Code} (l : Launch) (hflags : l.flags = flags0) {b0 L : Nat} {xs : Nat → Int32} (C0 : lw_At p s m meth c b0 L xs) (dC : Nat → ClassId) (dI : Nat → Nat → Nat) (g : Gv) {x0 m0 o0 : Nat} {cO : ClassId} {tm : List (ClassId × FieldType)} {wx rx wm : va_W} {tx : List (ClassId × FieldType)} {fo : Nat → Int64} {i : Int32} {H : Heap} {locs : List Loc} {ls : Array Slot} {cells slots : Nat} {Q : State → Prop} (h0 : 0 ≤ i.toInt) (h1 : i.toInt + 6 ≤ (L : Int)) (hL : L ≤ 3072) (hX : XW g x0 wx rx tx) (hM : MW g m0 wm tm) (hK : va_K (dC, dI) vwCl (tx ++ (tm ++ [(cO, .long)])) s) (hP : va_P (dC, dI) vwCl (wx ++ (rx ++ (wm ++ ([(o0, .inl (cO, 1, .inr (.inl fo)))] : va_W)))) H) (hD : va_D (fun q : Nat => s.heap.size ≤ q) (wx ++ (rx ++ (wm ++ ([(o0, .inl (cO, 1, .inr (.inl fo)))] : va_W))))) (hS : va_S (fun q : Nat => s.heap.size ≤ q) s.heap H locs) (hl : lv_has ls 7 [(4, .int i), (3, .ref o0), (2, .ref m0), (1, .ref x0), (0, .ref b0)]) (hE : Ev g (fun q : Nat => s.heap.size ≤ q) s) (hcc : cells + 1 ≤ 601024) (hss : slots + 6 ≤ 7293034) (kk : ∀ (wx rx : va_W) (tx : List (ClassId × FieldType)) (wm : va_W) (fo : Nat → Int64) (H : Heap) (locs : List Loc) (ls : Array Slot), XW g x0 wx rx tx → MW g m0 wm tm → va_K (dC, dI) vwCl (tx ++ (tm ++ [(cO, .long)])) s → va_P (dC, dI) vwCl (wx ++ (rx ++ (wm ++ ([(o0, .inl (cO, 1, .inr (.inl fo)))] : va_W)))) H → va_D (fun q : Nat => s.heap.size ≤ q) (wx ++ (rx ++ (wm ++ ([(o0, .inl (cO, 1, .inr (.inl fo)))] : va_W)))) → va_S (fun q : Nat => s.heap.size ≤ q) s.heap H locs → lv_has ls 7 [(4, .int i), (3, .ref o0), (2, .ref m0), (1, .ref x0), (0, .ref b0)] → W p l e room_1 s m #[Value.ref b0] below meth c H locs (cells + 1) (slots + 6) Q (F0 m 1283 ls [])) : W p l e room_1 s m #[Value.ref b0] below meth c H locs cells slots Q (F0 m 774 ls []) := by
  obtain ⟨hx, hb, hr, hml, hown, hts0, hXs, hbl, hlocks, hgv⟩ := id C0
  have hbA : ¬ (fun q : Nat => s.heap.size ≤ q) b0 := Nat.not_le.mpr hbl
  refine lv_aload_n hx hb dL_law_774 rfl (lv_at hl 3 rfl) ?_
  refine lv_aload_n hx hb dL_law_775 rfl (lv_at hl 4 rfl) ?_
  refine lv_iload hx hb dL_law_776 (lv_at hl 0 rfl) ?_
  refine lv_iconst (v := 1) hx hb dL_law_778 (by decide) ?_
  refine lv_iadd hx hb dL_law_779 ?_
  refine lv_topi (fun x1 e_x1 => ?_)
  have e_x1 := ti_add e_x1 rfl (show (1 : Int32).toInt = 1 by decide) (by omega)
  refine va_sld hx hb hXs hbl hbA hS (vinI (by omega) (by omega)) dL_law_780 ?_
  refine lv_topi (fun x2 e_x2 => ?_)
  refine lv_aload_n hx hb dL_law_781 rfl (lv_at hl 4 rfl) ?_
  refine lv_iload hx hb dL_law_782 (lv_at hl 0 rfl) ?_
  refine lv_iconst (v := 2) hx hb dL_law_784 (by decide) ?_
  refine lv_iadd hx hb dL_law_785 ?_
  refine lv_topi (fun x3 e_x3 => ?_)
  have e_x3 := ti_add e_x3 rfl (show (2 : Int32).toInt = 2 by decide) (by omega)
  refine va_sld hx hb hXs hbl hbA hS (vinI (by omega) (by omega)) dL_law_786 ?_
  refine lv_topi (fun x4 e_x4 => ?_)
  refine ox_open l C0 dC dI g  (x2) (x4) hX hK hP hD hS hE hl.1 (by omega) (by omega) (fun r5 wx rx tx H locs hX hK hP hD hS => ?_)
  refine lv_pop hx hb dL_law_790 rfl ?_
  refine lv_aload_n hx hb dL_law_791 rfl (lv_at hl 2 rfl) ?_
  refine lv_aload_n hx hb dL_law_792 rfl (lv_at hl 4 rfl) ?_
  refine lv_iload hx hb dL_law_793 (lv_at hl 0 rfl) ?_
  refine lv_iconst (v := 1) hx hb dL_law_795 (by decide) ?_
  refine lv_iadd hx hb dL_law_796 ?_
  refine lv_topi (fun x6 e_x6 => ?_)
  have e_x6 := ti_add e_x6 rfl (show (1 : Int32).toInt = 1 by decide) (by omega)
  refine va_sld hx hb hXs hbl hbA hS (vinI (by omega) (by omega)) dL_law_797 ?_
  refine lv_topi (fun x7 e_x7 => ?_)
  refine lv_aload_n hx hb dL_law_798 rfl (lv_at hl 4 rfl) ?_
  refine lv_iload hx hb dL_law_799 (lv_at hl 0 rfl) ?_
  refine lv_iconst (v := 2) hx hb dL_law_801 (by decide) ?_
  refine lv_iadd hx hb dL_law_802 ?_
  refine lv_topi (fun x8 e_x8 => ?_)
  have e_x8 := ti_add e_x8 rfl (show (2 : Int32).toInt = 2 by decide) (by omega)
  refine va_sld hx hb hXs hbl hbA hS (vinI (by omega) (by omega)) dL_law_803 ?_
  refine lv_topi (fun x9 e_x9 => ?_)
  refine om_open l C0 dC dI g  (x7) (x9) hM (rotK hK) (rotP hP) (rotD hD) hS hE hl.1 (by omega) (by omega) (fun r10 wm H locs hM hP9 hD9 hS => ?_)
  have hP := rotP hP9
  have hD := rotD hD9
  refine lv_pop hx hb dL_law_807 rfl ?_
  refine lv_goto (tgt := 1283) hx hb dL_law_808 (by decide) ?_
  refine W.widen (k := cells + 1) (n := slots + 6) (by omega) (by omega) ?_
  exact kk wx rx tx wm fo H locs _ hX hM hK hP hD hS (lv_sub hl [0, 1, 2, 3, 4] rfl)
set_option maxHeartbeats 4000000 in
set_option maxRecDepth 100000 in
theorem oc_16 {p : Program} {e : Env} {s : State} {m : MethodId} {below : List Frame} {meth : Method} {c : Code} (l : Launch) (hflags : l.flags = flags0) {b0 L : Nat} {xs : Nat → Int32} (C0 : lw_At p s m meth c b0 L xs) (dC : Nat → ClassId) (dI : Nat → Nat → Nat) (g : Gv) {x0 m0 o0 : Nat} {cO : ClassId} {tm : List (ClassId × FieldType)} {wx rx wm : va_W} {tx : List (ClassId × FieldType)} {fo : Nat → Int64} {i : Int32} {H : Heap} {locs : List Loc} {ls : Array Slot} {cells slots : Nat} {Q : State → Prop} (h0 : 0 ≤ i.toInt) (h1 : i.toInt + 6 ≤ (L : Int)) (hL : L ≤ 3072) (hX : XW g x0 wx rx tx) (hM : MW g m0 wm tm) (hK : va_K (dC, dI) vwCl (tx ++ (tm ++ [(cO, .long)])) s) (hP : va_P (dC, dI) vwCl (wx ++ (rx ++ (wm ++ ([(o0, .inl (cO, 1, .inr (.inl fo)))] : va_W)))) H) (hD : va_D (fun q : Nat => s.heap.size ≤ q) (wx ++ (rx ++ (wm ++ ([(o0, .inl (cO, 1, .inr (.inl fo)))] : va_W))))) (hS : va_S (fun q : Nat => s.heap.size ≤ q) s.heap H locs) (hl : lv_has ls 7 [(4, .int i), (3, .ref o0), (2, .ref m0), (1, .ref x0), (0, .ref b0)]) (hE : Ev g (fun q : Nat => s.heap.size ≤ q) s) (hcc : cells + 1 ≤ 601024) (hss : slots + 6 ≤ 7293034) (kk : ∀ (wx rx : va_W) (tx : List (ClassId × FieldType)) (wm : va_W) (fo : Nat → Int64) (H : Heap) (locs : List Loc) (ls : Array Slot), XW g x0 wx rx tx → MW g m0 wm tm → va_K (dC, dI) vwCl (tx ++ (tm ++ [(cO, .long)])) s → va_P (dC, dI) vwCl (wx ++ (rx ++ (wm ++ ([(o0, .inl (cO, 1, .inr (.inl fo)))] : va_W)))) H → va_D (fun q : Nat => s.heap.size ≤ q) (wx ++ (rx ++ (wm ++ ([(o0, .inl (cO, 1, .inr (.inl fo)))] : va_W)))) → va_S (fun q : Nat => s.heap.size ≤ q) s.heap H locs → lv_has ls 7 [(4, .int i), (3, .ref o0), (2, .ref m0), (1, .ref x0), (0, .ref b0)] → W p l e room_1 s m #[Value.ref b0] below meth c H locs (cells + 1) (slots + 6) Q (F0 m 1283 ls [])) : W p l e room_1 s m #[Value.ref b0] below meth c H locs cells slots Q (F0 m 811 ls []) := by
  obtain ⟨hx, hb, hr, hml, hown, hts0, hXs, hbl, hlocks, hgv⟩ := id C0
  have hbA : ¬ (fun q : Nat => s.heap.size ≤ q) b0 := Nat.not_le.mpr hbl
  refine lv_aload_n hx hb dL_law_811 rfl (lv_at hl 3 rfl) ?_
  refine lv_aload_n hx hb dL_law_812 rfl (lv_at hl 4 rfl) ?_
  refine lv_iload hx hb dL_law_813 (lv_at hl 0 rfl) ?_
  refine lv_iconst (v := 1) hx hb dL_law_815 (by decide) ?_
  refine lv_iadd hx hb dL_law_816 ?_
  refine lv_topi (fun x1 e_x1 => ?_)
  have e_x1 := ti_add e_x1 rfl (show (1 : Int32).toInt = 1 by decide) (by omega)
  refine va_sld hx hb hXs hbl hbA hS (vinI (by omega) (by omega)) dL_law_817 ?_
  refine lv_topi (fun x2 e_x2 => ?_)
  refine lv_aload_n hx hb dL_law_818 rfl (lv_at hl 4 rfl) ?_
  refine lv_iload hx hb dL_law_819 (lv_at hl 0 rfl) ?_
  refine lv_iconst (v := 2) hx hb dL_law_821 (by decide) ?_
  refine lv_iadd hx hb dL_law_822 ?_
  refine lv_topi (fun x3 e_x3 => ?_)
  have e_x3 := ti_add e_x3 rfl (show (2 : Int32).toInt = 2 by decide) (by omega)
  refine va_sld hx hb hXs hbl hbA hS (vinI (by omega) (by omega)) dL_law_823 ?_
  refine lv_topi (fun x4 e_x4 => ?_)
  refine ox_next l C0 dC dI g  (x2) (x4) hX hK hP hD hS hE hl.1 (by omega) (by omega) (fun r5 wx rx tx H locs hX hK hP hD hS => ?_)
  refine lv_pop hx hb dL_law_827 rfl ?_
  refine lv_aload_n hx hb dL_law_828 rfl (lv_at hl 2 rfl) ?_
  refine lv_aload_n hx hb dL_law_829 rfl (lv_at hl 4 rfl) ?_
  refine lv_iload hx hb dL_law_830 (lv_at hl 0 rfl) ?_
  refine lv_iconst (v := 1) hx hb dL_law_832 (by decide) ?_
  refine lv_iadd hx hb dL_law_833 ?_
  refine lv_topi (fun x6 e_x6 => ?_)
  have e_x6 := ti_add e_x6 rfl (show (1 : Int32).toInt = 1 by decide) (by omega)
  refine va_sld hx hb hXs hbl hbA hS (vinI (by omega) (by omega)) dL_law_834 ?_
  refine lv_topi (fun x7 e_x7 => ?_)
  refine lv_aload_n hx hb dL_law_835 rfl (lv_at hl 4 rfl) ?_
  refine lv_iload hx hb dL_law_836 (lv_at hl 0 rfl) ?_
  refine lv_iconst (v := 2) hx hb dL_law_838 (by decide) ?_
  refine lv_iadd hx hb dL_law_839 ?_
  refine lv_topi (fun x8 e_x8 => ?_)
  have e_x8 := ti_add e_x8 rfl (show (2 : Int32).toInt = 2 by decide) (by omega)
  refine va_sld hx hb hXs hbl hbA hS (vinI (by omega) (by omega)) dL_law_840 ?_
  refine lv_topi (fun x9 e_x9 => ?_)
  refine om_next l C0 dC dI g  (x7) (x9) hM (rotK hK) (rotP hP) (rotD hD) hS hE hl.1 (by omega) (by omega) (fun r10 wm H locs hM hP9 hD9 hS => ?_)
  have hP := rotP hP9
  have hD := rotD hD9
  refine lv_pop hx hb dL_law_844 rfl ?_
  refine lv_goto (tgt := 1283) hx hb dL_law_845 (by decide) ?_
  refine W.widen (k := cells + 1) (n := slots + 6) (by omega) (by omega) ?_
  exact kk wx rx tx wm fo H locs _ hX hM hK hP hD hS (lv_sub hl [0, 1, 2, 3, 4] rfl)
set_option maxHeartbeats 4000000 in
set_option maxRecDepth 100000 in
theorem oc_17 {p : Program} {e : Env} {s : State} {m : MethodId} {below : List Frame} {meth : Method} {c : Code} (l : Launch) (hflags : l.flags = flags0) {b0 L : Nat} {xs : Nat → Int32} (C0 : lw_At p s m meth c b0 L xs) (dC : Nat → ClassId) (dI : Nat → Nat → Nat) (g : Gv) {x0 m0 o0 : Nat} {cO : ClassId} {tm : List (ClassId × FieldType)} {wx rx wm : va_W} {tx : List (ClassId × FieldType)} {fo : Nat → Int64} {i : Int32} {H : Heap} {locs : List Loc} {ls : Array Slot} {cells slots : Nat} {Q : State → Prop} (h0 : 0 ≤ i.toInt) (h1 : i.toInt + 6 ≤ (L : Int)) (hL : L ≤ 3072) (hX : XW g x0 wx rx tx) (hM : MW g m0 wm tm) (hK : va_K (dC, dI) vwCl (tx ++ (tm ++ [(cO, .long)])) s) (hP : va_P (dC, dI) vwCl (wx ++ (rx ++ (wm ++ ([(o0, .inl (cO, 1, .inr (.inl fo)))] : va_W)))) H) (hD : va_D (fun q : Nat => s.heap.size ≤ q) (wx ++ (rx ++ (wm ++ ([(o0, .inl (cO, 1, .inr (.inl fo)))] : va_W))))) (hS : va_S (fun q : Nat => s.heap.size ≤ q) s.heap H locs) (hl : lv_has ls 7 [(4, .int i), (3, .ref o0), (2, .ref m0), (1, .ref x0), (0, .ref b0)]) (hE : Ev g (fun q : Nat => s.heap.size ≤ q) s) (hcc : cells + 1 ≤ 601024) (hss : slots + 6 ≤ 7293034) (kk : ∀ (wx rx : va_W) (tx : List (ClassId × FieldType)) (wm : va_W) (fo : Nat → Int64) (H : Heap) (locs : List Loc) (ls : Array Slot), XW g x0 wx rx tx → MW g m0 wm tm → va_K (dC, dI) vwCl (tx ++ (tm ++ [(cO, .long)])) s → va_P (dC, dI) vwCl (wx ++ (rx ++ (wm ++ ([(o0, .inl (cO, 1, .inr (.inl fo)))] : va_W)))) H → va_D (fun q : Nat => s.heap.size ≤ q) (wx ++ (rx ++ (wm ++ ([(o0, .inl (cO, 1, .inr (.inl fo)))] : va_W)))) → va_S (fun q : Nat => s.heap.size ≤ q) s.heap H locs → lv_has ls 7 [(4, .int i), (3, .ref o0), (2, .ref m0), (1, .ref x0), (0, .ref b0)] → W p l e room_1 s m #[Value.ref b0] below meth c H locs (cells + 1) (slots + 6) Q (F0 m 1283 ls [])) : W p l e room_1 s m #[Value.ref b0] below meth c H locs cells slots Q (F0 m 848 ls []) := by
  obtain ⟨hx, hb, hr, hml, hown, hts0, hXs, hbl, hlocks, hgv⟩ := id C0
  have hbA : ¬ (fun q : Nat => s.heap.size ≤ q) b0 := Nat.not_le.mpr hbl
  refine lv_aload_n hx hb dL_law_848 rfl (lv_at hl 3 rfl) ?_
  refine lv_aload_n hx hb dL_law_849 rfl (lv_at hl 4 rfl) ?_
  refine lv_iload hx hb dL_law_850 (lv_at hl 0 rfl) ?_
  refine lv_iconst (v := 1) hx hb dL_law_852 (by decide) ?_
  refine lv_iadd hx hb dL_law_853 ?_
  refine lv_topi (fun x1 e_x1 => ?_)
  have e_x1 := ti_add e_x1 rfl (show (1 : Int32).toInt = 1 by decide) (by omega)
  refine va_sld hx hb hXs hbl hbA hS (vinI (by omega) (by omega)) dL_law_854 ?_
  refine lv_topi (fun x2 e_x2 => ?_)
  refine lv_aload_n hx hb dL_law_855 rfl (lv_at hl 4 rfl) ?_
  refine lv_iload hx hb dL_law_856 (lv_at hl 0 rfl) ?_
  refine lv_iconst (v := 2) hx hb dL_law_858 (by decide) ?_
  refine lv_iadd hx hb dL_law_859 ?_
  refine lv_topi (fun x3 e_x3 => ?_)
  have e_x3 := ti_add e_x3 rfl (show (2 : Int32).toInt = 2 by decide) (by omega)
  refine va_sld hx hb hXs hbl hbA hS (vinI (by omega) (by omega)) dL_law_860 ?_
  refine lv_topi (fun x4 e_x4 => ?_)
  refine ox_listed l C0 dC dI g  (x2) (x4) hX hK hP hD hS hE hl.1 (by omega) (by omega) (fun r5 wx rx tx H locs hX hK hP hD hS => ?_)
  refine lv_pop hx hb dL_law_864 rfl ?_
  refine lv_aload_n hx hb dL_law_865 rfl (lv_at hl 2 rfl) ?_
  refine lv_aload_n hx hb dL_law_866 rfl (lv_at hl 4 rfl) ?_
  refine lv_iload hx hb dL_law_867 (lv_at hl 0 rfl) ?_
  refine lv_iconst (v := 1) hx hb dL_law_869 (by decide) ?_
  refine lv_iadd hx hb dL_law_870 ?_
  refine lv_topi (fun x6 e_x6 => ?_)
  have e_x6 := ti_add e_x6 rfl (show (1 : Int32).toInt = 1 by decide) (by omega)
  refine va_sld hx hb hXs hbl hbA hS (vinI (by omega) (by omega)) dL_law_871 ?_
  refine lv_topi (fun x7 e_x7 => ?_)
  refine lv_aload_n hx hb dL_law_872 rfl (lv_at hl 4 rfl) ?_
  refine lv_iload hx hb dL_law_873 (lv_at hl 0 rfl) ?_
  refine lv_iconst (v := 2) hx hb dL_law_875 (by decide) ?_
  refine lv_iadd hx hb dL_law_876 ?_
  refine lv_topi (fun x8 e_x8 => ?_)
  have e_x8 := ti_add e_x8 rfl (show (2 : Int32).toInt = 2 by decide) (by omega)
  refine va_sld hx hb hXs hbl hbA hS (vinI (by omega) (by omega)) dL_law_877 ?_
  refine lv_topi (fun x9 e_x9 => ?_)
  refine om_listed l C0 dC dI g  (x7) (x9) hM (rotK hK) (rotP hP) (rotD hD) hS hE hl.1 (by omega) (by omega) (fun r10 wm H locs hM hP9 hD9 hS => ?_)
  have hP := rotP hP9
  have hD := rotD hD9
  refine lv_pop hx hb dL_law_881 rfl ?_
  refine lv_goto (tgt := 1283) hx hb dL_law_882 (by decide) ?_
  refine W.widen (k := cells + 1) (n := slots + 6) (by omega) (by omega) ?_
  exact kk wx rx tx wm fo H locs _ hX hM hK hP hD hS (lv_sub hl [0, 1, 2, 3, 4] rfl)
set_option maxHeartbeats 4000000 in
set_option maxRecDepth 100000 in
theorem oc_18 {p : Program} {e : Env} {s : State} {m : MethodId} {below : List Frame} {meth : Method} {c : Code} (l : Launch) (hflags : l.flags = flags0) {b0 L : Nat} {xs : Nat → Int32} (C0 : lw_At p s m meth c b0 L xs) (dC : Nat → ClassId) (dI : Nat → Nat → Nat) (g : Gv) {x0 m0 o0 : Nat} {cO : ClassId} {tm : List (ClassId × FieldType)} {wx rx wm : va_W} {tx : List (ClassId × FieldType)} {fo : Nat → Int64} {i : Int32} {H : Heap} {locs : List Loc} {ls : Array Slot} {cells slots : Nat} {Q : State → Prop} (h0 : 0 ≤ i.toInt) (h1 : i.toInt + 6 ≤ (L : Int)) (hL : L ≤ 3072) (hX : XW g x0 wx rx tx) (hM : MW g m0 wm tm) (hK : va_K (dC, dI) vwCl (tx ++ (tm ++ [(cO, .long)])) s) (hP : va_P (dC, dI) vwCl (wx ++ (rx ++ (wm ++ ([(o0, .inl (cO, 1, .inr (.inl fo)))] : va_W)))) H) (hD : va_D (fun q : Nat => s.heap.size ≤ q) (wx ++ (rx ++ (wm ++ ([(o0, .inl (cO, 1, .inr (.inl fo)))] : va_W))))) (hS : va_S (fun q : Nat => s.heap.size ≤ q) s.heap H locs) (hl : lv_has ls 7 [(4, .int i), (3, .ref o0), (2, .ref m0), (1, .ref x0), (0, .ref b0)]) (hE : Ev g (fun q : Nat => s.heap.size ≤ q) s) (hcc : cells + 1 ≤ 601024) (hss : slots + 6 ≤ 7293034) (kk : ∀ (wx rx : va_W) (tx : List (ClassId × FieldType)) (wm : va_W) (fo : Nat → Int64) (H : Heap) (locs : List Loc) (ls : Array Slot), XW g x0 wx rx tx → MW g m0 wm tm → va_K (dC, dI) vwCl (tx ++ (tm ++ [(cO, .long)])) s → va_P (dC, dI) vwCl (wx ++ (rx ++ (wm ++ ([(o0, .inl (cO, 1, .inr (.inl fo)))] : va_W)))) H → va_D (fun q : Nat => s.heap.size ≤ q) (wx ++ (rx ++ (wm ++ ([(o0, .inl (cO, 1, .inr (.inl fo)))] : va_W)))) → va_S (fun q : Nat => s.heap.size ≤ q) s.heap H locs → lv_has ls 7 [(4, .int i), (3, .ref o0), (2, .ref m0), (1, .ref x0), (0, .ref b0)] → W p l e room_1 s m #[Value.ref b0] below meth c H locs (cells + 1) (slots + 6) Q (F0 m 1283 ls [])) : W p l e room_1 s m #[Value.ref b0] below meth c H locs cells slots Q (F0 m 885 ls []) := by
  obtain ⟨hx, hb, hr, hml, hown, hts0, hXs, hbl, hlocks, hgv⟩ := id C0
  have hbA : ¬ (fun q : Nat => s.heap.size ≤ q) b0 := Nat.not_le.mpr hbl
  refine lv_aload_n hx hb dL_law_885 rfl (lv_at hl 3 rfl) ?_
  refine lv_aload_n hx hb dL_law_886 rfl (lv_at hl 4 rfl) ?_
  refine lv_iload hx hb dL_law_887 (lv_at hl 0 rfl) ?_
  refine lv_iconst (v := 1) hx hb dL_law_889 (by decide) ?_
  refine lv_iadd hx hb dL_law_890 ?_
  refine lv_topi (fun x1 e_x1 => ?_)
  have e_x1 := ti_add e_x1 rfl (show (1 : Int32).toInt = 1 by decide) (by omega)
  refine va_sld hx hb hXs hbl hbA hS (vinI (by omega) (by omega)) dL_law_891 ?_
  refine lv_topi (fun x2 e_x2 => ?_)
  refine lv_aload_n hx hb dL_law_892 rfl (lv_at hl 4 rfl) ?_
  refine lv_iload hx hb dL_law_893 (lv_at hl 0 rfl) ?_
  refine lv_iconst (v := 2) hx hb dL_law_895 (by decide) ?_
  refine lv_iadd hx hb dL_law_896 ?_
  refine lv_topi (fun x3 e_x3 => ?_)
  have e_x3 := ti_add e_x3 rfl (show (2 : Int32).toInt = 2 by decide) (by omega)
  refine va_sld hx hb hXs hbl hbA hS (vinI (by omega) (by omega)) dL_law_897 ?_
  refine lv_topi (fun x4 e_x4 => ?_)
  refine lv_aload_n hx hb dL_law_898 rfl (lv_at hl 4 rfl) ?_
  refine lv_iload hx hb dL_law_899 (lv_at hl 0 rfl) ?_
  refine lv_iconst (v := 3) hx hb dL_law_901 (by decide) ?_
  refine lv_iadd hx hb dL_law_902 ?_
  refine lv_topi (fun x5 e_x5 => ?_)
  have e_x5 := ti_add e_x5 rfl (show (3 : Int32).toInt = 3 by decide) (by omega)
  refine va_sld hx hb hXs hbl hbA hS (vinI (by omega) (by omega)) dL_law_903 ?_
  refine lv_topi (fun x6 e_x6 => ?_)
  refine ox_mustGo l C0 dC dI g  (x2) (x4) (x6) hX hK hP hD hS hE hl.1 (by omega) (by omega) (fun r7 wx rx tx H locs hX hK hP hD hS => ?_)
  refine lv_pop hx hb dL_law_907 rfl ?_
  refine lv_aload_n hx hb dL_law_908 rfl (lv_at hl 2 rfl) ?_
  refine lv_aload_n hx hb dL_law_909 rfl (lv_at hl 4 rfl) ?_
  refine lv_iload hx hb dL_law_910 (lv_at hl 0 rfl) ?_
  refine lv_iconst (v := 1) hx hb dL_law_912 (by decide) ?_
  refine lv_iadd hx hb dL_law_913 ?_
  refine lv_topi (fun x8 e_x8 => ?_)
  have e_x8 := ti_add e_x8 rfl (show (1 : Int32).toInt = 1 by decide) (by omega)
  refine va_sld hx hb hXs hbl hbA hS (vinI (by omega) (by omega)) dL_law_914 ?_
  refine lv_topi (fun x9 e_x9 => ?_)
  refine lv_aload_n hx hb dL_law_915 rfl (lv_at hl 4 rfl) ?_
  refine lv_iload hx hb dL_law_916 (lv_at hl 0 rfl) ?_
  refine lv_iconst (v := 2) hx hb dL_law_918 (by decide) ?_
  refine lv_iadd hx hb dL_law_919 ?_
  refine lv_topi (fun x10 e_x10 => ?_)
  have e_x10 := ti_add e_x10 rfl (show (2 : Int32).toInt = 2 by decide) (by omega)
  refine va_sld hx hb hXs hbl hbA hS (vinI (by omega) (by omega)) dL_law_920 ?_
  refine lv_topi (fun x11 e_x11 => ?_)
  refine lv_aload_n hx hb dL_law_921 rfl (lv_at hl 4 rfl) ?_
  refine lv_iload hx hb dL_law_922 (lv_at hl 0 rfl) ?_
  refine lv_iconst (v := 3) hx hb dL_law_924 (by decide) ?_
  refine lv_iadd hx hb dL_law_925 ?_
  refine lv_topi (fun x12 e_x12 => ?_)
  have e_x12 := ti_add e_x12 rfl (show (3 : Int32).toInt = 3 by decide) (by omega)
  refine va_sld hx hb hXs hbl hbA hS (vinI (by omega) (by omega)) dL_law_926 ?_
  refine lv_topi (fun x13 e_x13 => ?_)
  refine om_mustGo l C0 dC dI g  (x9) (x11) (x13) hM (rotK hK) (rotP hP) (rotD hD) hS hE hl.1 (by omega) (by omega) (fun r14 wm H locs hM hP9 hD9 hS => ?_)
  have hP := rotP hP9
  have hD := rotD hD9
  refine lv_pop hx hb dL_law_930 rfl ?_
  refine lv_goto (tgt := 1283) hx hb dL_law_931 (by decide) ?_
  refine W.widen (k := cells + 1) (n := slots + 6) (by omega) (by omega) ?_
  exact kk wx rx tx wm fo H locs _ hX hM hK hP hD hS (lv_sub hl [0, 1, 2, 3, 4] rfl)
set_option maxHeartbeats 4000000 in
set_option maxRecDepth 100000 in
theorem oc_19 {p : Program} {e : Env} {s : State} {m : MethodId} {below : List Frame} {meth : Method} {c : Code} (l : Launch) (hflags : l.flags = flags0) {b0 L : Nat} {xs : Nat → Int32} (C0 : lw_At p s m meth c b0 L xs) (dC : Nat → ClassId) (dI : Nat → Nat → Nat) (g : Gv) {x0 m0 o0 : Nat} {cO : ClassId} {tm : List (ClassId × FieldType)} {wx rx wm : va_W} {tx : List (ClassId × FieldType)} {fo : Nat → Int64} {i : Int32} {H : Heap} {locs : List Loc} {ls : Array Slot} {cells slots : Nat} {Q : State → Prop} (h0 : 0 ≤ i.toInt) (h1 : i.toInt + 6 ≤ (L : Int)) (hL : L ≤ 3072) (hX : XW g x0 wx rx tx) (hM : MW g m0 wm tm) (hK : va_K (dC, dI) vwCl (tx ++ (tm ++ [(cO, .long)])) s) (hP : va_P (dC, dI) vwCl (wx ++ (rx ++ (wm ++ ([(o0, .inl (cO, 1, .inr (.inl fo)))] : va_W)))) H) (hD : va_D (fun q : Nat => s.heap.size ≤ q) (wx ++ (rx ++ (wm ++ ([(o0, .inl (cO, 1, .inr (.inl fo)))] : va_W))))) (hS : va_S (fun q : Nat => s.heap.size ≤ q) s.heap H locs) (hl : lv_has ls 7 [(4, .int i), (3, .ref o0), (2, .ref m0), (1, .ref x0), (0, .ref b0)]) (hE : Ev g (fun q : Nat => s.heap.size ≤ q) s) (hcc : cells + 1 ≤ 601024) (hss : slots + 6 ≤ 7293034) (kk : ∀ (wx rx : va_W) (tx : List (ClassId × FieldType)) (wm : va_W) (fo : Nat → Int64) (H : Heap) (locs : List Loc) (ls : Array Slot), XW g x0 wx rx tx → MW g m0 wm tm → va_K (dC, dI) vwCl (tx ++ (tm ++ [(cO, .long)])) s → va_P (dC, dI) vwCl (wx ++ (rx ++ (wm ++ ([(o0, .inl (cO, 1, .inr (.inl fo)))] : va_W)))) H → va_D (fun q : Nat => s.heap.size ≤ q) (wx ++ (rx ++ (wm ++ ([(o0, .inl (cO, 1, .inr (.inl fo)))] : va_W)))) → va_S (fun q : Nat => s.heap.size ≤ q) s.heap H locs → lv_has ls 7 [(4, .int i), (3, .ref o0), (2, .ref m0), (1, .ref x0), (0, .ref b0)] → W p l e room_1 s m #[Value.ref b0] below meth c H locs (cells + 1) (slots + 6) Q (F0 m 1283 ls [])) : W p l e room_1 s m #[Value.ref b0] below meth c H locs cells slots Q (F0 m 934 ls []) := by
  obtain ⟨hx, hb, hr, hml, hown, hts0, hXs, hbl, hlocks, hgv⟩ := id C0
  have hbA : ¬ (fun q : Nat => s.heap.size ≤ q) b0 := Nat.not_le.mpr hbl
  refine lv_aload_n hx hb dL_law_934 rfl (lv_at hl 3 rfl) ?_
  refine lv_aload_n hx hb dL_law_935 rfl (lv_at hl 4 rfl) ?_
  refine lv_iload hx hb dL_law_936 (lv_at hl 0 rfl) ?_
  refine lv_iconst (v := 1) hx hb dL_law_938 (by decide) ?_
  refine lv_iadd hx hb dL_law_939 ?_
  refine lv_topi (fun x1 e_x1 => ?_)
  have e_x1 := ti_add e_x1 rfl (show (1 : Int32).toInt = 1 by decide) (by omega)
  refine va_sld hx hb hXs hbl hbA hS (vinI (by omega) (by omega)) dL_law_940 ?_
  refine lv_topi (fun x2 e_x2 => ?_)
  refine lv_aload_n hx hb dL_law_941 rfl (lv_at hl 4 rfl) ?_
  refine lv_iload hx hb dL_law_942 (lv_at hl 0 rfl) ?_
  refine lv_iconst (v := 2) hx hb dL_law_944 (by decide) ?_
  refine lv_iadd hx hb dL_law_945 ?_
  refine lv_topi (fun x3 e_x3 => ?_)
  have e_x3 := ti_add e_x3 rfl (show (2 : Int32).toInt = 2 by decide) (by omega)
  refine va_sld hx hb hXs hbl hbA hS (vinI (by omega) (by omega)) dL_law_946 ?_
  refine lv_topi (fun x4 e_x4 => ?_)
  refine lv_aload_n hx hb dL_law_947 rfl (lv_at hl 4 rfl) ?_
  refine lv_iload hx hb dL_law_948 (lv_at hl 0 rfl) ?_
  refine lv_iconst (v := 3) hx hb dL_law_950 (by decide) ?_
  refine lv_iadd hx hb dL_law_951 ?_
  refine lv_topi (fun x5 e_x5 => ?_)
  have e_x5 := ti_add e_x5 rfl (show (3 : Int32).toInt = 3 by decide) (by omega)
  refine va_sld hx hb hXs hbl hbA hS (vinI (by omega) (by omega)) dL_law_952 ?_
  refine lv_topi (fun x6 e_x6 => ?_)
  refine ox_best l C0 dC dI g  (x2) (x4) (x6) hX hK hP hD hS hE hl.1 (by omega) (by omega) (fun r7 wx rx tx H locs hX hK hP hD hS => ?_)
  refine lv_pop hx hb dL_law_956 rfl ?_
  refine lv_aload_n hx hb dL_law_957 rfl (lv_at hl 2 rfl) ?_
  refine lv_aload_n hx hb dL_law_958 rfl (lv_at hl 4 rfl) ?_
  refine lv_iload hx hb dL_law_959 (lv_at hl 0 rfl) ?_
  refine lv_iconst (v := 1) hx hb dL_law_961 (by decide) ?_
  refine lv_iadd hx hb dL_law_962 ?_
  refine lv_topi (fun x8 e_x8 => ?_)
  have e_x8 := ti_add e_x8 rfl (show (1 : Int32).toInt = 1 by decide) (by omega)
  refine va_sld hx hb hXs hbl hbA hS (vinI (by omega) (by omega)) dL_law_963 ?_
  refine lv_topi (fun x9 e_x9 => ?_)
  refine lv_aload_n hx hb dL_law_964 rfl (lv_at hl 4 rfl) ?_
  refine lv_iload hx hb dL_law_965 (lv_at hl 0 rfl) ?_
  refine lv_iconst (v := 2) hx hb dL_law_967 (by decide) ?_
  refine lv_iadd hx hb dL_law_968 ?_
  refine lv_topi (fun x10 e_x10 => ?_)
  have e_x10 := ti_add e_x10 rfl (show (2 : Int32).toInt = 2 by decide) (by omega)
  refine va_sld hx hb hXs hbl hbA hS (vinI (by omega) (by omega)) dL_law_969 ?_
  refine lv_topi (fun x11 e_x11 => ?_)
  refine lv_aload_n hx hb dL_law_970 rfl (lv_at hl 4 rfl) ?_
  refine lv_iload hx hb dL_law_971 (lv_at hl 0 rfl) ?_
  refine lv_iconst (v := 3) hx hb dL_law_973 (by decide) ?_
  refine lv_iadd hx hb dL_law_974 ?_
  refine lv_topi (fun x12 e_x12 => ?_)
  have e_x12 := ti_add e_x12 rfl (show (3 : Int32).toInt = 3 by decide) (by omega)
  refine va_sld hx hb hXs hbl hbA hS (vinI (by omega) (by omega)) dL_law_975 ?_
  refine lv_topi (fun x13 e_x13 => ?_)
  refine om_best l C0 dC dI g  (x9) (x11) (x13) hM (rotK hK) (rotP hP) (rotD hD) hS hE hl.1 (by omega) (by omega) (fun r14 wm H locs hM hP9 hD9 hS => ?_)
  have hP := rotP hP9
  have hD := rotD hD9
  refine lv_pop hx hb dL_law_979 rfl ?_
  refine lv_goto (tgt := 1283) hx hb dL_law_980 (by decide) ?_
  refine W.widen (k := cells + 1) (n := slots + 6) (by omega) (by omega) ?_
  exact kk wx rx tx wm fo H locs _ hX hM hK hP hD hS (lv_sub hl [0, 1, 2, 3, 4] rfl)
set_option maxHeartbeats 4000000 in
set_option maxRecDepth 100000 in
theorem oc_20 {p : Program} {e : Env} {s : State} {m : MethodId} {below : List Frame} {meth : Method} {c : Code} (l : Launch) (hflags : l.flags = flags0) {b0 L : Nat} {xs : Nat → Int32} (C0 : lw_At p s m meth c b0 L xs) (dC : Nat → ClassId) (dI : Nat → Nat → Nat) (g : Gv) {x0 m0 o0 : Nat} {cO : ClassId} {tm : List (ClassId × FieldType)} {wx rx wm : va_W} {tx : List (ClassId × FieldType)} {fo : Nat → Int64} {i : Int32} {H : Heap} {locs : List Loc} {ls : Array Slot} {cells slots : Nat} {Q : State → Prop} (h0 : 0 ≤ i.toInt) (h1 : i.toInt + 6 ≤ (L : Int)) (hL : L ≤ 3072) (hX : XW g x0 wx rx tx) (hM : MW g m0 wm tm) (hK : va_K (dC, dI) vwCl (tx ++ (tm ++ [(cO, .long)])) s) (hP : va_P (dC, dI) vwCl (wx ++ (rx ++ (wm ++ ([(o0, .inl (cO, 1, .inr (.inl fo)))] : va_W)))) H) (hD : va_D (fun q : Nat => s.heap.size ≤ q) (wx ++ (rx ++ (wm ++ ([(o0, .inl (cO, 1, .inr (.inl fo)))] : va_W))))) (hS : va_S (fun q : Nat => s.heap.size ≤ q) s.heap H locs) (hl : lv_has ls 7 [(4, .int i), (3, .ref o0), (2, .ref m0), (1, .ref x0), (0, .ref b0)]) (hE : Ev g (fun q : Nat => s.heap.size ≤ q) s) (hcc : cells + 1 ≤ 601024) (hss : slots + 6 ≤ 7293034) (kk : ∀ (wx rx : va_W) (tx : List (ClassId × FieldType)) (wm : va_W) (fo : Nat → Int64) (H : Heap) (locs : List Loc) (ls : Array Slot), XW g x0 wx rx tx → MW g m0 wm tm → va_K (dC, dI) vwCl (tx ++ (tm ++ [(cO, .long)])) s → va_P (dC, dI) vwCl (wx ++ (rx ++ (wm ++ ([(o0, .inl (cO, 1, .inr (.inl fo)))] : va_W)))) H → va_D (fun q : Nat => s.heap.size ≤ q) (wx ++ (rx ++ (wm ++ ([(o0, .inl (cO, 1, .inr (.inl fo)))] : va_W)))) → va_S (fun q : Nat => s.heap.size ≤ q) s.heap H locs → lv_has ls 7 [(4, .int i), (3, .ref o0), (2, .ref m0), (1, .ref x0), (0, .ref b0)] → W p l e room_1 s m #[Value.ref b0] below meth c H locs (cells + 1) (slots + 6) Q (F0 m 1283 ls [])) : W p l e room_1 s m #[Value.ref b0] below meth c H locs cells slots Q (F0 m 983 ls []) := by
  obtain ⟨hx, hb, hr, hml, hown, hts0, hXs, hbl, hlocks, hgv⟩ := id C0
  have hbA : ¬ (fun q : Nat => s.heap.size ≤ q) b0 := Nat.not_le.mpr hbl
  refine lv_aload_n hx hb dL_law_983 rfl (lv_at hl 3 rfl) ?_
  refine lv_aload_n hx hb dL_law_984 rfl (lv_at hl 4 rfl) ?_
  refine lv_iload hx hb dL_law_985 (lv_at hl 0 rfl) ?_
  refine lv_iconst (v := 1) hx hb dL_law_987 (by decide) ?_
  refine lv_iadd hx hb dL_law_988 ?_
  refine lv_topi (fun x1 e_x1 => ?_)
  have e_x1 := ti_add e_x1 rfl (show (1 : Int32).toInt = 1 by decide) (by omega)
  refine va_sld hx hb hXs hbl hbA hS (vinI (by omega) (by omega)) dL_law_989 ?_
  refine lv_topi (fun x2 e_x2 => ?_)
  refine lv_aload_n hx hb dL_law_990 rfl (lv_at hl 4 rfl) ?_
  refine lv_iload hx hb dL_law_991 (lv_at hl 0 rfl) ?_
  refine lv_iconst (v := 2) hx hb dL_law_993 (by decide) ?_
  refine lv_iadd hx hb dL_law_994 ?_
  refine lv_topi (fun x3 e_x3 => ?_)
  have e_x3 := ti_add e_x3 rfl (show (2 : Int32).toInt = 2 by decide) (by omega)
  refine va_sld hx hb hXs hbl hbA hS (vinI (by omega) (by omega)) dL_law_995 ?_
  refine lv_topi (fun x4 e_x4 => ?_)
  refine lv_aload_n hx hb dL_law_996 rfl (lv_at hl 4 rfl) ?_
  refine lv_iload hx hb dL_law_997 (lv_at hl 0 rfl) ?_
  refine lv_iconst (v := 3) hx hb dL_law_999 (by decide) ?_
  refine lv_iadd hx hb dL_law_1000 ?_
  refine lv_topi (fun x5 e_x5 => ?_)
  have e_x5 := ti_add e_x5 rfl (show (3 : Int32).toInt = 3 by decide) (by omega)
  refine va_sld hx hb hXs hbl hbA hS (vinI (by omega) (by omega)) dL_law_1001 ?_
  refine lv_topi (fun x6 e_x6 => ?_)
  refine ox_openWithout l C0 dC dI g  (x2) (x4) (x6) hX hK hP hD hS hE hl.1 (by omega) (by omega) (fun r7 wx rx tx H locs hX hK hP hD hS => ?_)
  refine lv_pop hx hb dL_law_1005 rfl ?_
  refine lv_aload_n hx hb dL_law_1006 rfl (lv_at hl 2 rfl) ?_
  refine lv_aload_n hx hb dL_law_1007 rfl (lv_at hl 4 rfl) ?_
  refine lv_iload hx hb dL_law_1008 (lv_at hl 0 rfl) ?_
  refine lv_iconst (v := 1) hx hb dL_law_1010 (by decide) ?_
  refine lv_iadd hx hb dL_law_1011 ?_
  refine lv_topi (fun x8 e_x8 => ?_)
  have e_x8 := ti_add e_x8 rfl (show (1 : Int32).toInt = 1 by decide) (by omega)
  refine va_sld hx hb hXs hbl hbA hS (vinI (by omega) (by omega)) dL_law_1012 ?_
  refine lv_topi (fun x9 e_x9 => ?_)
  refine lv_aload_n hx hb dL_law_1013 rfl (lv_at hl 4 rfl) ?_
  refine lv_iload hx hb dL_law_1014 (lv_at hl 0 rfl) ?_
  refine lv_iconst (v := 2) hx hb dL_law_1016 (by decide) ?_
  refine lv_iadd hx hb dL_law_1017 ?_
  refine lv_topi (fun x10 e_x10 => ?_)
  have e_x10 := ti_add e_x10 rfl (show (2 : Int32).toInt = 2 by decide) (by omega)
  refine va_sld hx hb hXs hbl hbA hS (vinI (by omega) (by omega)) dL_law_1018 ?_
  refine lv_topi (fun x11 e_x11 => ?_)
  refine lv_aload_n hx hb dL_law_1019 rfl (lv_at hl 4 rfl) ?_
  refine lv_iload hx hb dL_law_1020 (lv_at hl 0 rfl) ?_
  refine lv_iconst (v := 3) hx hb dL_law_1022 (by decide) ?_
  refine lv_iadd hx hb dL_law_1023 ?_
  refine lv_topi (fun x12 e_x12 => ?_)
  have e_x12 := ti_add e_x12 rfl (show (3 : Int32).toInt = 3 by decide) (by omega)
  refine va_sld hx hb hXs hbl hbA hS (vinI (by omega) (by omega)) dL_law_1024 ?_
  refine lv_topi (fun x13 e_x13 => ?_)
  refine om_openWithout l C0 dC dI g  (x9) (x11) (x13) hM (rotK hK) (rotP hP) (rotD hD) hS hE hl.1 (by omega) (by omega) (fun r14 wm H locs hM hP9 hD9 hS => ?_)
  have hP := rotP hP9
  have hD := rotD hD9
  refine lv_pop hx hb dL_law_1028 rfl ?_
  refine lv_goto (tgt := 1283) hx hb dL_law_1029 (by decide) ?_
  refine W.widen (k := cells + 1) (n := slots + 6) (by omega) (by omega) ?_
  exact kk wx rx tx wm fo H locs _ hX hM hK hP hD hS (lv_sub hl [0, 1, 2, 3, 4] rfl)
set_option maxHeartbeats 4000000 in
set_option maxRecDepth 100000 in
theorem oc_21 {p : Program} {e : Env} {s : State} {m : MethodId} {below : List Frame} {meth : Method} {c : Code} (l : Launch) (hflags : l.flags = flags0) {b0 L : Nat} {xs : Nat → Int32} (C0 : lw_At p s m meth c b0 L xs) (dC : Nat → ClassId) (dI : Nat → Nat → Nat) (g : Gv) {x0 m0 o0 : Nat} {cO : ClassId} {tm : List (ClassId × FieldType)} {wx rx wm : va_W} {tx : List (ClassId × FieldType)} {fo : Nat → Int64} {i : Int32} {H : Heap} {locs : List Loc} {ls : Array Slot} {cells slots : Nat} {Q : State → Prop} (h0 : 0 ≤ i.toInt) (h1 : i.toInt + 6 ≤ (L : Int)) (hL : L ≤ 3072) (hX : XW g x0 wx rx tx) (hM : MW g m0 wm tm) (hK : va_K (dC, dI) vwCl (tx ++ (tm ++ [(cO, .long)])) s) (hP : va_P (dC, dI) vwCl (wx ++ (rx ++ (wm ++ ([(o0, .inl (cO, 1, .inr (.inl fo)))] : va_W)))) H) (hD : va_D (fun q : Nat => s.heap.size ≤ q) (wx ++ (rx ++ (wm ++ ([(o0, .inl (cO, 1, .inr (.inl fo)))] : va_W))))) (hS : va_S (fun q : Nat => s.heap.size ≤ q) s.heap H locs) (hl : lv_has ls 7 [(4, .int i), (3, .ref o0), (2, .ref m0), (1, .ref x0), (0, .ref b0)]) (hE : Ev g (fun q : Nat => s.heap.size ≤ q) s) (hcc : cells + 1 ≤ 601024) (hss : slots + 6 ≤ 7293034) (kk : ∀ (wx rx : va_W) (tx : List (ClassId × FieldType)) (wm : va_W) (fo : Nat → Int64) (H : Heap) (locs : List Loc) (ls : Array Slot), XW g x0 wx rx tx → MW g m0 wm tm → va_K (dC, dI) vwCl (tx ++ (tm ++ [(cO, .long)])) s → va_P (dC, dI) vwCl (wx ++ (rx ++ (wm ++ ([(o0, .inl (cO, 1, .inr (.inl fo)))] : va_W)))) H → va_D (fun q : Nat => s.heap.size ≤ q) (wx ++ (rx ++ (wm ++ ([(o0, .inl (cO, 1, .inr (.inl fo)))] : va_W)))) → va_S (fun q : Nat => s.heap.size ≤ q) s.heap H locs → lv_has ls 7 [(4, .int i), (3, .ref o0), (2, .ref m0), (1, .ref x0), (0, .ref b0)] → W p l e room_1 s m #[Value.ref b0] below meth c H locs (cells + 1) (slots + 6) Q (F0 m 1283 ls [])) : W p l e room_1 s m #[Value.ref b0] below meth c H locs cells slots Q (F0 m 1032 ls []) := by
  obtain ⟨hx, hb, hr, hml, hown, hts0, hXs, hbl, hlocks, hgv⟩ := id C0
  have hbA : ¬ (fun q : Nat => s.heap.size ≤ q) b0 := Nat.not_le.mpr hbl
  refine lv_aload_n hx hb dL_law_1032 rfl (lv_at hl 3 rfl) ?_
  refine lv_aload_n hx hb dL_law_1033 rfl (lv_at hl 4 rfl) ?_
  refine lv_iload hx hb dL_law_1034 (lv_at hl 0 rfl) ?_
  refine lv_iconst (v := 1) hx hb dL_law_1036 (by decide) ?_
  refine lv_iadd hx hb dL_law_1037 ?_
  refine lv_topi (fun x1 e_x1 => ?_)
  have e_x1 := ti_add e_x1 rfl (show (1 : Int32).toInt = 1 by decide) (by omega)
  refine va_sld hx hb hXs hbl hbA hS (vinI (by omega) (by omega)) dL_law_1038 ?_
  refine lv_topi (fun x2 e_x2 => ?_)
  refine lv_aload_n hx hb dL_law_1039 rfl (lv_at hl 4 rfl) ?_
  refine lv_iload hx hb dL_law_1040 (lv_at hl 0 rfl) ?_
  refine lv_iconst (v := 2) hx hb dL_law_1042 (by decide) ?_
  refine lv_iadd hx hb dL_law_1043 ?_
  refine lv_topi (fun x3 e_x3 => ?_)
  have e_x3 := ti_add e_x3 rfl (show (2 : Int32).toInt = 2 by decide) (by omega)
  refine va_sld hx hb hXs hbl hbA hS (vinI (by omega) (by omega)) dL_law_1044 ?_
  refine lv_topi (fun x4 e_x4 => ?_)
  refine lv_aload_n hx hb dL_law_1045 rfl (lv_at hl 4 rfl) ?_
  refine lv_iload hx hb dL_law_1046 (lv_at hl 0 rfl) ?_
  refine lv_iconst (v := 3) hx hb dL_law_1048 (by decide) ?_
  refine lv_iadd hx hb dL_law_1049 ?_
  refine lv_topi (fun x5 e_x5 => ?_)
  have e_x5 := ti_add e_x5 rfl (show (3 : Int32).toInt = 3 by decide) (by omega)
  refine va_sld hx hb hXs hbl hbA hS (vinI (by omega) (by omega)) dL_law_1050 ?_
  refine lv_topi (fun x6 e_x6 => ?_)
  refine ox_review l C0 dC dI g  (x2) (x4) (x6) hX hK hP hD hS hE hl.1 (by omega) (by omega) (fun r7 wx rx tx H locs hX hK hP hD hS => ?_)
  refine lv_pop hx hb dL_law_1054 rfl ?_
  refine lv_aload_n hx hb dL_law_1055 rfl (lv_at hl 2 rfl) ?_
  refine lv_aload_n hx hb dL_law_1056 rfl (lv_at hl 4 rfl) ?_
  refine lv_iload hx hb dL_law_1057 (lv_at hl 0 rfl) ?_
  refine lv_iconst (v := 1) hx hb dL_law_1059 (by decide) ?_
  refine lv_iadd hx hb dL_law_1060 ?_
  refine lv_topi (fun x8 e_x8 => ?_)
  have e_x8 := ti_add e_x8 rfl (show (1 : Int32).toInt = 1 by decide) (by omega)
  refine va_sld hx hb hXs hbl hbA hS (vinI (by omega) (by omega)) dL_law_1061 ?_
  refine lv_topi (fun x9 e_x9 => ?_)
  refine lv_aload_n hx hb dL_law_1062 rfl (lv_at hl 4 rfl) ?_
  refine lv_iload hx hb dL_law_1063 (lv_at hl 0 rfl) ?_
  refine lv_iconst (v := 2) hx hb dL_law_1065 (by decide) ?_
  refine lv_iadd hx hb dL_law_1066 ?_
  refine lv_topi (fun x10 e_x10 => ?_)
  have e_x10 := ti_add e_x10 rfl (show (2 : Int32).toInt = 2 by decide) (by omega)
  refine va_sld hx hb hXs hbl hbA hS (vinI (by omega) (by omega)) dL_law_1067 ?_
  refine lv_topi (fun x11 e_x11 => ?_)
  refine lv_aload_n hx hb dL_law_1068 rfl (lv_at hl 4 rfl) ?_
  refine lv_iload hx hb dL_law_1069 (lv_at hl 0 rfl) ?_
  refine lv_iconst (v := 3) hx hb dL_law_1071 (by decide) ?_
  refine lv_iadd hx hb dL_law_1072 ?_
  refine lv_topi (fun x12 e_x12 => ?_)
  have e_x12 := ti_add e_x12 rfl (show (3 : Int32).toInt = 3 by decide) (by omega)
  refine va_sld hx hb hXs hbl hbA hS (vinI (by omega) (by omega)) dL_law_1073 ?_
  refine lv_topi (fun x13 e_x13 => ?_)
  refine om_review l C0 dC dI g  (x9) (x11) (x13) hM (rotK hK) (rotP hP) (rotD hD) hS hE hl.1 (by omega) (by omega) (fun r14 wm H locs hM hP9 hD9 hS => ?_)
  have hP := rotP hP9
  have hD := rotD hD9
  refine lv_pop hx hb dL_law_1077 rfl ?_
  refine lv_goto (tgt := 1283) hx hb dL_law_1078 (by decide) ?_
  refine W.widen (k := cells + 1) (n := slots + 6) (by omega) (by omega) ?_
  exact kk wx rx tx wm fo H locs _ hX hM hK hP hD hS (lv_sub hl [0, 1, 2, 3, 4] rfl)
set_option maxHeartbeats 4000000 in
set_option maxRecDepth 100000 in
theorem oc_22 {p : Program} {e : Env} {s : State} {m : MethodId} {below : List Frame} {meth : Method} {c : Code} (l : Launch) (hflags : l.flags = flags0) {b0 L : Nat} {xs : Nat → Int32} (C0 : lw_At p s m meth c b0 L xs) (dC : Nat → ClassId) (dI : Nat → Nat → Nat) (g : Gv) {x0 m0 o0 : Nat} {cO : ClassId} {tm : List (ClassId × FieldType)} {wx rx wm : va_W} {tx : List (ClassId × FieldType)} {fo : Nat → Int64} {i : Int32} {H : Heap} {locs : List Loc} {ls : Array Slot} {cells slots : Nat} {Q : State → Prop} (h0 : 0 ≤ i.toInt) (h1 : i.toInt + 6 ≤ (L : Int)) (hL : L ≤ 3072) (hX : XW g x0 wx rx tx) (hM : MW g m0 wm tm) (hK : va_K (dC, dI) vwCl (tx ++ (tm ++ [(cO, .long)])) s) (hP : va_P (dC, dI) vwCl (wx ++ (rx ++ (wm ++ ([(o0, .inl (cO, 1, .inr (.inl fo)))] : va_W)))) H) (hD : va_D (fun q : Nat => s.heap.size ≤ q) (wx ++ (rx ++ (wm ++ ([(o0, .inl (cO, 1, .inr (.inl fo)))] : va_W))))) (hS : va_S (fun q : Nat => s.heap.size ≤ q) s.heap H locs) (hl : lv_has ls 7 [(4, .int i), (3, .ref o0), (2, .ref m0), (1, .ref x0), (0, .ref b0)]) (hE : Ev g (fun q : Nat => s.heap.size ≤ q) s) (hcc : cells + 1 ≤ 601024) (hss : slots + 6 ≤ 7293034) (kk : ∀ (wx rx : va_W) (tx : List (ClassId × FieldType)) (wm : va_W) (fo : Nat → Int64) (H : Heap) (locs : List Loc) (ls : Array Slot), XW g x0 wx rx tx → MW g m0 wm tm → va_K (dC, dI) vwCl (tx ++ (tm ++ [(cO, .long)])) s → va_P (dC, dI) vwCl (wx ++ (rx ++ (wm ++ ([(o0, .inl (cO, 1, .inr (.inl fo)))] : va_W)))) H → va_D (fun q : Nat => s.heap.size ≤ q) (wx ++ (rx ++ (wm ++ ([(o0, .inl (cO, 1, .inr (.inl fo)))] : va_W)))) → va_S (fun q : Nat => s.heap.size ≤ q) s.heap H locs → lv_has ls 7 [(4, .int i), (3, .ref o0), (2, .ref m0), (1, .ref x0), (0, .ref b0)] → W p l e room_1 s m #[Value.ref b0] below meth c H locs (cells + 1) (slots + 6) Q (F0 m 1283 ls [])) : W p l e room_1 s m #[Value.ref b0] below meth c H locs cells slots Q (F0 m 1081 ls []) := by
  obtain ⟨hx, hb, hr, hml, hown, hts0, hXs, hbl, hlocks, hgv⟩ := id C0
  have hbA : ¬ (fun q : Nat => s.heap.size ≤ q) b0 := Nat.not_le.mpr hbl
  refine lv_aload_n hx hb dL_law_1081 rfl (lv_at hl 3 rfl) ?_
  refine lv_aload_n hx hb dL_law_1082 rfl (lv_at hl 4 rfl) ?_
  refine lv_iload hx hb dL_law_1083 (lv_at hl 0 rfl) ?_
  refine lv_iconst (v := 1) hx hb dL_law_1085 (by decide) ?_
  refine lv_iadd hx hb dL_law_1086 ?_
  refine lv_topi (fun x1 e_x1 => ?_)
  have e_x1 := ti_add e_x1 rfl (show (1 : Int32).toInt = 1 by decide) (by omega)
  refine va_sld hx hb hXs hbl hbA hS (vinI (by omega) (by omega)) dL_law_1087 ?_
  refine lv_topi (fun x2 e_x2 => ?_)
  refine lv_aload_n hx hb dL_law_1088 rfl (lv_at hl 4 rfl) ?_
  refine lv_iload hx hb dL_law_1089 (lv_at hl 0 rfl) ?_
  refine lv_iconst (v := 2) hx hb dL_law_1091 (by decide) ?_
  refine lv_iadd hx hb dL_law_1092 ?_
  refine lv_topi (fun x3 e_x3 => ?_)
  have e_x3 := ti_add e_x3 rfl (show (2 : Int32).toInt = 2 by decide) (by omega)
  refine va_sld hx hb hXs hbl hbA hS (vinI (by omega) (by omega)) dL_law_1093 ?_
  refine lv_topi (fun x4 e_x4 => ?_)
  refine ox_lift l C0 dC dI g  (x2) (x4) hX hK hP hD hS hE hl.1 (by omega) (by omega) (fun r5 wx rx tx H locs hX hK hP hD hS => ?_)
  refine lv_pop hx hb dL_law_1097 rfl ?_
  refine lv_aload_n hx hb dL_law_1098 rfl (lv_at hl 2 rfl) ?_
  refine lv_aload_n hx hb dL_law_1099 rfl (lv_at hl 4 rfl) ?_
  refine lv_iload hx hb dL_law_1100 (lv_at hl 0 rfl) ?_
  refine lv_iconst (v := 1) hx hb dL_law_1102 (by decide) ?_
  refine lv_iadd hx hb dL_law_1103 ?_
  refine lv_topi (fun x6 e_x6 => ?_)
  have e_x6 := ti_add e_x6 rfl (show (1 : Int32).toInt = 1 by decide) (by omega)
  refine va_sld hx hb hXs hbl hbA hS (vinI (by omega) (by omega)) dL_law_1104 ?_
  refine lv_topi (fun x7 e_x7 => ?_)
  refine lv_aload_n hx hb dL_law_1105 rfl (lv_at hl 4 rfl) ?_
  refine lv_iload hx hb dL_law_1106 (lv_at hl 0 rfl) ?_
  refine lv_iconst (v := 2) hx hb dL_law_1108 (by decide) ?_
  refine lv_iadd hx hb dL_law_1109 ?_
  refine lv_topi (fun x8 e_x8 => ?_)
  have e_x8 := ti_add e_x8 rfl (show (2 : Int32).toInt = 2 by decide) (by omega)
  refine va_sld hx hb hXs hbl hbA hS (vinI (by omega) (by omega)) dL_law_1110 ?_
  refine lv_topi (fun x9 e_x9 => ?_)
  refine om_lift l C0 dC dI g  (x7) (x9) hM (rotK hK) (rotP hP) (rotD hD) hS hE hl.1 (by omega) (by omega) (fun r10 wm H locs hM hP9 hD9 hS => ?_)
  have hP := rotP hP9
  have hD := rotD hD9
  refine lv_pop hx hb dL_law_1114 rfl ?_
  refine lv_goto (tgt := 1283) hx hb dL_law_1115 (by decide) ?_
  refine W.widen (k := cells + 1) (n := slots + 6) (by omega) (by omega) ?_
  exact kk wx rx tx wm fo H locs _ hX hM hK hP hD hS (lv_sub hl [0, 1, 2, 3, 4] rfl)
set_option maxHeartbeats 4000000 in
set_option maxRecDepth 100000 in
theorem oc_23 {p : Program} {e : Env} {s : State} {m : MethodId} {below : List Frame} {meth : Method} {c : Code} (l : Launch) (hflags : l.flags = flags0) {b0 L : Nat} {xs : Nat → Int32} (C0 : lw_At p s m meth c b0 L xs) (dC : Nat → ClassId) (dI : Nat → Nat → Nat) (g : Gv) {x0 m0 o0 : Nat} {cO : ClassId} {tm : List (ClassId × FieldType)} {wx rx wm : va_W} {tx : List (ClassId × FieldType)} {fo : Nat → Int64} {i : Int32} {H : Heap} {locs : List Loc} {ls : Array Slot} {cells slots : Nat} {Q : State → Prop} (h0 : 0 ≤ i.toInt) (h1 : i.toInt + 6 ≤ (L : Int)) (hL : L ≤ 3072) (hX : XW g x0 wx rx tx) (hM : MW g m0 wm tm) (hK : va_K (dC, dI) vwCl (tx ++ (tm ++ [(cO, .long)])) s) (hP : va_P (dC, dI) vwCl (wx ++ (rx ++ (wm ++ ([(o0, .inl (cO, 1, .inr (.inl fo)))] : va_W)))) H) (hD : va_D (fun q : Nat => s.heap.size ≤ q) (wx ++ (rx ++ (wm ++ ([(o0, .inl (cO, 1, .inr (.inl fo)))] : va_W))))) (hS : va_S (fun q : Nat => s.heap.size ≤ q) s.heap H locs) (hl : lv_has ls 7 [(4, .int i), (3, .ref o0), (2, .ref m0), (1, .ref x0), (0, .ref b0)]) (hE : Ev g (fun q : Nat => s.heap.size ≤ q) s) (hcc : cells + 1 ≤ 601024) (hss : slots + 6 ≤ 7293034) (kk : ∀ (wx rx : va_W) (tx : List (ClassId × FieldType)) (wm : va_W) (fo : Nat → Int64) (H : Heap) (locs : List Loc) (ls : Array Slot), XW g x0 wx rx tx → MW g m0 wm tm → va_K (dC, dI) vwCl (tx ++ (tm ++ [(cO, .long)])) s → va_P (dC, dI) vwCl (wx ++ (rx ++ (wm ++ ([(o0, .inl (cO, 1, .inr (.inl fo)))] : va_W)))) H → va_D (fun q : Nat => s.heap.size ≤ q) (wx ++ (rx ++ (wm ++ ([(o0, .inl (cO, 1, .inr (.inl fo)))] : va_W)))) → va_S (fun q : Nat => s.heap.size ≤ q) s.heap H locs → lv_has ls 7 [(4, .int i), (3, .ref o0), (2, .ref m0), (1, .ref x0), (0, .ref b0)] → W p l e room_1 s m #[Value.ref b0] below meth c H locs (cells + 1) (slots + 6) Q (F0 m 1283 ls [])) : W p l e room_1 s m #[Value.ref b0] below meth c H locs cells slots Q (F0 m 1118 ls []) := by
  obtain ⟨hx, hb, hr, hml, hown, hts0, hXs, hbl, hlocks, hgv⟩ := id C0
  have hbA : ¬ (fun q : Nat => s.heap.size ≤ q) b0 := Nat.not_le.mpr hbl
  refine lv_aload_n hx hb dL_law_1118 rfl (lv_at hl 3 rfl) ?_
  refine lv_aload_n hx hb dL_law_1119 rfl (lv_at hl 4 rfl) ?_
  refine lv_iload hx hb dL_law_1120 (lv_at hl 0 rfl) ?_
  refine lv_iconst (v := 1) hx hb dL_law_1122 (by decide) ?_
  refine lv_iadd hx hb dL_law_1123 ?_
  refine lv_topi (fun x1 e_x1 => ?_)
  have e_x1 := ti_add e_x1 rfl (show (1 : Int32).toInt = 1 by decide) (by omega)
  refine va_sld hx hb hXs hbl hbA hS (vinI (by omega) (by omega)) dL_law_1124 ?_
  refine lv_topi (fun x2 e_x2 => ?_)
  refine lv_aload_n hx hb dL_law_1125 rfl (lv_at hl 4 rfl) ?_
  refine lv_iload hx hb dL_law_1126 (lv_at hl 0 rfl) ?_
  refine lv_iconst (v := 2) hx hb dL_law_1128 (by decide) ?_
  refine lv_iadd hx hb dL_law_1129 ?_
  refine lv_topi (fun x3 e_x3 => ?_)
  have e_x3 := ti_add e_x3 rfl (show (2 : Int32).toInt = 2 by decide) (by omega)
  refine va_sld hx hb hXs hbl hbA hS (vinI (by omega) (by omega)) dL_law_1130 ?_
  refine lv_topi (fun x4 e_x4 => ?_)
  refine ox_died l C0 dC dI g  (x2) (x4) hX hK hP hD hS hE hl.1 (by omega) (by omega) (fun r5 wx rx tx H locs hX hK hP hD hS => ?_)
  refine lv_pop hx hb dL_law_1134 rfl ?_
  refine lv_aload_n hx hb dL_law_1135 rfl (lv_at hl 2 rfl) ?_
  refine lv_aload_n hx hb dL_law_1136 rfl (lv_at hl 4 rfl) ?_
  refine lv_iload hx hb dL_law_1137 (lv_at hl 0 rfl) ?_
  refine lv_iconst (v := 1) hx hb dL_law_1139 (by decide) ?_
  refine lv_iadd hx hb dL_law_1140 ?_
  refine lv_topi (fun x6 e_x6 => ?_)
  have e_x6 := ti_add e_x6 rfl (show (1 : Int32).toInt = 1 by decide) (by omega)
  refine va_sld hx hb hXs hbl hbA hS (vinI (by omega) (by omega)) dL_law_1141 ?_
  refine lv_topi (fun x7 e_x7 => ?_)
  refine lv_aload_n hx hb dL_law_1142 rfl (lv_at hl 4 rfl) ?_
  refine lv_iload hx hb dL_law_1143 (lv_at hl 0 rfl) ?_
  refine lv_iconst (v := 2) hx hb dL_law_1145 (by decide) ?_
  refine lv_iadd hx hb dL_law_1146 ?_
  refine lv_topi (fun x8 e_x8 => ?_)
  have e_x8 := ti_add e_x8 rfl (show (2 : Int32).toInt = 2 by decide) (by omega)
  refine va_sld hx hb hXs hbl hbA hS (vinI (by omega) (by omega)) dL_law_1147 ?_
  refine lv_topi (fun x9 e_x9 => ?_)
  refine om_died l C0 dC dI g  (x7) (x9) hM (rotK hK) (rotP hP) (rotD hD) hS hE hl.1 (by omega) (by omega) (fun r10 wm H locs hM hP9 hD9 hS => ?_)
  have hP := rotP hP9
  have hD := rotD hD9
  refine lv_pop hx hb dL_law_1151 rfl ?_
  refine lv_goto (tgt := 1283) hx hb dL_law_1152 (by decide) ?_
  refine W.widen (k := cells + 1) (n := slots + 6) (by omega) (by omega) ?_
  exact kk wx rx tx wm fo H locs _ hX hM hK hP hD hS (lv_sub hl [0, 1, 2, 3, 4] rfl)
set_option maxHeartbeats 4000000 in
set_option maxRecDepth 100000 in
theorem oc_24 {p : Program} {e : Env} {s : State} {m : MethodId} {below : List Frame} {meth : Method} {c : Code} (l : Launch) (hflags : l.flags = flags0) {b0 L : Nat} {xs : Nat → Int32} (C0 : lw_At p s m meth c b0 L xs) (dC : Nat → ClassId) (dI : Nat → Nat → Nat) (g : Gv) {x0 m0 o0 : Nat} {cO : ClassId} {tm : List (ClassId × FieldType)} {wx rx wm : va_W} {tx : List (ClassId × FieldType)} {fo : Nat → Int64} {i : Int32} {H : Heap} {locs : List Loc} {ls : Array Slot} {cells slots : Nat} {Q : State → Prop} (h0 : 0 ≤ i.toInt) (h1 : i.toInt + 6 ≤ (L : Int)) (hL : L ≤ 3072) (hX : XW g x0 wx rx tx) (hM : MW g m0 wm tm) (hK : va_K (dC, dI) vwCl (tx ++ (tm ++ [(cO, .long)])) s) (hP : va_P (dC, dI) vwCl (wx ++ (rx ++ (wm ++ ([(o0, .inl (cO, 1, .inr (.inl fo)))] : va_W)))) H) (hD : va_D (fun q : Nat => s.heap.size ≤ q) (wx ++ (rx ++ (wm ++ ([(o0, .inl (cO, 1, .inr (.inl fo)))] : va_W))))) (hS : va_S (fun q : Nat => s.heap.size ≤ q) s.heap H locs) (hl : lv_has ls 7 [(4, .int i), (3, .ref o0), (2, .ref m0), (1, .ref x0), (0, .ref b0)]) (hE : Ev g (fun q : Nat => s.heap.size ≤ q) s) (hcc : cells + 1 ≤ 601024) (hss : slots + 6 ≤ 7293034) (kk : ∀ (wx rx : va_W) (tx : List (ClassId × FieldType)) (wm : va_W) (fo : Nat → Int64) (H : Heap) (locs : List Loc) (ls : Array Slot), XW g x0 wx rx tx → MW g m0 wm tm → va_K (dC, dI) vwCl (tx ++ (tm ++ [(cO, .long)])) s → va_P (dC, dI) vwCl (wx ++ (rx ++ (wm ++ ([(o0, .inl (cO, 1, .inr (.inl fo)))] : va_W)))) H → va_D (fun q : Nat => s.heap.size ≤ q) (wx ++ (rx ++ (wm ++ ([(o0, .inl (cO, 1, .inr (.inl fo)))] : va_W)))) → va_S (fun q : Nat => s.heap.size ≤ q) s.heap H locs → lv_has ls 7 [(4, .int i), (3, .ref o0), (2, .ref m0), (1, .ref x0), (0, .ref b0)] → W p l e room_1 s m #[Value.ref b0] below meth c H locs (cells + 1) (slots + 6) Q (F0 m 1283 ls [])) : W p l e room_1 s m #[Value.ref b0] below meth c H locs cells slots Q (F0 m 1155 ls []) := by
  obtain ⟨hx, hb, hr, hml, hown, hts0, hXs, hbl, hlocks, hgv⟩ := id C0
  have hbA : ¬ (fun q : Nat => s.heap.size ≤ q) b0 := Nat.not_le.mpr hbl
  refine lv_aload_n hx hb dL_law_1155 rfl (lv_at hl 3 rfl) ?_
  refine lv_aload_n hx hb dL_law_1156 rfl (lv_at hl 4 rfl) ?_
  refine lv_iload hx hb dL_law_1157 (lv_at hl 0 rfl) ?_
  refine lv_iconst (v := 1) hx hb dL_law_1159 (by decide) ?_
  refine lv_iadd hx hb dL_law_1160 ?_
  refine lv_topi (fun x1 e_x1 => ?_)
  have e_x1 := ti_add e_x1 rfl (show (1 : Int32).toInt = 1 by decide) (by omega)
  refine va_sld hx hb hXs hbl hbA hS (vinI (by omega) (by omega)) dL_law_1161 ?_
  refine lv_topi (fun x2 e_x2 => ?_)
  refine lv_aload_n hx hb dL_law_1162 rfl (lv_at hl 4 rfl) ?_
  refine lv_iload hx hb dL_law_1163 (lv_at hl 0 rfl) ?_
  refine lv_iconst (v := 2) hx hb dL_law_1165 (by decide) ?_
  refine lv_iadd hx hb dL_law_1166 ?_
  refine lv_topi (fun x3 e_x3 => ?_)
  have e_x3 := ti_add e_x3 rfl (show (2 : Int32).toInt = 2 by decide) (by omega)
  refine va_sld hx hb hXs hbl hbA hS (vinI (by omega) (by omega)) dL_law_1167 ?_
  refine lv_topi (fun x4 e_x4 => ?_)
  refine ox_put l C0 dC dI g  (x2) (x4) hX hK hP hD hS hE hl.1 (by omega) (by omega) (fun r5 wx rx tx H locs hX hK hP hD hS => ?_)
  refine lv_pop hx hb dL_law_1171 rfl ?_
  refine lv_aload_n hx hb dL_law_1172 rfl (lv_at hl 2 rfl) ?_
  refine lv_aload_n hx hb dL_law_1173 rfl (lv_at hl 4 rfl) ?_
  refine lv_iload hx hb dL_law_1174 (lv_at hl 0 rfl) ?_
  refine lv_iconst (v := 1) hx hb dL_law_1176 (by decide) ?_
  refine lv_iadd hx hb dL_law_1177 ?_
  refine lv_topi (fun x6 e_x6 => ?_)
  have e_x6 := ti_add e_x6 rfl (show (1 : Int32).toInt = 1 by decide) (by omega)
  refine va_sld hx hb hXs hbl hbA hS (vinI (by omega) (by omega)) dL_law_1178 ?_
  refine lv_topi (fun x7 e_x7 => ?_)
  refine lv_aload_n hx hb dL_law_1179 rfl (lv_at hl 4 rfl) ?_
  refine lv_iload hx hb dL_law_1180 (lv_at hl 0 rfl) ?_
  refine lv_iconst (v := 2) hx hb dL_law_1182 (by decide) ?_
  refine lv_iadd hx hb dL_law_1183 ?_
  refine lv_topi (fun x8 e_x8 => ?_)
  have e_x8 := ti_add e_x8 rfl (show (2 : Int32).toInt = 2 by decide) (by omega)
  refine va_sld hx hb hXs hbl hbA hS (vinI (by omega) (by omega)) dL_law_1184 ?_
  refine lv_topi (fun x9 e_x9 => ?_)
  refine om_put l C0 dC dI g  (x7) (x9) hM (rotK hK) (rotP hP) (rotD hD) hS hE hl.1 (by omega) (by omega) (fun r10 wm H locs hM hP9 hD9 hS => ?_)
  have hP := rotP hP9
  have hD := rotD hD9
  refine lv_pop hx hb dL_law_1188 rfl ?_
  refine lv_goto (tgt := 1283) hx hb dL_law_1189 (by decide) ?_
  refine W.widen (k := cells + 1) (n := slots + 6) (by omega) (by omega) ?_
  exact kk wx rx tx wm fo H locs _ hX hM hK hP hD hS (lv_sub hl [0, 1, 2, 3, 4] rfl)
set_option maxHeartbeats 4000000 in
set_option maxRecDepth 100000 in
theorem oc_25 {p : Program} {e : Env} {s : State} {m : MethodId} {below : List Frame} {meth : Method} {c : Code} (l : Launch) (hflags : l.flags = flags0) {b0 L : Nat} {xs : Nat → Int32} (C0 : lw_At p s m meth c b0 L xs) (dC : Nat → ClassId) (dI : Nat → Nat → Nat) (g : Gv) {x0 m0 o0 : Nat} {cO : ClassId} {tm : List (ClassId × FieldType)} {wx rx wm : va_W} {tx : List (ClassId × FieldType)} {fo : Nat → Int64} {i : Int32} {H : Heap} {locs : List Loc} {ls : Array Slot} {cells slots : Nat} {Q : State → Prop} (h0 : 0 ≤ i.toInt) (h1 : i.toInt + 6 ≤ (L : Int)) (hL : L ≤ 3072) (hX : XW g x0 wx rx tx) (hM : MW g m0 wm tm) (hK : va_K (dC, dI) vwCl (tx ++ (tm ++ [(cO, .long)])) s) (hP : va_P (dC, dI) vwCl (wx ++ (rx ++ (wm ++ ([(o0, .inl (cO, 1, .inr (.inl fo)))] : va_W)))) H) (hD : va_D (fun q : Nat => s.heap.size ≤ q) (wx ++ (rx ++ (wm ++ ([(o0, .inl (cO, 1, .inr (.inl fo)))] : va_W))))) (hS : va_S (fun q : Nat => s.heap.size ≤ q) s.heap H locs) (hl : lv_has ls 7 [(4, .int i), (3, .ref o0), (2, .ref m0), (1, .ref x0), (0, .ref b0)]) (hE : Ev g (fun q : Nat => s.heap.size ≤ q) s) (hcc : cells + 1 ≤ 601024) (hss : slots + 6 ≤ 7293034) (kk : ∀ (wx rx : va_W) (tx : List (ClassId × FieldType)) (wm : va_W) (fo : Nat → Int64) (H : Heap) (locs : List Loc) (ls : Array Slot), XW g x0 wx rx tx → MW g m0 wm tm → va_K (dC, dI) vwCl (tx ++ (tm ++ [(cO, .long)])) s → va_P (dC, dI) vwCl (wx ++ (rx ++ (wm ++ ([(o0, .inl (cO, 1, .inr (.inl fo)))] : va_W)))) H → va_D (fun q : Nat => s.heap.size ≤ q) (wx ++ (rx ++ (wm ++ ([(o0, .inl (cO, 1, .inr (.inl fo)))] : va_W)))) → va_S (fun q : Nat => s.heap.size ≤ q) s.heap H locs → lv_has ls 7 [(4, .int i), (3, .ref o0), (2, .ref m0), (1, .ref x0), (0, .ref b0)] → W p l e room_1 s m #[Value.ref b0] below meth c H locs (cells + 1) (slots + 6) Q (F0 m 1283 ls [])) : W p l e room_1 s m #[Value.ref b0] below meth c H locs cells slots Q (F0 m 1192 ls []) := by
  obtain ⟨hx, hb, hr, hml, hown, hts0, hXs, hbl, hlocks, hgv⟩ := id C0
  have hbA : ¬ (fun q : Nat => s.heap.size ≤ q) b0 := Nat.not_le.mpr hbl
  refine lv_aload_n hx hb dL_law_1192 rfl (lv_at hl 3 rfl) ?_
  refine ox_undo l C0 dC dI g   hX hK hP hD hS hE hl.1 (by omega) (by omega) (fun r1 wx rx tx H locs hX hK hP hD hS => ?_)
  refine lv_pop hx hb dL_law_1196 rfl ?_
  refine lv_aload_n hx hb dL_law_1197 rfl (lv_at hl 2 rfl) ?_
  refine om_undo l C0 dC dI g   hM (rotK hK) (rotP hP) (rotD hD) hS hE hl.1 (by omega) (by omega) (fun r2 wm H locs hM hP9 hD9 hS => ?_)
  have hP := rotP hP9
  have hD := rotD hD9
  refine lv_pop hx hb dL_law_1201 rfl ?_
  refine lv_goto (tgt := 1283) hx hb dL_law_1202 (by decide) ?_
  refine W.widen (k := cells + 1) (n := slots + 6) (by omega) (by omega) ?_
  exact kk wx rx tx wm fo H locs _ hX hM hK hP hD hS (lv_sub hl [0, 1, 2, 3, 4] rfl)
set_option maxHeartbeats 4000000 in
set_option maxRecDepth 100000 in
theorem oc_26 {p : Program} {e : Env} {s : State} {m : MethodId} {below : List Frame} {meth : Method} {c : Code} (l : Launch) (hflags : l.flags = flags0) {b0 L : Nat} {xs : Nat → Int32} (C0 : lw_At p s m meth c b0 L xs) (dC : Nat → ClassId) (dI : Nat → Nat → Nat) (g : Gv) {x0 m0 o0 : Nat} {cO : ClassId} {tm : List (ClassId × FieldType)} {wx rx wm : va_W} {tx : List (ClassId × FieldType)} {fo : Nat → Int64} {i : Int32} {H : Heap} {locs : List Loc} {ls : Array Slot} {cells slots : Nat} {Q : State → Prop} (h0 : 0 ≤ i.toInt) (h1 : i.toInt + 6 ≤ (L : Int)) (hL : L ≤ 3072) (hX : XW g x0 wx rx tx) (hM : MW g m0 wm tm) (hK : va_K (dC, dI) vwCl (tx ++ (tm ++ [(cO, .long)])) s) (hP : va_P (dC, dI) vwCl (wx ++ (rx ++ (wm ++ ([(o0, .inl (cO, 1, .inr (.inl fo)))] : va_W)))) H) (hD : va_D (fun q : Nat => s.heap.size ≤ q) (wx ++ (rx ++ (wm ++ ([(o0, .inl (cO, 1, .inr (.inl fo)))] : va_W))))) (hS : va_S (fun q : Nat => s.heap.size ≤ q) s.heap H locs) (hl : lv_has ls 7 [(4, .int i), (3, .ref o0), (2, .ref m0), (1, .ref x0), (0, .ref b0)]) (hE : Ev g (fun q : Nat => s.heap.size ≤ q) s) (hcc : cells + 1 ≤ 601024) (hss : slots + 6 ≤ 7293034) (kk : ∀ (wx rx : va_W) (tx : List (ClassId × FieldType)) (wm : va_W) (fo : Nat → Int64) (H : Heap) (locs : List Loc) (ls : Array Slot), XW g x0 wx rx tx → MW g m0 wm tm → va_K (dC, dI) vwCl (tx ++ (tm ++ [(cO, .long)])) s → va_P (dC, dI) vwCl (wx ++ (rx ++ (wm ++ ([(o0, .inl (cO, 1, .inr (.inl fo)))] : va_W)))) H → va_D (fun q : Nat => s.heap.size ≤ q) (wx ++ (rx ++ (wm ++ ([(o0, .inl (cO, 1, .inr (.inl fo)))] : va_W)))) → va_S (fun q : Nat => s.heap.size ≤ q) s.heap H locs → lv_has ls 7 [(4, .int i), (3, .ref o0), (2, .ref m0), (1, .ref x0), (0, .ref b0)] → W p l e room_1 s m #[Value.ref b0] below meth c H locs (cells + 1) (slots + 6) Q (F0 m 1283 ls [])) : W p l e room_1 s m #[Value.ref b0] below meth c H locs cells slots Q (F0 m 1205 ls []) := by
  obtain ⟨hx, hb, hr, hml, hown, hts0, hXs, hbl, hlocks, hgv⟩ := id C0
  have hbA : ¬ (fun q : Nat => s.heap.size ≤ q) b0 := Nat.not_le.mpr hbl
  refine lv_aload_n hx hb dL_law_1205 rfl (lv_at hl 3 rfl) ?_
  refine lv_aload_n hx hb dL_law_1206 rfl (lv_at hl 4 rfl) ?_
  refine lv_iload hx hb dL_law_1207 (lv_at hl 0 rfl) ?_
  refine lv_iconst (v := 1) hx hb dL_law_1209 (by decide) ?_
  refine lv_iadd hx hb dL_law_1210 ?_
  refine lv_topi (fun x1 e_x1 => ?_)
  have e_x1 := ti_add e_x1 rfl (show (1 : Int32).toInt = 1 by decide) (by omega)
  refine va_sld hx hb hXs hbl hbA hS (vinI (by omega) (by omega)) dL_law_1211 ?_
  refine lv_topi (fun x2 e_x2 => ?_)
  refine lv_aload_n hx hb dL_law_1212 rfl (lv_at hl 4 rfl) ?_
  refine lv_iload hx hb dL_law_1213 (lv_at hl 0 rfl) ?_
  refine lv_iconst (v := 2) hx hb dL_law_1215 (by decide) ?_
  refine lv_iadd hx hb dL_law_1216 ?_
  refine lv_topi (fun x3 e_x3 => ?_)
  have e_x3 := ti_add e_x3 rfl (show (2 : Int32).toInt = 2 by decide) (by omega)
  refine va_sld hx hb hXs hbl hbA hS (vinI (by omega) (by omega)) dL_law_1217 ?_
  refine lv_topi (fun x4 e_x4 => ?_)
  refine lv_if_eq (tgt := 1225) hx hb dL_law_1218 (by decide) (fun c5 => ?_) (fun c5 => ?_)
  · skip
    refine lv_iconst (v := 0) hx hb dL_law_1225 (by decide) ?_
    refine ox_keep l C0 dC dI g  (x2) (0) hX hK hP hD hS hE hl.1 (by omega) (by omega) (fun r6 wx rx tx H locs hX hK hP hD hS => ?_)
    refine lv_pop hx hb dL_law_1229 rfl ?_
    refine lv_aload_n hx hb dL_law_1230 rfl (lv_at hl 2 rfl) ?_
    refine lv_aload_n hx hb dL_law_1231 rfl (lv_at hl 4 rfl) ?_
    refine lv_iload hx hb dL_law_1232 (lv_at hl 0 rfl) ?_
    refine lv_iconst (v := 1) hx hb dL_law_1234 (by decide) ?_
    refine lv_iadd hx hb dL_law_1235 ?_
    refine lv_topi (fun x7 e_x7 => ?_)
    have e_x7 := ti_add e_x7 rfl (show (1 : Int32).toInt = 1 by decide) (by omega)
    refine va_sld hx hb hXs hbl hbA hS (vinI (by omega) (by omega)) dL_law_1236 ?_
    refine lv_topi (fun x8 e_x8 => ?_)
    refine lv_aload_n hx hb dL_law_1237 rfl (lv_at hl 4 rfl) ?_
    refine lv_iload hx hb dL_law_1238 (lv_at hl 0 rfl) ?_
    refine lv_iconst (v := 2) hx hb dL_law_1240 (by decide) ?_
    refine lv_iadd hx hb dL_law_1241 ?_
    refine lv_topi (fun x9 e_x9 => ?_)
    have e_x9 := ti_add e_x9 rfl (show (2 : Int32).toInt = 2 by decide) (by omega)
    refine va_sld hx hb hXs hbl hbA hS (vinI (by omega) (by omega)) dL_law_1242 ?_
    refine lv_topi (fun x10 e_x10 => ?_)
    refine lv_if_eq (tgt := 1250) hx hb dL_law_1243 (by decide) (fun c11 => ?_) (fun c11 => ?_)
    · skip
      refine lv_iconst (v := 0) hx hb dL_law_1250 (by decide) ?_
      refine om_keep l C0 dC dI g  (x8) (0) hM (rotK hK) (rotP hP) (rotD hD) hS hE hl.1 (by omega) (by omega) (fun r12 wm H locs hM hP9 hD9 hS => ?_)
      have hP := rotP hP9
      have hD := rotD hD9
      refine lv_pop hx hb dL_law_1254 rfl ?_
      refine lv_goto (tgt := 1283) hx hb dL_law_1255 (by decide) ?_
      refine W.widen (k := cells + 1) (n := slots + 6) (by omega) (by omega) ?_
      exact kk wx rx tx wm fo H locs _ hX hM hK hP hD hS (lv_sub hl [0, 1, 2, 3, 4] rfl)
    · skip
      refine lv_iconst (v := 1) hx hb dL_law_1246 (by decide) ?_
      refine lv_goto (tgt := 1251) hx hb dL_law_1247 (by decide) ?_
      refine om_keep l C0 dC dI g  (x8) (1) hM (rotK hK) (rotP hP) (rotD hD) hS hE hl.1 (by omega) (by omega) (fun r13 wm H locs hM hP9 hD9 hS => ?_)
      have hP := rotP hP9
      have hD := rotD hD9
      refine lv_pop hx hb dL_law_1254 rfl ?_
      refine lv_goto (tgt := 1283) hx hb dL_law_1255 (by decide) ?_
      refine W.widen (k := cells + 1) (n := slots + 6) (by omega) (by omega) ?_
      exact kk wx rx tx wm fo H locs _ hX hM hK hP hD hS (lv_sub hl [0, 1, 2, 3, 4] rfl)
  · skip
    refine lv_iconst (v := 1) hx hb dL_law_1221 (by decide) ?_
    refine lv_goto (tgt := 1226) hx hb dL_law_1222 (by decide) ?_
    refine ox_keep l C0 dC dI g  (x2) (1) hX hK hP hD hS hE hl.1 (by omega) (by omega) (fun r14 wx rx tx H locs hX hK hP hD hS => ?_)
    refine lv_pop hx hb dL_law_1229 rfl ?_
    refine lv_aload_n hx hb dL_law_1230 rfl (lv_at hl 2 rfl) ?_
    refine lv_aload_n hx hb dL_law_1231 rfl (lv_at hl 4 rfl) ?_
    refine lv_iload hx hb dL_law_1232 (lv_at hl 0 rfl) ?_
    refine lv_iconst (v := 1) hx hb dL_law_1234 (by decide) ?_
    refine lv_iadd hx hb dL_law_1235 ?_
    refine lv_topi (fun x15 e_x15 => ?_)
    have e_x15 := ti_add e_x15 rfl (show (1 : Int32).toInt = 1 by decide) (by omega)
    refine va_sld hx hb hXs hbl hbA hS (vinI (by omega) (by omega)) dL_law_1236 ?_
    refine lv_topi (fun x16 e_x16 => ?_)
    refine lv_aload_n hx hb dL_law_1237 rfl (lv_at hl 4 rfl) ?_
    refine lv_iload hx hb dL_law_1238 (lv_at hl 0 rfl) ?_
    refine lv_iconst (v := 2) hx hb dL_law_1240 (by decide) ?_
    refine lv_iadd hx hb dL_law_1241 ?_
    refine lv_topi (fun x17 e_x17 => ?_)
    have e_x17 := ti_add e_x17 rfl (show (2 : Int32).toInt = 2 by decide) (by omega)
    refine va_sld hx hb hXs hbl hbA hS (vinI (by omega) (by omega)) dL_law_1242 ?_
    refine lv_topi (fun x18 e_x18 => ?_)
    refine lv_if_eq (tgt := 1250) hx hb dL_law_1243 (by decide) (fun c19 => ?_) (fun c19 => ?_)
    · skip
      refine lv_iconst (v := 0) hx hb dL_law_1250 (by decide) ?_
      refine om_keep l C0 dC dI g  (x16) (0) hM (rotK hK) (rotP hP) (rotD hD) hS hE hl.1 (by omega) (by omega) (fun r20 wm H locs hM hP9 hD9 hS => ?_)
      have hP := rotP hP9
      have hD := rotD hD9
      refine lv_pop hx hb dL_law_1254 rfl ?_
      refine lv_goto (tgt := 1283) hx hb dL_law_1255 (by decide) ?_
      refine W.widen (k := cells + 1) (n := slots + 6) (by omega) (by omega) ?_
      exact kk wx rx tx wm fo H locs _ hX hM hK hP hD hS (lv_sub hl [0, 1, 2, 3, 4] rfl)
    · skip
      refine lv_iconst (v := 1) hx hb dL_law_1246 (by decide) ?_
      refine lv_goto (tgt := 1251) hx hb dL_law_1247 (by decide) ?_
      refine om_keep l C0 dC dI g  (x16) (1) hM (rotK hK) (rotP hP) (rotD hD) hS hE hl.1 (by omega) (by omega) (fun r21 wm H locs hM hP9 hD9 hS => ?_)
      have hP := rotP hP9
      have hD := rotD hD9
      refine lv_pop hx hb dL_law_1254 rfl ?_
      refine lv_goto (tgt := 1283) hx hb dL_law_1255 (by decide) ?_
      refine W.widen (k := cells + 1) (n := slots + 6) (by omega) (by omega) ?_
      exact kk wx rx tx wm fo H locs _ hX hM hK hP hD hS (lv_sub hl [0, 1, 2, 3, 4] rfl)
set_option maxHeartbeats 4000000 in
set_option maxRecDepth 100000 in
theorem oc_27 {p : Program} {e : Env} {s : State} {m : MethodId} {below : List Frame} {meth : Method} {c : Code} (l : Launch) (hflags : l.flags = flags0) {b0 L : Nat} {xs : Nat → Int32} (C0 : lw_At p s m meth c b0 L xs) (dC : Nat → ClassId) (dI : Nat → Nat → Nat) (g : Gv) {x0 m0 o0 : Nat} {cO : ClassId} {tm : List (ClassId × FieldType)} {wx rx wm : va_W} {tx : List (ClassId × FieldType)} {fo : Nat → Int64} {i : Int32} {H : Heap} {locs : List Loc} {ls : Array Slot} {cells slots : Nat} {Q : State → Prop} (h0 : 0 ≤ i.toInt) (h1 : i.toInt + 6 ≤ (L : Int)) (hL : L ≤ 3072) (hX : XW g x0 wx rx tx) (hM : MW g m0 wm tm) (hK : va_K (dC, dI) vwCl (tx ++ (tm ++ [(cO, .long)])) s) (hP : va_P (dC, dI) vwCl (wx ++ (rx ++ (wm ++ ([(o0, .inl (cO, 1, .inr (.inl fo)))] : va_W)))) H) (hD : va_D (fun q : Nat => s.heap.size ≤ q) (wx ++ (rx ++ (wm ++ ([(o0, .inl (cO, 1, .inr (.inl fo)))] : va_W))))) (hS : va_S (fun q : Nat => s.heap.size ≤ q) s.heap H locs) (hl : lv_has ls 7 [(4, .int i), (3, .ref o0), (2, .ref m0), (1, .ref x0), (0, .ref b0)]) (hE : Ev g (fun q : Nat => s.heap.size ≤ q) s) (hcc : cells + 1 ≤ 601024) (hss : slots + 6 ≤ 7293034) (kk : ∀ (wx rx : va_W) (tx : List (ClassId × FieldType)) (wm : va_W) (fo : Nat → Int64) (H : Heap) (locs : List Loc) (ls : Array Slot), XW g x0 wx rx tx → MW g m0 wm tm → va_K (dC, dI) vwCl (tx ++ (tm ++ [(cO, .long)])) s → va_P (dC, dI) vwCl (wx ++ (rx ++ (wm ++ ([(o0, .inl (cO, 1, .inr (.inl fo)))] : va_W)))) H → va_D (fun q : Nat => s.heap.size ≤ q) (wx ++ (rx ++ (wm ++ ([(o0, .inl (cO, 1, .inr (.inl fo)))] : va_W)))) → va_S (fun q : Nat => s.heap.size ≤ q) s.heap H locs → lv_has ls 7 [(4, .int i), (3, .ref o0), (2, .ref m0), (1, .ref x0), (0, .ref b0)] → W p l e room_1 s m #[Value.ref b0] below meth c H locs (cells + 1) (slots + 6) Q (F0 m 1283 ls [])) : W p l e room_1 s m #[Value.ref b0] below meth c H locs cells slots Q (F0 m 1258 ls []) := by
  obtain ⟨hx, hb, hr, hml, hown, hts0, hXs, hbl, hlocks, hgv⟩ := id C0
  have hbA : ¬ (fun q : Nat => s.heap.size ≤ q) b0 := Nat.not_le.mpr hbl
  refine lv_aload_n hx hb dL_law_1258 rfl (lv_at hl 3 rfl) ?_
  refine lv_aload_n hx hb dL_law_1259 rfl (lv_at hl 4 rfl) ?_
  refine lv_iload hx hb dL_law_1260 (lv_at hl 0 rfl) ?_
  refine lv_iconst (v := 1) hx hb dL_law_1262 (by decide) ?_
  refine lv_iadd hx hb dL_law_1263 ?_
  refine lv_topi (fun x1 e_x1 => ?_)
  have e_x1 := ti_add e_x1 rfl (show (1 : Int32).toInt = 1 by decide) (by omega)
  refine va_sld hx hb hXs hbl hbA hS (vinI (by omega) (by omega)) dL_law_1264 ?_
  refine lv_topi (fun x2 e_x2 => ?_)
  refine ox_count l C0 dC dI g  (x2) hX hK hP hD hS hE hl.1 (by omega) (by omega) (fun r3 wx rx tx H locs hX hK hP hD hS => ?_)
  refine lv_pop hx hb dL_law_1268 rfl ?_
  refine lv_aload_n hx hb dL_law_1269 rfl (lv_at hl 2 rfl) ?_
  refine lv_aload_n hx hb dL_law_1270 rfl (lv_at hl 4 rfl) ?_
  refine lv_iload hx hb dL_law_1271 (lv_at hl 0 rfl) ?_
  refine lv_iconst (v := 1) hx hb dL_law_1273 (by decide) ?_
  refine lv_iadd hx hb dL_law_1274 ?_
  refine lv_topi (fun x4 e_x4 => ?_)
  have e_x4 := ti_add e_x4 rfl (show (1 : Int32).toInt = 1 by decide) (by omega)
  refine va_sld hx hb hXs hbl hbA hS (vinI (by omega) (by omega)) dL_law_1275 ?_
  refine lv_topi (fun x5 e_x5 => ?_)
  refine om_count l C0 dC dI g  (x5) hM (rotK hK) (rotP hP) (rotD hD) hS hE hl.1 (by omega) (by omega) (fun r6 wm H locs hM hP9 hD9 hS => ?_)
  have hP := rotP hP9
  have hD := rotD hD9
  refine lv_pop hx hb dL_law_1279 rfl ?_
  refine lv_goto (tgt := 1283) hx hb dL_law_1280 (by decide) ?_
  refine W.widen (k := cells + 1) (n := slots + 6) (by omega) (by omega) ?_
  exact kk wx rx tx wm fo H locs _ hX hM hK hP hD hS (lv_sub hl [0, 1, 2, 3, 4] rfl)
