theorem dL_law_268 {nm : String} : pm_dec (mL_law nm) 268 (.aload_n 1, 1) 269 := ⟨(by decide +kernel : decode code 268 = .ok (.aload_n 1, 1)), rfl⟩
theorem dL_law_269 {nm : String} : pm_dec (mL_law nm) 269 (.invokevirtual 13, 3) 272 := ⟨(by decide +kernel : decode code 269 = .ok (.invokevirtual 13, 3)), rfl⟩
theorem dL_law_272 {nm : String} : pm_dec (mL_law nm) 272 (.pop, 1) 273 := ⟨(by decide +kernel : decode code 272 = .ok (.pop, 1)), rfl⟩
theorem dL_law_273 {nm : String} : pm_dec (mL_law nm) 273 (.aload_n 2, 1) 274 := ⟨(by decide +kernel : decode code 273 = .ok (.aload_n 2, 1)), rfl⟩
theorem dL_law_274 {nm : String} : pm_dec (mL_law nm) 274 (.invokevirtual 17, 3) 277 := ⟨(by decide +kernel : decode code 274 = .ok (.invokevirtual 17, 3)), rfl⟩
theorem dL_law_277 {nm : String} : pm_dec (mL_law nm) 277 (.pop, 1) 278 := ⟨(by decide +kernel : decode code 277 = .ok (.pop, 1)), rfl⟩
theorem dL_law_278 {nm : String} : pm_dec (mL_law nm) 278 (.goto 1827, 3) 281 := ⟨(by decide +kernel : decode code 278 = .ok (.goto 1827, 3)), rfl⟩
theorem dL_law_281 {nm : String} : pm_dec (mL_law nm) 281 (.aload_n 1, 1) 282 := ⟨(by decide +kernel : decode code 281 = .ok (.aload_n 1, 1)), rfl⟩
theorem dL_law_282 {nm : String} : pm_dec (mL_law nm) 282 (.aload_n 0, 1) 283 := ⟨(by decide +kernel : decode code 282 = .ok (.aload_n 0, 1)), rfl⟩
theorem dL_law_283 {nm : String} : pm_dec (mL_law nm) 283 (.iload_n 3, 1) 284 := ⟨(by decide +kernel : decode code 283 = .ok (.iload_n 3, 1)), rfl⟩
theorem dL_law_284 {nm : String} : pm_dec (mL_law nm) 284 (.iconst 1, 1) 285 := ⟨(by decide +kernel : decode code 284 = .ok (.iconst 1, 1)), rfl⟩
theorem dL_law_285 {nm : String} : pm_dec (mL_law nm) 285 (.iadd, 1) 286 := ⟨(by decide +kernel : decode code 285 = .ok (.iadd, 1)), rfl⟩
theorem dL_law_286 {nm : String} : pm_dec (mL_law nm) 286 (.iaload, 1) 287 := ⟨(by decide +kernel : decode code 286 = .ok (.iaload, 1)), rfl⟩
theorem dL_law_287 {nm : String} : pm_dec (mL_law nm) 287 (.aload_n 0, 1) 288 := ⟨(by decide +kernel : decode code 287 = .ok (.aload_n 0, 1)), rfl⟩
theorem dL_law_288 {nm : String} : pm_dec (mL_law nm) 288 (.iload_n 3, 1) 289 := ⟨(by decide +kernel : decode code 288 = .ok (.iload_n 3, 1)), rfl⟩
theorem dL_law_289 {nm : String} : pm_dec (mL_law nm) 289 (.iconst 2, 1) 290 := ⟨(by decide +kernel : decode code 289 = .ok (.iconst 2, 1)), rfl⟩
theorem dL_law_290 {nm : String} : pm_dec (mL_law nm) 290 (.iadd, 1) 291 := ⟨(by decide +kernel : decode code 290 = .ok (.iadd, 1)), rfl⟩
theorem dL_law_291 {nm : String} : pm_dec (mL_law nm) 291 (.iaload, 1) 292 := ⟨(by decide +kernel : decode code 291 = .ok (.iaload, 1)), rfl⟩
theorem dL_law_292 {nm : String} : pm_dec (mL_law nm) 292 (.aload_n 0, 1) 293 := ⟨(by decide +kernel : decode code 292 = .ok (.aload_n 0, 1)), rfl⟩
theorem dL_law_293 {nm : String} : pm_dec (mL_law nm) 293 (.iload_n 3, 1) 294 := ⟨(by decide +kernel : decode code 293 = .ok (.iload_n 3, 1)), rfl⟩
theorem dL_law_294 {nm : String} : pm_dec (mL_law nm) 294 (.iconst 3, 1) 295 := ⟨(by decide +kernel : decode code 294 = .ok (.iconst 3, 1)), rfl⟩
theorem dL_law_295 {nm : String} : pm_dec (mL_law nm) 295 (.iadd, 1) 296 := ⟨(by decide +kernel : decode code 295 = .ok (.iadd, 1)), rfl⟩
theorem dL_law_296 {nm : String} : pm_dec (mL_law nm) 296 (.iaload, 1) 297 := ⟨(by decide +kernel : decode code 296 = .ok (.iaload, 1)), rfl⟩
theorem dL_law_297 {nm : String} : pm_dec (mL_law nm) 297 (.invokevirtual 18, 3) 300 := ⟨(by decide +kernel : decode code 297 = .ok (.invokevirtual 18, 3)), rfl⟩
theorem dL_law_300 {nm : String} : pm_dec (mL_law nm) 300 (.pop, 1) 301 := ⟨(by decide +kernel : decode code 300 = .ok (.pop, 1)), rfl⟩
theorem dL_law_301 {nm : String} : pm_dec (mL_law nm) 301 (.aload_n 2, 1) 302 := ⟨(by decide +kernel : decode code 301 = .ok (.aload_n 2, 1)), rfl⟩
theorem dL_law_302 {nm : String} : pm_dec (mL_law nm) 302 (.aload_n 0, 1) 303 := ⟨(by decide +kernel : decode code 302 = .ok (.aload_n 0, 1)), rfl⟩
theorem dL_law_303 {nm : String} : pm_dec (mL_law nm) 303 (.iload_n 3, 1) 304 := ⟨(by decide +kernel : decode code 303 = .ok (.iload_n 3, 1)), rfl⟩
theorem dL_law_304 {nm : String} : pm_dec (mL_law nm) 304 (.iconst 1, 1) 305 := ⟨(by decide +kernel : decode code 304 = .ok (.iconst 1, 1)), rfl⟩
theorem dL_law_305 {nm : String} : pm_dec (mL_law nm) 305 (.iadd, 1) 306 := ⟨(by decide +kernel : decode code 305 = .ok (.iadd, 1)), rfl⟩
theorem dL_law_306 {nm : String} : pm_dec (mL_law nm) 306 (.iaload, 1) 307 := ⟨(by decide +kernel : decode code 306 = .ok (.iaload, 1)), rfl⟩
theorem dL_law_307 {nm : String} : pm_dec (mL_law nm) 307 (.aload_n 0, 1) 308 := ⟨(by decide +kernel : decode code 307 = .ok (.aload_n 0, 1)), rfl⟩
theorem dL_law_308 {nm : String} : pm_dec (mL_law nm) 308 (.iload_n 3, 1) 309 := ⟨(by decide +kernel : decode code 308 = .ok (.iload_n 3, 1)), rfl⟩
theorem dL_law_309 {nm : String} : pm_dec (mL_law nm) 309 (.iconst 2, 1) 310 := ⟨(by decide +kernel : decode code 309 = .ok (.iconst 2, 1)), rfl⟩
theorem dL_law_310 {nm : String} : pm_dec (mL_law nm) 310 (.iadd, 1) 311 := ⟨(by decide +kernel : decode code 310 = .ok (.iadd, 1)), rfl⟩
theorem dL_law_311 {nm : String} : pm_dec (mL_law nm) 311 (.iaload, 1) 312 := ⟨(by decide +kernel : decode code 311 = .ok (.iaload, 1)), rfl⟩
theorem dL_law_312 {nm : String} : pm_dec (mL_law nm) 312 (.aload_n 0, 1) 313 := ⟨(by decide +kernel : decode code 312 = .ok (.aload_n 0, 1)), rfl⟩
theorem dL_law_313 {nm : String} : pm_dec (mL_law nm) 313 (.iload_n 3, 1) 314 := ⟨(by decide +kernel : decode code 313 = .ok (.iload_n 3, 1)), rfl⟩
theorem dL_law_314 {nm : String} : pm_dec (mL_law nm) 314 (.iconst 3, 1) 315 := ⟨(by decide +kernel : decode code 314 = .ok (.iconst 3, 1)), rfl⟩
theorem dL_law_315 {nm : String} : pm_dec (mL_law nm) 315 (.iadd, 1) 316 := ⟨(by decide +kernel : decode code 315 = .ok (.iadd, 1)), rfl⟩
theorem dL_law_316 {nm : String} : pm_dec (mL_law nm) 316 (.iaload, 1) 317 := ⟨(by decide +kernel : decode code 316 = .ok (.iaload, 1)), rfl⟩
theorem dL_law_317 {nm : String} : pm_dec (mL_law nm) 317 (.invokevirtual 22, 3) 320 := ⟨(by decide +kernel : decode code 317 = .ok (.invokevirtual 22, 3)), rfl⟩
theorem dL_law_320 {nm : String} : pm_dec (mL_law nm) 320 (.pop, 1) 321 := ⟨(by decide +kernel : decode code 320 = .ok (.pop, 1)), rfl⟩
theorem dL_law_321 {nm : String} : pm_dec (mL_law nm) 321 (.goto 1784, 3) 324 := ⟨(by decide +kernel : decode code 321 = .ok (.goto 1784, 3)), rfl⟩
theorem dL_law_324 {nm : String} : pm_dec (mL_law nm) 324 (.aload_n 1, 1) 325 := ⟨(by decide +kernel : decode code 324 = .ok (.aload_n 1, 1)), rfl⟩
theorem dL_law_325 {nm : String} : pm_dec (mL_law nm) 325 (.aload_n 0, 1) 326 := ⟨(by decide +kernel : decode code 325 = .ok (.aload_n 0, 1)), rfl⟩
theorem dL_law_326 {nm : String} : pm_dec (mL_law nm) 326 (.iload_n 3, 1) 327 := ⟨(by decide +kernel : decode code 326 = .ok (.iload_n 3, 1)), rfl⟩
theorem dL_law_327 {nm : String} : pm_dec (mL_law nm) 327 (.iconst 1, 1) 328 := ⟨(by decide +kernel : decode code 327 = .ok (.iconst 1, 1)), rfl⟩
theorem dL_law_328 {nm : String} : pm_dec (mL_law nm) 328 (.iadd, 1) 329 := ⟨(by decide +kernel : decode code 328 = .ok (.iadd, 1)), rfl⟩
theorem dL_law_329 {nm : String} : pm_dec (mL_law nm) 329 (.iaload, 1) 330 := ⟨(by decide +kernel : decode code 329 = .ok (.iaload, 1)), rfl⟩
theorem dL_law_330 {nm : String} : pm_dec (mL_law nm) 330 (.aload_n 0, 1) 331 := ⟨(by decide +kernel : decode code 330 = .ok (.aload_n 0, 1)), rfl⟩
theorem dL_law_331 {nm : String} : pm_dec (mL_law nm) 331 (.iload_n 3, 1) 332 := ⟨(by decide +kernel : decode code 331 = .ok (.iload_n 3, 1)), rfl⟩
theorem dL_law_332 {nm : String} : pm_dec (mL_law nm) 332 (.iconst 2, 1) 333 := ⟨(by decide +kernel : decode code 332 = .ok (.iconst 2, 1)), rfl⟩
theorem dL_law_333 {nm : String} : pm_dec (mL_law nm) 333 (.iadd, 1) 334 := ⟨(by decide +kernel : decode code 333 = .ok (.iadd, 1)), rfl⟩
theorem dL_law_334 {nm : String} : pm_dec (mL_law nm) 334 (.iaload, 1) 335 := ⟨(by decide +kernel : decode code 334 = .ok (.iaload, 1)), rfl⟩
theorem dL_law_335 {nm : String} : pm_dec (mL_law nm) 335 (.invokevirtual 23, 3) 338 := ⟨(by decide +kernel : decode code 335 = .ok (.invokevirtual 23, 3)), rfl⟩
theorem dL_law_338 {nm : String} : pm_dec (mL_law nm) 338 (.pop, 1) 339 := ⟨(by decide +kernel : decode code 338 = .ok (.pop, 1)), rfl⟩
theorem dL_law_339 {nm : String} : pm_dec (mL_law nm) 339 (.aload_n 2, 1) 340 := ⟨(by decide +kernel : decode code 339 = .ok (.aload_n 2, 1)), rfl⟩
theorem dL_law_340 {nm : String} : pm_dec (mL_law nm) 340 (.aload_n 0, 1) 341 := ⟨(by decide +kernel : decode code 340 = .ok (.aload_n 0, 1)), rfl⟩
theorem dL_law_341 {nm : String} : pm_dec (mL_law nm) 341 (.iload_n 3, 1) 342 := ⟨(by decide +kernel : decode code 341 = .ok (.iload_n 3, 1)), rfl⟩
theorem dL_law_342 {nm : String} : pm_dec (mL_law nm) 342 (.iconst 1, 1) 343 := ⟨(by decide +kernel : decode code 342 = .ok (.iconst 1, 1)), rfl⟩
theorem dL_law_343 {nm : String} : pm_dec (mL_law nm) 343 (.iadd, 1) 344 := ⟨(by decide +kernel : decode code 343 = .ok (.iadd, 1)), rfl⟩
theorem dL_law_344 {nm : String} : pm_dec (mL_law nm) 344 (.iaload, 1) 345 := ⟨(by decide +kernel : decode code 344 = .ok (.iaload, 1)), rfl⟩
theorem dL_law_345 {nm : String} : pm_dec (mL_law nm) 345 (.aload_n 0, 1) 346 := ⟨(by decide +kernel : decode code 345 = .ok (.aload_n 0, 1)), rfl⟩
theorem dL_law_346 {nm : String} : pm_dec (mL_law nm) 346 (.iload_n 3, 1) 347 := ⟨(by decide +kernel : decode code 346 = .ok (.iload_n 3, 1)), rfl⟩
theorem dL_law_347 {nm : String} : pm_dec (mL_law nm) 347 (.iconst 2, 1) 348 := ⟨(by decide +kernel : decode code 347 = .ok (.iconst 2, 1)), rfl⟩
theorem dL_law_348 {nm : String} : pm_dec (mL_law nm) 348 (.iadd, 1) 349 := ⟨(by decide +kernel : decode code 348 = .ok (.iadd, 1)), rfl⟩
theorem dL_law_349 {nm : String} : pm_dec (mL_law nm) 349 (.iaload, 1) 350 := ⟨(by decide +kernel : decode code 349 = .ok (.iaload, 1)), rfl⟩
theorem dL_law_350 {nm : String} : pm_dec (mL_law nm) 350 (.invokevirtual 27, 3) 353 := ⟨(by decide +kernel : decode code 350 = .ok (.invokevirtual 27, 3)), rfl⟩
theorem dL_law_353 {nm : String} : pm_dec (mL_law nm) 353 (.pop, 1) 354 := ⟨(by decide +kernel : decode code 353 = .ok (.pop, 1)), rfl⟩
theorem dL_law_354 {nm : String} : pm_dec (mL_law nm) 354 (.goto 1751, 3) 357 := ⟨(by decide +kernel : decode code 354 = .ok (.goto 1751, 3)), rfl⟩
theorem dL_law_357 {nm : String} : pm_dec (mL_law nm) 357 (.aload_n 1, 1) 358 := ⟨(by decide +kernel : decode code 357 = .ok (.aload_n 1, 1)), rfl⟩
theorem dL_law_358 {nm : String} : pm_dec (mL_law nm) 358 (.aload_n 0, 1) 359 := ⟨(by decide +kernel : decode code 358 = .ok (.aload_n 0, 1)), rfl⟩
theorem dL_law_359 {nm : String} : pm_dec (mL_law nm) 359 (.iload_n 3, 1) 360 := ⟨(by decide +kernel : decode code 359 = .ok (.iload_n 3, 1)), rfl⟩
theorem dL_law_360 {nm : String} : pm_dec (mL_law nm) 360 (.iconst 1, 1) 361 := ⟨(by decide +kernel : decode code 360 = .ok (.iconst 1, 1)), rfl⟩
theorem dL_law_361 {nm : String} : pm_dec (mL_law nm) 361 (.iadd, 1) 362 := ⟨(by decide +kernel : decode code 361 = .ok (.iadd, 1)), rfl⟩
theorem dL_law_362 {nm : String} : pm_dec (mL_law nm) 362 (.iaload, 1) 363 := ⟨(by decide +kernel : decode code 362 = .ok (.iaload, 1)), rfl⟩
theorem dL_law_363 {nm : String} : pm_dec (mL_law nm) 363 (.aload_n 0, 1) 364 := ⟨(by decide +kernel : decode code 363 = .ok (.aload_n 0, 1)), rfl⟩
theorem dL_law_364 {nm : String} : pm_dec (mL_law nm) 364 (.iload_n 3, 1) 365 := ⟨(by decide +kernel : decode code 364 = .ok (.iload_n 3, 1)), rfl⟩
theorem dL_law_365 {nm : String} : pm_dec (mL_law nm) 365 (.iconst 2, 1) 366 := ⟨(by decide +kernel : decode code 365 = .ok (.iconst 2, 1)), rfl⟩
theorem dL_law_366 {nm : String} : pm_dec (mL_law nm) 366 (.iadd, 1) 367 := ⟨(by decide +kernel : decode code 366 = .ok (.iadd, 1)), rfl⟩
theorem dL_law_367 {nm : String} : pm_dec (mL_law nm) 367 (.iaload, 1) 368 := ⟨(by decide +kernel : decode code 367 = .ok (.iaload, 1)), rfl⟩
theorem dL_law_368 {nm : String} : pm_dec (mL_law nm) 368 (.aload_n 0, 1) 369 := ⟨(by decide +kernel : decode code 368 = .ok (.aload_n 0, 1)), rfl⟩
theorem dL_law_369 {nm : String} : pm_dec (mL_law nm) 369 (.iload_n 3, 1) 370 := ⟨(by decide +kernel : decode code 369 = .ok (.iload_n 3, 1)), rfl⟩
theorem dL_law_370 {nm : String} : pm_dec (mL_law nm) 370 (.iconst 3, 1) 371 := ⟨(by decide +kernel : decode code 370 = .ok (.iconst 3, 1)), rfl⟩
theorem dL_law_371 {nm : String} : pm_dec (mL_law nm) 371 (.iadd, 1) 372 := ⟨(by decide +kernel : decode code 371 = .ok (.iadd, 1)), rfl⟩
theorem dL_law_372 {nm : String} : pm_dec (mL_law nm) 372 (.iaload, 1) 373 := ⟨(by decide +kernel : decode code 372 = .ok (.iaload, 1)), rfl⟩
theorem dL_law_373 {nm : String} : pm_dec (mL_law nm) 373 (.aload_n 0, 1) 374 := ⟨(by decide +kernel : decode code 373 = .ok (.aload_n 0, 1)), rfl⟩
theorem dL_law_374 {nm : String} : pm_dec (mL_law nm) 374 (.iload_n 3, 1) 375 := ⟨(by decide +kernel : decode code 374 = .ok (.iload_n 3, 1)), rfl⟩
theorem dL_law_375 {nm : String} : pm_dec (mL_law nm) 375 (.iconst 4, 1) 376 := ⟨(by decide +kernel : decode code 375 = .ok (.iconst 4, 1)), rfl⟩
theorem dL_law_376 {nm : String} : pm_dec (mL_law nm) 376 (.iadd, 1) 377 := ⟨(by decide +kernel : decode code 376 = .ok (.iadd, 1)), rfl⟩
theorem dL_law_377 {nm : String} : pm_dec (mL_law nm) 377 (.iaload, 1) 378 := ⟨(by decide +kernel : decode code 377 = .ok (.iaload, 1)), rfl⟩
theorem dL_law_378 {nm : String} : pm_dec (mL_law nm) 378 (.invokevirtual 28, 3) 381 := ⟨(by decide +kernel : decode code 378 = .ok (.invokevirtual 28, 3)), rfl⟩
theorem dL_law_381 {nm : String} : pm_dec (mL_law nm) 381 (.pop, 1) 382 := ⟨(by decide +kernel : decode code 381 = .ok (.pop, 1)), rfl⟩
theorem dL_law_382 {nm : String} : pm_dec (mL_law nm) 382 (.aload_n 2, 1) 383 := ⟨(by decide +kernel : decode code 382 = .ok (.aload_n 2, 1)), rfl⟩
theorem dL_law_383 {nm : String} : pm_dec (mL_law nm) 383 (.aload_n 0, 1) 384 := ⟨(by decide +kernel : decode code 383 = .ok (.aload_n 0, 1)), rfl⟩
theorem dL_law_384 {nm : String} : pm_dec (mL_law nm) 384 (.iload_n 3, 1) 385 := ⟨(by decide +kernel : decode code 384 = .ok (.iload_n 3, 1)), rfl⟩
theorem dL_law_385 {nm : String} : pm_dec (mL_law nm) 385 (.iconst 1, 1) 386 := ⟨(by decide +kernel : decode code 385 = .ok (.iconst 1, 1)), rfl⟩
theorem dL_law_386 {nm : String} : pm_dec (mL_law nm) 386 (.iadd, 1) 387 := ⟨(by decide +kernel : decode code 386 = .ok (.iadd, 1)), rfl⟩
theorem dL_law_387 {nm : String} : pm_dec (mL_law nm) 387 (.iaload, 1) 388 := ⟨(by decide +kernel : decode code 387 = .ok (.iaload, 1)), rfl⟩
theorem dL_law_388 {nm : String} : pm_dec (mL_law nm) 388 (.aload_n 0, 1) 389 := ⟨(by decide +kernel : decode code 388 = .ok (.aload_n 0, 1)), rfl⟩
theorem dL_law_389 {nm : String} : pm_dec (mL_law nm) 389 (.iload_n 3, 1) 390 := ⟨(by decide +kernel : decode code 389 = .ok (.iload_n 3, 1)), rfl⟩
theorem dL_law_390 {nm : String} : pm_dec (mL_law nm) 390 (.iconst 2, 1) 391 := ⟨(by decide +kernel : decode code 390 = .ok (.iconst 2, 1)), rfl⟩
theorem dL_law_391 {nm : String} : pm_dec (mL_law nm) 391 (.iadd, 1) 392 := ⟨(by decide +kernel : decode code 391 = .ok (.iadd, 1)), rfl⟩
theorem dL_law_392 {nm : String} : pm_dec (mL_law nm) 392 (.iaload, 1) 393 := ⟨(by decide +kernel : decode code 392 = .ok (.iaload, 1)), rfl⟩
theorem dL_law_393 {nm : String} : pm_dec (mL_law nm) 393 (.aload_n 0, 1) 394 := ⟨(by decide +kernel : decode code 393 = .ok (.aload_n 0, 1)), rfl⟩
theorem dL_law_394 {nm : String} : pm_dec (mL_law nm) 394 (.iload_n 3, 1) 395 := ⟨(by decide +kernel : decode code 394 = .ok (.iload_n 3, 1)), rfl⟩
theorem dL_law_395 {nm : String} : pm_dec (mL_law nm) 395 (.iconst 3, 1) 396 := ⟨(by decide +kernel : decode code 395 = .ok (.iconst 3, 1)), rfl⟩
theorem dL_law_396 {nm : String} : pm_dec (mL_law nm) 396 (.iadd, 1) 397 := ⟨(by decide +kernel : decode code 396 = .ok (.iadd, 1)), rfl⟩
theorem dL_law_397 {nm : String} : pm_dec (mL_law nm) 397 (.iaload, 1) 398 := ⟨(by decide +kernel : decode code 397 = .ok (.iaload, 1)), rfl⟩
theorem dL_law_398 {nm : String} : pm_dec (mL_law nm) 398 (.aload_n 0, 1) 399 := ⟨(by decide +kernel : decode code 398 = .ok (.aload_n 0, 1)), rfl⟩
theorem dL_law_399 {nm : String} : pm_dec (mL_law nm) 399 (.iload_n 3, 1) 400 := ⟨(by decide +kernel : decode code 399 = .ok (.iload_n 3, 1)), rfl⟩
theorem dL_law_400 {nm : String} : pm_dec (mL_law nm) 400 (.iconst 4, 1) 401 := ⟨(by decide +kernel : decode code 400 = .ok (.iconst 4, 1)), rfl⟩
theorem dL_law_401 {nm : String} : pm_dec (mL_law nm) 401 (.iadd, 1) 402 := ⟨(by decide +kernel : decode code 401 = .ok (.iadd, 1)), rfl⟩
theorem dL_law_402 {nm : String} : pm_dec (mL_law nm) 402 (.iaload, 1) 403 := ⟨(by decide +kernel : decode code 402 = .ok (.iaload, 1)), rfl⟩
theorem dL_law_403 {nm : String} : pm_dec (mL_law nm) 403 (.invokevirtual 32, 3) 406 := ⟨(by decide +kernel : decode code 403 = .ok (.invokevirtual 32, 3)), rfl⟩
theorem dL_law_406 {nm : String} : pm_dec (mL_law nm) 406 (.pop, 1) 407 := ⟨(by decide +kernel : decode code 406 = .ok (.pop, 1)), rfl⟩
theorem dL_law_407 {nm : String} : pm_dec (mL_law nm) 407 (.goto 1698, 3) 410 := ⟨(by decide +kernel : decode code 407 = .ok (.goto 1698, 3)), rfl⟩
theorem dL_law_410 {nm : String} : pm_dec (mL_law nm) 410 (.aload_n 1, 1) 411 := ⟨(by decide +kernel : decode code 410 = .ok (.aload_n 1, 1)), rfl⟩
theorem dL_law_411 {nm : String} : pm_dec (mL_law nm) 411 (.aload_n 0, 1) 412 := ⟨(by decide +kernel : decode code 411 = .ok (.aload_n 0, 1)), rfl⟩
theorem dL_law_412 {nm : String} : pm_dec (mL_law nm) 412 (.iload_n 3, 1) 413 := ⟨(by decide +kernel : decode code 412 = .ok (.iload_n 3, 1)), rfl⟩
theorem dL_law_413 {nm : String} : pm_dec (mL_law nm) 413 (.iconst 1, 1) 414 := ⟨(by decide +kernel : decode code 413 = .ok (.iconst 1, 1)), rfl⟩
theorem dL_law_414 {nm : String} : pm_dec (mL_law nm) 414 (.iadd, 1) 415 := ⟨(by decide +kernel : decode code 414 = .ok (.iadd, 1)), rfl⟩
theorem dL_law_415 {nm : String} : pm_dec (mL_law nm) 415 (.iaload, 1) 416 := ⟨(by decide +kernel : decode code 415 = .ok (.iaload, 1)), rfl⟩
theorem dL_law_416 {nm : String} : pm_dec (mL_law nm) 416 (.invokevirtual 33, 3) 419 := ⟨(by decide +kernel : decode code 416 = .ok (.invokevirtual 33, 3)), rfl⟩
theorem dL_law_419 {nm : String} : pm_dec (mL_law nm) 419 (.pop, 1) 420 := ⟨(by decide +kernel : decode code 419 = .ok (.pop, 1)), rfl⟩
theorem dL_law_420 {nm : String} : pm_dec (mL_law nm) 420 (.aload_n 2, 1) 421 := ⟨(by decide +kernel : decode code 420 = .ok (.aload_n 2, 1)), rfl⟩
theorem dL_law_421 {nm : String} : pm_dec (mL_law nm) 421 (.aload_n 0, 1) 422 := ⟨(by decide +kernel : decode code 421 = .ok (.aload_n 0, 1)), rfl⟩
theorem dL_law_422 {nm : String} : pm_dec (mL_law nm) 422 (.iload_n 3, 1) 423 := ⟨(by decide +kernel : decode code 422 = .ok (.iload_n 3, 1)), rfl⟩
theorem dL_law_423 {nm : String} : pm_dec (mL_law nm) 423 (.iconst 1, 1) 424 := ⟨(by decide +kernel : decode code 423 = .ok (.iconst 1, 1)), rfl⟩
