theorem dX12_changes_283 : decode cX12_changes 283 = .ok (.invokevirtual 76, 3) := by decide +kernel
theorem dX12_changes_286 : decode cX12_changes 286 = .ok (.ldc2_w 122, 3) := by decide +kernel
theorem dX12_changes_289 : decode cX12_changes 289 = .ok (.iload 6, 2) := by decide +kernel
theorem dX12_changes_291 : decode cX12_changes 291 = .ok (.i2l, 1) := by decide +kernel
theorem dX12_changes_292 : decode cX12_changes 292 = .ok (.lmul, 1) := by decide +kernel
theorem dX12_changes_293 : decode cX12_changes 293 = .ok (.iload 5, 2) := by decide +kernel
theorem dX12_changes_295 : decode cX12_changes 295 = .ok (.i2l, 1) := by decide +kernel
theorem dX12_changes_296 : decode cX12_changes 296 = .ok (.lmul, 1) := by decide +kernel
theorem dX12_changes_297 : decode cX12_changes 297 = .ok (.lcmp, 1) := by decide +kernel
theorem dX12_changes_298 : decode cX12_changes 298 = .ok (.ifCond .ne 27, 3) := by decide +kernel
theorem dX12_changes_301 : decode cX12_changes 301 = .ok (.aload_n 0, 1) := by decide +kernel
theorem dX12_changes_302 : decode cX12_changes 302 = .ok (.iconst 0, 1) := by decide +kernel
theorem dX12_changes_303 : decode cX12_changes 303 = .ok (.invokevirtual 124, 3) := by decide +kernel
theorem dX12_changes_306 : decode cX12_changes 306 = .ok (.iload 5, 2) := by decide +kernel
theorem dX12_changes_308 : decode cX12_changes 308 = .ok (.if_icmp .ne 17, 3) := by decide +kernel
theorem dX12_changes_311 : decode cX12_changes 311 = .ok (.aload_n 0, 1) := by decide +kernel
theorem dX12_changes_312 : decode cX12_changes 312 = .ok (.iconst 3, 1) := by decide +kernel
theorem dX12_changes_313 : decode cX12_changes 313 = .ok (.invokevirtual 124, 3) := by decide +kernel
theorem dX12_changes_316 : decode cX12_changes 316 = .ok (.iload 5, 2) := by decide +kernel
theorem dX12_changes_318 : decode cX12_changes 318 = .ok (.if_icmp .ne 7, 3) := by decide +kernel
theorem dX12_changes_321 : decode cX12_changes 321 = .ok (.iconst 1, 1) := by decide +kernel
theorem dX12_changes_322 : decode cX12_changes 322 = .ok (.goto 4, 3) := by decide +kernel
theorem dX12_changes_325 : decode cX12_changes 325 = .ok (.iconst 0, 1) := by decide +kernel
theorem dX12_changes_326 : decode cX12_changes 326 = .ok (.ireturn, 1) := by decide +kernel
theorem dX12_changes_327 : decode cX12_changes 327 = .ok (.iload_n 3, 1) := by decide +kernel
theorem dX12_changes_328 : decode cX12_changes 328 = .ok (.bipush 10, 2) := by decide +kernel
theorem dX12_changes_330 : decode cX12_changes 330 = .ok (.if_icmp .ne 87, 3) := by decide +kernel
theorem dX12_changes_333 : decode cX12_changes 333 = .ok (.iload_n 2, 1) := by decide +kernel
theorem dX12_changes_334 : decode cX12_changes 334 = .ok (.sipush 701, 3) := by decide +kernel
theorem dX12_changes_337 : decode cX12_changes 337 = .ok (.invokestatic 102, 3) := by decide +kernel
theorem dX12_changes_340 : decode cX12_changes 340 = .ok (.sipush 300, 3) := by decide +kernel
theorem dX12_changes_343 : decode cX12_changes 343 = .ok (.isub, 1) := by decide +kernel
theorem dX12_changes_344 : decode cX12_changes 344 = .ok (.istore 5, 2) := by decide +kernel
theorem dX12_changes_346 : decode cX12_changes 346 = .ok (.aload_n 0, 1) := by decide +kernel
theorem dX12_changes_347 : decode cX12_changes 347 = .ok (.iload 5, 2) := by decide +kernel
theorem dX12_changes_349 : decode cX12_changes 349 = .ok (.sipush 150, 3) := by decide +kernel
theorem dX12_changes_352 : decode cX12_changes 352 = .ok (.iload_n 2, 1) := by decide +kernel
theorem dX12_changes_353 : decode cX12_changes 353 = .ok (.bipush 6, 2) := by decide +kernel
theorem dX12_changes_355 : decode cX12_changes 355 = .ok (.ishr, 1) := by decide +kernel
theorem dX12_changes_356 : decode cX12_changes 356 = .ok (.sipush 451, 3) := by decide +kernel
theorem dX12_changes_359 : decode cX12_changes 359 = .ok (.invokestatic 102, 3) := by decide +kernel
theorem dX12_changes_362 : decode cX12_changes 362 = .ok (.iadd, 1) := by decide +kernel
theorem dX12_changes_363 : decode cX12_changes 363 = .ok (.invokevirtual 127, 3) := by decide +kernel
theorem dX12_changes_366 : decode cX12_changes 366 = .ok (.istore 6, 2) := by decide +kernel
theorem dX12_changes_368 : decode cX12_changes 368 = .ok (.iload 6, 2) := by decide +kernel
theorem dX12_changes_370 : decode cX12_changes 370 = .ok (.bipush (-3), 2) := by decide +kernel
theorem dX12_changes_372 : decode cX12_changes 372 = .ok (.if_icmp .eq 39, 3) := by decide +kernel
theorem dX12_changes_375 : decode cX12_changes 375 = .ok (.iload 6, 2) := by decide +kernel
theorem dX12_changes_377 : decode cX12_changes 377 = .ok (.iconst 1, 1) := by decide +kernel
theorem dX12_changes_378 : decode cX12_changes 378 = .ok (.if_icmp .lt 37, 3) := by decide +kernel
theorem dX12_changes_381 : decode cX12_changes 381 = .ok (.iload 6, 2) := by decide +kernel
theorem dX12_changes_383 : decode cX12_changes 383 = .ok (.bipush 6, 2) := by decide +kernel
theorem dX12_changes_385 : decode cX12_changes 385 = .ok (.if_icmp .gt 30, 3) := by decide +kernel
theorem dX12_changes_388 : decode cX12_changes 388 = .ok (.aload_n 0, 1) := by decide +kernel
theorem dX12_changes_389 : decode cX12_changes 389 = .ok (.iload 5, 2) := by decide +kernel
theorem dX12_changes_391 : decode cX12_changes 391 = .ok (.invokevirtual 58, 3) := by decide +kernel
theorem dX12_changes_394 : decode cX12_changes 394 = .ok (.sipush 150, 3) := by decide +kernel
theorem dX12_changes_397 : decode cX12_changes 397 = .ok (.iload_n 2, 1) := by decide +kernel
theorem dX12_changes_398 : decode cX12_changes 398 = .ok (.bipush 6, 2) := by decide +kernel
theorem dX12_changes_400 : decode cX12_changes 400 = .ok (.ishr, 1) := by decide +kernel
theorem dX12_changes_401 : decode cX12_changes 401 = .ok (.sipush 451, 3) := by decide +kernel
theorem dX12_changes_404 : decode cX12_changes 404 = .ok (.invokestatic 102, 3) := by decide +kernel
theorem dX12_changes_407 : decode cX12_changes 407 = .ok (.iadd, 1) := by decide +kernel
theorem dX12_changes_408 : decode cX12_changes 408 = .ok (.if_icmp .ne 7, 3) := by decide +kernel
theorem dX12_changes_411 : decode cX12_changes 411 = .ok (.iconst 1, 1) := by decide +kernel
theorem dX12_changes_412 : decode cX12_changes 412 = .ok (.goto 4, 3) := by decide +kernel
theorem dX12_changes_415 : decode cX12_changes 415 = .ok (.iconst 0, 1) := by decide +kernel
theorem dX12_changes_416 : decode cX12_changes 416 = .ok (.ireturn, 1) := by decide +kernel
theorem dX12_changes_417 : decode cX12_changes 417 = .ok (.iload_n 3, 1) := by decide +kernel
theorem dX12_changes_418 : decode cX12_changes 418 = .ok (.bipush 11, 2) := by decide +kernel
theorem dX12_changes_420 : decode cX12_changes 420 = .ok (.if_icmp .ne 74, 3) := by decide +kernel
theorem dX12_changes_423 : decode cX12_changes 423 = .ok (.iload_n 2, 1) := by decide +kernel
theorem dX12_changes_424 : decode cX12_changes 424 = .ok (.sipush 701, 3) := by decide +kernel
theorem dX12_changes_427 : decode cX12_changes 427 = .ok (.invokestatic 102, 3) := by decide +kernel
theorem dX12_changes_430 : decode cX12_changes 430 = .ok (.sipush 300, 3) := by decide +kernel
