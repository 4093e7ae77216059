theorem d_L_law_238 : decode c_L_law 238 = .ok (.ifCond .ne 15, 3) := by decide +kernel
theorem d_L_law_241 : decode c_L_law 241 = .ok (.aload_n 3, 1) := by decide +kernel
theorem d_L_law_242 : decode c_L_law 242 = .ok (.iconst 0, 1) := by decide +kernel
theorem d_L_law_243 : decode c_L_law 243 = .ok (.laload, 1) := by decide +kernel
theorem d_L_law_244 : decode c_L_law 244 = .ok (.iload 6, 2) := by decide +kernel
theorem d_L_law_246 : decode c_L_law 246 = .ok (.i2l, 1) := by decide +kernel
theorem d_L_law_247 : decode c_L_law 247 = .ok (.lcmp, 1) := by decide +kernel
theorem d_L_law_248 : decode c_L_law 248 = .ok (.ifCond .eq 5, 3) := by decide +kernel
theorem d_L_law_251 : decode c_L_law 251 = .ok (.iconst 0, 1) := by decide +kernel
theorem d_L_law_252 : decode c_L_law 252 = .ok (.ireturn, 1) := by decide +kernel
theorem d_L_law_253 : decode c_L_law 253 = .ok (.goto 788, 3) := by decide +kernel
theorem d_L_law_256 : decode c_L_law 256 = .ok (.aload_n 1, 1) := by decide +kernel
theorem d_L_law_257 : decode c_L_law 257 = .ok (.aload_n 0, 1) := by decide +kernel
theorem d_L_law_258 : decode c_L_law 258 = .ok (.iload 4, 2) := by decide +kernel
theorem d_L_law_260 : decode c_L_law 260 = .ok (.iconst 1, 1) := by decide +kernel
theorem d_L_law_261 : decode c_L_law 261 = .ok (.iadd, 1) := by decide +kernel
theorem d_L_law_262 : decode c_L_law 262 = .ok (.iaload, 1) := by decide +kernel
theorem d_L_law_263 : decode c_L_law 263 = .ok (.aload_n 3, 1) := by decide +kernel
theorem d_L_law_264 : decode c_L_law 264 = .ok (.invokestatic 81, 3) := by decide +kernel
theorem d_L_law_267 : decode c_L_law 267 = .ok (.istore 5, 2) := by decide +kernel
theorem d_L_law_269 : decode c_L_law 269 = .ok (.aload_n 2, 1) := by decide +kernel
theorem d_L_law_270 : decode c_L_law 270 = .ok (.aload_n 0, 1) := by decide +kernel
theorem d_L_law_271 : decode c_L_law 271 = .ok (.iload 4, 2) := by decide +kernel
theorem d_L_law_273 : decode c_L_law 273 = .ok (.iconst 1, 1) := by decide +kernel
theorem d_L_law_274 : decode c_L_law 274 = .ok (.iadd, 1) := by decide +kernel
theorem d_L_law_275 : decode c_L_law 275 = .ok (.iaload, 1) := by decide +kernel
theorem d_L_law_276 : decode c_L_law 276 = .ok (.invokevirtual 84, 3) := by decide +kernel
theorem d_L_law_279 : decode c_L_law 279 = .ok (.istore 6, 2) := by decide +kernel
theorem d_L_law_281 : decode c_L_law 281 = .ok (.aload_n 2, 1) := by decide +kernel
theorem d_L_law_282 : decode c_L_law 282 = .ok (.invokevirtual 74, 3) := by decide +kernel
theorem d_L_law_285 : decode c_L_law 285 = .ok (.iload 5, 2) := by decide +kernel
theorem d_L_law_287 : decode c_L_law 287 = .ok (.if_icmp .eq 5, 3) := by decide +kernel
theorem d_L_law_290 : decode c_L_law 290 = .ok (.iconst 0, 1) := by decide +kernel
theorem d_L_law_291 : decode c_L_law 291 = .ok (.ireturn, 1) := by decide +kernel
theorem d_L_law_292 : decode c_L_law 292 = .ok (.iload 5, 2) := by decide +kernel
theorem d_L_law_294 : decode c_L_law 294 = .ok (.ifCond .ne 15, 3) := by decide +kernel
theorem d_L_law_297 : decode c_L_law 297 = .ok (.aload_n 3, 1) := by decide +kernel
theorem d_L_law_298 : decode c_L_law 298 = .ok (.iconst 0, 1) := by decide +kernel
theorem d_L_law_299 : decode c_L_law 299 = .ok (.laload, 1) := by decide +kernel
theorem d_L_law_300 : decode c_L_law 300 = .ok (.iload 6, 2) := by decide +kernel
theorem d_L_law_302 : decode c_L_law 302 = .ok (.i2l, 1) := by decide +kernel
theorem d_L_law_303 : decode c_L_law 303 = .ok (.lcmp, 1) := by decide +kernel
theorem d_L_law_304 : decode c_L_law 304 = .ok (.ifCond .eq 5, 3) := by decide +kernel
theorem d_L_law_307 : decode c_L_law 307 = .ok (.iconst 0, 1) := by decide +kernel
theorem d_L_law_308 : decode c_L_law 308 = .ok (.ireturn, 1) := by decide +kernel
theorem d_L_law_309 : decode c_L_law 309 = .ok (.goto 732, 3) := by decide +kernel
theorem d_L_law_312 : decode c_L_law 312 = .ok (.aload_n 1, 1) := by decide +kernel
theorem d_L_law_313 : decode c_L_law 313 = .ok (.aload_n 0, 1) := by decide +kernel
theorem d_L_law_314 : decode c_L_law 314 = .ok (.iload 4, 2) := by decide +kernel
theorem d_L_law_316 : decode c_L_law 316 = .ok (.iconst 1, 1) := by decide +kernel
theorem d_L_law_317 : decode c_L_law 317 = .ok (.iadd, 1) := by decide +kernel
theorem d_L_law_318 : decode c_L_law 318 = .ok (.iaload, 1) := by decide +kernel
theorem d_L_law_319 : decode c_L_law 319 = .ok (.aload_n 0, 1) := by decide +kernel
theorem d_L_law_320 : decode c_L_law 320 = .ok (.iload 4, 2) := by decide +kernel
theorem d_L_law_322 : decode c_L_law 322 = .ok (.iconst 2, 1) := by decide +kernel
theorem d_L_law_323 : decode c_L_law 323 = .ok (.iadd, 1) := by decide +kernel
theorem d_L_law_324 : decode c_L_law 324 = .ok (.iaload, 1) := by decide +kernel
theorem d_L_law_325 : decode c_L_law 325 = .ok (.aload_n 3, 1) := by decide +kernel
theorem d_L_law_326 : decode c_L_law 326 = .ok (.invokestatic 85, 3) := by decide +kernel
theorem d_L_law_329 : decode c_L_law 329 = .ok (.istore 5, 2) := by decide +kernel
theorem d_L_law_331 : decode c_L_law 331 = .ok (.aload_n 2, 1) := by decide +kernel
theorem d_L_law_332 : decode c_L_law 332 = .ok (.aload_n 0, 1) := by decide +kernel
theorem d_L_law_333 : decode c_L_law 333 = .ok (.iload 4, 2) := by decide +kernel
theorem d_L_law_335 : decode c_L_law 335 = .ok (.iconst 1, 1) := by decide +kernel
theorem d_L_law_336 : decode c_L_law 336 = .ok (.iadd, 1) := by decide +kernel
theorem d_L_law_337 : decode c_L_law 337 = .ok (.iaload, 1) := by decide +kernel
theorem d_L_law_338 : decode c_L_law 338 = .ok (.aload_n 0, 1) := by decide +kernel
theorem d_L_law_339 : decode c_L_law 339 = .ok (.iload 4, 2) := by decide +kernel
theorem d_L_law_341 : decode c_L_law 341 = .ok (.iconst 2, 1) := by decide +kernel
theorem d_L_law_342 : decode c_L_law 342 = .ok (.iadd, 1) := by decide +kernel
theorem d_L_law_343 : decode c_L_law 343 = .ok (.iaload, 1) := by decide +kernel
theorem d_L_law_344 : decode c_L_law 344 = .ok (.invokevirtual 88, 3) := by decide +kernel
theorem d_L_law_347 : decode c_L_law 347 = .ok (.istore 6, 2) := by decide +kernel
theorem d_L_law_349 : decode c_L_law 349 = .ok (.aload_n 2, 1) := by decide +kernel
theorem d_L_law_350 : decode c_L_law 350 = .ok (.invokevirtual 74, 3) := by decide +kernel
theorem d_L_law_353 : decode c_L_law 353 = .ok (.iload 5, 2) := by decide +kernel
theorem d_L_law_355 : decode c_L_law 355 = .ok (.if_icmp .eq 5, 3) := by decide +kernel
theorem d_L_law_358 : decode c_L_law 358 = .ok (.iconst 0, 1) := by decide +kernel
theorem d_L_law_359 : decode c_L_law 359 = .ok (.ireturn, 1) := by decide +kernel
theorem d_L_law_360 : decode c_L_law 360 = .ok (.iload 5, 2) := by decide +kernel
theorem d_L_law_362 : decode c_L_law 362 = .ok (.ifCond .ne 15, 3) := by decide +kernel
theorem d_L_law_365 : decode c_L_law 365 = .ok (.aload_n 3, 1) := by decide +kernel
theorem d_L_law_366 : decode c_L_law 366 = .ok (.iconst 0, 1) := by decide +kernel
theorem d_L_law_367 : decode c_L_law 367 = .ok (.laload, 1) := by decide +kernel
theorem d_L_law_368 : decode c_L_law 368 = .ok (.iload 6, 2) := by decide +kernel
theorem d_L_law_370 : decode c_L_law 370 = .ok (.i2l, 1) := by decide +kernel
theorem d_L_law_371 : decode c_L_law 371 = .ok (.lcmp, 1) := by decide +kernel
theorem d_L_law_372 : decode c_L_law 372 = .ok (.ifCond .eq 5, 3) := by decide +kernel
theorem d_L_law_375 : decode c_L_law 375 = .ok (.iconst 0, 1) := by decide +kernel
theorem d_L_law_376 : decode c_L_law 376 = .ok (.ireturn, 1) := by decide +kernel
theorem d_L_law_377 : decode c_L_law 377 = .ok (.goto 664, 3) := by decide +kernel
theorem d_L_law_380 : decode c_L_law 380 = .ok (.aload_n 1, 1) := by decide +kernel
theorem d_L_law_381 : decode c_L_law 381 = .ok (.aload_n 0, 1) := by decide +kernel
theorem d_L_law_382 : decode c_L_law 382 = .ok (.iload 4, 2) := by decide +kernel
theorem d_L_law_384 : decode c_L_law 384 = .ok (.iconst 1, 1) := by decide +kernel
theorem d_L_law_385 : decode c_L_law 385 = .ok (.iadd, 1) := by decide +kernel
theorem d_L_law_386 : decode c_L_law 386 = .ok (.iaload, 1) := by decide +kernel
theorem d_L_law_387 : decode c_L_law 387 = .ok (.aload_n 0, 1) := by decide +kernel
theorem d_L_law_388 : decode c_L_law 388 = .ok (.iload 4, 2) := by decide +kernel
theorem d_L_law_390 : decode c_L_law 390 = .ok (.iconst 2, 1) := by decide +kernel
theorem d_L_law_391 : decode c_L_law 391 = .ok (.iadd, 1) := by decide +kernel
theorem d_L_law_392 : decode c_L_law 392 = .ok (.iaload, 1) := by decide +kernel
theorem d_L_law_393 : decode c_L_law 393 = .ok (.aload_n 0, 1) := by decide +kernel
theorem d_L_law_394 : decode c_L_law 394 = .ok (.iload 4, 2) := by decide +kernel
theorem d_L_law_396 : decode c_L_law 396 = .ok (.iconst 3, 1) := by decide +kernel
theorem d_L_law_397 : decode c_L_law 397 = .ok (.iadd, 1) := by decide +kernel
theorem d_L_law_398 : decode c_L_law 398 = .ok (.iaload, 1) := by decide +kernel
theorem d_L_law_399 : decode c_L_law 399 = .ok (.aload_n 3, 1) := by decide +kernel
theorem d_L_law_400 : decode c_L_law 400 = .ok (.invokestatic 89, 3) := by decide +kernel
theorem d_L_law_403 : decode c_L_law 403 = .ok (.istore 5, 2) := by decide +kernel
