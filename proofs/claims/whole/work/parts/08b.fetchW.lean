theorem fL_law_0 : zf mL_law 0 = some (.new 8, 3, 3) := by decide +kernel
theorem fL_law_3 : zf mL_law 3 = some (.dup, 1, 4) := by decide +kernel
theorem fL_law_4 : zf mL_law 4 = some (.invokespecial 130, 3, 7) := by decide +kernel
theorem fL_law_7 : zf mL_law 7 = some (.astore_n 1, 1, 8) := by decide +kernel
theorem fL_law_8 : zf mL_law 8 = some (.new 131, 3, 11) := by decide +kernel
theorem fL_law_11 : zf mL_law 11 = some (.dup, 1, 12) := by decide +kernel
theorem fL_law_12 : zf mL_law 12 = some (.invokespecial 133, 3, 15) := by decide +kernel
theorem fL_law_15 : zf mL_law 15 = some (.astore_n 2, 1, 16) := by decide +kernel
theorem fL_law_16 : zf mL_law 16 = some (.iconst 1, 1, 17) := by decide +kernel
theorem fL_law_17 : zf mL_law 17 = some (.newarray .long, 2, 19) := by decide +kernel
theorem fL_law_19 : zf mL_law 19 = some (.astore_n 3, 1, 20) := by decide +kernel
theorem fL_law_20 : zf mL_law 20 = some (.iconst 1, 1, 21) := by decide +kernel
theorem fL_law_21 : zf mL_law 21 = some (.newarray .double, 2, 23) := by decide +kernel
theorem fL_law_23 : zf mL_law 23 = some (.astore 4, 2, 25) := by decide +kernel
theorem fL_law_25 : zf mL_law 25 = some (.iconst 0, 1, 26) := by decide +kernel
theorem fL_law_26 : zf mL_law 26 = some (.istore 5, 2, 28) := by decide +kernel
theorem fL_law_28 : zf mL_law 28 = some (.iload 5, 2, 30) := by decide +kernel
theorem fL_law_30 : zf mL_law 30 = some (.aload_n 0, 1, 31) := by decide +kernel
theorem fL_law_31 : zf mL_law 31 = some (.arraylength, 1, 32) := by decide +kernel
theorem fL_law_32 : zf mL_law 32 = some (.iconst 5, 1, 33) := by decide +kernel
theorem fL_law_33 : zf mL_law 33 = some (.isub, 1, 34) := by decide +kernel
theorem fL_law_34 : zf mL_law 34 = some (.if_icmp .gt 2435, 3, 37) := by decide +kernel
theorem fL_law_37 : zf mL_law 37 = some (.aload_n 0, 1, 38) := by decide +kernel
theorem fL_law_38 : zf mL_law 38 = some (.iload 5, 2, 40) := by decide +kernel
theorem fL_law_40 : zf mL_law 40 = some (.iaload, 1, 41) := by decide +kernel
theorem fL_law_41 : zf mL_law 41 = some (.bipush 63, 2, 43) := by decide +kernel
theorem fL_law_43 : zf mL_law 43 = some (.iand, 1, 44) := by decide +kernel
theorem fL_law_44 : zf mL_law 44 = some (.tableswitch 2419 0 36 #[164, 244, 336, 404, 472, 528, 584, 652, 732, 812, 892, 960, 1028, 1096, 1164, 1232, 1300, 1368, 1436, 1511, 1579, 1647, 1703, 1759, 1803, 1861, 1905, 1918, 1974, 2030, 2086, 2142, 2219, 2262, 2318, 2362, 2375], 164, 208) := by decide +kernel
theorem fL_law_208 : zf mL_law 208 = some (.aload_n 1, 1, 209) := by decide +kernel
theorem fL_law_209 : zf mL_law 209 = some (.aload_n 0, 1, 210) := by decide +kernel
theorem fL_law_210 : zf mL_law 210 = some (.iload 5, 2, 212) := by decide +kernel
theorem fL_law_212 : zf mL_law 212 = some (.iconst 1, 1, 213) := by decide +kernel
theorem fL_law_213 : zf mL_law 213 = some (.iadd, 1, 214) := by decide +kernel
theorem fL_law_214 : zf mL_law 214 = some (.iaload, 1, 215) := by decide +kernel
theorem fL_law_215 : zf mL_law 215 = some (.aload_n 0, 1, 216) := by decide +kernel
theorem fL_law_216 : zf mL_law 216 = some (.iload 5, 2, 218) := by decide +kernel
theorem fL_law_218 : zf mL_law 218 = some (.iconst 2, 1, 219) := by decide +kernel
theorem fL_law_219 : zf mL_law 219 = some (.iadd, 1, 220) := by decide +kernel
theorem fL_law_220 : zf mL_law 220 = some (.iaload, 1, 221) := by decide +kernel
theorem fL_law_221 : zf mL_law 221 = some (.aload_n 0, 1, 222) := by decide +kernel
theorem fL_law_222 : zf mL_law 222 = some (.iload 5, 2, 224) := by decide +kernel
theorem fL_law_224 : zf mL_law 224 = some (.iconst 3, 1, 225) := by decide +kernel
theorem fL_law_225 : zf mL_law 225 = some (.iadd, 1, 226) := by decide +kernel
theorem fL_law_226 : zf mL_law 226 = some (.iaload, 1, 227) := by decide +kernel
theorem fL_law_227 : zf mL_law 227 = some (.aload_n 3, 1, 228) := by decide +kernel
theorem fL_law_228 : zf mL_law 228 = some (.invokestatic 134, 3, 231) := by decide +kernel
theorem fL_law_231 : zf mL_law 231 = some (.istore 6, 2, 233) := by decide +kernel
theorem fL_law_233 : zf mL_law 233 = some (.aload_n 2, 1, 234) := by decide +kernel
theorem fL_law_234 : zf mL_law 234 = some (.aload_n 0, 1, 235) := by decide +kernel
theorem fL_law_235 : zf mL_law 235 = some (.iload 5, 2, 237) := by decide +kernel
theorem fL_law_237 : zf mL_law 237 = some (.iconst 1, 1, 238) := by decide +kernel
theorem fL_law_238 : zf mL_law 238 = some (.iadd, 1, 239) := by decide +kernel
theorem fL_law_239 : zf mL_law 239 = some (.iaload, 1, 240) := by decide +kernel
theorem fL_law_240 : zf mL_law 240 = some (.aload_n 0, 1, 241) := by decide +kernel
theorem fL_law_241 : zf mL_law 241 = some (.iload 5, 2, 243) := by decide +kernel
theorem fL_law_243 : zf mL_law 243 = some (.iconst 2, 1, 244) := by decide +kernel
theorem fL_law_244 : zf mL_law 244 = some (.iadd, 1, 245) := by decide +kernel
theorem fL_law_245 : zf mL_law 245 = some (.iaload, 1, 246) := by decide +kernel
theorem fL_law_246 : zf mL_law 246 = some (.aload_n 0, 1, 247) := by decide +kernel
theorem fL_law_247 : zf mL_law 247 = some (.iload 5, 2, 249) := by decide +kernel
theorem fL_law_249 : zf mL_law 249 = some (.iconst 3, 1, 250) := by decide +kernel
theorem fL_law_250 : zf mL_law 250 = some (.iadd, 1, 251) := by decide +kernel
theorem fL_law_251 : zf mL_law 251 = some (.iaload, 1, 252) := by decide +kernel
theorem fL_law_252 : zf mL_law 252 = some (.invokevirtual 139, 3, 255) := by decide +kernel
theorem fL_law_255 : zf mL_law 255 = some (.istore 7, 2, 257) := by decide +kernel
theorem fL_law_257 : zf mL_law 257 = some (.aload_n 2, 1, 258) := by decide +kernel
theorem fL_law_258 : zf mL_law 258 = some (.invokevirtual 140, 3, 261) := by decide +kernel
theorem fL_law_261 : zf mL_law 261 = some (.iload 6, 2, 263) := by decide +kernel
theorem fL_law_263 : zf mL_law 263 = some (.if_icmp .eq 5, 3, 266) := by decide +kernel
theorem fL_law_266 : zf mL_law 266 = some (.iconst 0, 1, 267) := by decide +kernel
theorem fL_law_267 : zf mL_law 267 = some (.ireturn, 1, 268) := by decide +kernel
theorem fL_law_268 : zf mL_law 268 = some (.iload 6, 2, 270) := by decide +kernel
theorem fL_law_270 : zf mL_law 270 = some (.ifCond .ne 15, 3, 273) := by decide +kernel
theorem fL_law_273 : zf mL_law 273 = some (.aload_n 3, 1, 274) := by decide +kernel
theorem fL_law_274 : zf mL_law 274 = some (.iconst 0, 1, 275) := by decide +kernel
theorem fL_law_275 : zf mL_law 275 = some (.laload, 1, 276) := by decide +kernel
theorem fL_law_276 : zf mL_law 276 = some (.iload 7, 2, 278) := by decide +kernel
theorem fL_law_278 : zf mL_law 278 = some (.i2l, 1, 279) := by decide +kernel
theorem fL_law_279 : zf mL_law 279 = some (.lcmp, 1, 280) := by decide +kernel
theorem fL_law_280 : zf mL_law 280 = some (.ifCond .eq 5, 3, 283) := by decide +kernel
theorem fL_law_283 : zf mL_law 283 = some (.iconst 0, 1, 284) := by decide +kernel
theorem fL_law_284 : zf mL_law 284 = some (.ireturn, 1, 285) := by decide +kernel
theorem fL_law_285 : zf mL_law 285 = some (.goto 2178, 3, 288) := by decide +kernel
theorem fL_law_288 : zf mL_law 288 = some (.aload_n 1, 1, 289) := by decide +kernel
theorem fL_law_289 : zf mL_law 289 = some (.aload_n 0, 1, 290) := by decide +kernel
theorem fL_law_290 : zf mL_law 290 = some (.iload 5, 2, 292) := by decide +kernel
theorem fL_law_292 : zf mL_law 292 = some (.iconst 1, 1, 293) := by decide +kernel
theorem fL_law_293 : zf mL_law 293 = some (.iadd, 1, 294) := by decide +kernel
theorem fL_law_294 : zf mL_law 294 = some (.iaload, 1, 295) := by decide +kernel
theorem fL_law_295 : zf mL_law 295 = some (.aload_n 0, 1, 296) := by decide +kernel
theorem fL_law_296 : zf mL_law 296 = some (.iload 5, 2, 298) := by decide +kernel
theorem fL_law_298 : zf mL_law 298 = some (.iconst 2, 1, 299) := by decide +kernel
theorem fL_law_299 : zf mL_law 299 = some (.iadd, 1, 300) := by decide +kernel
theorem fL_law_300 : zf mL_law 300 = some (.iaload, 1, 301) := by decide +kernel
theorem fL_law_301 : zf mL_law 301 = some (.aload_n 0, 1, 302) := by decide +kernel
theorem fL_law_302 : zf mL_law 302 = some (.iload 5, 2, 304) := by decide +kernel
theorem fL_law_304 : zf mL_law 304 = some (.iconst 3, 1, 305) := by decide +kernel
theorem fL_law_305 : zf mL_law 305 = some (.iadd, 1, 306) := by decide +kernel
theorem fL_law_306 : zf mL_law 306 = some (.iaload, 1, 307) := by decide +kernel
theorem fL_law_307 : zf mL_law 307 = some (.aload_n 0, 1, 308) := by decide +kernel
theorem fL_law_308 : zf mL_law 308 = some (.iload 5, 2, 310) := by decide +kernel
theorem fL_law_310 : zf mL_law 310 = some (.iconst 4, 1, 311) := by decide +kernel
theorem fL_law_311 : zf mL_law 311 = some (.iadd, 1, 312) := by decide +kernel
theorem fL_law_312 : zf mL_law 312 = some (.iaload, 1, 313) := by decide +kernel
theorem fL_law_313 : zf mL_law 313 = some (.aload_n 3, 1, 314) := by decide +kernel
theorem fL_law_314 : zf mL_law 314 = some (.invokestatic 143, 3, 317) := by decide +kernel
theorem fL_law_317 : zf mL_law 317 = some (.istore 6, 2, 319) := by decide +kernel
theorem fL_law_319 : zf mL_law 319 = some (.aload_n 2, 1, 320) := by decide +kernel
theorem fL_law_320 : zf mL_law 320 = some (.aload_n 0, 1, 321) := by decide +kernel
theorem fL_law_321 : zf mL_law 321 = some (.iload 5, 2, 323) := by decide +kernel
theorem fL_law_323 : zf mL_law 323 = some (.iconst 1, 1, 324) := by decide +kernel
theorem fL_law_324 : zf mL_law 324 = some (.iadd, 1, 325) := by decide +kernel
theorem fL_law_325 : zf mL_law 325 = some (.iaload, 1, 326) := by decide +kernel
theorem fL_law_326 : zf mL_law 326 = some (.aload_n 0, 1, 327) := by decide +kernel
theorem fL_law_327 : zf mL_law 327 = some (.iload 5, 2, 329) := by decide +kernel
theorem fL_law_329 : zf mL_law 329 = some (.iconst 2, 1, 330) := by decide +kernel
theorem fL_law_330 : zf mL_law 330 = some (.iadd, 1, 331) := by decide +kernel
theorem fL_law_331 : zf mL_law 331 = some (.iaload, 1, 332) := by decide +kernel
theorem fL_law_332 : zf mL_law 332 = some (.aload_n 0, 1, 333) := by decide +kernel
theorem fL_law_333 : zf mL_law 333 = some (.iload 5, 2, 335) := by decide +kernel
theorem fL_law_335 : zf mL_law 335 = some (.iconst 3, 1, 336) := by decide +kernel
theorem fL_law_336 : zf mL_law 336 = some (.iadd, 1, 337) := by decide +kernel
theorem fL_law_337 : zf mL_law 337 = some (.iaload, 1, 338) := by decide +kernel
theorem fL_law_338 : zf mL_law 338 = some (.aload_n 0, 1, 339) := by decide +kernel
theorem fL_law_339 : zf mL_law 339 = some (.iload 5, 2, 341) := by decide +kernel
theorem fL_law_341 : zf mL_law 341 = some (.iconst 4, 1, 342) := by decide +kernel
theorem fL_law_342 : zf mL_law 342 = some (.iadd, 1, 343) := by decide +kernel
theorem fL_law_343 : zf mL_law 343 = some (.iaload, 1, 344) := by decide +kernel
theorem fL_law_344 : zf mL_law 344 = some (.invokevirtual 146, 3, 347) := by decide +kernel
theorem fL_law_347 : zf mL_law 347 = some (.istore 7, 2, 349) := by decide +kernel
theorem fL_law_349 : zf mL_law 349 = some (.aload_n 2, 1, 350) := by decide +kernel
theorem fL_law_350 : zf mL_law 350 = some (.invokevirtual 140, 3, 353) := by decide +kernel
theorem fL_law_353 : zf mL_law 353 = some (.iload 6, 2, 355) := by decide +kernel
theorem fL_law_355 : zf mL_law 355 = some (.if_icmp .eq 5, 3, 358) := by decide +kernel
theorem fL_law_358 : zf mL_law 358 = some (.iconst 0, 1, 359) := by decide +kernel
theorem fL_law_359 : zf mL_law 359 = some (.ireturn, 1, 360) := by decide +kernel
theorem fL_law_360 : zf mL_law 360 = some (.iload 6, 2, 362) := by decide +kernel
theorem fL_law_362 : zf mL_law 362 = some (.ifCond .ne 15, 3, 365) := by decide +kernel
theorem fL_law_365 : zf mL_law 365 = some (.aload_n 3, 1, 366) := by decide +kernel
theorem fL_law_366 : zf mL_law 366 = some (.iconst 0, 1, 367) := by decide +kernel
theorem fL_law_367 : zf mL_law 367 = some (.laload, 1, 368) := by decide +kernel
theorem fL_law_368 : zf mL_law 368 = some (.iload 7, 2, 370) := by decide +kernel
theorem fL_law_370 : zf mL_law 370 = some (.i2l, 1, 371) := by decide +kernel
theorem fL_law_371 : zf mL_law 371 = some (.lcmp, 1, 372) := by decide +kernel
theorem fL_law_372 : zf mL_law 372 = some (.ifCond .eq 5, 3, 375) := by decide +kernel
theorem fL_law_375 : zf mL_law 375 = some (.iconst 0, 1, 376) := by decide +kernel
theorem fL_law_376 : zf mL_law 376 = some (.ireturn, 1, 377) := by decide +kernel
theorem fL_law_377 : zf mL_law 377 = some (.goto 2086, 3, 380) := by decide +kernel
theorem fL_law_380 : zf mL_law 380 = some (.aload_n 1, 1, 381) := by decide +kernel
theorem fL_law_381 : zf mL_law 381 = some (.aload_n 0, 1, 382) := by decide +kernel
theorem fL_law_382 : zf mL_law 382 = some (.iload 5, 2, 384) := by decide +kernel
theorem fL_law_384 : zf mL_law 384 = some (.iconst 1, 1, 385) := by decide +kernel
theorem fL_law_385 : zf mL_law 385 = some (.iadd, 1, 386) := by decide +kernel
theorem fL_law_386 : zf mL_law 386 = some (.iaload, 1, 387) := by decide +kernel
theorem fL_law_387 : zf mL_law 387 = some (.aload_n 0, 1, 388) := by decide +kernel
theorem fL_law_388 : zf mL_law 388 = some (.iload 5, 2, 390) := by decide +kernel
theorem fL_law_390 : zf mL_law 390 = some (.iconst 2, 1, 391) := by decide +kernel
theorem fL_law_391 : zf mL_law 391 = some (.iadd, 1, 392) := by decide +kernel
theorem fL_law_392 : zf mL_law 392 = some (.iaload, 1, 393) := by decide +kernel
theorem fL_law_393 : zf mL_law 393 = some (.aload_n 3, 1, 394) := by decide +kernel
theorem fL_law_394 : zf mL_law 394 = some (.invokestatic 147, 3, 397) := by decide +kernel
theorem fL_law_397 : zf mL_law 397 = some (.istore 6, 2, 399) := by decide +kernel
theorem fL_law_399 : zf mL_law 399 = some (.aload_n 2, 1, 400) := by decide +kernel
theorem fL_law_400 : zf mL_law 400 = some (.aload_n 0, 1, 401) := by decide +kernel
theorem fL_law_401 : zf mL_law 401 = some (.iload 5, 2, 403) := by decide +kernel
theorem fL_law_403 : zf mL_law 403 = some (.iconst 1, 1, 404) := by decide +kernel
theorem fL_law_404 : zf mL_law 404 = some (.iadd, 1, 405) := by decide +kernel
theorem fL_law_405 : zf mL_law 405 = some (.iaload, 1, 406) := by decide +kernel
theorem fL_law_406 : zf mL_law 406 = some (.aload_n 0, 1, 407) := by decide +kernel
theorem fL_law_407 : zf mL_law 407 = some (.iload 5, 2, 409) := by decide +kernel
theorem fL_law_409 : zf mL_law 409 = some (.iconst 2, 1, 410) := by decide +kernel
theorem fL_law_410 : zf mL_law 410 = some (.iadd, 1, 411) := by decide +kernel
theorem fL_law_411 : zf mL_law 411 = some (.iaload, 1, 412) := by decide +kernel
theorem fL_law_412 : zf mL_law 412 = some (.invokevirtual 150, 3, 415) := by decide +kernel
theorem fL_law_415 : zf mL_law 415 = some (.istore 7, 2, 417) := by decide +kernel
theorem fL_law_417 : zf mL_law 417 = some (.aload_n 2, 1, 418) := by decide +kernel
theorem fL_law_418 : zf mL_law 418 = some (.invokevirtual 140, 3, 421) := by decide +kernel
theorem fL_law_421 : zf mL_law 421 = some (.iload 6, 2, 423) := by decide +kernel
theorem fL_law_423 : zf mL_law 423 = some (.if_icmp .eq 5, 3, 426) := by decide +kernel
theorem fL_law_426 : zf mL_law 426 = some (.iconst 0, 1, 427) := by decide +kernel
theorem fL_law_427 : zf mL_law 427 = some (.ireturn, 1, 428) := by decide +kernel
theorem fL_law_428 : zf mL_law 428 = some (.iload 6, 2, 430) := by decide +kernel
theorem fL_law_430 : zf mL_law 430 = some (.ifCond .ne 15, 3, 433) := by decide +kernel
theorem fL_law_433 : zf mL_law 433 = some (.aload_n 3, 1, 434) := by decide +kernel
theorem fL_law_434 : zf mL_law 434 = some (.iconst 0, 1, 435) := by decide +kernel
theorem fL_law_435 : zf mL_law 435 = some (.laload, 1, 436) := by decide +kernel
theorem fL_law_436 : zf mL_law 436 = some (.iload 7, 2, 438) := by decide +kernel
theorem fL_law_438 : zf mL_law 438 = some (.i2l, 1, 439) := by decide +kernel
theorem fL_law_439 : zf mL_law 439 = some (.lcmp, 1, 440) := by decide +kernel
theorem fL_law_440 : zf mL_law 440 = some (.ifCond .eq 5, 3, 443) := by decide +kernel
theorem fL_law_443 : zf mL_law 443 = some (.iconst 0, 1, 444) := by decide +kernel
theorem fL_law_444 : zf mL_law 444 = some (.ireturn, 1, 445) := by decide +kernel
theorem fL_law_445 : zf mL_law 445 = some (.goto 2018, 3, 448) := by decide +kernel
theorem fL_law_448 : zf mL_law 448 = some (.aload_n 1, 1, 449) := by decide +kernel
theorem fL_law_449 : zf mL_law 449 = some (.aload_n 0, 1, 450) := by decide +kernel
theorem fL_law_450 : zf mL_law 450 = some (.iload 5, 2, 452) := by decide +kernel
theorem fL_law_452 : zf mL_law 452 = some (.iconst 1, 1, 453) := by decide +kernel
theorem fL_law_453 : zf mL_law 453 = some (.iadd, 1, 454) := by decide +kernel
theorem fL_law_454 : zf mL_law 454 = some (.iaload, 1, 455) := by decide +kernel
theorem fL_law_455 : zf mL_law 455 = some (.aload_n 0, 1, 456) := by decide +kernel
theorem fL_law_456 : zf mL_law 456 = some (.iload 5, 2, 458) := by decide +kernel
theorem fL_law_458 : zf mL_law 458 = some (.iconst 2, 1, 459) := by decide +kernel
theorem fL_law_459 : zf mL_law 459 = some (.iadd, 1, 460) := by decide +kernel
theorem fL_law_460 : zf mL_law 460 = some (.iaload, 1, 461) := by decide +kernel
theorem fL_law_461 : zf mL_law 461 = some (.aload_n 3, 1, 462) := by decide +kernel
theorem fL_law_462 : zf mL_law 462 = some (.invokestatic 151, 3, 465) := by decide +kernel
theorem fL_law_465 : zf mL_law 465 = some (.istore 6, 2, 467) := by decide +kernel
theorem fL_law_467 : zf mL_law 467 = some (.aload_n 2, 1, 468) := by decide +kernel
theorem fL_law_468 : zf mL_law 468 = some (.aload_n 0, 1, 469) := by decide +kernel
theorem fL_law_469 : zf mL_law 469 = some (.iload 5, 2, 471) := by decide +kernel
theorem fL_law_471 : zf mL_law 471 = some (.iconst 1, 1, 472) := by decide +kernel
theorem fL_law_472 : zf mL_law 472 = some (.iadd, 1, 473) := by decide +kernel
theorem fL_law_473 : zf mL_law 473 = some (.iaload, 1, 474) := by decide +kernel
theorem fL_law_474 : zf mL_law 474 = some (.aload_n 0, 1, 475) := by decide +kernel
theorem fL_law_475 : zf mL_law 475 = some (.iload 5, 2, 477) := by decide +kernel
theorem fL_law_477 : zf mL_law 477 = some (.iconst 2, 1, 478) := by decide +kernel
theorem fL_law_478 : zf mL_law 478 = some (.iadd, 1, 479) := by decide +kernel
theorem fL_law_479 : zf mL_law 479 = some (.iaload, 1, 480) := by decide +kernel
theorem fL_law_480 : zf mL_law 480 = some (.invokevirtual 153, 3, 483) := by decide +kernel
theorem fL_law_483 : zf mL_law 483 = some (.istore 7, 2, 485) := by decide +kernel
theorem fL_law_485 : zf mL_law 485 = some (.aload_n 2, 1, 486) := by decide +kernel
theorem fL_law_486 : zf mL_law 486 = some (.invokevirtual 140, 3, 489) := by decide +kernel
theorem fL_law_489 : zf mL_law 489 = some (.iload 6, 2, 491) := by decide +kernel
theorem fL_law_491 : zf mL_law 491 = some (.if_icmp .eq 5, 3, 494) := by decide +kernel
theorem fL_law_494 : zf mL_law 494 = some (.iconst 0, 1, 495) := by decide +kernel
theorem fL_law_495 : zf mL_law 495 = some (.ireturn, 1, 496) := by decide +kernel
theorem fL_law_496 : zf mL_law 496 = some (.iload 6, 2, 498) := by decide +kernel
theorem fL_law_498 : zf mL_law 498 = some (.ifCond .ne 15, 3, 501) := by decide +kernel
theorem fL_law_501 : zf mL_law 501 = some (.aload_n 3, 1, 502) := by decide +kernel
theorem fL_law_502 : zf mL_law 502 = some (.iconst 0, 1, 503) := by decide +kernel
theorem fL_law_503 : zf mL_law 503 = some (.laload, 1, 504) := by decide +kernel
theorem fL_law_504 : zf mL_law 504 = some (.iload 7, 2, 506) := by decide +kernel
theorem fL_law_506 : zf mL_law 506 = some (.i2l, 1, 507) := by decide +kernel
theorem fL_law_507 : zf mL_law 507 = some (.lcmp, 1, 508) := by decide +kernel
theorem fL_law_508 : zf mL_law 508 = some (.ifCond .eq 5, 3, 511) := by decide +kernel
theorem fL_law_511 : zf mL_law 511 = some (.iconst 0, 1, 512) := by decide +kernel
theorem fL_law_512 : zf mL_law 512 = some (.ireturn, 1, 513) := by decide +kernel
theorem fL_law_513 : zf mL_law 513 = some (.goto 1950, 3, 516) := by decide +kernel
theorem fL_law_516 : zf mL_law 516 = some (.aload_n 1, 1, 517) := by decide +kernel
theorem fL_law_517 : zf mL_law 517 = some (.aload_n 0, 1, 518) := by decide +kernel
theorem fL_law_518 : zf mL_law 518 = some (.iload 5, 2, 520) := by decide +kernel
theorem fL_law_520 : zf mL_law 520 = some (.iconst 1, 1, 521) := by decide +kernel
theorem fL_law_521 : zf mL_law 521 = some (.iadd, 1, 522) := by decide +kernel
theorem fL_law_522 : zf mL_law 522 = some (.iaload, 1, 523) := by decide +kernel
theorem fL_law_523 : zf mL_law 523 = some (.aload_n 3, 1, 524) := by decide +kernel
theorem fL_law_524 : zf mL_law 524 = some (.invokestatic 154, 3, 527) := by decide +kernel
theorem fL_law_527 : zf mL_law 527 = some (.istore 6, 2, 529) := by decide +kernel
theorem fL_law_529 : zf mL_law 529 = some (.aload_n 2, 1, 530) := by decide +kernel
theorem fL_law_530 : zf mL_law 530 = some (.aload_n 0, 1, 531) := by decide +kernel
theorem fL_law_531 : zf mL_law 531 = some (.iload 5, 2, 533) := by decide +kernel
theorem fL_law_533 : zf mL_law 533 = some (.iconst 1, 1, 534) := by decide +kernel
theorem fL_law_534 : zf mL_law 534 = some (.iadd, 1, 535) := by decide +kernel
theorem fL_law_535 : zf mL_law 535 = some (.iaload, 1, 536) := by decide +kernel
theorem fL_law_536 : zf mL_law 536 = some (.invokevirtual 157, 3, 539) := by decide +kernel
theorem fL_law_539 : zf mL_law 539 = some (.istore 7, 2, 541) := by decide +kernel
theorem fL_law_541 : zf mL_law 541 = some (.aload_n 2, 1, 542) := by decide +kernel
theorem fL_law_542 : zf mL_law 542 = some (.invokevirtual 140, 3, 545) := by decide +kernel
theorem fL_law_545 : zf mL_law 545 = some (.iload 6, 2, 547) := by decide +kernel
theorem fL_law_547 : zf mL_law 547 = some (.if_icmp .eq 5, 3, 550) := by decide +kernel
theorem fL_law_550 : zf mL_law 550 = some (.iconst 0, 1, 551) := by decide +kernel
theorem fL_law_551 : zf mL_law 551 = some (.ireturn, 1, 552) := by decide +kernel
theorem fL_law_552 : zf mL_law 552 = some (.iload 6, 2, 554) := by decide +kernel
theorem fL_law_554 : zf mL_law 554 = some (.ifCond .ne 15, 3, 557) := by decide +kernel
theorem fL_law_557 : zf mL_law 557 = some (.aload_n 3, 1, 558) := by decide +kernel
theorem fL_law_558 : zf mL_law 558 = some (.iconst 0, 1, 559) := by decide +kernel
theorem fL_law_559 : zf mL_law 559 = some (.laload, 1, 560) := by decide +kernel
theorem fL_law_560 : zf mL_law 560 = some (.iload 7, 2, 562) := by decide +kernel
theorem fL_law_562 : zf mL_law 562 = some (.i2l, 1, 563) := by decide +kernel
theorem fL_law_563 : zf mL_law 563 = some (.lcmp, 1, 564) := by decide +kernel
theorem fL_law_564 : zf mL_law 564 = some (.ifCond .eq 5, 3, 567) := by decide +kernel
theorem fL_law_567 : zf mL_law 567 = some (.iconst 0, 1, 568) := by decide +kernel
theorem fL_law_568 : zf mL_law 568 = some (.ireturn, 1, 569) := by decide +kernel
theorem fL_law_569 : zf mL_law 569 = some (.goto 1894, 3, 572) := by decide +kernel
theorem fL_law_572 : zf mL_law 572 = some (.aload_n 1, 1, 573) := by decide +kernel
theorem fL_law_573 : zf mL_law 573 = some (.aload_n 0, 1, 574) := by decide +kernel
theorem fL_law_574 : zf mL_law 574 = some (.iload 5, 2, 576) := by decide +kernel
theorem fL_law_576 : zf mL_law 576 = some (.iconst 1, 1, 577) := by decide +kernel
theorem fL_law_577 : zf mL_law 577 = some (.iadd, 1, 578) := by decide +kernel
theorem fL_law_578 : zf mL_law 578 = some (.iaload, 1, 579) := by decide +kernel
theorem fL_law_579 : zf mL_law 579 = some (.aload_n 3, 1, 580) := by decide +kernel
theorem fL_law_580 : zf mL_law 580 = some (.invokestatic 158, 3, 583) := by decide +kernel
theorem fL_law_583 : zf mL_law 583 = some (.istore 6, 2, 585) := by decide +kernel
theorem fL_law_585 : zf mL_law 585 = some (.aload_n 2, 1, 586) := by decide +kernel
theorem fL_law_586 : zf mL_law 586 = some (.aload_n 0, 1, 587) := by decide +kernel
theorem fL_law_587 : zf mL_law 587 = some (.iload 5, 2, 589) := by decide +kernel
theorem fL_law_589 : zf mL_law 589 = some (.iconst 1, 1, 590) := by decide +kernel
theorem fL_law_590 : zf mL_law 590 = some (.iadd, 1, 591) := by decide +kernel
theorem fL_law_591 : zf mL_law 591 = some (.iaload, 1, 592) := by decide +kernel
theorem fL_law_592 : zf mL_law 592 = some (.invokevirtual 160, 3, 595) := by decide +kernel
theorem fL_law_595 : zf mL_law 595 = some (.istore 7, 2, 597) := by decide +kernel
theorem fL_law_597 : zf mL_law 597 = some (.aload_n 2, 1, 598) := by decide +kernel
theorem fL_law_598 : zf mL_law 598 = some (.invokevirtual 140, 3, 601) := by decide +kernel
theorem fL_law_601 : zf mL_law 601 = some (.iload 6, 2, 603) := by decide +kernel
theorem fL_law_603 : zf mL_law 603 = some (.if_icmp .eq 5, 3, 606) := by decide +kernel
theorem fL_law_606 : zf mL_law 606 = some (.iconst 0, 1, 607) := by decide +kernel
theorem fL_law_607 : zf mL_law 607 = some (.ireturn, 1, 608) := by decide +kernel
theorem fL_law_608 : zf mL_law 608 = some (.iload 6, 2, 610) := by decide +kernel
theorem fL_law_610 : zf mL_law 610 = some (.ifCond .ne 15, 3, 613) := by decide +kernel
theorem fL_law_613 : zf mL_law 613 = some (.aload_n 3, 1, 614) := by decide +kernel
theorem fL_law_614 : zf mL_law 614 = some (.iconst 0, 1, 615) := by decide +kernel
theorem fL_law_615 : zf mL_law 615 = some (.laload, 1, 616) := by decide +kernel
theorem fL_law_616 : zf mL_law 616 = some (.iload 7, 2, 618) := by decide +kernel
theorem fL_law_618 : zf mL_law 618 = some (.i2l, 1, 619) := by decide +kernel
theorem fL_law_619 : zf mL_law 619 = some (.lcmp, 1, 620) := by decide +kernel
theorem fL_law_620 : zf mL_law 620 = some (.ifCond .eq 5, 3, 623) := by decide +kernel
theorem fL_law_623 : zf mL_law 623 = some (.iconst 0, 1, 624) := by decide +kernel
theorem fL_law_624 : zf mL_law 624 = some (.ireturn, 1, 625) := by decide +kernel
theorem fL_law_625 : zf mL_law 625 = some (.goto 1838, 3, 628) := by decide +kernel
theorem fL_law_628 : zf mL_law 628 = some (.aload_n 1, 1, 629) := by decide +kernel
theorem fL_law_629 : zf mL_law 629 = some (.aload_n 0, 1, 630) := by decide +kernel
theorem fL_law_630 : zf mL_law 630 = some (.iload 5, 2, 632) := by decide +kernel
theorem fL_law_632 : zf mL_law 632 = some (.iconst 1, 1, 633) := by decide +kernel
theorem fL_law_633 : zf mL_law 633 = some (.iadd, 1, 634) := by decide +kernel
theorem fL_law_634 : zf mL_law 634 = some (.iaload, 1, 635) := by decide +kernel
theorem fL_law_635 : zf mL_law 635 = some (.aload_n 0, 1, 636) := by decide +kernel
theorem fL_law_636 : zf mL_law 636 = some (.iload 5, 2, 638) := by decide +kernel
theorem fL_law_638 : zf mL_law 638 = some (.iconst 2, 1, 639) := by decide +kernel
theorem fL_law_639 : zf mL_law 639 = some (.iadd, 1, 640) := by decide +kernel
theorem fL_law_640 : zf mL_law 640 = some (.iaload, 1, 641) := by decide +kernel
theorem fL_law_641 : zf mL_law 641 = some (.aload_n 3, 1, 642) := by decide +kernel
theorem fL_law_642 : zf mL_law 642 = some (.invokestatic 161, 3, 645) := by decide +kernel
theorem fL_law_645 : zf mL_law 645 = some (.istore 6, 2, 647) := by decide +kernel
theorem fL_law_647 : zf mL_law 647 = some (.aload_n 2, 1, 648) := by decide +kernel
theorem fL_law_648 : zf mL_law 648 = some (.aload_n 0, 1, 649) := by decide +kernel
theorem fL_law_649 : zf mL_law 649 = some (.iload 5, 2, 651) := by decide +kernel
theorem fL_law_651 : zf mL_law 651 = some (.iconst 1, 1, 652) := by decide +kernel
theorem fL_law_652 : zf mL_law 652 = some (.iadd, 1, 653) := by decide +kernel
theorem fL_law_653 : zf mL_law 653 = some (.iaload, 1, 654) := by decide +kernel
theorem fL_law_654 : zf mL_law 654 = some (.aload_n 0, 1, 655) := by decide +kernel
theorem fL_law_655 : zf mL_law 655 = some (.iload 5, 2, 657) := by decide +kernel
theorem fL_law_657 : zf mL_law 657 = some (.iconst 2, 1, 658) := by decide +kernel
theorem fL_law_658 : zf mL_law 658 = some (.iadd, 1, 659) := by decide +kernel
theorem fL_law_659 : zf mL_law 659 = some (.iaload, 1, 660) := by decide +kernel
theorem fL_law_660 : zf mL_law 660 = some (.invokevirtual 163, 3, 663) := by decide +kernel
theorem fL_law_663 : zf mL_law 663 = some (.istore 7, 2, 665) := by decide +kernel
theorem fL_law_665 : zf mL_law 665 = some (.aload_n 2, 1, 666) := by decide +kernel
theorem fL_law_666 : zf mL_law 666 = some (.invokevirtual 140, 3, 669) := by decide +kernel
theorem fL_law_669 : zf mL_law 669 = some (.iload 6, 2, 671) := by decide +kernel
theorem fL_law_671 : zf mL_law 671 = some (.if_icmp .eq 5, 3, 674) := by decide +kernel
theorem fL_law_674 : zf mL_law 674 = some (.iconst 0, 1, 675) := by decide +kernel
theorem fL_law_675 : zf mL_law 675 = some (.ireturn, 1, 676) := by decide +kernel
theorem fL_law_676 : zf mL_law 676 = some (.iload 6, 2, 678) := by decide +kernel
theorem fL_law_678 : zf mL_law 678 = some (.ifCond .ne 15, 3, 681) := by decide +kernel
theorem fL_law_681 : zf mL_law 681 = some (.aload_n 3, 1, 682) := by decide +kernel
theorem fL_law_682 : zf mL_law 682 = some (.iconst 0, 1, 683) := by decide +kernel
theorem fL_law_683 : zf mL_law 683 = some (.laload, 1, 684) := by decide +kernel
theorem fL_law_684 : zf mL_law 684 = some (.iload 7, 2, 686) := by decide +kernel
theorem fL_law_686 : zf mL_law 686 = some (.i2l, 1, 687) := by decide +kernel
theorem fL_law_687 : zf mL_law 687 = some (.lcmp, 1, 688) := by decide +kernel
theorem fL_law_688 : zf mL_law 688 = some (.ifCond .eq 5, 3, 691) := by decide +kernel
theorem fL_law_691 : zf mL_law 691 = some (.iconst 0, 1, 692) := by decide +kernel
theorem fL_law_692 : zf mL_law 692 = some (.ireturn, 1, 693) := by decide +kernel
theorem fL_law_693 : zf mL_law 693 = some (.goto 1770, 3, 696) := by decide +kernel
theorem fL_law_696 : zf mL_law 696 = some (.aload_n 1, 1, 697) := by decide +kernel
theorem fL_law_697 : zf mL_law 697 = some (.aload_n 0, 1, 698) := by decide +kernel
theorem fL_law_698 : zf mL_law 698 = some (.iload 5, 2, 700) := by decide +kernel
theorem fL_law_700 : zf mL_law 700 = some (.iconst 1, 1, 701) := by decide +kernel
theorem fL_law_701 : zf mL_law 701 = some (.iadd, 1, 702) := by decide +kernel
theorem fL_law_702 : zf mL_law 702 = some (.iaload, 1, 703) := by decide +kernel
theorem fL_law_703 : zf mL_law 703 = some (.aload_n 0, 1, 704) := by decide +kernel
theorem fL_law_704 : zf mL_law 704 = some (.iload 5, 2, 706) := by decide +kernel
theorem fL_law_706 : zf mL_law 706 = some (.iconst 2, 1, 707) := by decide +kernel
theorem fL_law_707 : zf mL_law 707 = some (.iadd, 1, 708) := by decide +kernel
theorem fL_law_708 : zf mL_law 708 = some (.iaload, 1, 709) := by decide +kernel
theorem fL_law_709 : zf mL_law 709 = some (.aload_n 0, 1, 710) := by decide +kernel
theorem fL_law_710 : zf mL_law 710 = some (.iload 5, 2, 712) := by decide +kernel
theorem fL_law_712 : zf mL_law 712 = some (.iconst 3, 1, 713) := by decide +kernel
theorem fL_law_713 : zf mL_law 713 = some (.iadd, 1, 714) := by decide +kernel
theorem fL_law_714 : zf mL_law 714 = some (.iaload, 1, 715) := by decide +kernel
theorem fL_law_715 : zf mL_law 715 = some (.aload_n 3, 1, 716) := by decide +kernel
theorem fL_law_716 : zf mL_law 716 = some (.invokestatic 164, 3, 719) := by decide +kernel
theorem fL_law_719 : zf mL_law 719 = some (.istore 6, 2, 721) := by decide +kernel
theorem fL_law_721 : zf mL_law 721 = some (.aload_n 2, 1, 722) := by decide +kernel
theorem fL_law_722 : zf mL_law 722 = some (.aload_n 0, 1, 723) := by decide +kernel
theorem fL_law_723 : zf mL_law 723 = some (.iload 5, 2, 725) := by decide +kernel
theorem fL_law_725 : zf mL_law 725 = some (.iconst 1, 1, 726) := by decide +kernel
theorem fL_law_726 : zf mL_law 726 = some (.iadd, 1, 727) := by decide +kernel
theorem fL_law_727 : zf mL_law 727 = some (.iaload, 1, 728) := by decide +kernel
theorem fL_law_728 : zf mL_law 728 = some (.aload_n 0, 1, 729) := by decide +kernel
theorem fL_law_729 : zf mL_law 729 = some (.iload 5, 2, 731) := by decide +kernel
theorem fL_law_731 : zf mL_law 731 = some (.iconst 2, 1, 732) := by decide +kernel
theorem fL_law_732 : zf mL_law 732 = some (.iadd, 1, 733) := by decide +kernel
theorem fL_law_733 : zf mL_law 733 = some (.iaload, 1, 734) := by decide +kernel
theorem fL_law_734 : zf mL_law 734 = some (.aload_n 0, 1, 735) := by decide +kernel
theorem fL_law_735 : zf mL_law 735 = some (.iload 5, 2, 737) := by decide +kernel
theorem fL_law_737 : zf mL_law 737 = some (.iconst 3, 1, 738) := by decide +kernel
theorem fL_law_738 : zf mL_law 738 = some (.iadd, 1, 739) := by decide +kernel
theorem fL_law_739 : zf mL_law 739 = some (.iaload, 1, 740) := by decide +kernel
theorem fL_law_740 : zf mL_law 740 = some (.invokevirtual 166, 3, 743) := by decide +kernel
theorem fL_law_743 : zf mL_law 743 = some (.istore 7, 2, 745) := by decide +kernel
theorem fL_law_745 : zf mL_law 745 = some (.aload_n 2, 1, 746) := by decide +kernel
theorem fL_law_746 : zf mL_law 746 = some (.invokevirtual 140, 3, 749) := by decide +kernel
theorem fL_law_749 : zf mL_law 749 = some (.iload 6, 2, 751) := by decide +kernel
theorem fL_law_751 : zf mL_law 751 = some (.if_icmp .eq 5, 3, 754) := by decide +kernel
theorem fL_law_754 : zf mL_law 754 = some (.iconst 0, 1, 755) := by decide +kernel
theorem fL_law_755 : zf mL_law 755 = some (.ireturn, 1, 756) := by decide +kernel
theorem fL_law_756 : zf mL_law 756 = some (.iload 6, 2, 758) := by decide +kernel
theorem fL_law_758 : zf mL_law 758 = some (.ifCond .ne 15, 3, 761) := by decide +kernel
theorem fL_law_761 : zf mL_law 761 = some (.aload_n 3, 1, 762) := by decide +kernel
theorem fL_law_762 : zf mL_law 762 = some (.iconst 0, 1, 763) := by decide +kernel
theorem fL_law_763 : zf mL_law 763 = some (.laload, 1, 764) := by decide +kernel
theorem fL_law_764 : zf mL_law 764 = some (.iload 7, 2, 766) := by decide +kernel
theorem fL_law_766 : zf mL_law 766 = some (.i2l, 1, 767) := by decide +kernel
theorem fL_law_767 : zf mL_law 767 = some (.lcmp, 1, 768) := by decide +kernel
theorem fL_law_768 : zf mL_law 768 = some (.ifCond .eq 5, 3, 771) := by decide +kernel
theorem fL_law_771 : zf mL_law 771 = some (.iconst 0, 1, 772) := by decide +kernel
theorem fL_law_772 : zf mL_law 772 = some (.ireturn, 1, 773) := by decide +kernel
theorem fL_law_773 : zf mL_law 773 = some (.goto 1690, 3, 776) := by decide +kernel
theorem fL_law_776 : zf mL_law 776 = some (.aload_n 1, 1, 777) := by decide +kernel
theorem fL_law_777 : zf mL_law 777 = some (.aload_n 0, 1, 778) := by decide +kernel
theorem fL_law_778 : zf mL_law 778 = some (.iload 5, 2, 780) := by decide +kernel
theorem fL_law_780 : zf mL_law 780 = some (.iconst 1, 1, 781) := by decide +kernel
theorem fL_law_781 : zf mL_law 781 = some (.iadd, 1, 782) := by decide +kernel
theorem fL_law_782 : zf mL_law 782 = some (.iaload, 1, 783) := by decide +kernel
theorem fL_law_783 : zf mL_law 783 = some (.aload_n 0, 1, 784) := by decide +kernel
theorem fL_law_784 : zf mL_law 784 = some (.iload 5, 2, 786) := by decide +kernel
theorem fL_law_786 : zf mL_law 786 = some (.iconst 2, 1, 787) := by decide +kernel
theorem fL_law_787 : zf mL_law 787 = some (.iadd, 1, 788) := by decide +kernel
theorem fL_law_788 : zf mL_law 788 = some (.iaload, 1, 789) := by decide +kernel
theorem fL_law_789 : zf mL_law 789 = some (.aload_n 0, 1, 790) := by decide +kernel
theorem fL_law_790 : zf mL_law 790 = some (.iload 5, 2, 792) := by decide +kernel
theorem fL_law_792 : zf mL_law 792 = some (.iconst 3, 1, 793) := by decide +kernel
theorem fL_law_793 : zf mL_law 793 = some (.iadd, 1, 794) := by decide +kernel
theorem fL_law_794 : zf mL_law 794 = some (.iaload, 1, 795) := by decide +kernel
theorem fL_law_795 : zf mL_law 795 = some (.aload_n 3, 1, 796) := by decide +kernel
theorem fL_law_796 : zf mL_law 796 = some (.invokestatic 167, 3, 799) := by decide +kernel
theorem fL_law_799 : zf mL_law 799 = some (.istore 6, 2, 801) := by decide +kernel
theorem fL_law_801 : zf mL_law 801 = some (.aload_n 2, 1, 802) := by decide +kernel
theorem fL_law_802 : zf mL_law 802 = some (.aload_n 0, 1, 803) := by decide +kernel
theorem fL_law_803 : zf mL_law 803 = some (.iload 5, 2, 805) := by decide +kernel
theorem fL_law_805 : zf mL_law 805 = some (.iconst 1, 1, 806) := by decide +kernel
theorem fL_law_806 : zf mL_law 806 = some (.iadd, 1, 807) := by decide +kernel
theorem fL_law_807 : zf mL_law 807 = some (.iaload, 1, 808) := by decide +kernel
theorem fL_law_808 : zf mL_law 808 = some (.aload_n 0, 1, 809) := by decide +kernel
theorem fL_law_809 : zf mL_law 809 = some (.iload 5, 2, 811) := by decide +kernel
theorem fL_law_811 : zf mL_law 811 = some (.iconst 2, 1, 812) := by decide +kernel
theorem fL_law_812 : zf mL_law 812 = some (.iadd, 1, 813) := by decide +kernel
theorem fL_law_813 : zf mL_law 813 = some (.iaload, 1, 814) := by decide +kernel
theorem fL_law_814 : zf mL_law 814 = some (.aload_n 0, 1, 815) := by decide +kernel
theorem fL_law_815 : zf mL_law 815 = some (.iload 5, 2, 817) := by decide +kernel
theorem fL_law_817 : zf mL_law 817 = some (.iconst 3, 1, 818) := by decide +kernel
theorem fL_law_818 : zf mL_law 818 = some (.iadd, 1, 819) := by decide +kernel
theorem fL_law_819 : zf mL_law 819 = some (.iaload, 1, 820) := by decide +kernel
theorem fL_law_820 : zf mL_law 820 = some (.invokevirtual 169, 3, 823) := by decide +kernel
theorem fL_law_823 : zf mL_law 823 = some (.istore 7, 2, 825) := by decide +kernel
theorem fL_law_825 : zf mL_law 825 = some (.aload_n 2, 1, 826) := by decide +kernel
theorem fL_law_826 : zf mL_law 826 = some (.invokevirtual 140, 3, 829) := by decide +kernel
theorem fL_law_829 : zf mL_law 829 = some (.iload 6, 2, 831) := by decide +kernel
theorem fL_law_831 : zf mL_law 831 = some (.if_icmp .eq 5, 3, 834) := by decide +kernel
theorem fL_law_834 : zf mL_law 834 = some (.iconst 0, 1, 835) := by decide +kernel
theorem fL_law_835 : zf mL_law 835 = some (.ireturn, 1, 836) := by decide +kernel
theorem fL_law_836 : zf mL_law 836 = some (.iload 6, 2, 838) := by decide +kernel
theorem fL_law_838 : zf mL_law 838 = some (.ifCond .ne 15, 3, 841) := by decide +kernel
theorem fL_law_841 : zf mL_law 841 = some (.aload_n 3, 1, 842) := by decide +kernel
theorem fL_law_842 : zf mL_law 842 = some (.iconst 0, 1, 843) := by decide +kernel
theorem fL_law_843 : zf mL_law 843 = some (.laload, 1, 844) := by decide +kernel
theorem fL_law_844 : zf mL_law 844 = some (.iload 7, 2, 846) := by decide +kernel
theorem fL_law_846 : zf mL_law 846 = some (.i2l, 1, 847) := by decide +kernel
theorem fL_law_847 : zf mL_law 847 = some (.lcmp, 1, 848) := by decide +kernel
theorem fL_law_848 : zf mL_law 848 = some (.ifCond .eq 5, 3, 851) := by decide +kernel
theorem fL_law_851 : zf mL_law 851 = some (.iconst 0, 1, 852) := by decide +kernel
theorem fL_law_852 : zf mL_law 852 = some (.ireturn, 1, 853) := by decide +kernel
theorem fL_law_853 : zf mL_law 853 = some (.goto 1610, 3, 856) := by decide +kernel
theorem fL_law_856 : zf mL_law 856 = some (.aload_n 1, 1, 857) := by decide +kernel
theorem fL_law_857 : zf mL_law 857 = some (.aload_n 0, 1, 858) := by decide +kernel
theorem fL_law_858 : zf mL_law 858 = some (.iload 5, 2, 860) := by decide +kernel
theorem fL_law_860 : zf mL_law 860 = some (.iconst 1, 1, 861) := by decide +kernel
theorem fL_law_861 : zf mL_law 861 = some (.iadd, 1, 862) := by decide +kernel
theorem fL_law_862 : zf mL_law 862 = some (.iaload, 1, 863) := by decide +kernel
theorem fL_law_863 : zf mL_law 863 = some (.aload_n 0, 1, 864) := by decide +kernel
theorem fL_law_864 : zf mL_law 864 = some (.iload 5, 2, 866) := by decide +kernel
theorem fL_law_866 : zf mL_law 866 = some (.iconst 2, 1, 867) := by decide +kernel
theorem fL_law_867 : zf mL_law 867 = some (.iadd, 1, 868) := by decide +kernel
theorem fL_law_868 : zf mL_law 868 = some (.iaload, 1, 869) := by decide +kernel
theorem fL_law_869 : zf mL_law 869 = some (.aload_n 0, 1, 870) := by decide +kernel
theorem fL_law_870 : zf mL_law 870 = some (.iload 5, 2, 872) := by decide +kernel
theorem fL_law_872 : zf mL_law 872 = some (.iconst 3, 1, 873) := by decide +kernel
theorem fL_law_873 : zf mL_law 873 = some (.iadd, 1, 874) := by decide +kernel
theorem fL_law_874 : zf mL_law 874 = some (.iaload, 1, 875) := by decide +kernel
theorem fL_law_875 : zf mL_law 875 = some (.aload_n 3, 1, 876) := by decide +kernel
theorem fL_law_876 : zf mL_law 876 = some (.invokestatic 170, 3, 879) := by decide +kernel
theorem fL_law_879 : zf mL_law 879 = some (.istore 6, 2, 881) := by decide +kernel
theorem fL_law_881 : zf mL_law 881 = some (.aload_n 2, 1, 882) := by decide +kernel
theorem fL_law_882 : zf mL_law 882 = some (.aload_n 0, 1, 883) := by decide +kernel
theorem fL_law_883 : zf mL_law 883 = some (.iload 5, 2, 885) := by decide +kernel
theorem fL_law_885 : zf mL_law 885 = some (.iconst 1, 1, 886) := by decide +kernel
theorem fL_law_886 : zf mL_law 886 = some (.iadd, 1, 887) := by decide +kernel
theorem fL_law_887 : zf mL_law 887 = some (.iaload, 1, 888) := by decide +kernel
theorem fL_law_888 : zf mL_law 888 = some (.aload_n 0, 1, 889) := by decide +kernel
theorem fL_law_889 : zf mL_law 889 = some (.iload 5, 2, 891) := by decide +kernel
theorem fL_law_891 : zf mL_law 891 = some (.iconst 2, 1, 892) := by decide +kernel
theorem fL_law_892 : zf mL_law 892 = some (.iadd, 1, 893) := by decide +kernel
theorem fL_law_893 : zf mL_law 893 = some (.iaload, 1, 894) := by decide +kernel
theorem fL_law_894 : zf mL_law 894 = some (.aload_n 0, 1, 895) := by decide +kernel
theorem fL_law_895 : zf mL_law 895 = some (.iload 5, 2, 897) := by decide +kernel
theorem fL_law_897 : zf mL_law 897 = some (.iconst 3, 1, 898) := by decide +kernel
theorem fL_law_898 : zf mL_law 898 = some (.iadd, 1, 899) := by decide +kernel
theorem fL_law_899 : zf mL_law 899 = some (.iaload, 1, 900) := by decide +kernel
theorem fL_law_900 : zf mL_law 900 = some (.invokevirtual 172, 3, 903) := by decide +kernel
theorem fL_law_903 : zf mL_law 903 = some (.istore 7, 2, 905) := by decide +kernel
theorem fL_law_905 : zf mL_law 905 = some (.aload_n 2, 1, 906) := by decide +kernel
theorem fL_law_906 : zf mL_law 906 = some (.invokevirtual 140, 3, 909) := by decide +kernel
theorem fL_law_909 : zf mL_law 909 = some (.iload 6, 2, 911) := by decide +kernel
theorem fL_law_911 : zf mL_law 911 = some (.if_icmp .eq 5, 3, 914) := by decide +kernel
theorem fL_law_914 : zf mL_law 914 = some (.iconst 0, 1, 915) := by decide +kernel
theorem fL_law_915 : zf mL_law 915 = some (.ireturn, 1, 916) := by decide +kernel
theorem fL_law_916 : zf mL_law 916 = some (.iload 6, 2, 918) := by decide +kernel
theorem fL_law_918 : zf mL_law 918 = some (.ifCond .ne 15, 3, 921) := by decide +kernel
theorem fL_law_921 : zf mL_law 921 = some (.aload_n 3, 1, 922) := by decide +kernel
theorem fL_law_922 : zf mL_law 922 = some (.iconst 0, 1, 923) := by decide +kernel
theorem fL_law_923 : zf mL_law 923 = some (.laload, 1, 924) := by decide +kernel
theorem fL_law_924 : zf mL_law 924 = some (.iload 7, 2, 926) := by decide +kernel
theorem fL_law_926 : zf mL_law 926 = some (.i2l, 1, 927) := by decide +kernel
theorem fL_law_927 : zf mL_law 927 = some (.lcmp, 1, 928) := by decide +kernel
theorem fL_law_928 : zf mL_law 928 = some (.ifCond .eq 5, 3, 931) := by decide +kernel
theorem fL_law_931 : zf mL_law 931 = some (.iconst 0, 1, 932) := by decide +kernel
theorem fL_law_932 : zf mL_law 932 = some (.ireturn, 1, 933) := by decide +kernel
theorem fL_law_933 : zf mL_law 933 = some (.goto 1530, 3, 936) := by decide +kernel
theorem fL_law_936 : zf mL_law 936 = some (.aload_n 1, 1, 937) := by decide +kernel
theorem fL_law_937 : zf mL_law 937 = some (.aload_n 0, 1, 938) := by decide +kernel
theorem fL_law_938 : zf mL_law 938 = some (.iload 5, 2, 940) := by decide +kernel
theorem fL_law_940 : zf mL_law 940 = some (.iconst 1, 1, 941) := by decide +kernel
theorem fL_law_941 : zf mL_law 941 = some (.iadd, 1, 942) := by decide +kernel
theorem fL_law_942 : zf mL_law 942 = some (.iaload, 1, 943) := by decide +kernel
theorem fL_law_943 : zf mL_law 943 = some (.aload_n 0, 1, 944) := by decide +kernel
theorem fL_law_944 : zf mL_law 944 = some (.iload 5, 2, 946) := by decide +kernel
theorem fL_law_946 : zf mL_law 946 = some (.iconst 2, 1, 947) := by decide +kernel
theorem fL_law_947 : zf mL_law 947 = some (.iadd, 1, 948) := by decide +kernel
theorem fL_law_948 : zf mL_law 948 = some (.iaload, 1, 949) := by decide +kernel
theorem fL_law_949 : zf mL_law 949 = some (.aload_n 3, 1, 950) := by decide +kernel
theorem fL_law_950 : zf mL_law 950 = some (.invokestatic 173, 3, 953) := by decide +kernel
theorem fL_law_953 : zf mL_law 953 = some (.istore 6, 2, 955) := by decide +kernel
theorem fL_law_955 : zf mL_law 955 = some (.aload_n 2, 1, 956) := by decide +kernel
theorem fL_law_956 : zf mL_law 956 = some (.aload_n 0, 1, 957) := by decide +kernel
theorem fL_law_957 : zf mL_law 957 = some (.iload 5, 2, 959) := by decide +kernel
theorem fL_law_959 : zf mL_law 959 = some (.iconst 1, 1, 960) := by decide +kernel
theorem fL_law_960 : zf mL_law 960 = some (.iadd, 1, 961) := by decide +kernel
theorem fL_law_961 : zf mL_law 961 = some (.iaload, 1, 962) := by decide +kernel
theorem fL_law_962 : zf mL_law 962 = some (.aload_n 0, 1, 963) := by decide +kernel
theorem fL_law_963 : zf mL_law 963 = some (.iload 5, 2, 965) := by decide +kernel
theorem fL_law_965 : zf mL_law 965 = some (.iconst 2, 1, 966) := by decide +kernel
theorem fL_law_966 : zf mL_law 966 = some (.iadd, 1, 967) := by decide +kernel
theorem fL_law_967 : zf mL_law 967 = some (.iaload, 1, 968) := by decide +kernel
theorem fL_law_968 : zf mL_law 968 = some (.invokevirtual 175, 3, 971) := by decide +kernel
theorem fL_law_971 : zf mL_law 971 = some (.istore 7, 2, 973) := by decide +kernel
theorem fL_law_973 : zf mL_law 973 = some (.aload_n 2, 1, 974) := by decide +kernel
theorem fL_law_974 : zf mL_law 974 = some (.invokevirtual 140, 3, 977) := by decide +kernel
theorem fL_law_977 : zf mL_law 977 = some (.iload 6, 2, 979) := by decide +kernel
theorem fL_law_979 : zf mL_law 979 = some (.if_icmp .eq 5, 3, 982) := by decide +kernel
theorem fL_law_982 : zf mL_law 982 = some (.iconst 0, 1, 983) := by decide +kernel
theorem fL_law_983 : zf mL_law 983 = some (.ireturn, 1, 984) := by decide +kernel
theorem fL_law_984 : zf mL_law 984 = some (.iload 6, 2, 986) := by decide +kernel
theorem fL_law_986 : zf mL_law 986 = some (.ifCond .ne 15, 3, 989) := by decide +kernel
theorem fL_law_989 : zf mL_law 989 = some (.aload_n 3, 1, 990) := by decide +kernel
theorem fL_law_990 : zf mL_law 990 = some (.iconst 0, 1, 991) := by decide +kernel
theorem fL_law_991 : zf mL_law 991 = some (.laload, 1, 992) := by decide +kernel
theorem fL_law_992 : zf mL_law 992 = some (.iload 7, 2, 994) := by decide +kernel
theorem fL_law_994 : zf mL_law 994 = some (.i2l, 1, 995) := by decide +kernel
theorem fL_law_995 : zf mL_law 995 = some (.lcmp, 1, 996) := by decide +kernel
theorem fL_law_996 : zf mL_law 996 = some (.ifCond .eq 5, 3, 999) := by decide +kernel
theorem fL_law_999 : zf mL_law 999 = some (.iconst 0, 1, 1000) := by decide +kernel
theorem fL_law_1000 : zf mL_law 1000 = some (.ireturn, 1, 1001) := by decide +kernel
theorem fL_law_1001 : zf mL_law 1001 = some (.goto 1462, 3, 1004) := by decide +kernel
theorem fL_law_1004 : zf mL_law 1004 = some (.aload_n 1, 1, 1005) := by decide +kernel
theorem fL_law_1005 : zf mL_law 1005 = some (.aload_n 0, 1, 1006) := by decide +kernel
theorem fL_law_1006 : zf mL_law 1006 = some (.iload 5, 2, 1008) := by decide +kernel
theorem fL_law_1008 : zf mL_law 1008 = some (.iconst 1, 1, 1009) := by decide +kernel
theorem fL_law_1009 : zf mL_law 1009 = some (.iadd, 1, 1010) := by decide +kernel
theorem fL_law_1010 : zf mL_law 1010 = some (.iaload, 1, 1011) := by decide +kernel
theorem fL_law_1011 : zf mL_law 1011 = some (.aload_n 0, 1, 1012) := by decide +kernel
theorem fL_law_1012 : zf mL_law 1012 = some (.iload 5, 2, 1014) := by decide +kernel
theorem fL_law_1014 : zf mL_law 1014 = some (.iconst 2, 1, 1015) := by decide +kernel
theorem fL_law_1015 : zf mL_law 1015 = some (.iadd, 1, 1016) := by decide +kernel
theorem fL_law_1016 : zf mL_law 1016 = some (.iaload, 1, 1017) := by decide +kernel
theorem fL_law_1017 : zf mL_law 1017 = some (.aload_n 3, 1, 1018) := by decide +kernel
theorem fL_law_1018 : zf mL_law 1018 = some (.invokestatic 176, 3, 1021) := by decide +kernel
theorem fL_law_1021 : zf mL_law 1021 = some (.istore 6, 2, 1023) := by decide +kernel
theorem fL_law_1023 : zf mL_law 1023 = some (.aload_n 2, 1, 1024) := by decide +kernel
theorem fL_law_1024 : zf mL_law 1024 = some (.aload_n 0, 1, 1025) := by decide +kernel
theorem fL_law_1025 : zf mL_law 1025 = some (.iload 5, 2, 1027) := by decide +kernel
theorem fL_law_1027 : zf mL_law 1027 = some (.iconst 1, 1, 1028) := by decide +kernel
theorem fL_law_1028 : zf mL_law 1028 = some (.iadd, 1, 1029) := by decide +kernel
theorem fL_law_1029 : zf mL_law 1029 = some (.iaload, 1, 1030) := by decide +kernel
theorem fL_law_1030 : zf mL_law 1030 = some (.aload_n 0, 1, 1031) := by decide +kernel
theorem fL_law_1031 : zf mL_law 1031 = some (.iload 5, 2, 1033) := by decide +kernel
theorem fL_law_1033 : zf mL_law 1033 = some (.iconst 2, 1, 1034) := by decide +kernel
theorem fL_law_1034 : zf mL_law 1034 = some (.iadd, 1, 1035) := by decide +kernel
theorem fL_law_1035 : zf mL_law 1035 = some (.iaload, 1, 1036) := by decide +kernel
theorem fL_law_1036 : zf mL_law 1036 = some (.invokevirtual 178, 3, 1039) := by decide +kernel
theorem fL_law_1039 : zf mL_law 1039 = some (.istore 7, 2, 1041) := by decide +kernel
theorem fL_law_1041 : zf mL_law 1041 = some (.aload_n 2, 1, 1042) := by decide +kernel
theorem fL_law_1042 : zf mL_law 1042 = some (.invokevirtual 140, 3, 1045) := by decide +kernel
theorem fL_law_1045 : zf mL_law 1045 = some (.iload 6, 2, 1047) := by decide +kernel
theorem fL_law_1047 : zf mL_law 1047 = some (.if_icmp .eq 5, 3, 1050) := by decide +kernel
theorem fL_law_1050 : zf mL_law 1050 = some (.iconst 0, 1, 1051) := by decide +kernel
theorem fL_law_1051 : zf mL_law 1051 = some (.ireturn, 1, 1052) := by decide +kernel
theorem fL_law_1052 : zf mL_law 1052 = some (.iload 6, 2, 1054) := by decide +kernel
theorem fL_law_1054 : zf mL_law 1054 = some (.ifCond .ne 15, 3, 1057) := by decide +kernel
theorem fL_law_1057 : zf mL_law 1057 = some (.aload_n 3, 1, 1058) := by decide +kernel
theorem fL_law_1058 : zf mL_law 1058 = some (.iconst 0, 1, 1059) := by decide +kernel
theorem fL_law_1059 : zf mL_law 1059 = some (.laload, 1, 1060) := by decide +kernel
theorem fL_law_1060 : zf mL_law 1060 = some (.iload 7, 2, 1062) := by decide +kernel
theorem fL_law_1062 : zf mL_law 1062 = some (.i2l, 1, 1063) := by decide +kernel
theorem fL_law_1063 : zf mL_law 1063 = some (.lcmp, 1, 1064) := by decide +kernel
theorem fL_law_1064 : zf mL_law 1064 = some (.ifCond .eq 5, 3, 1067) := by decide +kernel
theorem fL_law_1067 : zf mL_law 1067 = some (.iconst 0, 1, 1068) := by decide +kernel
theorem fL_law_1068 : zf mL_law 1068 = some (.ireturn, 1, 1069) := by decide +kernel
theorem fL_law_1069 : zf mL_law 1069 = some (.goto 1394, 3, 1072) := by decide +kernel
theorem fL_law_1072 : zf mL_law 1072 = some (.aload_n 1, 1, 1073) := by decide +kernel
theorem fL_law_1073 : zf mL_law 1073 = some (.aload_n 0, 1, 1074) := by decide +kernel
theorem fL_law_1074 : zf mL_law 1074 = some (.iload 5, 2, 1076) := by decide +kernel
theorem fL_law_1076 : zf mL_law 1076 = some (.iconst 1, 1, 1077) := by decide +kernel
theorem fL_law_1077 : zf mL_law 1077 = some (.iadd, 1, 1078) := by decide +kernel
theorem fL_law_1078 : zf mL_law 1078 = some (.iaload, 1, 1079) := by decide +kernel
theorem fL_law_1079 : zf mL_law 1079 = some (.aload_n 0, 1, 1080) := by decide +kernel
theorem fL_law_1080 : zf mL_law 1080 = some (.iload 5, 2, 1082) := by decide +kernel
theorem fL_law_1082 : zf mL_law 1082 = some (.iconst 2, 1, 1083) := by decide +kernel
theorem fL_law_1083 : zf mL_law 1083 = some (.iadd, 1, 1084) := by decide +kernel
theorem fL_law_1084 : zf mL_law 1084 = some (.iaload, 1, 1085) := by decide +kernel
theorem fL_law_1085 : zf mL_law 1085 = some (.aload_n 3, 1, 1086) := by decide +kernel
theorem fL_law_1086 : zf mL_law 1086 = some (.invokestatic 179, 3, 1089) := by decide +kernel
theorem fL_law_1089 : zf mL_law 1089 = some (.istore 6, 2, 1091) := by decide +kernel
theorem fL_law_1091 : zf mL_law 1091 = some (.aload_n 2, 1, 1092) := by decide +kernel
theorem fL_law_1092 : zf mL_law 1092 = some (.aload_n 0, 1, 1093) := by decide +kernel
theorem fL_law_1093 : zf mL_law 1093 = some (.iload 5, 2, 1095) := by decide +kernel
theorem fL_law_1095 : zf mL_law 1095 = some (.iconst 1, 1, 1096) := by decide +kernel
theorem fL_law_1096 : zf mL_law 1096 = some (.iadd, 1, 1097) := by decide +kernel
theorem fL_law_1097 : zf mL_law 1097 = some (.iaload, 1, 1098) := by decide +kernel
theorem fL_law_1098 : zf mL_law 1098 = some (.aload_n 0, 1, 1099) := by decide +kernel
theorem fL_law_1099 : zf mL_law 1099 = some (.iload 5, 2, 1101) := by decide +kernel
theorem fL_law_1101 : zf mL_law 1101 = some (.iconst 2, 1, 1102) := by decide +kernel
theorem fL_law_1102 : zf mL_law 1102 = some (.iadd, 1, 1103) := by decide +kernel
theorem fL_law_1103 : zf mL_law 1103 = some (.iaload, 1, 1104) := by decide +kernel
theorem fL_law_1104 : zf mL_law 1104 = some (.invokevirtual 181, 3, 1107) := by decide +kernel
theorem fL_law_1107 : zf mL_law 1107 = some (.istore 7, 2, 1109) := by decide +kernel
theorem fL_law_1109 : zf mL_law 1109 = some (.aload_n 2, 1, 1110) := by decide +kernel
theorem fL_law_1110 : zf mL_law 1110 = some (.invokevirtual 140, 3, 1113) := by decide +kernel
theorem fL_law_1113 : zf mL_law 1113 = some (.iload 6, 2, 1115) := by decide +kernel
theorem fL_law_1115 : zf mL_law 1115 = some (.if_icmp .eq 5, 3, 1118) := by decide +kernel
theorem fL_law_1118 : zf mL_law 1118 = some (.iconst 0, 1, 1119) := by decide +kernel
theorem fL_law_1119 : zf mL_law 1119 = some (.ireturn, 1, 1120) := by decide +kernel
theorem fL_law_1120 : zf mL_law 1120 = some (.iload 6, 2, 1122) := by decide +kernel
theorem fL_law_1122 : zf mL_law 1122 = some (.ifCond .ne 15, 3, 1125) := by decide +kernel
theorem fL_law_1125 : zf mL_law 1125 = some (.aload_n 3, 1, 1126) := by decide +kernel
theorem fL_law_1126 : zf mL_law 1126 = some (.iconst 0, 1, 1127) := by decide +kernel
theorem fL_law_1127 : zf mL_law 1127 = some (.laload, 1, 1128) := by decide +kernel
theorem fL_law_1128 : zf mL_law 1128 = some (.iload 7, 2, 1130) := by decide +kernel
theorem fL_law_1130 : zf mL_law 1130 = some (.i2l, 1, 1131) := by decide +kernel
theorem fL_law_1131 : zf mL_law 1131 = some (.lcmp, 1, 1132) := by decide +kernel
theorem fL_law_1132 : zf mL_law 1132 = some (.ifCond .eq 5, 3, 1135) := by decide +kernel
theorem fL_law_1135 : zf mL_law 1135 = some (.iconst 0, 1, 1136) := by decide +kernel
theorem fL_law_1136 : zf mL_law 1136 = some (.ireturn, 1, 1137) := by decide +kernel
theorem fL_law_1137 : zf mL_law 1137 = some (.goto 1326, 3, 1140) := by decide +kernel
theorem fL_law_1140 : zf mL_law 1140 = some (.aload_n 1, 1, 1141) := by decide +kernel
theorem fL_law_1141 : zf mL_law 1141 = some (.aload_n 0, 1, 1142) := by decide +kernel
theorem fL_law_1142 : zf mL_law 1142 = some (.iload 5, 2, 1144) := by decide +kernel
theorem fL_law_1144 : zf mL_law 1144 = some (.iconst 1, 1, 1145) := by decide +kernel
theorem fL_law_1145 : zf mL_law 1145 = some (.iadd, 1, 1146) := by decide +kernel
theorem fL_law_1146 : zf mL_law 1146 = some (.iaload, 1, 1147) := by decide +kernel
theorem fL_law_1147 : zf mL_law 1147 = some (.aload_n 0, 1, 1148) := by decide +kernel
theorem fL_law_1148 : zf mL_law 1148 = some (.iload 5, 2, 1150) := by decide +kernel
theorem fL_law_1150 : zf mL_law 1150 = some (.iconst 2, 1, 1151) := by decide +kernel
theorem fL_law_1151 : zf mL_law 1151 = some (.iadd, 1, 1152) := by decide +kernel
theorem fL_law_1152 : zf mL_law 1152 = some (.iaload, 1, 1153) := by decide +kernel
theorem fL_law_1153 : zf mL_law 1153 = some (.aload_n 3, 1, 1154) := by decide +kernel
theorem fL_law_1154 : zf mL_law 1154 = some (.invokestatic 182, 3, 1157) := by decide +kernel
theorem fL_law_1157 : zf mL_law 1157 = some (.istore 6, 2, 1159) := by decide +kernel
theorem fL_law_1159 : zf mL_law 1159 = some (.aload_n 2, 1, 1160) := by decide +kernel
theorem fL_law_1160 : zf mL_law 1160 = some (.aload_n 0, 1, 1161) := by decide +kernel
theorem fL_law_1161 : zf mL_law 1161 = some (.iload 5, 2, 1163) := by decide +kernel
theorem fL_law_1163 : zf mL_law 1163 = some (.iconst 1, 1, 1164) := by decide +kernel
theorem fL_law_1164 : zf mL_law 1164 = some (.iadd, 1, 1165) := by decide +kernel
theorem fL_law_1165 : zf mL_law 1165 = some (.iaload, 1, 1166) := by decide +kernel
theorem fL_law_1166 : zf mL_law 1166 = some (.aload_n 0, 1, 1167) := by decide +kernel
theorem fL_law_1167 : zf mL_law 1167 = some (.iload 5, 2, 1169) := by decide +kernel
theorem fL_law_1169 : zf mL_law 1169 = some (.iconst 2, 1, 1170) := by decide +kernel
theorem fL_law_1170 : zf mL_law 1170 = some (.iadd, 1, 1171) := by decide +kernel
theorem fL_law_1171 : zf mL_law 1171 = some (.iaload, 1, 1172) := by decide +kernel
theorem fL_law_1172 : zf mL_law 1172 = some (.invokevirtual 184, 3, 1175) := by decide +kernel
theorem fL_law_1175 : zf mL_law 1175 = some (.istore 7, 2, 1177) := by decide +kernel
theorem fL_law_1177 : zf mL_law 1177 = some (.aload_n 2, 1, 1178) := by decide +kernel
theorem fL_law_1178 : zf mL_law 1178 = some (.invokevirtual 140, 3, 1181) := by decide +kernel
theorem fL_law_1181 : zf mL_law 1181 = some (.iload 6, 2, 1183) := by decide +kernel
theorem fL_law_1183 : zf mL_law 1183 = some (.if_icmp .eq 5, 3, 1186) := by decide +kernel
theorem fL_law_1186 : zf mL_law 1186 = some (.iconst 0, 1, 1187) := by decide +kernel
theorem fL_law_1187 : zf mL_law 1187 = some (.ireturn, 1, 1188) := by decide +kernel
theorem fL_law_1188 : zf mL_law 1188 = some (.iload 6, 2, 1190) := by decide +kernel
theorem fL_law_1190 : zf mL_law 1190 = some (.ifCond .ne 15, 3, 1193) := by decide +kernel
theorem fL_law_1193 : zf mL_law 1193 = some (.aload_n 3, 1, 1194) := by decide +kernel
theorem fL_law_1194 : zf mL_law 1194 = some (.iconst 0, 1, 1195) := by decide +kernel
theorem fL_law_1195 : zf mL_law 1195 = some (.laload, 1, 1196) := by decide +kernel
theorem fL_law_1196 : zf mL_law 1196 = some (.iload 7, 2, 1198) := by decide +kernel
theorem fL_law_1198 : zf mL_law 1198 = some (.i2l, 1, 1199) := by decide +kernel
theorem fL_law_1199 : zf mL_law 1199 = some (.lcmp, 1, 1200) := by decide +kernel
theorem fL_law_1200 : zf mL_law 1200 = some (.ifCond .eq 5, 3, 1203) := by decide +kernel
theorem fL_law_1203 : zf mL_law 1203 = some (.iconst 0, 1, 1204) := by decide +kernel
theorem fL_law_1204 : zf mL_law 1204 = some (.ireturn, 1, 1205) := by decide +kernel
theorem fL_law_1205 : zf mL_law 1205 = some (.goto 1258, 3, 1208) := by decide +kernel
theorem fL_law_1208 : zf mL_law 1208 = some (.aload_n 1, 1, 1209) := by decide +kernel
theorem fL_law_1209 : zf mL_law 1209 = some (.aload_n 0, 1, 1210) := by decide +kernel
theorem fL_law_1210 : zf mL_law 1210 = some (.iload 5, 2, 1212) := by decide +kernel
theorem fL_law_1212 : zf mL_law 1212 = some (.iconst 1, 1, 1213) := by decide +kernel
theorem fL_law_1213 : zf mL_law 1213 = some (.iadd, 1, 1214) := by decide +kernel
theorem fL_law_1214 : zf mL_law 1214 = some (.iaload, 1, 1215) := by decide +kernel
theorem fL_law_1215 : zf mL_law 1215 = some (.aload_n 0, 1, 1216) := by decide +kernel
theorem fL_law_1216 : zf mL_law 1216 = some (.iload 5, 2, 1218) := by decide +kernel
theorem fL_law_1218 : zf mL_law 1218 = some (.iconst 2, 1, 1219) := by decide +kernel
theorem fL_law_1219 : zf mL_law 1219 = some (.iadd, 1, 1220) := by decide +kernel
theorem fL_law_1220 : zf mL_law 1220 = some (.iaload, 1, 1221) := by decide +kernel
theorem fL_law_1221 : zf mL_law 1221 = some (.aload_n 3, 1, 1222) := by decide +kernel
theorem fL_law_1222 : zf mL_law 1222 = some (.invokestatic 185, 3, 1225) := by decide +kernel
theorem fL_law_1225 : zf mL_law 1225 = some (.istore 6, 2, 1227) := by decide +kernel
theorem fL_law_1227 : zf mL_law 1227 = some (.aload_n 2, 1, 1228) := by decide +kernel
theorem fL_law_1228 : zf mL_law 1228 = some (.aload_n 0, 1, 1229) := by decide +kernel
theorem fL_law_1229 : zf mL_law 1229 = some (.iload 5, 2, 1231) := by decide +kernel
theorem fL_law_1231 : zf mL_law 1231 = some (.iconst 1, 1, 1232) := by decide +kernel
theorem fL_law_1232 : zf mL_law 1232 = some (.iadd, 1, 1233) := by decide +kernel
theorem fL_law_1233 : zf mL_law 1233 = some (.iaload, 1, 1234) := by decide +kernel
theorem fL_law_1234 : zf mL_law 1234 = some (.aload_n 0, 1, 1235) := by decide +kernel
theorem fL_law_1235 : zf mL_law 1235 = some (.iload 5, 2, 1237) := by decide +kernel
theorem fL_law_1237 : zf mL_law 1237 = some (.iconst 2, 1, 1238) := by decide +kernel
theorem fL_law_1238 : zf mL_law 1238 = some (.iadd, 1, 1239) := by decide +kernel
theorem fL_law_1239 : zf mL_law 1239 = some (.iaload, 1, 1240) := by decide +kernel
theorem fL_law_1240 : zf mL_law 1240 = some (.invokevirtual 187, 3, 1243) := by decide +kernel
theorem fL_law_1243 : zf mL_law 1243 = some (.istore 7, 2, 1245) := by decide +kernel
theorem fL_law_1245 : zf mL_law 1245 = some (.aload_n 2, 1, 1246) := by decide +kernel
theorem fL_law_1246 : zf mL_law 1246 = some (.invokevirtual 140, 3, 1249) := by decide +kernel
theorem fL_law_1249 : zf mL_law 1249 = some (.iload 6, 2, 1251) := by decide +kernel
theorem fL_law_1251 : zf mL_law 1251 = some (.if_icmp .eq 5, 3, 1254) := by decide +kernel
theorem fL_law_1254 : zf mL_law 1254 = some (.iconst 0, 1, 1255) := by decide +kernel
theorem fL_law_1255 : zf mL_law 1255 = some (.ireturn, 1, 1256) := by decide +kernel
theorem fL_law_1256 : zf mL_law 1256 = some (.iload 6, 2, 1258) := by decide +kernel
theorem fL_law_1258 : zf mL_law 1258 = some (.ifCond .ne 15, 3, 1261) := by decide +kernel
theorem fL_law_1261 : zf mL_law 1261 = some (.aload_n 3, 1, 1262) := by decide +kernel
theorem fL_law_1262 : zf mL_law 1262 = some (.iconst 0, 1, 1263) := by decide +kernel
theorem fL_law_1263 : zf mL_law 1263 = some (.laload, 1, 1264) := by decide +kernel
theorem fL_law_1264 : zf mL_law 1264 = some (.iload 7, 2, 1266) := by decide +kernel
theorem fL_law_1266 : zf mL_law 1266 = some (.i2l, 1, 1267) := by decide +kernel
theorem fL_law_1267 : zf mL_law 1267 = some (.lcmp, 1, 1268) := by decide +kernel
theorem fL_law_1268 : zf mL_law 1268 = some (.ifCond .eq 5, 3, 1271) := by decide +kernel
theorem fL_law_1271 : zf mL_law 1271 = some (.iconst 0, 1, 1272) := by decide +kernel
theorem fL_law_1272 : zf mL_law 1272 = some (.ireturn, 1, 1273) := by decide +kernel
theorem fL_law_1273 : zf mL_law 1273 = some (.goto 1190, 3, 1276) := by decide +kernel
theorem fL_law_1276 : zf mL_law 1276 = some (.aload_n 1, 1, 1277) := by decide +kernel
theorem fL_law_1277 : zf mL_law 1277 = some (.aload_n 0, 1, 1278) := by decide +kernel
theorem fL_law_1278 : zf mL_law 1278 = some (.iload 5, 2, 1280) := by decide +kernel
theorem fL_law_1280 : zf mL_law 1280 = some (.iconst 1, 1, 1281) := by decide +kernel
theorem fL_law_1281 : zf mL_law 1281 = some (.iadd, 1, 1282) := by decide +kernel
theorem fL_law_1282 : zf mL_law 1282 = some (.iaload, 1, 1283) := by decide +kernel
theorem fL_law_1283 : zf mL_law 1283 = some (.aload_n 0, 1, 1284) := by decide +kernel
theorem fL_law_1284 : zf mL_law 1284 = some (.iload 5, 2, 1286) := by decide +kernel
theorem fL_law_1286 : zf mL_law 1286 = some (.iconst 2, 1, 1287) := by decide +kernel
theorem fL_law_1287 : zf mL_law 1287 = some (.iadd, 1, 1288) := by decide +kernel
theorem fL_law_1288 : zf mL_law 1288 = some (.iaload, 1, 1289) := by decide +kernel
theorem fL_law_1289 : zf mL_law 1289 = some (.aload_n 3, 1, 1290) := by decide +kernel
theorem fL_law_1290 : zf mL_law 1290 = some (.invokestatic 188, 3, 1293) := by decide +kernel
theorem fL_law_1293 : zf mL_law 1293 = some (.istore 6, 2, 1295) := by decide +kernel
theorem fL_law_1295 : zf mL_law 1295 = some (.aload_n 2, 1, 1296) := by decide +kernel
theorem fL_law_1296 : zf mL_law 1296 = some (.aload_n 0, 1, 1297) := by decide +kernel
theorem fL_law_1297 : zf mL_law 1297 = some (.iload 5, 2, 1299) := by decide +kernel
theorem fL_law_1299 : zf mL_law 1299 = some (.iconst 1, 1, 1300) := by decide +kernel
theorem fL_law_1300 : zf mL_law 1300 = some (.iadd, 1, 1301) := by decide +kernel
theorem fL_law_1301 : zf mL_law 1301 = some (.iaload, 1, 1302) := by decide +kernel
theorem fL_law_1302 : zf mL_law 1302 = some (.aload_n 0, 1, 1303) := by decide +kernel
theorem fL_law_1303 : zf mL_law 1303 = some (.iload 5, 2, 1305) := by decide +kernel
theorem fL_law_1305 : zf mL_law 1305 = some (.iconst 2, 1, 1306) := by decide +kernel
theorem fL_law_1306 : zf mL_law 1306 = some (.iadd, 1, 1307) := by decide +kernel
theorem fL_law_1307 : zf mL_law 1307 = some (.iaload, 1, 1308) := by decide +kernel
theorem fL_law_1308 : zf mL_law 1308 = some (.invokevirtual 190, 3, 1311) := by decide +kernel
theorem fL_law_1311 : zf mL_law 1311 = some (.istore 7, 2, 1313) := by decide +kernel
theorem fL_law_1313 : zf mL_law 1313 = some (.aload_n 2, 1, 1314) := by decide +kernel
theorem fL_law_1314 : zf mL_law 1314 = some (.invokevirtual 140, 3, 1317) := by decide +kernel
theorem fL_law_1317 : zf mL_law 1317 = some (.iload 6, 2, 1319) := by decide +kernel
theorem fL_law_1319 : zf mL_law 1319 = some (.if_icmp .eq 5, 3, 1322) := by decide +kernel
theorem fL_law_1322 : zf mL_law 1322 = some (.iconst 0, 1, 1323) := by decide +kernel
theorem fL_law_1323 : zf mL_law 1323 = some (.ireturn, 1, 1324) := by decide +kernel
theorem fL_law_1324 : zf mL_law 1324 = some (.iload 6, 2, 1326) := by decide +kernel
theorem fL_law_1326 : zf mL_law 1326 = some (.ifCond .ne 15, 3, 1329) := by decide +kernel
theorem fL_law_1329 : zf mL_law 1329 = some (.aload_n 3, 1, 1330) := by decide +kernel
theorem fL_law_1330 : zf mL_law 1330 = some (.iconst 0, 1, 1331) := by decide +kernel
theorem fL_law_1331 : zf mL_law 1331 = some (.laload, 1, 1332) := by decide +kernel
theorem fL_law_1332 : zf mL_law 1332 = some (.iload 7, 2, 1334) := by decide +kernel
theorem fL_law_1334 : zf mL_law 1334 = some (.i2l, 1, 1335) := by decide +kernel
theorem fL_law_1335 : zf mL_law 1335 = some (.lcmp, 1, 1336) := by decide +kernel
theorem fL_law_1336 : zf mL_law 1336 = some (.ifCond .eq 5, 3, 1339) := by decide +kernel
theorem fL_law_1339 : zf mL_law 1339 = some (.iconst 0, 1, 1340) := by decide +kernel
theorem fL_law_1340 : zf mL_law 1340 = some (.ireturn, 1, 1341) := by decide +kernel
theorem fL_law_1341 : zf mL_law 1341 = some (.goto 1122, 3, 1344) := by decide +kernel
theorem fL_law_1344 : zf mL_law 1344 = some (.aload_n 1, 1, 1345) := by decide +kernel
theorem fL_law_1345 : zf mL_law 1345 = some (.aload_n 0, 1, 1346) := by decide +kernel
theorem fL_law_1346 : zf mL_law 1346 = some (.iload 5, 2, 1348) := by decide +kernel
theorem fL_law_1348 : zf mL_law 1348 = some (.iconst 1, 1, 1349) := by decide +kernel
theorem fL_law_1349 : zf mL_law 1349 = some (.iadd, 1, 1350) := by decide +kernel
theorem fL_law_1350 : zf mL_law 1350 = some (.iaload, 1, 1351) := by decide +kernel
theorem fL_law_1351 : zf mL_law 1351 = some (.aload_n 0, 1, 1352) := by decide +kernel
theorem fL_law_1352 : zf mL_law 1352 = some (.iload 5, 2, 1354) := by decide +kernel
theorem fL_law_1354 : zf mL_law 1354 = some (.iconst 2, 1, 1355) := by decide +kernel
theorem fL_law_1355 : zf mL_law 1355 = some (.iadd, 1, 1356) := by decide +kernel
theorem fL_law_1356 : zf mL_law 1356 = some (.iaload, 1, 1357) := by decide +kernel
theorem fL_law_1357 : zf mL_law 1357 = some (.aload_n 3, 1, 1358) := by decide +kernel
theorem fL_law_1358 : zf mL_law 1358 = some (.invokestatic 191, 3, 1361) := by decide +kernel
theorem fL_law_1361 : zf mL_law 1361 = some (.istore 6, 2, 1363) := by decide +kernel
theorem fL_law_1363 : zf mL_law 1363 = some (.aload_n 2, 1, 1364) := by decide +kernel
theorem fL_law_1364 : zf mL_law 1364 = some (.aload_n 0, 1, 1365) := by decide +kernel
theorem fL_law_1365 : zf mL_law 1365 = some (.iload 5, 2, 1367) := by decide +kernel
theorem fL_law_1367 : zf mL_law 1367 = some (.iconst 1, 1, 1368) := by decide +kernel
theorem fL_law_1368 : zf mL_law 1368 = some (.iadd, 1, 1369) := by decide +kernel
theorem fL_law_1369 : zf mL_law 1369 = some (.iaload, 1, 1370) := by decide +kernel
theorem fL_law_1370 : zf mL_law 1370 = some (.aload_n 0, 1, 1371) := by decide +kernel
theorem fL_law_1371 : zf mL_law 1371 = some (.iload 5, 2, 1373) := by decide +kernel
theorem fL_law_1373 : zf mL_law 1373 = some (.iconst 2, 1, 1374) := by decide +kernel
theorem fL_law_1374 : zf mL_law 1374 = some (.iadd, 1, 1375) := by decide +kernel
theorem fL_law_1375 : zf mL_law 1375 = some (.iaload, 1, 1376) := by decide +kernel
theorem fL_law_1376 : zf mL_law 1376 = some (.invokevirtual 193, 3, 1379) := by decide +kernel
theorem fL_law_1379 : zf mL_law 1379 = some (.istore 7, 2, 1381) := by decide +kernel
theorem fL_law_1381 : zf mL_law 1381 = some (.aload_n 2, 1, 1382) := by decide +kernel
theorem fL_law_1382 : zf mL_law 1382 = some (.invokevirtual 140, 3, 1385) := by decide +kernel
theorem fL_law_1385 : zf mL_law 1385 = some (.iload 6, 2, 1387) := by decide +kernel
theorem fL_law_1387 : zf mL_law 1387 = some (.if_icmp .eq 5, 3, 1390) := by decide +kernel
theorem fL_law_1390 : zf mL_law 1390 = some (.iconst 0, 1, 1391) := by decide +kernel
theorem fL_law_1391 : zf mL_law 1391 = some (.ireturn, 1, 1392) := by decide +kernel
theorem fL_law_1392 : zf mL_law 1392 = some (.iload 6, 2, 1394) := by decide +kernel
theorem fL_law_1394 : zf mL_law 1394 = some (.ifCond .ne 15, 3, 1397) := by decide +kernel
theorem fL_law_1397 : zf mL_law 1397 = some (.aload_n 3, 1, 1398) := by decide +kernel
theorem fL_law_1398 : zf mL_law 1398 = some (.iconst 0, 1, 1399) := by decide +kernel
theorem fL_law_1399 : zf mL_law 1399 = some (.laload, 1, 1400) := by decide +kernel
theorem fL_law_1400 : zf mL_law 1400 = some (.iload 7, 2, 1402) := by decide +kernel
theorem fL_law_1402 : zf mL_law 1402 = some (.i2l, 1, 1403) := by decide +kernel
theorem fL_law_1403 : zf mL_law 1403 = some (.lcmp, 1, 1404) := by decide +kernel
theorem fL_law_1404 : zf mL_law 1404 = some (.ifCond .eq 5, 3, 1407) := by decide +kernel
theorem fL_law_1407 : zf mL_law 1407 = some (.iconst 0, 1, 1408) := by decide +kernel
theorem fL_law_1408 : zf mL_law 1408 = some (.ireturn, 1, 1409) := by decide +kernel
theorem fL_law_1409 : zf mL_law 1409 = some (.goto 1054, 3, 1412) := by decide +kernel
theorem fL_law_1412 : zf mL_law 1412 = some (.aload_n 1, 1, 1413) := by decide +kernel
theorem fL_law_1413 : zf mL_law 1413 = some (.aload_n 0, 1, 1414) := by decide +kernel
theorem fL_law_1414 : zf mL_law 1414 = some (.iload 5, 2, 1416) := by decide +kernel
theorem fL_law_1416 : zf mL_law 1416 = some (.iconst 1, 1, 1417) := by decide +kernel
theorem fL_law_1417 : zf mL_law 1417 = some (.iadd, 1, 1418) := by decide +kernel
theorem fL_law_1418 : zf mL_law 1418 = some (.iaload, 1, 1419) := by decide +kernel
theorem fL_law_1419 : zf mL_law 1419 = some (.aload_n 0, 1, 1420) := by decide +kernel
theorem fL_law_1420 : zf mL_law 1420 = some (.iload 5, 2, 1422) := by decide +kernel
theorem fL_law_1422 : zf mL_law 1422 = some (.iconst 2, 1, 1423) := by decide +kernel
theorem fL_law_1423 : zf mL_law 1423 = some (.iadd, 1, 1424) := by decide +kernel
theorem fL_law_1424 : zf mL_law 1424 = some (.iaload, 1, 1425) := by decide +kernel
theorem fL_law_1425 : zf mL_law 1425 = some (.aload_n 3, 1, 1426) := by decide +kernel
theorem fL_law_1426 : zf mL_law 1426 = some (.invokestatic 194, 3, 1429) := by decide +kernel
theorem fL_law_1429 : zf mL_law 1429 = some (.istore 6, 2, 1431) := by decide +kernel
theorem fL_law_1431 : zf mL_law 1431 = some (.aload_n 2, 1, 1432) := by decide +kernel
theorem fL_law_1432 : zf mL_law 1432 = some (.aload_n 0, 1, 1433) := by decide +kernel
theorem fL_law_1433 : zf mL_law 1433 = some (.iload 5, 2, 1435) := by decide +kernel
theorem fL_law_1435 : zf mL_law 1435 = some (.iconst 1, 1, 1436) := by decide +kernel
theorem fL_law_1436 : zf mL_law 1436 = some (.iadd, 1, 1437) := by decide +kernel
theorem fL_law_1437 : zf mL_law 1437 = some (.iaload, 1, 1438) := by decide +kernel
theorem fL_law_1438 : zf mL_law 1438 = some (.aload_n 0, 1, 1439) := by decide +kernel
theorem fL_law_1439 : zf mL_law 1439 = some (.iload 5, 2, 1441) := by decide +kernel
theorem fL_law_1441 : zf mL_law 1441 = some (.iconst 2, 1, 1442) := by decide +kernel
theorem fL_law_1442 : zf mL_law 1442 = some (.iadd, 1, 1443) := by decide +kernel
theorem fL_law_1443 : zf mL_law 1443 = some (.iaload, 1, 1444) := by decide +kernel
theorem fL_law_1444 : zf mL_law 1444 = some (.invokevirtual 196, 3, 1447) := by decide +kernel
theorem fL_law_1447 : zf mL_law 1447 = some (.istore 7, 2, 1449) := by decide +kernel
theorem fL_law_1449 : zf mL_law 1449 = some (.aload_n 2, 1, 1450) := by decide +kernel
theorem fL_law_1450 : zf mL_law 1450 = some (.invokevirtual 140, 3, 1453) := by decide +kernel
theorem fL_law_1453 : zf mL_law 1453 = some (.iload 6, 2, 1455) := by decide +kernel
theorem fL_law_1455 : zf mL_law 1455 = some (.if_icmp .eq 5, 3, 1458) := by decide +kernel
theorem fL_law_1458 : zf mL_law 1458 = some (.iconst 0, 1, 1459) := by decide +kernel
theorem fL_law_1459 : zf mL_law 1459 = some (.ireturn, 1, 1460) := by decide +kernel
theorem fL_law_1460 : zf mL_law 1460 = some (.iload 6, 2, 1462) := by decide +kernel
theorem fL_law_1462 : zf mL_law 1462 = some (.ifCond .ne 15, 3, 1465) := by decide +kernel
theorem fL_law_1465 : zf mL_law 1465 = some (.aload_n 3, 1, 1466) := by decide +kernel
theorem fL_law_1466 : zf mL_law 1466 = some (.iconst 0, 1, 1467) := by decide +kernel
theorem fL_law_1467 : zf mL_law 1467 = some (.laload, 1, 1468) := by decide +kernel
theorem fL_law_1468 : zf mL_law 1468 = some (.iload 7, 2, 1470) := by decide +kernel
theorem fL_law_1470 : zf mL_law 1470 = some (.i2l, 1, 1471) := by decide +kernel
theorem fL_law_1471 : zf mL_law 1471 = some (.lcmp, 1, 1472) := by decide +kernel
theorem fL_law_1472 : zf mL_law 1472 = some (.ifCond .eq 5, 3, 1475) := by decide +kernel
theorem fL_law_1475 : zf mL_law 1475 = some (.iconst 0, 1, 1476) := by decide +kernel
theorem fL_law_1476 : zf mL_law 1476 = some (.ireturn, 1, 1477) := by decide +kernel
theorem fL_law_1477 : zf mL_law 1477 = some (.goto 986, 3, 1480) := by decide +kernel
theorem fL_law_1480 : zf mL_law 1480 = some (.aload_n 1, 1, 1481) := by decide +kernel
theorem fL_law_1481 : zf mL_law 1481 = some (.aload_n 0, 1, 1482) := by decide +kernel
theorem fL_law_1482 : zf mL_law 1482 = some (.iload 5, 2, 1484) := by decide +kernel
theorem fL_law_1484 : zf mL_law 1484 = some (.iconst 1, 1, 1485) := by decide +kernel
theorem fL_law_1485 : zf mL_law 1485 = some (.iadd, 1, 1486) := by decide +kernel
theorem fL_law_1486 : zf mL_law 1486 = some (.iaload, 1, 1487) := by decide +kernel
theorem fL_law_1487 : zf mL_law 1487 = some (.aload_n 0, 1, 1488) := by decide +kernel
theorem fL_law_1488 : zf mL_law 1488 = some (.iload 5, 2, 1490) := by decide +kernel
theorem fL_law_1490 : zf mL_law 1490 = some (.iconst 2, 1, 1491) := by decide +kernel
theorem fL_law_1491 : zf mL_law 1491 = some (.iadd, 1, 1492) := by decide +kernel
theorem fL_law_1492 : zf mL_law 1492 = some (.iaload, 1, 1493) := by decide +kernel
theorem fL_law_1493 : zf mL_law 1493 = some (.aload_n 3, 1, 1494) := by decide +kernel
theorem fL_law_1494 : zf mL_law 1494 = some (.invokestatic 197, 3, 1497) := by decide +kernel
theorem fL_law_1497 : zf mL_law 1497 = some (.istore 6, 2, 1499) := by decide +kernel
theorem fL_law_1499 : zf mL_law 1499 = some (.aload_n 2, 1, 1500) := by decide +kernel
theorem fL_law_1500 : zf mL_law 1500 = some (.aload_n 0, 1, 1501) := by decide +kernel
theorem fL_law_1501 : zf mL_law 1501 = some (.iload 5, 2, 1503) := by decide +kernel
theorem fL_law_1503 : zf mL_law 1503 = some (.iconst 1, 1, 1504) := by decide +kernel
theorem fL_law_1504 : zf mL_law 1504 = some (.iadd, 1, 1505) := by decide +kernel
theorem fL_law_1505 : zf mL_law 1505 = some (.iaload, 1, 1506) := by decide +kernel
theorem fL_law_1506 : zf mL_law 1506 = some (.aload_n 0, 1, 1507) := by decide +kernel
theorem fL_law_1507 : zf mL_law 1507 = some (.iload 5, 2, 1509) := by decide +kernel
theorem fL_law_1509 : zf mL_law 1509 = some (.iconst 2, 1, 1510) := by decide +kernel
theorem fL_law_1510 : zf mL_law 1510 = some (.iadd, 1, 1511) := by decide +kernel
theorem fL_law_1511 : zf mL_law 1511 = some (.iaload, 1, 1512) := by decide +kernel
theorem fL_law_1512 : zf mL_law 1512 = some (.invokevirtual 199, 3, 1515) := by decide +kernel
theorem fL_law_1515 : zf mL_law 1515 = some (.istore 7, 2, 1517) := by decide +kernel
theorem fL_law_1517 : zf mL_law 1517 = some (.aload_n 2, 1, 1518) := by decide +kernel
theorem fL_law_1518 : zf mL_law 1518 = some (.invokevirtual 140, 3, 1521) := by decide +kernel
theorem fL_law_1521 : zf mL_law 1521 = some (.iload 6, 2, 1523) := by decide +kernel
theorem fL_law_1523 : zf mL_law 1523 = some (.if_icmp .eq 5, 3, 1526) := by decide +kernel
theorem fL_law_1526 : zf mL_law 1526 = some (.iconst 0, 1, 1527) := by decide +kernel
theorem fL_law_1527 : zf mL_law 1527 = some (.ireturn, 1, 1528) := by decide +kernel
theorem fL_law_1528 : zf mL_law 1528 = some (.iload 6, 2, 1530) := by decide +kernel
theorem fL_law_1530 : zf mL_law 1530 = some (.ifCond .ne 22, 3, 1533) := by decide +kernel
theorem fL_law_1533 : zf mL_law 1533 = some (.aload_n 3, 1, 1534) := by decide +kernel
theorem fL_law_1534 : zf mL_law 1534 = some (.iconst 0, 1, 1535) := by decide +kernel
theorem fL_law_1535 : zf mL_law 1535 = some (.laload, 1, 1536) := by decide +kernel
theorem fL_law_1536 : zf mL_law 1536 = some (.iload 7, 2, 1538) := by decide +kernel
theorem fL_law_1538 : zf mL_law 1538 = some (.ifCond .eq 7, 3, 1541) := by decide +kernel
theorem fL_law_1541 : zf mL_law 1541 = some (.lconst 1, 1, 1542) := by decide +kernel
theorem fL_law_1542 : zf mL_law 1542 = some (.goto 4, 3, 1545) := by decide +kernel
theorem fL_law_1545 : zf mL_law 1545 = some (.lconst 0, 1, 1546) := by decide +kernel
theorem fL_law_1546 : zf mL_law 1546 = some (.lcmp, 1, 1547) := by decide +kernel
theorem fL_law_1547 : zf mL_law 1547 = some (.ifCond .eq 5, 3, 1550) := by decide +kernel
theorem fL_law_1550 : zf mL_law 1550 = some (.iconst 0, 1, 1551) := by decide +kernel
theorem fL_law_1551 : zf mL_law 1551 = some (.ireturn, 1, 1552) := by decide +kernel
theorem fL_law_1552 : zf mL_law 1552 = some (.goto 911, 3, 1555) := by decide +kernel
theorem fL_law_1555 : zf mL_law 1555 = some (.aload_n 1, 1, 1556) := by decide +kernel
theorem fL_law_1556 : zf mL_law 1556 = some (.aload_n 0, 1, 1557) := by decide +kernel
theorem fL_law_1557 : zf mL_law 1557 = some (.iload 5, 2, 1559) := by decide +kernel
theorem fL_law_1559 : zf mL_law 1559 = some (.iconst 1, 1, 1560) := by decide +kernel
theorem fL_law_1560 : zf mL_law 1560 = some (.iadd, 1, 1561) := by decide +kernel
theorem fL_law_1561 : zf mL_law 1561 = some (.iaload, 1, 1562) := by decide +kernel
theorem fL_law_1562 : zf mL_law 1562 = some (.aload_n 0, 1, 1563) := by decide +kernel
theorem fL_law_1563 : zf mL_law 1563 = some (.iload 5, 2, 1565) := by decide +kernel
theorem fL_law_1565 : zf mL_law 1565 = some (.iconst 2, 1, 1566) := by decide +kernel
theorem fL_law_1566 : zf mL_law 1566 = some (.iadd, 1, 1567) := by decide +kernel
theorem fL_law_1567 : zf mL_law 1567 = some (.iaload, 1, 1568) := by decide +kernel
theorem fL_law_1568 : zf mL_law 1568 = some (.aload_n 3, 1, 1569) := by decide +kernel
theorem fL_law_1569 : zf mL_law 1569 = some (.invokestatic 200, 3, 1572) := by decide +kernel
theorem fL_law_1572 : zf mL_law 1572 = some (.istore 6, 2, 1574) := by decide +kernel
theorem fL_law_1574 : zf mL_law 1574 = some (.aload_n 2, 1, 1575) := by decide +kernel
theorem fL_law_1575 : zf mL_law 1575 = some (.aload_n 0, 1, 1576) := by decide +kernel
theorem fL_law_1576 : zf mL_law 1576 = some (.iload 5, 2, 1578) := by decide +kernel
theorem fL_law_1578 : zf mL_law 1578 = some (.iconst 1, 1, 1579) := by decide +kernel
theorem fL_law_1579 : zf mL_law 1579 = some (.iadd, 1, 1580) := by decide +kernel
theorem fL_law_1580 : zf mL_law 1580 = some (.iaload, 1, 1581) := by decide +kernel
theorem fL_law_1581 : zf mL_law 1581 = some (.aload_n 0, 1, 1582) := by decide +kernel
theorem fL_law_1582 : zf mL_law 1582 = some (.iload 5, 2, 1584) := by decide +kernel
theorem fL_law_1584 : zf mL_law 1584 = some (.iconst 2, 1, 1585) := by decide +kernel
theorem fL_law_1585 : zf mL_law 1585 = some (.iadd, 1, 1586) := by decide +kernel
theorem fL_law_1586 : zf mL_law 1586 = some (.iaload, 1, 1587) := by decide +kernel
theorem fL_law_1587 : zf mL_law 1587 = some (.invokevirtual 202, 3, 1590) := by decide +kernel
theorem fL_law_1590 : zf mL_law 1590 = some (.istore 7, 2, 1592) := by decide +kernel
theorem fL_law_1592 : zf mL_law 1592 = some (.aload_n 2, 1, 1593) := by decide +kernel
theorem fL_law_1593 : zf mL_law 1593 = some (.invokevirtual 140, 3, 1596) := by decide +kernel
theorem fL_law_1596 : zf mL_law 1596 = some (.iload 6, 2, 1598) := by decide +kernel
theorem fL_law_1598 : zf mL_law 1598 = some (.if_icmp .eq 5, 3, 1601) := by decide +kernel
theorem fL_law_1601 : zf mL_law 1601 = some (.iconst 0, 1, 1602) := by decide +kernel
theorem fL_law_1602 : zf mL_law 1602 = some (.ireturn, 1, 1603) := by decide +kernel
theorem fL_law_1603 : zf mL_law 1603 = some (.iload 6, 2, 1605) := by decide +kernel
theorem fL_law_1605 : zf mL_law 1605 = some (.ifCond .ne 15, 3, 1608) := by decide +kernel
theorem fL_law_1608 : zf mL_law 1608 = some (.aload_n 3, 1, 1609) := by decide +kernel
theorem fL_law_1609 : zf mL_law 1609 = some (.iconst 0, 1, 1610) := by decide +kernel
theorem fL_law_1610 : zf mL_law 1610 = some (.laload, 1, 1611) := by decide +kernel
theorem fL_law_1611 : zf mL_law 1611 = some (.iload 7, 2, 1613) := by decide +kernel
theorem fL_law_1613 : zf mL_law 1613 = some (.i2l, 1, 1614) := by decide +kernel
theorem fL_law_1614 : zf mL_law 1614 = some (.lcmp, 1, 1615) := by decide +kernel
theorem fL_law_1615 : zf mL_law 1615 = some (.ifCond .eq 5, 3, 1618) := by decide +kernel
theorem fL_law_1618 : zf mL_law 1618 = some (.iconst 0, 1, 1619) := by decide +kernel
theorem fL_law_1619 : zf mL_law 1619 = some (.ireturn, 1, 1620) := by decide +kernel
theorem fL_law_1620 : zf mL_law 1620 = some (.goto 843, 3, 1623) := by decide +kernel
theorem fL_law_1623 : zf mL_law 1623 = some (.aload_n 1, 1, 1624) := by decide +kernel
theorem fL_law_1624 : zf mL_law 1624 = some (.aload_n 0, 1, 1625) := by decide +kernel
theorem fL_law_1625 : zf mL_law 1625 = some (.iload 5, 2, 1627) := by decide +kernel
theorem fL_law_1627 : zf mL_law 1627 = some (.iconst 1, 1, 1628) := by decide +kernel
theorem fL_law_1628 : zf mL_law 1628 = some (.iadd, 1, 1629) := by decide +kernel
theorem fL_law_1629 : zf mL_law 1629 = some (.iaload, 1, 1630) := by decide +kernel
theorem fL_law_1630 : zf mL_law 1630 = some (.aload_n 0, 1, 1631) := by decide +kernel
theorem fL_law_1631 : zf mL_law 1631 = some (.iload 5, 2, 1633) := by decide +kernel
theorem fL_law_1633 : zf mL_law 1633 = some (.iconst 2, 1, 1634) := by decide +kernel
theorem fL_law_1634 : zf mL_law 1634 = some (.iadd, 1, 1635) := by decide +kernel
theorem fL_law_1635 : zf mL_law 1635 = some (.iaload, 1, 1636) := by decide +kernel
theorem fL_law_1636 : zf mL_law 1636 = some (.aload_n 3, 1, 1637) := by decide +kernel
theorem fL_law_1637 : zf mL_law 1637 = some (.invokestatic 203, 3, 1640) := by decide +kernel
theorem fL_law_1640 : zf mL_law 1640 = some (.istore 6, 2, 1642) := by decide +kernel
theorem fL_law_1642 : zf mL_law 1642 = some (.aload_n 2, 1, 1643) := by decide +kernel
theorem fL_law_1643 : zf mL_law 1643 = some (.aload_n 0, 1, 1644) := by decide +kernel
theorem fL_law_1644 : zf mL_law 1644 = some (.iload 5, 2, 1646) := by decide +kernel
theorem fL_law_1646 : zf mL_law 1646 = some (.iconst 1, 1, 1647) := by decide +kernel
theorem fL_law_1647 : zf mL_law 1647 = some (.iadd, 1, 1648) := by decide +kernel
theorem fL_law_1648 : zf mL_law 1648 = some (.iaload, 1, 1649) := by decide +kernel
theorem fL_law_1649 : zf mL_law 1649 = some (.aload_n 0, 1, 1650) := by decide +kernel
theorem fL_law_1650 : zf mL_law 1650 = some (.iload 5, 2, 1652) := by decide +kernel
theorem fL_law_1652 : zf mL_law 1652 = some (.iconst 2, 1, 1653) := by decide +kernel
theorem fL_law_1653 : zf mL_law 1653 = some (.iadd, 1, 1654) := by decide +kernel
theorem fL_law_1654 : zf mL_law 1654 = some (.iaload, 1, 1655) := by decide +kernel
theorem fL_law_1655 : zf mL_law 1655 = some (.invokevirtual 205, 3, 1658) := by decide +kernel
theorem fL_law_1658 : zf mL_law 1658 = some (.istore 7, 2, 1660) := by decide +kernel
theorem fL_law_1660 : zf mL_law 1660 = some (.aload_n 2, 1, 1661) := by decide +kernel
theorem fL_law_1661 : zf mL_law 1661 = some (.invokevirtual 140, 3, 1664) := by decide +kernel
theorem fL_law_1664 : zf mL_law 1664 = some (.iload 6, 2, 1666) := by decide +kernel
theorem fL_law_1666 : zf mL_law 1666 = some (.if_icmp .eq 5, 3, 1669) := by decide +kernel
theorem fL_law_1669 : zf mL_law 1669 = some (.iconst 0, 1, 1670) := by decide +kernel
theorem fL_law_1670 : zf mL_law 1670 = some (.ireturn, 1, 1671) := by decide +kernel
theorem fL_law_1671 : zf mL_law 1671 = some (.iload 6, 2, 1673) := by decide +kernel
theorem fL_law_1673 : zf mL_law 1673 = some (.ifCond .ne 15, 3, 1676) := by decide +kernel
theorem fL_law_1676 : zf mL_law 1676 = some (.aload_n 3, 1, 1677) := by decide +kernel
theorem fL_law_1677 : zf mL_law 1677 = some (.iconst 0, 1, 1678) := by decide +kernel
theorem fL_law_1678 : zf mL_law 1678 = some (.laload, 1, 1679) := by decide +kernel
theorem fL_law_1679 : zf mL_law 1679 = some (.iload 7, 2, 1681) := by decide +kernel
theorem fL_law_1681 : zf mL_law 1681 = some (.i2l, 1, 1682) := by decide +kernel
theorem fL_law_1682 : zf mL_law 1682 = some (.lcmp, 1, 1683) := by decide +kernel
theorem fL_law_1683 : zf mL_law 1683 = some (.ifCond .eq 5, 3, 1686) := by decide +kernel
theorem fL_law_1686 : zf mL_law 1686 = some (.iconst 0, 1, 1687) := by decide +kernel
theorem fL_law_1687 : zf mL_law 1687 = some (.ireturn, 1, 1688) := by decide +kernel
theorem fL_law_1688 : zf mL_law 1688 = some (.goto 775, 3, 1691) := by decide +kernel
theorem fL_law_1691 : zf mL_law 1691 = some (.aload_n 1, 1, 1692) := by decide +kernel
theorem fL_law_1692 : zf mL_law 1692 = some (.aload_n 0, 1, 1693) := by decide +kernel
theorem fL_law_1693 : zf mL_law 1693 = some (.iload 5, 2, 1695) := by decide +kernel
theorem fL_law_1695 : zf mL_law 1695 = some (.iconst 1, 1, 1696) := by decide +kernel
theorem fL_law_1696 : zf mL_law 1696 = some (.iadd, 1, 1697) := by decide +kernel
theorem fL_law_1697 : zf mL_law 1697 = some (.iaload, 1, 1698) := by decide +kernel
theorem fL_law_1698 : zf mL_law 1698 = some (.aload_n 3, 1, 1699) := by decide +kernel
theorem fL_law_1699 : zf mL_law 1699 = some (.invokestatic 206, 3, 1702) := by decide +kernel
theorem fL_law_1702 : zf mL_law 1702 = some (.istore 6, 2, 1704) := by decide +kernel
theorem fL_law_1704 : zf mL_law 1704 = some (.aload_n 2, 1, 1705) := by decide +kernel
theorem fL_law_1705 : zf mL_law 1705 = some (.aload_n 0, 1, 1706) := by decide +kernel
theorem fL_law_1706 : zf mL_law 1706 = some (.iload 5, 2, 1708) := by decide +kernel
theorem fL_law_1708 : zf mL_law 1708 = some (.iconst 1, 1, 1709) := by decide +kernel
theorem fL_law_1709 : zf mL_law 1709 = some (.iadd, 1, 1710) := by decide +kernel
theorem fL_law_1710 : zf mL_law 1710 = some (.iaload, 1, 1711) := by decide +kernel
theorem fL_law_1711 : zf mL_law 1711 = some (.invokevirtual 208, 3, 1714) := by decide +kernel
theorem fL_law_1714 : zf mL_law 1714 = some (.istore 7, 2, 1716) := by decide +kernel
theorem fL_law_1716 : zf mL_law 1716 = some (.aload_n 2, 1, 1717) := by decide +kernel
theorem fL_law_1717 : zf mL_law 1717 = some (.invokevirtual 140, 3, 1720) := by decide +kernel
theorem fL_law_1720 : zf mL_law 1720 = some (.iload 6, 2, 1722) := by decide +kernel
theorem fL_law_1722 : zf mL_law 1722 = some (.if_icmp .eq 5, 3, 1725) := by decide +kernel
theorem fL_law_1725 : zf mL_law 1725 = some (.iconst 0, 1, 1726) := by decide +kernel
theorem fL_law_1726 : zf mL_law 1726 = some (.ireturn, 1, 1727) := by decide +kernel
theorem fL_law_1727 : zf mL_law 1727 = some (.iload 6, 2, 1729) := by decide +kernel
theorem fL_law_1729 : zf mL_law 1729 = some (.ifCond .ne 15, 3, 1732) := by decide +kernel
theorem fL_law_1732 : zf mL_law 1732 = some (.aload_n 3, 1, 1733) := by decide +kernel
theorem fL_law_1733 : zf mL_law 1733 = some (.iconst 0, 1, 1734) := by decide +kernel
theorem fL_law_1734 : zf mL_law 1734 = some (.laload, 1, 1735) := by decide +kernel
theorem fL_law_1735 : zf mL_law 1735 = some (.iload 7, 2, 1737) := by decide +kernel
theorem fL_law_1737 : zf mL_law 1737 = some (.i2l, 1, 1738) := by decide +kernel
theorem fL_law_1738 : zf mL_law 1738 = some (.lcmp, 1, 1739) := by decide +kernel
theorem fL_law_1739 : zf mL_law 1739 = some (.ifCond .eq 5, 3, 1742) := by decide +kernel
theorem fL_law_1742 : zf mL_law 1742 = some (.iconst 0, 1, 1743) := by decide +kernel
theorem fL_law_1743 : zf mL_law 1743 = some (.ireturn, 1, 1744) := by decide +kernel
theorem fL_law_1744 : zf mL_law 1744 = some (.goto 719, 3, 1747) := by decide +kernel
theorem fL_law_1747 : zf mL_law 1747 = some (.aload_n 1, 1, 1748) := by decide +kernel
theorem fL_law_1748 : zf mL_law 1748 = some (.aload_n 0, 1, 1749) := by decide +kernel
theorem fL_law_1749 : zf mL_law 1749 = some (.iload 5, 2, 1751) := by decide +kernel
theorem fL_law_1751 : zf mL_law 1751 = some (.iconst 1, 1, 1752) := by decide +kernel
theorem fL_law_1752 : zf mL_law 1752 = some (.iadd, 1, 1753) := by decide +kernel
theorem fL_law_1753 : zf mL_law 1753 = some (.iaload, 1, 1754) := by decide +kernel
theorem fL_law_1754 : zf mL_law 1754 = some (.aload_n 3, 1, 1755) := by decide +kernel
theorem fL_law_1755 : zf mL_law 1755 = some (.invokestatic 209, 3, 1758) := by decide +kernel
theorem fL_law_1758 : zf mL_law 1758 = some (.istore 6, 2, 1760) := by decide +kernel
theorem fL_law_1760 : zf mL_law 1760 = some (.aload_n 2, 1, 1761) := by decide +kernel
theorem fL_law_1761 : zf mL_law 1761 = some (.aload_n 0, 1, 1762) := by decide +kernel
theorem fL_law_1762 : zf mL_law 1762 = some (.iload 5, 2, 1764) := by decide +kernel
theorem fL_law_1764 : zf mL_law 1764 = some (.iconst 1, 1, 1765) := by decide +kernel
theorem fL_law_1765 : zf mL_law 1765 = some (.iadd, 1, 1766) := by decide +kernel
theorem fL_law_1766 : zf mL_law 1766 = some (.iaload, 1, 1767) := by decide +kernel
theorem fL_law_1767 : zf mL_law 1767 = some (.invokevirtual 211, 3, 1770) := by decide +kernel
theorem fL_law_1770 : zf mL_law 1770 = some (.istore 7, 2, 1772) := by decide +kernel
theorem fL_law_1772 : zf mL_law 1772 = some (.aload_n 2, 1, 1773) := by decide +kernel
theorem fL_law_1773 : zf mL_law 1773 = some (.invokevirtual 140, 3, 1776) := by decide +kernel
theorem fL_law_1776 : zf mL_law 1776 = some (.iload 6, 2, 1778) := by decide +kernel
theorem fL_law_1778 : zf mL_law 1778 = some (.if_icmp .eq 5, 3, 1781) := by decide +kernel
theorem fL_law_1781 : zf mL_law 1781 = some (.iconst 0, 1, 1782) := by decide +kernel
theorem fL_law_1782 : zf mL_law 1782 = some (.ireturn, 1, 1783) := by decide +kernel
theorem fL_law_1783 : zf mL_law 1783 = some (.iload 6, 2, 1785) := by decide +kernel
theorem fL_law_1785 : zf mL_law 1785 = some (.ifCond .ne 15, 3, 1788) := by decide +kernel
theorem fL_law_1788 : zf mL_law 1788 = some (.aload_n 3, 1, 1789) := by decide +kernel
theorem fL_law_1789 : zf mL_law 1789 = some (.iconst 0, 1, 1790) := by decide +kernel
theorem fL_law_1790 : zf mL_law 1790 = some (.laload, 1, 1791) := by decide +kernel
theorem fL_law_1791 : zf mL_law 1791 = some (.iload 7, 2, 1793) := by decide +kernel
theorem fL_law_1793 : zf mL_law 1793 = some (.i2l, 1, 1794) := by decide +kernel
theorem fL_law_1794 : zf mL_law 1794 = some (.lcmp, 1, 1795) := by decide +kernel
theorem fL_law_1795 : zf mL_law 1795 = some (.ifCond .eq 5, 3, 1798) := by decide +kernel
theorem fL_law_1798 : zf mL_law 1798 = some (.iconst 0, 1, 1799) := by decide +kernel
theorem fL_law_1799 : zf mL_law 1799 = some (.ireturn, 1, 1800) := by decide +kernel
theorem fL_law_1800 : zf mL_law 1800 = some (.goto 663, 3, 1803) := by decide +kernel
theorem fL_law_1803 : zf mL_law 1803 = some (.aload_n 1, 1, 1804) := by decide +kernel
theorem fL_law_1804 : zf mL_law 1804 = some (.aload_n 3, 1, 1805) := by decide +kernel
theorem fL_law_1805 : zf mL_law 1805 = some (.invokestatic 212, 3, 1808) := by decide +kernel
theorem fL_law_1808 : zf mL_law 1808 = some (.istore 6, 2, 1810) := by decide +kernel
theorem fL_law_1810 : zf mL_law 1810 = some (.aload_n 2, 1, 1811) := by decide +kernel
theorem fL_law_1811 : zf mL_law 1811 = some (.invokevirtual 215, 3, 1814) := by decide +kernel
theorem fL_law_1814 : zf mL_law 1814 = some (.istore 7, 2, 1816) := by decide +kernel
theorem fL_law_1816 : zf mL_law 1816 = some (.aload_n 2, 1, 1817) := by decide +kernel
theorem fL_law_1817 : zf mL_law 1817 = some (.invokevirtual 140, 3, 1820) := by decide +kernel
theorem fL_law_1820 : zf mL_law 1820 = some (.iload 6, 2, 1822) := by decide +kernel
theorem fL_law_1822 : zf mL_law 1822 = some (.if_icmp .eq 5, 3, 1825) := by decide +kernel
theorem fL_law_1825 : zf mL_law 1825 = some (.iconst 0, 1, 1826) := by decide +kernel
theorem fL_law_1826 : zf mL_law 1826 = some (.ireturn, 1, 1827) := by decide +kernel
theorem fL_law_1827 : zf mL_law 1827 = some (.iload 6, 2, 1829) := by decide +kernel
theorem fL_law_1829 : zf mL_law 1829 = some (.ifCond .ne 15, 3, 1832) := by decide +kernel
theorem fL_law_1832 : zf mL_law 1832 = some (.aload_n 3, 1, 1833) := by decide +kernel
theorem fL_law_1833 : zf mL_law 1833 = some (.iconst 0, 1, 1834) := by decide +kernel
theorem fL_law_1834 : zf mL_law 1834 = some (.laload, 1, 1835) := by decide +kernel
theorem fL_law_1835 : zf mL_law 1835 = some (.iload 7, 2, 1837) := by decide +kernel
theorem fL_law_1837 : zf mL_law 1837 = some (.i2l, 1, 1838) := by decide +kernel
theorem fL_law_1838 : zf mL_law 1838 = some (.lcmp, 1, 1839) := by decide +kernel
theorem fL_law_1839 : zf mL_law 1839 = some (.ifCond .eq 5, 3, 1842) := by decide +kernel
theorem fL_law_1842 : zf mL_law 1842 = some (.iconst 0, 1, 1843) := by decide +kernel
theorem fL_law_1843 : zf mL_law 1843 = some (.ireturn, 1, 1844) := by decide +kernel
theorem fL_law_1844 : zf mL_law 1844 = some (.goto 619, 3, 1847) := by decide +kernel
theorem fL_law_1847 : zf mL_law 1847 = some (.aload_n 1, 1, 1848) := by decide +kernel
theorem fL_law_1848 : zf mL_law 1848 = some (.aload_n 0, 1, 1849) := by decide +kernel
theorem fL_law_1849 : zf mL_law 1849 = some (.iload 5, 2, 1851) := by decide +kernel
theorem fL_law_1851 : zf mL_law 1851 = some (.iconst 1, 1, 1852) := by decide +kernel
theorem fL_law_1852 : zf mL_law 1852 = some (.iadd, 1, 1853) := by decide +kernel
theorem fL_law_1853 : zf mL_law 1853 = some (.iaload, 1, 1854) := by decide +kernel
theorem fL_law_1854 : zf mL_law 1854 = some (.i2c, 1, 1855) := by decide +kernel
theorem fL_law_1855 : zf mL_law 1855 = some (.aload_n 3, 1, 1856) := by decide +kernel
theorem fL_law_1856 : zf mL_law 1856 = some (.invokestatic 216, 3, 1859) := by decide +kernel
theorem fL_law_1859 : zf mL_law 1859 = some (.istore 6, 2, 1861) := by decide +kernel
theorem fL_law_1861 : zf mL_law 1861 = some (.aload_n 2, 1, 1862) := by decide +kernel
theorem fL_law_1862 : zf mL_law 1862 = some (.aload_n 0, 1, 1863) := by decide +kernel
theorem fL_law_1863 : zf mL_law 1863 = some (.iload 5, 2, 1865) := by decide +kernel
theorem fL_law_1865 : zf mL_law 1865 = some (.iconst 1, 1, 1866) := by decide +kernel
theorem fL_law_1866 : zf mL_law 1866 = some (.iadd, 1, 1867) := by decide +kernel
theorem fL_law_1867 : zf mL_law 1867 = some (.iaload, 1, 1868) := by decide +kernel
theorem fL_law_1868 : zf mL_law 1868 = some (.i2c, 1, 1869) := by decide +kernel
theorem fL_law_1869 : zf mL_law 1869 = some (.invokevirtual 219, 3, 1872) := by decide +kernel
theorem fL_law_1872 : zf mL_law 1872 = some (.istore 7, 2, 1874) := by decide +kernel
theorem fL_law_1874 : zf mL_law 1874 = some (.aload_n 2, 1, 1875) := by decide +kernel
theorem fL_law_1875 : zf mL_law 1875 = some (.invokevirtual 140, 3, 1878) := by decide +kernel
theorem fL_law_1878 : zf mL_law 1878 = some (.iload 6, 2, 1880) := by decide +kernel
theorem fL_law_1880 : zf mL_law 1880 = some (.if_icmp .eq 5, 3, 1883) := by decide +kernel
theorem fL_law_1883 : zf mL_law 1883 = some (.iconst 0, 1, 1884) := by decide +kernel
theorem fL_law_1884 : zf mL_law 1884 = some (.ireturn, 1, 1885) := by decide +kernel
theorem fL_law_1885 : zf mL_law 1885 = some (.iload 6, 2, 1887) := by decide +kernel
theorem fL_law_1887 : zf mL_law 1887 = some (.ifCond .ne 15, 3, 1890) := by decide +kernel
theorem fL_law_1890 : zf mL_law 1890 = some (.aload_n 3, 1, 1891) := by decide +kernel
theorem fL_law_1891 : zf mL_law 1891 = some (.iconst 0, 1, 1892) := by decide +kernel
theorem fL_law_1892 : zf mL_law 1892 = some (.laload, 1, 1893) := by decide +kernel
theorem fL_law_1893 : zf mL_law 1893 = some (.iload 7, 2, 1895) := by decide +kernel
theorem fL_law_1895 : zf mL_law 1895 = some (.i2l, 1, 1896) := by decide +kernel
theorem fL_law_1896 : zf mL_law 1896 = some (.lcmp, 1, 1897) := by decide +kernel
theorem fL_law_1897 : zf mL_law 1897 = some (.ifCond .eq 5, 3, 1900) := by decide +kernel
theorem fL_law_1900 : zf mL_law 1900 = some (.iconst 0, 1, 1901) := by decide +kernel
theorem fL_law_1901 : zf mL_law 1901 = some (.ireturn, 1, 1902) := by decide +kernel
theorem fL_law_1902 : zf mL_law 1902 = some (.goto 561, 3, 1905) := by decide +kernel
theorem fL_law_1905 : zf mL_law 1905 = some (.aload_n 1, 1, 1906) := by decide +kernel
theorem fL_law_1906 : zf mL_law 1906 = some (.aload_n 3, 1, 1907) := by decide +kernel
theorem fL_law_1907 : zf mL_law 1907 = some (.invokestatic 220, 3, 1910) := by decide +kernel
theorem fL_law_1910 : zf mL_law 1910 = some (.istore 6, 2, 1912) := by decide +kernel
theorem fL_law_1912 : zf mL_law 1912 = some (.aload_n 2, 1, 1913) := by decide +kernel
theorem fL_law_1913 : zf mL_law 1913 = some (.invokevirtual 222, 3, 1916) := by decide +kernel
theorem fL_law_1916 : zf mL_law 1916 = some (.istore 7, 2, 1918) := by decide +kernel
theorem fL_law_1918 : zf mL_law 1918 = some (.aload_n 2, 1, 1919) := by decide +kernel
theorem fL_law_1919 : zf mL_law 1919 = some (.invokevirtual 140, 3, 1922) := by decide +kernel
theorem fL_law_1922 : zf mL_law 1922 = some (.iload 6, 2, 1924) := by decide +kernel
theorem fL_law_1924 : zf mL_law 1924 = some (.if_icmp .eq 5, 3, 1927) := by decide +kernel
theorem fL_law_1927 : zf mL_law 1927 = some (.iconst 0, 1, 1928) := by decide +kernel
theorem fL_law_1928 : zf mL_law 1928 = some (.ireturn, 1, 1929) := by decide +kernel
theorem fL_law_1929 : zf mL_law 1929 = some (.iload 6, 2, 1931) := by decide +kernel
theorem fL_law_1931 : zf mL_law 1931 = some (.ifCond .ne 15, 3, 1934) := by decide +kernel
theorem fL_law_1934 : zf mL_law 1934 = some (.aload_n 3, 1, 1935) := by decide +kernel
theorem fL_law_1935 : zf mL_law 1935 = some (.iconst 0, 1, 1936) := by decide +kernel
theorem fL_law_1936 : zf mL_law 1936 = some (.laload, 1, 1937) := by decide +kernel
theorem fL_law_1937 : zf mL_law 1937 = some (.iload 7, 2, 1939) := by decide +kernel
theorem fL_law_1939 : zf mL_law 1939 = some (.i2l, 1, 1940) := by decide +kernel
theorem fL_law_1940 : zf mL_law 1940 = some (.lcmp, 1, 1941) := by decide +kernel
theorem fL_law_1941 : zf mL_law 1941 = some (.ifCond .eq 5, 3, 1944) := by decide +kernel
theorem fL_law_1944 : zf mL_law 1944 = some (.iconst 0, 1, 1945) := by decide +kernel
theorem fL_law_1945 : zf mL_law 1945 = some (.ireturn, 1, 1946) := by decide +kernel
theorem fL_law_1946 : zf mL_law 1946 = some (.goto 517, 3, 1949) := by decide +kernel
theorem fL_law_1949 : zf mL_law 1949 = some (.aload_n 1, 1, 1950) := by decide +kernel
theorem fL_law_1950 : zf mL_law 1950 = some (.invokevirtual 223, 3, 1953) := by decide +kernel
theorem fL_law_1953 : zf mL_law 1953 = some (.aload_n 2, 1, 1954) := by decide +kernel
theorem fL_law_1954 : zf mL_law 1954 = some (.invokevirtual 226, 3, 1957) := by decide +kernel
theorem fL_law_1957 : zf mL_law 1957 = some (.if_icmp .eq 506, 3, 1960) := by decide +kernel
theorem fL_law_1960 : zf mL_law 1960 = some (.iconst 0, 1, 1961) := by decide +kernel
theorem fL_law_1961 : zf mL_law 1961 = some (.ireturn, 1, 1962) := by decide +kernel
theorem fL_law_1962 : zf mL_law 1962 = some (.aload_n 1, 1, 1963) := by decide +kernel
theorem fL_law_1963 : zf mL_law 1963 = some (.aload_n 0, 1, 1964) := by decide +kernel
theorem fL_law_1964 : zf mL_law 1964 = some (.iload 5, 2, 1966) := by decide +kernel
theorem fL_law_1966 : zf mL_law 1966 = some (.iconst 1, 1, 1967) := by decide +kernel
theorem fL_law_1967 : zf mL_law 1967 = some (.iadd, 1, 1968) := by decide +kernel
theorem fL_law_1968 : zf mL_law 1968 = some (.iaload, 1, 1969) := by decide +kernel
theorem fL_law_1969 : zf mL_law 1969 = some (.aload_n 3, 1, 1970) := by decide +kernel
theorem fL_law_1970 : zf mL_law 1970 = some (.invokestatic 227, 3, 1973) := by decide +kernel
theorem fL_law_1973 : zf mL_law 1973 = some (.istore 6, 2, 1975) := by decide +kernel
theorem fL_law_1975 : zf mL_law 1975 = some (.aload_n 2, 1, 1976) := by decide +kernel
theorem fL_law_1976 : zf mL_law 1976 = some (.aload_n 0, 1, 1977) := by decide +kernel
theorem fL_law_1977 : zf mL_law 1977 = some (.iload 5, 2, 1979) := by decide +kernel
theorem fL_law_1979 : zf mL_law 1979 = some (.iconst 1, 1, 1980) := by decide +kernel
theorem fL_law_1980 : zf mL_law 1980 = some (.iadd, 1, 1981) := by decide +kernel
theorem fL_law_1981 : zf mL_law 1981 = some (.iaload, 1, 1982) := by decide +kernel
theorem fL_law_1982 : zf mL_law 1982 = some (.invokevirtual 229, 3, 1985) := by decide +kernel
theorem fL_law_1985 : zf mL_law 1985 = some (.istore 7, 2, 1987) := by decide +kernel
theorem fL_law_1987 : zf mL_law 1987 = some (.aload_n 2, 1, 1988) := by decide +kernel
theorem fL_law_1988 : zf mL_law 1988 = some (.invokevirtual 140, 3, 1991) := by decide +kernel
theorem fL_law_1991 : zf mL_law 1991 = some (.iload 6, 2, 1993) := by decide +kernel
theorem fL_law_1993 : zf mL_law 1993 = some (.if_icmp .eq 5, 3, 1996) := by decide +kernel
theorem fL_law_1996 : zf mL_law 1996 = some (.iconst 0, 1, 1997) := by decide +kernel
theorem fL_law_1997 : zf mL_law 1997 = some (.ireturn, 1, 1998) := by decide +kernel
theorem fL_law_1998 : zf mL_law 1998 = some (.iload 6, 2, 2000) := by decide +kernel
theorem fL_law_2000 : zf mL_law 2000 = some (.ifCond .ne 15, 3, 2003) := by decide +kernel
theorem fL_law_2003 : zf mL_law 2003 = some (.aload_n 3, 1, 2004) := by decide +kernel
theorem fL_law_2004 : zf mL_law 2004 = some (.iconst 0, 1, 2005) := by decide +kernel
theorem fL_law_2005 : zf mL_law 2005 = some (.laload, 1, 2006) := by decide +kernel
theorem fL_law_2006 : zf mL_law 2006 = some (.iload 7, 2, 2008) := by decide +kernel
theorem fL_law_2008 : zf mL_law 2008 = some (.i2l, 1, 2009) := by decide +kernel
theorem fL_law_2009 : zf mL_law 2009 = some (.lcmp, 1, 2010) := by decide +kernel
theorem fL_law_2010 : zf mL_law 2010 = some (.ifCond .eq 5, 3, 2013) := by decide +kernel
theorem fL_law_2013 : zf mL_law 2013 = some (.iconst 0, 1, 2014) := by decide +kernel
theorem fL_law_2014 : zf mL_law 2014 = some (.ireturn, 1, 2015) := by decide +kernel
theorem fL_law_2015 : zf mL_law 2015 = some (.goto 448, 3, 2018) := by decide +kernel
theorem fL_law_2018 : zf mL_law 2018 = some (.aload_n 1, 1, 2019) := by decide +kernel
theorem fL_law_2019 : zf mL_law 2019 = some (.aload_n 0, 1, 2020) := by decide +kernel
theorem fL_law_2020 : zf mL_law 2020 = some (.iload 5, 2, 2022) := by decide +kernel
theorem fL_law_2022 : zf mL_law 2022 = some (.iconst 1, 1, 2023) := by decide +kernel
theorem fL_law_2023 : zf mL_law 2023 = some (.iadd, 1, 2024) := by decide +kernel
theorem fL_law_2024 : zf mL_law 2024 = some (.iaload, 1, 2025) := by decide +kernel
theorem fL_law_2025 : zf mL_law 2025 = some (.aload_n 3, 1, 2026) := by decide +kernel
theorem fL_law_2026 : zf mL_law 2026 = some (.invokestatic 230, 3, 2029) := by decide +kernel
theorem fL_law_2029 : zf mL_law 2029 = some (.istore 6, 2, 2031) := by decide +kernel
theorem fL_law_2031 : zf mL_law 2031 = some (.aload_n 2, 1, 2032) := by decide +kernel
theorem fL_law_2032 : zf mL_law 2032 = some (.aload_n 0, 1, 2033) := by decide +kernel
theorem fL_law_2033 : zf mL_law 2033 = some (.iload 5, 2, 2035) := by decide +kernel
theorem fL_law_2035 : zf mL_law 2035 = some (.iconst 1, 1, 2036) := by decide +kernel
theorem fL_law_2036 : zf mL_law 2036 = some (.iadd, 1, 2037) := by decide +kernel
theorem fL_law_2037 : zf mL_law 2037 = some (.iaload, 1, 2038) := by decide +kernel
theorem fL_law_2038 : zf mL_law 2038 = some (.invokevirtual 232, 3, 2041) := by decide +kernel
theorem fL_law_2041 : zf mL_law 2041 = some (.istore 7, 2, 2043) := by decide +kernel
theorem fL_law_2043 : zf mL_law 2043 = some (.aload_n 2, 1, 2044) := by decide +kernel
theorem fL_law_2044 : zf mL_law 2044 = some (.invokevirtual 140, 3, 2047) := by decide +kernel
theorem fL_law_2047 : zf mL_law 2047 = some (.iload 6, 2, 2049) := by decide +kernel
theorem fL_law_2049 : zf mL_law 2049 = some (.if_icmp .eq 5, 3, 2052) := by decide +kernel
theorem fL_law_2052 : zf mL_law 2052 = some (.iconst 0, 1, 2053) := by decide +kernel
theorem fL_law_2053 : zf mL_law 2053 = some (.ireturn, 1, 2054) := by decide +kernel
theorem fL_law_2054 : zf mL_law 2054 = some (.iload 6, 2, 2056) := by decide +kernel
theorem fL_law_2056 : zf mL_law 2056 = some (.ifCond .ne 15, 3, 2059) := by decide +kernel
theorem fL_law_2059 : zf mL_law 2059 = some (.aload_n 3, 1, 2060) := by decide +kernel
theorem fL_law_2060 : zf mL_law 2060 = some (.iconst 0, 1, 2061) := by decide +kernel
theorem fL_law_2061 : zf mL_law 2061 = some (.laload, 1, 2062) := by decide +kernel
theorem fL_law_2062 : zf mL_law 2062 = some (.iload 7, 2, 2064) := by decide +kernel
theorem fL_law_2064 : zf mL_law 2064 = some (.i2l, 1, 2065) := by decide +kernel
theorem fL_law_2065 : zf mL_law 2065 = some (.lcmp, 1, 2066) := by decide +kernel
theorem fL_law_2066 : zf mL_law 2066 = some (.ifCond .eq 5, 3, 2069) := by decide +kernel
theorem fL_law_2069 : zf mL_law 2069 = some (.iconst 0, 1, 2070) := by decide +kernel
theorem fL_law_2070 : zf mL_law 2070 = some (.ireturn, 1, 2071) := by decide +kernel
theorem fL_law_2071 : zf mL_law 2071 = some (.goto 392, 3, 2074) := by decide +kernel
theorem fL_law_2074 : zf mL_law 2074 = some (.aload_n 1, 1, 2075) := by decide +kernel
theorem fL_law_2075 : zf mL_law 2075 = some (.aload_n 0, 1, 2076) := by decide +kernel
theorem fL_law_2076 : zf mL_law 2076 = some (.iload 5, 2, 2078) := by decide +kernel
theorem fL_law_2078 : zf mL_law 2078 = some (.iconst 1, 1, 2079) := by decide +kernel
theorem fL_law_2079 : zf mL_law 2079 = some (.iadd, 1, 2080) := by decide +kernel
theorem fL_law_2080 : zf mL_law 2080 = some (.iaload, 1, 2081) := by decide +kernel
theorem fL_law_2081 : zf mL_law 2081 = some (.aload_n 3, 1, 2082) := by decide +kernel
theorem fL_law_2082 : zf mL_law 2082 = some (.invokestatic 233, 3, 2085) := by decide +kernel
theorem fL_law_2085 : zf mL_law 2085 = some (.istore 6, 2, 2087) := by decide +kernel
theorem fL_law_2087 : zf mL_law 2087 = some (.aload_n 2, 1, 2088) := by decide +kernel
theorem fL_law_2088 : zf mL_law 2088 = some (.aload_n 0, 1, 2089) := by decide +kernel
theorem fL_law_2089 : zf mL_law 2089 = some (.iload 5, 2, 2091) := by decide +kernel
theorem fL_law_2091 : zf mL_law 2091 = some (.iconst 1, 1, 2092) := by decide +kernel
theorem fL_law_2092 : zf mL_law 2092 = some (.iadd, 1, 2093) := by decide +kernel
theorem fL_law_2093 : zf mL_law 2093 = some (.iaload, 1, 2094) := by decide +kernel
theorem fL_law_2094 : zf mL_law 2094 = some (.invokevirtual 235, 3, 2097) := by decide +kernel
theorem fL_law_2097 : zf mL_law 2097 = some (.istore 7, 2, 2099) := by decide +kernel
theorem fL_law_2099 : zf mL_law 2099 = some (.aload_n 2, 1, 2100) := by decide +kernel
theorem fL_law_2100 : zf mL_law 2100 = some (.invokevirtual 140, 3, 2103) := by decide +kernel
theorem fL_law_2103 : zf mL_law 2103 = some (.iload 6, 2, 2105) := by decide +kernel
theorem fL_law_2105 : zf mL_law 2105 = some (.if_icmp .eq 5, 3, 2108) := by decide +kernel
theorem fL_law_2108 : zf mL_law 2108 = some (.iconst 0, 1, 2109) := by decide +kernel
theorem fL_law_2109 : zf mL_law 2109 = some (.ireturn, 1, 2110) := by decide +kernel
theorem fL_law_2110 : zf mL_law 2110 = some (.iload 6, 2, 2112) := by decide +kernel
theorem fL_law_2112 : zf mL_law 2112 = some (.ifCond .ne 15, 3, 2115) := by decide +kernel
theorem fL_law_2115 : zf mL_law 2115 = some (.aload_n 3, 1, 2116) := by decide +kernel
theorem fL_law_2116 : zf mL_law 2116 = some (.iconst 0, 1, 2117) := by decide +kernel
theorem fL_law_2117 : zf mL_law 2117 = some (.laload, 1, 2118) := by decide +kernel
theorem fL_law_2118 : zf mL_law 2118 = some (.iload 7, 2, 2120) := by decide +kernel
theorem fL_law_2120 : zf mL_law 2120 = some (.i2l, 1, 2121) := by decide +kernel
theorem fL_law_2121 : zf mL_law 2121 = some (.lcmp, 1, 2122) := by decide +kernel
theorem fL_law_2122 : zf mL_law 2122 = some (.ifCond .eq 5, 3, 2125) := by decide +kernel
theorem fL_law_2125 : zf mL_law 2125 = some (.iconst 0, 1, 2126) := by decide +kernel
theorem fL_law_2126 : zf mL_law 2126 = some (.ireturn, 1, 2127) := by decide +kernel
theorem fL_law_2127 : zf mL_law 2127 = some (.goto 336, 3, 2130) := by decide +kernel
theorem fL_law_2130 : zf mL_law 2130 = some (.aload_n 1, 1, 2131) := by decide +kernel
theorem fL_law_2131 : zf mL_law 2131 = some (.aload_n 0, 1, 2132) := by decide +kernel
theorem fL_law_2132 : zf mL_law 2132 = some (.iload 5, 2, 2134) := by decide +kernel
theorem fL_law_2134 : zf mL_law 2134 = some (.iconst 1, 1, 2135) := by decide +kernel
theorem fL_law_2135 : zf mL_law 2135 = some (.iadd, 1, 2136) := by decide +kernel
theorem fL_law_2136 : zf mL_law 2136 = some (.iaload, 1, 2137) := by decide +kernel
theorem fL_law_2137 : zf mL_law 2137 = some (.aload_n 3, 1, 2138) := by decide +kernel
theorem fL_law_2138 : zf mL_law 2138 = some (.invokestatic 236, 3, 2141) := by decide +kernel
theorem fL_law_2141 : zf mL_law 2141 = some (.istore 6, 2, 2143) := by decide +kernel
theorem fL_law_2143 : zf mL_law 2143 = some (.aload_n 2, 1, 2144) := by decide +kernel
theorem fL_law_2144 : zf mL_law 2144 = some (.aload_n 0, 1, 2145) := by decide +kernel
theorem fL_law_2145 : zf mL_law 2145 = some (.iload 5, 2, 2147) := by decide +kernel
theorem fL_law_2147 : zf mL_law 2147 = some (.iconst 1, 1, 2148) := by decide +kernel
theorem fL_law_2148 : zf mL_law 2148 = some (.iadd, 1, 2149) := by decide +kernel
theorem fL_law_2149 : zf mL_law 2149 = some (.iaload, 1, 2150) := by decide +kernel
theorem fL_law_2150 : zf mL_law 2150 = some (.invokevirtual 238, 3, 2153) := by decide +kernel
theorem fL_law_2153 : zf mL_law 2153 = some (.istore 7, 2, 2155) := by decide +kernel
theorem fL_law_2155 : zf mL_law 2155 = some (.aload_n 2, 1, 2156) := by decide +kernel
theorem fL_law_2156 : zf mL_law 2156 = some (.invokevirtual 140, 3, 2159) := by decide +kernel
theorem fL_law_2159 : zf mL_law 2159 = some (.iload 6, 2, 2161) := by decide +kernel
theorem fL_law_2161 : zf mL_law 2161 = some (.if_icmp .eq 5, 3, 2164) := by decide +kernel
theorem fL_law_2164 : zf mL_law 2164 = some (.iconst 0, 1, 2165) := by decide +kernel
theorem fL_law_2165 : zf mL_law 2165 = some (.ireturn, 1, 2166) := by decide +kernel
theorem fL_law_2166 : zf mL_law 2166 = some (.iload 6, 2, 2168) := by decide +kernel
theorem fL_law_2168 : zf mL_law 2168 = some (.ifCond .ne 15, 3, 2171) := by decide +kernel
theorem fL_law_2171 : zf mL_law 2171 = some (.aload_n 3, 1, 2172) := by decide +kernel
theorem fL_law_2172 : zf mL_law 2172 = some (.iconst 0, 1, 2173) := by decide +kernel
theorem fL_law_2173 : zf mL_law 2173 = some (.laload, 1, 2174) := by decide +kernel
theorem fL_law_2174 : zf mL_law 2174 = some (.iload 7, 2, 2176) := by decide +kernel
theorem fL_law_2176 : zf mL_law 2176 = some (.i2l, 1, 2177) := by decide +kernel
theorem fL_law_2177 : zf mL_law 2177 = some (.lcmp, 1, 2178) := by decide +kernel
theorem fL_law_2178 : zf mL_law 2178 = some (.ifCond .eq 5, 3, 2181) := by decide +kernel
theorem fL_law_2181 : zf mL_law 2181 = some (.iconst 0, 1, 2182) := by decide +kernel
theorem fL_law_2182 : zf mL_law 2182 = some (.ireturn, 1, 2183) := by decide +kernel
theorem fL_law_2183 : zf mL_law 2183 = some (.goto 280, 3, 2186) := by decide +kernel
theorem fL_law_2186 : zf mL_law 2186 = some (.aload_n 1, 1, 2187) := by decide +kernel
theorem fL_law_2187 : zf mL_law 2187 = some (.aload_n 0, 1, 2188) := by decide +kernel
theorem fL_law_2188 : zf mL_law 2188 = some (.iload 5, 2, 2190) := by decide +kernel
theorem fL_law_2190 : zf mL_law 2190 = some (.iconst 1, 1, 2191) := by decide +kernel
theorem fL_law_2191 : zf mL_law 2191 = some (.iadd, 1, 2192) := by decide +kernel
theorem fL_law_2192 : zf mL_law 2192 = some (.iaload, 1, 2193) := by decide +kernel
theorem fL_law_2193 : zf mL_law 2193 = some (.aload 4, 2, 2195) := by decide +kernel
theorem fL_law_2195 : zf mL_law 2195 = some (.invokestatic 239, 3, 2198) := by decide +kernel
theorem fL_law_2198 : zf mL_law 2198 = some (.istore 6, 2, 2200) := by decide +kernel
theorem fL_law_2200 : zf mL_law 2200 = some (.aload_n 2, 1, 2201) := by decide +kernel
theorem fL_law_2201 : zf mL_law 2201 = some (.aload_n 0, 1, 2202) := by decide +kernel
theorem fL_law_2202 : zf mL_law 2202 = some (.iload 5, 2, 2204) := by decide +kernel
theorem fL_law_2204 : zf mL_law 2204 = some (.iconst 1, 1, 2205) := by decide +kernel
theorem fL_law_2205 : zf mL_law 2205 = some (.iadd, 1, 2206) := by decide +kernel
theorem fL_law_2206 : zf mL_law 2206 = some (.iaload, 1, 2207) := by decide +kernel
theorem fL_law_2207 : zf mL_law 2207 = some (.invokevirtual 242, 3, 2210) := by decide +kernel
theorem fL_law_2210 : zf mL_law 2210 = some (.dstore 7, 2, 2212) := by decide +kernel
theorem fL_law_2212 : zf mL_law 2212 = some (.aload_n 2, 1, 2213) := by decide +kernel
theorem fL_law_2213 : zf mL_law 2213 = some (.invokevirtual 140, 3, 2216) := by decide +kernel
theorem fL_law_2216 : zf mL_law 2216 = some (.iload 6, 2, 2218) := by decide +kernel
theorem fL_law_2218 : zf mL_law 2218 = some (.if_icmp .eq 5, 3, 2221) := by decide +kernel
theorem fL_law_2221 : zf mL_law 2221 = some (.iconst 0, 1, 2222) := by decide +kernel
theorem fL_law_2222 : zf mL_law 2222 = some (.ireturn, 1, 2223) := by decide +kernel
theorem fL_law_2223 : zf mL_law 2223 = some (.iload 6, 2, 2225) := by decide +kernel
theorem fL_law_2225 : zf mL_law 2225 = some (.ifCond .ne 35, 3, 2228) := by decide +kernel
theorem fL_law_2228 : zf mL_law 2228 = some (.aload 4, 2, 2230) := by decide +kernel
theorem fL_law_2230 : zf mL_law 2230 = some (.iconst 0, 1, 2231) := by decide +kernel
theorem fL_law_2231 : zf mL_law 2231 = some (.daload, 1, 2232) := by decide +kernel
theorem fL_law_2232 : zf mL_law 2232 = some (.dload 7, 2, 2234) := by decide +kernel
theorem fL_law_2234 : zf mL_law 2234 = some (.dcmp .l, 1, 2235) := by decide +kernel
theorem fL_law_2235 : zf mL_law 2235 = some (.ifCond .eq 25, 3, 2238) := by decide +kernel
theorem fL_law_2238 : zf mL_law 2238 = some (.aload 4, 2, 2240) := by decide +kernel
theorem fL_law_2240 : zf mL_law 2240 = some (.iconst 0, 1, 2241) := by decide +kernel
theorem fL_law_2241 : zf mL_law 2241 = some (.daload, 1, 2242) := by decide +kernel
theorem fL_law_2242 : zf mL_law 2242 = some (.aload 4, 2, 2244) := by decide +kernel
theorem fL_law_2244 : zf mL_law 2244 = some (.iconst 0, 1, 2245) := by decide +kernel
theorem fL_law_2245 : zf mL_law 2245 = some (.daload, 1, 2246) := by decide +kernel
theorem fL_law_2246 : zf mL_law 2246 = some (.dcmp .l, 1, 2247) := by decide +kernel
theorem fL_law_2247 : zf mL_law 2247 = some (.ifCond .eq 11, 3, 2250) := by decide +kernel
theorem fL_law_2250 : zf mL_law 2250 = some (.dload 7, 2, 2252) := by decide +kernel
theorem fL_law_2252 : zf mL_law 2252 = some (.dload 7, 2, 2254) := by decide +kernel
theorem fL_law_2254 : zf mL_law 2254 = some (.dcmp .l, 1, 2255) := by decide +kernel
theorem fL_law_2255 : zf mL_law 2255 = some (.ifCond .ne 5, 3, 2258) := by decide +kernel
theorem fL_law_2258 : zf mL_law 2258 = some (.iconst 0, 1, 2259) := by decide +kernel
theorem fL_law_2259 : zf mL_law 2259 = some (.ireturn, 1, 2260) := by decide +kernel
theorem fL_law_2260 : zf mL_law 2260 = some (.goto 203, 3, 2263) := by decide +kernel
theorem fL_law_2263 : zf mL_law 2263 = some (.aload_n 1, 1, 2264) := by decide +kernel
theorem fL_law_2264 : zf mL_law 2264 = some (.invokevirtual 243, 3, 2267) := by decide +kernel
theorem fL_law_2267 : zf mL_law 2267 = some (.f2d, 1, 2268) := by decide +kernel
theorem fL_law_2268 : zf mL_law 2268 = some (.dstore 6, 2, 2270) := by decide +kernel
theorem fL_law_2270 : zf mL_law 2270 = some (.aload_n 2, 1, 2271) := by decide +kernel
theorem fL_law_2271 : zf mL_law 2271 = some (.invokevirtual 247, 3, 2274) := by decide +kernel
theorem fL_law_2274 : zf mL_law 2274 = some (.f2d, 1, 2275) := by decide +kernel
theorem fL_law_2275 : zf mL_law 2275 = some (.dstore 8, 2, 2277) := by decide +kernel
theorem fL_law_2277 : zf mL_law 2277 = some (.dload 6, 2, 2279) := by decide +kernel
theorem fL_law_2279 : zf mL_law 2279 = some (.dload 8, 2, 2281) := by decide +kernel
theorem fL_law_2281 : zf mL_law 2281 = some (.dcmp .l, 1, 2282) := by decide +kernel
theorem fL_law_2282 : zf mL_law 2282 = some (.ifCond .eq 21, 3, 2285) := by decide +kernel
theorem fL_law_2285 : zf mL_law 2285 = some (.dload 6, 2, 2287) := by decide +kernel
theorem fL_law_2287 : zf mL_law 2287 = some (.dload 6, 2, 2289) := by decide +kernel
theorem fL_law_2289 : zf mL_law 2289 = some (.dcmp .l, 1, 2290) := by decide +kernel
theorem fL_law_2290 : zf mL_law 2290 = some (.ifCond .eq 11, 3, 2293) := by decide +kernel
theorem fL_law_2293 : zf mL_law 2293 = some (.dload 8, 2, 2295) := by decide +kernel
theorem fL_law_2295 : zf mL_law 2295 = some (.dload 8, 2, 2297) := by decide +kernel
theorem fL_law_2297 : zf mL_law 2297 = some (.dcmp .l, 1, 2298) := by decide +kernel
theorem fL_law_2298 : zf mL_law 2298 = some (.ifCond .ne 5, 3, 2301) := by decide +kernel
theorem fL_law_2301 : zf mL_law 2301 = some (.iconst 0, 1, 2302) := by decide +kernel
theorem fL_law_2302 : zf mL_law 2302 = some (.ireturn, 1, 2303) := by decide +kernel
theorem fL_law_2303 : zf mL_law 2303 = some (.goto 160, 3, 2306) := by decide +kernel
theorem fL_law_2306 : zf mL_law 2306 = some (.aload_n 1, 1, 2307) := by decide +kernel
theorem fL_law_2307 : zf mL_law 2307 = some (.aload_n 0, 1, 2308) := by decide +kernel
theorem fL_law_2308 : zf mL_law 2308 = some (.iload 5, 2, 2310) := by decide +kernel
theorem fL_law_2310 : zf mL_law 2310 = some (.iconst 1, 1, 2311) := by decide +kernel
theorem fL_law_2311 : zf mL_law 2311 = some (.iadd, 1, 2312) := by decide +kernel
theorem fL_law_2312 : zf mL_law 2312 = some (.iaload, 1, 2313) := by decide +kernel
theorem fL_law_2313 : zf mL_law 2313 = some (.aload_n 3, 1, 2314) := by decide +kernel
theorem fL_law_2314 : zf mL_law 2314 = some (.invokestatic 248, 3, 2317) := by decide +kernel
theorem fL_law_2317 : zf mL_law 2317 = some (.istore 6, 2, 2319) := by decide +kernel
theorem fL_law_2319 : zf mL_law 2319 = some (.aload_n 2, 1, 2320) := by decide +kernel
theorem fL_law_2320 : zf mL_law 2320 = some (.aload_n 0, 1, 2321) := by decide +kernel
theorem fL_law_2321 : zf mL_law 2321 = some (.iload 5, 2, 2323) := by decide +kernel
theorem fL_law_2323 : zf mL_law 2323 = some (.iconst 1, 1, 2324) := by decide +kernel
theorem fL_law_2324 : zf mL_law 2324 = some (.iadd, 1, 2325) := by decide +kernel
theorem fL_law_2325 : zf mL_law 2325 = some (.iaload, 1, 2326) := by decide +kernel
theorem fL_law_2326 : zf mL_law 2326 = some (.invokevirtual 250, 3, 2329) := by decide +kernel
theorem fL_law_2329 : zf mL_law 2329 = some (.istore 7, 2, 2331) := by decide +kernel
theorem fL_law_2331 : zf mL_law 2331 = some (.aload_n 2, 1, 2332) := by decide +kernel
theorem fL_law_2332 : zf mL_law 2332 = some (.invokevirtual 140, 3, 2335) := by decide +kernel
theorem fL_law_2335 : zf mL_law 2335 = some (.iload 6, 2, 2337) := by decide +kernel
theorem fL_law_2337 : zf mL_law 2337 = some (.if_icmp .eq 5, 3, 2340) := by decide +kernel
theorem fL_law_2340 : zf mL_law 2340 = some (.iconst 0, 1, 2341) := by decide +kernel
theorem fL_law_2341 : zf mL_law 2341 = some (.ireturn, 1, 2342) := by decide +kernel
theorem fL_law_2342 : zf mL_law 2342 = some (.iload 6, 2, 2344) := by decide +kernel
theorem fL_law_2344 : zf mL_law 2344 = some (.ifCond .ne 15, 3, 2347) := by decide +kernel
theorem fL_law_2347 : zf mL_law 2347 = some (.aload_n 3, 1, 2348) := by decide +kernel
theorem fL_law_2348 : zf mL_law 2348 = some (.iconst 0, 1, 2349) := by decide +kernel
theorem fL_law_2349 : zf mL_law 2349 = some (.laload, 1, 2350) := by decide +kernel
theorem fL_law_2350 : zf mL_law 2350 = some (.iload 7, 2, 2352) := by decide +kernel
theorem fL_law_2352 : zf mL_law 2352 = some (.i2l, 1, 2353) := by decide +kernel
theorem fL_law_2353 : zf mL_law 2353 = some (.lcmp, 1, 2354) := by decide +kernel
theorem fL_law_2354 : zf mL_law 2354 = some (.ifCond .eq 5, 3, 2357) := by decide +kernel
theorem fL_law_2357 : zf mL_law 2357 = some (.iconst 0, 1, 2358) := by decide +kernel
theorem fL_law_2358 : zf mL_law 2358 = some (.ireturn, 1, 2359) := by decide +kernel
theorem fL_law_2359 : zf mL_law 2359 = some (.goto 104, 3, 2362) := by decide +kernel
theorem fL_law_2362 : zf mL_law 2362 = some (.aload_n 1, 1, 2363) := by decide +kernel
theorem fL_law_2363 : zf mL_law 2363 = some (.aload_n 3, 1, 2364) := by decide +kernel
theorem fL_law_2364 : zf mL_law 2364 = some (.invokestatic 251, 3, 2367) := by decide +kernel
theorem fL_law_2367 : zf mL_law 2367 = some (.istore 6, 2, 2369) := by decide +kernel
theorem fL_law_2369 : zf mL_law 2369 = some (.aload_n 2, 1, 2370) := by decide +kernel
theorem fL_law_2370 : zf mL_law 2370 = some (.invokevirtual 253, 3, 2373) := by decide +kernel
theorem fL_law_2373 : zf mL_law 2373 = some (.istore 7, 2, 2375) := by decide +kernel
theorem fL_law_2375 : zf mL_law 2375 = some (.aload_n 2, 1, 2376) := by decide +kernel
theorem fL_law_2376 : zf mL_law 2376 = some (.invokevirtual 140, 3, 2379) := by decide +kernel
theorem fL_law_2379 : zf mL_law 2379 = some (.iload 6, 2, 2381) := by decide +kernel
theorem fL_law_2381 : zf mL_law 2381 = some (.if_icmp .eq 5, 3, 2384) := by decide +kernel
theorem fL_law_2384 : zf mL_law 2384 = some (.iconst 0, 1, 2385) := by decide +kernel
theorem fL_law_2385 : zf mL_law 2385 = some (.ireturn, 1, 2386) := by decide +kernel
theorem fL_law_2386 : zf mL_law 2386 = some (.iload 6, 2, 2388) := by decide +kernel
theorem fL_law_2388 : zf mL_law 2388 = some (.ifCond .ne 15, 3, 2391) := by decide +kernel
theorem fL_law_2391 : zf mL_law 2391 = some (.aload_n 3, 1, 2392) := by decide +kernel
theorem fL_law_2392 : zf mL_law 2392 = some (.iconst 0, 1, 2393) := by decide +kernel
theorem fL_law_2393 : zf mL_law 2393 = some (.laload, 1, 2394) := by decide +kernel
theorem fL_law_2394 : zf mL_law 2394 = some (.iload 7, 2, 2396) := by decide +kernel
theorem fL_law_2396 : zf mL_law 2396 = some (.i2l, 1, 2397) := by decide +kernel
theorem fL_law_2397 : zf mL_law 2397 = some (.lcmp, 1, 2398) := by decide +kernel
theorem fL_law_2398 : zf mL_law 2398 = some (.ifCond .eq 5, 3, 2401) := by decide +kernel
theorem fL_law_2401 : zf mL_law 2401 = some (.iconst 0, 1, 2402) := by decide +kernel
theorem fL_law_2402 : zf mL_law 2402 = some (.ireturn, 1, 2403) := by decide +kernel
theorem fL_law_2403 : zf mL_law 2403 = some (.goto 60, 3, 2406) := by decide +kernel
theorem fL_law_2406 : zf mL_law 2406 = some (.aload_n 1, 1, 2407) := by decide +kernel
theorem fL_law_2407 : zf mL_law 2407 = some (.invokevirtual 254, 3, 2410) := by decide +kernel
theorem fL_law_2410 : zf mL_law 2410 = some (.aload_n 2, 1, 2411) := by decide +kernel
theorem fL_law_2411 : zf mL_law 2411 = some (.invokevirtual 257, 3, 2414) := by decide +kernel
theorem fL_law_2414 : zf mL_law 2414 = some (.if_icmp .eq 49, 3, 2417) := by decide +kernel
theorem fL_law_2417 : zf mL_law 2417 = some (.iconst 0, 1, 2418) := by decide +kernel
theorem fL_law_2418 : zf mL_law 2418 = some (.ireturn, 1, 2419) := by decide +kernel
theorem fL_law_2419 : zf mL_law 2419 = some (.aload_n 1, 1, 2420) := by decide +kernel
theorem fL_law_2420 : zf mL_law 2420 = some (.aload_n 3, 1, 2421) := by decide +kernel
theorem fL_law_2421 : zf mL_law 2421 = some (.invokestatic 258, 3, 2424) := by decide +kernel
theorem fL_law_2424 : zf mL_law 2424 = some (.istore 6, 2, 2426) := by decide +kernel
theorem fL_law_2426 : zf mL_law 2426 = some (.aload_n 2, 1, 2427) := by decide +kernel
theorem fL_law_2427 : zf mL_law 2427 = some (.invokevirtual 260, 3, 2430) := by decide +kernel
theorem fL_law_2430 : zf mL_law 2430 = some (.istore 7, 2, 2432) := by decide +kernel
theorem fL_law_2432 : zf mL_law 2432 = some (.aload_n 2, 1, 2433) := by decide +kernel
theorem fL_law_2433 : zf mL_law 2433 = some (.invokevirtual 140, 3, 2436) := by decide +kernel
theorem fL_law_2436 : zf mL_law 2436 = some (.iload 6, 2, 2438) := by decide +kernel
theorem fL_law_2438 : zf mL_law 2438 = some (.if_icmp .eq 5, 3, 2441) := by decide +kernel
theorem fL_law_2441 : zf mL_law 2441 = some (.iconst 0, 1, 2442) := by decide +kernel
theorem fL_law_2442 : zf mL_law 2442 = some (.ireturn, 1, 2443) := by decide +kernel
theorem fL_law_2443 : zf mL_law 2443 = some (.iload 6, 2, 2445) := by decide +kernel
theorem fL_law_2445 : zf mL_law 2445 = some (.ifCond .ne 15, 3, 2448) := by decide +kernel
theorem fL_law_2448 : zf mL_law 2448 = some (.aload_n 3, 1, 2449) := by decide +kernel
theorem fL_law_2449 : zf mL_law 2449 = some (.iconst 0, 1, 2450) := by decide +kernel
theorem fL_law_2450 : zf mL_law 2450 = some (.laload, 1, 2451) := by decide +kernel
theorem fL_law_2451 : zf mL_law 2451 = some (.iload 7, 2, 2453) := by decide +kernel
theorem fL_law_2453 : zf mL_law 2453 = some (.i2l, 1, 2454) := by decide +kernel
theorem fL_law_2454 : zf mL_law 2454 = some (.lcmp, 1, 2455) := by decide +kernel
theorem fL_law_2455 : zf mL_law 2455 = some (.ifCond .eq 5, 3, 2458) := by decide +kernel
theorem fL_law_2458 : zf mL_law 2458 = some (.iconst 0, 1, 2459) := by decide +kernel
theorem fL_law_2459 : zf mL_law 2459 = some (.ireturn, 1, 2460) := by decide +kernel
theorem fL_law_2460 : zf mL_law 2460 = some (.goto 3, 3, 2463) := by decide +kernel
theorem fL_law_2463 : zf mL_law 2463 = some (.iinc 5 5, 3, 2466) := by decide +kernel
theorem fL_law_2466 : zf mL_law 2466 = some (.goto (-2438), 3, 2469) := by decide +kernel
theorem fL_law_2469 : zf mL_law 2469 = some (.iconst 1, 1, 2470) := by decide +kernel
theorem fL_law_2470 : zf mL_law 2470 = some (.ireturn, 1, 2471) := by decide +kernel
