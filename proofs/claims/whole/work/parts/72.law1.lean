theorem dL_law_0 : decode cL_law 0 = .ok (.new 7, 3) := by decide +kernel
theorem dL_law_3 : decode cL_law 3 = .ok (.dup, 1) := by decide +kernel
theorem dL_law_4 : decode cL_law 4 = .ok (.invokespecial 9, 3) := by decide +kernel
theorem dL_law_7 : decode cL_law 7 = .ok (.astore_n 1, 1) := by decide +kernel
theorem dL_law_8 : decode cL_law 8 = .ok (.new 10, 3) := by decide +kernel
theorem dL_law_11 : decode cL_law 11 = .ok (.dup, 1) := by decide +kernel
theorem dL_law_12 : decode cL_law 12 = .ok (.invokespecial 12, 3) := by decide +kernel
theorem dL_law_15 : decode cL_law 15 = .ok (.astore_n 2, 1) := by decide +kernel
theorem dL_law_16 : decode cL_law 16 = .ok (.iconst 0, 1) := by decide +kernel
theorem dL_law_17 : decode cL_law 17 = .ok (.istore_n 3, 1) := by decide +kernel
theorem dL_law_18 : decode cL_law 18 = .ok (.iload_n 3, 1) := by decide +kernel
theorem dL_law_19 : decode cL_law 19 = .ok (.aload_n 0, 1) := by decide +kernel
theorem dL_law_20 : decode cL_law 20 = .ok (.arraylength, 1) := by decide +kernel
theorem dL_law_21 : decode cL_law 21 = .ok (.iconst 5, 1) := by decide +kernel
theorem dL_law_22 : decode cL_law 22 = .ok (.isub, 1) := by decide +kernel
theorem dL_law_23 : decode cL_law 23 = .ok (.if_icmp .gt 1130, 3) := by decide +kernel
theorem dL_law_26 : decode cL_law 26 = .ok (.aload_n 0, 1) := by decide +kernel
theorem dL_law_27 : decode cL_law 27 = .ok (.iload_n 3, 1) := by decide +kernel
theorem dL_law_28 : decode cL_law 28 = .ok (.iaload, 1) := by decide +kernel
theorem dL_law_29 : decode cL_law 29 = .ok (.bipush 63, 2) := by decide +kernel
theorem dL_law_31 : decode cL_law 31 = .ok (.iand, 1) := by decide +kernel
theorem dL_law_32 : decode cL_law 32 = .ok (.tableswitch 1115 0 32 #[148, 171, 184, 217, 250, 283, 316, 349, 382, 405, 428, 451, 484, 527, 580, 623, 636, 669, 682, 705, 748, 771, 815, 849, 898, 911, 954, 967, 1010, 1033, 1066, 1079, 1092], 148) := by decide +kernel
theorem dL_law_180 : decode cL_law 180 = .ok (.aload_n 1, 1) := by decide +kernel
theorem dL_law_181 : decode cL_law 181 = .ok (.aload_n 0, 1) := by decide +kernel
theorem dL_law_182 : decode cL_law 182 = .ok (.iload_n 3, 1) := by decide +kernel
theorem dL_law_183 : decode cL_law 183 = .ok (.iconst 1, 1) := by decide +kernel
theorem dL_law_184 : decode cL_law 184 = .ok (.iadd, 1) := by decide +kernel
theorem dL_law_185 : decode cL_law 185 = .ok (.iaload, 1) := by decide +kernel
theorem dL_law_186 : decode cL_law 186 = .ok (.invokevirtual 13, 3) := by decide +kernel
theorem dL_law_189 : decode cL_law 189 = .ok (.aload_n 2, 1) := by decide +kernel
theorem dL_law_190 : decode cL_law 190 = .ok (.aload_n 0, 1) := by decide +kernel
theorem dL_law_191 : decode cL_law 191 = .ok (.iload_n 3, 1) := by decide +kernel
theorem dL_law_192 : decode cL_law 192 = .ok (.iconst 1, 1) := by decide +kernel
theorem dL_law_193 : decode cL_law 193 = .ok (.iadd, 1) := by decide +kernel
theorem dL_law_194 : decode cL_law 194 = .ok (.iaload, 1) := by decide +kernel
theorem dL_law_195 : decode cL_law 195 = .ok (.invokevirtual 17, 3) := by decide +kernel
theorem dL_law_198 : decode cL_law 198 = .ok (.if_icmp .eq 949, 3) := by decide +kernel
theorem dL_law_201 : decode cL_law 201 = .ok (.iconst 0, 1) := by decide +kernel
theorem dL_law_202 : decode cL_law 202 = .ok (.ireturn, 1) := by decide +kernel
theorem dL_law_203 : decode cL_law 203 = .ok (.aload_n 1, 1) := by decide +kernel
theorem dL_law_204 : decode cL_law 204 = .ok (.invokevirtual 18, 3) := by decide +kernel
theorem dL_law_207 : decode cL_law 207 = .ok (.aload_n 2, 1) := by decide +kernel
theorem dL_law_208 : decode cL_law 208 = .ok (.invokevirtual 22, 3) := by decide +kernel
theorem dL_law_211 : decode cL_law 211 = .ok (.if_icmp .eq 936, 3) := by decide +kernel
theorem dL_law_214 : decode cL_law 214 = .ok (.iconst 0, 1) := by decide +kernel
theorem dL_law_215 : decode cL_law 215 = .ok (.ireturn, 1) := by decide +kernel
theorem dL_law_216 : decode cL_law 216 = .ok (.aload_n 1, 1) := by decide +kernel
theorem dL_law_217 : decode cL_law 217 = .ok (.aload_n 0, 1) := by decide +kernel
theorem dL_law_218 : decode cL_law 218 = .ok (.iload_n 3, 1) := by decide +kernel
theorem dL_law_219 : decode cL_law 219 = .ok (.iconst 1, 1) := by decide +kernel
theorem dL_law_220 : decode cL_law 220 = .ok (.iadd, 1) := by decide +kernel
theorem dL_law_221 : decode cL_law 221 = .ok (.iaload, 1) := by decide +kernel
theorem dL_law_222 : decode cL_law 222 = .ok (.aload_n 0, 1) := by decide +kernel
theorem dL_law_223 : decode cL_law 223 = .ok (.iload_n 3, 1) := by decide +kernel
theorem dL_law_224 : decode cL_law 224 = .ok (.iconst 2, 1) := by decide +kernel
theorem dL_law_225 : decode cL_law 225 = .ok (.iadd, 1) := by decide +kernel
theorem dL_law_226 : decode cL_law 226 = .ok (.iaload, 1) := by decide +kernel
theorem dL_law_227 : decode cL_law 227 = .ok (.invokevirtual 23, 3) := by decide +kernel
theorem dL_law_230 : decode cL_law 230 = .ok (.aload_n 2, 1) := by decide +kernel
theorem dL_law_231 : decode cL_law 231 = .ok (.aload_n 0, 1) := by decide +kernel
theorem dL_law_232 : decode cL_law 232 = .ok (.iload_n 3, 1) := by decide +kernel
theorem dL_law_233 : decode cL_law 233 = .ok (.iconst 1, 1) := by decide +kernel
theorem dL_law_234 : decode cL_law 234 = .ok (.iadd, 1) := by decide +kernel
theorem dL_law_235 : decode cL_law 235 = .ok (.iaload, 1) := by decide +kernel
theorem dL_law_236 : decode cL_law 236 = .ok (.aload_n 0, 1) := by decide +kernel
theorem dL_law_237 : decode cL_law 237 = .ok (.iload_n 3, 1) := by decide +kernel
theorem dL_law_238 : decode cL_law 238 = .ok (.iconst 2, 1) := by decide +kernel
theorem dL_law_239 : decode cL_law 239 = .ok (.iadd, 1) := by decide +kernel
theorem dL_law_240 : decode cL_law 240 = .ok (.iaload, 1) := by decide +kernel
theorem dL_law_241 : decode cL_law 241 = .ok (.invokevirtual 27, 3) := by decide +kernel
theorem dL_law_244 : decode cL_law 244 = .ok (.if_icmp .eq 903, 3) := by decide +kernel
theorem dL_law_247 : decode cL_law 247 = .ok (.iconst 0, 1) := by decide +kernel
theorem dL_law_248 : decode cL_law 248 = .ok (.ireturn, 1) := by decide +kernel
theorem dL_law_249 : decode cL_law 249 = .ok (.aload_n 1, 1) := by decide +kernel
theorem dL_law_250 : decode cL_law 250 = .ok (.aload_n 0, 1) := by decide +kernel
theorem dL_law_251 : decode cL_law 251 = .ok (.iload_n 3, 1) := by decide +kernel
theorem dL_law_252 : decode cL_law 252 = .ok (.iconst 1, 1) := by decide +kernel
theorem dL_law_253 : decode cL_law 253 = .ok (.iadd, 1) := by decide +kernel
theorem dL_law_254 : decode cL_law 254 = .ok (.iaload, 1) := by decide +kernel
theorem dL_law_255 : decode cL_law 255 = .ok (.aload_n 0, 1) := by decide +kernel
theorem dL_law_256 : decode cL_law 256 = .ok (.iload_n 3, 1) := by decide +kernel
theorem dL_law_257 : decode cL_law 257 = .ok (.iconst 2, 1) := by decide +kernel
theorem dL_law_258 : decode cL_law 258 = .ok (.iadd, 1) := by decide +kernel
theorem dL_law_259 : decode cL_law 259 = .ok (.iaload, 1) := by decide +kernel
theorem dL_law_260 : decode cL_law 260 = .ok (.invokevirtual 28, 3) := by decide +kernel
theorem dL_law_263 : decode cL_law 263 = .ok (.aload_n 2, 1) := by decide +kernel
theorem dL_law_264 : decode cL_law 264 = .ok (.aload_n 0, 1) := by decide +kernel
theorem dL_law_265 : decode cL_law 265 = .ok (.iload_n 3, 1) := by decide +kernel
theorem dL_law_266 : decode cL_law 266 = .ok (.iconst 1, 1) := by decide +kernel
theorem dL_law_267 : decode cL_law 267 = .ok (.iadd, 1) := by decide +kernel
theorem dL_law_268 : decode cL_law 268 = .ok (.iaload, 1) := by decide +kernel
theorem dL_law_269 : decode cL_law 269 = .ok (.aload_n 0, 1) := by decide +kernel
theorem dL_law_270 : decode cL_law 270 = .ok (.iload_n 3, 1) := by decide +kernel
theorem dL_law_271 : decode cL_law 271 = .ok (.iconst 2, 1) := by decide +kernel
theorem dL_law_272 : decode cL_law 272 = .ok (.iadd, 1) := by decide +kernel
theorem dL_law_273 : decode cL_law 273 = .ok (.iaload, 1) := by decide +kernel
theorem dL_law_274 : decode cL_law 274 = .ok (.invokevirtual 31, 3) := by decide +kernel
theorem dL_law_277 : decode cL_law 277 = .ok (.if_icmp .eq 870, 3) := by decide +kernel
theorem dL_law_280 : decode cL_law 280 = .ok (.iconst 0, 1) := by decide +kernel
theorem dL_law_281 : decode cL_law 281 = .ok (.ireturn, 1) := by decide +kernel
theorem dL_law_282 : decode cL_law 282 = .ok (.aload_n 1, 1) := by decide +kernel
theorem dL_law_283 : decode cL_law 283 = .ok (.aload_n 0, 1) := by decide +kernel
theorem dL_law_284 : decode cL_law 284 = .ok (.iload_n 3, 1) := by decide +kernel
theorem dL_law_285 : decode cL_law 285 = .ok (.iconst 1, 1) := by decide +kernel
theorem dL_law_286 : decode cL_law 286 = .ok (.iadd, 1) := by decide +kernel
theorem dL_law_287 : decode cL_law 287 = .ok (.iaload, 1) := by decide +kernel
theorem dL_law_288 : decode cL_law 288 = .ok (.aload_n 0, 1) := by decide +kernel
theorem dL_law_289 : decode cL_law 289 = .ok (.iload_n 3, 1) := by decide +kernel
theorem dL_law_290 : decode cL_law 290 = .ok (.iconst 2, 1) := by decide +kernel
theorem dL_law_291 : decode cL_law 291 = .ok (.iadd, 1) := by decide +kernel
theorem dL_law_292 : decode cL_law 292 = .ok (.iaload, 1) := by decide +kernel
theorem dL_law_293 : decode cL_law 293 = .ok (.invokevirtual 32, 3) := by decide +kernel
theorem dL_law_296 : decode cL_law 296 = .ok (.aload_n 2, 1) := by decide +kernel
theorem dL_law_297 : decode cL_law 297 = .ok (.aload_n 0, 1) := by decide +kernel
theorem dL_law_298 : decode cL_law 298 = .ok (.iload_n 3, 1) := by decide +kernel
theorem dL_law_299 : decode cL_law 299 = .ok (.iconst 1, 1) := by decide +kernel
theorem dL_law_300 : decode cL_law 300 = .ok (.iadd, 1) := by decide +kernel
theorem dL_law_301 : decode cL_law 301 = .ok (.iaload, 1) := by decide +kernel
theorem dL_law_302 : decode cL_law 302 = .ok (.aload_n 0, 1) := by decide +kernel
theorem dL_law_303 : decode cL_law 303 = .ok (.iload_n 3, 1) := by decide +kernel
theorem dL_law_304 : decode cL_law 304 = .ok (.iconst 2, 1) := by decide +kernel
theorem dL_law_305 : decode cL_law 305 = .ok (.iadd, 1) := by decide +kernel
theorem dL_law_306 : decode cL_law 306 = .ok (.iaload, 1) := by decide +kernel
theorem dL_law_307 : decode cL_law 307 = .ok (.invokevirtual 35, 3) := by decide +kernel
theorem dL_law_310 : decode cL_law 310 = .ok (.if_icmp .eq 837, 3) := by decide +kernel
theorem dL_law_313 : decode cL_law 313 = .ok (.iconst 0, 1) := by decide +kernel
theorem dL_law_314 : decode cL_law 314 = .ok (.ireturn, 1) := by decide +kernel
theorem dL_law_315 : decode cL_law 315 = .ok (.aload_n 1, 1) := by decide +kernel
theorem dL_law_316 : decode cL_law 316 = .ok (.aload_n 0, 1) := by decide +kernel
theorem dL_law_317 : decode cL_law 317 = .ok (.iload_n 3, 1) := by decide +kernel
theorem dL_law_318 : decode cL_law 318 = .ok (.iconst 1, 1) := by decide +kernel
theorem dL_law_319 : decode cL_law 319 = .ok (.iadd, 1) := by decide +kernel
theorem dL_law_320 : decode cL_law 320 = .ok (.iaload, 1) := by decide +kernel
theorem dL_law_321 : decode cL_law 321 = .ok (.aload_n 0, 1) := by decide +kernel
theorem dL_law_322 : decode cL_law 322 = .ok (.iload_n 3, 1) := by decide +kernel
theorem dL_law_323 : decode cL_law 323 = .ok (.iconst 2, 1) := by decide +kernel
theorem dL_law_324 : decode cL_law 324 = .ok (.iadd, 1) := by decide +kernel
theorem dL_law_325 : decode cL_law 325 = .ok (.iaload, 1) := by decide +kernel
theorem dL_law_326 : decode cL_law 326 = .ok (.invokevirtual 36, 3) := by decide +kernel
theorem dL_law_329 : decode cL_law 329 = .ok (.aload_n 2, 1) := by decide +kernel
theorem dL_law_330 : decode cL_law 330 = .ok (.aload_n 0, 1) := by decide +kernel
theorem dL_law_331 : decode cL_law 331 = .ok (.iload_n 3, 1) := by decide +kernel
theorem dL_law_332 : decode cL_law 332 = .ok (.iconst 1, 1) := by decide +kernel
theorem dL_law_333 : decode cL_law 333 = .ok (.iadd, 1) := by decide +kernel
theorem dL_law_334 : decode cL_law 334 = .ok (.iaload, 1) := by decide +kernel
theorem dL_law_335 : decode cL_law 335 = .ok (.aload_n 0, 1) := by decide +kernel
theorem dL_law_336 : decode cL_law 336 = .ok (.iload_n 3, 1) := by decide +kernel
theorem dL_law_337 : decode cL_law 337 = .ok (.iconst 2, 1) := by decide +kernel
theorem dL_law_338 : decode cL_law 338 = .ok (.iadd, 1) := by decide +kernel
theorem dL_law_339 : decode cL_law 339 = .ok (.iaload, 1) := by decide +kernel
theorem dL_law_340 : decode cL_law 340 = .ok (.invokevirtual 39, 3) := by decide +kernel
theorem dL_law_343 : decode cL_law 343 = .ok (.if_icmp .eq 804, 3) := by decide +kernel
theorem dL_law_346 : decode cL_law 346 = .ok (.iconst 0, 1) := by decide +kernel
theorem dL_law_347 : decode cL_law 347 = .ok (.ireturn, 1) := by decide +kernel
theorem dL_law_348 : decode cL_law 348 = .ok (.aload_n 1, 1) := by decide +kernel
theorem dL_law_349 : decode cL_law 349 = .ok (.aload_n 0, 1) := by decide +kernel
theorem dL_law_350 : decode cL_law 350 = .ok (.iload_n 3, 1) := by decide +kernel
theorem dL_law_351 : decode cL_law 351 = .ok (.iconst 1, 1) := by decide +kernel
theorem dL_law_352 : decode cL_law 352 = .ok (.iadd, 1) := by decide +kernel
theorem dL_law_353 : decode cL_law 353 = .ok (.iaload, 1) := by decide +kernel
theorem dL_law_354 : decode cL_law 354 = .ok (.aload_n 0, 1) := by decide +kernel
theorem dL_law_355 : decode cL_law 355 = .ok (.iload_n 3, 1) := by decide +kernel
theorem dL_law_356 : decode cL_law 356 = .ok (.iconst 2, 1) := by decide +kernel
theorem dL_law_357 : decode cL_law 357 = .ok (.iadd, 1) := by decide +kernel
theorem dL_law_358 : decode cL_law 358 = .ok (.iaload, 1) := by decide +kernel
theorem dL_law_359 : decode cL_law 359 = .ok (.invokevirtual 40, 3) := by decide +kernel
theorem dL_law_362 : decode cL_law 362 = .ok (.aload_n 2, 1) := by decide +kernel
theorem dL_law_363 : decode cL_law 363 = .ok (.aload_n 0, 1) := by decide +kernel
theorem dL_law_364 : decode cL_law 364 = .ok (.iload_n 3, 1) := by decide +kernel
theorem dL_law_365 : decode cL_law 365 = .ok (.iconst 1, 1) := by decide +kernel
theorem dL_law_366 : decode cL_law 366 = .ok (.iadd, 1) := by decide +kernel
theorem dL_law_367 : decode cL_law 367 = .ok (.iaload, 1) := by decide +kernel
theorem dL_law_368 : decode cL_law 368 = .ok (.aload_n 0, 1) := by decide +kernel
theorem dL_law_369 : decode cL_law 369 = .ok (.iload_n 3, 1) := by decide +kernel
theorem dL_law_370 : decode cL_law 370 = .ok (.iconst 2, 1) := by decide +kernel
theorem dL_law_371 : decode cL_law 371 = .ok (.iadd, 1) := by decide +kernel
theorem dL_law_372 : decode cL_law 372 = .ok (.iaload, 1) := by decide +kernel
theorem dL_law_373 : decode cL_law 373 = .ok (.invokevirtual 43, 3) := by decide +kernel
theorem dL_law_376 : decode cL_law 376 = .ok (.if_icmp .eq 771, 3) := by decide +kernel
theorem dL_law_379 : decode cL_law 379 = .ok (.iconst 0, 1) := by decide +kernel
theorem dL_law_380 : decode cL_law 380 = .ok (.ireturn, 1) := by decide +kernel
theorem dL_law_381 : decode cL_law 381 = .ok (.aload_n 1, 1) := by decide +kernel
theorem dL_law_382 : decode cL_law 382 = .ok (.aload_n 0, 1) := by decide +kernel
theorem dL_law_383 : decode cL_law 383 = .ok (.iload_n 3, 1) := by decide +kernel
theorem dL_law_384 : decode cL_law 384 = .ok (.iconst 1, 1) := by decide +kernel
theorem dL_law_385 : decode cL_law 385 = .ok (.iadd, 1) := by decide +kernel
theorem dL_law_386 : decode cL_law 386 = .ok (.iaload, 1) := by decide +kernel
theorem dL_law_387 : decode cL_law 387 = .ok (.aload_n 0, 1) := by decide +kernel
theorem dL_law_388 : decode cL_law 388 = .ok (.iload_n 3, 1) := by decide +kernel
theorem dL_law_389 : decode cL_law 389 = .ok (.iconst 2, 1) := by decide +kernel
theorem dL_law_390 : decode cL_law 390 = .ok (.iadd, 1) := by decide +kernel
theorem dL_law_391 : decode cL_law 391 = .ok (.iaload, 1) := by decide +kernel
theorem dL_law_392 : decode cL_law 392 = .ok (.invokevirtual 44, 3) := by decide +kernel
theorem dL_law_395 : decode cL_law 395 = .ok (.aload_n 2, 1) := by decide +kernel
theorem dL_law_396 : decode cL_law 396 = .ok (.aload_n 0, 1) := by decide +kernel
theorem dL_law_397 : decode cL_law 397 = .ok (.iload_n 3, 1) := by decide +kernel
theorem dL_law_398 : decode cL_law 398 = .ok (.iconst 1, 1) := by decide +kernel
theorem dL_law_399 : decode cL_law 399 = .ok (.iadd, 1) := by decide +kernel
theorem dL_law_400 : decode cL_law 400 = .ok (.iaload, 1) := by decide +kernel
theorem dL_law_401 : decode cL_law 401 = .ok (.aload_n 0, 1) := by decide +kernel
theorem dL_law_402 : decode cL_law 402 = .ok (.iload_n 3, 1) := by decide +kernel
theorem dL_law_403 : decode cL_law 403 = .ok (.iconst 2, 1) := by decide +kernel
theorem dL_law_404 : decode cL_law 404 = .ok (.iadd, 1) := by decide +kernel
theorem dL_law_405 : decode cL_law 405 = .ok (.iaload, 1) := by decide +kernel
theorem dL_law_406 : decode cL_law 406 = .ok (.invokevirtual 47, 3) := by decide +kernel
theorem dL_law_409 : decode cL_law 409 = .ok (.if_icmp .eq 738, 3) := by decide +kernel
theorem dL_law_412 : decode cL_law 412 = .ok (.iconst 0, 1) := by decide +kernel
theorem dL_law_413 : decode cL_law 413 = .ok (.ireturn, 1) := by decide +kernel
theorem dL_law_414 : decode cL_law 414 = .ok (.aload_n 1, 1) := by decide +kernel
theorem dL_law_415 : decode cL_law 415 = .ok (.aload_n 0, 1) := by decide +kernel
theorem dL_law_416 : decode cL_law 416 = .ok (.iload_n 3, 1) := by decide +kernel
theorem dL_law_417 : decode cL_law 417 = .ok (.iconst 1, 1) := by decide +kernel
theorem dL_law_418 : decode cL_law 418 = .ok (.iadd, 1) := by decide +kernel
theorem dL_law_419 : decode cL_law 419 = .ok (.iaload, 1) := by decide +kernel
theorem dL_law_420 : decode cL_law 420 = .ok (.invokevirtual 48, 3) := by decide +kernel
theorem dL_law_423 : decode cL_law 423 = .ok (.aload_n 2, 1) := by decide +kernel
theorem dL_law_424 : decode cL_law 424 = .ok (.aload_n 0, 1) := by decide +kernel
theorem dL_law_425 : decode cL_law 425 = .ok (.iload_n 3, 1) := by decide +kernel
theorem dL_law_426 : decode cL_law 426 = .ok (.iconst 1, 1) := by decide +kernel
theorem dL_law_427 : decode cL_law 427 = .ok (.iadd, 1) := by decide +kernel
theorem dL_law_428 : decode cL_law 428 = .ok (.iaload, 1) := by decide +kernel
theorem dL_law_429 : decode cL_law 429 = .ok (.invokevirtual 51, 3) := by decide +kernel
theorem dL_law_432 : decode cL_law 432 = .ok (.if_icmp .eq 715, 3) := by decide +kernel
theorem dL_law_435 : decode cL_law 435 = .ok (.iconst 0, 1) := by decide +kernel
theorem dL_law_436 : decode cL_law 436 = .ok (.ireturn, 1) := by decide +kernel
theorem dL_law_437 : decode cL_law 437 = .ok (.aload_n 1, 1) := by decide +kernel
theorem dL_law_438 : decode cL_law 438 = .ok (.aload_n 0, 1) := by decide +kernel
theorem dL_law_439 : decode cL_law 439 = .ok (.iload_n 3, 1) := by decide +kernel
theorem dL_law_440 : decode cL_law 440 = .ok (.iconst 1, 1) := by decide +kernel
theorem dL_law_441 : decode cL_law 441 = .ok (.iadd, 1) := by decide +kernel
theorem dL_law_442 : decode cL_law 442 = .ok (.iaload, 1) := by decide +kernel
theorem dL_law_443 : decode cL_law 443 = .ok (.invokevirtual 52, 3) := by decide +kernel
theorem dL_law_446 : decode cL_law 446 = .ok (.aload_n 2, 1) := by decide +kernel
theorem dL_law_447 : decode cL_law 447 = .ok (.aload_n 0, 1) := by decide +kernel
theorem dL_law_448 : decode cL_law 448 = .ok (.iload_n 3, 1) := by decide +kernel
theorem dL_law_449 : decode cL_law 449 = .ok (.iconst 1, 1) := by decide +kernel
theorem dL_law_450 : decode cL_law 450 = .ok (.iadd, 1) := by decide +kernel
theorem dL_law_451 : decode cL_law 451 = .ok (.iaload, 1) := by decide +kernel
theorem dL_law_452 : decode cL_law 452 = .ok (.invokevirtual 55, 3) := by decide +kernel
theorem dL_law_455 : decode cL_law 455 = .ok (.if_icmp .eq 692, 3) := by decide +kernel
theorem dL_law_458 : decode cL_law 458 = .ok (.iconst 0, 1) := by decide +kernel
theorem dL_law_459 : decode cL_law 459 = .ok (.ireturn, 1) := by decide +kernel
theorem dL_law_460 : decode cL_law 460 = .ok (.aload_n 1, 1) := by decide +kernel
theorem dL_law_461 : decode cL_law 461 = .ok (.aload_n 0, 1) := by decide +kernel
theorem dL_law_462 : decode cL_law 462 = .ok (.iload_n 3, 1) := by decide +kernel
theorem dL_law_463 : decode cL_law 463 = .ok (.iconst 1, 1) := by decide +kernel
theorem dL_law_464 : decode cL_law 464 = .ok (.iadd, 1) := by decide +kernel
theorem dL_law_465 : decode cL_law 465 = .ok (.iaload, 1) := by decide +kernel
theorem dL_law_466 : decode cL_law 466 = .ok (.invokevirtual 56, 3) := by decide +kernel
theorem dL_law_469 : decode cL_law 469 = .ok (.aload_n 2, 1) := by decide +kernel
theorem dL_law_470 : decode cL_law 470 = .ok (.aload_n 0, 1) := by decide +kernel
theorem dL_law_471 : decode cL_law 471 = .ok (.iload_n 3, 1) := by decide +kernel
theorem dL_law_472 : decode cL_law 472 = .ok (.iconst 1, 1) := by decide +kernel
theorem dL_law_473 : decode cL_law 473 = .ok (.iadd, 1) := by decide +kernel
theorem dL_law_474 : decode cL_law 474 = .ok (.iaload, 1) := by decide +kernel
theorem dL_law_475 : decode cL_law 475 = .ok (.invokevirtual 59, 3) := by decide +kernel
theorem dL_law_478 : decode cL_law 478 = .ok (.if_icmp .eq 669, 3) := by decide +kernel
theorem dL_law_481 : decode cL_law 481 = .ok (.iconst 0, 1) := by decide +kernel
theorem dL_law_482 : decode cL_law 482 = .ok (.ireturn, 1) := by decide +kernel
theorem dL_law_483 : decode cL_law 483 = .ok (.aload_n 1, 1) := by decide +kernel
theorem dL_law_484 : decode cL_law 484 = .ok (.aload_n 0, 1) := by decide +kernel
theorem dL_law_485 : decode cL_law 485 = .ok (.iload_n 3, 1) := by decide +kernel
theorem dL_law_486 : decode cL_law 486 = .ok (.iconst 1, 1) := by decide +kernel
theorem dL_law_487 : decode cL_law 487 = .ok (.iadd, 1) := by decide +kernel
theorem dL_law_488 : decode cL_law 488 = .ok (.iaload, 1) := by decide +kernel
theorem dL_law_489 : decode cL_law 489 = .ok (.aload_n 0, 1) := by decide +kernel
theorem dL_law_490 : decode cL_law 490 = .ok (.iload_n 3, 1) := by decide +kernel
theorem dL_law_491 : decode cL_law 491 = .ok (.iconst 2, 1) := by decide +kernel
theorem dL_law_492 : decode cL_law 492 = .ok (.iadd, 1) := by decide +kernel
theorem dL_law_493 : decode cL_law 493 = .ok (.iaload, 1) := by decide +kernel
theorem dL_law_494 : decode cL_law 494 = .ok (.invokevirtual 60, 3) := by decide +kernel
theorem dL_law_497 : decode cL_law 497 = .ok (.aload_n 2, 1) := by decide +kernel
theorem dL_law_498 : decode cL_law 498 = .ok (.aload_n 0, 1) := by decide +kernel
theorem dL_law_499 : decode cL_law 499 = .ok (.iload_n 3, 1) := by decide +kernel
theorem dL_law_500 : decode cL_law 500 = .ok (.iconst 1, 1) := by decide +kernel
theorem dL_law_501 : decode cL_law 501 = .ok (.iadd, 1) := by decide +kernel
theorem dL_law_502 : decode cL_law 502 = .ok (.iaload, 1) := by decide +kernel
theorem dL_law_503 : decode cL_law 503 = .ok (.aload_n 0, 1) := by decide +kernel
theorem dL_law_504 : decode cL_law 504 = .ok (.iload_n 3, 1) := by decide +kernel
theorem dL_law_505 : decode cL_law 505 = .ok (.iconst 2, 1) := by decide +kernel
theorem dL_law_506 : decode cL_law 506 = .ok (.iadd, 1) := by decide +kernel
theorem dL_law_507 : decode cL_law 507 = .ok (.iaload, 1) := by decide +kernel
theorem dL_law_508 : decode cL_law 508 = .ok (.invokevirtual 63, 3) := by decide +kernel
theorem dL_law_511 : decode cL_law 511 = .ok (.if_icmp .eq 636, 3) := by decide +kernel
theorem dL_law_514 : decode cL_law 514 = .ok (.iconst 0, 1) := by decide +kernel
theorem dL_law_515 : decode cL_law 515 = .ok (.ireturn, 1) := by decide +kernel
theorem dL_law_516 : decode cL_law 516 = .ok (.aload_n 1, 1) := by decide +kernel
theorem dL_law_517 : decode cL_law 517 = .ok (.aload_n 0, 1) := by decide +kernel
theorem dL_law_518 : decode cL_law 518 = .ok (.iload_n 3, 1) := by decide +kernel
theorem dL_law_519 : decode cL_law 519 = .ok (.iconst 1, 1) := by decide +kernel
theorem dL_law_520 : decode cL_law 520 = .ok (.iadd, 1) := by decide +kernel
theorem dL_law_521 : decode cL_law 521 = .ok (.iaload, 1) := by decide +kernel
theorem dL_law_522 : decode cL_law 522 = .ok (.aload_n 0, 1) := by decide +kernel
theorem dL_law_523 : decode cL_law 523 = .ok (.iload_n 3, 1) := by decide +kernel
theorem dL_law_524 : decode cL_law 524 = .ok (.iconst 2, 1) := by decide +kernel
theorem dL_law_525 : decode cL_law 525 = .ok (.iadd, 1) := by decide +kernel
theorem dL_law_526 : decode cL_law 526 = .ok (.iaload, 1) := by decide +kernel
theorem dL_law_527 : decode cL_law 527 = .ok (.aload_n 0, 1) := by decide +kernel
theorem dL_law_528 : decode cL_law 528 = .ok (.iload_n 3, 1) := by decide +kernel
theorem dL_law_529 : decode cL_law 529 = .ok (.iconst 3, 1) := by decide +kernel
theorem dL_law_530 : decode cL_law 530 = .ok (.iadd, 1) := by decide +kernel
theorem dL_law_531 : decode cL_law 531 = .ok (.iaload, 1) := by decide +kernel
theorem dL_law_532 : decode cL_law 532 = .ok (.invokevirtual 64, 3) := by decide +kernel
theorem dL_law_535 : decode cL_law 535 = .ok (.aload_n 2, 1) := by decide +kernel
theorem dL_law_536 : decode cL_law 536 = .ok (.aload_n 0, 1) := by decide +kernel
theorem dL_law_537 : decode cL_law 537 = .ok (.iload_n 3, 1) := by decide +kernel
theorem dL_law_538 : decode cL_law 538 = .ok (.iconst 1, 1) := by decide +kernel
theorem dL_law_539 : decode cL_law 539 = .ok (.iadd, 1) := by decide +kernel
theorem dL_law_540 : decode cL_law 540 = .ok (.iaload, 1) := by decide +kernel
theorem dL_law_541 : decode cL_law 541 = .ok (.aload_n 0, 1) := by decide +kernel
theorem dL_law_542 : decode cL_law 542 = .ok (.iload_n 3, 1) := by decide +kernel
theorem dL_law_543 : decode cL_law 543 = .ok (.iconst 2, 1) := by decide +kernel
theorem dL_law_544 : decode cL_law 544 = .ok (.iadd, 1) := by decide +kernel
theorem dL_law_545 : decode cL_law 545 = .ok (.iaload, 1) := by decide +kernel
theorem dL_law_546 : decode cL_law 546 = .ok (.aload_n 0, 1) := by decide +kernel
theorem dL_law_547 : decode cL_law 547 = .ok (.iload_n 3, 1) := by decide +kernel
theorem dL_law_548 : decode cL_law 548 = .ok (.iconst 3, 1) := by decide +kernel
theorem dL_law_549 : decode cL_law 549 = .ok (.iadd, 1) := by decide +kernel
theorem dL_law_550 : decode cL_law 550 = .ok (.iaload, 1) := by decide +kernel
theorem dL_law_551 : decode cL_law 551 = .ok (.invokevirtual 68, 3) := by decide +kernel
theorem dL_law_554 : decode cL_law 554 = .ok (.if_icmp .eq 593, 3) := by decide +kernel
theorem dL_law_557 : decode cL_law 557 = .ok (.iconst 0, 1) := by decide +kernel
theorem dL_law_558 : decode cL_law 558 = .ok (.ireturn, 1) := by decide +kernel
theorem dL_law_559 : decode cL_law 559 = .ok (.aload_n 1, 1) := by decide +kernel
theorem dL_law_560 : decode cL_law 560 = .ok (.aload_n 0, 1) := by decide +kernel
theorem dL_law_561 : decode cL_law 561 = .ok (.iload_n 3, 1) := by decide +kernel
theorem dL_law_562 : decode cL_law 562 = .ok (.iconst 1, 1) := by decide +kernel
theorem dL_law_563 : decode cL_law 563 = .ok (.iadd, 1) := by decide +kernel
theorem dL_law_564 : decode cL_law 564 = .ok (.iaload, 1) := by decide +kernel
theorem dL_law_565 : decode cL_law 565 = .ok (.aload_n 0, 1) := by decide +kernel
theorem dL_law_566 : decode cL_law 566 = .ok (.iload_n 3, 1) := by decide +kernel
theorem dL_law_567 : decode cL_law 567 = .ok (.iconst 2, 1) := by decide +kernel
theorem dL_law_568 : decode cL_law 568 = .ok (.iadd, 1) := by decide +kernel
theorem dL_law_569 : decode cL_law 569 = .ok (.iaload, 1) := by decide +kernel
theorem dL_law_570 : decode cL_law 570 = .ok (.aload_n 0, 1) := by decide +kernel
theorem dL_law_571 : decode cL_law 571 = .ok (.iload_n 3, 1) := by decide +kernel
theorem dL_law_572 : decode cL_law 572 = .ok (.iconst 3, 1) := by decide +kernel
theorem dL_law_573 : decode cL_law 573 = .ok (.iadd, 1) := by decide +kernel
theorem dL_law_574 : decode cL_law 574 = .ok (.iaload, 1) := by decide +kernel
theorem dL_law_575 : decode cL_law 575 = .ok (.aload_n 0, 1) := by decide +kernel
theorem dL_law_576 : decode cL_law 576 = .ok (.iload_n 3, 1) := by decide +kernel
theorem dL_law_577 : decode cL_law 577 = .ok (.iconst 4, 1) := by decide +kernel
theorem dL_law_578 : decode cL_law 578 = .ok (.iadd, 1) := by decide +kernel
theorem dL_law_579 : decode cL_law 579 = .ok (.iaload, 1) := by decide +kernel
theorem dL_law_580 : decode cL_law 580 = .ok (.invokevirtual 69, 3) := by decide +kernel
theorem dL_law_583 : decode cL_law 583 = .ok (.aload_n 2, 1) := by decide +kernel
theorem dL_law_584 : decode cL_law 584 = .ok (.aload_n 0, 1) := by decide +kernel
theorem dL_law_585 : decode cL_law 585 = .ok (.iload_n 3, 1) := by decide +kernel
theorem dL_law_586 : decode cL_law 586 = .ok (.iconst 1, 1) := by decide +kernel
theorem dL_law_587 : decode cL_law 587 = .ok (.iadd, 1) := by decide +kernel
theorem dL_law_588 : decode cL_law 588 = .ok (.iaload, 1) := by decide +kernel
theorem dL_law_589 : decode cL_law 589 = .ok (.aload_n 0, 1) := by decide +kernel
theorem dL_law_590 : decode cL_law 590 = .ok (.iload_n 3, 1) := by decide +kernel
theorem dL_law_591 : decode cL_law 591 = .ok (.iconst 2, 1) := by decide +kernel
theorem dL_law_592 : decode cL_law 592 = .ok (.iadd, 1) := by decide +kernel
theorem dL_law_593 : decode cL_law 593 = .ok (.iaload, 1) := by decide +kernel
theorem dL_law_594 : decode cL_law 594 = .ok (.aload_n 0, 1) := by decide +kernel
theorem dL_law_595 : decode cL_law 595 = .ok (.iload_n 3, 1) := by decide +kernel
theorem dL_law_596 : decode cL_law 596 = .ok (.iconst 3, 1) := by decide +kernel
theorem dL_law_597 : decode cL_law 597 = .ok (.iadd, 1) := by decide +kernel
theorem dL_law_598 : decode cL_law 598 = .ok (.iaload, 1) := by decide +kernel
theorem dL_law_599 : decode cL_law 599 = .ok (.aload_n 0, 1) := by decide +kernel
theorem dL_law_600 : decode cL_law 600 = .ok (.iload_n 3, 1) := by decide +kernel
theorem dL_law_601 : decode cL_law 601 = .ok (.iconst 4, 1) := by decide +kernel
theorem dL_law_602 : decode cL_law 602 = .ok (.iadd, 1) := by decide +kernel
theorem dL_law_603 : decode cL_law 603 = .ok (.iaload, 1) := by decide +kernel
theorem dL_law_604 : decode cL_law 604 = .ok (.invokevirtual 73, 3) := by decide +kernel
theorem dL_law_607 : decode cL_law 607 = .ok (.if_icmp .eq 540, 3) := by decide +kernel
theorem dL_law_610 : decode cL_law 610 = .ok (.iconst 0, 1) := by decide +kernel
theorem dL_law_611 : decode cL_law 611 = .ok (.ireturn, 1) := by decide +kernel
theorem dL_law_612 : decode cL_law 612 = .ok (.aload_n 1, 1) := by decide +kernel
theorem dL_law_613 : decode cL_law 613 = .ok (.aload_n 0, 1) := by decide +kernel
theorem dL_law_614 : decode cL_law 614 = .ok (.iload_n 3, 1) := by decide +kernel
theorem dL_law_615 : decode cL_law 615 = .ok (.iconst 1, 1) := by decide +kernel
theorem dL_law_616 : decode cL_law 616 = .ok (.iadd, 1) := by decide +kernel
theorem dL_law_617 : decode cL_law 617 = .ok (.iaload, 1) := by decide +kernel
theorem dL_law_618 : decode cL_law 618 = .ok (.aload_n 0, 1) := by decide +kernel
theorem dL_law_619 : decode cL_law 619 = .ok (.iload_n 3, 1) := by decide +kernel
theorem dL_law_620 : decode cL_law 620 = .ok (.iconst 2, 1) := by decide +kernel
theorem dL_law_621 : decode cL_law 621 = .ok (.iadd, 1) := by decide +kernel
theorem dL_law_622 : decode cL_law 622 = .ok (.iaload, 1) := by decide +kernel
theorem dL_law_623 : decode cL_law 623 = .ok (.aload_n 0, 1) := by decide +kernel
theorem dL_law_624 : decode cL_law 624 = .ok (.iload_n 3, 1) := by decide +kernel
theorem dL_law_625 : decode cL_law 625 = .ok (.iconst 3, 1) := by decide +kernel
theorem dL_law_626 : decode cL_law 626 = .ok (.iadd, 1) := by decide +kernel
theorem dL_law_627 : decode cL_law 627 = .ok (.iaload, 1) := by decide +kernel
theorem dL_law_628 : decode cL_law 628 = .ok (.invokevirtual 74, 3) := by decide +kernel
theorem dL_law_631 : decode cL_law 631 = .ok (.aload_n 2, 1) := by decide +kernel
theorem dL_law_632 : decode cL_law 632 = .ok (.aload_n 0, 1) := by decide +kernel
theorem dL_law_633 : decode cL_law 633 = .ok (.iload_n 3, 1) := by decide +kernel
theorem dL_law_634 : decode cL_law 634 = .ok (.iconst 1, 1) := by decide +kernel
theorem dL_law_635 : decode cL_law 635 = .ok (.iadd, 1) := by decide +kernel
theorem dL_law_636 : decode cL_law 636 = .ok (.iaload, 1) := by decide +kernel
theorem dL_law_637 : decode cL_law 637 = .ok (.aload_n 0, 1) := by decide +kernel
theorem dL_law_638 : decode cL_law 638 = .ok (.iload_n 3, 1) := by decide +kernel
theorem dL_law_639 : decode cL_law 639 = .ok (.iconst 2, 1) := by decide +kernel
theorem dL_law_640 : decode cL_law 640 = .ok (.iadd, 1) := by decide +kernel
theorem dL_law_641 : decode cL_law 641 = .ok (.iaload, 1) := by decide +kernel
theorem dL_law_642 : decode cL_law 642 = .ok (.aload_n 0, 1) := by decide +kernel
theorem dL_law_643 : decode cL_law 643 = .ok (.iload_n 3, 1) := by decide +kernel
theorem dL_law_644 : decode cL_law 644 = .ok (.iconst 3, 1) := by decide +kernel
theorem dL_law_645 : decode cL_law 645 = .ok (.iadd, 1) := by decide +kernel
theorem dL_law_646 : decode cL_law 646 = .ok (.iaload, 1) := by decide +kernel
theorem dL_law_647 : decode cL_law 647 = .ok (.invokevirtual 77, 3) := by decide +kernel
theorem dL_law_650 : decode cL_law 650 = .ok (.if_icmp .eq 497, 3) := by decide +kernel
theorem dL_law_653 : decode cL_law 653 = .ok (.iconst 0, 1) := by decide +kernel
theorem dL_law_654 : decode cL_law 654 = .ok (.ireturn, 1) := by decide +kernel
theorem dL_law_655 : decode cL_law 655 = .ok (.aload_n 1, 1) := by decide +kernel
theorem dL_law_656 : decode cL_law 656 = .ok (.invokevirtual 78, 3) := by decide +kernel
theorem dL_law_659 : decode cL_law 659 = .ok (.aload_n 2, 1) := by decide +kernel
theorem dL_law_660 : decode cL_law 660 = .ok (.invokevirtual 81, 3) := by decide +kernel
theorem dL_law_663 : decode cL_law 663 = .ok (.if_icmp .eq 484, 3) := by decide +kernel
theorem dL_law_666 : decode cL_law 666 = .ok (.iconst 0, 1) := by decide +kernel
theorem dL_law_667 : decode cL_law 667 = .ok (.ireturn, 1) := by decide +kernel
theorem dL_law_668 : decode cL_law 668 = .ok (.aload_n 1, 1) := by decide +kernel
theorem dL_law_669 : decode cL_law 669 = .ok (.aload_n 0, 1) := by decide +kernel
theorem dL_law_670 : decode cL_law 670 = .ok (.iload_n 3, 1) := by decide +kernel
theorem dL_law_671 : decode cL_law 671 = .ok (.iconst 1, 1) := by decide +kernel
theorem dL_law_672 : decode cL_law 672 = .ok (.iadd, 1) := by decide +kernel
theorem dL_law_673 : decode cL_law 673 = .ok (.iaload, 1) := by decide +kernel
theorem dL_law_674 : decode cL_law 674 = .ok (.aload_n 0, 1) := by decide +kernel
theorem dL_law_675 : decode cL_law 675 = .ok (.iload_n 3, 1) := by decide +kernel
theorem dL_law_676 : decode cL_law 676 = .ok (.iconst 2, 1) := by decide +kernel
theorem dL_law_677 : decode cL_law 677 = .ok (.iadd, 1) := by decide +kernel
theorem dL_law_678 : decode cL_law 678 = .ok (.iaload, 1) := by decide +kernel
theorem dL_law_679 : decode cL_law 679 = .ok (.invokevirtual 82, 3) := by decide +kernel
theorem dL_law_682 : decode cL_law 682 = .ok (.aload_n 2, 1) := by decide +kernel
theorem dL_law_683 : decode cL_law 683 = .ok (.aload_n 0, 1) := by decide +kernel
theorem dL_law_684 : decode cL_law 684 = .ok (.iload_n 3, 1) := by decide +kernel
theorem dL_law_685 : decode cL_law 685 = .ok (.iconst 1, 1) := by decide +kernel
theorem dL_law_686 : decode cL_law 686 = .ok (.iadd, 1) := by decide +kernel
theorem dL_law_687 : decode cL_law 687 = .ok (.iaload, 1) := by decide +kernel
theorem dL_law_688 : decode cL_law 688 = .ok (.aload_n 0, 1) := by decide +kernel
theorem dL_law_689 : decode cL_law 689 = .ok (.iload_n 3, 1) := by decide +kernel
theorem dL_law_690 : decode cL_law 690 = .ok (.iconst 2, 1) := by decide +kernel
theorem dL_law_691 : decode cL_law 691 = .ok (.iadd, 1) := by decide +kernel
theorem dL_law_692 : decode cL_law 692 = .ok (.iaload, 1) := by decide +kernel
theorem dL_law_693 : decode cL_law 693 = .ok (.invokevirtual 85, 3) := by decide +kernel
theorem dL_law_696 : decode cL_law 696 = .ok (.if_icmp .eq 451, 3) := by decide +kernel
theorem dL_law_699 : decode cL_law 699 = .ok (.iconst 0, 1) := by decide +kernel
theorem dL_law_700 : decode cL_law 700 = .ok (.ireturn, 1) := by decide +kernel
theorem dL_law_701 : decode cL_law 701 = .ok (.aload_n 1, 1) := by decide +kernel
theorem dL_law_702 : decode cL_law 702 = .ok (.invokevirtual 86, 3) := by decide +kernel
theorem dL_law_705 : decode cL_law 705 = .ok (.aload_n 2, 1) := by decide +kernel
theorem dL_law_706 : decode cL_law 706 = .ok (.invokevirtual 89, 3) := by decide +kernel
theorem dL_law_709 : decode cL_law 709 = .ok (.if_icmp .eq 438, 3) := by decide +kernel
theorem dL_law_712 : decode cL_law 712 = .ok (.iconst 0, 1) := by decide +kernel
theorem dL_law_713 : decode cL_law 713 = .ok (.ireturn, 1) := by decide +kernel
theorem dL_law_714 : decode cL_law 714 = .ok (.aload_n 1, 1) := by decide +kernel
theorem dL_law_715 : decode cL_law 715 = .ok (.aload_n 0, 1) := by decide +kernel
theorem dL_law_716 : decode cL_law 716 = .ok (.iload_n 3, 1) := by decide +kernel
theorem dL_law_717 : decode cL_law 717 = .ok (.iconst 1, 1) := by decide +kernel
theorem dL_law_718 : decode cL_law 718 = .ok (.iadd, 1) := by decide +kernel
theorem dL_law_719 : decode cL_law 719 = .ok (.iaload, 1) := by decide +kernel
theorem dL_law_720 : decode cL_law 720 = .ok (.invokevirtual 90, 3) := by decide +kernel
theorem dL_law_723 : decode cL_law 723 = .ok (.aload_n 2, 1) := by decide +kernel
theorem dL_law_724 : decode cL_law 724 = .ok (.aload_n 0, 1) := by decide +kernel
theorem dL_law_725 : decode cL_law 725 = .ok (.iload_n 3, 1) := by decide +kernel
theorem dL_law_726 : decode cL_law 726 = .ok (.iconst 1, 1) := by decide +kernel
theorem dL_law_727 : decode cL_law 727 = .ok (.iadd, 1) := by decide +kernel
theorem dL_law_728 : decode cL_law 728 = .ok (.iaload, 1) := by decide +kernel
theorem dL_law_729 : decode cL_law 729 = .ok (.invokevirtual 93, 3) := by decide +kernel
theorem dL_law_732 : decode cL_law 732 = .ok (.if_icmp .eq 415, 3) := by decide +kernel
theorem dL_law_735 : decode cL_law 735 = .ok (.iconst 0, 1) := by decide +kernel
theorem dL_law_736 : decode cL_law 736 = .ok (.ireturn, 1) := by decide +kernel
theorem dL_law_737 : decode cL_law 737 = .ok (.aload_n 1, 1) := by decide +kernel
theorem dL_law_738 : decode cL_law 738 = .ok (.aload_n 0, 1) := by decide +kernel
theorem dL_law_739 : decode cL_law 739 = .ok (.iload_n 3, 1) := by decide +kernel
theorem dL_law_740 : decode cL_law 740 = .ok (.iconst 1, 1) := by decide +kernel
theorem dL_law_741 : decode cL_law 741 = .ok (.iadd, 1) := by decide +kernel
theorem dL_law_742 : decode cL_law 742 = .ok (.iaload, 1) := by decide +kernel
theorem dL_law_743 : decode cL_law 743 = .ok (.aload_n 0, 1) := by decide +kernel
theorem dL_law_744 : decode cL_law 744 = .ok (.iload_n 3, 1) := by decide +kernel
theorem dL_law_745 : decode cL_law 745 = .ok (.iconst 2, 1) := by decide +kernel
theorem dL_law_746 : decode cL_law 746 = .ok (.iadd, 1) := by decide +kernel
theorem dL_law_747 : decode cL_law 747 = .ok (.iaload, 1) := by decide +kernel
theorem dL_law_748 : decode cL_law 748 = .ok (.aload_n 0, 1) := by decide +kernel
theorem dL_law_749 : decode cL_law 749 = .ok (.iload_n 3, 1) := by decide +kernel
theorem dL_law_750 : decode cL_law 750 = .ok (.iconst 3, 1) := by decide +kernel
theorem dL_law_751 : decode cL_law 751 = .ok (.iadd, 1) := by decide +kernel
theorem dL_law_752 : decode cL_law 752 = .ok (.iaload, 1) := by decide +kernel
theorem dL_law_753 : decode cL_law 753 = .ok (.invokevirtual 94, 3) := by decide +kernel
theorem dL_law_756 : decode cL_law 756 = .ok (.aload_n 2, 1) := by decide +kernel
theorem dL_law_757 : decode cL_law 757 = .ok (.aload_n 0, 1) := by decide +kernel
theorem dL_law_758 : decode cL_law 758 = .ok (.iload_n 3, 1) := by decide +kernel
theorem dL_law_759 : decode cL_law 759 = .ok (.iconst 1, 1) := by decide +kernel
theorem dL_law_760 : decode cL_law 760 = .ok (.iadd, 1) := by decide +kernel
theorem dL_law_761 : decode cL_law 761 = .ok (.iaload, 1) := by decide +kernel
theorem dL_law_762 : decode cL_law 762 = .ok (.aload_n 0, 1) := by decide +kernel
theorem dL_law_763 : decode cL_law 763 = .ok (.iload_n 3, 1) := by decide +kernel
theorem dL_law_764 : decode cL_law 764 = .ok (.iconst 2, 1) := by decide +kernel
theorem dL_law_765 : decode cL_law 765 = .ok (.iadd, 1) := by decide +kernel
theorem dL_law_766 : decode cL_law 766 = .ok (.iaload, 1) := by decide +kernel
theorem dL_law_767 : decode cL_law 767 = .ok (.aload_n 0, 1) := by decide +kernel
theorem dL_law_768 : decode cL_law 768 = .ok (.iload_n 3, 1) := by decide +kernel
theorem dL_law_769 : decode cL_law 769 = .ok (.iconst 3, 1) := by decide +kernel
theorem dL_law_770 : decode cL_law 770 = .ok (.iadd, 1) := by decide +kernel
theorem dL_law_771 : decode cL_law 771 = .ok (.iaload, 1) := by decide +kernel
theorem dL_law_772 : decode cL_law 772 = .ok (.invokevirtual 97, 3) := by decide +kernel
theorem dL_law_775 : decode cL_law 775 = .ok (.if_icmp .eq 372, 3) := by decide +kernel
theorem dL_law_778 : decode cL_law 778 = .ok (.iconst 0, 1) := by decide +kernel
theorem dL_law_779 : decode cL_law 779 = .ok (.ireturn, 1) := by decide +kernel
theorem dL_law_780 : decode cL_law 780 = .ok (.aload_n 1, 1) := by decide +kernel
theorem dL_law_781 : decode cL_law 781 = .ok (.aload_n 0, 1) := by decide +kernel
theorem dL_law_782 : decode cL_law 782 = .ok (.iload_n 3, 1) := by decide +kernel
theorem dL_law_783 : decode cL_law 783 = .ok (.iconst 1, 1) := by decide +kernel
theorem dL_law_784 : decode cL_law 784 = .ok (.iadd, 1) := by decide +kernel
theorem dL_law_785 : decode cL_law 785 = .ok (.iaload, 1) := by decide +kernel
theorem dL_law_786 : decode cL_law 786 = .ok (.invokevirtual 98, 3) := by decide +kernel
theorem dL_law_789 : decode cL_law 789 = .ok (.aload_n 2, 1) := by decide +kernel
theorem dL_law_790 : decode cL_law 790 = .ok (.aload_n 0, 1) := by decide +kernel
theorem dL_law_791 : decode cL_law 791 = .ok (.iload_n 3, 1) := by decide +kernel
theorem dL_law_792 : decode cL_law 792 = .ok (.iconst 1, 1) := by decide +kernel
theorem dL_law_793 : decode cL_law 793 = .ok (.iadd, 1) := by decide +kernel
theorem dL_law_794 : decode cL_law 794 = .ok (.iaload, 1) := by decide +kernel
theorem dL_law_795 : decode cL_law 795 = .ok (.invokevirtual 101, 3) := by decide +kernel
theorem dL_law_798 : decode cL_law 798 = .ok (.if_icmp .eq 349, 3) := by decide +kernel
theorem dL_law_801 : decode cL_law 801 = .ok (.iconst 0, 1) := by decide +kernel
theorem dL_law_802 : decode cL_law 802 = .ok (.ireturn, 1) := by decide +kernel
theorem dL_law_803 : decode cL_law 803 = .ok (.aload_n 1, 1) := by decide +kernel
theorem dL_law_804 : decode cL_law 804 = .ok (.aload_n 0, 1) := by decide +kernel
theorem dL_law_805 : decode cL_law 805 = .ok (.iload_n 3, 1) := by decide +kernel
theorem dL_law_806 : decode cL_law 806 = .ok (.iconst 1, 1) := by decide +kernel
theorem dL_law_807 : decode cL_law 807 = .ok (.iadd, 1) := by decide +kernel
theorem dL_law_808 : decode cL_law 808 = .ok (.iaload, 1) := by decide +kernel
theorem dL_law_809 : decode cL_law 809 = .ok (.aload_n 0, 1) := by decide +kernel
theorem dL_law_810 : decode cL_law 810 = .ok (.iload_n 3, 1) := by decide +kernel
theorem dL_law_811 : decode cL_law 811 = .ok (.iconst 2, 1) := by decide +kernel
theorem dL_law_812 : decode cL_law 812 = .ok (.iadd, 1) := by decide +kernel
theorem dL_law_813 : decode cL_law 813 = .ok (.iaload, 1) := by decide +kernel
theorem dL_law_814 : decode cL_law 814 = .ok (.aload_n 0, 1) := by decide +kernel
theorem dL_law_815 : decode cL_law 815 = .ok (.iload_n 3, 1) := by decide +kernel
theorem dL_law_816 : decode cL_law 816 = .ok (.iconst 3, 1) := by decide +kernel
theorem dL_law_817 : decode cL_law 817 = .ok (.iadd, 1) := by decide +kernel
theorem dL_law_818 : decode cL_law 818 = .ok (.iaload, 1) := by decide +kernel
theorem dL_law_819 : decode cL_law 819 = .ok (.invokevirtual 102, 3) := by decide +kernel
theorem dL_law_822 : decode cL_law 822 = .ok (.aload_n 2, 1) := by decide +kernel
theorem dL_law_823 : decode cL_law 823 = .ok (.aload_n 0, 1) := by decide +kernel
theorem dL_law_824 : decode cL_law 824 = .ok (.iload_n 3, 1) := by decide +kernel
theorem dL_law_825 : decode cL_law 825 = .ok (.iconst 1, 1) := by decide +kernel
theorem dL_law_826 : decode cL_law 826 = .ok (.iadd, 1) := by decide +kernel
theorem dL_law_827 : decode cL_law 827 = .ok (.iaload, 1) := by decide +kernel
theorem dL_law_828 : decode cL_law 828 = .ok (.aload_n 0, 1) := by decide +kernel
theorem dL_law_829 : decode cL_law 829 = .ok (.iload_n 3, 1) := by decide +kernel
theorem dL_law_830 : decode cL_law 830 = .ok (.iconst 2, 1) := by decide +kernel
theorem dL_law_831 : decode cL_law 831 = .ok (.iadd, 1) := by decide +kernel
theorem dL_law_832 : decode cL_law 832 = .ok (.iaload, 1) := by decide +kernel
theorem dL_law_833 : decode cL_law 833 = .ok (.aload_n 0, 1) := by decide +kernel
theorem dL_law_834 : decode cL_law 834 = .ok (.iload_n 3, 1) := by decide +kernel
theorem dL_law_835 : decode cL_law 835 = .ok (.iconst 3, 1) := by decide +kernel
theorem dL_law_836 : decode cL_law 836 = .ok (.iadd, 1) := by decide +kernel
theorem dL_law_837 : decode cL_law 837 = .ok (.iaload, 1) := by decide +kernel
theorem dL_law_838 : decode cL_law 838 = .ok (.invokevirtual 106, 3) := by decide +kernel
theorem dL_law_841 : decode cL_law 841 = .ok (.lcmp, 1) := by decide +kernel
theorem dL_law_842 : decode cL_law 842 = .ok (.ifCond .eq 305, 3) := by decide +kernel
theorem dL_law_845 : decode cL_law 845 = .ok (.iconst 0, 1) := by decide +kernel
theorem dL_law_846 : decode cL_law 846 = .ok (.ireturn, 1) := by decide +kernel
theorem dL_law_847 : decode cL_law 847 = .ok (.aload_n 1, 1) := by decide +kernel
theorem dL_law_848 : decode cL_law 848 = .ok (.aload_n 0, 1) := by decide +kernel
theorem dL_law_849 : decode cL_law 849 = .ok (.iload_n 3, 1) := by decide +kernel
theorem dL_law_850 : decode cL_law 850 = .ok (.iconst 1, 1) := by decide +kernel
theorem dL_law_851 : decode cL_law 851 = .ok (.iadd, 1) := by decide +kernel
theorem dL_law_852 : decode cL_law 852 = .ok (.iaload, 1) := by decide +kernel
theorem dL_law_853 : decode cL_law 853 = .ok (.aload_n 0, 1) := by decide +kernel
theorem dL_law_854 : decode cL_law 854 = .ok (.iload_n 3, 1) := by decide +kernel
theorem dL_law_855 : decode cL_law 855 = .ok (.iconst 2, 1) := by decide +kernel
theorem dL_law_856 : decode cL_law 856 = .ok (.iadd, 1) := by decide +kernel
theorem dL_law_857 : decode cL_law 857 = .ok (.iaload, 1) := by decide +kernel
theorem dL_law_858 : decode cL_law 858 = .ok (.invokevirtual 107, 3) := by decide +kernel
theorem dL_law_861 : decode cL_law 861 = .ok (.aload_n 2, 1) := by decide +kernel
theorem dL_law_862 : decode cL_law 862 = .ok (.aload_n 0, 1) := by decide +kernel
theorem dL_law_863 : decode cL_law 863 = .ok (.iload_n 3, 1) := by decide +kernel
theorem dL_law_864 : decode cL_law 864 = .ok (.iconst 1, 1) := by decide +kernel
theorem dL_law_865 : decode cL_law 865 = .ok (.iadd, 1) := by decide +kernel
theorem dL_law_866 : decode cL_law 866 = .ok (.iaload, 1) := by decide +kernel
theorem dL_law_867 : decode cL_law 867 = .ok (.aload_n 0, 1) := by decide +kernel
theorem dL_law_868 : decode cL_law 868 = .ok (.iload_n 3, 1) := by decide +kernel
theorem dL_law_869 : decode cL_law 869 = .ok (.iconst 2, 1) := by decide +kernel
theorem dL_law_870 : decode cL_law 870 = .ok (.iadd, 1) := by decide +kernel
theorem dL_law_871 : decode cL_law 871 = .ok (.iaload, 1) := by decide +kernel
theorem dL_law_872 : decode cL_law 872 = .ok (.invokevirtual 111, 3) := by decide +kernel
theorem dL_law_875 : decode cL_law 875 = .ok (.lcmp, 1) := by decide +kernel
theorem dL_law_876 : decode cL_law 876 = .ok (.ifCond .eq 271, 3) := by decide +kernel
theorem dL_law_879 : decode cL_law 879 = .ok (.iconst 0, 1) := by decide +kernel
theorem dL_law_880 : decode cL_law 880 = .ok (.ireturn, 1) := by decide +kernel
theorem dL_law_881 : decode cL_law 881 = .ok (.aload_n 1, 1) := by decide +kernel
theorem dL_law_882 : decode cL_law 882 = .ok (.aload_n 0, 1) := by decide +kernel
theorem dL_law_883 : decode cL_law 883 = .ok (.iload_n 3, 1) := by decide +kernel
theorem dL_law_884 : decode cL_law 884 = .ok (.iconst 1, 1) := by decide +kernel
theorem dL_law_885 : decode cL_law 885 = .ok (.iadd, 1) := by decide +kernel
theorem dL_law_886 : decode cL_law 886 = .ok (.iaload, 1) := by decide +kernel
theorem dL_law_887 : decode cL_law 887 = .ok (.aload_n 0, 1) := by decide +kernel
theorem dL_law_888 : decode cL_law 888 = .ok (.iload_n 3, 1) := by decide +kernel
theorem dL_law_889 : decode cL_law 889 = .ok (.iconst 2, 1) := by decide +kernel
theorem dL_law_890 : decode cL_law 890 = .ok (.iadd, 1) := by decide +kernel
theorem dL_law_891 : decode cL_law 891 = .ok (.iaload, 1) := by decide +kernel
theorem dL_law_892 : decode cL_law 892 = .ok (.ifCond .eq 7, 3) := by decide +kernel
theorem dL_law_895 : decode cL_law 895 = .ok (.iconst 1, 1) := by decide +kernel
theorem dL_law_896 : decode cL_law 896 = .ok (.goto 4, 3) := by decide +kernel
theorem dL_law_899 : decode cL_law 899 = .ok (.iconst 0, 1) := by decide +kernel
theorem dL_law_900 : decode cL_law 900 = .ok (.invokevirtual 112, 3) := by decide +kernel
theorem dL_law_903 : decode cL_law 903 = .ok (.aload_n 2, 1) := by decide +kernel
theorem dL_law_904 : decode cL_law 904 = .ok (.aload_n 0, 1) := by decide +kernel
theorem dL_law_905 : decode cL_law 905 = .ok (.iload_n 3, 1) := by decide +kernel
theorem dL_law_906 : decode cL_law 906 = .ok (.iconst 1, 1) := by decide +kernel
theorem dL_law_907 : decode cL_law 907 = .ok (.iadd, 1) := by decide +kernel
theorem dL_law_908 : decode cL_law 908 = .ok (.iaload, 1) := by decide +kernel
theorem dL_law_909 : decode cL_law 909 = .ok (.aload_n 0, 1) := by decide +kernel
theorem dL_law_910 : decode cL_law 910 = .ok (.iload_n 3, 1) := by decide +kernel
theorem dL_law_911 : decode cL_law 911 = .ok (.iconst 2, 1) := by decide +kernel
theorem dL_law_912 : decode cL_law 912 = .ok (.iadd, 1) := by decide +kernel
theorem dL_law_913 : decode cL_law 913 = .ok (.iaload, 1) := by decide +kernel
theorem dL_law_914 : decode cL_law 914 = .ok (.ifCond .eq 7, 3) := by decide +kernel
theorem dL_law_917 : decode cL_law 917 = .ok (.iconst 1, 1) := by decide +kernel
theorem dL_law_918 : decode cL_law 918 = .ok (.goto 4, 3) := by decide +kernel
theorem dL_law_921 : decode cL_law 921 = .ok (.iconst 0, 1) := by decide +kernel
theorem dL_law_922 : decode cL_law 922 = .ok (.invokevirtual 116, 3) := by decide +kernel
theorem dL_law_925 : decode cL_law 925 = .ok (.if_icmp .eq 222, 3) := by decide +kernel
theorem dL_law_928 : decode cL_law 928 = .ok (.iconst 0, 1) := by decide +kernel
theorem dL_law_929 : decode cL_law 929 = .ok (.ireturn, 1) := by decide +kernel
theorem dL_law_930 : decode cL_law 930 = .ok (.aload_n 1, 1) := by decide +kernel
theorem dL_law_931 : decode cL_law 931 = .ok (.invokevirtual 117, 3) := by decide +kernel
theorem dL_law_934 : decode cL_law 934 = .ok (.aload_n 2, 1) := by decide +kernel
theorem dL_law_935 : decode cL_law 935 = .ok (.invokevirtual 120, 3) := by decide +kernel
theorem dL_law_938 : decode cL_law 938 = .ok (.if_icmp .eq 209, 3) := by decide +kernel
theorem dL_law_941 : decode cL_law 941 = .ok (.iconst 0, 1) := by decide +kernel
theorem dL_law_942 : decode cL_law 942 = .ok (.ireturn, 1) := by decide +kernel
theorem dL_law_943 : decode cL_law 943 = .ok (.aload_n 1, 1) := by decide +kernel
theorem dL_law_944 : decode cL_law 944 = .ok (.aload_n 0, 1) := by decide +kernel
theorem dL_law_945 : decode cL_law 945 = .ok (.iload_n 3, 1) := by decide +kernel
theorem dL_law_946 : decode cL_law 946 = .ok (.iconst 1, 1) := by decide +kernel
theorem dL_law_947 : decode cL_law 947 = .ok (.iadd, 1) := by decide +kernel
theorem dL_law_948 : decode cL_law 948 = .ok (.iaload, 1) := by decide +kernel
theorem dL_law_949 : decode cL_law 949 = .ok (.aload_n 0, 1) := by decide +kernel
theorem dL_law_950 : decode cL_law 950 = .ok (.iload_n 3, 1) := by decide +kernel
theorem dL_law_951 : decode cL_law 951 = .ok (.iconst 2, 1) := by decide +kernel
theorem dL_law_952 : decode cL_law 952 = .ok (.iadd, 1) := by decide +kernel
theorem dL_law_953 : decode cL_law 953 = .ok (.iaload, 1) := by decide +kernel
theorem dL_law_954 : decode cL_law 954 = .ok (.aload_n 0, 1) := by decide +kernel
theorem dL_law_955 : decode cL_law 955 = .ok (.iload_n 3, 1) := by decide +kernel
theorem dL_law_956 : decode cL_law 956 = .ok (.iconst 3, 1) := by decide +kernel
theorem dL_law_957 : decode cL_law 957 = .ok (.iadd, 1) := by decide +kernel
theorem dL_law_958 : decode cL_law 958 = .ok (.iaload, 1) := by decide +kernel
theorem dL_law_959 : decode cL_law 959 = .ok (.invokevirtual 121, 3) := by decide +kernel
theorem dL_law_962 : decode cL_law 962 = .ok (.aload_n 2, 1) := by decide +kernel
theorem dL_law_963 : decode cL_law 963 = .ok (.aload_n 0, 1) := by decide +kernel
theorem dL_law_964 : decode cL_law 964 = .ok (.iload_n 3, 1) := by decide +kernel
theorem dL_law_965 : decode cL_law 965 = .ok (.iconst 1, 1) := by decide +kernel
theorem dL_law_966 : decode cL_law 966 = .ok (.iadd, 1) := by decide +kernel
theorem dL_law_967 : decode cL_law 967 = .ok (.iaload, 1) := by decide +kernel
theorem dL_law_968 : decode cL_law 968 = .ok (.aload_n 0, 1) := by decide +kernel
theorem dL_law_969 : decode cL_law 969 = .ok (.iload_n 3, 1) := by decide +kernel
theorem dL_law_970 : decode cL_law 970 = .ok (.iconst 2, 1) := by decide +kernel
theorem dL_law_971 : decode cL_law 971 = .ok (.iadd, 1) := by decide +kernel
theorem dL_law_972 : decode cL_law 972 = .ok (.iaload, 1) := by decide +kernel
theorem dL_law_973 : decode cL_law 973 = .ok (.aload_n 0, 1) := by decide +kernel
theorem dL_law_974 : decode cL_law 974 = .ok (.iload_n 3, 1) := by decide +kernel
theorem dL_law_975 : decode cL_law 975 = .ok (.iconst 3, 1) := by decide +kernel
theorem dL_law_976 : decode cL_law 976 = .ok (.iadd, 1) := by decide +kernel
theorem dL_law_977 : decode cL_law 977 = .ok (.iaload, 1) := by decide +kernel
theorem dL_law_978 : decode cL_law 978 = .ok (.invokevirtual 124, 3) := by decide +kernel
theorem dL_law_981 : decode cL_law 981 = .ok (.if_icmp .eq 166, 3) := by decide +kernel
theorem dL_law_984 : decode cL_law 984 = .ok (.iconst 0, 1) := by decide +kernel
theorem dL_law_985 : decode cL_law 985 = .ok (.ireturn, 1) := by decide +kernel
theorem dL_law_986 : decode cL_law 986 = .ok (.aload_n 1, 1) := by decide +kernel
theorem dL_law_987 : decode cL_law 987 = .ok (.invokevirtual 125, 3) := by decide +kernel
theorem dL_law_990 : decode cL_law 990 = .ok (.aload_n 2, 1) := by decide +kernel
theorem dL_law_991 : decode cL_law 991 = .ok (.invokevirtual 128, 3) := by decide +kernel
theorem dL_law_994 : decode cL_law 994 = .ok (.if_icmp .eq 153, 3) := by decide +kernel
theorem dL_law_997 : decode cL_law 997 = .ok (.iconst 0, 1) := by decide +kernel
theorem dL_law_998 : decode cL_law 998 = .ok (.ireturn, 1) := by decide +kernel
theorem dL_law_999 : decode cL_law 999 = .ok (.aload_n 1, 1) := by decide +kernel
theorem dL_law_1000 : decode cL_law 1000 = .ok (.aload_n 0, 1) := by decide +kernel
theorem dL_law_1001 : decode cL_law 1001 = .ok (.iload_n 3, 1) := by decide +kernel
theorem dL_law_1002 : decode cL_law 1002 = .ok (.iconst 1, 1) := by decide +kernel
theorem dL_law_1003 : decode cL_law 1003 = .ok (.iadd, 1) := by decide +kernel
theorem dL_law_1004 : decode cL_law 1004 = .ok (.iaload, 1) := by decide +kernel
theorem dL_law_1005 : decode cL_law 1005 = .ok (.aload_n 0, 1) := by decide +kernel
theorem dL_law_1006 : decode cL_law 1006 = .ok (.iload_n 3, 1) := by decide +kernel
theorem dL_law_1007 : decode cL_law 1007 = .ok (.iconst 2, 1) := by decide +kernel
theorem dL_law_1008 : decode cL_law 1008 = .ok (.iadd, 1) := by decide +kernel
theorem dL_law_1009 : decode cL_law 1009 = .ok (.iaload, 1) := by decide +kernel
theorem dL_law_1010 : decode cL_law 1010 = .ok (.aload_n 0, 1) := by decide +kernel
theorem dL_law_1011 : decode cL_law 1011 = .ok (.iload_n 3, 1) := by decide +kernel
theorem dL_law_1012 : decode cL_law 1012 = .ok (.iconst 3, 1) := by decide +kernel
theorem dL_law_1013 : decode cL_law 1013 = .ok (.iadd, 1) := by decide +kernel
theorem dL_law_1014 : decode cL_law 1014 = .ok (.iaload, 1) := by decide +kernel
theorem dL_law_1015 : decode cL_law 1015 = .ok (.invokevirtual 129, 3) := by decide +kernel
theorem dL_law_1018 : decode cL_law 1018 = .ok (.aload_n 2, 1) := by decide +kernel
theorem dL_law_1019 : decode cL_law 1019 = .ok (.aload_n 0, 1) := by decide +kernel
theorem dL_law_1020 : decode cL_law 1020 = .ok (.iload_n 3, 1) := by decide +kernel
theorem dL_law_1021 : decode cL_law 1021 = .ok (.iconst 1, 1) := by decide +kernel
theorem dL_law_1022 : decode cL_law 1022 = .ok (.iadd, 1) := by decide +kernel
theorem dL_law_1023 : decode cL_law 1023 = .ok (.iaload, 1) := by decide +kernel
theorem dL_law_1024 : decode cL_law 1024 = .ok (.aload_n 0, 1) := by decide +kernel
theorem dL_law_1025 : decode cL_law 1025 = .ok (.iload_n 3, 1) := by decide +kernel
theorem dL_law_1026 : decode cL_law 1026 = .ok (.iconst 2, 1) := by decide +kernel
theorem dL_law_1027 : decode cL_law 1027 = .ok (.iadd, 1) := by decide +kernel
theorem dL_law_1028 : decode cL_law 1028 = .ok (.iaload, 1) := by decide +kernel
theorem dL_law_1029 : decode cL_law 1029 = .ok (.aload_n 0, 1) := by decide +kernel
theorem dL_law_1030 : decode cL_law 1030 = .ok (.iload_n 3, 1) := by decide +kernel
theorem dL_law_1031 : decode cL_law 1031 = .ok (.iconst 3, 1) := by decide +kernel
theorem dL_law_1032 : decode cL_law 1032 = .ok (.iadd, 1) := by decide +kernel
theorem dL_law_1033 : decode cL_law 1033 = .ok (.iaload, 1) := by decide +kernel
theorem dL_law_1034 : decode cL_law 1034 = .ok (.invokevirtual 132, 3) := by decide +kernel
theorem dL_law_1037 : decode cL_law 1037 = .ok (.if_icmp .eq 110, 3) := by decide +kernel
theorem dL_law_1040 : decode cL_law 1040 = .ok (.iconst 0, 1) := by decide +kernel
theorem dL_law_1041 : decode cL_law 1041 = .ok (.ireturn, 1) := by decide +kernel
theorem dL_law_1042 : decode cL_law 1042 = .ok (.aload_n 1, 1) := by decide +kernel
theorem dL_law_1043 : decode cL_law 1043 = .ok (.aload_n 0, 1) := by decide +kernel
theorem dL_law_1044 : decode cL_law 1044 = .ok (.iload_n 3, 1) := by decide +kernel
theorem dL_law_1045 : decode cL_law 1045 = .ok (.iconst 1, 1) := by decide +kernel
theorem dL_law_1046 : decode cL_law 1046 = .ok (.iadd, 1) := by decide +kernel
theorem dL_law_1047 : decode cL_law 1047 = .ok (.iaload, 1) := by decide +kernel
theorem dL_law_1048 : decode cL_law 1048 = .ok (.invokevirtual 133, 3) := by decide +kernel
theorem dL_law_1051 : decode cL_law 1051 = .ok (.aload_n 2, 1) := by decide +kernel
theorem dL_law_1052 : decode cL_law 1052 = .ok (.aload_n 0, 1) := by decide +kernel
theorem dL_law_1053 : decode cL_law 1053 = .ok (.iload_n 3, 1) := by decide +kernel
theorem dL_law_1054 : decode cL_law 1054 = .ok (.iconst 1, 1) := by decide +kernel
theorem dL_law_1055 : decode cL_law 1055 = .ok (.iadd, 1) := by decide +kernel
theorem dL_law_1056 : decode cL_law 1056 = .ok (.iaload, 1) := by decide +kernel
theorem dL_law_1057 : decode cL_law 1057 = .ok (.invokevirtual 136, 3) := by decide +kernel
theorem dL_law_1060 : decode cL_law 1060 = .ok (.if_icmp .eq 87, 3) := by decide +kernel
theorem dL_law_1063 : decode cL_law 1063 = .ok (.iconst 0, 1) := by decide +kernel
theorem dL_law_1064 : decode cL_law 1064 = .ok (.ireturn, 1) := by decide +kernel
theorem dL_law_1065 : decode cL_law 1065 = .ok (.aload_n 1, 1) := by decide +kernel
theorem dL_law_1066 : decode cL_law 1066 = .ok (.aload_n 0, 1) := by decide +kernel
theorem dL_law_1067 : decode cL_law 1067 = .ok (.iload_n 3, 1) := by decide +kernel
theorem dL_law_1068 : decode cL_law 1068 = .ok (.iconst 1, 1) := by decide +kernel
theorem dL_law_1069 : decode cL_law 1069 = .ok (.iadd, 1) := by decide +kernel
theorem dL_law_1070 : decode cL_law 1070 = .ok (.iaload, 1) := by decide +kernel
theorem dL_law_1071 : decode cL_law 1071 = .ok (.aload_n 0, 1) := by decide +kernel
theorem dL_law_1072 : decode cL_law 1072 = .ok (.iload_n 3, 1) := by decide +kernel
theorem dL_law_1073 : decode cL_law 1073 = .ok (.iconst 2, 1) := by decide +kernel
theorem dL_law_1074 : decode cL_law 1074 = .ok (.iadd, 1) := by decide +kernel
theorem dL_law_1075 : decode cL_law 1075 = .ok (.iaload, 1) := by decide +kernel
theorem dL_law_1076 : decode cL_law 1076 = .ok (.invokevirtual 137, 3) := by decide +kernel
theorem dL_law_1079 : decode cL_law 1079 = .ok (.aload_n 2, 1) := by decide +kernel
theorem dL_law_1080 : decode cL_law 1080 = .ok (.aload_n 0, 1) := by decide +kernel
theorem dL_law_1081 : decode cL_law 1081 = .ok (.iload_n 3, 1) := by decide +kernel
theorem dL_law_1082 : decode cL_law 1082 = .ok (.iconst 1, 1) := by decide +kernel
theorem dL_law_1083 : decode cL_law 1083 = .ok (.iadd, 1) := by decide +kernel
theorem dL_law_1084 : decode cL_law 1084 = .ok (.iaload, 1) := by decide +kernel
theorem dL_law_1085 : decode cL_law 1085 = .ok (.aload_n 0, 1) := by decide +kernel
theorem dL_law_1086 : decode cL_law 1086 = .ok (.iload_n 3, 1) := by decide +kernel
theorem dL_law_1087 : decode cL_law 1087 = .ok (.iconst 2, 1) := by decide +kernel
theorem dL_law_1088 : decode cL_law 1088 = .ok (.iadd, 1) := by decide +kernel
theorem dL_law_1089 : decode cL_law 1089 = .ok (.iaload, 1) := by decide +kernel
theorem dL_law_1090 : decode cL_law 1090 = .ok (.invokevirtual 140, 3) := by decide +kernel
theorem dL_law_1093 : decode cL_law 1093 = .ok (.if_icmp .eq 54, 3) := by decide +kernel
theorem dL_law_1096 : decode cL_law 1096 = .ok (.iconst 0, 1) := by decide +kernel
theorem dL_law_1097 : decode cL_law 1097 = .ok (.ireturn, 1) := by decide +kernel
theorem dL_law_1098 : decode cL_law 1098 = .ok (.aload_n 1, 1) := by decide +kernel
theorem dL_law_1099 : decode cL_law 1099 = .ok (.invokevirtual 141, 3) := by decide +kernel
theorem dL_law_1102 : decode cL_law 1102 = .ok (.aload_n 2, 1) := by decide +kernel
theorem dL_law_1103 : decode cL_law 1103 = .ok (.invokevirtual 144, 3) := by decide +kernel
theorem dL_law_1106 : decode cL_law 1106 = .ok (.if_icmp .eq 41, 3) := by decide +kernel
theorem dL_law_1109 : decode cL_law 1109 = .ok (.iconst 0, 1) := by decide +kernel
theorem dL_law_1110 : decode cL_law 1110 = .ok (.ireturn, 1) := by decide +kernel
theorem dL_law_1111 : decode cL_law 1111 = .ok (.aload_n 1, 1) := by decide +kernel
theorem dL_law_1112 : decode cL_law 1112 = .ok (.invokevirtual 145, 3) := by decide +kernel
theorem dL_law_1115 : decode cL_law 1115 = .ok (.aload_n 2, 1) := by decide +kernel
theorem dL_law_1116 : decode cL_law 1116 = .ok (.invokevirtual 148, 3) := by decide +kernel
theorem dL_law_1119 : decode cL_law 1119 = .ok (.if_icmp .eq 28, 3) := by decide +kernel
theorem dL_law_1122 : decode cL_law 1122 = .ok (.iconst 0, 1) := by decide +kernel
theorem dL_law_1123 : decode cL_law 1123 = .ok (.ireturn, 1) := by decide +kernel
theorem dL_law_1124 : decode cL_law 1124 = .ok (.aload_n 1, 1) := by decide +kernel
theorem dL_law_1125 : decode cL_law 1125 = .ok (.aload_n 0, 1) := by decide +kernel
theorem dL_law_1126 : decode cL_law 1126 = .ok (.iload_n 3, 1) := by decide +kernel
theorem dL_law_1127 : decode cL_law 1127 = .ok (.iconst 1, 1) := by decide +kernel
theorem dL_law_1128 : decode cL_law 1128 = .ok (.iadd, 1) := by decide +kernel
theorem dL_law_1129 : decode cL_law 1129 = .ok (.iaload, 1) := by decide +kernel
theorem dL_law_1130 : decode cL_law 1130 = .ok (.invokevirtual 149, 3) := by decide +kernel
theorem dL_law_1133 : decode cL_law 1133 = .ok (.aload_n 2, 1) := by decide +kernel
theorem dL_law_1134 : decode cL_law 1134 = .ok (.aload_n 0, 1) := by decide +kernel
theorem dL_law_1135 : decode cL_law 1135 = .ok (.iload_n 3, 1) := by decide +kernel
theorem dL_law_1136 : decode cL_law 1136 = .ok (.iconst 1, 1) := by decide +kernel
theorem dL_law_1137 : decode cL_law 1137 = .ok (.iadd, 1) := by decide +kernel
theorem dL_law_1138 : decode cL_law 1138 = .ok (.iaload, 1) := by decide +kernel
theorem dL_law_1139 : decode cL_law 1139 = .ok (.invokevirtual 152, 3) := by decide +kernel
theorem dL_law_1142 : decode cL_law 1142 = .ok (.if_icmp .eq 5, 3) := by decide +kernel
theorem dL_law_1145 : decode cL_law 1145 = .ok (.iconst 0, 1) := by decide +kernel
theorem dL_law_1146 : decode cL_law 1146 = .ok (.ireturn, 1) := by decide +kernel
theorem dL_law_1147 : decode cL_law 1147 = .ok (.iinc 3 5, 3) := by decide +kernel
theorem dL_law_1150 : decode cL_law 1150 = .ok (.goto (-1132), 3) := by decide +kernel
theorem dL_law_1153 : decode cL_law 1153 = .ok (.iconst 1, 1) := by decide +kernel
theorem dL_law_1154 : decode cL_law 1154 = .ok (.ireturn, 1) := by decide +kernel
/-! the law: class and reference side by side -/
theorem hM_nn {g : zG} {h : Hp} {m a : Nat} {F : Nat → Int32} {A : Nat → Nat → Int32} (h1 : ¬ (m ≤ a ∧ a < m + 10)) : (hM g h m F A).2 a = h.2 a := by
  show (if m ≤ a ∧ a < m + 10 then _ else h.2 a) = _
  rw [if_neg h1]
theorem hM_j {g : zG} {h : Hp} {m j : Nat} {F : Nat → Int32} {A : Nat → Nat → Int32} (hj : j < 10) : (hM g h m F A).2 (m + j) = some (mcell g m F A j) := by
  show (if m ≤ m + j ∧ m + j < m + 10 then some (mcell g m F A (m + j - m)) else _) = _
  rw [if_pos ⟨by omega, by omega⟩, show m + j - m = j by omega]
theorem hM_kp {g : zG} {h h' : Hp} {m : Nat} {F : Nat → Int32} {A : Nat → Nat → Int32} (e : hM g h m F A = h) (q : ∀ a, m ≤ a ∧ a < m + 10 → h'.2 a = h.2 a) : hM g h' m F A = h' :=
  hM_of fun j hj => (q _ (by omega)).trans (by rw [← e]; exact hM_j hj)
theorem hM_ob {g : zG} {h : Hp} {m : Nat} {F : Nat → Int32} {A : Nat → Nat → Int32} (e : hM g h m F A = h) : h.2 m = some (.inr (12, mflds m F)) := by
  rw [← e]; exact hM_o
def lI (g : zG) (h : Hp) (x M : Nat) : Prop := ∃ (ca cs N T : Nat) (Q : pP) (n : Nat → Nat) (S2 : Nat → Int32) (T2 : Nat) (Q2 : pP) (n2 : Nat → Nat) (tn : Nat) (F : Nat → Int32) (A : Nat → Nat → Int32), cH g h x ca cs N (A 1) T Q n S2 T2 Q2 n2 (F 3) (A 9) tn ∧ hM g h (x + 54) F A = h ∧ x + 64 ≤ h.1 ∧ N ≤ M ∧ (F 3 = 1 → ∀ i, i < 899 → A 2 i = S2 i) ∧ F 20 = nI tn ∧ tn ≤ 100
theorem lI_fin {g : zG} {h h' : Hp} {x ca cs N M T T2 tn : Nat} {S2 : Nat → Int32} {Q Q2 : pP} {n n2 : Nat → Nat} {F : Nat → Int32} {A : Nat → Nat → Int32} (hc : cH g h x ca cs N (A 1) T Q n S2 T2 Q2 n2 (F 3) (A 9) tn) (e : h' = hM g h (x + 54) F A) (hz : x + 64 ≤ h.1) (hN : N ≤ M) (h2 : F 3 = 1 → ∀ i, i < 899 → A 2 i = S2 i) (h20 : F 20 = nI tn) (ht : tn ≤ 100) : lI g h' x M := by
  subst e
  refine ⟨ca, cs, N, T, Q, n, S2, T2, Q2, n2, tn, F, A, hc.same (fun a ha => hM_nn (by omega)) (fun a e h1 h2 => (hM_nn (by omega)).trans h2), hM_of (fun j hj => hM_j hj), hz, hN, h2, h20, ht⟩
/-- the reference has written its numbers alone -/
theorem lI_w {g : zG} {h h' : Hp} {x ca cs N M T T2 tn : Nat} {S' S2 : Nat → Int32} {Q Q2 : pP} {n n2 : Nat → Nat} {F : Nat → Int32} {A : Nat → Nat → Int32} (hc : cH g h x ca cs N S' T Q n S2 T2 Q2 n2 (F 3) (A 9) tn) (e : h' = hM g h (x + 54) F (mup A 1 S')) (hz : x + 64 ≤ h.1) (hN : N ≤ M) (h2 : F 3 = 1 → ∀ i, i < 899 → A 2 i = S2 i) (h20 : F 20 = nI tn) (ht : tn ≤ 100) : lI g h' x M :=
  lI_fin (F := F) (A := mup A 1 S') (by rw [mup_s, mup_n (by decide)]; exact hc) e hz hN (by rw [mup_n (by decide)]; exact h2) h20 ht
/-- the reference has written its notes alone -/
theorem lI_q {g : zG} {h h' : Hp} {x ca cs N M T T2 tn : Nat} {S2 : Nat → Int32} {Q Q2 : pP} {n n2 : Nat → Nat} {F : Nat → Int32} {A : Nat → Nat → Int32} (hc : cH g h x ca cs N (A 1) T Q n S2 T2 Q2 n2 (F 3) (A 9) tn) (e : mgar g h (x + 54) F A GF GA (fun _ _ => True) h') (hz : x + 64 ≤ h.1) (hN : N ≤ M) (h2 : F 3 = 1 → ∀ i, i < 899 → A 2 i = S2 i) (h20 : F 20 = nI tn) (ht : tn ≤ 100) : lI g h' x M := by
  obtain ⟨F', A', e1, e2, e3, -⟩ := e
  have a1 : A' 1 = A 1 := e3 1 (by simp [GA])
  have a2 : A' 2 = A 2 := e3 2 (by simp [GA])
  have a9 : A' 9 = A 9 := e3 9 (by simp [GA])
  have f3 : F' 3 = F 3 := e2 3 (by simp [GF])
  have f20 : F' 20 = F 20 := e2 20 (by simp [GF])
  exact lI_fin (F := F') (A := A') (by rw [a1, a9, f3]; exact hc) e1 hz hN (by rw [f3, a2]; exact h2) (f20.trans h20) ht
theorem zr1 {X : zX} {c s d' c' s' maxL : Nat} (hr : zXr X = room_1) (h : d' + 1 ≤ 2048 ∧ 8 + (maxL + 11) + 64 * d' ≤ 84000) : zRoom (rmc d' c' s') X.2.2.2.2 maxL := by
  show _ + 1 ≤ (zXr X).frames ∧ _ ≤ (zXr X).locals
  rw [hr]
  exact h
theorem zr0 {X : zX} {d' maxL : Nat} (hr : zXr X = room_1) (h : d' + 1 ≤ 2048 ∧ 8 + (maxL + 11) + 64 * d' ≤ 84000) : zRoom (rmz d') X.2.2.2.2 maxL := zr1 (c := 0) (s := 0) (c' := 0) (s' := 0) hr h
theorem aw_le {X : zX} {rc rs rc' rs' pc : Nat} {lv : List (Option Value)} {st : List Value} {h : Hp} {Ko : Option Value → Hp → Prop} (k : AW X rc' rs' pc lv st h Ko) (h1 : rc' ≤ rc) (h2 : rs' ≤ rs) : AW X rc rs pc lv st h Ko := fun H locs ls cells slots a1 a2 a3 a4 a5 => k H locs ls cells slots a1 a2 a3 (by omega) (by omega)
section ZLAW
variable {X : zX} {nm : String} {ret' : Option FieldType} {rc rs pc b L : Nat} {xs : Nat → Int32} {lv : List (Option Value)} {st : List Value} {h : Hp} {Ko : Option Value → Hp → Prop}
def lX (X : zX) (b L : Nat) (xs : Nat → Int32) : Prop := va_X b L xs X.2.1.1 (zXg X).2.1 ∧ b < zb (zXg X)
theorem aw_sld {cc : ByteArray} {nL : Nat} {own : String} (B : zB X cc nL own nm ret') (hX : lX X b L xs) {j : Nat} (hin : j < L) (hL : L < 2 ^ 31) (hd : decode cc pc = .ok (.iaload, 1)) (kk : AW X rc rs (pc + 1) lv (.int (xs j) :: st) h Ko) : AW X rc rs pc lv (.int (nI j) :: .ref b :: st) h Ko := fun H locs ls cells slots a1 a2 a3 a4 a5 =>
  va_sld B.1 B.2.1 hX.1 hX.2 (A := fun q => zb (zXg X) ≤ q) (Nat.not_le.mpr hX.2) ⟨by rw [a1.1]; exact a1.2.1, fun q hq _ => a1.2.2.1 q hq, a2⟩ (vp_in_nI hin hL) hd (by rw [nI_clamp (by omega)]; exact kk H locs ls cells slots a1 a2 a3 a4 a5)
theorem aw_slen {cc : ByteArray} {nL : Nat} {own : String} (B : zB X cc nL own nm ret') (hX : lX X b L xs) (hd : decode cc pc = .ok (.arraylength, 1)) (kk : AW X rc rs (pc + 1) lv (.int (nI L) :: st) h Ko) : AW X rc rs pc lv (.ref b :: st) h Ko := fun H locs ls cells slots a1 a2 a3 a4 a5 =>
  va_slen B.1 B.2.1 hX.1 hX.2 (A := fun q => zb (zXg X) ≤ q) (Nat.not_le.mpr hX.2) ⟨by rw [a1.1]; exact a1.2.1, fun q hq _ => a1.2.2.1 q hq, a2⟩ hd (kk H locs ls cells slots a1 a2 a3 a4 a5)
end ZLAW
set_option maxRecDepth 100000 in
set_option maxHeartbeats 4000000 in
theorem law_0 {X : zX} {nm : String} {ret' : Option FieldType} {rc rs b L x M i : Nat} {xs : Nat → Int32} {h : Hp} {Ko : Option Value → Hp → Prop} (B : zB X cL_law 4 "LowWaterLaw" nm ret') (hX : lX X b L xs) (hr : zXr X = room_1) (hi : i + 5 ≤ L) (hL : L ≤ 2560) (hM : M ≤ 2 ^ 18) (hI : lI (zXg X) h x M) (kk : ∀ h', lI (zXg X) h' x (M + 4) → AW X rc rs 1147 [some (.ref b), some (.ref x), some (.ref (x + 54)), some (.int (nI i))] [] h' Ko) : AW X (rc + 1) (rs + 2) 180 [some (.ref b), some (.ref x), some (.ref (x + 54)), some (.int (nI i))] [] h Ko := by
  obtain ⟨ca, cs, N, T, Q, n, S2, T2, Q2, n2, tn, F, A, hc, eM, hz, hN, h2, h20, ht⟩ := hI
  have v := hc.v
  refine aw_aload_n B 1 rfl dL_law_180 rfl ?_
  refine aw_aload_n B 0 rfl dL_law_181 rfl ?_
  refine aw_iload_n B 3 rfl dL_law_182 rfl ?_
  refine aw_iconst B 1 (by decide) dL_law_183 ?_
  refine aw_iadd B dL_law_184 ?_
  rw [show nI i + 1 = nI (i + 1) from nI_add (a := i) (b := 1)]
  refine aw_sld B hX (j := i + 1) (by omega) (by omega) dL_law_185 ?_
  refine aw_callV B (rc + 1) (rs + 2) (x_feed _ _ (xs (i + 1)) hc) co_X11_feed k_L_13 dL_law_186 hc.ox rfl rfl rfl rfl (Nat.le_of_ble_eq_true rfl) (zr0 hr (by decide)) (Nat.le_refl _) (Nat.le_refl _) (kI fun r186 h186 hp186 => ?_)
  obtain ⟨rfl, ⟨T9, n9, hc9⟩, O⟩ := hp186
  have eM := hM_kp eM (h' := h186) (fun a ha => O.2 a (by omega))
  have hz : x + 64 ≤ h186.1 := by rw [O.1]; exact hz
  have hs := s_feed X.1.2.1 (zXg X) h186 (x + 54) F A (xs (i + 1)) ⟨n 6, Nat.zero_le _, v.2.2.2.2.2.2.1.1, v.2.2.2.2.2.2.1.2⟩
  rw [eM] at hs
  refine aw_aload_n B 2 rfl dL_law_189 rfl ?_
  refine aw_aload_n B 0 rfl dL_law_190 rfl ?_
  refine aw_iload_n B 3 rfl dL_law_191 rfl ?_
  refine aw_iconst B 1 (by decide) dL_law_192 ?_
  refine aw_iadd B dL_law_193 ?_
  rw [show nI i + 1 = nI (i + 1) from nI_add (a := i) (b := 1)]
  refine aw_sld B hX (j := i + 1) (by omega) (by omega) dL_law_194 ?_
  refine aw_callV B (rc + 1) (rs + 2) hs co_X12_feed k_L_17 dL_law_195 (hM_ob eM) rfl rfl rfl rfl (Nat.le_of_ble_eq_true rfl) (zr0 hr (by decide)) (Nat.le_refl _) (Nat.le_refl _) (kI fun r195 h195 hp195 => ?_)
  obtain ⟨rfl, eq2⟩ := hp195
  refine aw_icmp_eq B 1147 dL_law_198 (fun c198 => ?_) (fun c198 => absurd rfl c198)
  refine aw_le (rc' := rc) (rs' := rs) ?_ (Nat.le_succ _) (by omega)
  exact kk _ (lI_w hc9 eq2 hz (by omega) h2 h20 ht)
set_option maxRecDepth 100000 in
set_option maxHeartbeats 4000000 in
theorem law_1 {X : zX} {nm : String} {ret' : Option FieldType} {rc rs b L x M i : Nat} {xs : Nat → Int32} {h : Hp} {Ko : Option Value → Hp → Prop} (B : zB X cL_law 4 "LowWaterLaw" nm ret') (hX : lX X b L xs) (hr : zXr X = room_1) (hi : i + 5 ≤ L) (hL : L ≤ 2560) (hM : M ≤ 2 ^ 18) (hI : lI (zXg X) h x M) (kk : ∀ h', lI (zXg X) h' x (M + 4) → AW X rc rs 1147 [some (.ref b), some (.ref x), some (.ref (x + 54)), some (.int (nI i))] [] h' Ko) : AW X (rc + 1) (rs + 2) 203 [some (.ref b), some (.ref x), some (.ref (x + 54)), some (.int (nI i))] [] h Ko := by
  obtain ⟨ca, cs, N, T, Q, n, S2, T2, Q2, n2, tn, F, A, hc, eM, hz, hN, h2, h20, ht⟩ := hI
  have v := hc.v
  refine aw_aload_n B 1 rfl dL_law_203 rfl ?_
  refine aw_callV B (rc + 1) (rs + 2) (x_cave _ _ hc) co_X11_cave k_L_18 dL_law_204 hc.ox rfl rfl rfl rfl (Nat.le_of_ble_eq_true rfl) (zr0 hr (by decide)) (Nat.le_refl _) (Nat.le_refl _) (kI fun r204 h204 hp204 => ?_)
  obtain ⟨hr1, O⟩ := hp204
  have eM := hM_kp eM (h' := h204) (fun a ha => O.2 a (by omega))
  have hz : x + 64 ≤ h204.1 := by rw [O.1]; exact hz
  have hs := s_cave X.1.2.1 (zXg X) h204 (x + 54) F A  (n 2) (n 6) v.2.2.2.2.2.2.1.1 v.2.2.1.1 v.2.2.1.2.1 v.2.2.2.2.2.2.1.2
  rw [eM] at hs
  refine aw_aload_n B 2 rfl dL_law_207 rfl ?_
  refine aw_callV B (rc + 1) (rs + 2) hs co_X12_cave k_L_22 dL_law_208 (hM_ob eM) rfl rfl rfl rfl (Nat.le_of_ble_eq_true rfl) (zr0 hr (by decide)) (Nat.le_refl _) (Nat.le_refl _) (kI fun r208 h208 hp208 => ?_)
  have tpE : tpA A = fun q => A 1 (94 + q) := rfl
  rw [tpE] at hp208
  by_cases hn5 : n 2 = 5
  · rw [if_pos hn5] at hr1 hp208
    obtain ⟨rfl, e9⟩ := hr1
    obtain ⟨rfl, eq2⟩ := hp208
    refine aw_icmp_eq B 1147 dL_law_211 (fun c211 => ?_) (fun c211 => absurd rfl c211)
    refine aw_le (rc' := rc) (rs' := rs) ?_ (Nat.le_succ _) (by omega)
    exact kk _ (lI_fin (F := F) (A := A) (show cH (zXg X) h204 _ _ _ _ _ _ _ _ _ _ _ _ _ _ _ from by rw [e9]; exact hc) (eq2.trans eM.symm) hz (by omega) h2 h20 ht)
  · rw [if_neg hn5] at hr1 hp208
    unfold CP at hp208
    by_cases hft : (caP (fun q => A 1 (94 + q)) (n 6)).2.1 = true ∨ ¬ (caP (fun q => A 1 (94 + q)) (n 6)).1 = n 6
    · rw [if_pos hft] at hr1 hp208
      obtain ⟨rfl, hc9⟩ := hr1
      obtain ⟨rfl, eq2⟩ := hp208
      refine aw_icmp_eq B 1147 dL_law_211 (fun c211 => ?_) (fun c211 => absurd rfl c211)
      refine aw_le (rc' := rc) (rs' := rs) ?_ (Nat.le_succ _) (by omega)
      exact kk _ (lI_fin (F := fF F (n 2) (n 6) 0 (caP (fun q => A 1 (94 + q)) (n 6))) (A := mup A 1 (cvF (A 1) (n 2) (caP (fun q => A 1 (94 + q)) (n 6)))) (by rw [mup_s, mup_n (by decide)]; exact hc9) (by rw [eq2]; unfold hP; rw [mup_s, mup_m]; rfl) hz (by omega) (by rw [mup_n (by decide)]; exact h2) h20 ht)
    · rw [if_neg hft] at hr1 hp208
      obtain ⟨rfl, hc9⟩ := hr1
      obtain ⟨rfl, eq2⟩ := hp208
      refine aw_icmp_eq B 1147 dL_law_211 (fun c211 => ?_) (fun c211 => absurd rfl c211)
      refine aw_le (rc' := rc) (rs' := rs) ?_ (Nat.le_succ _) (by omega)
      exact kk _ (lI_fin (F := fF F (n 2) (n 6) 0 (caP (fun q => A 1 (94 + q)) (n 6))) (A := mup A 1 (cvG (A 1) (n 2) (caP (fun q => A 1 (94 + q)) (n 6)))) (by rw [mup_s, mup_n (by decide)]; exact hc9) eq2 hz (by omega) (by rw [mup_n (by decide)]; exact h2) h20 ht)
set_option maxRecDepth 100000 in
set_option maxHeartbeats 4000000 in
theorem law_2 {X : zX} {nm : String} {ret' : Option FieldType} {rc rs b L x M i : Nat} {xs : Nat → Int32} {h : Hp} {Ko : Option Value → Hp → Prop} (B : zB X cL_law 4 "LowWaterLaw" nm ret') (hX : lX X b L xs) (hr : zXr X = room_1) (hi : i + 5 ≤ L) (hL : L ≤ 2560) (hM : M ≤ 2 ^ 18) (hI : lI (zXg X) h x M) (kk : ∀ h', lI (zXg X) h' x (M + 4) → AW X rc rs 1147 [some (.ref b), some (.ref x), some (.ref (x + 54)), some (.int (nI i))] [] h' Ko) : AW X (rc + 1) (rs + 2) 216 [some (.ref b), some (.ref x), some (.ref (x + 54)), some (.int (nI i))] [] h Ko := by
  obtain ⟨ca, cs, N, T, Q, n, S2, T2, Q2, n2, tn, F, A, hc, eM, hz, hN, h2, h20, ht⟩ := hI
  have v := hc.v
  refine aw_aload_n B 1 rfl dL_law_216 rfl ?_
  refine aw_aload_n B 0 rfl dL_law_217 rfl ?_
  refine aw_iload_n B 3 rfl dL_law_218 rfl ?_
  refine aw_iconst B 1 (by decide) dL_law_219 ?_
  refine aw_iadd B dL_law_220 ?_
  rw [show nI i + 1 = nI (i + 1) from nI_add (a := i) (b := 1)]
  refine aw_sld B hX (j := i + 1) (by omega) (by omega) dL_law_221 ?_
  refine aw_aload_n B 0 rfl dL_law_222 rfl ?_
  refine aw_iload_n B 3 rfl dL_law_223 rfl ?_
  refine aw_iconst B 2 (by decide) dL_law_224 ?_
  refine aw_iadd B dL_law_225 ?_
  rw [show nI i + 2 = nI (i + 2) from nI_add (a := i) (b := 2)]
  refine aw_sld B hX (j := i + 2) (by omega) (by omega) dL_law_226 ?_
  refine aw_callV B (rc + 1) (rs + 2) (x_slate _ _ (xs (i + 1)) (xs (i + 2)) hc) co_X11_slate k_L_23 dL_law_227 hc.ox rfl rfl rfl rfl (Nat.le_of_ble_eq_true rfl) (zr0 hr (by decide)) (Nat.le_refl _) (Nat.le_refl _) (kI fun r227 h227 hp227 => ?_)
  obtain ⟨rfl, ⟨T9, n9, hc9⟩, O⟩ := hp227
  have eM := hM_kp eM (h' := h227) (fun a ha => O.2 a (by omega))
  have hz : x + 64 ≤ h227.1 := by rw [O.1]; exact hz
  have hs := s_slate X.1.2.1 (zXg X) h227 (x + 54) F A (xs (i + 1)) (xs (i + 2)) ⟨n 0, Nat.zero_le _, v.1.1, v.1.2.1⟩
  rw [eM] at hs
  refine aw_aload_n B 2 rfl dL_law_230 rfl ?_
  refine aw_aload_n B 0 rfl dL_law_231 rfl ?_
  refine aw_iload_n B 3 rfl dL_law_232 rfl ?_
  refine aw_iconst B 1 (by decide) dL_law_233 ?_
  refine aw_iadd B dL_law_234 ?_
  rw [show nI i + 1 = nI (i + 1) from nI_add (a := i) (b := 1)]
  refine aw_sld B hX (j := i + 1) (by omega) (by omega) dL_law_235 ?_
  refine aw_aload_n B 0 rfl dL_law_236 rfl ?_
  refine aw_iload_n B 3 rfl dL_law_237 rfl ?_
  refine aw_iconst B 2 (by decide) dL_law_238 ?_
  refine aw_iadd B dL_law_239 ?_
  rw [show nI i + 2 = nI (i + 2) from nI_add (a := i) (b := 2)]
  refine aw_sld B hX (j := i + 2) (by omega) (by omega) dL_law_240 ?_
  refine aw_callV B (rc + 1) (rs + 2) hs co_X12_slate k_L_27 dL_law_241 (hM_ob eM) rfl rfl rfl rfl (Nat.le_of_ble_eq_true rfl) (zr0 hr (by decide)) (Nat.le_refl _) (Nat.le_refl _) (kI fun r241 h241 hp241 => ?_)
  obtain ⟨rfl, eq2⟩ := hp241
  refine aw_icmp_eq B 1147 dL_law_244 (fun c244 => ?_) (fun c244 => absurd rfl c244)
  refine aw_le (rc' := rc) (rs' := rs) ?_ (Nat.le_succ _) (by omega)
  exact kk _ (lI_w hc9 eq2 hz (by omega) h2 h20 ht)
set_option maxRecDepth 100000 in
set_option maxHeartbeats 4000000 in
theorem law_3 {X : zX} {nm : String} {ret' : Option FieldType} {rc rs b L x M i : Nat} {xs : Nat → Int32} {h : Hp} {Ko : Option Value → Hp → Prop} (B : zB X cL_law 4 "LowWaterLaw" nm ret') (hX : lX X b L xs) (hr : zXr X = room_1) (hi : i + 5 ≤ L) (hL : L ≤ 2560) (hM : M ≤ 2 ^ 18) (hI : lI (zXg X) h x M) (kk : ∀ h', lI (zXg X) h' x (M + 4) → AW X rc rs 1147 [some (.ref b), some (.ref x), some (.ref (x + 54)), some (.int (nI i))] [] h' Ko) : AW X (rc + 1) (rs + 2) 249 [some (.ref b), some (.ref x), some (.ref (x + 54)), some (.int (nI i))] [] h Ko := by
  obtain ⟨ca, cs, N, T, Q, n, S2, T2, Q2, n2, tn, F, A, hc, eM, hz, hN, h2, h20, ht⟩ := hI
  have v := hc.v
  refine aw_aload_n B 1 rfl dL_law_249 rfl ?_
  refine aw_aload_n B 0 rfl dL_law_250 rfl ?_
  refine aw_iload_n B 3 rfl dL_law_251 rfl ?_
  refine aw_iconst B 1 (by decide) dL_law_252 ?_
  refine aw_iadd B dL_law_253 ?_
  rw [show nI i + 1 = nI (i + 1) from nI_add (a := i) (b := 1)]
  refine aw_sld B hX (j := i + 1) (by omega) (by omega) dL_law_254 ?_
  refine aw_aload_n B 0 rfl dL_law_255 rfl ?_
  refine aw_iload_n B 3 rfl dL_law_256 rfl ?_
  refine aw_iconst B 2 (by decide) dL_law_257 ?_
  refine aw_iadd B dL_law_258 ?_
  rw [show nI i + 2 = nI (i + 2) from nI_add (a := i) (b := 2)]
  refine aw_sld B hX (j := i + 2) (by omega) (by omega) dL_law_259 ?_
  refine aw_callV B (rc + 1) (rs + 2) (x_of _ _ (xs (i + 1)) (xs (i + 2)) hc) co_X11_of k_L_28 dL_law_260 hc.ox rfl rfl rfl rfl (Nat.le_of_ble_eq_true rfl) (zr0 hr (by decide)) (Nat.le_refl _) (Nat.le_refl _) (kI fun r260 h260 hp260 => ?_)
  obtain ⟨rfl, e9⟩ := hp260
  rw [e9]
  have hs := s_of X.1.2.1 (zXg X) h (x + 54) F A (xs (i + 1)) (xs (i + 2)) ⟨n 0, Nat.zero_le _, v.1.1, v.1.2.1⟩
  rw [eM] at hs
  refine aw_aload_n B 2 rfl dL_law_263 rfl ?_
  refine aw_aload_n B 0 rfl dL_law_264 rfl ?_
  refine aw_iload_n B 3 rfl dL_law_265 rfl ?_
  refine aw_iconst B 1 (by decide) dL_law_266 ?_
  refine aw_iadd B dL_law_267 ?_
  rw [show nI i + 1 = nI (i + 1) from nI_add (a := i) (b := 1)]
  refine aw_sld B hX (j := i + 1) (by omega) (by omega) dL_law_268 ?_
  refine aw_aload_n B 0 rfl dL_law_269 rfl ?_
  refine aw_iload_n B 3 rfl dL_law_270 rfl ?_
  refine aw_iconst B 2 (by decide) dL_law_271 ?_
  refine aw_iadd B dL_law_272 ?_
  rw [show nI i + 2 = nI (i + 2) from nI_add (a := i) (b := 2)]
  refine aw_sld B hX (j := i + 2) (by omega) (by omega) dL_law_273 ?_
  refine aw_callV B (rc + 1) (rs + 2) hs co_X12_of k_L_31 dL_law_274 (hM_ob eM) rfl rfl rfl rfl (Nat.le_of_ble_eq_true rfl) (zr0 hr (by decide)) (Nat.le_refl _) (Nat.le_refl _) (kI fun r274 h274 hp274 => ?_)
  obtain ⟨rfl, eq2⟩ := hp274
  refine aw_icmp_eq B 1147 dL_law_277 (fun c277 => ?_) (fun c277 => absurd rfl c277)
  refine aw_le (rc' := rc) (rs' := rs) ?_ (Nat.le_succ _) (by omega)
  exact kk _ (lI_w (S' := (q_of (A 1) (xs (i + 1)) (xs (i + 2))).2) hc eq2 hz (by omega) h2 h20 ht)
set_option maxRecDepth 100000 in
set_option maxHeartbeats 4000000 in
theorem law_4 {X : zX} {nm : String} {ret' : Option FieldType} {rc rs b L x M i : Nat} {xs : Nat → Int32} {h : Hp} {Ko : Option Value → Hp → Prop} (B : zB X cL_law 4 "LowWaterLaw" nm ret') (hX : lX X b L xs) (hr : zXr X = room_1) (hi : i + 5 ≤ L) (hL : L ≤ 2560) (hM : M ≤ 2 ^ 18) (hI : lI (zXg X) h x M) (kk : ∀ h', lI (zXg X) h' x (M + 4) → AW X rc rs 1147 [some (.ref b), some (.ref x), some (.ref (x + 54)), some (.int (nI i))] [] h' Ko) : AW X (rc + 1) (rs + 2) 282 [some (.ref b), some (.ref x), some (.ref (x + 54)), some (.int (nI i))] [] h Ko := by
  obtain ⟨ca, cs, N, T, Q, n, S2, T2, Q2, n2, tn, F, A, hc, eM, hz, hN, h2, h20, ht⟩ := hI
  have v := hc.v
  refine aw_aload_n B 1 rfl dL_law_282 rfl ?_
  refine aw_aload_n B 0 rfl dL_law_283 rfl ?_
  refine aw_iload_n B 3 rfl dL_law_284 rfl ?_
  refine aw_iconst B 1 (by decide) dL_law_285 ?_
  refine aw_iadd B dL_law_286 ?_
  rw [show nI i + 1 = nI (i + 1) from nI_add (a := i) (b := 1)]
  refine aw_sld B hX (j := i + 1) (by omega) (by omega) dL_law_287 ?_
  refine aw_aload_n B 0 rfl dL_law_288 rfl ?_
  refine aw_iload_n B 3 rfl dL_law_289 rfl ?_
  refine aw_iconst B 2 (by decide) dL_law_290 ?_
  refine aw_iadd B dL_law_291 ?_
  rw [show nI i + 2 = nI (i + 2) from nI_add (a := i) (b := 2)]
  refine aw_sld B hX (j := i + 2) (by omega) (by omega) dL_law_292 ?_
  refine aw_callV B (rc + 1) (rs + 2) (x_put _ _ (xs (i + 1)) (xs (i + 2)) hc) co_X11_put k_L_32 dL_law_293 hc.ox rfl rfl rfl rfl (Nat.le_of_ble_eq_true rfl) (zr0 hr (by decide)) (Nat.le_refl _) (Nat.le_refl _) (kI fun r293 h293 hp293 => ?_)
  obtain ⟨rfl, ⟨T9, n9, hc9⟩, O⟩ := hp293
  have eM := hM_kp eM (h' := h293) (fun a ha => O.2 a (by omega))
  have hz : x + 64 ≤ h293.1 := by rw [O.1]; exact hz
  have hs := s_put X.1.2.1 (zXg X) h293 (x + 54) F A (xs (i + 1)) (xs (i + 2)) ⟨n 0, Nat.zero_le _, v.1.1, v.1.2.1⟩
  rw [eM] at hs
  refine aw_aload_n B 2 rfl dL_law_296 rfl ?_
  refine aw_aload_n B 0 rfl dL_law_297 rfl ?_
  refine aw_iload_n B 3 rfl dL_law_298 rfl ?_
  refine aw_iconst B 1 (by decide) dL_law_299 ?_
  refine aw_iadd B dL_law_300 ?_
  rw [show nI i + 1 = nI (i + 1) from nI_add (a := i) (b := 1)]
  refine aw_sld B hX (j := i + 1) (by omega) (by omega) dL_law_301 ?_
  refine aw_aload_n B 0 rfl dL_law_302 rfl ?_
  refine aw_iload_n B 3 rfl dL_law_303 rfl ?_
  refine aw_iconst B 2 (by decide) dL_law_304 ?_
  refine aw_iadd B dL_law_305 ?_
  rw [show nI i + 2 = nI (i + 2) from nI_add (a := i) (b := 2)]
  refine aw_sld B hX (j := i + 2) (by omega) (by omega) dL_law_306 ?_
  refine aw_callV B (rc + 1) (rs + 2) hs co_X12_put k_L_35 dL_law_307 (hM_ob eM) rfl rfl rfl rfl (Nat.le_of_ble_eq_true rfl) (zr0 hr (by decide)) (Nat.le_refl _) (Nat.le_refl _) (kI fun r307 h307 hp307 => ?_)
  obtain ⟨rfl, eq2⟩ := hp307
  refine aw_icmp_eq B 1147 dL_law_310 (fun c310 => ?_) (fun c310 => absurd rfl c310)
  refine aw_le (rc' := rc) (rs' := rs) ?_ (Nat.le_succ _) (by omega)
  exact kk _ (lI_w hc9 eq2 hz (by omega) h2 h20 ht)
set_option maxRecDepth 100000 in
set_option maxHeartbeats 4000000 in
theorem law_5 {X : zX} {nm : String} {ret' : Option FieldType} {rc rs b L x M i : Nat} {xs : Nat → Int32} {h : Hp} {Ko : Option Value → Hp → Prop} (B : zB X cL_law 4 "LowWaterLaw" nm ret') (hX : lX X b L xs) (hr : zXr X = room_1) (hi : i + 5 ≤ L) (hL : L ≤ 2560) (hM : M ≤ 2 ^ 18) (hI : lI (zXg X) h x M) (kk : ∀ h', lI (zXg X) h' x (M + 4) → AW X rc rs 1147 [some (.ref b), some (.ref x), some (.ref (x + 54)), some (.int (nI i))] [] h' Ko) : AW X (rc + 1) (rs + 2) 315 [some (.ref b), some (.ref x), some (.ref (x + 54)), some (.int (nI i))] [] h Ko := by
  obtain ⟨ca, cs, N, T, Q, n, S2, T2, Q2, n2, tn, F, A, hc, eM, hz, hN, h2, h20, ht⟩ := hI
  have v := hc.v
  refine aw_aload_n B 1 rfl dL_law_315 rfl ?_
  refine aw_aload_n B 0 rfl dL_law_316 rfl ?_
  refine aw_iload_n B 3 rfl dL_law_317 rfl ?_
  refine aw_iconst B 1 (by decide) dL_law_318 ?_
  refine aw_iadd B dL_law_319 ?_
  rw [show nI i + 1 = nI (i + 1) from nI_add (a := i) (b := 1)]
  refine aw_sld B hX (j := i + 1) (by omega) (by omega) dL_law_320 ?_
  refine aw_aload_n B 0 rfl dL_law_321 rfl ?_
  refine aw_iload_n B 3 rfl dL_law_322 rfl ?_
  refine aw_iconst B 2 (by decide) dL_law_323 ?_
  refine aw_iadd B dL_law_324 ?_
  rw [show nI i + 2 = nI (i + 2) from nI_add (a := i) (b := 2)]
  refine aw_sld B hX (j := i + 2) (by omega) (by omega) dL_law_325 ?_
  refine aw_callV B rc rs (x_reader _ _ (xs (i + 1)) (xs (i + 2)) hc hz) co_X11_reader k_L_36 dL_law_326 hc.ox rfl rfl rfl rfl (Nat.le_of_ble_eq_true rfl) (zr1 (c := 0) (s := 0) hr (by decide)) (Nat.le_refl _) (Nat.le_refl _) (kI fun r326 h326 hp326 => ?_)
  obtain ⟨rfl, ⟨n9, hc9⟩, O1, O2⟩ := hp326
  have eM := hM_kp eM (h' := h326) (fun a ha => O2 a (by omega) (by omega))
  have hz : x + 64 ≤ h326.1 := by omega
  have hs := s_reader X.1.2.1 (zXg X) h326 (x + 54) F A (xs (i + 1)) (xs (i + 2)) ⟨n 1, Nat.zero_le _, v.2.1.1, v.2.1.2.1⟩
  rw [eM] at hs
  refine aw_aload_n B 2 rfl dL_law_329 rfl ?_
  refine aw_aload_n B 0 rfl dL_law_330 rfl ?_
  refine aw_iload_n B 3 rfl dL_law_331 rfl ?_
  refine aw_iconst B 1 (by decide) dL_law_332 ?_
  refine aw_iadd B dL_law_333 ?_
  rw [show nI i + 1 = nI (i + 1) from nI_add (a := i) (b := 1)]
  refine aw_sld B hX (j := i + 1) (by omega) (by omega) dL_law_334 ?_
  refine aw_aload_n B 0 rfl dL_law_335 rfl ?_
  refine aw_iload_n B 3 rfl dL_law_336 rfl ?_
  refine aw_iconst B 2 (by decide) dL_law_337 ?_
  refine aw_iadd B dL_law_338 ?_
  rw [show nI i + 2 = nI (i + 2) from nI_add (a := i) (b := 2)]
  refine aw_sld B hX (j := i + 2) (by omega) (by omega) dL_law_339 ?_
  refine aw_callV B rc rs hs co_X12_reader k_L_39 dL_law_340 (hM_ob eM) rfl rfl rfl rfl (Nat.le_of_ble_eq_true rfl) (zr0 hr (by decide)) (Nat.le_refl _) (Nat.le_refl _) (kI fun r340 h340 hp340 => ?_)
  obtain ⟨rfl, eq2⟩ := hp340
  refine aw_icmp_eq B 1147 dL_law_343 (fun c343 => ?_) (fun c343 => absurd rfl c343)
  exact kk _ (lI_w hc9 eq2 hz (by omega) h2 h20 ht)
set_option maxRecDepth 100000 in
set_option maxHeartbeats 4000000 in
theorem law_6 {X : zX} {nm : String} {ret' : Option FieldType} {rc rs b L x M i : Nat} {xs : Nat → Int32} {h : Hp} {Ko : Option Value → Hp → Prop} (B : zB X cL_law 4 "LowWaterLaw" nm ret') (hX : lX X b L xs) (hr : zXr X = room_1) (hi : i + 5 ≤ L) (hL : L ≤ 2560) (hM : M ≤ 2 ^ 18) (hI : lI (zXg X) h x M) (kk : ∀ h', lI (zXg X) h' x (M + 4) → AW X rc rs 1147 [some (.ref b), some (.ref x), some (.ref (x + 54)), some (.int (nI i))] [] h' Ko) : AW X (rc + 1) (rs + 2) 348 [some (.ref b), some (.ref x), some (.ref (x + 54)), some (.int (nI i))] [] h Ko := by
  obtain ⟨ca, cs, N, T, Q, n, S2, T2, Q2, n2, tn, F, A, hc, eM, hz, hN, h2, h20, ht⟩ := hI
  have v := hc.v
  refine aw_aload_n B 1 rfl dL_law_348 rfl ?_
  refine aw_aload_n B 0 rfl dL_law_349 rfl ?_
  refine aw_iload_n B 3 rfl dL_law_350 rfl ?_
  refine aw_iconst B 1 (by decide) dL_law_351 ?_
  refine aw_iadd B dL_law_352 ?_
  rw [show nI i + 1 = nI (i + 1) from nI_add (a := i) (b := 1)]
  refine aw_sld B hX (j := i + 1) (by omega) (by omega) dL_law_353 ?_
  refine aw_aload_n B 0 rfl dL_law_354 rfl ?_
  refine aw_iload_n B 3 rfl dL_law_355 rfl ?_
  refine aw_iconst B 2 (by decide) dL_law_356 ?_
  refine aw_iadd B dL_law_357 ?_
  rw [show nI i + 2 = nI (i + 2) from nI_add (a := i) (b := 2)]
  refine aw_sld B hX (j := i + 2) (by omega) (by omega) dL_law_358 ?_
  refine aw_callV B (rc + 1) (rs + 2) (x_at _ _ (xs (i + 1)) (xs (i + 2)) hc) co_X11_at k_L_40 dL_law_359 hc.ox rfl rfl rfl rfl (Nat.le_of_ble_eq_true rfl) (zr0 hr (by decide)) (Nat.le_refl _) (Nat.le_refl _) (kI fun r359 h359 hp359 => ?_)
  obtain ⟨rfl, e9⟩ := hp359
  rw [e9]
  have hs := s_at X.1.2.1 (zXg X) h (x + 54) F A (xs (i + 1)) (xs (i + 2)) ⟨n 1, Nat.zero_le _, v.2.1.1, v.2.1.2.1⟩
  rw [eM] at hs
  refine aw_aload_n B 2 rfl dL_law_362 rfl ?_
  refine aw_aload_n B 0 rfl dL_law_363 rfl ?_
  refine aw_iload_n B 3 rfl dL_law_364 rfl ?_
  refine aw_iconst B 1 (by decide) dL_law_365 ?_
  refine aw_iadd B dL_law_366 ?_
  rw [show nI i + 1 = nI (i + 1) from nI_add (a := i) (b := 1)]
  refine aw_sld B hX (j := i + 1) (by omega) (by omega) dL_law_367 ?_
  refine aw_aload_n B 0 rfl dL_law_368 rfl ?_
  refine aw_iload_n B 3 rfl dL_law_369 rfl ?_
  refine aw_iconst B 2 (by decide) dL_law_370 ?_
  refine aw_iadd B dL_law_371 ?_
  rw [show nI i + 2 = nI (i + 2) from nI_add (a := i) (b := 2)]
  refine aw_sld B hX (j := i + 2) (by omega) (by omega) dL_law_372 ?_
  refine aw_callV B (rc + 1) (rs + 2) hs co_X12_at k_L_43 dL_law_373 (hM_ob eM) rfl rfl rfl rfl (Nat.le_of_ble_eq_true rfl) (zr0 hr (by decide)) (Nat.le_refl _) (Nat.le_refl _) (kI fun r373 h373 hp373 => ?_)
  obtain ⟨rfl, eq2⟩ := hp373
  refine aw_icmp_eq B 1147 dL_law_376 (fun c376 => ?_) (fun c376 => absurd rfl c376)
  refine aw_le (rc' := rc) (rs' := rs) ?_ (Nat.le_succ _) (by omega)
  exact kk _ (lI_w (S' := (q_at (A 1) (xs (i + 1)) (xs (i + 2))).2) hc eq2 hz (by omega) h2 h20 ht)
set_option maxRecDepth 100000 in
set_option maxHeartbeats 4000000 in
theorem law_7 {X : zX} {nm : String} {ret' : Option FieldType} {rc rs b L x M i : Nat} {xs : Nat → Int32} {h : Hp} {Ko : Option Value → Hp → Prop} (B : zB X cL_law 4 "LowWaterLaw" nm ret') (hX : lX X b L xs) (hr : zXr X = room_1) (hi : i + 5 ≤ L) (hL : L ≤ 2560) (hM : M ≤ 2 ^ 18) (hI : lI (zXg X) h x M) (kk : ∀ h', lI (zXg X) h' x (M + 4) → AW X rc rs 1147 [some (.ref b), some (.ref x), some (.ref (x + 54)), some (.int (nI i))] [] h' Ko) : AW X (rc + 1) (rs + 2) 381 [some (.ref b), some (.ref x), some (.ref (x + 54)), some (.int (nI i))] [] h Ko := by
  obtain ⟨ca, cs, N, T, Q, n, S2, T2, Q2, n2, tn, F, A, hc, eM, hz, hN, h2, h20, ht⟩ := hI
  have v := hc.v
  refine aw_aload_n B 1 rfl dL_law_381 rfl ?_
  refine aw_aload_n B 0 rfl dL_law_382 rfl ?_
  refine aw_iload_n B 3 rfl dL_law_383 rfl ?_
  refine aw_iconst B 1 (by decide) dL_law_384 ?_
  refine aw_iadd B dL_law_385 ?_
  rw [show nI i + 1 = nI (i + 1) from nI_add (a := i) (b := 1)]
  refine aw_sld B hX (j := i + 1) (by omega) (by omega) dL_law_386 ?_
  refine aw_aload_n B 0 rfl dL_law_387 rfl ?_
  refine aw_iload_n B 3 rfl dL_law_388 rfl ?_
  refine aw_iconst B 2 (by decide) dL_law_389 ?_
  refine aw_iadd B dL_law_390 ?_
  rw [show nI i + 2 = nI (i + 2) from nI_add (a := i) (b := 2)]
  refine aw_sld B hX (j := i + 2) (by omega) (by omega) dL_law_391 ?_
  refine aw_callV B (rc + 1) (rs + 2) (x_needs _ _ (xs (i + 1)) (xs (i + 2)) hc) co_X11_needs k_L_44 dL_law_392 hc.ox rfl rfl rfl rfl (Nat.le_of_ble_eq_true rfl) (zr0 hr (by decide)) (Nat.le_refl _) (Nat.le_refl _) (kI fun r392 h392 hp392 => ?_)
  obtain ⟨rfl, e9⟩ := hp392
  rw [e9]
  have hs := s_needs X.1.2.1 (zXg X) h (x + 54) F A (xs (i + 1)) (xs (i + 2)) (n 0) (n 1) v.1 v.2.1
  rw [eM] at hs
  refine aw_aload_n B 2 rfl dL_law_395 rfl ?_
  refine aw_aload_n B 0 rfl dL_law_396 rfl ?_
  refine aw_iload_n B 3 rfl dL_law_397 rfl ?_
  refine aw_iconst B 1 (by decide) dL_law_398 ?_
  refine aw_iadd B dL_law_399 ?_
  rw [show nI i + 1 = nI (i + 1) from nI_add (a := i) (b := 1)]
  refine aw_sld B hX (j := i + 1) (by omega) (by omega) dL_law_400 ?_
  refine aw_aload_n B 0 rfl dL_law_401 rfl ?_
  refine aw_iload_n B 3 rfl dL_law_402 rfl ?_
  refine aw_iconst B 2 (by decide) dL_law_403 ?_
  refine aw_iadd B dL_law_404 ?_
  rw [show nI i + 2 = nI (i + 2) from nI_add (a := i) (b := 2)]
  refine aw_sld B hX (j := i + 2) (by omega) (by omega) dL_law_405 ?_
  refine aw_callV B (rc + 1) (rs + 2) hs co_X12_needs k_L_47 dL_law_406 (hM_ob eM) rfl rfl rfl rfl (Nat.le_of_ble_eq_true rfl) (zr0 hr (by decide)) (Nat.le_refl _) (Nat.le_refl _) (kI fun r406 h406 hp406 => ?_)
  obtain ⟨rfl, eq2⟩ := hp406
  refine aw_icmp_eq B 1147 dL_law_409 (fun c409 => ?_) (fun c409 => absurd rfl c409)
  refine aw_le (rc' := rc) (rs' := rs) ?_ (Nat.le_succ _) (by omega)
  exact kk _ (lI_w (S' := (q_needs (A 1) (xs (i + 1)) (xs (i + 2))).2) hc eq2 hz (by omega) h2 h20 ht)
set_option maxRecDepth 100000 in
set_option maxHeartbeats 4000000 in
theorem law_8 {X : zX} {nm : String} {ret' : Option FieldType} {rc rs b L x M i : Nat} {xs : Nat → Int32} {h : Hp} {Ko : Option Value → Hp → Prop} (B : zB X cL_law 4 "LowWaterLaw" nm ret') (hX : lX X b L xs) (hr : zXr X = room_1) (hi : i + 5 ≤ L) (hL : L ≤ 2560) (hM : M ≤ 2 ^ 18) (hI : lI (zXg X) h x M) (kk : ∀ h', lI (zXg X) h' x (M + 4) → AW X rc rs 1147 [some (.ref b), some (.ref x), some (.ref (x + 54)), some (.int (nI i))] [] h' Ko) : AW X (rc + 1) (rs + 2) 414 [some (.ref b), some (.ref x), some (.ref (x + 54)), some (.int (nI i))] [] h Ko := by
  obtain ⟨ca, cs, N, T, Q, n, S2, T2, Q2, n2, tn, F, A, hc, eM, hz, hN, h2, h20, ht⟩ := hI
  have v := hc.v
  refine aw_aload_n B 1 rfl dL_law_414 rfl ?_
  refine aw_aload_n B 0 rfl dL_law_415 rfl ?_
  refine aw_iload_n B 3 rfl dL_law_416 rfl ?_
  refine aw_iconst B 1 (by decide) dL_law_417 ?_
  refine aw_iadd B dL_law_418 ?_
  rw [show nI i + 1 = nI (i + 1) from nI_add (a := i) (b := 1)]
  refine aw_sld B hX (j := i + 1) (by omega) (by omega) dL_law_419 ?_
  refine aw_callV B (rc + 1) (rs + 2) (x_hours _ _ (xs (i + 1)) hc) co_X11_hours k_L_48 dL_law_420 hc.ox rfl rfl rfl rfl (Nat.le_of_ble_eq_true rfl) (zr0 hr (by decide)) (Nat.le_refl _) (Nat.le_refl _) (kI fun r420 h420 hp420 => ?_)
  obtain ⟨rfl, ⟨T9, n9, hc9⟩, O⟩ := hp420
  have eM := hM_kp eM (h' := h420) (fun a ha => O.2 a (by omega))
  have hz : x + 64 ≤ h420.1 := by rw [O.1]; exact hz
  have hs := s_hours X.1.2.1 (zXg X) h420 (x + 54) F A (xs (i + 1)) 
  rw [eM] at hs
  refine aw_aload_n B 2 rfl dL_law_423 rfl ?_
  refine aw_aload_n B 0 rfl dL_law_424 rfl ?_
  refine aw_iload_n B 3 rfl dL_law_425 rfl ?_
  refine aw_iconst B 1 (by decide) dL_law_426 ?_
  refine aw_iadd B dL_law_427 ?_
  rw [show nI i + 1 = nI (i + 1) from nI_add (a := i) (b := 1)]
  refine aw_sld B hX (j := i + 1) (by omega) (by omega) dL_law_428 ?_
  refine aw_callV B (rc + 1) (rs + 2) hs co_X12_hours k_L_51 dL_law_429 (hM_ob eM) rfl rfl rfl rfl (Nat.le_of_ble_eq_true rfl) (zr0 hr (by decide)) (Nat.le_refl _) (Nat.le_refl _) (kI fun r429 h429 hp429 => ?_)
  obtain ⟨rfl, eq2⟩ := hp429
  refine aw_icmp_eq B 1147 dL_law_432 (fun c432 => ?_) (fun c432 => absurd rfl c432)
  refine aw_le (rc' := rc) (rs' := rs) ?_ (Nat.le_succ _) (by omega)
  exact kk _ (lI_w hc9 eq2 hz (by omega) h2 h20 ht)
set_option maxRecDepth 100000 in
set_option maxHeartbeats 4000000 in
theorem law_9 {X : zX} {nm : String} {ret' : Option FieldType} {rc rs b L x M i : Nat} {xs : Nat → Int32} {h : Hp} {Ko : Option Value → Hp → Prop} (B : zB X cL_law 4 "LowWaterLaw" nm ret') (hX : lX X b L xs) (hr : zXr X = room_1) (hi : i + 5 ≤ L) (hL : L ≤ 2560) (hM : M ≤ 2 ^ 18) (hI : lI (zXg X) h x M) (kk : ∀ h', lI (zXg X) h' x (M + 4) → AW X rc rs 1147 [some (.ref b), some (.ref x), some (.ref (x + 54)), some (.int (nI i))] [] h' Ko) : AW X (rc + 1) (rs + 2) 437 [some (.ref b), some (.ref x), some (.ref (x + 54)), some (.int (nI i))] [] h Ko := by
  obtain ⟨ca, cs, N, T, Q, n, S2, T2, Q2, n2, tn, F, A, hc, eM, hz, hN, h2, h20, ht⟩ := hI
  have v := hc.v
  refine aw_aload_n B 1 rfl dL_law_437 rfl ?_
  refine aw_aload_n B 0 rfl dL_law_438 rfl ?_
  refine aw_iload_n B 3 rfl dL_law_439 rfl ?_
  refine aw_iconst B 1 (by decide) dL_law_440 ?_
  refine aw_iadd B dL_law_441 ?_
  rw [show nI i + 1 = nI (i + 1) from nI_add (a := i) (b := 1)]
  refine aw_sld B hX (j := i + 1) (by omega) (by omega) dL_law_442 ?_
  refine aw_callV B (rc + 1) (rs + 2) (x_told _ _ (xs (i + 1)) hc) co_X11_told k_L_52 dL_law_443 hc.ox rfl rfl rfl rfl (Nat.le_of_ble_eq_true rfl) (zr0 hr (by decide)) (Nat.le_refl _) (Nat.le_refl _) (kI fun r443 h443 hp443 => ?_)
  obtain ⟨rfl, hc, O⟩ := hp443
  have eM := hM_kp eM (h' := h443) (fun a ha => O.2 a (by omega))
  have hz : x + 64 ≤ h443.1 := by rw [O.1]; exact hz
  have hs := s_told X.1.2.1 (zXg X) h443 (x + 54) F A (xs (i + 1)) T Q v.t
  rw [eM] at hs
  refine aw_aload_n B 2 rfl dL_law_446 rfl ?_
  refine aw_aload_n B 0 rfl dL_law_447 rfl ?_
  refine aw_iload_n B 3 rfl dL_law_448 rfl ?_
  refine aw_iconst B 1 (by decide) dL_law_449 ?_
  refine aw_iadd B dL_law_450 ?_
  rw [show nI i + 1 = nI (i + 1) from nI_add (a := i) (b := 1)]
  refine aw_sld B hX (j := i + 1) (by omega) (by omega) dL_law_451 ?_
  refine aw_callV B (rc + 1) (rs + 2) hs co_X12_told k_L_55 dL_law_452 (hM_ob eM) rfl rfl rfl rfl (Nat.le_of_ble_eq_true rfl) (zr0 hr (by decide)) (Nat.le_refl _) (Nat.le_refl _) (kI fun r452 h452 hp452 => ?_)
  obtain ⟨rfl, hq2⟩ := hp452
  refine aw_icmp_eq B 1147 dL_law_455 (fun c455 => ?_) (fun c455 => absurd rfl c455)
  refine aw_le (rc' := rc) (rs' := rs) ?_ (Nat.le_succ _) (by omega)
  exact kk _ (lI_q hc hq2 hz (by omega) h2 h20 ht)
set_option maxRecDepth 100000 in
set_option maxHeartbeats 4000000 in
theorem law_10 {X : zX} {nm : String} {ret' : Option FieldType} {rc rs b L x M i : Nat} {xs : Nat → Int32} {h : Hp} {Ko : Option Value → Hp → Prop} (B : zB X cL_law 4 "LowWaterLaw" nm ret') (hX : lX X b L xs) (hr : zXr X = room_1) (hi : i + 5 ≤ L) (hL : L ≤ 2560) (hM : M ≤ 2 ^ 18) (hI : lI (zXg X) h x M) (kk : ∀ h', lI (zXg X) h' x (M + 4) → AW X rc rs 1147 [some (.ref b), some (.ref x), some (.ref (x + 54)), some (.int (nI i))] [] h' Ko) : AW X (rc + 1) (rs + 2) 460 [some (.ref b), some (.ref x), some (.ref (x + 54)), some (.int (nI i))] [] h Ko := by
  obtain ⟨ca, cs, N, T, Q, n, S2, T2, Q2, n2, tn, F, A, hc, eM, hz, hN, h2, h20, ht⟩ := hI
  have v := hc.v
  refine aw_aload_n B 1 rfl dL_law_460 rfl ?_
  refine aw_aload_n B 0 rfl dL_law_461 rfl ?_
  refine aw_iload_n B 3 rfl dL_law_462 rfl ?_
  refine aw_iconst B 1 (by decide) dL_law_463 ?_
  refine aw_iadd B dL_law_464 ?_
  rw [show nI i + 1 = nI (i + 1) from nI_add (a := i) (b := 1)]
  refine aw_sld B hX (j := i + 1) (by omega) (by omega) dL_law_465 ?_
  refine aw_callV B (rc + 1) (rs + 2) (x_level _ _ (xs (i + 1)) hc) co_X11_level k_L_56 dL_law_466 hc.ox rfl rfl rfl rfl (Nat.le_of_ble_eq_true rfl) (zr0 hr (by decide)) (Nat.le_refl _) (Nat.le_refl _) (kI fun r466 h466 hp466 => ?_)
  obtain ⟨rfl, hc, O⟩ := hp466
  have eM := hM_kp eM (h' := h466) (fun a ha => O.2 a (by omega))
  have hz : x + 64 ≤ h466.1 := by rw [O.1]; exact hz
  have hs := s_level X.1.2.1 (zXg X) h466 (x + 54) F A (xs (i + 1)) T Q v.t
  rw [eM] at hs
  refine aw_aload_n B 2 rfl dL_law_469 rfl ?_
  refine aw_aload_n B 0 rfl dL_law_470 rfl ?_
  refine aw_iload_n B 3 rfl dL_law_471 rfl ?_
  refine aw_iconst B 1 (by decide) dL_law_472 ?_
  refine aw_iadd B dL_law_473 ?_
  rw [show nI i + 1 = nI (i + 1) from nI_add (a := i) (b := 1)]
  refine aw_sld B hX (j := i + 1) (by omega) (by omega) dL_law_474 ?_
  refine aw_callV B (rc + 1) (rs + 2) hs co_X12_level k_L_59 dL_law_475 (hM_ob eM) rfl rfl rfl rfl (Nat.le_of_ble_eq_true rfl) (zr0 hr (by decide)) (Nat.le_refl _) (Nat.le_refl _) (kI fun r475 h475 hp475 => ?_)
  obtain ⟨rfl, hq2⟩ := hp475
  refine aw_icmp_eq B 1147 dL_law_478 (fun c478 => ?_) (fun c478 => absurd rfl c478)
  refine aw_le (rc' := rc) (rs' := rs) ?_ (Nat.le_succ _) (by omega)
  exact kk _ (lI_q hc hq2 hz (by omega) h2 h20 ht)
set_option maxRecDepth 100000 in
set_option maxHeartbeats 4000000 in
theorem law_11 {X : zX} {nm : String} {ret' : Option FieldType} {rc rs b L x M i : Nat} {xs : Nat → Int32} {h : Hp} {Ko : Option Value → Hp → Prop} (B : zB X cL_law 4 "LowWaterLaw" nm ret') (hX : lX X b L xs) (hr : zXr X = room_1) (hi : i + 5 ≤ L) (hL : L ≤ 2560) (hM : M ≤ 2 ^ 18) (hI : lI (zXg X) h x M) (kk : ∀ h', lI (zXg X) h' x (M + 4) → AW X rc rs 1147 [some (.ref b), some (.ref x), some (.ref (x + 54)), some (.int (nI i))] [] h' Ko) : AW X (rc + 1) (rs + 2) 483 [some (.ref b), some (.ref x), some (.ref (x + 54)), some (.int (nI i))] [] h Ko := by
  obtain ⟨ca, cs, N, T, Q, n, S2, T2, Q2, n2, tn, F, A, hc, eM, hz, hN, h2, h20, ht⟩ := hI
  have v := hc.v
  refine aw_aload_n B 1 rfl dL_law_483 rfl ?_
  refine aw_aload_n B 0 rfl dL_law_484 rfl ?_
  refine aw_iload_n B 3 rfl dL_law_485 rfl ?_
  refine aw_iconst B 1 (by decide) dL_law_486 ?_
  refine aw_iadd B dL_law_487 ?_
  rw [show nI i + 1 = nI (i + 1) from nI_add (a := i) (b := 1)]
  refine aw_sld B hX (j := i + 1) (by omega) (by omega) dL_law_488 ?_
  refine aw_aload_n B 0 rfl dL_law_489 rfl ?_
  refine aw_iload_n B 3 rfl dL_law_490 rfl ?_
  refine aw_iconst B 2 (by decide) dL_law_491 ?_
  refine aw_iadd B dL_law_492 ?_
  rw [show nI i + 2 = nI (i + 2) from nI_add (a := i) (b := 2)]
  refine aw_sld B hX (j := i + 2) (by omega) (by omega) dL_law_493 ?_
  refine aw_callV B (rc + 1) (rs + 2) (x_soon _ _ (xs (i + 1)) (xs (i + 2)) hc) co_X11_soon k_L_60 dL_law_494 hc.ox rfl rfl rfl rfl (Nat.le_of_ble_eq_true rfl) (zr0 hr (by decide)) (Nat.le_refl _) (Nat.le_refl _) (kI fun r494 h494 hp494 => ?_)
  obtain ⟨rfl, hc, O⟩ := hp494
  have eM := hM_kp eM (h' := h494) (fun a ha => O.2 a (by omega))
  have hz : x + 64 ≤ h494.1 := by rw [O.1]; exact hz
  have hs := s_soon X.1.2.1 (zXg X) h494 (x + 54) F A (xs (i + 1)) (xs (i + 2)) T Q v.t (n 0) (n 1) v.2.1 v.1
  rw [eM] at hs
  refine aw_aload_n B 2 rfl dL_law_497 rfl ?_
  refine aw_aload_n B 0 rfl dL_law_498 rfl ?_
  refine aw_iload_n B 3 rfl dL_law_499 rfl ?_
  refine aw_iconst B 1 (by decide) dL_law_500 ?_
  refine aw_iadd B dL_law_501 ?_
  rw [show nI i + 1 = nI (i + 1) from nI_add (a := i) (b := 1)]
  refine aw_sld B hX (j := i + 1) (by omega) (by omega) dL_law_502 ?_
  refine aw_aload_n B 0 rfl dL_law_503 rfl ?_
  refine aw_iload_n B 3 rfl dL_law_504 rfl ?_
  refine aw_iconst B 2 (by decide) dL_law_505 ?_
  refine aw_iadd B dL_law_506 ?_
  rw [show nI i + 2 = nI (i + 2) from nI_add (a := i) (b := 2)]
  refine aw_sld B hX (j := i + 2) (by omega) (by omega) dL_law_507 ?_
  refine aw_callV B (rc + 1) (rs + 2) hs co_X12_soon k_L_63 dL_law_508 (hM_ob eM) rfl rfl rfl rfl (Nat.le_of_ble_eq_true rfl) (zr0 hr (by decide)) (Nat.le_refl _) (Nat.le_refl _) (kI fun r508 h508 hp508 => ?_)
  obtain ⟨rfl, hq2⟩ := hp508
  refine aw_icmp_eq B 1147 dL_law_511 (fun c511 => ?_) (fun c511 => absurd rfl c511)
  refine aw_le (rc' := rc) (rs' := rs) ?_ (Nat.le_succ _) (by omega)
  exact kk _ (lI_q hc hq2 hz (by omega) h2 h20 ht)
set_option maxRecDepth 100000 in
set_option maxHeartbeats 4000000 in
theorem law_12 {X : zX} {nm : String} {ret' : Option FieldType} {rc rs b L x M i : Nat} {xs : Nat → Int32} {h : Hp} {Ko : Option Value → Hp → Prop} (B : zB X cL_law 4 "LowWaterLaw" nm ret') (hX : lX X b L xs) (hr : zXr X = room_1) (hi : i + 5 ≤ L) (hL : L ≤ 2560) (hM : M ≤ 2 ^ 18) (hI : lI (zXg X) h x M) (kk : ∀ h', lI (zXg X) h' x (M + 4) → AW X rc rs 1147 [some (.ref b), some (.ref x), some (.ref (x + 54)), some (.int (nI i))] [] h' Ko) : AW X (rc + 1) (rs + 2) 516 [some (.ref b), some (.ref x), some (.ref (x + 54)), some (.int (nI i))] [] h Ko := by
  obtain ⟨ca, cs, N, T, Q, n, S2, T2, Q2, n2, tn, F, A, hc, eM, hz, hN, h2, h20, ht⟩ := hI
  have v := hc.v
  refine aw_aload_n B 1 rfl dL_law_516 rfl ?_
  refine aw_aload_n B 0 rfl dL_law_517 rfl ?_
  refine aw_iload_n B 3 rfl dL_law_518 rfl ?_
  refine aw_iconst B 1 (by decide) dL_law_519 ?_
  refine aw_iadd B dL_law_520 ?_
  rw [show nI i + 1 = nI (i + 1) from nI_add (a := i) (b := 1)]
  refine aw_sld B hX (j := i + 1) (by omega) (by omega) dL_law_521 ?_
  refine aw_aload_n B 0 rfl dL_law_522 rfl ?_
  refine aw_iload_n B 3 rfl dL_law_523 rfl ?_
  refine aw_iconst B 2 (by decide) dL_law_524 ?_
  refine aw_iadd B dL_law_525 ?_
  rw [show nI i + 2 = nI (i + 2) from nI_add (a := i) (b := 2)]
  refine aw_sld B hX (j := i + 2) (by omega) (by omega) dL_law_526 ?_
  refine aw_aload_n B 0 rfl dL_law_527 rfl ?_
  refine aw_iload_n B 3 rfl dL_law_528 rfl ?_
  refine aw_iconst B 3 (by decide) dL_law_529 ?_
  refine aw_iadd B dL_law_530 ?_
  rw [show nI i + 3 = nI (i + 3) from nI_add (a := i) (b := 3)]
  refine aw_sld B hX (j := i + 3) (by omega) (by omega) dL_law_531 ?_
  refine aw_callV B (rc + 1) (rs + 2) (x_set _ _ (xs (i + 1)) (xs (i + 2)) (xs (i + 3)) (A 7) (A 8) hc (by omega)) co_X11_set k_L_64 dL_law_532 hc.ox rfl rfl rfl rfl (Nat.le_of_ble_eq_true rfl) (zr0 hr (by decide)) (Nat.le_refl _) (Nat.le_refl _) (kI fun r532 h532 hp532 => ?_)
  obtain ⟨rfl, hc, O⟩ := hp532
  have eM := hM_kp eM (h' := h532) (fun a ha => O.2 a (by omega))
  have hz : x + 64 ≤ h532.1 := by rw [O.1]; exact hz
  have hs := s_set X.1.2.1 (zXg X) h532 (x + 54) F A (xs (i + 1)) (xs (i + 2)) (xs (i + 3)) T Q v.t (n 0) (n 1) v.2.1 v.1
  rw [eM] at hs
  refine aw_aload_n B 2 rfl dL_law_535 rfl ?_
  refine aw_aload_n B 0 rfl dL_law_536 rfl ?_
  refine aw_iload_n B 3 rfl dL_law_537 rfl ?_
  refine aw_iconst B 1 (by decide) dL_law_538 ?_
  refine aw_iadd B dL_law_539 ?_
  rw [show nI i + 1 = nI (i + 1) from nI_add (a := i) (b := 1)]
  refine aw_sld B hX (j := i + 1) (by omega) (by omega) dL_law_540 ?_
  refine aw_aload_n B 0 rfl dL_law_541 rfl ?_
  refine aw_iload_n B 3 rfl dL_law_542 rfl ?_
  refine aw_iconst B 2 (by decide) dL_law_543 ?_
  refine aw_iadd B dL_law_544 ?_
  rw [show nI i + 2 = nI (i + 2) from nI_add (a := i) (b := 2)]
  refine aw_sld B hX (j := i + 2) (by omega) (by omega) dL_law_545 ?_
  refine aw_aload_n B 0 rfl dL_law_546 rfl ?_
  refine aw_iload_n B 3 rfl dL_law_547 rfl ?_
  refine aw_iconst B 3 (by decide) dL_law_548 ?_
  refine aw_iadd B dL_law_549 ?_
  rw [show nI i + 3 = nI (i + 3) from nI_add (a := i) (b := 3)]
  refine aw_sld B hX (j := i + 3) (by omega) (by omega) dL_law_550 ?_
  refine aw_callV B (rc + 1) (rs + 2) hs co_X12_set k_L_68 dL_law_551 (hM_ob eM) rfl rfl rfl rfl (Nat.le_of_ble_eq_true rfl) (zr0 hr (by decide)) (Nat.le_refl _) (Nat.le_refl _) (kI fun r551 h551 hp551 => ?_)
  obtain ⟨rfl, hq2⟩ := hp551
  refine aw_icmp_eq B 1147 dL_law_554 (fun c554 => ?_) (fun c554 => absurd rfl c554)
  refine aw_le (rc' := rc) (rs' := rs) ?_ (Nat.le_succ _) (by omega)
  exact kk _ (lI_q hc hq2 hz (by omega) h2 h20 ht)
set_option maxRecDepth 100000 in
set_option maxHeartbeats 4000000 in
theorem law_13 {X : zX} {nm : String} {ret' : Option FieldType} {rc rs b L x M i : Nat} {xs : Nat → Int32} {h : Hp} {Ko : Option Value → Hp → Prop} (B : zB X cL_law 4 "LowWaterLaw" nm ret') (hX : lX X b L xs) (hr : zXr X = room_1) (hi : i + 5 ≤ L) (hL : L ≤ 2560) (hM : M ≤ 2 ^ 18) (hI : lI (zXg X) h x M) (kk : ∀ h', lI (zXg X) h' x (M + 4) → AW X rc rs 1147 [some (.ref b), some (.ref x), some (.ref (x + 54)), some (.int (nI i))] [] h' Ko) : AW X (rc + 1) (rs + 2) 559 [some (.ref b), some (.ref x), some (.ref (x + 54)), some (.int (nI i))] [] h Ko := by
  obtain ⟨ca, cs, N, T, Q, n, S2, T2, Q2, n2, tn, F, A, hc, eM, hz, hN, h2, h20, ht⟩ := hI
  have v := hc.v
  refine aw_aload_n B 1 rfl dL_law_559 rfl ?_
  refine aw_aload_n B 0 rfl dL_law_560 rfl ?_
  refine aw_iload_n B 3 rfl dL_law_561 rfl ?_
  refine aw_iconst B 1 (by decide) dL_law_562 ?_
  refine aw_iadd B dL_law_563 ?_
  rw [show nI i + 1 = nI (i + 1) from nI_add (a := i) (b := 1)]
  refine aw_sld B hX (j := i + 1) (by omega) (by omega) dL_law_564 ?_
  refine aw_aload_n B 0 rfl dL_law_565 rfl ?_
  refine aw_iload_n B 3 rfl dL_law_566 rfl ?_
  refine aw_iconst B 2 (by decide) dL_law_567 ?_
  refine aw_iadd B dL_law_568 ?_
  rw [show nI i + 2 = nI (i + 2) from nI_add (a := i) (b := 2)]
  refine aw_sld B hX (j := i + 2) (by omega) (by omega) dL_law_569 ?_
  refine aw_aload_n B 0 rfl dL_law_570 rfl ?_
  refine aw_iload_n B 3 rfl dL_law_571 rfl ?_
  refine aw_iconst B 3 (by decide) dL_law_572 ?_
  refine aw_iadd B dL_law_573 ?_
  rw [show nI i + 3 = nI (i + 3) from nI_add (a := i) (b := 3)]
  refine aw_sld B hX (j := i + 3) (by omega) (by omega) dL_law_574 ?_
  refine aw_aload_n B 0 rfl dL_law_575 rfl ?_
  refine aw_iload_n B 3 rfl dL_law_576 rfl ?_
  refine aw_iconst B 4 (by decide) dL_law_577 ?_
  refine aw_iadd B dL_law_578 ?_
  rw [show nI i + 4 = nI (i + 4) from nI_add (a := i) (b := 4)]
  refine aw_sld B hX (j := i + 4) (by omega) (by omega) dL_law_579 ?_
  refine aw_callV B (rc + 1) (rs + 2) (x_two _ _ (xs (i + 1)) (xs (i + 2)) (xs (i + 3)) (xs (i + 4)) hc (by omega)) co_X11_two k_L_69 dL_law_580 hc.ox rfl rfl rfl rfl (Nat.le_of_ble_eq_true rfl) (zr0 hr (by decide)) (Nat.le_refl _) (Nat.le_refl _) (kI fun r580 h580 hp580 => ?_)
  obtain ⟨rfl, hc, O⟩ := hp580
  have eM := hM_kp eM (h' := h580) (fun a ha => O.2 a (by omega))
  have hz : x + 64 ≤ h580.1 := by rw [O.1]; exact hz
  have hs := s_two X.1.2.1 (zXg X) h580 (x + 54) F A (xs (i + 1)) (xs (i + 2)) (xs (i + 3)) (xs (i + 4)) T Q v.t (n 0) (n 1) v.2.1 v.1
  rw [eM] at hs
  refine aw_aload_n B 2 rfl dL_law_583 rfl ?_
  refine aw_aload_n B 0 rfl dL_law_584 rfl ?_
  refine aw_iload_n B 3 rfl dL_law_585 rfl ?_
  refine aw_iconst B 1 (by decide) dL_law_586 ?_
  refine aw_iadd B dL_law_587 ?_
  rw [show nI i + 1 = nI (i + 1) from nI_add (a := i) (b := 1)]
  refine aw_sld B hX (j := i + 1) (by omega) (by omega) dL_law_588 ?_
  refine aw_aload_n B 0 rfl dL_law_589 rfl ?_
  refine aw_iload_n B 3 rfl dL_law_590 rfl ?_
  refine aw_iconst B 2 (by decide) dL_law_591 ?_
  refine aw_iadd B dL_law_592 ?_
  rw [show nI i + 2 = nI (i + 2) from nI_add (a := i) (b := 2)]
  refine aw_sld B hX (j := i + 2) (by omega) (by omega) dL_law_593 ?_
  refine aw_aload_n B 0 rfl dL_law_594 rfl ?_
  refine aw_iload_n B 3 rfl dL_law_595 rfl ?_
  refine aw_iconst B 3 (by decide) dL_law_596 ?_
  refine aw_iadd B dL_law_597 ?_
  rw [show nI i + 3 = nI (i + 3) from nI_add (a := i) (b := 3)]
  refine aw_sld B hX (j := i + 3) (by omega) (by omega) dL_law_598 ?_
  refine aw_aload_n B 0 rfl dL_law_599 rfl ?_
  refine aw_iload_n B 3 rfl dL_law_600 rfl ?_
  refine aw_iconst B 4 (by decide) dL_law_601 ?_
  refine aw_iadd B dL_law_602 ?_
  rw [show nI i + 4 = nI (i + 4) from nI_add (a := i) (b := 4)]
  refine aw_sld B hX (j := i + 4) (by omega) (by omega) dL_law_603 ?_
  refine aw_callV B (rc + 1) (rs + 2) hs co_X12_two k_L_73 dL_law_604 (hM_ob eM) rfl rfl rfl rfl (Nat.le_of_ble_eq_true rfl) (zr0 hr (by decide)) (Nat.le_refl _) (Nat.le_refl _) (kI fun r604 h604 hp604 => ?_)
  obtain ⟨rfl, hq2⟩ := hp604
  refine aw_icmp_eq B 1147 dL_law_607 (fun c607 => ?_) (fun c607 => absurd rfl c607)
  refine aw_le (rc' := rc) (rs' := rs) ?_ (Nat.le_succ _) (by omega)
  exact kk _ (lI_q hc hq2 hz (by omega) h2 h20 ht)
set_option maxRecDepth 100000 in
set_option maxHeartbeats 4000000 in
theorem law_14 {X : zX} {nm : String} {ret' : Option FieldType} {rc rs b L x M i : Nat} {xs : Nat → Int32} {h : Hp} {Ko : Option Value → Hp → Prop} (B : zB X cL_law 4 "LowWaterLaw" nm ret') (hX : lX X b L xs) (hr : zXr X = room_1) (hi : i + 5 ≤ L) (hL : L ≤ 2560) (hM : M ≤ 2 ^ 18) (hI : lI (zXg X) h x M) (kk : ∀ h', lI (zXg X) h' x (M + 4) → AW X rc rs 1147 [some (.ref b), some (.ref x), some (.ref (x + 54)), some (.int (nI i))] [] h' Ko) : AW X (rc + 1) (rs + 2) 612 [some (.ref b), some (.ref x), some (.ref (x + 54)), some (.int (nI i))] [] h Ko := by
  obtain ⟨ca, cs, N, T, Q, n, S2, T2, Q2, n2, tn, F, A, hc, eM, hz, hN, h2, h20, ht⟩ := hI
  have v := hc.v
  refine aw_aload_n B 1 rfl dL_law_612 rfl ?_
  refine aw_aload_n B 0 rfl dL_law_613 rfl ?_
  refine aw_iload_n B 3 rfl dL_law_614 rfl ?_
  refine aw_iconst B 1 (by decide) dL_law_615 ?_
  refine aw_iadd B dL_law_616 ?_
  rw [show nI i + 1 = nI (i + 1) from nI_add (a := i) (b := 1)]
  refine aw_sld B hX (j := i + 1) (by omega) (by omega) dL_law_617 ?_
  refine aw_aload_n B 0 rfl dL_law_618 rfl ?_
  refine aw_iload_n B 3 rfl dL_law_619 rfl ?_
  refine aw_iconst B 2 (by decide) dL_law_620 ?_
  refine aw_iadd B dL_law_621 ?_
  rw [show nI i + 2 = nI (i + 2) from nI_add (a := i) (b := 2)]
  refine aw_sld B hX (j := i + 2) (by omega) (by omega) dL_law_622 ?_
  refine aw_aload_n B 0 rfl dL_law_623 rfl ?_
  refine aw_iload_n B 3 rfl dL_law_624 rfl ?_
  refine aw_iconst B 3 (by decide) dL_law_625 ?_
  refine aw_iadd B dL_law_626 ?_
  rw [show nI i + 3 = nI (i + 3) from nI_add (a := i) (b := 3)]
  refine aw_sld B hX (j := i + 3) (by omega) (by omega) dL_law_627 ?_
  refine aw_callV B (rc + 1) (rs + 2) (x_ask _ _ (xs (i + 1)) (xs (i + 2)) (xs (i + 3)) hc) co_X11_ask k_L_74 dL_law_628 hc.ox rfl rfl rfl rfl (Nat.le_of_ble_eq_true rfl) (zr0 hr (by decide)) (Nat.le_refl _) (Nat.le_refl _) (kI fun r628 h628 hp628 => ?_)
  obtain ⟨rfl, ⟨T9, n9, hc9⟩, O⟩ := hp628
  have eM := hM_kp eM (h' := h628) (fun a ha => O.2 a (by omega))
  have hz : x + 64 ≤ h628.1 := by rw [O.1]; exact hz
  have hs := s_ask X.1.2.1 (zXg X) h628 (x + 54) F A (xs (i + 1)) (xs (i + 2)) (xs (i + 3)) ⟨n 3, Nat.zero_le _, v.2.2.2.1.1, v.2.2.2.1.2.1⟩
  rw [eM] at hs
  refine aw_aload_n B 2 rfl dL_law_631 rfl ?_
  refine aw_aload_n B 0 rfl dL_law_632 rfl ?_
  refine aw_iload_n B 3 rfl dL_law_633 rfl ?_
  refine aw_iconst B 1 (by decide) dL_law_634 ?_
  refine aw_iadd B dL_law_635 ?_
  rw [show nI i + 1 = nI (i + 1) from nI_add (a := i) (b := 1)]
  refine aw_sld B hX (j := i + 1) (by omega) (by omega) dL_law_636 ?_
  refine aw_aload_n B 0 rfl dL_law_637 rfl ?_
  refine aw_iload_n B 3 rfl dL_law_638 rfl ?_
  refine aw_iconst B 2 (by decide) dL_law_639 ?_
  refine aw_iadd B dL_law_640 ?_
  rw [show nI i + 2 = nI (i + 2) from nI_add (a := i) (b := 2)]
  refine aw_sld B hX (j := i + 2) (by omega) (by omega) dL_law_641 ?_
  refine aw_aload_n B 0 rfl dL_law_642 rfl ?_
  refine aw_iload_n B 3 rfl dL_law_643 rfl ?_
  refine aw_iconst B 3 (by decide) dL_law_644 ?_
  refine aw_iadd B dL_law_645 ?_
  rw [show nI i + 3 = nI (i + 3) from nI_add (a := i) (b := 3)]
  refine aw_sld B hX (j := i + 3) (by omega) (by omega) dL_law_646 ?_
  refine aw_callV B (rc + 1) (rs + 2) hs co_X12_ask k_L_77 dL_law_647 (hM_ob eM) rfl rfl rfl rfl (Nat.le_of_ble_eq_true rfl) (zr0 hr (by decide)) (Nat.le_refl _) (Nat.le_refl _) (kI fun r647 h647 hp647 => ?_)
  obtain ⟨rfl, eq2⟩ := hp647
  refine aw_icmp_eq B 1147 dL_law_650 (fun c650 => ?_) (fun c650 => absurd rfl c650)
  refine aw_le (rc' := rc) (rs' := rs) ?_ (Nat.le_succ _) (by omega)
  exact kk _ (lI_w hc9 eq2 hz (by omega) h2 h20 ht)
set_option maxRecDepth 100000 in
set_option maxHeartbeats 4000000 in
theorem law_15 {X : zX} {nm : String} {ret' : Option FieldType} {rc rs b L x M i : Nat} {xs : Nat → Int32} {h : Hp} {Ko : Option Value → Hp → Prop} (B : zB X cL_law 4 "LowWaterLaw" nm ret') (hX : lX X b L xs) (hr : zXr X = room_1) (hi : i + 5 ≤ L) (hL : L ≤ 2560) (hM : M ≤ 2 ^ 18) (hI : lI (zXg X) h x M) (kk : ∀ h', lI (zXg X) h' x (M + 4) → AW X rc rs 1147 [some (.ref b), some (.ref x), some (.ref (x + 54)), some (.int (nI i))] [] h' Ko) : AW X (rc + 1) (rs + 2) 655 [some (.ref b), some (.ref x), some (.ref (x + 54)), some (.int (nI i))] [] h Ko := by
  obtain ⟨ca, cs, N, T, Q, n, S2, T2, Q2, n2, tn, F, A, hc, eM, hz, hN, h2, h20, ht⟩ := hI
  have v := hc.v
  refine aw_aload_n B 1 rfl dL_law_655 rfl ?_
  refine aw_callV B (rc + 1) (rs + 2) (x_waits _ _ hc) co_X11_waits k_L_78 dL_law_656 hc.ox rfl rfl rfl rfl (Nat.le_of_ble_eq_true rfl) (zr0 hr (by decide)) (Nat.le_refl _) (Nat.le_refl _) (kI fun r656 h656 hp656 => ?_)
  obtain ⟨rfl, hc, O⟩ := hp656
  have eM := hM_kp eM (h' := h656) (fun a ha => O.2 a (by omega))
  have hz : x + 64 ≤ h656.1 := by rw [O.1]; exact hz
  have hs := s_waits X.1.2.1 (zXg X) h656 (x + 54) F A  T Q v.t (n 0) (n 1) v.2.1 v.1 (n 3) v.2.2.2.1
  rw [eM] at hs
  refine aw_aload_n B 2 rfl dL_law_659 rfl ?_
  refine aw_callV B (rc + 1) (rs + 2) hs co_X12_waits k_L_81 dL_law_660 (hM_ob eM) rfl rfl rfl rfl (Nat.le_of_ble_eq_true rfl) (zr0 hr (by decide)) (Nat.le_refl _) (Nat.le_refl _) (kI fun r660 h660 hp660 => ?_)
  obtain ⟨rfl, hq2⟩ := hp660
  refine aw_icmp_eq B 1147 dL_law_663 (fun c663 => ?_) (fun c663 => absurd rfl c663)
  refine aw_le (rc' := rc) (rs' := rs) ?_ (Nat.le_succ _) (by omega)
  exact kk _ (lI_q hc hq2 hz (by omega) h2 h20 ht)
set_option maxRecDepth 100000 in
set_option maxHeartbeats 4000000 in
theorem law_16 {X : zX} {nm : String} {ret' : Option FieldType} {rc rs b L x M i : Nat} {xs : Nat → Int32} {h : Hp} {Ko : Option Value → Hp → Prop} (B : zB X cL_law 4 "LowWaterLaw" nm ret') (hX : lX X b L xs) (hr : zXr X = room_1) (hi : i + 5 ≤ L) (hL : L ≤ 2560) (hM : M ≤ 2 ^ 18) (hI : lI (zXg X) h x M) (kk : ∀ h', lI (zXg X) h' x (M + 4) → AW X rc rs 1147 [some (.ref b), some (.ref x), some (.ref (x + 54)), some (.int (nI i))] [] h' Ko) : AW X (rc + 1) (rs + 2) 668 [some (.ref b), some (.ref x), some (.ref (x + 54)), some (.int (nI i))] [] h Ko := by
  obtain ⟨ca, cs, N, T, Q, n, S2, T2, Q2, n2, tn, F, A, hc, eM, hz, hN, h2, h20, ht⟩ := hI
  have v := hc.v
  refine aw_aload_n B 1 rfl dL_law_668 rfl ?_
  refine aw_aload_n B 0 rfl dL_law_669 rfl ?_
  refine aw_iload_n B 3 rfl dL_law_670 rfl ?_
  refine aw_iconst B 1 (by decide) dL_law_671 ?_
  refine aw_iadd B dL_law_672 ?_
  rw [show nI i + 1 = nI (i + 1) from nI_add (a := i) (b := 1)]
  refine aw_sld B hX (j := i + 1) (by omega) (by omega) dL_law_673 ?_
  refine aw_aload_n B 0 rfl dL_law_674 rfl ?_
  refine aw_iload_n B 3 rfl dL_law_675 rfl ?_
  refine aw_iconst B 2 (by decide) dL_law_676 ?_
  refine aw_iadd B dL_law_677 ?_
  rw [show nI i + 2 = nI (i + 2) from nI_add (a := i) (b := 2)]
  refine aw_sld B hX (j := i + 2) (by omega) (by omega) dL_law_678 ?_
  refine aw_callV B (rc + 1) (rs + 2) (x_shelve _ _ (xs (i + 1)) (xs (i + 2)) hc) co_X11_shelve k_L_82 dL_law_679 hc.ox rfl rfl rfl rfl (Nat.le_of_ble_eq_true rfl) (zr0 hr (by decide)) (Nat.le_refl _) (Nat.le_refl _) (kI fun r679 h679 hp679 => ?_)
  obtain ⟨rfl, hc, O⟩ := hp679
  have eM := hM_kp eM (h' := h679) (fun a ha => O.2 a (by omega))
  have hz : x + 64 ≤ h679.1 := by rw [O.1]; exact hz
  have hs := s_shelve X.1.2.1 (zXg X) h679 (x + 54) F A (xs (i + 1)) (xs (i + 2)) T Q v.t (n 0) (n 1) v.2.1 v.1 (n 3) v.2.2.2.1
  rw [eM] at hs
  refine aw_aload_n B 2 rfl dL_law_682 rfl ?_
  refine aw_aload_n B 0 rfl dL_law_683 rfl ?_
  refine aw_iload_n B 3 rfl dL_law_684 rfl ?_
  refine aw_iconst B 1 (by decide) dL_law_685 ?_
  refine aw_iadd B dL_law_686 ?_
  rw [show nI i + 1 = nI (i + 1) from nI_add (a := i) (b := 1)]
  refine aw_sld B hX (j := i + 1) (by omega) (by omega) dL_law_687 ?_
  refine aw_aload_n B 0 rfl dL_law_688 rfl ?_
  refine aw_iload_n B 3 rfl dL_law_689 rfl ?_
  refine aw_iconst B 2 (by decide) dL_law_690 ?_
  refine aw_iadd B dL_law_691 ?_
  rw [show nI i + 2 = nI (i + 2) from nI_add (a := i) (b := 2)]
  refine aw_sld B hX (j := i + 2) (by omega) (by omega) dL_law_692 ?_
  refine aw_callV B (rc + 1) (rs + 2) hs co_X12_shelve k_L_85 dL_law_693 (hM_ob eM) rfl rfl rfl rfl (Nat.le_of_ble_eq_true rfl) (zr0 hr (by decide)) (Nat.le_refl _) (Nat.le_refl _) (kI fun r693 h693 hp693 => ?_)
  obtain ⟨rfl, hq2⟩ := hp693
  refine aw_icmp_eq B 1147 dL_law_696 (fun c696 => ?_) (fun c696 => absurd rfl c696)
  refine aw_le (rc' := rc) (rs' := rs) ?_ (Nat.le_succ _) (by omega)
  exact kk _ (lI_q hc hq2 hz (by omega) h2 h20 ht)
set_option maxRecDepth 100000 in
set_option maxHeartbeats 4000000 in
theorem law_17 {X : zX} {nm : String} {ret' : Option FieldType} {rc rs b L x M i : Nat} {xs : Nat → Int32} {h : Hp} {Ko : Option Value → Hp → Prop} (B : zB X cL_law 4 "LowWaterLaw" nm ret') (hX : lX X b L xs) (hr : zXr X = room_1) (hi : i + 5 ≤ L) (hL : L ≤ 2560) (hM : M ≤ 2 ^ 18) (hI : lI (zXg X) h x M) (kk : ∀ h', lI (zXg X) h' x (M + 4) → AW X rc rs 1147 [some (.ref b), some (.ref x), some (.ref (x + 54)), some (.int (nI i))] [] h' Ko) : AW X (rc + 1) (rs + 2) 701 [some (.ref b), some (.ref x), some (.ref (x + 54)), some (.int (nI i))] [] h Ko := by
  obtain ⟨ca, cs, N, T, Q, n, S2, T2, Q2, n2, tn, F, A, hc, eM, hz, hN, h2, h20, ht⟩ := hI
  have v := hc.v
  refine aw_aload_n B 1 rfl dL_law_701 rfl ?_
  refine aw_callV B (rc + 1) (rs + 2) (x_change _ _ hc) co_X11_change k_L_86 dL_law_702 hc.ox rfl rfl rfl rfl (Nat.le_of_ble_eq_true rfl) (zr0 hr (by decide)) (Nat.le_refl _) (Nat.le_refl _) (kI fun r702 h702 hp702 => ?_)
  obtain ⟨rfl, hc, O⟩ := hp702
  have eM := hM_kp eM (h' := h702) (fun a ha => O.2 a (by omega))
  have hz : x + 64 ≤ h702.1 := by rw [O.1]; exact hz
  have hs := s_change X.1.2.1 (zXg X) h702 (x + 54) F A  T Q v.t (n 0) (n 1) v.2.1 v.1 (n 3) v.2.2.2.1
  rw [eM] at hs
  refine aw_aload_n B 2 rfl dL_law_705 rfl ?_
  refine aw_callV B (rc + 1) (rs + 2) hs co_X12_change k_L_89 dL_law_706 (hM_ob eM) rfl rfl rfl rfl (Nat.le_of_ble_eq_true rfl) (zr0 hr (by decide)) (Nat.le_refl _) (Nat.le_refl _) (kI fun r706 h706 hp706 => ?_)
  obtain ⟨rfl, hq2⟩ := hp706
  refine aw_icmp_eq B 1147 dL_law_709 (fun c709 => ?_) (fun c709 => absurd rfl c709)
  refine aw_le (rc' := rc) (rs' := rs) ?_ (Nat.le_succ _) (by omega)
  exact kk _ (lI_q hc hq2 hz (by omega) h2 h20 ht)
set_option maxRecDepth 100000 in
set_option maxHeartbeats 4000000 in
theorem law_18 {X : zX} {nm : String} {ret' : Option FieldType} {rc rs b L x M i : Nat} {xs : Nat → Int32} {h : Hp} {Ko : Option Value → Hp → Prop} (B : zB X cL_law 4 "LowWaterLaw" nm ret') (hX : lX X b L xs) (hr : zXr X = room_1) (hi : i + 5 ≤ L) (hL : L ≤ 2560) (hM : M ≤ 2 ^ 18) (hI : lI (zXg X) h x M) (kk : ∀ h', lI (zXg X) h' x (M + 4) → AW X rc rs 1147 [some (.ref b), some (.ref x), some (.ref (x + 54)), some (.int (nI i))] [] h' Ko) : AW X (rc + 1) (rs + 2) 714 [some (.ref b), some (.ref x), some (.ref (x + 54)), some (.int (nI i))] [] h Ko := by
  obtain ⟨ca, cs, N, T, Q, n, S2, T2, Q2, n2, tn, F, A, hc, eM, hz, hN, h2, h20, ht⟩ := hI
  have v := hc.v
  refine aw_aload_n B 1 rfl dL_law_714 rfl ?_
  refine aw_aload_n B 0 rfl dL_law_715 rfl ?_
  refine aw_iload_n B 3 rfl dL_law_716 rfl ?_
  refine aw_iconst B 1 (by decide) dL_law_717 ?_
  refine aw_iadd B dL_law_718 ?_
  rw [show nI i + 1 = nI (i + 1) from nI_add (a := i) (b := 1)]
  refine aw_sld B hX (j := i + 1) (by omega) (by omega) dL_law_719 ?_
  refine aw_callV B (rc + 1) (rs + 2) (x_force _ _ (xs (i + 1)) hc) co_X11_force k_L_90 dL_law_720 hc.ox rfl rfl rfl rfl (Nat.le_of_ble_eq_true rfl) (zr0 hr (by decide)) (Nat.le_refl _) (Nat.le_refl _) (kI fun r720 h720 hp720 => ?_)
  obtain ⟨rfl, hc, O⟩ := hp720
  have eM := hM_kp eM (h' := h720) (fun a ha => O.2 a (by omega))
  have hz : x + 64 ≤ h720.1 := by rw [O.1]; exact hz
  have hs := s_force X.1.2.1 (zXg X) h720 (x + 54) F A (xs (i + 1)) T Q v.t (n 0) v.1
  rw [eM] at hs
  refine aw_aload_n B 2 rfl dL_law_723 rfl ?_
  refine aw_aload_n B 0 rfl dL_law_724 rfl ?_
  refine aw_iload_n B 3 rfl dL_law_725 rfl ?_
  refine aw_iconst B 1 (by decide) dL_law_726 ?_
  refine aw_iadd B dL_law_727 ?_
  rw [show nI i + 1 = nI (i + 1) from nI_add (a := i) (b := 1)]
  refine aw_sld B hX (j := i + 1) (by omega) (by omega) dL_law_728 ?_
  refine aw_callV B (rc + 1) (rs + 2) hs co_X12_force k_L_93 dL_law_729 (hM_ob eM) rfl rfl rfl rfl (Nat.le_of_ble_eq_true rfl) (zr0 hr (by decide)) (Nat.le_refl _) (Nat.le_refl _) (kI fun r729 h729 hp729 => ?_)
  obtain ⟨rfl, hq2⟩ := hp729
  refine aw_icmp_eq B 1147 dL_law_732 (fun c732 => ?_) (fun c732 => absurd rfl c732)
  refine aw_le (rc' := rc) (rs' := rs) ?_ (Nat.le_succ _) (by omega)
  exact kk _ (lI_q hc hq2 hz (by omega) h2 h20 ht)
set_option maxRecDepth 100000 in
set_option maxHeartbeats 4000000 in
theorem law_19 {X : zX} {nm : String} {ret' : Option FieldType} {rc rs b L x M i : Nat} {xs : Nat → Int32} {h : Hp} {Ko : Option Value → Hp → Prop} (B : zB X cL_law 4 "LowWaterLaw" nm ret') (hX : lX X b L xs) (hr : zXr X = room_1) (hi : i + 5 ≤ L) (hL : L ≤ 2560) (hM : M ≤ 2 ^ 18) (hI : lI (zXg X) h x M) (kk : ∀ h', lI (zXg X) h' x (M + 4) → AW X rc rs 1147 [some (.ref b), some (.ref x), some (.ref (x + 54)), some (.int (nI i))] [] h' Ko) : AW X (rc + 1) (rs + 2) 737 [some (.ref b), some (.ref x), some (.ref (x + 54)), some (.int (nI i))] [] h Ko := by
  obtain ⟨ca, cs, N, T, Q, n, S2, T2, Q2, n2, tn, F, A, hc, eM, hz, hN, h2, h20, ht⟩ := hI
  have v := hc.v
  refine aw_aload_n B 1 rfl dL_law_737 rfl ?_
  refine aw_aload_n B 0 rfl dL_law_738 rfl ?_
  refine aw_iload_n B 3 rfl dL_law_739 rfl ?_
  refine aw_iconst B 1 (by decide) dL_law_740 ?_
  refine aw_iadd B dL_law_741 ?_
  rw [show nI i + 1 = nI (i + 1) from nI_add (a := i) (b := 1)]
  refine aw_sld B hX (j := i + 1) (by omega) (by omega) dL_law_742 ?_
  refine aw_aload_n B 0 rfl dL_law_743 rfl ?_
  refine aw_iload_n B 3 rfl dL_law_744 rfl ?_
  refine aw_iconst B 2 (by decide) dL_law_745 ?_
  refine aw_iadd B dL_law_746 ?_
  rw [show nI i + 2 = nI (i + 2) from nI_add (a := i) (b := 2)]
  refine aw_sld B hX (j := i + 2) (by omega) (by omega) dL_law_747 ?_
  refine aw_aload_n B 0 rfl dL_law_748 rfl ?_
  refine aw_iload_n B 3 rfl dL_law_749 rfl ?_
  refine aw_iconst B 3 (by decide) dL_law_750 ?_
  refine aw_iadd B dL_law_751 ?_
  rw [show nI i + 3 = nI (i + 3) from nI_add (a := i) (b := 3)]
  refine aw_sld B hX (j := i + 3) (by omega) (by omega) dL_law_752 ?_
  refine aw_callV B (rc + 1) (rs + 2) (x_open _ _ (xs (i + 1)) (xs (i + 2)) (xs (i + 3)) hc) co_X11_open k_L_94 dL_law_753 hc.ox rfl rfl rfl rfl (Nat.le_of_ble_eq_true rfl) (zr0 hr (by decide)) (Nat.le_refl _) (Nat.le_refl _) (kI fun r753 h753 hp753 => ?_)
  obtain ⟨rfl, hc, O⟩ := hp753
  have eM := hM_kp eM (h' := h753) (fun a ha => O.2 a (by omega))
  have hz : x + 64 ≤ h753.1 := by rw [O.1]; exact hz
  have hs := s_open X.1.2.1 (zXg X) h753 (x + 54) F A (xs (i + 1)) (xs (i + 2)) (xs (i + 3)) T Q v.t
  rw [eM] at hs
  refine aw_aload_n B 2 rfl dL_law_756 rfl ?_
  refine aw_aload_n B 0 rfl dL_law_757 rfl ?_
  refine aw_iload_n B 3 rfl dL_law_758 rfl ?_
  refine aw_iconst B 1 (by decide) dL_law_759 ?_
  refine aw_iadd B dL_law_760 ?_
  rw [show nI i + 1 = nI (i + 1) from nI_add (a := i) (b := 1)]
  refine aw_sld B hX (j := i + 1) (by omega) (by omega) dL_law_761 ?_
  refine aw_aload_n B 0 rfl dL_law_762 rfl ?_
  refine aw_iload_n B 3 rfl dL_law_763 rfl ?_
  refine aw_iconst B 2 (by decide) dL_law_764 ?_
  refine aw_iadd B dL_law_765 ?_
  rw [show nI i + 2 = nI (i + 2) from nI_add (a := i) (b := 2)]
  refine aw_sld B hX (j := i + 2) (by omega) (by omega) dL_law_766 ?_
  refine aw_aload_n B 0 rfl dL_law_767 rfl ?_
  refine aw_iload_n B 3 rfl dL_law_768 rfl ?_
  refine aw_iconst B 3 (by decide) dL_law_769 ?_
  refine aw_iadd B dL_law_770 ?_
  rw [show nI i + 3 = nI (i + 3) from nI_add (a := i) (b := 3)]
  refine aw_sld B hX (j := i + 3) (by omega) (by omega) dL_law_771 ?_
  refine aw_callV B (rc + 1) (rs + 2) hs co_X12_open k_L_97 dL_law_772 (hM_ob eM) rfl rfl rfl rfl (Nat.le_of_ble_eq_true rfl) (zr0 hr (by decide)) (Nat.le_refl _) (Nat.le_refl _) (kI fun r772 h772 hp772 => ?_)
  obtain ⟨rfl, hq2⟩ := hp772
  refine aw_icmp_eq B 1147 dL_law_775 (fun c775 => ?_) (fun c775 => absurd rfl c775)
  refine aw_le (rc' := rc) (rs' := rs) ?_ (Nat.le_succ _) (by omega)
  exact kk _ (lI_q hc hq2 hz (by omega) h2 h20 ht)
set_option maxRecDepth 100000 in
set_option maxHeartbeats 4000000 in
theorem law_20 {X : zX} {nm : String} {ret' : Option FieldType} {rc rs b L x M i : Nat} {xs : Nat → Int32} {h : Hp} {Ko : Option Value → Hp → Prop} (B : zB X cL_law 4 "LowWaterLaw" nm ret') (hX : lX X b L xs) (hr : zXr X = room_1) (hi : i + 5 ≤ L) (hL : L ≤ 2560) (hM : M ≤ 2 ^ 18) (hI : lI (zXg X) h x M) (kk : ∀ h', lI (zXg X) h' x (M + 4) → AW X rc rs 1147 [some (.ref b), some (.ref x), some (.ref (x + 54)), some (.int (nI i))] [] h' Ko) : AW X (rc + 1) (rs + 2) 780 [some (.ref b), some (.ref x), some (.ref (x + 54)), some (.int (nI i))] [] h Ko := by
  obtain ⟨ca, cs, N, T, Q, n, S2, T2, Q2, n2, tn, F, A, hc, eM, hz, hN, h2, h20, ht⟩ := hI
  have v := hc.v
  refine aw_aload_n B 1 rfl dL_law_780 rfl ?_
  refine aw_aload_n B 0 rfl dL_law_781 rfl ?_
  refine aw_iload_n B 3 rfl dL_law_782 rfl ?_
  refine aw_iconst B 1 (by decide) dL_law_783 ?_
  refine aw_iadd B dL_law_784 ?_
  rw [show nI i + 1 = nI (i + 1) from nI_add (a := i) (b := 1)]
  refine aw_sld B hX (j := i + 1) (by omega) (by omega) dL_law_785 ?_
  refine aw_callV B (rc + 1) (rs + 2) (x_next _ _ (xs (i + 1)) hc) co_X11_next k_L_98 dL_law_786 hc.ox rfl rfl rfl rfl (Nat.le_of_ble_eq_true rfl) (zr0 hr (by decide)) (Nat.le_refl _) (Nat.le_refl _) (kI fun r786 h786 hp786 => ?_)
  obtain ⟨rfl, hc, O⟩ := hp786
  have eM := hM_kp eM (h' := h786) (fun a ha => O.2 a (by omega))
  have hz : x + 64 ≤ h786.1 := by rw [O.1]; exact hz
  have hs := s_next X.1.2.1 (zXg X) h786 (x + 54) F A (xs (i + 1)) T Q v.t
  rw [eM] at hs
  refine aw_aload_n B 2 rfl dL_law_789 rfl ?_
  refine aw_aload_n B 0 rfl dL_law_790 rfl ?_
  refine aw_iload_n B 3 rfl dL_law_791 rfl ?_
  refine aw_iconst B 1 (by decide) dL_law_792 ?_
  refine aw_iadd B dL_law_793 ?_
  rw [show nI i + 1 = nI (i + 1) from nI_add (a := i) (b := 1)]
  refine aw_sld B hX (j := i + 1) (by omega) (by omega) dL_law_794 ?_
  refine aw_callV B (rc + 1) (rs + 2) hs co_X12_next k_L_101 dL_law_795 (hM_ob eM) rfl rfl rfl rfl (Nat.le_of_ble_eq_true rfl) (zr0 hr (by decide)) (Nat.le_refl _) (Nat.le_refl _) (kI fun r795 h795 hp795 => ?_)
  obtain ⟨rfl, hq2⟩ := hp795
  refine aw_icmp_eq B 1147 dL_law_798 (fun c798 => ?_) (fun c798 => absurd rfl c798)
  refine aw_le (rc' := rc) (rs' := rs) ?_ (Nat.le_succ _) (by omega)
  exact kk _ (lI_q hc hq2 hz (by omega) h2 h20 ht)
set_option maxRecDepth 100000 in
set_option maxHeartbeats 4000000 in
theorem law_21 {X : zX} {nm : String} {ret' : Option FieldType} {rc rs b L x M i : Nat} {xs : Nat → Int32} {h : Hp} {Ko : Option Value → Hp → Prop} (B : zB X cL_law 4 "LowWaterLaw" nm ret') (hX : lX X b L xs) (hr : zXr X = room_1) (hi : i + 5 ≤ L) (hL : L ≤ 2560) (hM : M ≤ 2 ^ 18) (hI : lI (zXg X) h x M) (kk : ∀ h', lI (zXg X) h' x (M + 4) → AW X rc rs 1147 [some (.ref b), some (.ref x), some (.ref (x + 54)), some (.int (nI i))] [] h' Ko) : AW X (rc + 1) (rs + 2) 803 [some (.ref b), some (.ref x), some (.ref (x + 54)), some (.int (nI i))] [] h Ko := by
  obtain ⟨ca, cs, N, T, Q, n, S2, T2, Q2, n2, tn, F, A, hc, eM, hz, hN, h2, h20, ht⟩ := hI
  have v := hc.v
  refine aw_aload_n B 1 rfl dL_law_803 rfl ?_
  refine aw_aload_n B 0 rfl dL_law_804 rfl ?_
  refine aw_iload_n B 3 rfl dL_law_805 rfl ?_
  refine aw_iconst B 1 (by decide) dL_law_806 ?_
  refine aw_iadd B dL_law_807 ?_
  rw [show nI i + 1 = nI (i + 1) from nI_add (a := i) (b := 1)]
  refine aw_sld B hX (j := i + 1) (by omega) (by omega) dL_law_808 ?_
  refine aw_aload_n B 0 rfl dL_law_809 rfl ?_
  refine aw_iload_n B 3 rfl dL_law_810 rfl ?_
  refine aw_iconst B 2 (by decide) dL_law_811 ?_
  refine aw_iadd B dL_law_812 ?_
  rw [show nI i + 2 = nI (i + 2) from nI_add (a := i) (b := 2)]
  refine aw_sld B hX (j := i + 2) (by omega) (by omega) dL_law_813 ?_
  refine aw_aload_n B 0 rfl dL_law_814 rfl ?_
  refine aw_iload_n B 3 rfl dL_law_815 rfl ?_
  refine aw_iconst B 3 (by decide) dL_law_816 ?_
  refine aw_iadd B dL_law_817 ?_
  rw [show nI i + 3 = nI (i + 3) from nI_add (a := i) (b := 3)]
  refine aw_sld B hX (j := i + 3) (by omega) (by omega) dL_law_818 ?_
  refine aw_callV B (rc + 1) (rs + 2) (x_safe _ _ (xs (i + 1)) (xs (i + 2)) (xs (i + 3)) hc) co_X11_safe k_L_102 dL_law_819 hc.ox rfl rfl rfl rfl (Nat.le_of_ble_eq_true rfl) (zr0 hr (by decide)) (Nat.le_refl _) (Nat.le_refl _) (kJ fun r819 h819 hp819 => ?_)
  obtain ⟨rfl, hc, O⟩ := hp819
  have eM := hM_kp eM (h' := h819) (fun a ha => O.2 a (by omega))
  have hz : x + 64 ≤ h819.1 := by rw [O.1]; exact hz
  have hs := s_safe X.1.2.1 (zXg X) h819 (x + 54) F A (xs (i + 1)) (xs (i + 2)) (xs (i + 3)) T Q v.t
  rw [eM] at hs
  refine aw_aload_n B 2 rfl dL_law_822 rfl ?_
  refine aw_aload_n B 0 rfl dL_law_823 rfl ?_
  refine aw_iload_n B 3 rfl dL_law_824 rfl ?_
  refine aw_iconst B 1 (by decide) dL_law_825 ?_
  refine aw_iadd B dL_law_826 ?_
  rw [show nI i + 1 = nI (i + 1) from nI_add (a := i) (b := 1)]
  refine aw_sld B hX (j := i + 1) (by omega) (by omega) dL_law_827 ?_
  refine aw_aload_n B 0 rfl dL_law_828 rfl ?_
  refine aw_iload_n B 3 rfl dL_law_829 rfl ?_
  refine aw_iconst B 2 (by decide) dL_law_830 ?_
  refine aw_iadd B dL_law_831 ?_
  rw [show nI i + 2 = nI (i + 2) from nI_add (a := i) (b := 2)]
  refine aw_sld B hX (j := i + 2) (by omega) (by omega) dL_law_832 ?_
  refine aw_aload_n B 0 rfl dL_law_833 rfl ?_
  refine aw_iload_n B 3 rfl dL_law_834 rfl ?_
  refine aw_iconst B 3 (by decide) dL_law_835 ?_
  refine aw_iadd B dL_law_836 ?_
  rw [show nI i + 3 = nI (i + 3) from nI_add (a := i) (b := 3)]
  refine aw_sld B hX (j := i + 3) (by omega) (by omega) dL_law_837 ?_
  refine aw_callV B (rc + 1) (rs + 2) hs co_X12_safe k_L_106 dL_law_838 (hM_ob eM) rfl rfl rfl rfl (Nat.le_of_ble_eq_true rfl) (zr0 hr (by decide)) (Nat.le_refl _) (Nat.le_refl _) (kJ fun r838 h838 hp838 => ?_)
  obtain ⟨rfl, hq2⟩ := hp838
  refine aw_lcmp B dL_law_841 ?_
  refine aw_if_eq B 1147 dL_law_842 (fun c842 => ?_) (fun c842 => absurd (lcmp0.mpr rfl) c842)
  refine aw_le (rc' := rc) (rs' := rs) ?_ (Nat.le_succ _) (by omega)
  exact kk _ (lI_q hc hq2 hz (by omega) h2 h20 ht)
set_option maxRecDepth 100000 in
set_option maxHeartbeats 4000000 in
theorem law_22 {X : zX} {nm : String} {ret' : Option FieldType} {rc rs b L x M i : Nat} {xs : Nat → Int32} {h : Hp} {Ko : Option Value → Hp → Prop} (B : zB X cL_law 4 "LowWaterLaw" nm ret') (hX : lX X b L xs) (hr : zXr X = room_1) (hi : i + 5 ≤ L) (hL : L ≤ 2560) (hM : M ≤ 2 ^ 18) (hI : lI (zXg X) h x M) (kk : ∀ h', lI (zXg X) h' x (M + 4) → AW X rc rs 1147 [some (.ref b), some (.ref x), some (.ref (x + 54)), some (.int (nI i))] [] h' Ko) : AW X (rc + 1) (rs + 2) 847 [some (.ref b), some (.ref x), some (.ref (x + 54)), some (.int (nI i))] [] h Ko := by
  obtain ⟨ca, cs, N, T, Q, n, S2, T2, Q2, n2, tn, F, A, hc, eM, hz, hN, h2, h20, ht⟩ := hI
  have v := hc.v
  refine aw_aload_n B 1 rfl dL_law_847 rfl ?_
  refine aw_aload_n B 0 rfl dL_law_848 rfl ?_
  refine aw_iload_n B 3 rfl dL_law_849 rfl ?_
  refine aw_iconst B 1 (by decide) dL_law_850 ?_
  refine aw_iadd B dL_law_851 ?_
  rw [show nI i + 1 = nI (i + 1) from nI_add (a := i) (b := 1)]
  refine aw_sld B hX (j := i + 1) (by omega) (by omega) dL_law_852 ?_
  refine aw_aload_n B 0 rfl dL_law_853 rfl ?_
  refine aw_iload_n B 3 rfl dL_law_854 rfl ?_
  refine aw_iconst B 2 (by decide) dL_law_855 ?_
  refine aw_iadd B dL_law_856 ?_
  rw [show nI i + 2 = nI (i + 2) from nI_add (a := i) (b := 2)]
  refine aw_sld B hX (j := i + 2) (by omega) (by omega) dL_law_857 ?_
  refine aw_callV B (rc + 1) (rs + 2) (x_mean _ _ (xs (i + 1)) (xs (i + 2)) hc) co_X11_mean k_L_107 dL_law_858 hc.ox rfl rfl rfl rfl (Nat.le_of_ble_eq_true rfl) (zr0 hr (by decide)) (Nat.le_refl _) (Nat.le_refl _) (kJ fun r858 h858 hp858 => ?_)
  obtain ⟨rfl, hc, O⟩ := hp858
  have eM := hM_kp eM (h' := h858) (fun a ha => O.2 a (by omega))
  have hz : x + 64 ≤ h858.1 := by rw [O.1]; exact hz
  have hs := s_mean X.1.2.1 (zXg X) h858 (x + 54) F A (xs (i + 1)) (xs (i + 2)) T Q v.t
  rw [eM] at hs
  refine aw_aload_n B 2 rfl dL_law_861 rfl ?_
  refine aw_aload_n B 0 rfl dL_law_862 rfl ?_
  refine aw_iload_n B 3 rfl dL_law_863 rfl ?_
  refine aw_iconst B 1 (by decide) dL_law_864 ?_
  refine aw_iadd B dL_law_865 ?_
  rw [show nI i + 1 = nI (i + 1) from nI_add (a := i) (b := 1)]
  refine aw_sld B hX (j := i + 1) (by omega) (by omega) dL_law_866 ?_
  refine aw_aload_n B 0 rfl dL_law_867 rfl ?_
  refine aw_iload_n B 3 rfl dL_law_868 rfl ?_
  refine aw_iconst B 2 (by decide) dL_law_869 ?_
  refine aw_iadd B dL_law_870 ?_
  rw [show nI i + 2 = nI (i + 2) from nI_add (a := i) (b := 2)]
  refine aw_sld B hX (j := i + 2) (by omega) (by omega) dL_law_871 ?_
  refine aw_callV B (rc + 1) (rs + 2) hs co_X12_mean k_L_111 dL_law_872 (hM_ob eM) rfl rfl rfl rfl (Nat.le_of_ble_eq_true rfl) (zr0 hr (by decide)) (Nat.le_refl _) (Nat.le_refl _) (kJ fun r872 h872 hp872 => ?_)
  obtain ⟨rfl, hq2⟩ := hp872
  refine aw_lcmp B dL_law_875 ?_
  refine aw_if_eq B 1147 dL_law_876 (fun c876 => ?_) (fun c876 => absurd (lcmp0.mpr rfl) c876)
  refine aw_le (rc' := rc) (rs' := rs) ?_ (Nat.le_succ _) (by omega)
  exact kk _ (lI_q hc hq2 hz (by omega) h2 h20 ht)
set_option maxRecDepth 100000 in
set_option maxHeartbeats 4000000 in
theorem law_23 {X : zX} {nm : String} {ret' : Option FieldType} {rc rs b L x M i : Nat} {xs : Nat → Int32} {h : Hp} {Ko : Option Value → Hp → Prop} (B : zB X cL_law 4 "LowWaterLaw" nm ret') (hX : lX X b L xs) (hr : zXr X = room_1) (hi : i + 5 ≤ L) (hL : L ≤ 2560) (hM : M ≤ 2 ^ 18) (hI : lI (zXg X) h x M) (kk : ∀ h', lI (zXg X) h' x (M + 4) → AW X rc rs 1147 [some (.ref b), some (.ref x), some (.ref (x + 54)), some (.int (nI i))] [] h' Ko) : AW X (rc + 1) (rs + 2) 881 [some (.ref b), some (.ref x), some (.ref (x + 54)), some (.int (nI i))] [] h Ko := by
  obtain ⟨ca, cs, N, T, Q, n, S2, T2, Q2, n2, tn, F, A, hc, eM, hz, hN, h2, h20, ht⟩ := hI
  have v := hc.v
  have hb : ∃ w9 : Int32, w9 = if xs (i + 2) = 0 then 0 else 1 := ⟨_, rfl⟩
  obtain ⟨w9, ew⟩ := hb
  by_cases hw : xs (i + 2) = 0
  · rw [if_pos hw] at ew
    subst ew
    refine aw_aload_n B 1 rfl dL_law_881 rfl ?_
    refine aw_aload_n B 0 rfl dL_law_882 rfl ?_
    refine aw_iload_n B 3 rfl dL_law_883 rfl ?_
    refine aw_iconst B 1 (by decide) dL_law_884 ?_
    refine aw_iadd B dL_law_885 ?_
    rw [show nI i + 1 = nI (i + 1) from nI_add (a := i) (b := 1)]
    refine aw_sld B hX (j := i + 1) (by omega) (by omega) dL_law_886 ?_
    refine aw_aload_n B 0 rfl dL_law_887 rfl ?_
    refine aw_iload_n B 3 rfl dL_law_888 rfl ?_
    refine aw_iconst B 2 (by decide) dL_law_889 ?_
    refine aw_iadd B dL_law_890 ?_
    rw [show nI i + 2 = nI (i + 2) from nI_add (a := i) (b := 2)]
    refine aw_sld B hX (j := i + 2) (by omega) (by omega) dL_law_891 ?_
    refine aw_if_eq B 899 dL_law_892 (fun c892 => ?_) (fun c892 => absurd hw c892)
    refine aw_iconst B 0 (by decide) dL_law_899 ?_
    refine aw_callV B (rc + 1) (rs + 2) (x_see _ _ (xs (i + 1)) 0 hc) co_X11_see k_L_112 dL_law_900 hc.ox rfl rfl rfl rfl (Nat.le_of_ble_eq_true rfl) (zr0 hr (by decide)) (Nat.le_refl _) (Nat.le_refl _) (kI fun r900 h900 hp900 => ?_)
    obtain ⟨rfl, ⟨T9, n9, hc9⟩, O⟩ := hp900
    have eM := hM_kp eM (h' := h900) (fun a ha => O.2 a (by omega))
    have hz : x + 64 ≤ h900.1 := by rw [O.1]; exact hz
    have hs := s_see X.1.2.1 (zXg X) h900 (x + 54) F A (xs (i + 1)) 0 ⟨n 4, Nat.zero_le _, v.2.2.2.2.1.1, v.2.2.2.2.1.2.1⟩
    rw [eM] at hs
    refine aw_aload_n B 2 rfl dL_law_903 rfl ?_
    refine aw_aload_n B 0 rfl dL_law_904 rfl ?_
    refine aw_iload_n B 3 rfl dL_law_905 rfl ?_
    refine aw_iconst B 1 (by decide) dL_law_906 ?_
    refine aw_iadd B dL_law_907 ?_
    rw [show nI i + 1 = nI (i + 1) from nI_add (a := i) (b := 1)]
    refine aw_sld B hX (j := i + 1) (by omega) (by omega) dL_law_908 ?_
    refine aw_aload_n B 0 rfl dL_law_909 rfl ?_
    refine aw_iload_n B 3 rfl dL_law_910 rfl ?_
    refine aw_iconst B 2 (by decide) dL_law_911 ?_
    refine aw_iadd B dL_law_912 ?_
    rw [show nI i + 2 = nI (i + 2) from nI_add (a := i) (b := 2)]
    refine aw_sld B hX (j := i + 2) (by omega) (by omega) dL_law_913 ?_
    refine aw_if_eq B 921 dL_law_914 (fun c914 => ?_) (fun c914 => absurd hw c914)
    refine aw_iconst B 0 (by decide) dL_law_921 ?_
    refine aw_callV B (rc + 1) (rs + 2) hs co_X12_see k_L_116 dL_law_922 (hM_ob eM) rfl rfl rfl rfl (Nat.le_of_ble_eq_true rfl) (zr0 hr (by decide)) (Nat.le_refl _) (Nat.le_refl _) (kI fun r922 h922 hp922 => ?_)
    obtain ⟨rfl, eq2⟩ := hp922
    refine aw_icmp_eq B 1147 dL_law_925 (fun c925 => ?_) (fun c925 => absurd rfl c925)
    refine aw_le (rc' := rc) (rs' := rs) ?_ (Nat.le_succ _) (by omega)
    exact kk _ (lI_w hc9 eq2 hz (by omega) h2 h20 ht)
  · rw [if_neg hw] at ew
    subst ew
    refine aw_aload_n B 1 rfl dL_law_881 rfl ?_
    refine aw_aload_n B 0 rfl dL_law_882 rfl ?_
    refine aw_iload_n B 3 rfl dL_law_883 rfl ?_
    refine aw_iconst B 1 (by decide) dL_law_884 ?_
    refine aw_iadd B dL_law_885 ?_
    rw [show nI i + 1 = nI (i + 1) from nI_add (a := i) (b := 1)]
    refine aw_sld B hX (j := i + 1) (by omega) (by omega) dL_law_886 ?_
    refine aw_aload_n B 0 rfl dL_law_887 rfl ?_
    refine aw_iload_n B 3 rfl dL_law_888 rfl ?_
    refine aw_iconst B 2 (by decide) dL_law_889 ?_
    refine aw_iadd B dL_law_890 ?_
    rw [show nI i + 2 = nI (i + 2) from nI_add (a := i) (b := 2)]
    refine aw_sld B hX (j := i + 2) (by omega) (by omega) dL_law_891 ?_
    refine aw_if_eq B 899 dL_law_892 (fun c892 => absurd c892 hw) (fun c892 => ?_)
    refine aw_iconst B 1 (by decide) dL_law_895 ?_
    refine aw_goto B 900 dL_law_896 ?_
    refine aw_callV B (rc + 1) (rs + 2) (x_see _ _ (xs (i + 1)) 1 hc) co_X11_see k_L_112 dL_law_900 hc.ox rfl rfl rfl rfl (Nat.le_of_ble_eq_true rfl) (zr0 hr (by decide)) (Nat.le_refl _) (Nat.le_refl _) (kI fun r900 h900 hp900 => ?_)
    obtain ⟨rfl, ⟨T9, n9, hc9⟩, O⟩ := hp900
    have eM := hM_kp eM (h' := h900) (fun a ha => O.2 a (by omega))
    have hz : x + 64 ≤ h900.1 := by rw [O.1]; exact hz
    have hs := s_see X.1.2.1 (zXg X) h900 (x + 54) F A (xs (i + 1)) 1 ⟨n 4, Nat.zero_le _, v.2.2.2.2.1.1, v.2.2.2.2.1.2.1⟩
    rw [eM] at hs
    refine aw_aload_n B 2 rfl dL_law_903 rfl ?_
    refine aw_aload_n B 0 rfl dL_law_904 rfl ?_
    refine aw_iload_n B 3 rfl dL_law_905 rfl ?_
    refine aw_iconst B 1 (by decide) dL_law_906 ?_
    refine aw_iadd B dL_law_907 ?_
    rw [show nI i + 1 = nI (i + 1) from nI_add (a := i) (b := 1)]
    refine aw_sld B hX (j := i + 1) (by omega) (by omega) dL_law_908 ?_
    refine aw_aload_n B 0 rfl dL_law_909 rfl ?_
    refine aw_iload_n B 3 rfl dL_law_910 rfl ?_
    refine aw_iconst B 2 (by decide) dL_law_911 ?_
    refine aw_iadd B dL_law_912 ?_
    rw [show nI i + 2 = nI (i + 2) from nI_add (a := i) (b := 2)]
    refine aw_sld B hX (j := i + 2) (by omega) (by omega) dL_law_913 ?_
    refine aw_if_eq B 921 dL_law_914 (fun c914 => absurd c914 hw) (fun c914 => ?_)
    refine aw_iconst B 1 (by decide) dL_law_917 ?_
    refine aw_goto B 922 dL_law_918 ?_
    refine aw_callV B (rc + 1) (rs + 2) hs co_X12_see k_L_116 dL_law_922 (hM_ob eM) rfl rfl rfl rfl (Nat.le_of_ble_eq_true rfl) (zr0 hr (by decide)) (Nat.le_refl _) (Nat.le_refl _) (kI fun r922 h922 hp922 => ?_)
    obtain ⟨rfl, eq2⟩ := hp922
    refine aw_icmp_eq B 1147 dL_law_925 (fun c925 => ?_) (fun c925 => absurd rfl c925)
    refine aw_le (rc' := rc) (rs' := rs) ?_ (Nat.le_succ _) (by omega)
    exact kk _ (lI_w hc9 eq2 hz (by omega) h2 h20 ht)
set_option maxRecDepth 100000 in
set_option maxHeartbeats 4000000 in
theorem law_24 {X : zX} {nm : String} {ret' : Option FieldType} {rc rs b L x M i : Nat} {xs : Nat → Int32} {h : Hp} {Ko : Option Value → Hp → Prop} (B : zB X cL_law 4 "LowWaterLaw" nm ret') (hX : lX X b L xs) (hr : zXr X = room_1) (hi : i + 5 ≤ L) (hL : L ≤ 2560) (hM : M ≤ 2 ^ 18) (hI : lI (zXg X) h x M) (kk : ∀ h', lI (zXg X) h' x (M + 4) → AW X rc rs 1147 [some (.ref b), some (.ref x), some (.ref (x + 54)), some (.int (nI i))] [] h' Ko) : AW X (rc + 1) (rs + 2) 930 [some (.ref b), some (.ref x), some (.ref (x + 54)), some (.int (nI i))] [] h Ko := by
  obtain ⟨ca, cs, N, T, Q, n, S2, T2, Q2, n2, tn, F, A, hc, eM, hz, hN, h2, h20, ht⟩ := hI
  have v := hc.v
  refine aw_aload_n B 1 rfl dL_law_930 rfl ?_
  refine aw_callV B (rc + 1) (rs + 2) (x_stood _ _ hc) co_X11_stood k_L_117 dL_law_931 hc.ox rfl rfl rfl rfl (Nat.le_of_ble_eq_true rfl) (zr0 hr (by decide)) (Nat.le_refl _) (Nat.le_refl _) (kI fun r931 h931 hp931 => ?_)
  obtain ⟨rfl, hc, O⟩ := hp931
  have eM := hM_kp eM (h' := h931) (fun a ha => O.2 a (by omega))
  have hz : x + 64 ≤ h931.1 := by rw [O.1]; exact hz
  have hs := s_stood X.1.2.1 (zXg X) h931 (x + 54) F A  T Q v.t (n 4) v.2.2.2.2.1
  rw [eM] at hs
  refine aw_aload_n B 2 rfl dL_law_934 rfl ?_
  refine aw_callV B (rc + 1) (rs + 2) hs co_X12_stood k_L_120 dL_law_935 (hM_ob eM) rfl rfl rfl rfl (Nat.le_of_ble_eq_true rfl) (zr0 hr (by decide)) (Nat.le_refl _) (Nat.le_refl _) (kI fun r935 h935 hp935 => ?_)
  obtain ⟨rfl, hq2⟩ := hp935
  refine aw_icmp_eq B 1147 dL_law_938 (fun c938 => ?_) (fun c938 => absurd rfl c938)
  refine aw_le (rc' := rc) (rs' := rs) ?_ (Nat.le_succ _) (by omega)
  exact kk _ (lI_q hc hq2 hz (by omega) h2 h20 ht)
set_option maxRecDepth 100000 in
set_option maxHeartbeats 4000000 in
theorem law_25 {X : zX} {nm : String} {ret' : Option FieldType} {rc rs b L x M i : Nat} {xs : Nat → Int32} {h : Hp} {Ko : Option Value → Hp → Prop} (B : zB X cL_law 4 "LowWaterLaw" nm ret') (hX : lX X b L xs) (hr : zXr X = room_1) (hi : i + 5 ≤ L) (hL : L ≤ 2560) (hM : M ≤ 2 ^ 18) (hI : lI (zXg X) h x M) (kk : ∀ h', lI (zXg X) h' x (M + 4) → AW X rc rs 1147 [some (.ref b), some (.ref x), some (.ref (x + 54)), some (.int (nI i))] [] h' Ko) : AW X (rc + 1) (rs + 2) 943 [some (.ref b), some (.ref x), some (.ref (x + 54)), some (.int (nI i))] [] h Ko := by
  obtain ⟨ca, cs, N, T, Q, n, S2, T2, Q2, n2, tn, F, A, hc, eM, hz, hN, h2, h20, ht⟩ := hI
  have v := hc.v
  refine aw_aload_n B 1 rfl dL_law_943 rfl ?_
  refine aw_aload_n B 0 rfl dL_law_944 rfl ?_
  refine aw_iload_n B 3 rfl dL_law_945 rfl ?_
  refine aw_iconst B 1 (by decide) dL_law_946 ?_
  refine aw_iadd B dL_law_947 ?_
  rw [show nI i + 1 = nI (i + 1) from nI_add (a := i) (b := 1)]
  refine aw_sld B hX (j := i + 1) (by omega) (by omega) dL_law_948 ?_
  refine aw_aload_n B 0 rfl dL_law_949 rfl ?_
  refine aw_iload_n B 3 rfl dL_law_950 rfl ?_
  refine aw_iconst B 2 (by decide) dL_law_951 ?_
  refine aw_iadd B dL_law_952 ?_
  rw [show nI i + 2 = nI (i + 2) from nI_add (a := i) (b := 2)]
  refine aw_sld B hX (j := i + 2) (by omega) (by omega) dL_law_953 ?_
  refine aw_aload_n B 0 rfl dL_law_954 rfl ?_
  refine aw_iload_n B 3 rfl dL_law_955 rfl ?_
  refine aw_iconst B 3 (by decide) dL_law_956 ?_
  refine aw_iadd B dL_law_957 ?_
  rw [show nI i + 3 = nI (i + 3) from nI_add (a := i) (b := 3)]
  refine aw_sld B hX (j := i + 3) (by omega) (by omega) dL_law_958 ?_
  refine aw_callV B (rc + 1) (rs + 2) (x_tale _ _ (xs (i + 1)) (xs (i + 2)) (xs (i + 3)) hc) co_X11_tale k_L_121 dL_law_959 hc.ox rfl rfl rfl rfl (Nat.le_of_ble_eq_true rfl) (zr0 hr (by decide)) (Nat.le_refl _) (Nat.le_refl _) (kI fun r959 h959 hp959 => ?_)
  obtain ⟨rfl, ⟨T9, n9, hc9⟩, O⟩ := hp959
  have eM := hM_kp eM (h' := h959) (fun a ha => O.2 a (by omega))
  have hz : x + 64 ≤ h959.1 := by rw [O.1]; exact hz
  have hs := s_tale X.1.2.1 (zXg X) h959 (x + 54) F A (xs (i + 1)) (xs (i + 2)) (xs (i + 3)) ⟨n 5, Nat.zero_le _, v.2.2.2.2.2.1.1, v.2.2.2.2.2.1.2.1⟩
  rw [eM] at hs
  refine aw_aload_n B 2 rfl dL_law_962 rfl ?_
  refine aw_aload_n B 0 rfl dL_law_963 rfl ?_
  refine aw_iload_n B 3 rfl dL_law_964 rfl ?_
  refine aw_iconst B 1 (by decide) dL_law_965 ?_
  refine aw_iadd B dL_law_966 ?_
  rw [show nI i + 1 = nI (i + 1) from nI_add (a := i) (b := 1)]
  refine aw_sld B hX (j := i + 1) (by omega) (by omega) dL_law_967 ?_
  refine aw_aload_n B 0 rfl dL_law_968 rfl ?_
  refine aw_iload_n B 3 rfl dL_law_969 rfl ?_
  refine aw_iconst B 2 (by decide) dL_law_970 ?_
  refine aw_iadd B dL_law_971 ?_
  rw [show nI i + 2 = nI (i + 2) from nI_add (a := i) (b := 2)]
  refine aw_sld B hX (j := i + 2) (by omega) (by omega) dL_law_972 ?_
  refine aw_aload_n B 0 rfl dL_law_973 rfl ?_
  refine aw_iload_n B 3 rfl dL_law_974 rfl ?_
  refine aw_iconst B 3 (by decide) dL_law_975 ?_
  refine aw_iadd B dL_law_976 ?_
  rw [show nI i + 3 = nI (i + 3) from nI_add (a := i) (b := 3)]
  refine aw_sld B hX (j := i + 3) (by omega) (by omega) dL_law_977 ?_
  refine aw_callV B (rc + 1) (rs + 2) hs co_X12_tale k_L_124 dL_law_978 (hM_ob eM) rfl rfl rfl rfl (Nat.le_of_ble_eq_true rfl) (zr0 hr (by decide)) (Nat.le_refl _) (Nat.le_refl _) (kI fun r978 h978 hp978 => ?_)
  obtain ⟨rfl, eq2⟩ := hp978
  refine aw_icmp_eq B 1147 dL_law_981 (fun c981 => ?_) (fun c981 => absurd rfl c981)
  refine aw_le (rc' := rc) (rs' := rs) ?_ (Nat.le_succ _) (by omega)
  exact kk _ (lI_w hc9 eq2 hz (by omega) h2 h20 ht)
set_option maxRecDepth 100000 in
set_option maxHeartbeats 4000000 in
theorem law_26 {X : zX} {nm : String} {ret' : Option FieldType} {rc rs b L x M i : Nat} {xs : Nat → Int32} {h : Hp} {Ko : Option Value → Hp → Prop} (B : zB X cL_law 4 "LowWaterLaw" nm ret') (hX : lX X b L xs) (hr : zXr X = room_1) (hi : i + 5 ≤ L) (hL : L ≤ 2560) (hM : M ≤ 2 ^ 18) (hI : lI (zXg X) h x M) (kk : ∀ h', lI (zXg X) h' x (M + 4) → AW X rc rs 1147 [some (.ref b), some (.ref x), some (.ref (x + 54)), some (.int (nI i))] [] h' Ko) : AW X (rc + 1) (rs + 2) 986 [some (.ref b), some (.ref x), some (.ref (x + 54)), some (.int (nI i))] [] h Ko := by
  obtain ⟨ca, cs, N, T, Q, n, S2, T2, Q2, n2, tn, F, A, hc, eM, hz, hN, h2, h20, ht⟩ := hI
  have v := hc.v
  refine aw_aload_n B 1 rfl dL_law_986 rfl ?_
  refine aw_callV B (rc + 1) (rs + 2) (x_looked _ _ hc) co_X11_looked k_L_125 dL_law_987 hc.ox rfl rfl rfl rfl (Nat.le_of_ble_eq_true rfl) (zr0 hr (by decide)) (Nat.le_refl _) (Nat.le_refl _) (kI fun r987 h987 hp987 => ?_)
  obtain ⟨rfl, hc, O⟩ := hp987
  have eM := hM_kp eM (h' := h987) (fun a ha => O.2 a (by omega))
  have hz : x + 64 ≤ h987.1 := by rw [O.1]; exact hz
  have hs := s_looked X.1.2.1 (zXg X) h987 (x + 54) F A  T Q v.t (n 0) (n 1) v.2.1 v.1 (n 5) v.2.2.2.2.2.1
  rw [eM] at hs
  refine aw_aload_n B 2 rfl dL_law_990 rfl ?_
  refine aw_callV B (rc + 1) (rs + 2) hs co_X12_looked k_L_128 dL_law_991 (hM_ob eM) rfl rfl rfl rfl (Nat.le_of_ble_eq_true rfl) (zr0 hr (by decide)) (Nat.le_refl _) (Nat.le_refl _) (kI fun r991 h991 hp991 => ?_)
  obtain ⟨rfl, hq2⟩ := hp991
  refine aw_icmp_eq B 1147 dL_law_994 (fun c994 => ?_) (fun c994 => absurd rfl c994)
  refine aw_le (rc' := rc) (rs' := rs) ?_ (Nat.le_succ _) (by omega)
  exact kk _ (lI_q hc hq2 hz (by omega) h2 h20 ht)
set_option maxRecDepth 100000 in
set_option maxHeartbeats 4000000 in
theorem law_27 {X : zX} {nm : String} {ret' : Option FieldType} {rc rs b L x M i : Nat} {xs : Nat → Int32} {h : Hp} {Ko : Option Value → Hp → Prop} (B : zB X cL_law 4 "LowWaterLaw" nm ret') (hX : lX X b L xs) (hr : zXr X = room_1) (hi : i + 5 ≤ L) (hL : L ≤ 2560) (hM : M ≤ 2 ^ 18) (hI : lI (zXg X) h x M) (kk : ∀ h', lI (zXg X) h' x (M + 4) → AW X rc rs 1147 [some (.ref b), some (.ref x), some (.ref (x + 54)), some (.int (nI i))] [] h' Ko) : AW X (rc + 1) (rs + 2) 999 [some (.ref b), some (.ref x), some (.ref (x + 54)), some (.int (nI i))] [] h Ko := by
  obtain ⟨ca, cs, N, T, Q, n, S2, T2, Q2, n2, tn, F, A, hc, eM, hz, hN, h2, h20, ht⟩ := hI
  have v := hc.v
  refine aw_aload_n B 1 rfl dL_law_999 rfl ?_
  refine aw_aload_n B 0 rfl dL_law_1000 rfl ?_
  refine aw_iload_n B 3 rfl dL_law_1001 rfl ?_
  refine aw_iconst B 1 (by decide) dL_law_1002 ?_
  refine aw_iadd B dL_law_1003 ?_
  rw [show nI i + 1 = nI (i + 1) from nI_add (a := i) (b := 1)]
  refine aw_sld B hX (j := i + 1) (by omega) (by omega) dL_law_1004 ?_
  refine aw_aload_n B 0 rfl dL_law_1005 rfl ?_
  refine aw_iload_n B 3 rfl dL_law_1006 rfl ?_
  refine aw_iconst B 2 (by decide) dL_law_1007 ?_
  refine aw_iadd B dL_law_1008 ?_
  rw [show nI i + 2 = nI (i + 2) from nI_add (a := i) (b := 2)]
  refine aw_sld B hX (j := i + 2) (by omega) (by omega) dL_law_1009 ?_
  refine aw_aload_n B 0 rfl dL_law_1010 rfl ?_
  refine aw_iload_n B 3 rfl dL_law_1011 rfl ?_
  refine aw_iconst B 3 (by decide) dL_law_1012 ?_
  refine aw_iadd B dL_law_1013 ?_
  rw [show nI i + 3 = nI (i + 3) from nI_add (a := i) (b := 3)]
  refine aw_sld B hX (j := i + 3) (by omega) (by omega) dL_law_1014 ?_
  refine aw_callV B (rc + 1) (rs + 2) (x_act _ _ (xs (i + 1)) (xs (i + 2)) (xs (i + 3)) hc) co_X11_act k_L_129 dL_law_1015 hc.ox rfl rfl rfl rfl (Nat.le_of_ble_eq_true rfl) (zr0 hr (by decide)) (Nat.le_refl _) (Nat.le_refl _) (kI fun r1015 h1015 hp1015 => ?_)
  obtain ⟨rfl, hc9, O⟩ := hp1015
  have eM := hM_kp eM (h' := h1015) (fun a ha => O.2 a (by omega))
  have hz : x + 64 ≤ h1015.1 := by rw [O.1]; exact hz
  have hs := s_act X.1.2.1 (zXg X) h1015 (x + 54) F A (xs (i + 1)) (xs (i + 2)) (xs (i + 3)) ⟨n 1, Nat.zero_le _, v.2.1.1, v.2.1.2.1⟩
  rw [eM] at hs
  refine aw_aload_n B 2 rfl dL_law_1018 rfl ?_
  refine aw_aload_n B 0 rfl dL_law_1019 rfl ?_
  refine aw_iload_n B 3 rfl dL_law_1020 rfl ?_
  refine aw_iconst B 1 (by decide) dL_law_1021 ?_
  refine aw_iadd B dL_law_1022 ?_
  rw [show nI i + 1 = nI (i + 1) from nI_add (a := i) (b := 1)]
  refine aw_sld B hX (j := i + 1) (by omega) (by omega) dL_law_1023 ?_
  refine aw_aload_n B 0 rfl dL_law_1024 rfl ?_
  refine aw_iload_n B 3 rfl dL_law_1025 rfl ?_
  refine aw_iconst B 2 (by decide) dL_law_1026 ?_
  refine aw_iadd B dL_law_1027 ?_
  rw [show nI i + 2 = nI (i + 2) from nI_add (a := i) (b := 2)]
  refine aw_sld B hX (j := i + 2) (by omega) (by omega) dL_law_1028 ?_
  refine aw_aload_n B 0 rfl dL_law_1029 rfl ?_
  refine aw_iload_n B 3 rfl dL_law_1030 rfl ?_
  refine aw_iconst B 3 (by decide) dL_law_1031 ?_
  refine aw_iadd B dL_law_1032 ?_
  rw [show nI i + 3 = nI (i + 3) from nI_add (a := i) (b := 3)]
  refine aw_sld B hX (j := i + 3) (by omega) (by omega) dL_law_1033 ?_
  refine aw_callV B (rc + 1) (rs + 2) hs co_X12_act k_L_132 dL_law_1034 (hM_ob eM) rfl rfl rfl rfl (Nat.le_of_ble_eq_true rfl) (zr0 hr (by decide)) (Nat.le_refl _) (Nat.le_refl _) (kI fun r1034 h1034 hp1034 => ?_)
  obtain ⟨rfl, F9, f3, f20, eq2⟩ := hp1034
  refine aw_icmp_eq B 1147 dL_law_1037 (fun c1037 => ?_) (fun c1037 => absurd rfl c1037)
  refine aw_le (rc' := rc) (rs' := rs) ?_ (Nat.le_succ _) (by omega)
  exact kk _ (lI_fin (F := F9) (A := mup A 9 (p_log 0 (A 9) (q_act (A 1) (xs (i + 1)) (xs (i + 2)) (xs (i + 3))).2)) (by rw [mup_n (by decide), mup_s, f3]; exact hc9) eq2 hz (by omega) (by rw [mup_n (by decide), f3]; exact h2) f20 (by have := ac_len (A 1) (xs (i + 1)) (xs (i + 2)) (xs (i + 3)); omega))
set_option maxRecDepth 100000 in
set_option maxHeartbeats 4000000 in
theorem law_28 {X : zX} {nm : String} {ret' : Option FieldType} {rc rs b L x M i : Nat} {xs : Nat → Int32} {h : Hp} {Ko : Option Value → Hp → Prop} (B : zB X cL_law 4 "LowWaterLaw" nm ret') (hX : lX X b L xs) (hr : zXr X = room_1) (hi : i + 5 ≤ L) (hL : L ≤ 2560) (hM : M ≤ 2 ^ 18) (hI : lI (zXg X) h x M) (kk : ∀ h', lI (zXg X) h' x (M + 4) → AW X rc rs 1147 [some (.ref b), some (.ref x), some (.ref (x + 54)), some (.int (nI i))] [] h' Ko) : AW X (rc + 1) (rs + 2) 1042 [some (.ref b), some (.ref x), some (.ref (x + 54)), some (.int (nI i))] [] h Ko := by
  obtain ⟨ca, cs, N, T, Q, n, S2, T2, Q2, n2, tn, F, A, hc, eM, hz, hN, h2, h20, ht⟩ := hI
  have v := hc.v
  refine aw_aload_n B 1 rfl dL_law_1042 rfl ?_
  refine aw_aload_n B 0 rfl dL_law_1043 rfl ?_
  refine aw_iload_n B 3 rfl dL_law_1044 rfl ?_
  refine aw_iconst B 1 (by decide) dL_law_1045 ?_
  refine aw_iadd B dL_law_1046 ?_
  rw [show nI i + 1 = nI (i + 1) from nI_add (a := i) (b := 1)]
  refine aw_sld B hX (j := i + 1) (by omega) (by omega) dL_law_1047 ?_
  refine aw_callV B (rc + 1) (rs + 2) (x_trace _ _ (xs (i + 1)) hc) co_X11_trace k_L_133 dL_law_1048 hc.ox rfl rfl rfl rfl (Nat.le_of_ble_eq_true rfl) (zr0 hr (by decide)) (Nat.le_refl _) (Nat.le_refl _) (kI fun r1048 h1048 hp1048 => ?_)
  obtain ⟨rfl, e9⟩ := hp1048
  rw [e9]
  have hs := s_trace X.1.2.1 (zXg X) h (x + 54) F A (xs (i + 1)) ⟨tn, Nat.zero_le _, ht, h20⟩
  rw [eM] at hs
  rw [h20] at hs
  refine aw_aload_n B 2 rfl dL_law_1051 rfl ?_
  refine aw_aload_n B 0 rfl dL_law_1052 rfl ?_
  refine aw_iload_n B 3 rfl dL_law_1053 rfl ?_
  refine aw_iconst B 1 (by decide) dL_law_1054 ?_
  refine aw_iadd B dL_law_1055 ?_
  rw [show nI i + 1 = nI (i + 1) from nI_add (a := i) (b := 1)]
  refine aw_sld B hX (j := i + 1) (by omega) (by omega) dL_law_1056 ?_
  refine aw_callV B (rc + 1) (rs + 2) hs co_X12_trace k_L_136 dL_law_1057 (hM_ob eM) rfl rfl rfl rfl (Nat.le_of_ble_eq_true rfl) (zr0 hr (by decide)) (Nat.le_refl _) (Nat.le_refl _) (kI fun r1057 h1057 hp1057 => ?_)
  obtain ⟨rfl, eq2⟩ := hp1057
  refine aw_icmp_eq B 1147 dL_law_1060 (fun c1060 => ?_) (fun c1060 => absurd rfl c1060)
  refine aw_le (rc' := rc) (rs' := rs) ?_ (Nat.le_succ _) (by omega)
  exact kk _ (lI_w (S' := (q_trace (A 1) (nI tn) (A 9) (xs (i + 1))).2) hc eq2 hz (by omega) h2 h20 ht)
set_option maxRecDepth 100000 in
set_option maxHeartbeats 4000000 in
theorem law_29 {X : zX} {nm : String} {ret' : Option FieldType} {rc rs b L x M i : Nat} {xs : Nat → Int32} {h : Hp} {Ko : Option Value → Hp → Prop} (B : zB X cL_law 4 "LowWaterLaw" nm ret') (hX : lX X b L xs) (hr : zXr X = room_1) (hi : i + 5 ≤ L) (hL : L ≤ 2560) (hM : M ≤ 2 ^ 18) (hI : lI (zXg X) h x M) (kk : ∀ h', lI (zXg X) h' x (M + 4) → AW X rc rs 1147 [some (.ref b), some (.ref x), some (.ref (x + 54)), some (.int (nI i))] [] h' Ko) : AW X (rc + 1) (rs + 2) 1065 [some (.ref b), some (.ref x), some (.ref (x + 54)), some (.int (nI i))] [] h Ko := by
  obtain ⟨ca, cs, N, T, Q, n, S2, T2, Q2, n2, tn, F, A, hc, eM, hz, hN, h2, h20, ht⟩ := hI
  have v := hc.v
  refine aw_aload_n B 1 rfl dL_law_1065 rfl ?_
  refine aw_aload_n B 0 rfl dL_law_1066 rfl ?_
  refine aw_iload_n B 3 rfl dL_law_1067 rfl ?_
  refine aw_iconst B 1 (by decide) dL_law_1068 ?_
  refine aw_iadd B dL_law_1069 ?_
  rw [show nI i + 1 = nI (i + 1) from nI_add (a := i) (b := 1)]
  refine aw_sld B hX (j := i + 1) (by omega) (by omega) dL_law_1070 ?_
  refine aw_aload_n B 0 rfl dL_law_1071 rfl ?_
  refine aw_iload_n B 3 rfl dL_law_1072 rfl ?_
  refine aw_iconst B 2 (by decide) dL_law_1073 ?_
  refine aw_iadd B dL_law_1074 ?_
  rw [show nI i + 2 = nI (i + 2) from nI_add (a := i) (b := 2)]
  refine aw_sld B hX (j := i + 2) (by omega) (by omega) dL_law_1075 ?_
  refine aw_callV B (rc + 1) (rs + 2) (x_as _ _ (xs (i + 1)) (xs (i + 2)) hc) co_X11_as k_L_137 dL_law_1076 hc.ox rfl rfl rfl rfl (Nat.le_of_ble_eq_true rfl) (zr0 hr (by decide)) (Nat.le_refl _) (Nat.le_refl _) (kI fun r1076 h1076 hp1076 => ?_)
  obtain ⟨rfl, e9⟩ := hp1076
  rw [e9]
  have hs := s_as X.1.2.1 (zXg X) h (x + 54) F A (xs (i + 1)) (xs (i + 2)) ⟨n 1, Nat.zero_le _, v.2.1.1, v.2.1.2.1⟩
  rw [eM] at hs
  refine aw_aload_n B 2 rfl dL_law_1079 rfl ?_
  refine aw_aload_n B 0 rfl dL_law_1080 rfl ?_
  refine aw_iload_n B 3 rfl dL_law_1081 rfl ?_
  refine aw_iconst B 1 (by decide) dL_law_1082 ?_
  refine aw_iadd B dL_law_1083 ?_
  rw [show nI i + 1 = nI (i + 1) from nI_add (a := i) (b := 1)]
  refine aw_sld B hX (j := i + 1) (by omega) (by omega) dL_law_1084 ?_
  refine aw_aload_n B 0 rfl dL_law_1085 rfl ?_
  refine aw_iload_n B 3 rfl dL_law_1086 rfl ?_
  refine aw_iconst B 2 (by decide) dL_law_1087 ?_
  refine aw_iadd B dL_law_1088 ?_
  rw [show nI i + 2 = nI (i + 2) from nI_add (a := i) (b := 2)]
  refine aw_sld B hX (j := i + 2) (by omega) (by omega) dL_law_1089 ?_
  refine aw_callV B (rc + 1) (rs + 2) hs co_X12_as k_L_140 dL_law_1090 (hM_ob eM) rfl rfl rfl rfl (Nat.le_of_ble_eq_true rfl) (zr0 hr (by decide)) (Nat.le_refl _) (Nat.le_refl _) (kI fun r1090 h1090 hp1090 => ?_)
  obtain ⟨rfl, eq2⟩ := hp1090
  refine aw_icmp_eq B 1147 dL_law_1093 (fun c1093 => ?_) (fun c1093 => absurd rfl c1093)
  refine aw_le (rc' := rc) (rs' := rs) ?_ (Nat.le_succ _) (by omega)
  exact kk _ (lI_w (S' := (q_as (A 1) (xs (i + 1)) (xs (i + 2))).2) hc eq2 hz (by omega) h2 h20 ht)
set_option maxRecDepth 100000 in
set_option maxHeartbeats 4000000 in
theorem law_30 {X : zX} {nm : String} {ret' : Option FieldType} {rc rs b L x M i : Nat} {xs : Nat → Int32} {h : Hp} {Ko : Option Value → Hp → Prop} (B : zB X cL_law 4 "LowWaterLaw" nm ret') (hX : lX X b L xs) (hr : zXr X = room_1) (hi : i + 5 ≤ L) (hL : L ≤ 2560) (hM : M ≤ 2 ^ 18) (hI : lI (zXg X) h x M) (kk : ∀ h', lI (zXg X) h' x (M + 4) → AW X rc rs 1147 [some (.ref b), some (.ref x), some (.ref (x + 54)), some (.int (nI i))] [] h' Ko) : AW X (rc + 1) (rs + 2) 1098 [some (.ref b), some (.ref x), some (.ref (x + 54)), some (.int (nI i))] [] h Ko := by
  obtain ⟨ca, cs, N, T, Q, n, S2, T2, Q2, n2, tn, F, A, hc, eM, hz, hN, h2, h20, ht⟩ := hI
  have v := hc.v
  refine aw_aload_n B 1 rfl dL_law_1098 rfl ?_
  refine aw_callV B (rc + 1) (rs + 2) (x_image _ _ hc) co_X11_image k_L_141 dL_law_1099 hc.ox rfl rfl rfl rfl (Nat.le_of_ble_eq_true rfl) (zr0 hr (by decide)) (Nat.le_refl _) (Nat.le_refl _) (kI fun r1099 h1099 hp1099 => ?_)
  obtain ⟨rfl, hc9, O⟩ := hp1099
  have eM := hM_kp eM (h' := h1099) (fun a ha => O.2 a (by omega))
  have hz : x + 64 ≤ h1099.1 := by rw [O.1]; exact hz
  have hs := s_image X.1.2.1 (zXg X) h1099 (x + 54) F A  
  rw [eM] at hs
  refine aw_aload_n B 2 rfl dL_law_1102 rfl ?_
  refine aw_callV B (rc + 1) (rs + 2) hs co_X12_image k_L_144 dL_law_1103 (hM_ob eM) rfl rfl rfl rfl (Nat.le_of_ble_eq_true rfl) (zr0 hr (by decide)) (Nat.le_refl _) (Nat.le_refl _) (kI fun r1103 h1103 hp1103 => ?_)
  obtain ⟨rfl, eq2⟩ := hp1103
  refine aw_icmp_eq B 1147 dL_law_1106 (fun c1106 => ?_) (fun c1106 => absurd rfl c1106)
  refine aw_le (rc' := rc) (rs' := rs) ?_ (Nat.le_succ _) (by omega)
  exact kk _ (lI_fin (F := upd F 3 1) (A := mup A 2 (cpy (A 1) (A 2) 899)) (by rw [mup_n (by decide), mup_n (by decide), upd_s]; exact hc9) eq2 hz (by omega) (fun _ i hi => by rw [mup_s]; show (if i < 899 then A 1 i else A 2 i) = _; rw [if_pos hi]) (by rw [upd_n (by decide)]; exact h20) ht)
set_option maxRecDepth 100000 in
set_option maxHeartbeats 4000000 in
theorem law_31 {X : zX} {nm : String} {ret' : Option FieldType} {rc rs b L x M i : Nat} {xs : Nat → Int32} {h : Hp} {Ko : Option Value → Hp → Prop} (B : zB X cL_law 4 "LowWaterLaw" nm ret') (hX : lX X b L xs) (hr : zXr X = room_1) (hi : i + 5 ≤ L) (hL : L ≤ 2560) (hM : M ≤ 2 ^ 18) (hI : lI (zXg X) h x M) (kk : ∀ h', lI (zXg X) h' x (M + 4) → AW X rc rs 1147 [some (.ref b), some (.ref x), some (.ref (x + 54)), some (.int (nI i))] [] h' Ko) : AW X (rc + 1) (rs + 2) 1111 [some (.ref b), some (.ref x), some (.ref (x + 54)), some (.int (nI i))] [] h Ko := by
  obtain ⟨ca, cs, N, T, Q, n, S2, T2, Q2, n2, tn, F, A, hc, eM, hz, hN, h2, h20, ht⟩ := hI
  have v := hc.v
  refine aw_aload_n B 1 rfl dL_law_1111 rfl ?_
  refine aw_callV B (rc + 1) (rs + 2) (x_undo _ _ hc) co_X11_undo k_L_145 dL_law_1112 hc.ox rfl rfl rfl rfl (Nat.le_of_ble_eq_true rfl) (zr0 hr (by decide)) (Nat.le_refl _) (Nat.le_refl _) (kI fun r1112 h1112 hp1112 => ?_)
  obtain ⟨hr1, O⟩ := hp1112
  have eM := hM_kp eM (h' := h1112) (fun a ha => O.2 a (by omega))
  have hz : x + 64 ≤ h1112.1 := by rw [O.1]; exact hz
  have hs := s_undo X.1.2.1 (zXg X) h1112 (x + 54) F A  
  rw [eM] at hs
  refine aw_aload_n B 2 rfl dL_law_1115 rfl ?_
  refine aw_callV B (rc + 1) (rs + 2) hs co_X12_undo k_L_148 dL_law_1116 (hM_ob eM) rfl rfl rfl rfl (Nat.le_of_ble_eq_true rfl) (zr0 hr (by decide)) (Nat.le_refl _) (Nat.le_refl _) (kI fun r1116 h1116 hp1116 => ?_)
  by_cases hf3 : F 3 = 0
  · rw [if_pos hf3] at hr1 hp1116
    obtain ⟨rfl, e9⟩ := hr1
    obtain ⟨rfl, eq2⟩ := hp1116
    refine aw_icmp_eq B 1147 dL_law_1119 (fun c1119 => ?_) (fun c1119 => absurd rfl c1119)
    refine aw_le (rc' := rc) (rs' := rs) ?_ (Nat.le_succ _) (by omega)
    exact kk _ (lI_fin (F := F) (A := A) (show cH (zXg X) h1112 _ _ _ _ _ _ _ _ _ _ _ _ _ _ _ from by rw [e9]; exact hc) (eq2.trans eM.symm) hz (by omega) h2 h20 ht)
  · rw [if_neg hf3] at hr1 hp1116
    obtain ⟨rfl, hc9⟩ := hr1
    obtain ⟨rfl, eq2⟩ := hp1116
    have hf1 : F 3 = 1 := by
      rcases hc.2.2.2.2.2.2.2.2.2.2.2 with z | z
      · exact absurd z hf3
      · exact z
    have ex : ∀ i, i < 899 → cpy (A 2) (A 1) 899 i = S2 i := fun i hi => by
      show (if i < 899 then A 2 i else A 1 i) = _
      rw [if_pos hi]
      exact h2 hf1 i hi
    have e0 : A 2 0 = S2 0 := h2 hf1 0 (by decide)
    rw [e0]
    have hc8 : cH (zXg X) h1112 x ca cs N (cpy (A 2) (A 1) 899) T2 Q2 n2 S2 T2 Q2 n2 (F 3) (A 9) tn := by
      obtain ⟨p1, p2, p3, p4, p5, p6, p7, p8, p9, p10, p11, p12⟩ := hc9
      exact ⟨p1, p2, p3.e p10 ex, p4, p5, p6, p7, p8, p9, p10.ext ex, p11, p12⟩
    refine aw_icmp_eq B 1147 dL_law_1119 (fun c1119 => ?_) (fun c1119 => absurd rfl c1119)
    refine aw_le (rc' := rc) (rs' := rs) ?_ (Nat.le_succ _) (by omega)
    exact kk _ (lI_w hc8 eq2 hz (by omega) h2 h20 ht)
set_option maxRecDepth 100000 in
set_option maxHeartbeats 4000000 in
theorem law_32 {X : zX} {nm : String} {ret' : Option FieldType} {rc rs b L x M i : Nat} {xs : Nat → Int32} {h : Hp} {Ko : Option Value → Hp → Prop} (B : zB X cL_law 4 "LowWaterLaw" nm ret') (hX : lX X b L xs) (hr : zXr X = room_1) (hi : i + 5 ≤ L) (hL : L ≤ 2560) (hM : M ≤ 2 ^ 18) (hI : lI (zXg X) h x M) (kk : ∀ h', lI (zXg X) h' x (M + 4) → AW X rc rs 1147 [some (.ref b), some (.ref x), some (.ref (x + 54)), some (.int (nI i))] [] h' Ko) : AW X (rc + 1) (rs + 2) 1124 [some (.ref b), some (.ref x), some (.ref (x + 54)), some (.int (nI i))] [] h Ko := by
  obtain ⟨ca, cs, N, T, Q, n, S2, T2, Q2, n2, tn, F, A, hc, eM, hz, hN, h2, h20, ht⟩ := hI
  have v := hc.v
  refine aw_aload_n B 1 rfl dL_law_1124 rfl ?_
  refine aw_aload_n B 0 rfl dL_law_1125 rfl ?_
  refine aw_iload_n B 3 rfl dL_law_1126 rfl ?_
  refine aw_iconst B 1 (by decide) dL_law_1127 ?_
  refine aw_iadd B dL_law_1128 ?_
  rw [show nI i + 1 = nI (i + 1) from nI_add (a := i) (b := 1)]
  refine aw_sld B hX (j := i + 1) (by omega) (by omega) dL_law_1129 ?_
  refine aw_callV B (rc + 1) (rs + 2) (x_count _ _ (xs (i + 1)) hc) co_X11_count k_L_149 dL_law_1130 hc.ox rfl rfl rfl rfl (Nat.le_of_ble_eq_true rfl) (zr0 hr (by decide)) (Nat.le_refl _) (Nat.le_refl _) (kI fun r1130 h1130 hp1130 => ?_)
  obtain ⟨rfl, e9⟩ := hp1130
  rw [e9]
  have hs := s_count X.1.2.1 (zXg X) h (x + 54) F A (xs (i + 1)) 
  rw [eM] at hs
  rw [h20] at hs
  refine aw_aload_n B 2 rfl dL_law_1133 rfl ?_
  refine aw_aload_n B 0 rfl dL_law_1134 rfl ?_
  refine aw_iload_n B 3 rfl dL_law_1135 rfl ?_
  refine aw_iconst B 1 (by decide) dL_law_1136 ?_
  refine aw_iadd B dL_law_1137 ?_
  rw [show nI i + 1 = nI (i + 1) from nI_add (a := i) (b := 1)]
  refine aw_sld B hX (j := i + 1) (by omega) (by omega) dL_law_1138 ?_
  refine aw_callV B (rc + 1) (rs + 2) hs co_X12_count k_L_152 dL_law_1139 (hM_ob eM) rfl rfl rfl rfl (Nat.le_of_ble_eq_true rfl) (zr0 hr (by decide)) (Nat.le_refl _) (Nat.le_refl _) (kI fun r1139 h1139 hp1139 => ?_)
  obtain ⟨rfl, eq2⟩ := hp1139
  refine aw_icmp_eq B 1147 dL_law_1142 (fun c1142 => ?_) (fun c1142 => absurd rfl c1142)
  refine aw_le (rc' := rc) (rs' := rs) ?_ (Nat.le_succ _) (by omega)
  exact kk _ (lI_w (S' := (q_count (A 1) (nI tn) (xs (i + 1))).2) hc eq2 hz (by omega) h2 h20 ht)
