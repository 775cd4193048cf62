/-! what each instruction decodes to (written by program) -/
theorem dL_law_0 : decode M_L_law.2.2.1 0 = .ok (.new 7, 3) := by decide +kernel
theorem dL_law_3 : decode M_L_law.2.2.1 3 = .ok (.dup, 1) := by decide +kernel
theorem dL_law_4 : decode M_L_law.2.2.1 4 = .ok (.invokespecial 9, 3) := by decide +kernel
theorem dL_law_7 : decode M_L_law.2.2.1 7 = .ok (.astore_n 1, 1) := by decide +kernel
theorem dL_law_8 : decode M_L_law.2.2.1 8 = .ok (.new 10, 3) := by decide +kernel
theorem dL_law_11 : decode M_L_law.2.2.1 11 = .ok (.dup, 1) := by decide +kernel
theorem dL_law_12 : decode M_L_law.2.2.1 12 = .ok (.invokespecial 12, 3) := by decide +kernel
theorem dL_law_15 : decode M_L_law.2.2.1 15 = .ok (.astore_n 2, 1) := by decide +kernel
theorem dL_law_16 : decode M_L_law.2.2.1 16 = .ok (.iconst 0, 1) := by decide +kernel
theorem dL_law_17 : decode M_L_law.2.2.1 17 = .ok (.istore_n 3, 1) := by decide +kernel
theorem dL_law_18 : decode M_L_law.2.2.1 18 = .ok (.iload_n 3, 1) := by decide +kernel
theorem dL_law_19 : decode M_L_law.2.2.1 19 = .ok (.aload_n 0, 1) := by decide +kernel
theorem dL_law_20 : decode M_L_law.2.2.1 20 = .ok (.arraylength, 1) := by decide +kernel
theorem dL_law_21 : decode M_L_law.2.2.1 21 = .ok (.bipush 6, 2) := by decide +kernel
theorem dL_law_23 : decode M_L_law.2.2.1 23 = .ok (.isub, 1) := by decide +kernel
theorem dL_law_24 : decode M_L_law.2.2.1 24 = .ok (.if_icmp .gt 1768, 3) := by decide +kernel
theorem dL_law_27 : decode M_L_law.2.2.1 27 = .ok (.aload_n 0, 1) := by decide +kernel
theorem dL_law_28 : decode M_L_law.2.2.1 28 = .ok (.iload_n 3, 1) := by decide +kernel
theorem dL_law_29 : decode M_L_law.2.2.1 29 = .ok (.iaload, 1) := by decide +kernel
theorem dL_law_30 : decode M_L_law.2.2.1 30 = .ok (.bipush 63, 2) := by decide +kernel
theorem dL_law_32 : decode M_L_law.2.2.1 32 = .ok (.iand, 1) := by decide +kernel
theorem dL_law_33 : decode M_L_law.2.2.1 33 = .ok (.tableswitch 1753 0 40 #[179, 212, 265, 298, 341, 364, 397, 430, 483, 526, 579, 623, 656, 709, 772, 835, 858, 871, 894, 927, 940, 993, 1046, 1099, 1142, 1185, 1208, 1251, 1274, 1307, 1360, 1403, 1426, 1449, 1472, 1515, 1578, 1621, 1664, 1707, 1730], 179) := by decide +kernel
theorem dL_law_212 : decode M_L_law.2.2.1 212 = .ok (.aload_n 1, 1) := by decide +kernel
theorem dL_law_213 : decode M_L_law.2.2.1 213 = .ok (.aload_n 0, 1) := by decide +kernel
theorem dL_law_214 : decode M_L_law.2.2.1 214 = .ok (.iload_n 3, 1) := by decide +kernel
theorem dL_law_215 : decode M_L_law.2.2.1 215 = .ok (.iconst 1, 1) := by decide +kernel
theorem dL_law_216 : decode M_L_law.2.2.1 216 = .ok (.iadd, 1) := by decide +kernel
theorem dL_law_217 : decode M_L_law.2.2.1 217 = .ok (.iaload, 1) := by decide +kernel
theorem dL_law_218 : decode M_L_law.2.2.1 218 = .ok (.aload_n 0, 1) := by decide +kernel
theorem dL_law_219 : decode M_L_law.2.2.1 219 = .ok (.iload_n 3, 1) := by decide +kernel
theorem dL_law_220 : decode M_L_law.2.2.1 220 = .ok (.iconst 2, 1) := by decide +kernel
theorem dL_law_221 : decode M_L_law.2.2.1 221 = .ok (.iadd, 1) := by decide +kernel
theorem dL_law_222 : decode M_L_law.2.2.1 222 = .ok (.iaload, 1) := by decide +kernel
theorem dL_law_223 : decode M_L_law.2.2.1 223 = .ok (.invokevirtual 13, 3) := by decide +kernel
theorem dL_law_226 : decode M_L_law.2.2.1 226 = .ok (.aload_n 2, 1) := by decide +kernel
theorem dL_law_227 : decode M_L_law.2.2.1 227 = .ok (.aload_n 0, 1) := by decide +kernel
theorem dL_law_228 : decode M_L_law.2.2.1 228 = .ok (.iload_n 3, 1) := by decide +kernel
theorem dL_law_229 : decode M_L_law.2.2.1 229 = .ok (.iconst 1, 1) := by decide +kernel
theorem dL_law_230 : decode M_L_law.2.2.1 230 = .ok (.iadd, 1) := by decide +kernel
theorem dL_law_231 : decode M_L_law.2.2.1 231 = .ok (.iaload, 1) := by decide +kernel
theorem dL_law_232 : decode M_L_law.2.2.1 232 = .ok (.aload_n 0, 1) := by decide +kernel
theorem dL_law_233 : decode M_L_law.2.2.1 233 = .ok (.iload_n 3, 1) := by decide +kernel
theorem dL_law_234 : decode M_L_law.2.2.1 234 = .ok (.iconst 2, 1) := by decide +kernel
theorem dL_law_235 : decode M_L_law.2.2.1 235 = .ok (.iadd, 1) := by decide +kernel
theorem dL_law_236 : decode M_L_law.2.2.1 236 = .ok (.iaload, 1) := by decide +kernel
theorem dL_law_237 : decode M_L_law.2.2.1 237 = .ok (.invokevirtual 17, 3) := by decide +kernel
theorem dL_law_240 : decode M_L_law.2.2.1 240 = .ok (.if_icmp .eq 1546, 3) := by decide +kernel
theorem dL_law_243 : decode M_L_law.2.2.1 243 = .ok (.iconst 0, 1) := by decide +kernel
theorem dL_law_244 : decode M_L_law.2.2.1 244 = .ok (.ireturn, 1) := by decide +kernel
theorem dL_law_245 : decode M_L_law.2.2.1 245 = .ok (.aload_n 1, 1) := by decide +kernel
theorem dL_law_246 : decode M_L_law.2.2.1 246 = .ok (.aload_n 0, 1) := by decide +kernel
theorem dL_law_247 : decode M_L_law.2.2.1 247 = .ok (.iload_n 3, 1) := by decide +kernel
theorem dL_law_248 : decode M_L_law.2.2.1 248 = .ok (.iconst 1, 1) := by decide +kernel
theorem dL_law_249 : decode M_L_law.2.2.1 249 = .ok (.iadd, 1) := by decide +kernel
theorem dL_law_250 : decode M_L_law.2.2.1 250 = .ok (.iaload, 1) := by decide +kernel
theorem dL_law_251 : decode M_L_law.2.2.1 251 = .ok (.aload_n 0, 1) := by decide +kernel
theorem dL_law_252 : decode M_L_law.2.2.1 252 = .ok (.iload_n 3, 1) := by decide +kernel
theorem dL_law_253 : decode M_L_law.2.2.1 253 = .ok (.iconst 2, 1) := by decide +kernel
theorem dL_law_254 : decode M_L_law.2.2.1 254 = .ok (.iadd, 1) := by decide +kernel
theorem dL_law_255 : decode M_L_law.2.2.1 255 = .ok (.iaload, 1) := by decide +kernel
theorem dL_law_256 : decode M_L_law.2.2.1 256 = .ok (.aload_n 0, 1) := by decide +kernel
theorem dL_law_257 : decode M_L_law.2.2.1 257 = .ok (.iload_n 3, 1) := by decide +kernel
theorem dL_law_258 : decode M_L_law.2.2.1 258 = .ok (.iconst 3, 1) := by decide +kernel
theorem dL_law_259 : decode M_L_law.2.2.1 259 = .ok (.iadd, 1) := by decide +kernel
theorem dL_law_260 : decode M_L_law.2.2.1 260 = .ok (.iaload, 1) := by decide +kernel
theorem dL_law_261 : decode M_L_law.2.2.1 261 = .ok (.aload_n 0, 1) := by decide +kernel
theorem dL_law_262 : decode M_L_law.2.2.1 262 = .ok (.iload_n 3, 1) := by decide +kernel
theorem dL_law_263 : decode M_L_law.2.2.1 263 = .ok (.iconst 4, 1) := by decide +kernel
theorem dL_law_264 : decode M_L_law.2.2.1 264 = .ok (.iadd, 1) := by decide +kernel
theorem dL_law_265 : decode M_L_law.2.2.1 265 = .ok (.iaload, 1) := by decide +kernel
theorem dL_law_266 : decode M_L_law.2.2.1 266 = .ok (.invokevirtual 18, 3) := by decide +kernel
theorem dL_law_269 : decode M_L_law.2.2.1 269 = .ok (.aload_n 2, 1) := by decide +kernel
theorem dL_law_270 : decode M_L_law.2.2.1 270 = .ok (.aload_n 0, 1) := by decide +kernel
theorem dL_law_271 : decode M_L_law.2.2.1 271 = .ok (.iload_n 3, 1) := by decide +kernel
theorem dL_law_272 : decode M_L_law.2.2.1 272 = .ok (.iconst 1, 1) := by decide +kernel
theorem dL_law_273 : decode M_L_law.2.2.1 273 = .ok (.iadd, 1) := by decide +kernel
theorem dL_law_274 : decode M_L_law.2.2.1 274 = .ok (.iaload, 1) := by decide +kernel
theorem dL_law_275 : decode M_L_law.2.2.1 275 = .ok (.aload_n 0, 1) := by decide +kernel
theorem dL_law_276 : decode M_L_law.2.2.1 276 = .ok (.iload_n 3, 1) := by decide +kernel
theorem dL_law_277 : decode M_L_law.2.2.1 277 = .ok (.iconst 2, 1) := by decide +kernel
theorem dL_law_278 : decode M_L_law.2.2.1 278 = .ok (.iadd, 1) := by decide +kernel
theorem dL_law_279 : decode M_L_law.2.2.1 279 = .ok (.iaload, 1) := by decide +kernel
theorem dL_law_280 : decode M_L_law.2.2.1 280 = .ok (.aload_n 0, 1) := by decide +kernel
theorem dL_law_281 : decode M_L_law.2.2.1 281 = .ok (.iload_n 3, 1) := by decide +kernel
theorem dL_law_282 : decode M_L_law.2.2.1 282 = .ok (.iconst 3, 1) := by decide +kernel
theorem dL_law_283 : decode M_L_law.2.2.1 283 = .ok (.iadd, 1) := by decide +kernel
theorem dL_law_284 : decode M_L_law.2.2.1 284 = .ok (.iaload, 1) := by decide +kernel
theorem dL_law_285 : decode M_L_law.2.2.1 285 = .ok (.aload_n 0, 1) := by decide +kernel
theorem dL_law_286 : decode M_L_law.2.2.1 286 = .ok (.iload_n 3, 1) := by decide +kernel
theorem dL_law_287 : decode M_L_law.2.2.1 287 = .ok (.iconst 4, 1) := by decide +kernel
theorem dL_law_288 : decode M_L_law.2.2.1 288 = .ok (.iadd, 1) := by decide +kernel
theorem dL_law_289 : decode M_L_law.2.2.1 289 = .ok (.iaload, 1) := by decide +kernel
theorem dL_law_290 : decode M_L_law.2.2.1 290 = .ok (.invokevirtual 22, 3) := by decide +kernel
theorem dL_law_293 : decode M_L_law.2.2.1 293 = .ok (.if_icmp .eq 1493, 3) := by decide +kernel
theorem dL_law_296 : decode M_L_law.2.2.1 296 = .ok (.iconst 0, 1) := by decide +kernel
theorem dL_law_297 : decode M_L_law.2.2.1 297 = .ok (.ireturn, 1) := by decide +kernel
theorem dL_law_298 : decode M_L_law.2.2.1 298 = .ok (.aload_n 1, 1) := by decide +kernel
theorem dL_law_299 : decode M_L_law.2.2.1 299 = .ok (.aload_n 0, 1) := by decide +kernel
theorem dL_law_300 : decode M_L_law.2.2.1 300 = .ok (.iload_n 3, 1) := by decide +kernel
theorem dL_law_301 : decode M_L_law.2.2.1 301 = .ok (.iconst 1, 1) := by decide +kernel
theorem dL_law_302 : decode M_L_law.2.2.1 302 = .ok (.iadd, 1) := by decide +kernel
theorem dL_law_303 : decode M_L_law.2.2.1 303 = .ok (.iaload, 1) := by decide +kernel
theorem dL_law_304 : decode M_L_law.2.2.1 304 = .ok (.aload_n 0, 1) := by decide +kernel
theorem dL_law_305 : decode M_L_law.2.2.1 305 = .ok (.iload_n 3, 1) := by decide +kernel
theorem dL_law_306 : decode M_L_law.2.2.1 306 = .ok (.iconst 2, 1) := by decide +kernel
theorem dL_law_307 : decode M_L_law.2.2.1 307 = .ok (.iadd, 1) := by decide +kernel
theorem dL_law_308 : decode M_L_law.2.2.1 308 = .ok (.iaload, 1) := by decide +kernel
theorem dL_law_309 : decode M_L_law.2.2.1 309 = .ok (.invokevirtual 23, 3) := by decide +kernel
theorem dL_law_312 : decode M_L_law.2.2.1 312 = .ok (.aload_n 2, 1) := by decide +kernel
theorem dL_law_313 : decode M_L_law.2.2.1 313 = .ok (.aload_n 0, 1) := by decide +kernel
theorem dL_law_314 : decode M_L_law.2.2.1 314 = .ok (.iload_n 3, 1) := by decide +kernel
theorem dL_law_315 : decode M_L_law.2.2.1 315 = .ok (.iconst 1, 1) := by decide +kernel
theorem dL_law_316 : decode M_L_law.2.2.1 316 = .ok (.iadd, 1) := by decide +kernel
theorem dL_law_317 : decode M_L_law.2.2.1 317 = .ok (.iaload, 1) := by decide +kernel
theorem dL_law_318 : decode M_L_law.2.2.1 318 = .ok (.aload_n 0, 1) := by decide +kernel
theorem dL_law_319 : decode M_L_law.2.2.1 319 = .ok (.iload_n 3, 1) := by decide +kernel
theorem dL_law_320 : decode M_L_law.2.2.1 320 = .ok (.iconst 2, 1) := by decide +kernel
theorem dL_law_321 : decode M_L_law.2.2.1 321 = .ok (.iadd, 1) := by decide +kernel
theorem dL_law_322 : decode M_L_law.2.2.1 322 = .ok (.iaload, 1) := by decide +kernel
theorem dL_law_323 : decode M_L_law.2.2.1 323 = .ok (.invokevirtual 26, 3) := by decide +kernel
theorem dL_law_326 : decode M_L_law.2.2.1 326 = .ok (.if_icmp .eq 1460, 3) := by decide +kernel
theorem dL_law_329 : decode M_L_law.2.2.1 329 = .ok (.iconst 0, 1) := by decide +kernel
theorem dL_law_330 : decode M_L_law.2.2.1 330 = .ok (.ireturn, 1) := by decide +kernel
theorem dL_law_331 : decode M_L_law.2.2.1 331 = .ok (.aload_n 1, 1) := by decide +kernel
theorem dL_law_332 : decode M_L_law.2.2.1 332 = .ok (.aload_n 0, 1) := by decide +kernel
theorem dL_law_333 : decode M_L_law.2.2.1 333 = .ok (.iload_n 3, 1) := by decide +kernel
theorem dL_law_334 : decode M_L_law.2.2.1 334 = .ok (.iconst 1, 1) := by decide +kernel
theorem dL_law_335 : decode M_L_law.2.2.1 335 = .ok (.iadd, 1) := by decide +kernel
theorem dL_law_336 : decode M_L_law.2.2.1 336 = .ok (.iaload, 1) := by decide +kernel
theorem dL_law_337 : decode M_L_law.2.2.1 337 = .ok (.aload_n 0, 1) := by decide +kernel
theorem dL_law_338 : decode M_L_law.2.2.1 338 = .ok (.iload_n 3, 1) := by decide +kernel
theorem dL_law_339 : decode M_L_law.2.2.1 339 = .ok (.iconst 2, 1) := by decide +kernel
theorem dL_law_340 : decode M_L_law.2.2.1 340 = .ok (.iadd, 1) := by decide +kernel
theorem dL_law_341 : decode M_L_law.2.2.1 341 = .ok (.iaload, 1) := by decide +kernel
theorem dL_law_342 : decode M_L_law.2.2.1 342 = .ok (.aload_n 0, 1) := by decide +kernel
theorem dL_law_343 : decode M_L_law.2.2.1 343 = .ok (.iload_n 3, 1) := by decide +kernel
theorem dL_law_344 : decode M_L_law.2.2.1 344 = .ok (.iconst 3, 1) := by decide +kernel
theorem dL_law_345 : decode M_L_law.2.2.1 345 = .ok (.iadd, 1) := by decide +kernel
theorem dL_law_346 : decode M_L_law.2.2.1 346 = .ok (.iaload, 1) := by decide +kernel
theorem dL_law_347 : decode M_L_law.2.2.1 347 = .ok (.invokevirtual 27, 3) := by decide +kernel
theorem dL_law_350 : decode M_L_law.2.2.1 350 = .ok (.aload_n 2, 1) := by decide +kernel
theorem dL_law_351 : decode M_L_law.2.2.1 351 = .ok (.aload_n 0, 1) := by decide +kernel
theorem dL_law_352 : decode M_L_law.2.2.1 352 = .ok (.iload_n 3, 1) := by decide +kernel
theorem dL_law_353 : decode M_L_law.2.2.1 353 = .ok (.iconst 1, 1) := by decide +kernel
theorem dL_law_354 : decode M_L_law.2.2.1 354 = .ok (.iadd, 1) := by decide +kernel
theorem dL_law_355 : decode M_L_law.2.2.1 355 = .ok (.iaload, 1) := by decide +kernel
theorem dL_law_356 : decode M_L_law.2.2.1 356 = .ok (.aload_n 0, 1) := by decide +kernel
theorem dL_law_357 : decode M_L_law.2.2.1 357 = .ok (.iload_n 3, 1) := by decide +kernel
theorem dL_law_358 : decode M_L_law.2.2.1 358 = .ok (.iconst 2, 1) := by decide +kernel
theorem dL_law_359 : decode M_L_law.2.2.1 359 = .ok (.iadd, 1) := by decide +kernel
theorem dL_law_360 : decode M_L_law.2.2.1 360 = .ok (.iaload, 1) := by decide +kernel
theorem dL_law_361 : decode M_L_law.2.2.1 361 = .ok (.aload_n 0, 1) := by decide +kernel
theorem dL_law_362 : decode M_L_law.2.2.1 362 = .ok (.iload_n 3, 1) := by decide +kernel
theorem dL_law_363 : decode M_L_law.2.2.1 363 = .ok (.iconst 3, 1) := by decide +kernel
theorem dL_law_364 : decode M_L_law.2.2.1 364 = .ok (.iadd, 1) := by decide +kernel
theorem dL_law_365 : decode M_L_law.2.2.1 365 = .ok (.iaload, 1) := by decide +kernel
theorem dL_law_366 : decode M_L_law.2.2.1 366 = .ok (.invokevirtual 31, 3) := by decide +kernel
theorem dL_law_369 : decode M_L_law.2.2.1 369 = .ok (.if_icmp .eq 1417, 3) := by decide +kernel
theorem dL_law_372 : decode M_L_law.2.2.1 372 = .ok (.iconst 0, 1) := by decide +kernel
theorem dL_law_373 : decode M_L_law.2.2.1 373 = .ok (.ireturn, 1) := by decide +kernel
theorem dL_law_374 : decode M_L_law.2.2.1 374 = .ok (.aload_n 1, 1) := by decide +kernel
theorem dL_law_375 : decode M_L_law.2.2.1 375 = .ok (.aload_n 0, 1) := by decide +kernel
theorem dL_law_376 : decode M_L_law.2.2.1 376 = .ok (.iload_n 3, 1) := by decide +kernel
theorem dL_law_377 : decode M_L_law.2.2.1 377 = .ok (.iconst 1, 1) := by decide +kernel
theorem dL_law_378 : decode M_L_law.2.2.1 378 = .ok (.iadd, 1) := by decide +kernel
theorem dL_law_379 : decode M_L_law.2.2.1 379 = .ok (.iaload, 1) := by decide +kernel
theorem dL_law_380 : decode M_L_law.2.2.1 380 = .ok (.invokevirtual 32, 3) := by decide +kernel
theorem dL_law_383 : decode M_L_law.2.2.1 383 = .ok (.aload_n 2, 1) := by decide +kernel
theorem dL_law_384 : decode M_L_law.2.2.1 384 = .ok (.aload_n 0, 1) := by decide +kernel
theorem dL_law_385 : decode M_L_law.2.2.1 385 = .ok (.iload_n 3, 1) := by decide +kernel
theorem dL_law_386 : decode M_L_law.2.2.1 386 = .ok (.iconst 1, 1) := by decide +kernel
theorem dL_law_387 : decode M_L_law.2.2.1 387 = .ok (.iadd, 1) := by decide +kernel
theorem dL_law_388 : decode M_L_law.2.2.1 388 = .ok (.iaload, 1) := by decide +kernel
theorem dL_law_389 : decode M_L_law.2.2.1 389 = .ok (.invokevirtual 36, 3) := by decide +kernel
theorem dL_law_392 : decode M_L_law.2.2.1 392 = .ok (.if_icmp .eq 1394, 3) := by decide +kernel
theorem dL_law_395 : decode M_L_law.2.2.1 395 = .ok (.iconst 0, 1) := by decide +kernel
theorem dL_law_396 : decode M_L_law.2.2.1 396 = .ok (.ireturn, 1) := by decide +kernel
theorem dL_law_397 : decode M_L_law.2.2.1 397 = .ok (.aload_n 1, 1) := by decide +kernel
theorem dL_law_398 : decode M_L_law.2.2.1 398 = .ok (.aload_n 0, 1) := by decide +kernel
theorem dL_law_399 : decode M_L_law.2.2.1 399 = .ok (.iload_n 3, 1) := by decide +kernel
theorem dL_law_400 : decode M_L_law.2.2.1 400 = .ok (.iconst 1, 1) := by decide +kernel
theorem dL_law_401 : decode M_L_law.2.2.1 401 = .ok (.iadd, 1) := by decide +kernel
theorem dL_law_402 : decode M_L_law.2.2.1 402 = .ok (.iaload, 1) := by decide +kernel
theorem dL_law_403 : decode M_L_law.2.2.1 403 = .ok (.aload_n 0, 1) := by decide +kernel
theorem dL_law_404 : decode M_L_law.2.2.1 404 = .ok (.iload_n 3, 1) := by decide +kernel
theorem dL_law_405 : decode M_L_law.2.2.1 405 = .ok (.iconst 2, 1) := by decide +kernel
theorem dL_law_406 : decode M_L_law.2.2.1 406 = .ok (.iadd, 1) := by decide +kernel
theorem dL_law_407 : decode M_L_law.2.2.1 407 = .ok (.iaload, 1) := by decide +kernel
theorem dL_law_408 : decode M_L_law.2.2.1 408 = .ok (.invokevirtual 37, 3) := by decide +kernel
theorem dL_law_411 : decode M_L_law.2.2.1 411 = .ok (.aload_n 2, 1) := by decide +kernel
theorem dL_law_412 : decode M_L_law.2.2.1 412 = .ok (.aload_n 0, 1) := by decide +kernel
theorem dL_law_413 : decode M_L_law.2.2.1 413 = .ok (.iload_n 3, 1) := by decide +kernel
theorem dL_law_414 : decode M_L_law.2.2.1 414 = .ok (.iconst 1, 1) := by decide +kernel
theorem dL_law_415 : decode M_L_law.2.2.1 415 = .ok (.iadd, 1) := by decide +kernel
theorem dL_law_416 : decode M_L_law.2.2.1 416 = .ok (.iaload, 1) := by decide +kernel
theorem dL_law_417 : decode M_L_law.2.2.1 417 = .ok (.aload_n 0, 1) := by decide +kernel
theorem dL_law_418 : decode M_L_law.2.2.1 418 = .ok (.iload_n 3, 1) := by decide +kernel
theorem dL_law_419 : decode M_L_law.2.2.1 419 = .ok (.iconst 2, 1) := by decide +kernel
theorem dL_law_420 : decode M_L_law.2.2.1 420 = .ok (.iadd, 1) := by decide +kernel
theorem dL_law_421 : decode M_L_law.2.2.1 421 = .ok (.iaload, 1) := by decide +kernel
theorem dL_law_422 : decode M_L_law.2.2.1 422 = .ok (.invokevirtual 40, 3) := by decide +kernel
theorem dL_law_425 : decode M_L_law.2.2.1 425 = .ok (.if_icmp .eq 1361, 3) := by decide +kernel
theorem dL_law_428 : decode M_L_law.2.2.1 428 = .ok (.iconst 0, 1) := by decide +kernel
theorem dL_law_429 : decode M_L_law.2.2.1 429 = .ok (.ireturn, 1) := by decide +kernel
theorem dL_law_430 : decode M_L_law.2.2.1 430 = .ok (.aload_n 1, 1) := by decide +kernel
theorem dL_law_431 : decode M_L_law.2.2.1 431 = .ok (.aload_n 0, 1) := by decide +kernel
theorem dL_law_432 : decode M_L_law.2.2.1 432 = .ok (.iload_n 3, 1) := by decide +kernel
theorem dL_law_433 : decode M_L_law.2.2.1 433 = .ok (.iconst 1, 1) := by decide +kernel
theorem dL_law_434 : decode M_L_law.2.2.1 434 = .ok (.iadd, 1) := by decide +kernel
theorem dL_law_435 : decode M_L_law.2.2.1 435 = .ok (.iaload, 1) := by decide +kernel
theorem dL_law_436 : decode M_L_law.2.2.1 436 = .ok (.aload_n 0, 1) := by decide +kernel
theorem dL_law_437 : decode M_L_law.2.2.1 437 = .ok (.iload_n 3, 1) := by decide +kernel
theorem dL_law_438 : decode M_L_law.2.2.1 438 = .ok (.iconst 2, 1) := by decide +kernel
theorem dL_law_439 : decode M_L_law.2.2.1 439 = .ok (.iadd, 1) := by decide +kernel
theorem dL_law_440 : decode M_L_law.2.2.1 440 = .ok (.iaload, 1) := by decide +kernel
theorem dL_law_441 : decode M_L_law.2.2.1 441 = .ok (.invokevirtual 41, 3) := by decide +kernel
theorem dL_law_444 : decode M_L_law.2.2.1 444 = .ok (.aload_n 2, 1) := by decide +kernel
theorem dL_law_445 : decode M_L_law.2.2.1 445 = .ok (.aload_n 0, 1) := by decide +kernel
theorem dL_law_446 : decode M_L_law.2.2.1 446 = .ok (.iload_n 3, 1) := by decide +kernel
theorem dL_law_447 : decode M_L_law.2.2.1 447 = .ok (.iconst 1, 1) := by decide +kernel
theorem dL_law_448 : decode M_L_law.2.2.1 448 = .ok (.iadd, 1) := by decide +kernel
theorem dL_law_449 : decode M_L_law.2.2.1 449 = .ok (.iaload, 1) := by decide +kernel
theorem dL_law_450 : decode M_L_law.2.2.1 450 = .ok (.aload_n 0, 1) := by decide +kernel
theorem dL_law_451 : decode M_L_law.2.2.1 451 = .ok (.iload_n 3, 1) := by decide +kernel
theorem dL_law_452 : decode M_L_law.2.2.1 452 = .ok (.iconst 2, 1) := by decide +kernel
theorem dL_law_453 : decode M_L_law.2.2.1 453 = .ok (.iadd, 1) := by decide +kernel
theorem dL_law_454 : decode M_L_law.2.2.1 454 = .ok (.iaload, 1) := by decide +kernel
theorem dL_law_455 : decode M_L_law.2.2.1 455 = .ok (.invokevirtual 44, 3) := by decide +kernel
theorem dL_law_458 : decode M_L_law.2.2.1 458 = .ok (.if_icmp .eq 1328, 3) := by decide +kernel
theorem dL_law_461 : decode M_L_law.2.2.1 461 = .ok (.iconst 0, 1) := by decide +kernel
theorem dL_law_462 : decode M_L_law.2.2.1 462 = .ok (.ireturn, 1) := by decide +kernel
theorem dL_law_463 : decode M_L_law.2.2.1 463 = .ok (.aload_n 1, 1) := by decide +kernel
theorem dL_law_464 : decode M_L_law.2.2.1 464 = .ok (.aload_n 0, 1) := by decide +kernel
theorem dL_law_465 : decode M_L_law.2.2.1 465 = .ok (.iload_n 3, 1) := by decide +kernel
theorem dL_law_466 : decode M_L_law.2.2.1 466 = .ok (.iconst 1, 1) := by decide +kernel
theorem dL_law_467 : decode M_L_law.2.2.1 467 = .ok (.iadd, 1) := by decide +kernel
theorem dL_law_468 : decode M_L_law.2.2.1 468 = .ok (.iaload, 1) := by decide +kernel
theorem dL_law_469 : decode M_L_law.2.2.1 469 = .ok (.aload_n 0, 1) := by decide +kernel
theorem dL_law_470 : decode M_L_law.2.2.1 470 = .ok (.iload_n 3, 1) := by decide +kernel
theorem dL_law_471 : decode M_L_law.2.2.1 471 = .ok (.iconst 2, 1) := by decide +kernel
theorem dL_law_472 : decode M_L_law.2.2.1 472 = .ok (.iadd, 1) := by decide +kernel
theorem dL_law_473 : decode M_L_law.2.2.1 473 = .ok (.iaload, 1) := by decide +kernel
theorem dL_law_474 : decode M_L_law.2.2.1 474 = .ok (.aload_n 0, 1) := by decide +kernel
theorem dL_law_475 : decode M_L_law.2.2.1 475 = .ok (.iload_n 3, 1) := by decide +kernel
theorem dL_law_476 : decode M_L_law.2.2.1 476 = .ok (.iconst 3, 1) := by decide +kernel
theorem dL_law_477 : decode M_L_law.2.2.1 477 = .ok (.iadd, 1) := by decide +kernel
theorem dL_law_478 : decode M_L_law.2.2.1 478 = .ok (.iaload, 1) := by decide +kernel
theorem dL_law_479 : decode M_L_law.2.2.1 479 = .ok (.aload_n 0, 1) := by decide +kernel
theorem dL_law_480 : decode M_L_law.2.2.1 480 = .ok (.iload_n 3, 1) := by decide +kernel
theorem dL_law_481 : decode M_L_law.2.2.1 481 = .ok (.iconst 4, 1) := by decide +kernel
theorem dL_law_482 : decode M_L_law.2.2.1 482 = .ok (.iadd, 1) := by decide +kernel
theorem dL_law_483 : decode M_L_law.2.2.1 483 = .ok (.iaload, 1) := by decide +kernel
theorem dL_law_484 : decode M_L_law.2.2.1 484 = .ok (.invokevirtual 45, 3) := by decide +kernel
theorem dL_law_487 : decode M_L_law.2.2.1 487 = .ok (.aload_n 2, 1) := by decide +kernel
theorem dL_law_488 : decode M_L_law.2.2.1 488 = .ok (.aload_n 0, 1) := by decide +kernel
theorem dL_law_489 : decode M_L_law.2.2.1 489 = .ok (.iload_n 3, 1) := by decide +kernel
theorem dL_law_490 : decode M_L_law.2.2.1 490 = .ok (.iconst 1, 1) := by decide +kernel
theorem dL_law_491 : decode M_L_law.2.2.1 491 = .ok (.iadd, 1) := by decide +kernel
theorem dL_law_492 : decode M_L_law.2.2.1 492 = .ok (.iaload, 1) := by decide +kernel
theorem dL_law_493 : decode M_L_law.2.2.1 493 = .ok (.aload_n 0, 1) := by decide +kernel
theorem dL_law_494 : decode M_L_law.2.2.1 494 = .ok (.iload_n 3, 1) := by decide +kernel
theorem dL_law_495 : decode M_L_law.2.2.1 495 = .ok (.iconst 2, 1) := by decide +kernel
theorem dL_law_496 : decode M_L_law.2.2.1 496 = .ok (.iadd, 1) := by decide +kernel
theorem dL_law_497 : decode M_L_law.2.2.1 497 = .ok (.iaload, 1) := by decide +kernel
theorem dL_law_498 : decode M_L_law.2.2.1 498 = .ok (.aload_n 0, 1) := by decide +kernel
theorem dL_law_499 : decode M_L_law.2.2.1 499 = .ok (.iload_n 3, 1) := by decide +kernel
theorem dL_law_500 : decode M_L_law.2.2.1 500 = .ok (.iconst 3, 1) := by decide +kernel
theorem dL_law_501 : decode M_L_law.2.2.1 501 = .ok (.iadd, 1) := by decide +kernel
theorem dL_law_502 : decode M_L_law.2.2.1 502 = .ok (.iaload, 1) := by decide +kernel
theorem dL_law_503 : decode M_L_law.2.2.1 503 = .ok (.aload_n 0, 1) := by decide +kernel
theorem dL_law_504 : decode M_L_law.2.2.1 504 = .ok (.iload_n 3, 1) := by decide +kernel
theorem dL_law_505 : decode M_L_law.2.2.1 505 = .ok (.iconst 4, 1) := by decide +kernel
theorem dL_law_506 : decode M_L_law.2.2.1 506 = .ok (.iadd, 1) := by decide +kernel
theorem dL_law_507 : decode M_L_law.2.2.1 507 = .ok (.iaload, 1) := by decide +kernel
theorem dL_law_508 : decode M_L_law.2.2.1 508 = .ok (.invokevirtual 49, 3) := by decide +kernel
theorem dL_law_511 : decode M_L_law.2.2.1 511 = .ok (.if_icmp .eq 1275, 3) := by decide +kernel
theorem dL_law_514 : decode M_L_law.2.2.1 514 = .ok (.iconst 0, 1) := by decide +kernel
theorem dL_law_515 : decode M_L_law.2.2.1 515 = .ok (.ireturn, 1) := by decide +kernel
theorem dL_law_516 : decode M_L_law.2.2.1 516 = .ok (.aload_n 1, 1) := by decide +kernel
theorem dL_law_517 : decode M_L_law.2.2.1 517 = .ok (.aload_n 0, 1) := by decide +kernel
theorem dL_law_518 : decode M_L_law.2.2.1 518 = .ok (.iload_n 3, 1) := by decide +kernel
theorem dL_law_519 : decode M_L_law.2.2.1 519 = .ok (.iconst 1, 1) := by decide +kernel
theorem dL_law_520 : decode M_L_law.2.2.1 520 = .ok (.iadd, 1) := by decide +kernel
theorem dL_law_521 : decode M_L_law.2.2.1 521 = .ok (.iaload, 1) := by decide +kernel
theorem dL_law_522 : decode M_L_law.2.2.1 522 = .ok (.aload_n 0, 1) := by decide +kernel
theorem dL_law_523 : decode M_L_law.2.2.1 523 = .ok (.iload_n 3, 1) := by decide +kernel
theorem dL_law_524 : decode M_L_law.2.2.1 524 = .ok (.iconst 2, 1) := by decide +kernel
theorem dL_law_525 : decode M_L_law.2.2.1 525 = .ok (.iadd, 1) := by decide +kernel
theorem dL_law_526 : decode M_L_law.2.2.1 526 = .ok (.iaload, 1) := by decide +kernel
theorem dL_law_527 : decode M_L_law.2.2.1 527 = .ok (.aload_n 0, 1) := by decide +kernel
theorem dL_law_528 : decode M_L_law.2.2.1 528 = .ok (.iload_n 3, 1) := by decide +kernel
theorem dL_law_529 : decode M_L_law.2.2.1 529 = .ok (.iconst 3, 1) := by decide +kernel
theorem dL_law_530 : decode M_L_law.2.2.1 530 = .ok (.iadd, 1) := by decide +kernel
theorem dL_law_531 : decode M_L_law.2.2.1 531 = .ok (.iaload, 1) := by decide +kernel
theorem dL_law_532 : decode M_L_law.2.2.1 532 = .ok (.invokevirtual 50, 3) := by decide +kernel
theorem dL_law_535 : decode M_L_law.2.2.1 535 = .ok (.aload_n 2, 1) := by decide +kernel
theorem dL_law_536 : decode M_L_law.2.2.1 536 = .ok (.aload_n 0, 1) := by decide +kernel
theorem dL_law_537 : decode M_L_law.2.2.1 537 = .ok (.iload_n 3, 1) := by decide +kernel
theorem dL_law_538 : decode M_L_law.2.2.1 538 = .ok (.iconst 1, 1) := by decide +kernel
theorem dL_law_539 : decode M_L_law.2.2.1 539 = .ok (.iadd, 1) := by decide +kernel
theorem dL_law_540 : decode M_L_law.2.2.1 540 = .ok (.iaload, 1) := by decide +kernel
theorem dL_law_541 : decode M_L_law.2.2.1 541 = .ok (.aload_n 0, 1) := by decide +kernel
theorem dL_law_542 : decode M_L_law.2.2.1 542 = .ok (.iload_n 3, 1) := by decide +kernel
theorem dL_law_543 : decode M_L_law.2.2.1 543 = .ok (.iconst 2, 1) := by decide +kernel
theorem dL_law_544 : decode M_L_law.2.2.1 544 = .ok (.iadd, 1) := by decide +kernel
theorem dL_law_545 : decode M_L_law.2.2.1 545 = .ok (.iaload, 1) := by decide +kernel
theorem dL_law_546 : decode M_L_law.2.2.1 546 = .ok (.aload_n 0, 1) := by decide +kernel
theorem dL_law_547 : decode M_L_law.2.2.1 547 = .ok (.iload_n 3, 1) := by decide +kernel
theorem dL_law_548 : decode M_L_law.2.2.1 548 = .ok (.iconst 3, 1) := by decide +kernel
theorem dL_law_549 : decode M_L_law.2.2.1 549 = .ok (.iadd, 1) := by decide +kernel
theorem dL_law_550 : decode M_L_law.2.2.1 550 = .ok (.iaload, 1) := by decide +kernel
theorem dL_law_551 : decode M_L_law.2.2.1 551 = .ok (.invokevirtual 53, 3) := by decide +kernel
theorem dL_law_554 : decode M_L_law.2.2.1 554 = .ok (.if_icmp .eq 1232, 3) := by decide +kernel
theorem dL_law_557 : decode M_L_law.2.2.1 557 = .ok (.iconst 0, 1) := by decide +kernel
theorem dL_law_558 : decode M_L_law.2.2.1 558 = .ok (.ireturn, 1) := by decide +kernel
theorem dL_law_559 : decode M_L_law.2.2.1 559 = .ok (.aload_n 1, 1) := by decide +kernel
theorem dL_law_560 : decode M_L_law.2.2.1 560 = .ok (.aload_n 0, 1) := by decide +kernel
theorem dL_law_561 : decode M_L_law.2.2.1 561 = .ok (.iload_n 3, 1) := by decide +kernel
theorem dL_law_562 : decode M_L_law.2.2.1 562 = .ok (.iconst 1, 1) := by decide +kernel
theorem dL_law_563 : decode M_L_law.2.2.1 563 = .ok (.iadd, 1) := by decide +kernel
theorem dL_law_564 : decode M_L_law.2.2.1 564 = .ok (.iaload, 1) := by decide +kernel
theorem dL_law_565 : decode M_L_law.2.2.1 565 = .ok (.aload_n 0, 1) := by decide +kernel
theorem dL_law_566 : decode M_L_law.2.2.1 566 = .ok (.iload_n 3, 1) := by decide +kernel
theorem dL_law_567 : decode M_L_law.2.2.1 567 = .ok (.iconst 2, 1) := by decide +kernel
theorem dL_law_568 : decode M_L_law.2.2.1 568 = .ok (.iadd, 1) := by decide +kernel
theorem dL_law_569 : decode M_L_law.2.2.1 569 = .ok (.iaload, 1) := by decide +kernel
theorem dL_law_570 : decode M_L_law.2.2.1 570 = .ok (.aload_n 0, 1) := by decide +kernel
theorem dL_law_571 : decode M_L_law.2.2.1 571 = .ok (.iload_n 3, 1) := by decide +kernel
theorem dL_law_572 : decode M_L_law.2.2.1 572 = .ok (.iconst 3, 1) := by decide +kernel
theorem dL_law_573 : decode M_L_law.2.2.1 573 = .ok (.iadd, 1) := by decide +kernel
theorem dL_law_574 : decode M_L_law.2.2.1 574 = .ok (.iaload, 1) := by decide +kernel
theorem dL_law_575 : decode M_L_law.2.2.1 575 = .ok (.aload_n 0, 1) := by decide +kernel
theorem dL_law_576 : decode M_L_law.2.2.1 576 = .ok (.iload_n 3, 1) := by decide +kernel
theorem dL_law_577 : decode M_L_law.2.2.1 577 = .ok (.iconst 4, 1) := by decide +kernel
theorem dL_law_578 : decode M_L_law.2.2.1 578 = .ok (.iadd, 1) := by decide +kernel
theorem dL_law_579 : decode M_L_law.2.2.1 579 = .ok (.iaload, 1) := by decide +kernel
theorem dL_law_580 : decode M_L_law.2.2.1 580 = .ok (.invokevirtual 54, 3) := by decide +kernel
theorem dL_law_583 : decode M_L_law.2.2.1 583 = .ok (.aload_n 2, 1) := by decide +kernel
theorem dL_law_584 : decode M_L_law.2.2.1 584 = .ok (.aload_n 0, 1) := by decide +kernel
theorem dL_law_585 : decode M_L_law.2.2.1 585 = .ok (.iload_n 3, 1) := by decide +kernel
theorem dL_law_586 : decode M_L_law.2.2.1 586 = .ok (.iconst 1, 1) := by decide +kernel
theorem dL_law_587 : decode M_L_law.2.2.1 587 = .ok (.iadd, 1) := by decide +kernel
theorem dL_law_588 : decode M_L_law.2.2.1 588 = .ok (.iaload, 1) := by decide +kernel
theorem dL_law_589 : decode M_L_law.2.2.1 589 = .ok (.aload_n 0, 1) := by decide +kernel
theorem dL_law_590 : decode M_L_law.2.2.1 590 = .ok (.iload_n 3, 1) := by decide +kernel
theorem dL_law_591 : decode M_L_law.2.2.1 591 = .ok (.iconst 2, 1) := by decide +kernel
theorem dL_law_592 : decode M_L_law.2.2.1 592 = .ok (.iadd, 1) := by decide +kernel
theorem dL_law_593 : decode M_L_law.2.2.1 593 = .ok (.iaload, 1) := by decide +kernel
theorem dL_law_594 : decode M_L_law.2.2.1 594 = .ok (.aload_n 0, 1) := by decide +kernel
theorem dL_law_595 : decode M_L_law.2.2.1 595 = .ok (.iload_n 3, 1) := by decide +kernel
theorem dL_law_596 : decode M_L_law.2.2.1 596 = .ok (.iconst 3, 1) := by decide +kernel
theorem dL_law_597 : decode M_L_law.2.2.1 597 = .ok (.iadd, 1) := by decide +kernel
theorem dL_law_598 : decode M_L_law.2.2.1 598 = .ok (.iaload, 1) := by decide +kernel
theorem dL_law_599 : decode M_L_law.2.2.1 599 = .ok (.aload_n 0, 1) := by decide +kernel
theorem dL_law_600 : decode M_L_law.2.2.1 600 = .ok (.iload_n 3, 1) := by decide +kernel
theorem dL_law_601 : decode M_L_law.2.2.1 601 = .ok (.iconst 4, 1) := by decide +kernel
theorem dL_law_602 : decode M_L_law.2.2.1 602 = .ok (.iadd, 1) := by decide +kernel
theorem dL_law_603 : decode M_L_law.2.2.1 603 = .ok (.iaload, 1) := by decide +kernel
theorem dL_law_604 : decode M_L_law.2.2.1 604 = .ok (.invokevirtual 57, 3) := by decide +kernel
theorem dL_law_607 : decode M_L_law.2.2.1 607 = .ok (.if_icmp .eq 1179, 3) := by decide +kernel
theorem dL_law_610 : decode M_L_law.2.2.1 610 = .ok (.iconst 0, 1) := by decide +kernel
theorem dL_law_611 : decode M_L_law.2.2.1 611 = .ok (.ireturn, 1) := by decide +kernel
theorem dL_law_612 : decode M_L_law.2.2.1 612 = .ok (.aload_n 1, 1) := by decide +kernel
theorem dL_law_613 : decode M_L_law.2.2.1 613 = .ok (.aload_n 0, 1) := by decide +kernel
theorem dL_law_614 : decode M_L_law.2.2.1 614 = .ok (.iload_n 3, 1) := by decide +kernel
theorem dL_law_615 : decode M_L_law.2.2.1 615 = .ok (.iconst 1, 1) := by decide +kernel
theorem dL_law_616 : decode M_L_law.2.2.1 616 = .ok (.iadd, 1) := by decide +kernel
theorem dL_law_617 : decode M_L_law.2.2.1 617 = .ok (.iaload, 1) := by decide +kernel
theorem dL_law_618 : decode M_L_law.2.2.1 618 = .ok (.aload_n 0, 1) := by decide +kernel
theorem dL_law_619 : decode M_L_law.2.2.1 619 = .ok (.iload_n 3, 1) := by decide +kernel
theorem dL_law_620 : decode M_L_law.2.2.1 620 = .ok (.iconst 2, 1) := by decide +kernel
theorem dL_law_621 : decode M_L_law.2.2.1 621 = .ok (.iadd, 1) := by decide +kernel
theorem dL_law_622 : decode M_L_law.2.2.1 622 = .ok (.iaload, 1) := by decide +kernel
theorem dL_law_623 : decode M_L_law.2.2.1 623 = .ok (.aload_n 0, 1) := by decide +kernel
theorem dL_law_624 : decode M_L_law.2.2.1 624 = .ok (.iload_n 3, 1) := by decide +kernel
theorem dL_law_625 : decode M_L_law.2.2.1 625 = .ok (.iconst 3, 1) := by decide +kernel
theorem dL_law_626 : decode M_L_law.2.2.1 626 = .ok (.iadd, 1) := by decide +kernel
theorem dL_law_627 : decode M_L_law.2.2.1 627 = .ok (.iaload, 1) := by decide +kernel
theorem dL_law_628 : decode M_L_law.2.2.1 628 = .ok (.invokevirtual 58, 3) := by decide +kernel
theorem dL_law_631 : decode M_L_law.2.2.1 631 = .ok (.aload_n 2, 1) := by decide +kernel
theorem dL_law_632 : decode M_L_law.2.2.1 632 = .ok (.aload_n 0, 1) := by decide +kernel
theorem dL_law_633 : decode M_L_law.2.2.1 633 = .ok (.iload_n 3, 1) := by decide +kernel
theorem dL_law_634 : decode M_L_law.2.2.1 634 = .ok (.iconst 1, 1) := by decide +kernel
theorem dL_law_635 : decode M_L_law.2.2.1 635 = .ok (.iadd, 1) := by decide +kernel
theorem dL_law_636 : decode M_L_law.2.2.1 636 = .ok (.iaload, 1) := by decide +kernel
theorem dL_law_637 : decode M_L_law.2.2.1 637 = .ok (.aload_n 0, 1) := by decide +kernel
theorem dL_law_638 : decode M_L_law.2.2.1 638 = .ok (.iload_n 3, 1) := by decide +kernel
theorem dL_law_639 : decode M_L_law.2.2.1 639 = .ok (.iconst 2, 1) := by decide +kernel
theorem dL_law_640 : decode M_L_law.2.2.1 640 = .ok (.iadd, 1) := by decide +kernel
theorem dL_law_641 : decode M_L_law.2.2.1 641 = .ok (.iaload, 1) := by decide +kernel
theorem dL_law_642 : decode M_L_law.2.2.1 642 = .ok (.aload_n 0, 1) := by decide +kernel
theorem dL_law_643 : decode M_L_law.2.2.1 643 = .ok (.iload_n 3, 1) := by decide +kernel
theorem dL_law_644 : decode M_L_law.2.2.1 644 = .ok (.iconst 3, 1) := by decide +kernel
theorem dL_law_645 : decode M_L_law.2.2.1 645 = .ok (.iadd, 1) := by decide +kernel
theorem dL_law_646 : decode M_L_law.2.2.1 646 = .ok (.iaload, 1) := by decide +kernel
theorem dL_law_647 : decode M_L_law.2.2.1 647 = .ok (.invokevirtual 62, 3) := by decide +kernel
theorem dL_law_650 : decode M_L_law.2.2.1 650 = .ok (.lcmp, 1) := by decide +kernel
theorem dL_law_651 : decode M_L_law.2.2.1 651 = .ok (.ifCond .eq 1135, 3) := by decide +kernel
theorem dL_law_654 : decode M_L_law.2.2.1 654 = .ok (.iconst 0, 1) := by decide +kernel
theorem dL_law_655 : decode M_L_law.2.2.1 655 = .ok (.ireturn, 1) := by decide +kernel
theorem dL_law_656 : decode M_L_law.2.2.1 656 = .ok (.aload_n 1, 1) := by decide +kernel
theorem dL_law_657 : decode M_L_law.2.2.1 657 = .ok (.aload_n 0, 1) := by decide +kernel
theorem dL_law_658 : decode M_L_law.2.2.1 658 = .ok (.iload_n 3, 1) := by decide +kernel
theorem dL_law_659 : decode M_L_law.2.2.1 659 = .ok (.iconst 1, 1) := by decide +kernel
theorem dL_law_660 : decode M_L_law.2.2.1 660 = .ok (.iadd, 1) := by decide +kernel
theorem dL_law_661 : decode M_L_law.2.2.1 661 = .ok (.iaload, 1) := by decide +kernel
theorem dL_law_662 : decode M_L_law.2.2.1 662 = .ok (.aload_n 0, 1) := by decide +kernel
theorem dL_law_663 : decode M_L_law.2.2.1 663 = .ok (.iload_n 3, 1) := by decide +kernel
theorem dL_law_664 : decode M_L_law.2.2.1 664 = .ok (.iconst 2, 1) := by decide +kernel
theorem dL_law_665 : decode M_L_law.2.2.1 665 = .ok (.iadd, 1) := by decide +kernel
theorem dL_law_666 : decode M_L_law.2.2.1 666 = .ok (.iaload, 1) := by decide +kernel
theorem dL_law_667 : decode M_L_law.2.2.1 667 = .ok (.invokevirtual 63, 3) := by decide +kernel
theorem dL_law_670 : decode M_L_law.2.2.1 670 = .ok (.aload_n 2, 1) := by decide +kernel
theorem dL_law_671 : decode M_L_law.2.2.1 671 = .ok (.aload_n 0, 1) := by decide +kernel
theorem dL_law_672 : decode M_L_law.2.2.1 672 = .ok (.iload_n 3, 1) := by decide +kernel
theorem dL_law_673 : decode M_L_law.2.2.1 673 = .ok (.iconst 1, 1) := by decide +kernel
theorem dL_law_674 : decode M_L_law.2.2.1 674 = .ok (.iadd, 1) := by decide +kernel
theorem dL_law_675 : decode M_L_law.2.2.1 675 = .ok (.iaload, 1) := by decide +kernel
theorem dL_law_676 : decode M_L_law.2.2.1 676 = .ok (.aload_n 0, 1) := by decide +kernel
theorem dL_law_677 : decode M_L_law.2.2.1 677 = .ok (.iload_n 3, 1) := by decide +kernel
theorem dL_law_678 : decode M_L_law.2.2.1 678 = .ok (.iconst 2, 1) := by decide +kernel
theorem dL_law_679 : decode M_L_law.2.2.1 679 = .ok (.iadd, 1) := by decide +kernel
theorem dL_law_680 : decode M_L_law.2.2.1 680 = .ok (.iaload, 1) := by decide +kernel
theorem dL_law_681 : decode M_L_law.2.2.1 681 = .ok (.invokevirtual 66, 3) := by decide +kernel
theorem dL_law_684 : decode M_L_law.2.2.1 684 = .ok (.if_icmp .eq 1102, 3) := by decide +kernel
theorem dL_law_687 : decode M_L_law.2.2.1 687 = .ok (.iconst 0, 1) := by decide +kernel
theorem dL_law_688 : decode M_L_law.2.2.1 688 = .ok (.ireturn, 1) := by decide +kernel
theorem dL_law_689 : decode M_L_law.2.2.1 689 = .ok (.aload_n 1, 1) := by decide +kernel
theorem dL_law_690 : decode M_L_law.2.2.1 690 = .ok (.aload_n 0, 1) := by decide +kernel
theorem dL_law_691 : decode M_L_law.2.2.1 691 = .ok (.iload_n 3, 1) := by decide +kernel
theorem dL_law_692 : decode M_L_law.2.2.1 692 = .ok (.iconst 1, 1) := by decide +kernel
theorem dL_law_693 : decode M_L_law.2.2.1 693 = .ok (.iadd, 1) := by decide +kernel
theorem dL_law_694 : decode M_L_law.2.2.1 694 = .ok (.iaload, 1) := by decide +kernel
theorem dL_law_695 : decode M_L_law.2.2.1 695 = .ok (.aload_n 0, 1) := by decide +kernel
theorem dL_law_696 : decode M_L_law.2.2.1 696 = .ok (.iload_n 3, 1) := by decide +kernel
theorem dL_law_697 : decode M_L_law.2.2.1 697 = .ok (.iconst 2, 1) := by decide +kernel
theorem dL_law_698 : decode M_L_law.2.2.1 698 = .ok (.iadd, 1) := by decide +kernel
theorem dL_law_699 : decode M_L_law.2.2.1 699 = .ok (.iaload, 1) := by decide +kernel
theorem dL_law_700 : decode M_L_law.2.2.1 700 = .ok (.aload_n 0, 1) := by decide +kernel
theorem dL_law_701 : decode M_L_law.2.2.1 701 = .ok (.iload_n 3, 1) := by decide +kernel
theorem dL_law_702 : decode M_L_law.2.2.1 702 = .ok (.iconst 3, 1) := by decide +kernel
theorem dL_law_703 : decode M_L_law.2.2.1 703 = .ok (.iadd, 1) := by decide +kernel
theorem dL_law_704 : decode M_L_law.2.2.1 704 = .ok (.iaload, 1) := by decide +kernel
theorem dL_law_705 : decode M_L_law.2.2.1 705 = .ok (.aload_n 0, 1) := by decide +kernel
theorem dL_law_706 : decode M_L_law.2.2.1 706 = .ok (.iload_n 3, 1) := by decide +kernel
theorem dL_law_707 : decode M_L_law.2.2.1 707 = .ok (.iconst 4, 1) := by decide +kernel
theorem dL_law_708 : decode M_L_law.2.2.1 708 = .ok (.iadd, 1) := by decide +kernel
theorem dL_law_709 : decode M_L_law.2.2.1 709 = .ok (.iaload, 1) := by decide +kernel
theorem dL_law_710 : decode M_L_law.2.2.1 710 = .ok (.invokevirtual 67, 3) := by decide +kernel
theorem dL_law_713 : decode M_L_law.2.2.1 713 = .ok (.aload_n 2, 1) := by decide +kernel
theorem dL_law_714 : decode M_L_law.2.2.1 714 = .ok (.aload_n 0, 1) := by decide +kernel
theorem dL_law_715 : decode M_L_law.2.2.1 715 = .ok (.iload_n 3, 1) := by decide +kernel
theorem dL_law_716 : decode M_L_law.2.2.1 716 = .ok (.iconst 1, 1) := by decide +kernel
theorem dL_law_717 : decode M_L_law.2.2.1 717 = .ok (.iadd, 1) := by decide +kernel
theorem dL_law_718 : decode M_L_law.2.2.1 718 = .ok (.iaload, 1) := by decide +kernel
theorem dL_law_719 : decode M_L_law.2.2.1 719 = .ok (.aload_n 0, 1) := by decide +kernel
theorem dL_law_720 : decode M_L_law.2.2.1 720 = .ok (.iload_n 3, 1) := by decide +kernel
theorem dL_law_721 : decode M_L_law.2.2.1 721 = .ok (.iconst 2, 1) := by decide +kernel
theorem dL_law_722 : decode M_L_law.2.2.1 722 = .ok (.iadd, 1) := by decide +kernel
theorem dL_law_723 : decode M_L_law.2.2.1 723 = .ok (.iaload, 1) := by decide +kernel
theorem dL_law_724 : decode M_L_law.2.2.1 724 = .ok (.aload_n 0, 1) := by decide +kernel
theorem dL_law_725 : decode M_L_law.2.2.1 725 = .ok (.iload_n 3, 1) := by decide +kernel
theorem dL_law_726 : decode M_L_law.2.2.1 726 = .ok (.iconst 3, 1) := by decide +kernel
theorem dL_law_727 : decode M_L_law.2.2.1 727 = .ok (.iadd, 1) := by decide +kernel
theorem dL_law_728 : decode M_L_law.2.2.1 728 = .ok (.iaload, 1) := by decide +kernel
theorem dL_law_729 : decode M_L_law.2.2.1 729 = .ok (.aload_n 0, 1) := by decide +kernel
theorem dL_law_730 : decode M_L_law.2.2.1 730 = .ok (.iload_n 3, 1) := by decide +kernel
theorem dL_law_731 : decode M_L_law.2.2.1 731 = .ok (.iconst 4, 1) := by decide +kernel
theorem dL_law_732 : decode M_L_law.2.2.1 732 = .ok (.iadd, 1) := by decide +kernel
theorem dL_law_733 : decode M_L_law.2.2.1 733 = .ok (.iaload, 1) := by decide +kernel
theorem dL_law_734 : decode M_L_law.2.2.1 734 = .ok (.invokevirtual 70, 3) := by decide +kernel
theorem dL_law_737 : decode M_L_law.2.2.1 737 = .ok (.if_icmp .eq 1049, 3) := by decide +kernel
theorem dL_law_740 : decode M_L_law.2.2.1 740 = .ok (.iconst 0, 1) := by decide +kernel
theorem dL_law_741 : decode M_L_law.2.2.1 741 = .ok (.ireturn, 1) := by decide +kernel
theorem dL_law_742 : decode M_L_law.2.2.1 742 = .ok (.aload_n 1, 1) := by decide +kernel
theorem dL_law_743 : decode M_L_law.2.2.1 743 = .ok (.aload_n 0, 1) := by decide +kernel
theorem dL_law_744 : decode M_L_law.2.2.1 744 = .ok (.iload_n 3, 1) := by decide +kernel
theorem dL_law_745 : decode M_L_law.2.2.1 745 = .ok (.iconst 1, 1) := by decide +kernel
theorem dL_law_746 : decode M_L_law.2.2.1 746 = .ok (.iadd, 1) := by decide +kernel
theorem dL_law_747 : decode M_L_law.2.2.1 747 = .ok (.iaload, 1) := by decide +kernel
theorem dL_law_748 : decode M_L_law.2.2.1 748 = .ok (.aload_n 0, 1) := by decide +kernel
theorem dL_law_749 : decode M_L_law.2.2.1 749 = .ok (.iload_n 3, 1) := by decide +kernel
theorem dL_law_750 : decode M_L_law.2.2.1 750 = .ok (.iconst 2, 1) := by decide +kernel
theorem dL_law_751 : decode M_L_law.2.2.1 751 = .ok (.iadd, 1) := by decide +kernel
theorem dL_law_752 : decode M_L_law.2.2.1 752 = .ok (.iaload, 1) := by decide +kernel
theorem dL_law_753 : decode M_L_law.2.2.1 753 = .ok (.aload_n 0, 1) := by decide +kernel
theorem dL_law_754 : decode M_L_law.2.2.1 754 = .ok (.iload_n 3, 1) := by decide +kernel
theorem dL_law_755 : decode M_L_law.2.2.1 755 = .ok (.iconst 3, 1) := by decide +kernel
theorem dL_law_756 : decode M_L_law.2.2.1 756 = .ok (.iadd, 1) := by decide +kernel
theorem dL_law_757 : decode M_L_law.2.2.1 757 = .ok (.iaload, 1) := by decide +kernel
theorem dL_law_758 : decode M_L_law.2.2.1 758 = .ok (.aload_n 0, 1) := by decide +kernel
theorem dL_law_759 : decode M_L_law.2.2.1 759 = .ok (.iload_n 3, 1) := by decide +kernel
theorem dL_law_760 : decode M_L_law.2.2.1 760 = .ok (.iconst 4, 1) := by decide +kernel
theorem dL_law_761 : decode M_L_law.2.2.1 761 = .ok (.iadd, 1) := by decide +kernel
theorem dL_law_762 : decode M_L_law.2.2.1 762 = .ok (.iaload, 1) := by decide +kernel
theorem dL_law_763 : decode M_L_law.2.2.1 763 = .ok (.aload_n 0, 1) := by decide +kernel
theorem dL_law_764 : decode M_L_law.2.2.1 764 = .ok (.iload_n 3, 1) := by decide +kernel
theorem dL_law_765 : decode M_L_law.2.2.1 765 = .ok (.iconst 5, 1) := by decide +kernel
theorem dL_law_766 : decode M_L_law.2.2.1 766 = .ok (.iadd, 1) := by decide +kernel
theorem dL_law_767 : decode M_L_law.2.2.1 767 = .ok (.iaload, 1) := by decide +kernel
theorem dL_law_768 : decode M_L_law.2.2.1 768 = .ok (.invokevirtual 71, 3) := by decide +kernel
theorem dL_law_771 : decode M_L_law.2.2.1 771 = .ok (.aload_n 2, 1) := by decide +kernel
theorem dL_law_772 : decode M_L_law.2.2.1 772 = .ok (.aload_n 0, 1) := by decide +kernel
theorem dL_law_773 : decode M_L_law.2.2.1 773 = .ok (.iload_n 3, 1) := by decide +kernel
theorem dL_law_774 : decode M_L_law.2.2.1 774 = .ok (.iconst 1, 1) := by decide +kernel
theorem dL_law_775 : decode M_L_law.2.2.1 775 = .ok (.iadd, 1) := by decide +kernel
theorem dL_law_776 : decode M_L_law.2.2.1 776 = .ok (.iaload, 1) := by decide +kernel
theorem dL_law_777 : decode M_L_law.2.2.1 777 = .ok (.aload_n 0, 1) := by decide +kernel
theorem dL_law_778 : decode M_L_law.2.2.1 778 = .ok (.iload_n 3, 1) := by decide +kernel
theorem dL_law_779 : decode M_L_law.2.2.1 779 = .ok (.iconst 2, 1) := by decide +kernel
theorem dL_law_780 : decode M_L_law.2.2.1 780 = .ok (.iadd, 1) := by decide +kernel
theorem dL_law_781 : decode M_L_law.2.2.1 781 = .ok (.iaload, 1) := by decide +kernel
theorem dL_law_782 : decode M_L_law.2.2.1 782 = .ok (.aload_n 0, 1) := by decide +kernel
theorem dL_law_783 : decode M_L_law.2.2.1 783 = .ok (.iload_n 3, 1) := by decide +kernel
theorem dL_law_784 : decode M_L_law.2.2.1 784 = .ok (.iconst 3, 1) := by decide +kernel
theorem dL_law_785 : decode M_L_law.2.2.1 785 = .ok (.iadd, 1) := by decide +kernel
theorem dL_law_786 : decode M_L_law.2.2.1 786 = .ok (.iaload, 1) := by decide +kernel
theorem dL_law_787 : decode M_L_law.2.2.1 787 = .ok (.aload_n 0, 1) := by decide +kernel
theorem dL_law_788 : decode M_L_law.2.2.1 788 = .ok (.iload_n 3, 1) := by decide +kernel
theorem dL_law_789 : decode M_L_law.2.2.1 789 = .ok (.iconst 4, 1) := by decide +kernel
theorem dL_law_790 : decode M_L_law.2.2.1 790 = .ok (.iadd, 1) := by decide +kernel
theorem dL_law_791 : decode M_L_law.2.2.1 791 = .ok (.iaload, 1) := by decide +kernel
theorem dL_law_792 : decode M_L_law.2.2.1 792 = .ok (.aload_n 0, 1) := by decide +kernel
theorem dL_law_793 : decode M_L_law.2.2.1 793 = .ok (.iload_n 3, 1) := by decide +kernel
theorem dL_law_794 : decode M_L_law.2.2.1 794 = .ok (.iconst 5, 1) := by decide +kernel
theorem dL_law_795 : decode M_L_law.2.2.1 795 = .ok (.iadd, 1) := by decide +kernel
theorem dL_law_796 : decode M_L_law.2.2.1 796 = .ok (.iaload, 1) := by decide +kernel
theorem dL_law_797 : decode M_L_law.2.2.1 797 = .ok (.invokevirtual 75, 3) := by decide +kernel
theorem dL_law_800 : decode M_L_law.2.2.1 800 = .ok (.if_icmp .eq 986, 3) := by decide +kernel
theorem dL_law_803 : decode M_L_law.2.2.1 803 = .ok (.iconst 0, 1) := by decide +kernel
theorem dL_law_804 : decode M_L_law.2.2.1 804 = .ok (.ireturn, 1) := by decide +kernel
theorem dL_law_805 : decode M_L_law.2.2.1 805 = .ok (.aload_n 1, 1) := by decide +kernel
theorem dL_law_806 : decode M_L_law.2.2.1 806 = .ok (.aload_n 0, 1) := by decide +kernel
theorem dL_law_807 : decode M_L_law.2.2.1 807 = .ok (.iload_n 3, 1) := by decide +kernel
theorem dL_law_808 : decode M_L_law.2.2.1 808 = .ok (.iconst 1, 1) := by decide +kernel
theorem dL_law_809 : decode M_L_law.2.2.1 809 = .ok (.iadd, 1) := by decide +kernel
theorem dL_law_810 : decode M_L_law.2.2.1 810 = .ok (.iaload, 1) := by decide +kernel
theorem dL_law_811 : decode M_L_law.2.2.1 811 = .ok (.aload_n 0, 1) := by decide +kernel
theorem dL_law_812 : decode M_L_law.2.2.1 812 = .ok (.iload_n 3, 1) := by decide +kernel
theorem dL_law_813 : decode M_L_law.2.2.1 813 = .ok (.iconst 2, 1) := by decide +kernel
theorem dL_law_814 : decode M_L_law.2.2.1 814 = .ok (.iadd, 1) := by decide +kernel
theorem dL_law_815 : decode M_L_law.2.2.1 815 = .ok (.iaload, 1) := by decide +kernel
theorem dL_law_816 : decode M_L_law.2.2.1 816 = .ok (.aload_n 0, 1) := by decide +kernel
theorem dL_law_817 : decode M_L_law.2.2.1 817 = .ok (.iload_n 3, 1) := by decide +kernel
theorem dL_law_818 : decode M_L_law.2.2.1 818 = .ok (.iconst 3, 1) := by decide +kernel
theorem dL_law_819 : decode M_L_law.2.2.1 819 = .ok (.iadd, 1) := by decide +kernel
theorem dL_law_820 : decode M_L_law.2.2.1 820 = .ok (.iaload, 1) := by decide +kernel
theorem dL_law_821 : decode M_L_law.2.2.1 821 = .ok (.aload_n 0, 1) := by decide +kernel
theorem dL_law_822 : decode M_L_law.2.2.1 822 = .ok (.iload_n 3, 1) := by decide +kernel
theorem dL_law_823 : decode M_L_law.2.2.1 823 = .ok (.iconst 4, 1) := by decide +kernel
theorem dL_law_824 : decode M_L_law.2.2.1 824 = .ok (.iadd, 1) := by decide +kernel
theorem dL_law_825 : decode M_L_law.2.2.1 825 = .ok (.iaload, 1) := by decide +kernel
theorem dL_law_826 : decode M_L_law.2.2.1 826 = .ok (.aload_n 0, 1) := by decide +kernel
theorem dL_law_827 : decode M_L_law.2.2.1 827 = .ok (.iload_n 3, 1) := by decide +kernel
theorem dL_law_828 : decode M_L_law.2.2.1 828 = .ok (.iconst 5, 1) := by decide +kernel
theorem dL_law_829 : decode M_L_law.2.2.1 829 = .ok (.iadd, 1) := by decide +kernel
theorem dL_law_830 : decode M_L_law.2.2.1 830 = .ok (.iaload, 1) := by decide +kernel
theorem dL_law_831 : decode M_L_law.2.2.1 831 = .ok (.invokevirtual 76, 3) := by decide +kernel
theorem dL_law_834 : decode M_L_law.2.2.1 834 = .ok (.aload_n 2, 1) := by decide +kernel
theorem dL_law_835 : decode M_L_law.2.2.1 835 = .ok (.aload_n 0, 1) := by decide +kernel
theorem dL_law_836 : decode M_L_law.2.2.1 836 = .ok (.iload_n 3, 1) := by decide +kernel
theorem dL_law_837 : decode M_L_law.2.2.1 837 = .ok (.iconst 1, 1) := by decide +kernel
theorem dL_law_838 : decode M_L_law.2.2.1 838 = .ok (.iadd, 1) := by decide +kernel
theorem dL_law_839 : decode M_L_law.2.2.1 839 = .ok (.iaload, 1) := by decide +kernel
theorem dL_law_840 : decode M_L_law.2.2.1 840 = .ok (.aload_n 0, 1) := by decide +kernel
theorem dL_law_841 : decode M_L_law.2.2.1 841 = .ok (.iload_n 3, 1) := by decide +kernel
theorem dL_law_842 : decode M_L_law.2.2.1 842 = .ok (.iconst 2, 1) := by decide +kernel
theorem dL_law_843 : decode M_L_law.2.2.1 843 = .ok (.iadd, 1) := by decide +kernel
theorem dL_law_844 : decode M_L_law.2.2.1 844 = .ok (.iaload, 1) := by decide +kernel
theorem dL_law_845 : decode M_L_law.2.2.1 845 = .ok (.aload_n 0, 1) := by decide +kernel
theorem dL_law_846 : decode M_L_law.2.2.1 846 = .ok (.iload_n 3, 1) := by decide +kernel
theorem dL_law_847 : decode M_L_law.2.2.1 847 = .ok (.iconst 3, 1) := by decide +kernel
theorem dL_law_848 : decode M_L_law.2.2.1 848 = .ok (.iadd, 1) := by decide +kernel
theorem dL_law_849 : decode M_L_law.2.2.1 849 = .ok (.iaload, 1) := by decide +kernel
theorem dL_law_850 : decode M_L_law.2.2.1 850 = .ok (.aload_n 0, 1) := by decide +kernel
theorem dL_law_851 : decode M_L_law.2.2.1 851 = .ok (.iload_n 3, 1) := by decide +kernel
theorem dL_law_852 : decode M_L_law.2.2.1 852 = .ok (.iconst 4, 1) := by decide +kernel
theorem dL_law_853 : decode M_L_law.2.2.1 853 = .ok (.iadd, 1) := by decide +kernel
theorem dL_law_854 : decode M_L_law.2.2.1 854 = .ok (.iaload, 1) := by decide +kernel
theorem dL_law_855 : decode M_L_law.2.2.1 855 = .ok (.aload_n 0, 1) := by decide +kernel
theorem dL_law_856 : decode M_L_law.2.2.1 856 = .ok (.iload_n 3, 1) := by decide +kernel
theorem dL_law_857 : decode M_L_law.2.2.1 857 = .ok (.iconst 5, 1) := by decide +kernel
theorem dL_law_858 : decode M_L_law.2.2.1 858 = .ok (.iadd, 1) := by decide +kernel
theorem dL_law_859 : decode M_L_law.2.2.1 859 = .ok (.iaload, 1) := by decide +kernel
theorem dL_law_860 : decode M_L_law.2.2.1 860 = .ok (.invokevirtual 79, 3) := by decide +kernel
theorem dL_law_863 : decode M_L_law.2.2.1 863 = .ok (.if_icmp .eq 923, 3) := by decide +kernel
theorem dL_law_866 : decode M_L_law.2.2.1 866 = .ok (.iconst 0, 1) := by decide +kernel
theorem dL_law_867 : decode M_L_law.2.2.1 867 = .ok (.ireturn, 1) := by decide +kernel
theorem dL_law_868 : decode M_L_law.2.2.1 868 = .ok (.aload_n 1, 1) := by decide +kernel
theorem dL_law_869 : decode M_L_law.2.2.1 869 = .ok (.aload_n 0, 1) := by decide +kernel
theorem dL_law_870 : decode M_L_law.2.2.1 870 = .ok (.iload_n 3, 1) := by decide +kernel
theorem dL_law_871 : decode M_L_law.2.2.1 871 = .ok (.iconst 1, 1) := by decide +kernel
theorem dL_law_872 : decode M_L_law.2.2.1 872 = .ok (.iadd, 1) := by decide +kernel
theorem dL_law_873 : decode M_L_law.2.2.1 873 = .ok (.iaload, 1) := by decide +kernel
theorem dL_law_874 : decode M_L_law.2.2.1 874 = .ok (.invokevirtual 80, 3) := by decide +kernel
theorem dL_law_877 : decode M_L_law.2.2.1 877 = .ok (.aload_n 2, 1) := by decide +kernel
theorem dL_law_878 : decode M_L_law.2.2.1 878 = .ok (.aload_n 0, 1) := by decide +kernel
theorem dL_law_879 : decode M_L_law.2.2.1 879 = .ok (.iload_n 3, 1) := by decide +kernel
theorem dL_law_880 : decode M_L_law.2.2.1 880 = .ok (.iconst 1, 1) := by decide +kernel
theorem dL_law_881 : decode M_L_law.2.2.1 881 = .ok (.iadd, 1) := by decide +kernel
theorem dL_law_882 : decode M_L_law.2.2.1 882 = .ok (.iaload, 1) := by decide +kernel
theorem dL_law_883 : decode M_L_law.2.2.1 883 = .ok (.invokevirtual 84, 3) := by decide +kernel
theorem dL_law_886 : decode M_L_law.2.2.1 886 = .ok (.if_icmp .eq 900, 3) := by decide +kernel
theorem dL_law_889 : decode M_L_law.2.2.1 889 = .ok (.iconst 0, 1) := by decide +kernel
theorem dL_law_890 : decode M_L_law.2.2.1 890 = .ok (.ireturn, 1) := by decide +kernel
theorem dL_law_891 : decode M_L_law.2.2.1 891 = .ok (.aload_n 1, 1) := by decide +kernel
theorem dL_law_892 : decode M_L_law.2.2.1 892 = .ok (.invokevirtual 85, 3) := by decide +kernel
theorem dL_law_895 : decode M_L_law.2.2.1 895 = .ok (.aload_n 2, 1) := by decide +kernel
theorem dL_law_896 : decode M_L_law.2.2.1 896 = .ok (.invokevirtual 89, 3) := by decide +kernel
theorem dL_law_899 : decode M_L_law.2.2.1 899 = .ok (.if_icmp .eq 887, 3) := by decide +kernel
theorem dL_law_902 : decode M_L_law.2.2.1 902 = .ok (.iconst 0, 1) := by decide +kernel
theorem dL_law_903 : decode M_L_law.2.2.1 903 = .ok (.ireturn, 1) := by decide +kernel
theorem dL_law_904 : decode M_L_law.2.2.1 904 = .ok (.aload_n 1, 1) := by decide +kernel
theorem dL_law_905 : decode M_L_law.2.2.1 905 = .ok (.aload_n 0, 1) := by decide +kernel
theorem dL_law_906 : decode M_L_law.2.2.1 906 = .ok (.iload_n 3, 1) := by decide +kernel
theorem dL_law_907 : decode M_L_law.2.2.1 907 = .ok (.iconst 1, 1) := by decide +kernel
theorem dL_law_908 : decode M_L_law.2.2.1 908 = .ok (.iadd, 1) := by decide +kernel
theorem dL_law_909 : decode M_L_law.2.2.1 909 = .ok (.iaload, 1) := by decide +kernel
theorem dL_law_910 : decode M_L_law.2.2.1 910 = .ok (.invokevirtual 90, 3) := by decide +kernel
theorem dL_law_913 : decode M_L_law.2.2.1 913 = .ok (.aload_n 2, 1) := by decide +kernel
theorem dL_law_914 : decode M_L_law.2.2.1 914 = .ok (.aload_n 0, 1) := by decide +kernel
theorem dL_law_915 : decode M_L_law.2.2.1 915 = .ok (.iload_n 3, 1) := by decide +kernel
theorem dL_law_916 : decode M_L_law.2.2.1 916 = .ok (.iconst 1, 1) := by decide +kernel
theorem dL_law_917 : decode M_L_law.2.2.1 917 = .ok (.iadd, 1) := by decide +kernel
theorem dL_law_918 : decode M_L_law.2.2.1 918 = .ok (.iaload, 1) := by decide +kernel
theorem dL_law_919 : decode M_L_law.2.2.1 919 = .ok (.invokevirtual 93, 3) := by decide +kernel
theorem dL_law_922 : decode M_L_law.2.2.1 922 = .ok (.if_icmp .eq 864, 3) := by decide +kernel
theorem dL_law_925 : decode M_L_law.2.2.1 925 = .ok (.iconst 0, 1) := by decide +kernel
theorem dL_law_926 : decode M_L_law.2.2.1 926 = .ok (.ireturn, 1) := by decide +kernel
theorem dL_law_927 : decode M_L_law.2.2.1 927 = .ok (.aload_n 1, 1) := by decide +kernel
theorem dL_law_928 : decode M_L_law.2.2.1 928 = .ok (.aload_n 0, 1) := by decide +kernel
theorem dL_law_929 : decode M_L_law.2.2.1 929 = .ok (.iload_n 3, 1) := by decide +kernel
theorem dL_law_930 : decode M_L_law.2.2.1 930 = .ok (.iconst 1, 1) := by decide +kernel
theorem dL_law_931 : decode M_L_law.2.2.1 931 = .ok (.iadd, 1) := by decide +kernel
theorem dL_law_932 : decode M_L_law.2.2.1 932 = .ok (.iaload, 1) := by decide +kernel
theorem dL_law_933 : decode M_L_law.2.2.1 933 = .ok (.aload_n 0, 1) := by decide +kernel
theorem dL_law_934 : decode M_L_law.2.2.1 934 = .ok (.iload_n 3, 1) := by decide +kernel
theorem dL_law_935 : decode M_L_law.2.2.1 935 = .ok (.iconst 2, 1) := by decide +kernel
theorem dL_law_936 : decode M_L_law.2.2.1 936 = .ok (.iadd, 1) := by decide +kernel
theorem dL_law_937 : decode M_L_law.2.2.1 937 = .ok (.iaload, 1) := by decide +kernel
theorem dL_law_938 : decode M_L_law.2.2.1 938 = .ok (.invokevirtual 94, 3) := by decide +kernel
theorem dL_law_941 : decode M_L_law.2.2.1 941 = .ok (.aload_n 2, 1) := by decide +kernel
theorem dL_law_942 : decode M_L_law.2.2.1 942 = .ok (.aload_n 0, 1) := by decide +kernel
theorem dL_law_943 : decode M_L_law.2.2.1 943 = .ok (.iload_n 3, 1) := by decide +kernel
theorem dL_law_944 : decode M_L_law.2.2.1 944 = .ok (.iconst 1, 1) := by decide +kernel
theorem dL_law_945 : decode M_L_law.2.2.1 945 = .ok (.iadd, 1) := by decide +kernel
theorem dL_law_946 : decode M_L_law.2.2.1 946 = .ok (.iaload, 1) := by decide +kernel
theorem dL_law_947 : decode M_L_law.2.2.1 947 = .ok (.aload_n 0, 1) := by decide +kernel
theorem dL_law_948 : decode M_L_law.2.2.1 948 = .ok (.iload_n 3, 1) := by decide +kernel
theorem dL_law_949 : decode M_L_law.2.2.1 949 = .ok (.iconst 2, 1) := by decide +kernel
theorem dL_law_950 : decode M_L_law.2.2.1 950 = .ok (.iadd, 1) := by decide +kernel
theorem dL_law_951 : decode M_L_law.2.2.1 951 = .ok (.iaload, 1) := by decide +kernel
theorem dL_law_952 : decode M_L_law.2.2.1 952 = .ok (.invokevirtual 98, 3) := by decide +kernel
theorem dL_law_955 : decode M_L_law.2.2.1 955 = .ok (.if_icmp .eq 831, 3) := by decide +kernel
theorem dL_law_958 : decode M_L_law.2.2.1 958 = .ok (.iconst 0, 1) := by decide +kernel
theorem dL_law_959 : decode M_L_law.2.2.1 959 = .ok (.ireturn, 1) := by decide +kernel
theorem dL_law_960 : decode M_L_law.2.2.1 960 = .ok (.aload_n 1, 1) := by decide +kernel
theorem dL_law_961 : decode M_L_law.2.2.1 961 = .ok (.invokevirtual 99, 3) := by decide +kernel
theorem dL_law_964 : decode M_L_law.2.2.1 964 = .ok (.aload_n 2, 1) := by decide +kernel
theorem dL_law_965 : decode M_L_law.2.2.1 965 = .ok (.invokevirtual 102, 3) := by decide +kernel
theorem dL_law_968 : decode M_L_law.2.2.1 968 = .ok (.if_icmp .eq 818, 3) := by decide +kernel
theorem dL_law_971 : decode M_L_law.2.2.1 971 = .ok (.iconst 0, 1) := by decide +kernel
theorem dL_law_972 : decode M_L_law.2.2.1 972 = .ok (.ireturn, 1) := by decide +kernel
theorem dL_law_973 : decode M_L_law.2.2.1 973 = .ok (.aload_n 1, 1) := by decide +kernel
theorem dL_law_974 : decode M_L_law.2.2.1 974 = .ok (.aload_n 0, 1) := by decide +kernel
theorem dL_law_975 : decode M_L_law.2.2.1 975 = .ok (.iload_n 3, 1) := by decide +kernel
theorem dL_law_976 : decode M_L_law.2.2.1 976 = .ok (.iconst 1, 1) := by decide +kernel
theorem dL_law_977 : decode M_L_law.2.2.1 977 = .ok (.iadd, 1) := by decide +kernel
theorem dL_law_978 : decode M_L_law.2.2.1 978 = .ok (.iaload, 1) := by decide +kernel
theorem dL_law_979 : decode M_L_law.2.2.1 979 = .ok (.aload_n 0, 1) := by decide +kernel
theorem dL_law_980 : decode M_L_law.2.2.1 980 = .ok (.iload_n 3, 1) := by decide +kernel
theorem dL_law_981 : decode M_L_law.2.2.1 981 = .ok (.iconst 2, 1) := by decide +kernel
theorem dL_law_982 : decode M_L_law.2.2.1 982 = .ok (.iadd, 1) := by decide +kernel
theorem dL_law_983 : decode M_L_law.2.2.1 983 = .ok (.iaload, 1) := by decide +kernel
theorem dL_law_984 : decode M_L_law.2.2.1 984 = .ok (.aload_n 0, 1) := by decide +kernel
theorem dL_law_985 : decode M_L_law.2.2.1 985 = .ok (.iload_n 3, 1) := by decide +kernel
theorem dL_law_986 : decode M_L_law.2.2.1 986 = .ok (.iconst 3, 1) := by decide +kernel
theorem dL_law_987 : decode M_L_law.2.2.1 987 = .ok (.iadd, 1) := by decide +kernel
theorem dL_law_988 : decode M_L_law.2.2.1 988 = .ok (.iaload, 1) := by decide +kernel
theorem dL_law_989 : decode M_L_law.2.2.1 989 = .ok (.aload_n 0, 1) := by decide +kernel
theorem dL_law_990 : decode M_L_law.2.2.1 990 = .ok (.iload_n 3, 1) := by decide +kernel
theorem dL_law_991 : decode M_L_law.2.2.1 991 = .ok (.iconst 4, 1) := by decide +kernel
theorem dL_law_992 : decode M_L_law.2.2.1 992 = .ok (.iadd, 1) := by decide +kernel
theorem dL_law_993 : decode M_L_law.2.2.1 993 = .ok (.iaload, 1) := by decide +kernel
theorem dL_law_994 : decode M_L_law.2.2.1 994 = .ok (.invokevirtual 103, 3) := by decide +kernel
theorem dL_law_997 : decode M_L_law.2.2.1 997 = .ok (.aload_n 2, 1) := by decide +kernel
theorem dL_law_998 : decode M_L_law.2.2.1 998 = .ok (.aload_n 0, 1) := by decide +kernel
theorem dL_law_999 : decode M_L_law.2.2.1 999 = .ok (.iload_n 3, 1) := by decide +kernel
theorem dL_law_1000 : decode M_L_law.2.2.1 1000 = .ok (.iconst 1, 1) := by decide +kernel
theorem dL_law_1001 : decode M_L_law.2.2.1 1001 = .ok (.iadd, 1) := by decide +kernel
theorem dL_law_1002 : decode M_L_law.2.2.1 1002 = .ok (.iaload, 1) := by decide +kernel
theorem dL_law_1003 : decode M_L_law.2.2.1 1003 = .ok (.aload_n 0, 1) := by decide +kernel
theorem dL_law_1004 : decode M_L_law.2.2.1 1004 = .ok (.iload_n 3, 1) := by decide +kernel
theorem dL_law_1005 : decode M_L_law.2.2.1 1005 = .ok (.iconst 2, 1) := by decide +kernel
theorem dL_law_1006 : decode M_L_law.2.2.1 1006 = .ok (.iadd, 1) := by decide +kernel
theorem dL_law_1007 : decode M_L_law.2.2.1 1007 = .ok (.iaload, 1) := by decide +kernel
theorem dL_law_1008 : decode M_L_law.2.2.1 1008 = .ok (.aload_n 0, 1) := by decide +kernel
theorem dL_law_1009 : decode M_L_law.2.2.1 1009 = .ok (.iload_n 3, 1) := by decide +kernel
theorem dL_law_1010 : decode M_L_law.2.2.1 1010 = .ok (.iconst 3, 1) := by decide +kernel
theorem dL_law_1011 : decode M_L_law.2.2.1 1011 = .ok (.iadd, 1) := by decide +kernel
theorem dL_law_1012 : decode M_L_law.2.2.1 1012 = .ok (.iaload, 1) := by decide +kernel
theorem dL_law_1013 : decode M_L_law.2.2.1 1013 = .ok (.aload_n 0, 1) := by decide +kernel
theorem dL_law_1014 : decode M_L_law.2.2.1 1014 = .ok (.iload_n 3, 1) := by decide +kernel
theorem dL_law_1015 : decode M_L_law.2.2.1 1015 = .ok (.iconst 4, 1) := by decide +kernel
theorem dL_law_1016 : decode M_L_law.2.2.1 1016 = .ok (.iadd, 1) := by decide +kernel
theorem dL_law_1017 : decode M_L_law.2.2.1 1017 = .ok (.iaload, 1) := by decide +kernel
theorem dL_law_1018 : decode M_L_law.2.2.1 1018 = .ok (.invokevirtual 106, 3) := by decide +kernel
theorem dL_law_1021 : decode M_L_law.2.2.1 1021 = .ok (.if_icmp .eq 765, 3) := by decide +kernel
theorem dL_law_1024 : decode M_L_law.2.2.1 1024 = .ok (.iconst 0, 1) := by decide +kernel
theorem dL_law_1025 : decode M_L_law.2.2.1 1025 = .ok (.ireturn, 1) := by decide +kernel
theorem dL_law_1026 : decode M_L_law.2.2.1 1026 = .ok (.aload_n 1, 1) := by decide +kernel
theorem dL_law_1027 : decode M_L_law.2.2.1 1027 = .ok (.aload_n 0, 1) := by decide +kernel
theorem dL_law_1028 : decode M_L_law.2.2.1 1028 = .ok (.iload_n 3, 1) := by decide +kernel
theorem dL_law_1029 : decode M_L_law.2.2.1 1029 = .ok (.iconst 1, 1) := by decide +kernel
theorem dL_law_1030 : decode M_L_law.2.2.1 1030 = .ok (.iadd, 1) := by decide +kernel
theorem dL_law_1031 : decode M_L_law.2.2.1 1031 = .ok (.iaload, 1) := by decide +kernel
theorem dL_law_1032 : decode M_L_law.2.2.1 1032 = .ok (.aload_n 0, 1) := by decide +kernel
theorem dL_law_1033 : decode M_L_law.2.2.1 1033 = .ok (.iload_n 3, 1) := by decide +kernel
theorem dL_law_1034 : decode M_L_law.2.2.1 1034 = .ok (.iconst 2, 1) := by decide +kernel
theorem dL_law_1035 : decode M_L_law.2.2.1 1035 = .ok (.iadd, 1) := by decide +kernel
theorem dL_law_1036 : decode M_L_law.2.2.1 1036 = .ok (.iaload, 1) := by decide +kernel
theorem dL_law_1037 : decode M_L_law.2.2.1 1037 = .ok (.aload_n 0, 1) := by decide +kernel
theorem dL_law_1038 : decode M_L_law.2.2.1 1038 = .ok (.iload_n 3, 1) := by decide +kernel
theorem dL_law_1039 : decode M_L_law.2.2.1 1039 = .ok (.iconst 3, 1) := by decide +kernel
theorem dL_law_1040 : decode M_L_law.2.2.1 1040 = .ok (.iadd, 1) := by decide +kernel
theorem dL_law_1041 : decode M_L_law.2.2.1 1041 = .ok (.iaload, 1) := by decide +kernel
theorem dL_law_1042 : decode M_L_law.2.2.1 1042 = .ok (.aload_n 0, 1) := by decide +kernel
theorem dL_law_1043 : decode M_L_law.2.2.1 1043 = .ok (.iload_n 3, 1) := by decide +kernel
theorem dL_law_1044 : decode M_L_law.2.2.1 1044 = .ok (.iconst 4, 1) := by decide +kernel
theorem dL_law_1045 : decode M_L_law.2.2.1 1045 = .ok (.iadd, 1) := by decide +kernel
theorem dL_law_1046 : decode M_L_law.2.2.1 1046 = .ok (.iaload, 1) := by decide +kernel
theorem dL_law_1047 : decode M_L_law.2.2.1 1047 = .ok (.invokevirtual 107, 3) := by decide +kernel
theorem dL_law_1050 : decode M_L_law.2.2.1 1050 = .ok (.aload_n 2, 1) := by decide +kernel
theorem dL_law_1051 : decode M_L_law.2.2.1 1051 = .ok (.aload_n 0, 1) := by decide +kernel
theorem dL_law_1052 : decode M_L_law.2.2.1 1052 = .ok (.iload_n 3, 1) := by decide +kernel
theorem dL_law_1053 : decode M_L_law.2.2.1 1053 = .ok (.iconst 1, 1) := by decide +kernel
theorem dL_law_1054 : decode M_L_law.2.2.1 1054 = .ok (.iadd, 1) := by decide +kernel
theorem dL_law_1055 : decode M_L_law.2.2.1 1055 = .ok (.iaload, 1) := by decide +kernel
theorem dL_law_1056 : decode M_L_law.2.2.1 1056 = .ok (.aload_n 0, 1) := by decide +kernel
theorem dL_law_1057 : decode M_L_law.2.2.1 1057 = .ok (.iload_n 3, 1) := by decide +kernel
theorem dL_law_1058 : decode M_L_law.2.2.1 1058 = .ok (.iconst 2, 1) := by decide +kernel
theorem dL_law_1059 : decode M_L_law.2.2.1 1059 = .ok (.iadd, 1) := by decide +kernel
theorem dL_law_1060 : decode M_L_law.2.2.1 1060 = .ok (.iaload, 1) := by decide +kernel
theorem dL_law_1061 : decode M_L_law.2.2.1 1061 = .ok (.aload_n 0, 1) := by decide +kernel
theorem dL_law_1062 : decode M_L_law.2.2.1 1062 = .ok (.iload_n 3, 1) := by decide +kernel
theorem dL_law_1063 : decode M_L_law.2.2.1 1063 = .ok (.iconst 3, 1) := by decide +kernel
theorem dL_law_1064 : decode M_L_law.2.2.1 1064 = .ok (.iadd, 1) := by decide +kernel
theorem dL_law_1065 : decode M_L_law.2.2.1 1065 = .ok (.iaload, 1) := by decide +kernel
theorem dL_law_1066 : decode M_L_law.2.2.1 1066 = .ok (.aload_n 0, 1) := by decide +kernel
theorem dL_law_1067 : decode M_L_law.2.2.1 1067 = .ok (.iload_n 3, 1) := by decide +kernel
theorem dL_law_1068 : decode M_L_law.2.2.1 1068 = .ok (.iconst 4, 1) := by decide +kernel
theorem dL_law_1069 : decode M_L_law.2.2.1 1069 = .ok (.iadd, 1) := by decide +kernel
theorem dL_law_1070 : decode M_L_law.2.2.1 1070 = .ok (.iaload, 1) := by decide +kernel
theorem dL_law_1071 : decode M_L_law.2.2.1 1071 = .ok (.invokevirtual 110, 3) := by decide +kernel
theorem dL_law_1074 : decode M_L_law.2.2.1 1074 = .ok (.if_icmp .eq 712, 3) := by decide +kernel
theorem dL_law_1077 : decode M_L_law.2.2.1 1077 = .ok (.iconst 0, 1) := by decide +kernel
theorem dL_law_1078 : decode M_L_law.2.2.1 1078 = .ok (.ireturn, 1) := by decide +kernel
theorem dL_law_1079 : decode M_L_law.2.2.1 1079 = .ok (.aload_n 1, 1) := by decide +kernel
theorem dL_law_1080 : decode M_L_law.2.2.1 1080 = .ok (.aload_n 0, 1) := by decide +kernel
theorem dL_law_1081 : decode M_L_law.2.2.1 1081 = .ok (.iload_n 3, 1) := by decide +kernel
theorem dL_law_1082 : decode M_L_law.2.2.1 1082 = .ok (.iconst 1, 1) := by decide +kernel
theorem dL_law_1083 : decode M_L_law.2.2.1 1083 = .ok (.iadd, 1) := by decide +kernel
theorem dL_law_1084 : decode M_L_law.2.2.1 1084 = .ok (.iaload, 1) := by decide +kernel
theorem dL_law_1085 : decode M_L_law.2.2.1 1085 = .ok (.aload_n 0, 1) := by decide +kernel
theorem dL_law_1086 : decode M_L_law.2.2.1 1086 = .ok (.iload_n 3, 1) := by decide +kernel
theorem dL_law_1087 : decode M_L_law.2.2.1 1087 = .ok (.iconst 2, 1) := by decide +kernel
theorem dL_law_1088 : decode M_L_law.2.2.1 1088 = .ok (.iadd, 1) := by decide +kernel
theorem dL_law_1089 : decode M_L_law.2.2.1 1089 = .ok (.iaload, 1) := by decide +kernel
theorem dL_law_1090 : decode M_L_law.2.2.1 1090 = .ok (.aload_n 0, 1) := by decide +kernel
theorem dL_law_1091 : decode M_L_law.2.2.1 1091 = .ok (.iload_n 3, 1) := by decide +kernel
theorem dL_law_1092 : decode M_L_law.2.2.1 1092 = .ok (.iconst 3, 1) := by decide +kernel
theorem dL_law_1093 : decode M_L_law.2.2.1 1093 = .ok (.iadd, 1) := by decide +kernel
theorem dL_law_1094 : decode M_L_law.2.2.1 1094 = .ok (.iaload, 1) := by decide +kernel
theorem dL_law_1095 : decode M_L_law.2.2.1 1095 = .ok (.aload_n 0, 1) := by decide +kernel
theorem dL_law_1096 : decode M_L_law.2.2.1 1096 = .ok (.iload_n 3, 1) := by decide +kernel
theorem dL_law_1097 : decode M_L_law.2.2.1 1097 = .ok (.iconst 4, 1) := by decide +kernel
theorem dL_law_1098 : decode M_L_law.2.2.1 1098 = .ok (.iadd, 1) := by decide +kernel
theorem dL_law_1099 : decode M_L_law.2.2.1 1099 = .ok (.iaload, 1) := by decide +kernel
theorem dL_law_1100 : decode M_L_law.2.2.1 1100 = .ok (.invokevirtual 111, 3) := by decide +kernel
theorem dL_law_1103 : decode M_L_law.2.2.1 1103 = .ok (.aload_n 2, 1) := by decide +kernel
theorem dL_law_1104 : decode M_L_law.2.2.1 1104 = .ok (.aload_n 0, 1) := by decide +kernel
theorem dL_law_1105 : decode M_L_law.2.2.1 1105 = .ok (.iload_n 3, 1) := by decide +kernel
theorem dL_law_1106 : decode M_L_law.2.2.1 1106 = .ok (.iconst 1, 1) := by decide +kernel
theorem dL_law_1107 : decode M_L_law.2.2.1 1107 = .ok (.iadd, 1) := by decide +kernel
theorem dL_law_1108 : decode M_L_law.2.2.1 1108 = .ok (.iaload, 1) := by decide +kernel
theorem dL_law_1109 : decode M_L_law.2.2.1 1109 = .ok (.aload_n 0, 1) := by decide +kernel
theorem dL_law_1110 : decode M_L_law.2.2.1 1110 = .ok (.iload_n 3, 1) := by decide +kernel
theorem dL_law_1111 : decode M_L_law.2.2.1 1111 = .ok (.iconst 2, 1) := by decide +kernel
theorem dL_law_1112 : decode M_L_law.2.2.1 1112 = .ok (.iadd, 1) := by decide +kernel
theorem dL_law_1113 : decode M_L_law.2.2.1 1113 = .ok (.iaload, 1) := by decide +kernel
theorem dL_law_1114 : decode M_L_law.2.2.1 1114 = .ok (.aload_n 0, 1) := by decide +kernel
theorem dL_law_1115 : decode M_L_law.2.2.1 1115 = .ok (.iload_n 3, 1) := by decide +kernel
theorem dL_law_1116 : decode M_L_law.2.2.1 1116 = .ok (.iconst 3, 1) := by decide +kernel
theorem dL_law_1117 : decode M_L_law.2.2.1 1117 = .ok (.iadd, 1) := by decide +kernel
theorem dL_law_1118 : decode M_L_law.2.2.1 1118 = .ok (.iaload, 1) := by decide +kernel
theorem dL_law_1119 : decode M_L_law.2.2.1 1119 = .ok (.aload_n 0, 1) := by decide +kernel
theorem dL_law_1120 : decode M_L_law.2.2.1 1120 = .ok (.iload_n 3, 1) := by decide +kernel
theorem dL_law_1121 : decode M_L_law.2.2.1 1121 = .ok (.iconst 4, 1) := by decide +kernel
theorem dL_law_1122 : decode M_L_law.2.2.1 1122 = .ok (.iadd, 1) := by decide +kernel
theorem dL_law_1123 : decode M_L_law.2.2.1 1123 = .ok (.iaload, 1) := by decide +kernel
theorem dL_law_1124 : decode M_L_law.2.2.1 1124 = .ok (.invokevirtual 114, 3) := by decide +kernel
theorem dL_law_1127 : decode M_L_law.2.2.1 1127 = .ok (.if_icmp .eq 659, 3) := by decide +kernel
theorem dL_law_1130 : decode M_L_law.2.2.1 1130 = .ok (.iconst 0, 1) := by decide +kernel
theorem dL_law_1131 : decode M_L_law.2.2.1 1131 = .ok (.ireturn, 1) := by decide +kernel
theorem dL_law_1132 : decode M_L_law.2.2.1 1132 = .ok (.aload_n 1, 1) := by decide +kernel
theorem dL_law_1133 : decode M_L_law.2.2.1 1133 = .ok (.aload_n 0, 1) := by decide +kernel
theorem dL_law_1134 : decode M_L_law.2.2.1 1134 = .ok (.iload_n 3, 1) := by decide +kernel
theorem dL_law_1135 : decode M_L_law.2.2.1 1135 = .ok (.iconst 1, 1) := by decide +kernel
theorem dL_law_1136 : decode M_L_law.2.2.1 1136 = .ok (.iadd, 1) := by decide +kernel
theorem dL_law_1137 : decode M_L_law.2.2.1 1137 = .ok (.iaload, 1) := by decide +kernel
theorem dL_law_1138 : decode M_L_law.2.2.1 1138 = .ok (.aload_n 0, 1) := by decide +kernel
theorem dL_law_1139 : decode M_L_law.2.2.1 1139 = .ok (.iload_n 3, 1) := by decide +kernel
theorem dL_law_1140 : decode M_L_law.2.2.1 1140 = .ok (.iconst 2, 1) := by decide +kernel
theorem dL_law_1141 : decode M_L_law.2.2.1 1141 = .ok (.iadd, 1) := by decide +kernel
theorem dL_law_1142 : decode M_L_law.2.2.1 1142 = .ok (.iaload, 1) := by decide +kernel
theorem dL_law_1143 : decode M_L_law.2.2.1 1143 = .ok (.aload_n 0, 1) := by decide +kernel
theorem dL_law_1144 : decode M_L_law.2.2.1 1144 = .ok (.iload_n 3, 1) := by decide +kernel
theorem dL_law_1145 : decode M_L_law.2.2.1 1145 = .ok (.iconst 3, 1) := by decide +kernel
theorem dL_law_1146 : decode M_L_law.2.2.1 1146 = .ok (.iadd, 1) := by decide +kernel
theorem dL_law_1147 : decode M_L_law.2.2.1 1147 = .ok (.iaload, 1) := by decide +kernel
theorem dL_law_1148 : decode M_L_law.2.2.1 1148 = .ok (.invokevirtual 115, 3) := by decide +kernel
theorem dL_law_1151 : decode M_L_law.2.2.1 1151 = .ok (.aload_n 2, 1) := by decide +kernel
theorem dL_law_1152 : decode M_L_law.2.2.1 1152 = .ok (.aload_n 0, 1) := by decide +kernel
theorem dL_law_1153 : decode M_L_law.2.2.1 1153 = .ok (.iload_n 3, 1) := by decide +kernel
theorem dL_law_1154 : decode M_L_law.2.2.1 1154 = .ok (.iconst 1, 1) := by decide +kernel
theorem dL_law_1155 : decode M_L_law.2.2.1 1155 = .ok (.iadd, 1) := by decide +kernel
theorem dL_law_1156 : decode M_L_law.2.2.1 1156 = .ok (.iaload, 1) := by decide +kernel
theorem dL_law_1157 : decode M_L_law.2.2.1 1157 = .ok (.aload_n 0, 1) := by decide +kernel
theorem dL_law_1158 : decode M_L_law.2.2.1 1158 = .ok (.iload_n 3, 1) := by decide +kernel
theorem dL_law_1159 : decode M_L_law.2.2.1 1159 = .ok (.iconst 2, 1) := by decide +kernel
theorem dL_law_1160 : decode M_L_law.2.2.1 1160 = .ok (.iadd, 1) := by decide +kernel
theorem dL_law_1161 : decode M_L_law.2.2.1 1161 = .ok (.iaload, 1) := by decide +kernel
theorem dL_law_1162 : decode M_L_law.2.2.1 1162 = .ok (.aload_n 0, 1) := by decide +kernel
theorem dL_law_1163 : decode M_L_law.2.2.1 1163 = .ok (.iload_n 3, 1) := by decide +kernel
theorem dL_law_1164 : decode M_L_law.2.2.1 1164 = .ok (.iconst 3, 1) := by decide +kernel
theorem dL_law_1165 : decode M_L_law.2.2.1 1165 = .ok (.iadd, 1) := by decide +kernel
theorem dL_law_1166 : decode M_L_law.2.2.1 1166 = .ok (.iaload, 1) := by decide +kernel
theorem dL_law_1167 : decode M_L_law.2.2.1 1167 = .ok (.invokevirtual 119, 3) := by decide +kernel
theorem dL_law_1170 : decode M_L_law.2.2.1 1170 = .ok (.if_icmp .eq 616, 3) := by decide +kernel
theorem dL_law_1173 : decode M_L_law.2.2.1 1173 = .ok (.iconst 0, 1) := by decide +kernel
theorem dL_law_1174 : decode M_L_law.2.2.1 1174 = .ok (.ireturn, 1) := by decide +kernel
theorem dL_law_1175 : decode M_L_law.2.2.1 1175 = .ok (.aload_n 1, 1) := by decide +kernel
theorem dL_law_1176 : decode M_L_law.2.2.1 1176 = .ok (.aload_n 0, 1) := by decide +kernel
theorem dL_law_1177 : decode M_L_law.2.2.1 1177 = .ok (.iload_n 3, 1) := by decide +kernel
theorem dL_law_1178 : decode M_L_law.2.2.1 1178 = .ok (.iconst 1, 1) := by decide +kernel
theorem dL_law_1179 : decode M_L_law.2.2.1 1179 = .ok (.iadd, 1) := by decide +kernel
theorem dL_law_1180 : decode M_L_law.2.2.1 1180 = .ok (.iaload, 1) := by decide +kernel
theorem dL_law_1181 : decode M_L_law.2.2.1 1181 = .ok (.aload_n 0, 1) := by decide +kernel
theorem dL_law_1182 : decode M_L_law.2.2.1 1182 = .ok (.iload_n 3, 1) := by decide +kernel
theorem dL_law_1183 : decode M_L_law.2.2.1 1183 = .ok (.iconst 2, 1) := by decide +kernel
theorem dL_law_1184 : decode M_L_law.2.2.1 1184 = .ok (.iadd, 1) := by decide +kernel
theorem dL_law_1185 : decode M_L_law.2.2.1 1185 = .ok (.iaload, 1) := by decide +kernel
theorem dL_law_1186 : decode M_L_law.2.2.1 1186 = .ok (.aload_n 0, 1) := by decide +kernel
theorem dL_law_1187 : decode M_L_law.2.2.1 1187 = .ok (.iload_n 3, 1) := by decide +kernel
theorem dL_law_1188 : decode M_L_law.2.2.1 1188 = .ok (.iconst 3, 1) := by decide +kernel
theorem dL_law_1189 : decode M_L_law.2.2.1 1189 = .ok (.iadd, 1) := by decide +kernel
theorem dL_law_1190 : decode M_L_law.2.2.1 1190 = .ok (.iaload, 1) := by decide +kernel
theorem dL_law_1191 : decode M_L_law.2.2.1 1191 = .ok (.invokevirtual 120, 3) := by decide +kernel
theorem dL_law_1194 : decode M_L_law.2.2.1 1194 = .ok (.aload_n 2, 1) := by decide +kernel
theorem dL_law_1195 : decode M_L_law.2.2.1 1195 = .ok (.aload_n 0, 1) := by decide +kernel
theorem dL_law_1196 : decode M_L_law.2.2.1 1196 = .ok (.iload_n 3, 1) := by decide +kernel
theorem dL_law_1197 : decode M_L_law.2.2.1 1197 = .ok (.iconst 1, 1) := by decide +kernel
theorem dL_law_1198 : decode M_L_law.2.2.1 1198 = .ok (.iadd, 1) := by decide +kernel
theorem dL_law_1199 : decode M_L_law.2.2.1 1199 = .ok (.iaload, 1) := by decide +kernel
theorem dL_law_1200 : decode M_L_law.2.2.1 1200 = .ok (.aload_n 0, 1) := by decide +kernel
theorem dL_law_1201 : decode M_L_law.2.2.1 1201 = .ok (.iload_n 3, 1) := by decide +kernel
theorem dL_law_1202 : decode M_L_law.2.2.1 1202 = .ok (.iconst 2, 1) := by decide +kernel
theorem dL_law_1203 : decode M_L_law.2.2.1 1203 = .ok (.iadd, 1) := by decide +kernel
theorem dL_law_1204 : decode M_L_law.2.2.1 1204 = .ok (.iaload, 1) := by decide +kernel
theorem dL_law_1205 : decode M_L_law.2.2.1 1205 = .ok (.aload_n 0, 1) := by decide +kernel
theorem dL_law_1206 : decode M_L_law.2.2.1 1206 = .ok (.iload_n 3, 1) := by decide +kernel
theorem dL_law_1207 : decode M_L_law.2.2.1 1207 = .ok (.iconst 3, 1) := by decide +kernel
theorem dL_law_1208 : decode M_L_law.2.2.1 1208 = .ok (.iadd, 1) := by decide +kernel
theorem dL_law_1209 : decode M_L_law.2.2.1 1209 = .ok (.iaload, 1) := by decide +kernel
theorem dL_law_1210 : decode M_L_law.2.2.1 1210 = .ok (.invokevirtual 123, 3) := by decide +kernel
theorem dL_law_1213 : decode M_L_law.2.2.1 1213 = .ok (.if_icmp .eq 573, 3) := by decide +kernel
theorem dL_law_1216 : decode M_L_law.2.2.1 1216 = .ok (.iconst 0, 1) := by decide +kernel
theorem dL_law_1217 : decode M_L_law.2.2.1 1217 = .ok (.ireturn, 1) := by decide +kernel
theorem dL_law_1218 : decode M_L_law.2.2.1 1218 = .ok (.aload_n 1, 1) := by decide +kernel
theorem dL_law_1219 : decode M_L_law.2.2.1 1219 = .ok (.aload_n 0, 1) := by decide +kernel
theorem dL_law_1220 : decode M_L_law.2.2.1 1220 = .ok (.iload_n 3, 1) := by decide +kernel
theorem dL_law_1221 : decode M_L_law.2.2.1 1221 = .ok (.iconst 1, 1) := by decide +kernel
theorem dL_law_1222 : decode M_L_law.2.2.1 1222 = .ok (.iadd, 1) := by decide +kernel
theorem dL_law_1223 : decode M_L_law.2.2.1 1223 = .ok (.iaload, 1) := by decide +kernel
theorem dL_law_1224 : decode M_L_law.2.2.1 1224 = .ok (.invokevirtual 124, 3) := by decide +kernel
theorem dL_law_1227 : decode M_L_law.2.2.1 1227 = .ok (.aload_n 2, 1) := by decide +kernel
theorem dL_law_1228 : decode M_L_law.2.2.1 1228 = .ok (.aload_n 0, 1) := by decide +kernel
theorem dL_law_1229 : decode M_L_law.2.2.1 1229 = .ok (.iload_n 3, 1) := by decide +kernel
theorem dL_law_1230 : decode M_L_law.2.2.1 1230 = .ok (.iconst 1, 1) := by decide +kernel
theorem dL_law_1231 : decode M_L_law.2.2.1 1231 = .ok (.iadd, 1) := by decide +kernel
theorem dL_law_1232 : decode M_L_law.2.2.1 1232 = .ok (.iaload, 1) := by decide +kernel
theorem dL_law_1233 : decode M_L_law.2.2.1 1233 = .ok (.invokevirtual 127, 3) := by decide +kernel
theorem dL_law_1236 : decode M_L_law.2.2.1 1236 = .ok (.if_icmp .eq 550, 3) := by decide +kernel
theorem dL_law_1239 : decode M_L_law.2.2.1 1239 = .ok (.iconst 0, 1) := by decide +kernel
theorem dL_law_1240 : decode M_L_law.2.2.1 1240 = .ok (.ireturn, 1) := by decide +kernel
theorem dL_law_1241 : decode M_L_law.2.2.1 1241 = .ok (.aload_n 1, 1) := by decide +kernel
theorem dL_law_1242 : decode M_L_law.2.2.1 1242 = .ok (.aload_n 0, 1) := by decide +kernel
theorem dL_law_1243 : decode M_L_law.2.2.1 1243 = .ok (.iload_n 3, 1) := by decide +kernel
theorem dL_law_1244 : decode M_L_law.2.2.1 1244 = .ok (.iconst 1, 1) := by decide +kernel
theorem dL_law_1245 : decode M_L_law.2.2.1 1245 = .ok (.iadd, 1) := by decide +kernel
theorem dL_law_1246 : decode M_L_law.2.2.1 1246 = .ok (.iaload, 1) := by decide +kernel
theorem dL_law_1247 : decode M_L_law.2.2.1 1247 = .ok (.aload_n 0, 1) := by decide +kernel
theorem dL_law_1248 : decode M_L_law.2.2.1 1248 = .ok (.iload_n 3, 1) := by decide +kernel
theorem dL_law_1249 : decode M_L_law.2.2.1 1249 = .ok (.iconst 2, 1) := by decide +kernel
theorem dL_law_1250 : decode M_L_law.2.2.1 1250 = .ok (.iadd, 1) := by decide +kernel
theorem dL_law_1251 : decode M_L_law.2.2.1 1251 = .ok (.iaload, 1) := by decide +kernel
theorem dL_law_1252 : decode M_L_law.2.2.1 1252 = .ok (.aload_n 0, 1) := by decide +kernel
theorem dL_law_1253 : decode M_L_law.2.2.1 1253 = .ok (.iload_n 3, 1) := by decide +kernel
theorem dL_law_1254 : decode M_L_law.2.2.1 1254 = .ok (.iconst 3, 1) := by decide +kernel
theorem dL_law_1255 : decode M_L_law.2.2.1 1255 = .ok (.iadd, 1) := by decide +kernel
theorem dL_law_1256 : decode M_L_law.2.2.1 1256 = .ok (.iaload, 1) := by decide +kernel
theorem dL_law_1257 : decode M_L_law.2.2.1 1257 = .ok (.invokevirtual 128, 3) := by decide +kernel
theorem dL_law_1260 : decode M_L_law.2.2.1 1260 = .ok (.aload_n 2, 1) := by decide +kernel
theorem dL_law_1261 : decode M_L_law.2.2.1 1261 = .ok (.aload_n 0, 1) := by decide +kernel
theorem dL_law_1262 : decode M_L_law.2.2.1 1262 = .ok (.iload_n 3, 1) := by decide +kernel
theorem dL_law_1263 : decode M_L_law.2.2.1 1263 = .ok (.iconst 1, 1) := by decide +kernel
theorem dL_law_1264 : decode M_L_law.2.2.1 1264 = .ok (.iadd, 1) := by decide +kernel
theorem dL_law_1265 : decode M_L_law.2.2.1 1265 = .ok (.iaload, 1) := by decide +kernel
theorem dL_law_1266 : decode M_L_law.2.2.1 1266 = .ok (.aload_n 0, 1) := by decide +kernel
theorem dL_law_1267 : decode M_L_law.2.2.1 1267 = .ok (.iload_n 3, 1) := by decide +kernel
theorem dL_law_1268 : decode M_L_law.2.2.1 1268 = .ok (.iconst 2, 1) := by decide +kernel
theorem dL_law_1269 : decode M_L_law.2.2.1 1269 = .ok (.iadd, 1) := by decide +kernel
theorem dL_law_1270 : decode M_L_law.2.2.1 1270 = .ok (.iaload, 1) := by decide +kernel
theorem dL_law_1271 : decode M_L_law.2.2.1 1271 = .ok (.aload_n 0, 1) := by decide +kernel
theorem dL_law_1272 : decode M_L_law.2.2.1 1272 = .ok (.iload_n 3, 1) := by decide +kernel
theorem dL_law_1273 : decode M_L_law.2.2.1 1273 = .ok (.iconst 3, 1) := by decide +kernel
theorem dL_law_1274 : decode M_L_law.2.2.1 1274 = .ok (.iadd, 1) := by decide +kernel
theorem dL_law_1275 : decode M_L_law.2.2.1 1275 = .ok (.iaload, 1) := by decide +kernel
theorem dL_law_1276 : decode M_L_law.2.2.1 1276 = .ok (.invokevirtual 131, 3) := by decide +kernel
theorem dL_law_1279 : decode M_L_law.2.2.1 1279 = .ok (.if_icmp .eq 507, 3) := by decide +kernel
theorem dL_law_1282 : decode M_L_law.2.2.1 1282 = .ok (.iconst 0, 1) := by decide +kernel
theorem dL_law_1283 : decode M_L_law.2.2.1 1283 = .ok (.ireturn, 1) := by decide +kernel
theorem dL_law_1284 : decode M_L_law.2.2.1 1284 = .ok (.aload_n 1, 1) := by decide +kernel
theorem dL_law_1285 : decode M_L_law.2.2.1 1285 = .ok (.aload_n 0, 1) := by decide +kernel
theorem dL_law_1286 : decode M_L_law.2.2.1 1286 = .ok (.iload_n 3, 1) := by decide +kernel
theorem dL_law_1287 : decode M_L_law.2.2.1 1287 = .ok (.iconst 1, 1) := by decide +kernel
theorem dL_law_1288 : decode M_L_law.2.2.1 1288 = .ok (.iadd, 1) := by decide +kernel
theorem dL_law_1289 : decode M_L_law.2.2.1 1289 = .ok (.iaload, 1) := by decide +kernel
theorem dL_law_1290 : decode M_L_law.2.2.1 1290 = .ok (.invokevirtual 132, 3) := by decide +kernel
theorem dL_law_1293 : decode M_L_law.2.2.1 1293 = .ok (.aload_n 2, 1) := by decide +kernel
theorem dL_law_1294 : decode M_L_law.2.2.1 1294 = .ok (.aload_n 0, 1) := by decide +kernel
theorem dL_law_1295 : decode M_L_law.2.2.1 1295 = .ok (.iload_n 3, 1) := by decide +kernel
theorem dL_law_1296 : decode M_L_law.2.2.1 1296 = .ok (.iconst 1, 1) := by decide +kernel
theorem dL_law_1297 : decode M_L_law.2.2.1 1297 = .ok (.iadd, 1) := by decide +kernel
theorem dL_law_1298 : decode M_L_law.2.2.1 1298 = .ok (.iaload, 1) := by decide +kernel
theorem dL_law_1299 : decode M_L_law.2.2.1 1299 = .ok (.invokevirtual 135, 3) := by decide +kernel
theorem dL_law_1302 : decode M_L_law.2.2.1 1302 = .ok (.if_icmp .eq 484, 3) := by decide +kernel
theorem dL_law_1305 : decode M_L_law.2.2.1 1305 = .ok (.iconst 0, 1) := by decide +kernel
theorem dL_law_1306 : decode M_L_law.2.2.1 1306 = .ok (.ireturn, 1) := by decide +kernel
theorem dL_law_1307 : decode M_L_law.2.2.1 1307 = .ok (.aload_n 1, 1) := by decide +kernel
theorem dL_law_1308 : decode M_L_law.2.2.1 1308 = .ok (.aload_n 0, 1) := by decide +kernel
theorem dL_law_1309 : decode M_L_law.2.2.1 1309 = .ok (.iload_n 3, 1) := by decide +kernel
theorem dL_law_1310 : decode M_L_law.2.2.1 1310 = .ok (.iconst 1, 1) := by decide +kernel
theorem dL_law_1311 : decode M_L_law.2.2.1 1311 = .ok (.iadd, 1) := by decide +kernel
theorem dL_law_1312 : decode M_L_law.2.2.1 1312 = .ok (.iaload, 1) := by decide +kernel
theorem dL_law_1313 : decode M_L_law.2.2.1 1313 = .ok (.aload_n 0, 1) := by decide +kernel
theorem dL_law_1314 : decode M_L_law.2.2.1 1314 = .ok (.iload_n 3, 1) := by decide +kernel
theorem dL_law_1315 : decode M_L_law.2.2.1 1315 = .ok (.iconst 2, 1) := by decide +kernel
theorem dL_law_1316 : decode M_L_law.2.2.1 1316 = .ok (.iadd, 1) := by decide +kernel
theorem dL_law_1317 : decode M_L_law.2.2.1 1317 = .ok (.iaload, 1) := by decide +kernel
theorem dL_law_1318 : decode M_L_law.2.2.1 1318 = .ok (.invokevirtual 136, 3) := by decide +kernel
theorem dL_law_1321 : decode M_L_law.2.2.1 1321 = .ok (.aload_n 2, 1) := by decide +kernel
theorem dL_law_1322 : decode M_L_law.2.2.1 1322 = .ok (.aload_n 0, 1) := by decide +kernel
theorem dL_law_1323 : decode M_L_law.2.2.1 1323 = .ok (.iload_n 3, 1) := by decide +kernel
theorem dL_law_1324 : decode M_L_law.2.2.1 1324 = .ok (.iconst 1, 1) := by decide +kernel
theorem dL_law_1325 : decode M_L_law.2.2.1 1325 = .ok (.iadd, 1) := by decide +kernel
theorem dL_law_1326 : decode M_L_law.2.2.1 1326 = .ok (.iaload, 1) := by decide +kernel
theorem dL_law_1327 : decode M_L_law.2.2.1 1327 = .ok (.aload_n 0, 1) := by decide +kernel
theorem dL_law_1328 : decode M_L_law.2.2.1 1328 = .ok (.iload_n 3, 1) := by decide +kernel
theorem dL_law_1329 : decode M_L_law.2.2.1 1329 = .ok (.iconst 2, 1) := by decide +kernel
theorem dL_law_1330 : decode M_L_law.2.2.1 1330 = .ok (.iadd, 1) := by decide +kernel
theorem dL_law_1331 : decode M_L_law.2.2.1 1331 = .ok (.iaload, 1) := by decide +kernel
theorem dL_law_1332 : decode M_L_law.2.2.1 1332 = .ok (.invokevirtual 139, 3) := by decide +kernel
theorem dL_law_1335 : decode M_L_law.2.2.1 1335 = .ok (.if_icmp .eq 451, 3) := by decide +kernel
theorem dL_law_1338 : decode M_L_law.2.2.1 1338 = .ok (.iconst 0, 1) := by decide +kernel
theorem dL_law_1339 : decode M_L_law.2.2.1 1339 = .ok (.ireturn, 1) := by decide +kernel
theorem dL_law_1340 : decode M_L_law.2.2.1 1340 = .ok (.aload_n 1, 1) := by decide +kernel
theorem dL_law_1341 : decode M_L_law.2.2.1 1341 = .ok (.aload_n 0, 1) := by decide +kernel
theorem dL_law_1342 : decode M_L_law.2.2.1 1342 = .ok (.iload_n 3, 1) := by decide +kernel
theorem dL_law_1343 : decode M_L_law.2.2.1 1343 = .ok (.iconst 1, 1) := by decide +kernel
theorem dL_law_1344 : decode M_L_law.2.2.1 1344 = .ok (.iadd, 1) := by decide +kernel
theorem dL_law_1345 : decode M_L_law.2.2.1 1345 = .ok (.iaload, 1) := by decide +kernel
theorem dL_law_1346 : decode M_L_law.2.2.1 1346 = .ok (.aload_n 0, 1) := by decide +kernel
theorem dL_law_1347 : decode M_L_law.2.2.1 1347 = .ok (.iload_n 3, 1) := by decide +kernel
theorem dL_law_1348 : decode M_L_law.2.2.1 1348 = .ok (.iconst 2, 1) := by decide +kernel
theorem dL_law_1349 : decode M_L_law.2.2.1 1349 = .ok (.iadd, 1) := by decide +kernel
theorem dL_law_1350 : decode M_L_law.2.2.1 1350 = .ok (.iaload, 1) := by decide +kernel
theorem dL_law_1351 : decode M_L_law.2.2.1 1351 = .ok (.aload_n 0, 1) := by decide +kernel
theorem dL_law_1352 : decode M_L_law.2.2.1 1352 = .ok (.iload_n 3, 1) := by decide +kernel
theorem dL_law_1353 : decode M_L_law.2.2.1 1353 = .ok (.iconst 3, 1) := by decide +kernel
theorem dL_law_1354 : decode M_L_law.2.2.1 1354 = .ok (.iadd, 1) := by decide +kernel
theorem dL_law_1355 : decode M_L_law.2.2.1 1355 = .ok (.iaload, 1) := by decide +kernel
theorem dL_law_1356 : decode M_L_law.2.2.1 1356 = .ok (.aload_n 0, 1) := by decide +kernel
theorem dL_law_1357 : decode M_L_law.2.2.1 1357 = .ok (.iload_n 3, 1) := by decide +kernel
theorem dL_law_1358 : decode M_L_law.2.2.1 1358 = .ok (.iconst 4, 1) := by decide +kernel
theorem dL_law_1359 : decode M_L_law.2.2.1 1359 = .ok (.iadd, 1) := by decide +kernel
theorem dL_law_1360 : decode M_L_law.2.2.1 1360 = .ok (.iaload, 1) := by decide +kernel
theorem dL_law_1361 : decode M_L_law.2.2.1 1361 = .ok (.invokevirtual 140, 3) := by decide +kernel
theorem dL_law_1364 : decode M_L_law.2.2.1 1364 = .ok (.aload_n 2, 1) := by decide +kernel
theorem dL_law_1365 : decode M_L_law.2.2.1 1365 = .ok (.aload_n 0, 1) := by decide +kernel
theorem dL_law_1366 : decode M_L_law.2.2.1 1366 = .ok (.iload_n 3, 1) := by decide +kernel
theorem dL_law_1367 : decode M_L_law.2.2.1 1367 = .ok (.iconst 1, 1) := by decide +kernel
theorem dL_law_1368 : decode M_L_law.2.2.1 1368 = .ok (.iadd, 1) := by decide +kernel
theorem dL_law_1369 : decode M_L_law.2.2.1 1369 = .ok (.iaload, 1) := by decide +kernel
theorem dL_law_1370 : decode M_L_law.2.2.1 1370 = .ok (.aload_n 0, 1) := by decide +kernel
theorem dL_law_1371 : decode M_L_law.2.2.1 1371 = .ok (.iload_n 3, 1) := by decide +kernel
theorem dL_law_1372 : decode M_L_law.2.2.1 1372 = .ok (.iconst 2, 1) := by decide +kernel
theorem dL_law_1373 : decode M_L_law.2.2.1 1373 = .ok (.iadd, 1) := by decide +kernel
theorem dL_law_1374 : decode M_L_law.2.2.1 1374 = .ok (.iaload, 1) := by decide +kernel
theorem dL_law_1375 : decode M_L_law.2.2.1 1375 = .ok (.aload_n 0, 1) := by decide +kernel
theorem dL_law_1376 : decode M_L_law.2.2.1 1376 = .ok (.iload_n 3, 1) := by decide +kernel
theorem dL_law_1377 : decode M_L_law.2.2.1 1377 = .ok (.iconst 3, 1) := by decide +kernel
theorem dL_law_1378 : decode M_L_law.2.2.1 1378 = .ok (.iadd, 1) := by decide +kernel
theorem dL_law_1379 : decode M_L_law.2.2.1 1379 = .ok (.iaload, 1) := by decide +kernel
theorem dL_law_1380 : decode M_L_law.2.2.1 1380 = .ok (.aload_n 0, 1) := by decide +kernel
theorem dL_law_1381 : decode M_L_law.2.2.1 1381 = .ok (.iload_n 3, 1) := by decide +kernel
theorem dL_law_1382 : decode M_L_law.2.2.1 1382 = .ok (.iconst 4, 1) := by decide +kernel
theorem dL_law_1383 : decode M_L_law.2.2.1 1383 = .ok (.iadd, 1) := by decide +kernel
theorem dL_law_1384 : decode M_L_law.2.2.1 1384 = .ok (.iaload, 1) := by decide +kernel
theorem dL_law_1385 : decode M_L_law.2.2.1 1385 = .ok (.invokevirtual 143, 3) := by decide +kernel
theorem dL_law_1388 : decode M_L_law.2.2.1 1388 = .ok (.if_icmp .eq 398, 3) := by decide +kernel
theorem dL_law_1391 : decode M_L_law.2.2.1 1391 = .ok (.iconst 0, 1) := by decide +kernel
theorem dL_law_1392 : decode M_L_law.2.2.1 1392 = .ok (.ireturn, 1) := by decide +kernel
theorem dL_law_1393 : decode M_L_law.2.2.1 1393 = .ok (.aload_n 1, 1) := by decide +kernel
theorem dL_law_1394 : decode M_L_law.2.2.1 1394 = .ok (.aload_n 0, 1) := by decide +kernel
theorem dL_law_1395 : decode M_L_law.2.2.1 1395 = .ok (.iload_n 3, 1) := by decide +kernel
theorem dL_law_1396 : decode M_L_law.2.2.1 1396 = .ok (.iconst 1, 1) := by decide +kernel
theorem dL_law_1397 : decode M_L_law.2.2.1 1397 = .ok (.iadd, 1) := by decide +kernel
theorem dL_law_1398 : decode M_L_law.2.2.1 1398 = .ok (.iaload, 1) := by decide +kernel
theorem dL_law_1399 : decode M_L_law.2.2.1 1399 = .ok (.aload_n 0, 1) := by decide +kernel
theorem dL_law_1400 : decode M_L_law.2.2.1 1400 = .ok (.iload_n 3, 1) := by decide +kernel
theorem dL_law_1401 : decode M_L_law.2.2.1 1401 = .ok (.iconst 2, 1) := by decide +kernel
theorem dL_law_1402 : decode M_L_law.2.2.1 1402 = .ok (.iadd, 1) := by decide +kernel
theorem dL_law_1403 : decode M_L_law.2.2.1 1403 = .ok (.iaload, 1) := by decide +kernel
theorem dL_law_1404 : decode M_L_law.2.2.1 1404 = .ok (.aload_n 0, 1) := by decide +kernel
theorem dL_law_1405 : decode M_L_law.2.2.1 1405 = .ok (.iload_n 3, 1) := by decide +kernel
theorem dL_law_1406 : decode M_L_law.2.2.1 1406 = .ok (.iconst 3, 1) := by decide +kernel
theorem dL_law_1407 : decode M_L_law.2.2.1 1407 = .ok (.iadd, 1) := by decide +kernel
theorem dL_law_1408 : decode M_L_law.2.2.1 1408 = .ok (.iaload, 1) := by decide +kernel
theorem dL_law_1409 : decode M_L_law.2.2.1 1409 = .ok (.invokevirtual 144, 3) := by decide +kernel
theorem dL_law_1412 : decode M_L_law.2.2.1 1412 = .ok (.aload_n 2, 1) := by decide +kernel
theorem dL_law_1413 : decode M_L_law.2.2.1 1413 = .ok (.aload_n 0, 1) := by decide +kernel
theorem dL_law_1414 : decode M_L_law.2.2.1 1414 = .ok (.iload_n 3, 1) := by decide +kernel
theorem dL_law_1415 : decode M_L_law.2.2.1 1415 = .ok (.iconst 1, 1) := by decide +kernel
theorem dL_law_1416 : decode M_L_law.2.2.1 1416 = .ok (.iadd, 1) := by decide +kernel
theorem dL_law_1417 : decode M_L_law.2.2.1 1417 = .ok (.iaload, 1) := by decide +kernel
theorem dL_law_1418 : decode M_L_law.2.2.1 1418 = .ok (.aload_n 0, 1) := by decide +kernel
theorem dL_law_1419 : decode M_L_law.2.2.1 1419 = .ok (.iload_n 3, 1) := by decide +kernel
theorem dL_law_1420 : decode M_L_law.2.2.1 1420 = .ok (.iconst 2, 1) := by decide +kernel
theorem dL_law_1421 : decode M_L_law.2.2.1 1421 = .ok (.iadd, 1) := by decide +kernel
theorem dL_law_1422 : decode M_L_law.2.2.1 1422 = .ok (.iaload, 1) := by decide +kernel
theorem dL_law_1423 : decode M_L_law.2.2.1 1423 = .ok (.aload_n 0, 1) := by decide +kernel
theorem dL_law_1424 : decode M_L_law.2.2.1 1424 = .ok (.iload_n 3, 1) := by decide +kernel
theorem dL_law_1425 : decode M_L_law.2.2.1 1425 = .ok (.iconst 3, 1) := by decide +kernel
theorem dL_law_1426 : decode M_L_law.2.2.1 1426 = .ok (.iadd, 1) := by decide +kernel
theorem dL_law_1427 : decode M_L_law.2.2.1 1427 = .ok (.iaload, 1) := by decide +kernel
theorem dL_law_1428 : decode M_L_law.2.2.1 1428 = .ok (.invokevirtual 147, 3) := by decide +kernel
theorem dL_law_1431 : decode M_L_law.2.2.1 1431 = .ok (.if_icmp .eq 355, 3) := by decide +kernel
theorem dL_law_1434 : decode M_L_law.2.2.1 1434 = .ok (.iconst 0, 1) := by decide +kernel
theorem dL_law_1435 : decode M_L_law.2.2.1 1435 = .ok (.ireturn, 1) := by decide +kernel
theorem dL_law_1436 : decode M_L_law.2.2.1 1436 = .ok (.aload_n 1, 1) := by decide +kernel
theorem dL_law_1437 : decode M_L_law.2.2.1 1437 = .ok (.aload_n 0, 1) := by decide +kernel
theorem dL_law_1438 : decode M_L_law.2.2.1 1438 = .ok (.iload_n 3, 1) := by decide +kernel
theorem dL_law_1439 : decode M_L_law.2.2.1 1439 = .ok (.iconst 1, 1) := by decide +kernel
theorem dL_law_1440 : decode M_L_law.2.2.1 1440 = .ok (.iadd, 1) := by decide +kernel
theorem dL_law_1441 : decode M_L_law.2.2.1 1441 = .ok (.iaload, 1) := by decide +kernel
theorem dL_law_1442 : decode M_L_law.2.2.1 1442 = .ok (.invokevirtual 148, 3) := by decide +kernel
theorem dL_law_1445 : decode M_L_law.2.2.1 1445 = .ok (.aload_n 2, 1) := by decide +kernel
theorem dL_law_1446 : decode M_L_law.2.2.1 1446 = .ok (.aload_n 0, 1) := by decide +kernel
theorem dL_law_1447 : decode M_L_law.2.2.1 1447 = .ok (.iload_n 3, 1) := by decide +kernel
theorem dL_law_1448 : decode M_L_law.2.2.1 1448 = .ok (.iconst 1, 1) := by decide +kernel
theorem dL_law_1449 : decode M_L_law.2.2.1 1449 = .ok (.iadd, 1) := by decide +kernel
theorem dL_law_1450 : decode M_L_law.2.2.1 1450 = .ok (.iaload, 1) := by decide +kernel
theorem dL_law_1451 : decode M_L_law.2.2.1 1451 = .ok (.invokevirtual 151, 3) := by decide +kernel
theorem dL_law_1454 : decode M_L_law.2.2.1 1454 = .ok (.if_icmp .eq 332, 3) := by decide +kernel
theorem dL_law_1457 : decode M_L_law.2.2.1 1457 = .ok (.iconst 0, 1) := by decide +kernel
theorem dL_law_1458 : decode M_L_law.2.2.1 1458 = .ok (.ireturn, 1) := by decide +kernel
theorem dL_law_1459 : decode M_L_law.2.2.1 1459 = .ok (.aload_n 1, 1) := by decide +kernel
theorem dL_law_1460 : decode M_L_law.2.2.1 1460 = .ok (.aload_n 0, 1) := by decide +kernel
theorem dL_law_1461 : decode M_L_law.2.2.1 1461 = .ok (.iload_n 3, 1) := by decide +kernel
theorem dL_law_1462 : decode M_L_law.2.2.1 1462 = .ok (.iconst 1, 1) := by decide +kernel
theorem dL_law_1463 : decode M_L_law.2.2.1 1463 = .ok (.iadd, 1) := by decide +kernel
theorem dL_law_1464 : decode M_L_law.2.2.1 1464 = .ok (.iaload, 1) := by decide +kernel
theorem dL_law_1465 : decode M_L_law.2.2.1 1465 = .ok (.invokevirtual 152, 3) := by decide +kernel
theorem dL_law_1468 : decode M_L_law.2.2.1 1468 = .ok (.aload_n 2, 1) := by decide +kernel
theorem dL_law_1469 : decode M_L_law.2.2.1 1469 = .ok (.aload_n 0, 1) := by decide +kernel
theorem dL_law_1470 : decode M_L_law.2.2.1 1470 = .ok (.iload_n 3, 1) := by decide +kernel
theorem dL_law_1471 : decode M_L_law.2.2.1 1471 = .ok (.iconst 1, 1) := by decide +kernel
theorem dL_law_1472 : decode M_L_law.2.2.1 1472 = .ok (.iadd, 1) := by decide +kernel
theorem dL_law_1473 : decode M_L_law.2.2.1 1473 = .ok (.iaload, 1) := by decide +kernel
theorem dL_law_1474 : decode M_L_law.2.2.1 1474 = .ok (.invokevirtual 155, 3) := by decide +kernel
theorem dL_law_1477 : decode M_L_law.2.2.1 1477 = .ok (.if_icmp .eq 309, 3) := by decide +kernel
theorem dL_law_1480 : decode M_L_law.2.2.1 1480 = .ok (.iconst 0, 1) := by decide +kernel
theorem dL_law_1481 : decode M_L_law.2.2.1 1481 = .ok (.ireturn, 1) := by decide +kernel
theorem dL_law_1482 : decode M_L_law.2.2.1 1482 = .ok (.aload_n 1, 1) := by decide +kernel
theorem dL_law_1483 : decode M_L_law.2.2.1 1483 = .ok (.aload_n 0, 1) := by decide +kernel
theorem dL_law_1484 : decode M_L_law.2.2.1 1484 = .ok (.iload_n 3, 1) := by decide +kernel
theorem dL_law_1485 : decode M_L_law.2.2.1 1485 = .ok (.iconst 1, 1) := by decide +kernel
theorem dL_law_1486 : decode M_L_law.2.2.1 1486 = .ok (.iadd, 1) := by decide +kernel
theorem dL_law_1487 : decode M_L_law.2.2.1 1487 = .ok (.iaload, 1) := by decide +kernel
theorem dL_law_1488 : decode M_L_law.2.2.1 1488 = .ok (.invokevirtual 156, 3) := by decide +kernel
theorem dL_law_1491 : decode M_L_law.2.2.1 1491 = .ok (.aload_n 2, 1) := by decide +kernel
theorem dL_law_1492 : decode M_L_law.2.2.1 1492 = .ok (.aload_n 0, 1) := by decide +kernel
theorem dL_law_1493 : decode M_L_law.2.2.1 1493 = .ok (.iload_n 3, 1) := by decide +kernel
theorem dL_law_1494 : decode M_L_law.2.2.1 1494 = .ok (.iconst 1, 1) := by decide +kernel
theorem dL_law_1495 : decode M_L_law.2.2.1 1495 = .ok (.iadd, 1) := by decide +kernel
theorem dL_law_1496 : decode M_L_law.2.2.1 1496 = .ok (.iaload, 1) := by decide +kernel
theorem dL_law_1497 : decode M_L_law.2.2.1 1497 = .ok (.invokevirtual 159, 3) := by decide +kernel
theorem dL_law_1500 : decode M_L_law.2.2.1 1500 = .ok (.if_icmp .eq 286, 3) := by decide +kernel
theorem dL_law_1503 : decode M_L_law.2.2.1 1503 = .ok (.iconst 0, 1) := by decide +kernel
theorem dL_law_1504 : decode M_L_law.2.2.1 1504 = .ok (.ireturn, 1) := by decide +kernel
theorem dL_law_1505 : decode M_L_law.2.2.1 1505 = .ok (.aload_n 1, 1) := by decide +kernel
theorem dL_law_1506 : decode M_L_law.2.2.1 1506 = .ok (.aload_n 0, 1) := by decide +kernel
theorem dL_law_1507 : decode M_L_law.2.2.1 1507 = .ok (.iload_n 3, 1) := by decide +kernel
theorem dL_law_1508 : decode M_L_law.2.2.1 1508 = .ok (.iconst 1, 1) := by decide +kernel
theorem dL_law_1509 : decode M_L_law.2.2.1 1509 = .ok (.iadd, 1) := by decide +kernel
theorem dL_law_1510 : decode M_L_law.2.2.1 1510 = .ok (.iaload, 1) := by decide +kernel
theorem dL_law_1511 : decode M_L_law.2.2.1 1511 = .ok (.aload_n 0, 1) := by decide +kernel
theorem dL_law_1512 : decode M_L_law.2.2.1 1512 = .ok (.iload_n 3, 1) := by decide +kernel
theorem dL_law_1513 : decode M_L_law.2.2.1 1513 = .ok (.iconst 2, 1) := by decide +kernel
theorem dL_law_1514 : decode M_L_law.2.2.1 1514 = .ok (.iadd, 1) := by decide +kernel
theorem dL_law_1515 : decode M_L_law.2.2.1 1515 = .ok (.iaload, 1) := by decide +kernel
theorem dL_law_1516 : decode M_L_law.2.2.1 1516 = .ok (.aload_n 0, 1) := by decide +kernel
theorem dL_law_1517 : decode M_L_law.2.2.1 1517 = .ok (.iload_n 3, 1) := by decide +kernel
theorem dL_law_1518 : decode M_L_law.2.2.1 1518 = .ok (.iconst 3, 1) := by decide +kernel
theorem dL_law_1519 : decode M_L_law.2.2.1 1519 = .ok (.iadd, 1) := by decide +kernel
theorem dL_law_1520 : decode M_L_law.2.2.1 1520 = .ok (.iaload, 1) := by decide +kernel
theorem dL_law_1521 : decode M_L_law.2.2.1 1521 = .ok (.invokevirtual 160, 3) := by decide +kernel
theorem dL_law_1524 : decode M_L_law.2.2.1 1524 = .ok (.aload_n 2, 1) := by decide +kernel
theorem dL_law_1525 : decode M_L_law.2.2.1 1525 = .ok (.aload_n 0, 1) := by decide +kernel
theorem dL_law_1526 : decode M_L_law.2.2.1 1526 = .ok (.iload_n 3, 1) := by decide +kernel
theorem dL_law_1527 : decode M_L_law.2.2.1 1527 = .ok (.iconst 1, 1) := by decide +kernel
theorem dL_law_1528 : decode M_L_law.2.2.1 1528 = .ok (.iadd, 1) := by decide +kernel
theorem dL_law_1529 : decode M_L_law.2.2.1 1529 = .ok (.iaload, 1) := by decide +kernel
theorem dL_law_1530 : decode M_L_law.2.2.1 1530 = .ok (.aload_n 0, 1) := by decide +kernel
theorem dL_law_1531 : decode M_L_law.2.2.1 1531 = .ok (.iload_n 3, 1) := by decide +kernel
theorem dL_law_1532 : decode M_L_law.2.2.1 1532 = .ok (.iconst 2, 1) := by decide +kernel
theorem dL_law_1533 : decode M_L_law.2.2.1 1533 = .ok (.iadd, 1) := by decide +kernel
theorem dL_law_1534 : decode M_L_law.2.2.1 1534 = .ok (.iaload, 1) := by decide +kernel
theorem dL_law_1535 : decode M_L_law.2.2.1 1535 = .ok (.aload_n 0, 1) := by decide +kernel
theorem dL_law_1536 : decode M_L_law.2.2.1 1536 = .ok (.iload_n 3, 1) := by decide +kernel
theorem dL_law_1537 : decode M_L_law.2.2.1 1537 = .ok (.iconst 3, 1) := by decide +kernel
theorem dL_law_1538 : decode M_L_law.2.2.1 1538 = .ok (.iadd, 1) := by decide +kernel
theorem dL_law_1539 : decode M_L_law.2.2.1 1539 = .ok (.iaload, 1) := by decide +kernel
theorem dL_law_1540 : decode M_L_law.2.2.1 1540 = .ok (.invokevirtual 163, 3) := by decide +kernel
theorem dL_law_1543 : decode M_L_law.2.2.1 1543 = .ok (.if_icmp .eq 243, 3) := by decide +kernel
theorem dL_law_1546 : decode M_L_law.2.2.1 1546 = .ok (.iconst 0, 1) := by decide +kernel
theorem dL_law_1547 : decode M_L_law.2.2.1 1547 = .ok (.ireturn, 1) := by decide +kernel
theorem dL_law_1548 : decode M_L_law.2.2.1 1548 = .ok (.aload_n 1, 1) := by decide +kernel
theorem dL_law_1549 : decode M_L_law.2.2.1 1549 = .ok (.aload_n 0, 1) := by decide +kernel
theorem dL_law_1550 : decode M_L_law.2.2.1 1550 = .ok (.iload_n 3, 1) := by decide +kernel
theorem dL_law_1551 : decode M_L_law.2.2.1 1551 = .ok (.iconst 1, 1) := by decide +kernel
theorem dL_law_1552 : decode M_L_law.2.2.1 1552 = .ok (.iadd, 1) := by decide +kernel
theorem dL_law_1553 : decode M_L_law.2.2.1 1553 = .ok (.iaload, 1) := by decide +kernel
theorem dL_law_1554 : decode M_L_law.2.2.1 1554 = .ok (.aload_n 0, 1) := by decide +kernel
theorem dL_law_1555 : decode M_L_law.2.2.1 1555 = .ok (.iload_n 3, 1) := by decide +kernel
theorem dL_law_1556 : decode M_L_law.2.2.1 1556 = .ok (.iconst 2, 1) := by decide +kernel
theorem dL_law_1557 : decode M_L_law.2.2.1 1557 = .ok (.iadd, 1) := by decide +kernel
theorem dL_law_1558 : decode M_L_law.2.2.1 1558 = .ok (.iaload, 1) := by decide +kernel
theorem dL_law_1559 : decode M_L_law.2.2.1 1559 = .ok (.aload_n 0, 1) := by decide +kernel
theorem dL_law_1560 : decode M_L_law.2.2.1 1560 = .ok (.iload_n 3, 1) := by decide +kernel
theorem dL_law_1561 : decode M_L_law.2.2.1 1561 = .ok (.iconst 3, 1) := by decide +kernel
theorem dL_law_1562 : decode M_L_law.2.2.1 1562 = .ok (.iadd, 1) := by decide +kernel
theorem dL_law_1563 : decode M_L_law.2.2.1 1563 = .ok (.iaload, 1) := by decide +kernel
theorem dL_law_1564 : decode M_L_law.2.2.1 1564 = .ok (.aload_n 0, 1) := by decide +kernel
theorem dL_law_1565 : decode M_L_law.2.2.1 1565 = .ok (.iload_n 3, 1) := by decide +kernel
theorem dL_law_1566 : decode M_L_law.2.2.1 1566 = .ok (.iconst 4, 1) := by decide +kernel
theorem dL_law_1567 : decode M_L_law.2.2.1 1567 = .ok (.iadd, 1) := by decide +kernel
theorem dL_law_1568 : decode M_L_law.2.2.1 1568 = .ok (.iaload, 1) := by decide +kernel
theorem dL_law_1569 : decode M_L_law.2.2.1 1569 = .ok (.aload_n 0, 1) := by decide +kernel
theorem dL_law_1570 : decode M_L_law.2.2.1 1570 = .ok (.iload_n 3, 1) := by decide +kernel
theorem dL_law_1571 : decode M_L_law.2.2.1 1571 = .ok (.iconst 5, 1) := by decide +kernel
theorem dL_law_1572 : decode M_L_law.2.2.1 1572 = .ok (.iadd, 1) := by decide +kernel
theorem dL_law_1573 : decode M_L_law.2.2.1 1573 = .ok (.iaload, 1) := by decide +kernel
theorem dL_law_1574 : decode M_L_law.2.2.1 1574 = .ok (.invokevirtual 164, 3) := by decide +kernel
theorem dL_law_1577 : decode M_L_law.2.2.1 1577 = .ok (.aload_n 2, 1) := by decide +kernel
theorem dL_law_1578 : decode M_L_law.2.2.1 1578 = .ok (.aload_n 0, 1) := by decide +kernel
theorem dL_law_1579 : decode M_L_law.2.2.1 1579 = .ok (.iload_n 3, 1) := by decide +kernel
theorem dL_law_1580 : decode M_L_law.2.2.1 1580 = .ok (.iconst 1, 1) := by decide +kernel
theorem dL_law_1581 : decode M_L_law.2.2.1 1581 = .ok (.iadd, 1) := by decide +kernel
theorem dL_law_1582 : decode M_L_law.2.2.1 1582 = .ok (.iaload, 1) := by decide +kernel
theorem dL_law_1583 : decode M_L_law.2.2.1 1583 = .ok (.aload_n 0, 1) := by decide +kernel
theorem dL_law_1584 : decode M_L_law.2.2.1 1584 = .ok (.iload_n 3, 1) := by decide +kernel
theorem dL_law_1585 : decode M_L_law.2.2.1 1585 = .ok (.iconst 2, 1) := by decide +kernel
theorem dL_law_1586 : decode M_L_law.2.2.1 1586 = .ok (.iadd, 1) := by decide +kernel
theorem dL_law_1587 : decode M_L_law.2.2.1 1587 = .ok (.iaload, 1) := by decide +kernel
theorem dL_law_1588 : decode M_L_law.2.2.1 1588 = .ok (.aload_n 0, 1) := by decide +kernel
theorem dL_law_1589 : decode M_L_law.2.2.1 1589 = .ok (.iload_n 3, 1) := by decide +kernel
theorem dL_law_1590 : decode M_L_law.2.2.1 1590 = .ok (.iconst 3, 1) := by decide +kernel
theorem dL_law_1591 : decode M_L_law.2.2.1 1591 = .ok (.iadd, 1) := by decide +kernel
theorem dL_law_1592 : decode M_L_law.2.2.1 1592 = .ok (.iaload, 1) := by decide +kernel
theorem dL_law_1593 : decode M_L_law.2.2.1 1593 = .ok (.aload_n 0, 1) := by decide +kernel
theorem dL_law_1594 : decode M_L_law.2.2.1 1594 = .ok (.iload_n 3, 1) := by decide +kernel
theorem dL_law_1595 : decode M_L_law.2.2.1 1595 = .ok (.iconst 4, 1) := by decide +kernel
theorem dL_law_1596 : decode M_L_law.2.2.1 1596 = .ok (.iadd, 1) := by decide +kernel
theorem dL_law_1597 : decode M_L_law.2.2.1 1597 = .ok (.iaload, 1) := by decide +kernel
theorem dL_law_1598 : decode M_L_law.2.2.1 1598 = .ok (.aload_n 0, 1) := by decide +kernel
theorem dL_law_1599 : decode M_L_law.2.2.1 1599 = .ok (.iload_n 3, 1) := by decide +kernel
theorem dL_law_1600 : decode M_L_law.2.2.1 1600 = .ok (.iconst 5, 1) := by decide +kernel
theorem dL_law_1601 : decode M_L_law.2.2.1 1601 = .ok (.iadd, 1) := by decide +kernel
theorem dL_law_1602 : decode M_L_law.2.2.1 1602 = .ok (.iaload, 1) := by decide +kernel
theorem dL_law_1603 : decode M_L_law.2.2.1 1603 = .ok (.invokevirtual 167, 3) := by decide +kernel
theorem dL_law_1606 : decode M_L_law.2.2.1 1606 = .ok (.if_icmp .eq 180, 3) := by decide +kernel
theorem dL_law_1609 : decode M_L_law.2.2.1 1609 = .ok (.iconst 0, 1) := by decide +kernel
theorem dL_law_1610 : decode M_L_law.2.2.1 1610 = .ok (.ireturn, 1) := by decide +kernel
theorem dL_law_1611 : decode M_L_law.2.2.1 1611 = .ok (.aload_n 1, 1) := by decide +kernel
theorem dL_law_1612 : decode M_L_law.2.2.1 1612 = .ok (.aload_n 0, 1) := by decide +kernel
theorem dL_law_1613 : decode M_L_law.2.2.1 1613 = .ok (.iload_n 3, 1) := by decide +kernel
theorem dL_law_1614 : decode M_L_law.2.2.1 1614 = .ok (.iconst 1, 1) := by decide +kernel
theorem dL_law_1615 : decode M_L_law.2.2.1 1615 = .ok (.iadd, 1) := by decide +kernel
theorem dL_law_1616 : decode M_L_law.2.2.1 1616 = .ok (.iaload, 1) := by decide +kernel
theorem dL_law_1617 : decode M_L_law.2.2.1 1617 = .ok (.aload_n 0, 1) := by decide +kernel
theorem dL_law_1618 : decode M_L_law.2.2.1 1618 = .ok (.iload_n 3, 1) := by decide +kernel
theorem dL_law_1619 : decode M_L_law.2.2.1 1619 = .ok (.iconst 2, 1) := by decide +kernel
theorem dL_law_1620 : decode M_L_law.2.2.1 1620 = .ok (.iadd, 1) := by decide +kernel
theorem dL_law_1621 : decode M_L_law.2.2.1 1621 = .ok (.iaload, 1) := by decide +kernel
theorem dL_law_1622 : decode M_L_law.2.2.1 1622 = .ok (.aload_n 0, 1) := by decide +kernel
theorem dL_law_1623 : decode M_L_law.2.2.1 1623 = .ok (.iload_n 3, 1) := by decide +kernel
theorem dL_law_1624 : decode M_L_law.2.2.1 1624 = .ok (.iconst 3, 1) := by decide +kernel
theorem dL_law_1625 : decode M_L_law.2.2.1 1625 = .ok (.iadd, 1) := by decide +kernel
theorem dL_law_1626 : decode M_L_law.2.2.1 1626 = .ok (.iaload, 1) := by decide +kernel
theorem dL_law_1627 : decode M_L_law.2.2.1 1627 = .ok (.invokevirtual 168, 3) := by decide +kernel
theorem dL_law_1630 : decode M_L_law.2.2.1 1630 = .ok (.aload_n 2, 1) := by decide +kernel
theorem dL_law_1631 : decode M_L_law.2.2.1 1631 = .ok (.aload_n 0, 1) := by decide +kernel
theorem dL_law_1632 : decode M_L_law.2.2.1 1632 = .ok (.iload_n 3, 1) := by decide +kernel
theorem dL_law_1633 : decode M_L_law.2.2.1 1633 = .ok (.iconst 1, 1) := by decide +kernel
theorem dL_law_1634 : decode M_L_law.2.2.1 1634 = .ok (.iadd, 1) := by decide +kernel
theorem dL_law_1635 : decode M_L_law.2.2.1 1635 = .ok (.iaload, 1) := by decide +kernel
theorem dL_law_1636 : decode M_L_law.2.2.1 1636 = .ok (.aload_n 0, 1) := by decide +kernel
theorem dL_law_1637 : decode M_L_law.2.2.1 1637 = .ok (.iload_n 3, 1) := by decide +kernel
theorem dL_law_1638 : decode M_L_law.2.2.1 1638 = .ok (.iconst 2, 1) := by decide +kernel
theorem dL_law_1639 : decode M_L_law.2.2.1 1639 = .ok (.iadd, 1) := by decide +kernel
theorem dL_law_1640 : decode M_L_law.2.2.1 1640 = .ok (.iaload, 1) := by decide +kernel
theorem dL_law_1641 : decode M_L_law.2.2.1 1641 = .ok (.aload_n 0, 1) := by decide +kernel
theorem dL_law_1642 : decode M_L_law.2.2.1 1642 = .ok (.iload_n 3, 1) := by decide +kernel
theorem dL_law_1643 : decode M_L_law.2.2.1 1643 = .ok (.iconst 3, 1) := by decide +kernel
theorem dL_law_1644 : decode M_L_law.2.2.1 1644 = .ok (.iadd, 1) := by decide +kernel
theorem dL_law_1645 : decode M_L_law.2.2.1 1645 = .ok (.iaload, 1) := by decide +kernel
theorem dL_law_1646 : decode M_L_law.2.2.1 1646 = .ok (.invokevirtual 171, 3) := by decide +kernel
theorem dL_law_1649 : decode M_L_law.2.2.1 1649 = .ok (.if_icmp .eq 137, 3) := by decide +kernel
theorem dL_law_1652 : decode M_L_law.2.2.1 1652 = .ok (.iconst 0, 1) := by decide +kernel
theorem dL_law_1653 : decode M_L_law.2.2.1 1653 = .ok (.ireturn, 1) := by decide +kernel
theorem dL_law_1654 : decode M_L_law.2.2.1 1654 = .ok (.aload_n 1, 1) := by decide +kernel
theorem dL_law_1655 : decode M_L_law.2.2.1 1655 = .ok (.aload_n 0, 1) := by decide +kernel
theorem dL_law_1656 : decode M_L_law.2.2.1 1656 = .ok (.iload_n 3, 1) := by decide +kernel
theorem dL_law_1657 : decode M_L_law.2.2.1 1657 = .ok (.iconst 1, 1) := by decide +kernel
theorem dL_law_1658 : decode M_L_law.2.2.1 1658 = .ok (.iadd, 1) := by decide +kernel
theorem dL_law_1659 : decode M_L_law.2.2.1 1659 = .ok (.iaload, 1) := by decide +kernel
theorem dL_law_1660 : decode M_L_law.2.2.1 1660 = .ok (.aload_n 0, 1) := by decide +kernel
theorem dL_law_1661 : decode M_L_law.2.2.1 1661 = .ok (.iload_n 3, 1) := by decide +kernel
theorem dL_law_1662 : decode M_L_law.2.2.1 1662 = .ok (.iconst 2, 1) := by decide +kernel
theorem dL_law_1663 : decode M_L_law.2.2.1 1663 = .ok (.iadd, 1) := by decide +kernel
theorem dL_law_1664 : decode M_L_law.2.2.1 1664 = .ok (.iaload, 1) := by decide +kernel
theorem dL_law_1665 : decode M_L_law.2.2.1 1665 = .ok (.aload_n 0, 1) := by decide +kernel
theorem dL_law_1666 : decode M_L_law.2.2.1 1666 = .ok (.iload_n 3, 1) := by decide +kernel
theorem dL_law_1667 : decode M_L_law.2.2.1 1667 = .ok (.iconst 3, 1) := by decide +kernel
theorem dL_law_1668 : decode M_L_law.2.2.1 1668 = .ok (.iadd, 1) := by decide +kernel
theorem dL_law_1669 : decode M_L_law.2.2.1 1669 = .ok (.iaload, 1) := by decide +kernel
theorem dL_law_1670 : decode M_L_law.2.2.1 1670 = .ok (.invokevirtual 172, 3) := by decide +kernel
theorem dL_law_1673 : decode M_L_law.2.2.1 1673 = .ok (.aload_n 2, 1) := by decide +kernel
theorem dL_law_1674 : decode M_L_law.2.2.1 1674 = .ok (.aload_n 0, 1) := by decide +kernel
theorem dL_law_1675 : decode M_L_law.2.2.1 1675 = .ok (.iload_n 3, 1) := by decide +kernel
theorem dL_law_1676 : decode M_L_law.2.2.1 1676 = .ok (.iconst 1, 1) := by decide +kernel
theorem dL_law_1677 : decode M_L_law.2.2.1 1677 = .ok (.iadd, 1) := by decide +kernel
theorem dL_law_1678 : decode M_L_law.2.2.1 1678 = .ok (.iaload, 1) := by decide +kernel
theorem dL_law_1679 : decode M_L_law.2.2.1 1679 = .ok (.aload_n 0, 1) := by decide +kernel
theorem dL_law_1680 : decode M_L_law.2.2.1 1680 = .ok (.iload_n 3, 1) := by decide +kernel
theorem dL_law_1681 : decode M_L_law.2.2.1 1681 = .ok (.iconst 2, 1) := by decide +kernel
theorem dL_law_1682 : decode M_L_law.2.2.1 1682 = .ok (.iadd, 1) := by decide +kernel
theorem dL_law_1683 : decode M_L_law.2.2.1 1683 = .ok (.iaload, 1) := by decide +kernel
theorem dL_law_1684 : decode M_L_law.2.2.1 1684 = .ok (.aload_n 0, 1) := by decide +kernel
theorem dL_law_1685 : decode M_L_law.2.2.1 1685 = .ok (.iload_n 3, 1) := by decide +kernel
theorem dL_law_1686 : decode M_L_law.2.2.1 1686 = .ok (.iconst 3, 1) := by decide +kernel
theorem dL_law_1687 : decode M_L_law.2.2.1 1687 = .ok (.iadd, 1) := by decide +kernel
theorem dL_law_1688 : decode M_L_law.2.2.1 1688 = .ok (.iaload, 1) := by decide +kernel
theorem dL_law_1689 : decode M_L_law.2.2.1 1689 = .ok (.invokevirtual 175, 3) := by decide +kernel
theorem dL_law_1692 : decode M_L_law.2.2.1 1692 = .ok (.if_icmp .eq 94, 3) := by decide +kernel
theorem dL_law_1695 : decode M_L_law.2.2.1 1695 = .ok (.iconst 0, 1) := by decide +kernel
theorem dL_law_1696 : decode M_L_law.2.2.1 1696 = .ok (.ireturn, 1) := by decide +kernel
theorem dL_law_1697 : decode M_L_law.2.2.1 1697 = .ok (.aload_n 1, 1) := by decide +kernel
theorem dL_law_1698 : decode M_L_law.2.2.1 1698 = .ok (.aload_n 0, 1) := by decide +kernel
theorem dL_law_1699 : decode M_L_law.2.2.1 1699 = .ok (.iload_n 3, 1) := by decide +kernel
theorem dL_law_1700 : decode M_L_law.2.2.1 1700 = .ok (.iconst 1, 1) := by decide +kernel
theorem dL_law_1701 : decode M_L_law.2.2.1 1701 = .ok (.iadd, 1) := by decide +kernel
theorem dL_law_1702 : decode M_L_law.2.2.1 1702 = .ok (.iaload, 1) := by decide +kernel
theorem dL_law_1703 : decode M_L_law.2.2.1 1703 = .ok (.aload_n 0, 1) := by decide +kernel
theorem dL_law_1704 : decode M_L_law.2.2.1 1704 = .ok (.iload_n 3, 1) := by decide +kernel
theorem dL_law_1705 : decode M_L_law.2.2.1 1705 = .ok (.iconst 2, 1) := by decide +kernel
theorem dL_law_1706 : decode M_L_law.2.2.1 1706 = .ok (.iadd, 1) := by decide +kernel
theorem dL_law_1707 : decode M_L_law.2.2.1 1707 = .ok (.iaload, 1) := by decide +kernel
theorem dL_law_1708 : decode M_L_law.2.2.1 1708 = .ok (.aload_n 0, 1) := by decide +kernel
theorem dL_law_1709 : decode M_L_law.2.2.1 1709 = .ok (.iload_n 3, 1) := by decide +kernel
theorem dL_law_1710 : decode M_L_law.2.2.1 1710 = .ok (.iconst 3, 1) := by decide +kernel
theorem dL_law_1711 : decode M_L_law.2.2.1 1711 = .ok (.iadd, 1) := by decide +kernel
theorem dL_law_1712 : decode M_L_law.2.2.1 1712 = .ok (.iaload, 1) := by decide +kernel
theorem dL_law_1713 : decode M_L_law.2.2.1 1713 = .ok (.invokevirtual 176, 3) := by decide +kernel
theorem dL_law_1716 : decode M_L_law.2.2.1 1716 = .ok (.aload_n 2, 1) := by decide +kernel
theorem dL_law_1717 : decode M_L_law.2.2.1 1717 = .ok (.aload_n 0, 1) := by decide +kernel
theorem dL_law_1718 : decode M_L_law.2.2.1 1718 = .ok (.iload_n 3, 1) := by decide +kernel
theorem dL_law_1719 : decode M_L_law.2.2.1 1719 = .ok (.iconst 1, 1) := by decide +kernel
theorem dL_law_1720 : decode M_L_law.2.2.1 1720 = .ok (.iadd, 1) := by decide +kernel
theorem dL_law_1721 : decode M_L_law.2.2.1 1721 = .ok (.iaload, 1) := by decide +kernel
theorem dL_law_1722 : decode M_L_law.2.2.1 1722 = .ok (.aload_n 0, 1) := by decide +kernel
theorem dL_law_1723 : decode M_L_law.2.2.1 1723 = .ok (.iload_n 3, 1) := by decide +kernel
theorem dL_law_1724 : decode M_L_law.2.2.1 1724 = .ok (.iconst 2, 1) := by decide +kernel
theorem dL_law_1725 : decode M_L_law.2.2.1 1725 = .ok (.iadd, 1) := by decide +kernel
theorem dL_law_1726 : decode M_L_law.2.2.1 1726 = .ok (.iaload, 1) := by decide +kernel
theorem dL_law_1727 : decode M_L_law.2.2.1 1727 = .ok (.aload_n 0, 1) := by decide +kernel
theorem dL_law_1728 : decode M_L_law.2.2.1 1728 = .ok (.iload_n 3, 1) := by decide +kernel
theorem dL_law_1729 : decode M_L_law.2.2.1 1729 = .ok (.iconst 3, 1) := by decide +kernel
theorem dL_law_1730 : decode M_L_law.2.2.1 1730 = .ok (.iadd, 1) := by decide +kernel
theorem dL_law_1731 : decode M_L_law.2.2.1 1731 = .ok (.iaload, 1) := by decide +kernel
theorem dL_law_1732 : decode M_L_law.2.2.1 1732 = .ok (.invokevirtual 179, 3) := by decide +kernel
theorem dL_law_1735 : decode M_L_law.2.2.1 1735 = .ok (.if_icmp .eq 51, 3) := by decide +kernel
theorem dL_law_1738 : decode M_L_law.2.2.1 1738 = .ok (.iconst 0, 1) := by decide +kernel
theorem dL_law_1739 : decode M_L_law.2.2.1 1739 = .ok (.ireturn, 1) := by decide +kernel
theorem dL_law_1740 : decode M_L_law.2.2.1 1740 = .ok (.aload_n 1, 1) := by decide +kernel
theorem dL_law_1741 : decode M_L_law.2.2.1 1741 = .ok (.aload_n 0, 1) := by decide +kernel
theorem dL_law_1742 : decode M_L_law.2.2.1 1742 = .ok (.iload_n 3, 1) := by decide +kernel
theorem dL_law_1743 : decode M_L_law.2.2.1 1743 = .ok (.iconst 1, 1) := by decide +kernel
theorem dL_law_1744 : decode M_L_law.2.2.1 1744 = .ok (.iadd, 1) := by decide +kernel
theorem dL_law_1745 : decode M_L_law.2.2.1 1745 = .ok (.iaload, 1) := by decide +kernel
theorem dL_law_1746 : decode M_L_law.2.2.1 1746 = .ok (.invokevirtual 180, 3) := by decide +kernel
theorem dL_law_1749 : decode M_L_law.2.2.1 1749 = .ok (.aload_n 2, 1) := by decide +kernel
theorem dL_law_1750 : decode M_L_law.2.2.1 1750 = .ok (.aload_n 0, 1) := by decide +kernel
theorem dL_law_1751 : decode M_L_law.2.2.1 1751 = .ok (.iload_n 3, 1) := by decide +kernel
theorem dL_law_1752 : decode M_L_law.2.2.1 1752 = .ok (.iconst 1, 1) := by decide +kernel
theorem dL_law_1753 : decode M_L_law.2.2.1 1753 = .ok (.iadd, 1) := by decide +kernel
theorem dL_law_1754 : decode M_L_law.2.2.1 1754 = .ok (.iaload, 1) := by decide +kernel
theorem dL_law_1755 : decode M_L_law.2.2.1 1755 = .ok (.invokevirtual 183, 3) := by decide +kernel
theorem dL_law_1758 : decode M_L_law.2.2.1 1758 = .ok (.if_icmp .eq 28, 3) := by decide +kernel
theorem dL_law_1761 : decode M_L_law.2.2.1 1761 = .ok (.iconst 0, 1) := by decide +kernel
theorem dL_law_1762 : decode M_L_law.2.2.1 1762 = .ok (.ireturn, 1) := by decide +kernel
theorem dL_law_1763 : decode M_L_law.2.2.1 1763 = .ok (.aload_n 1, 1) := by decide +kernel
theorem dL_law_1764 : decode M_L_law.2.2.1 1764 = .ok (.aload_n 0, 1) := by decide +kernel
theorem dL_law_1765 : decode M_L_law.2.2.1 1765 = .ok (.iload_n 3, 1) := by decide +kernel
theorem dL_law_1766 : decode M_L_law.2.2.1 1766 = .ok (.iconst 1, 1) := by decide +kernel
theorem dL_law_1767 : decode M_L_law.2.2.1 1767 = .ok (.iadd, 1) := by decide +kernel
theorem dL_law_1768 : decode M_L_law.2.2.1 1768 = .ok (.iaload, 1) := by decide +kernel
theorem dL_law_1769 : decode M_L_law.2.2.1 1769 = .ok (.invokevirtual 184, 3) := by decide +kernel
theorem dL_law_1772 : decode M_L_law.2.2.1 1772 = .ok (.aload_n 2, 1) := by decide +kernel
theorem dL_law_1773 : decode M_L_law.2.2.1 1773 = .ok (.aload_n 0, 1) := by decide +kernel
theorem dL_law_1774 : decode M_L_law.2.2.1 1774 = .ok (.iload_n 3, 1) := by decide +kernel
theorem dL_law_1775 : decode M_L_law.2.2.1 1775 = .ok (.iconst 1, 1) := by decide +kernel
theorem dL_law_1776 : decode M_L_law.2.2.1 1776 = .ok (.iadd, 1) := by decide +kernel
theorem dL_law_1777 : decode M_L_law.2.2.1 1777 = .ok (.iaload, 1) := by decide +kernel
theorem dL_law_1778 : decode M_L_law.2.2.1 1778 = .ok (.invokevirtual 187, 3) := by decide +kernel
theorem dL_law_1781 : decode M_L_law.2.2.1 1781 = .ok (.if_icmp .eq 5, 3) := by decide +kernel
theorem dL_law_1784 : decode M_L_law.2.2.1 1784 = .ok (.iconst 0, 1) := by decide +kernel
theorem dL_law_1785 : decode M_L_law.2.2.1 1785 = .ok (.ireturn, 1) := by decide +kernel
theorem dL_law_1786 : decode M_L_law.2.2.1 1786 = .ok (.iinc 3 6, 3) := by decide +kernel
theorem dL_law_1789 : decode M_L_law.2.2.1 1789 = .ok (.goto (-1771), 3) := by decide +kernel
theorem dL_law_1792 : decode M_L_law.2.2.1 1792 = .ok (.iconst 1, 1) := by decide +kernel
theorem dL_law_1793 : decode M_L_law.2.2.1 1793 = .ok (.ireturn, 1) := by decide +kernel
