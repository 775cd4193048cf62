/-! THE LAW: its cases, its loop -/
set_option maxRecDepth 20000 in
theorem law_c0 {G : GC} {mc ms i : Nat} {h : HS} {K : Option Value → HS → Prop} (I : Inv h) (hi : i + 6 ≤ gL G) (hL : gL G ≤ 3072) (P : ∀ a b : Int32, PairI G M_X11_cellar M_X12_cellar [.int a, .int b]) (kk : ∀ h2, Inv h2 → Go G 61 mc ms M_L_law 1786 [.ref 0, .ref 64, .ref 99, .int (nI i)] [] h2 K) : Go G 61 (mc + 8) (ms + 400) M_L_law 212 [.ref 0, .ref 64, .ref 99, .int (nI i)] [] h K := by
  obtain ⟨Q, p1, p2⟩ := P _ _ h I
  refine Go_aload_n (pc' := 213) dL_law_212 rfl rfl rfl ?_
  refine Go_aload_n (pc' := 214) dL_law_213 rfl rfl rfl ?_
  refine Go_iload_n (pc' := 215) dL_law_214 rfl rfl rfl ?_
  refine Go_iconst (v := 1) (pc' := 216) dL_law_215 rfl (by decide) ?_
  refine Go_iadd (pc' := 217) dL_law_216 rfl ?_
  refine Go_scriptLd (pc' := 218) dL_law_217 rfl (by exact scr_ix (k := 1) (by decide) hi hL) ?_
  refine Go_aload_n (pc' := 219) dL_law_218 rfl rfl rfl ?_
  refine Go_iload_n (pc' := 220) dL_law_219 rfl rfl rfl ?_
  refine Go_iconst (v := 2) (pc' := 221) dL_law_220 rfl (by decide) ?_
  refine Go_iadd (pc' := 222) dL_law_221 rfl ?_
  refine Go_scriptLd (pc' := 223) dL_law_222 rfl (by exact scr_ix (k := 2) (by decide) hi hL) ?_
  refine Go_callV_iA (mc := mc) (ms := ms) (mc2 := 8) (ms2 := 400) (pc' := 226) (As := [.int _, .int _]) (st := []) dL_law_223 rfl ok_X11_cellar km_RL_13 (I.S.o 64 rfl rfl rfl) (I.S.b 64 rfl rfl) ⟨_, _, rfl⟩ rfl (Nat.le_of_ble_eq_true rfl) rfl rfl rfl (Nat.le_of_ble_eq_true rfl) (Nat.lt_succ_self _) (by omega) (by omega) ?_
  refine p1 _ (fun r h1 hq hS1 => ?_)
  refine ⟨_, rfl, ?_⟩
  refine Go_aload_n (pc' := 227) dL_law_226 rfl rfl rfl ?_
  refine Go_aload_n (pc' := 228) dL_law_227 rfl rfl rfl ?_
  refine Go_iload_n (pc' := 229) dL_law_228 rfl rfl rfl ?_
  refine Go_iconst (v := 1) (pc' := 230) dL_law_229 rfl (by decide) ?_
  refine Go_iadd (pc' := 231) dL_law_230 rfl ?_
  refine Go_scriptLd (pc' := 232) dL_law_231 rfl (by exact scr_ix (k := 1) (by decide) hi hL) ?_
  refine Go_aload_n (pc' := 233) dL_law_232 rfl rfl rfl ?_
  refine Go_iload_n (pc' := 234) dL_law_233 rfl rfl rfl ?_
  refine Go_iconst (v := 2) (pc' := 235) dL_law_234 rfl (by decide) ?_
  refine Go_iadd (pc' := 236) dL_law_235 rfl ?_
  refine Go_scriptLd (pc' := 237) dL_law_236 rfl (by exact scr_ix (k := 2) (by decide) hi hL) ?_
  refine Go_callV_i (pc' := 240) (As := [.int _, .int _]) (st := [.int _]) dL_law_237 rfl ok_X12_cellar km_RL_17 (hS1.o 99 rfl rfl rfl) (hS1.b 99 rfl rfl) ⟨_, _, rfl⟩ rfl (Nat.le_of_ble_eq_true rfl) rfl rfl rfl (Nat.le_of_ble_eq_true rfl) (Nat.lt_succ_self _) ?_
  refine p2 r h1 hq _ (fun h2 I2 => ?_)
  refine ⟨_, rfl, ?_⟩
  refine Go_icmp_eq (tgt := 1786) (pc' := 243) dL_law_240 (by decide) rfl (fun c240 => ?_) (fun c240 => ?_)
  · exact kk h2 I2
  · refine Go_iconst (v := 0) (pc' := 244) dL_law_243 rfl (by decide) ?_
    refine Go_ireturn (ty := .boolean) dL_law_244 rfl rfl ?_
    exact absurd rfl c240
set_option maxRecDepth 20000 in
theorem law_c1 {G : GC} {mc ms i : Nat} {h : HS} {K : Option Value → HS → Prop} (I : Inv h) (hi : i + 6 ≤ gL G) (hL : gL G ≤ 3072) (P : ∀ a b c e : Int32, PairI G M_X11_pen M_X12_pen [.int a, .int b, .int c, .int e]) (kk : ∀ h2, Inv h2 → Go G 61 mc ms M_L_law 1786 [.ref 0, .ref 64, .ref 99, .int (nI i)] [] h2 K) : Go G 61 (mc + 8) (ms + 400) M_L_law 245 [.ref 0, .ref 64, .ref 99, .int (nI i)] [] h K := by
  obtain ⟨Q, p1, p2⟩ := P _ _ _ _ h I
  refine Go_aload_n (pc' := 246) dL_law_245 rfl rfl rfl ?_
  refine Go_aload_n (pc' := 247) dL_law_246 rfl rfl rfl ?_
  refine Go_iload_n (pc' := 248) dL_law_247 rfl rfl rfl ?_
  refine Go_iconst (v := 1) (pc' := 249) dL_law_248 rfl (by decide) ?_
  refine Go_iadd (pc' := 250) dL_law_249 rfl ?_
  refine Go_scriptLd (pc' := 251) dL_law_250 rfl (by exact scr_ix (k := 1) (by decide) hi hL) ?_
  refine Go_aload_n (pc' := 252) dL_law_251 rfl rfl rfl ?_
  refine Go_iload_n (pc' := 253) dL_law_252 rfl rfl rfl ?_
  refine Go_iconst (v := 2) (pc' := 254) dL_law_253 rfl (by decide) ?_
  refine Go_iadd (pc' := 255) dL_law_254 rfl ?_
  refine Go_scriptLd (pc' := 256) dL_law_255 rfl (by exact scr_ix (k := 2) (by decide) hi hL) ?_
  refine Go_aload_n (pc' := 257) dL_law_256 rfl rfl rfl ?_
  refine Go_iload_n (pc' := 258) dL_law_257 rfl rfl rfl ?_
  refine Go_iconst (v := 3) (pc' := 259) dL_law_258 rfl (by decide) ?_
  refine Go_iadd (pc' := 260) dL_law_259 rfl ?_
  refine Go_scriptLd (pc' := 261) dL_law_260 rfl (by exact scr_ix (k := 3) (by decide) hi hL) ?_
  refine Go_aload_n (pc' := 262) dL_law_261 rfl rfl rfl ?_
  refine Go_iload_n (pc' := 263) dL_law_262 rfl rfl rfl ?_
  refine Go_iconst (v := 4) (pc' := 264) dL_law_263 rfl (by decide) ?_
  refine Go_iadd (pc' := 265) dL_law_264 rfl ?_
  refine Go_scriptLd (pc' := 266) dL_law_265 rfl (by exact scr_ix (k := 4) (by decide) hi hL) ?_
  refine Go_callV_iA (mc := mc) (ms := ms) (mc2 := 8) (ms2 := 400) (pc' := 269) (As := [.int _, .int _, .int _, .int _]) (st := []) dL_law_266 rfl ok_X11_pen km_RL_18 (I.S.o 64 rfl rfl rfl) (I.S.b 64 rfl rfl) ⟨_, _, rfl⟩ rfl (Nat.le_of_ble_eq_true rfl) rfl rfl rfl (Nat.le_of_ble_eq_true rfl) (Nat.lt_succ_self _) (by omega) (by omega) ?_
  refine p1 _ (fun r h1 hq hS1 => ?_)
  refine ⟨_, rfl, ?_⟩
  refine Go_aload_n (pc' := 270) dL_law_269 rfl rfl rfl ?_
  refine Go_aload_n (pc' := 271) dL_law_270 rfl rfl rfl ?_
  refine Go_iload_n (pc' := 272) dL_law_271 rfl rfl rfl ?_
  refine Go_iconst (v := 1) (pc' := 273) dL_law_272 rfl (by decide) ?_
  refine Go_iadd (pc' := 274) dL_law_273 rfl ?_
  refine Go_scriptLd (pc' := 275) dL_law_274 rfl (by exact scr_ix (k := 1) (by decide) hi hL) ?_
  refine Go_aload_n (pc' := 276) dL_law_275 rfl rfl rfl ?_
  refine Go_iload_n (pc' := 277) dL_law_276 rfl rfl rfl ?_
  refine Go_iconst (v := 2) (pc' := 278) dL_law_277 rfl (by decide) ?_
  refine Go_iadd (pc' := 279) dL_law_278 rfl ?_
  refine Go_scriptLd (pc' := 280) dL_law_279 rfl (by exact scr_ix (k := 2) (by decide) hi hL) ?_
  refine Go_aload_n (pc' := 281) dL_law_280 rfl rfl rfl ?_
  refine Go_iload_n (pc' := 282) dL_law_281 rfl rfl rfl ?_
  refine Go_iconst (v := 3) (pc' := 283) dL_law_282 rfl (by decide) ?_
  refine Go_iadd (pc' := 284) dL_law_283 rfl ?_
  refine Go_scriptLd (pc' := 285) dL_law_284 rfl (by exact scr_ix (k := 3) (by decide) hi hL) ?_
  refine Go_aload_n (pc' := 286) dL_law_285 rfl rfl rfl ?_
  refine Go_iload_n (pc' := 287) dL_law_286 rfl rfl rfl ?_
  refine Go_iconst (v := 4) (pc' := 288) dL_law_287 rfl (by decide) ?_
  refine Go_iadd (pc' := 289) dL_law_288 rfl ?_
  refine Go_scriptLd (pc' := 290) dL_law_289 rfl (by exact scr_ix (k := 4) (by decide) hi hL) ?_
  refine Go_callV_i (pc' := 293) (As := [.int _, .int _, .int _, .int _]) (st := [.int _]) dL_law_290 rfl ok_X12_pen km_RL_22 (hS1.o 99 rfl rfl rfl) (hS1.b 99 rfl rfl) ⟨_, _, rfl⟩ rfl (Nat.le_of_ble_eq_true rfl) rfl rfl rfl (Nat.le_of_ble_eq_true rfl) (Nat.lt_succ_self _) ?_
  refine p2 r h1 hq _ (fun h2 I2 => ?_)
  refine ⟨_, rfl, ?_⟩
  refine Go_icmp_eq (tgt := 1786) (pc' := 296) dL_law_293 (by decide) rfl (fun c293 => ?_) (fun c293 => ?_)
  · exact kk h2 I2
  · refine Go_iconst (v := 0) (pc' := 297) dL_law_296 rfl (by decide) ?_
    refine Go_ireturn (ty := .boolean) dL_law_297 rfl rfl ?_
    exact absurd rfl c293
set_option maxRecDepth 20000 in
theorem law_c2 {G : GC} {mc ms i : Nat} {h : HS} {K : Option Value → HS → Prop} (I : Inv h) (hi : i + 6 ≤ gL G) (hL : gL G ≤ 3072) (P : ∀ a b : Int32, PairI G M_X11_ground M_X12_ground [.int a, .int b]) (kk : ∀ h2, Inv h2 → Go G 61 mc ms M_L_law 1786 [.ref 0, .ref 64, .ref 99, .int (nI i)] [] h2 K) : Go G 61 (mc + 8) (ms + 400) M_L_law 298 [.ref 0, .ref 64, .ref 99, .int (nI i)] [] h K := by
  obtain ⟨Q, p1, p2⟩ := P _ _ h I
  refine Go_aload_n (pc' := 299) dL_law_298 rfl rfl rfl ?_
  refine Go_aload_n (pc' := 300) dL_law_299 rfl rfl rfl ?_
  refine Go_iload_n (pc' := 301) dL_law_300 rfl rfl rfl ?_
  refine Go_iconst (v := 1) (pc' := 302) dL_law_301 rfl (by decide) ?_
  refine Go_iadd (pc' := 303) dL_law_302 rfl ?_
  refine Go_scriptLd (pc' := 304) dL_law_303 rfl (by exact scr_ix (k := 1) (by decide) hi hL) ?_
  refine Go_aload_n (pc' := 305) dL_law_304 rfl rfl rfl ?_
  refine Go_iload_n (pc' := 306) dL_law_305 rfl rfl rfl ?_
  refine Go_iconst (v := 2) (pc' := 307) dL_law_306 rfl (by decide) ?_
  refine Go_iadd (pc' := 308) dL_law_307 rfl ?_
  refine Go_scriptLd (pc' := 309) dL_law_308 rfl (by exact scr_ix (k := 2) (by decide) hi hL) ?_
  refine Go_callV_iA (mc := mc) (ms := ms) (mc2 := 8) (ms2 := 400) (pc' := 312) (As := [.int _, .int _]) (st := []) dL_law_309 rfl ok_X11_ground km_RL_23 (I.S.o 64 rfl rfl rfl) (I.S.b 64 rfl rfl) ⟨_, _, rfl⟩ rfl (Nat.le_of_ble_eq_true rfl) rfl rfl rfl (Nat.le_of_ble_eq_true rfl) (Nat.lt_succ_self _) (by omega) (by omega) ?_
  refine p1 _ (fun r h1 hq hS1 => ?_)
  refine ⟨_, rfl, ?_⟩
  refine Go_aload_n (pc' := 313) dL_law_312 rfl rfl rfl ?_
  refine Go_aload_n (pc' := 314) dL_law_313 rfl rfl rfl ?_
  refine Go_iload_n (pc' := 315) dL_law_314 rfl rfl rfl ?_
  refine Go_iconst (v := 1) (pc' := 316) dL_law_315 rfl (by decide) ?_
  refine Go_iadd (pc' := 317) dL_law_316 rfl ?_
  refine Go_scriptLd (pc' := 318) dL_law_317 rfl (by exact scr_ix (k := 1) (by decide) hi hL) ?_
  refine Go_aload_n (pc' := 319) dL_law_318 rfl rfl rfl ?_
  refine Go_iload_n (pc' := 320) dL_law_319 rfl rfl rfl ?_
  refine Go_iconst (v := 2) (pc' := 321) dL_law_320 rfl (by decide) ?_
  refine Go_iadd (pc' := 322) dL_law_321 rfl ?_
  refine Go_scriptLd (pc' := 323) dL_law_322 rfl (by exact scr_ix (k := 2) (by decide) hi hL) ?_
  refine Go_callV_i (pc' := 326) (As := [.int _, .int _]) (st := [.int _]) dL_law_323 rfl ok_X12_ground km_RL_26 (hS1.o 99 rfl rfl rfl) (hS1.b 99 rfl rfl) ⟨_, _, rfl⟩ rfl (Nat.le_of_ble_eq_true rfl) rfl rfl rfl (Nat.le_of_ble_eq_true rfl) (Nat.lt_succ_self _) ?_
  refine p2 r h1 hq _ (fun h2 I2 => ?_)
  refine ⟨_, rfl, ?_⟩
  refine Go_icmp_eq (tgt := 1786) (pc' := 329) dL_law_326 (by decide) rfl (fun c326 => ?_) (fun c326 => ?_)
  · exact kk h2 I2
  · refine Go_iconst (v := 0) (pc' := 330) dL_law_329 rfl (by decide) ?_
    refine Go_ireturn (ty := .boolean) dL_law_330 rfl rfl ?_
    exact absurd rfl c326
set_option maxRecDepth 20000 in
theorem law_c3 {G : GC} {mc ms i : Nat} {h : HS} {K : Option Value → HS → Prop} (I : Inv h) (hi : i + 6 ≤ gL G) (hL : gL G ≤ 3072) (P : ∀ a b c : Int32, PairI G M_X11_write M_X12_write [.int a, .int b, .int c]) (kk : ∀ h2, Inv h2 → Go G 61 mc ms M_L_law 1786 [.ref 0, .ref 64, .ref 99, .int (nI i)] [] h2 K) : Go G 61 (mc + 8) (ms + 400) M_L_law 331 [.ref 0, .ref 64, .ref 99, .int (nI i)] [] h K := by
  obtain ⟨Q, p1, p2⟩ := P _ _ _ h I
  refine Go_aload_n (pc' := 332) dL_law_331 rfl rfl rfl ?_
  refine Go_aload_n (pc' := 333) dL_law_332 rfl rfl rfl ?_
  refine Go_iload_n (pc' := 334) dL_law_333 rfl rfl rfl ?_
  refine Go_iconst (v := 1) (pc' := 335) dL_law_334 rfl (by decide) ?_
  refine Go_iadd (pc' := 336) dL_law_335 rfl ?_
  refine Go_scriptLd (pc' := 337) dL_law_336 rfl (by exact scr_ix (k := 1) (by decide) hi hL) ?_
  refine Go_aload_n (pc' := 338) dL_law_337 rfl rfl rfl ?_
  refine Go_iload_n (pc' := 339) dL_law_338 rfl rfl rfl ?_
  refine Go_iconst (v := 2) (pc' := 340) dL_law_339 rfl (by decide) ?_
  refine Go_iadd (pc' := 341) dL_law_340 rfl ?_
  refine Go_scriptLd (pc' := 342) dL_law_341 rfl (by exact scr_ix (k := 2) (by decide) hi hL) ?_
  refine Go_aload_n (pc' := 343) dL_law_342 rfl rfl rfl ?_
  refine Go_iload_n (pc' := 344) dL_law_343 rfl rfl rfl ?_
  refine Go_iconst (v := 3) (pc' := 345) dL_law_344 rfl (by decide) ?_
  refine Go_iadd (pc' := 346) dL_law_345 rfl ?_
  refine Go_scriptLd (pc' := 347) dL_law_346 rfl (by exact scr_ix (k := 3) (by decide) hi hL) ?_
  refine Go_callV_iA (mc := mc) (ms := ms) (mc2 := 8) (ms2 := 400) (pc' := 350) (As := [.int _, .int _, .int _]) (st := []) dL_law_347 rfl ok_X11_write km_RL_27 (I.S.o 64 rfl rfl rfl) (I.S.b 64 rfl rfl) ⟨_, _, rfl⟩ rfl (Nat.le_of_ble_eq_true rfl) rfl rfl rfl (Nat.le_of_ble_eq_true rfl) (Nat.lt_succ_self _) (by omega) (by omega) ?_
  refine p1 _ (fun r h1 hq hS1 => ?_)
  refine ⟨_, rfl, ?_⟩
  refine Go_aload_n (pc' := 351) dL_law_350 rfl rfl rfl ?_
  refine Go_aload_n (pc' := 352) dL_law_351 rfl rfl rfl ?_
  refine Go_iload_n (pc' := 353) dL_law_352 rfl rfl rfl ?_
  refine Go_iconst (v := 1) (pc' := 354) dL_law_353 rfl (by decide) ?_
  refine Go_iadd (pc' := 355) dL_law_354 rfl ?_
  refine Go_scriptLd (pc' := 356) dL_law_355 rfl (by exact scr_ix (k := 1) (by decide) hi hL) ?_
  refine Go_aload_n (pc' := 357) dL_law_356 rfl rfl rfl ?_
  refine Go_iload_n (pc' := 358) dL_law_357 rfl rfl rfl ?_
  refine Go_iconst (v := 2) (pc' := 359) dL_law_358 rfl (by decide) ?_
  refine Go_iadd (pc' := 360) dL_law_359 rfl ?_
  refine Go_scriptLd (pc' := 361) dL_law_360 rfl (by exact scr_ix (k := 2) (by decide) hi hL) ?_
  refine Go_aload_n (pc' := 362) dL_law_361 rfl rfl rfl ?_
  refine Go_iload_n (pc' := 363) dL_law_362 rfl rfl rfl ?_
  refine Go_iconst (v := 3) (pc' := 364) dL_law_363 rfl (by decide) ?_
  refine Go_iadd (pc' := 365) dL_law_364 rfl ?_
  refine Go_scriptLd (pc' := 366) dL_law_365 rfl (by exact scr_ix (k := 3) (by decide) hi hL) ?_
  refine Go_callV_i (pc' := 369) (As := [.int _, .int _, .int _]) (st := [.int _]) dL_law_366 rfl ok_X12_write km_RL_31 (hS1.o 99 rfl rfl rfl) (hS1.b 99 rfl rfl) ⟨_, _, rfl⟩ rfl (Nat.le_of_ble_eq_true rfl) rfl rfl rfl (Nat.le_of_ble_eq_true rfl) (Nat.lt_succ_self _) ?_
  refine p2 r h1 hq _ (fun h2 I2 => ?_)
  refine ⟨_, rfl, ?_⟩
  refine Go_icmp_eq (tgt := 1786) (pc' := 372) dL_law_369 (by decide) rfl (fun c369 => ?_) (fun c369 => ?_)
  · exact kk h2 I2
  · refine Go_iconst (v := 0) (pc' := 373) dL_law_372 rfl (by decide) ?_
    refine Go_ireturn (ty := .boolean) dL_law_373 rfl rfl ?_
    exact absurd rfl c369
set_option maxRecDepth 20000 in
theorem law_c4 {G : GC} {mc ms i : Nat} {h : HS} {K : Option Value → HS → Prop} (I : Inv h) (hi : i + 6 ≤ gL G) (hL : gL G ≤ 3072) (P : ∀ a : Int32, PairI G M_X11_paper M_X12_paper [.int a]) (kk : ∀ h2, Inv h2 → Go G 61 mc ms M_L_law 1786 [.ref 0, .ref 64, .ref 99, .int (nI i)] [] h2 K) : Go G 61 (mc + 8) (ms + 400) M_L_law 374 [.ref 0, .ref 64, .ref 99, .int (nI i)] [] h K := by
  obtain ⟨Q, p1, p2⟩ := P _ h I
  refine Go_aload_n (pc' := 375) dL_law_374 rfl rfl rfl ?_
  refine Go_aload_n (pc' := 376) dL_law_375 rfl rfl rfl ?_
  refine Go_iload_n (pc' := 377) dL_law_376 rfl rfl rfl ?_
  refine Go_iconst (v := 1) (pc' := 378) dL_law_377 rfl (by decide) ?_
  refine Go_iadd (pc' := 379) dL_law_378 rfl ?_
  refine Go_scriptLd (pc' := 380) dL_law_379 rfl (by exact scr_ix (k := 1) (by decide) hi hL) ?_
  refine Go_callV_iA (mc := mc) (ms := ms) (mc2 := 8) (ms2 := 400) (pc' := 383) (As := [.int _]) (st := []) dL_law_380 rfl ok_X11_paper km_RL_32 (I.S.o 64 rfl rfl rfl) (I.S.b 64 rfl rfl) ⟨_, _, rfl⟩ rfl (Nat.le_of_ble_eq_true rfl) rfl rfl rfl (Nat.le_of_ble_eq_true rfl) (Nat.lt_succ_self _) (by omega) (by omega) ?_
  refine p1 _ (fun r h1 hq hS1 => ?_)
  refine ⟨_, rfl, ?_⟩
  refine Go_aload_n (pc' := 384) dL_law_383 rfl rfl rfl ?_
  refine Go_aload_n (pc' := 385) dL_law_384 rfl rfl rfl ?_
  refine Go_iload_n (pc' := 386) dL_law_385 rfl rfl rfl ?_
  refine Go_iconst (v := 1) (pc' := 387) dL_law_386 rfl (by decide) ?_
  refine Go_iadd (pc' := 388) dL_law_387 rfl ?_
  refine Go_scriptLd (pc' := 389) dL_law_388 rfl (by exact scr_ix (k := 1) (by decide) hi hL) ?_
  refine Go_callV_i (pc' := 392) (As := [.int _]) (st := [.int _]) dL_law_389 rfl ok_X12_paper km_RL_36 (hS1.o 99 rfl rfl rfl) (hS1.b 99 rfl rfl) ⟨_, _, rfl⟩ rfl (Nat.le_of_ble_eq_true rfl) rfl rfl rfl (Nat.le_of_ble_eq_true rfl) (Nat.lt_succ_self _) ?_
  refine p2 r h1 hq _ (fun h2 I2 => ?_)
  refine ⟨_, rfl, ?_⟩
  refine Go_icmp_eq (tgt := 1786) (pc' := 395) dL_law_392 (by decide) rfl (fun c392 => ?_) (fun c392 => ?_)
  · exact kk h2 I2
  · refine Go_iconst (v := 0) (pc' := 396) dL_law_395 rfl (by decide) ?_
    refine Go_ireturn (ty := .boolean) dL_law_396 rfl rfl ?_
    exact absurd rfl c392
set_option maxRecDepth 20000 in
theorem law_c5 {G : GC} {mc ms i : Nat} {h : HS} {K : Option Value → HS → Prop} (I : Inv h) (hi : i + 6 ≤ gL G) (hL : gL G ≤ 3072) (P : ∀ a b : Int32, PairI G M_X11_at M_X12_at [.int a, .int b]) (kk : ∀ h2, Inv h2 → Go G 61 mc ms M_L_law 1786 [.ref 0, .ref 64, .ref 99, .int (nI i)] [] h2 K) : Go G 61 (mc + 8) (ms + 400) M_L_law 397 [.ref 0, .ref 64, .ref 99, .int (nI i)] [] h K := by
  obtain ⟨Q, p1, p2⟩ := P _ _ h I
  refine Go_aload_n (pc' := 398) dL_law_397 rfl rfl rfl ?_
  refine Go_aload_n (pc' := 399) dL_law_398 rfl rfl rfl ?_
  refine Go_iload_n (pc' := 400) dL_law_399 rfl rfl rfl ?_
  refine Go_iconst (v := 1) (pc' := 401) dL_law_400 rfl (by decide) ?_
  refine Go_iadd (pc' := 402) dL_law_401 rfl ?_
  refine Go_scriptLd (pc' := 403) dL_law_402 rfl (by exact scr_ix (k := 1) (by decide) hi hL) ?_
  refine Go_aload_n (pc' := 404) dL_law_403 rfl rfl rfl ?_
  refine Go_iload_n (pc' := 405) dL_law_404 rfl rfl rfl ?_
  refine Go_iconst (v := 2) (pc' := 406) dL_law_405 rfl (by decide) ?_
  refine Go_iadd (pc' := 407) dL_law_406 rfl ?_
  refine Go_scriptLd (pc' := 408) dL_law_407 rfl (by exact scr_ix (k := 2) (by decide) hi hL) ?_
  refine Go_callV_iA (mc := mc) (ms := ms) (mc2 := 8) (ms2 := 400) (pc' := 411) (As := [.int _, .int _]) (st := []) dL_law_408 rfl ok_X11_at km_RL_37 (I.S.o 64 rfl rfl rfl) (I.S.b 64 rfl rfl) ⟨_, _, rfl⟩ rfl (Nat.le_of_ble_eq_true rfl) rfl rfl rfl (Nat.le_of_ble_eq_true rfl) (Nat.lt_succ_self _) (by omega) (by omega) ?_
  refine p1 _ (fun r h1 hq hS1 => ?_)
  refine ⟨_, rfl, ?_⟩
  refine Go_aload_n (pc' := 412) dL_law_411 rfl rfl rfl ?_
  refine Go_aload_n (pc' := 413) dL_law_412 rfl rfl rfl ?_
  refine Go_iload_n (pc' := 414) dL_law_413 rfl rfl rfl ?_
  refine Go_iconst (v := 1) (pc' := 415) dL_law_414 rfl (by decide) ?_
  refine Go_iadd (pc' := 416) dL_law_415 rfl ?_
  refine Go_scriptLd (pc' := 417) dL_law_416 rfl (by exact scr_ix (k := 1) (by decide) hi hL) ?_
  refine Go_aload_n (pc' := 418) dL_law_417 rfl rfl rfl ?_
  refine Go_iload_n (pc' := 419) dL_law_418 rfl rfl rfl ?_
  refine Go_iconst (v := 2) (pc' := 420) dL_law_419 rfl (by decide) ?_
  refine Go_iadd (pc' := 421) dL_law_420 rfl ?_
  refine Go_scriptLd (pc' := 422) dL_law_421 rfl (by exact scr_ix (k := 2) (by decide) hi hL) ?_
  refine Go_callV_i (pc' := 425) (As := [.int _, .int _]) (st := [.int _]) dL_law_422 rfl ok_X12_at km_RL_40 (hS1.o 99 rfl rfl rfl) (hS1.b 99 rfl rfl) ⟨_, _, rfl⟩ rfl (Nat.le_of_ble_eq_true rfl) rfl rfl rfl (Nat.le_of_ble_eq_true rfl) (Nat.lt_succ_self _) ?_
  refine p2 r h1 hq _ (fun h2 I2 => ?_)
  refine ⟨_, rfl, ?_⟩
  refine Go_icmp_eq (tgt := 1786) (pc' := 428) dL_law_425 (by decide) rfl (fun c425 => ?_) (fun c425 => ?_)
  · exact kk h2 I2
  · refine Go_iconst (v := 0) (pc' := 429) dL_law_428 rfl (by decide) ?_
    refine Go_ireturn (ty := .boolean) dL_law_429 rfl rfl ?_
    exact absurd rfl c425
set_option maxRecDepth 20000 in
theorem law_c6 {G : GC} {mc ms i : Nat} {h : HS} {K : Option Value → HS → Prop} (I : Inv h) (hi : i + 6 ≤ gL G) (hL : gL G ≤ 3072) (P : ∀ a b : Int32, PairI G M_X11_back M_X12_back [.int a, .int b]) (kk : ∀ h2, Inv h2 → Go G 61 mc ms M_L_law 1786 [.ref 0, .ref 64, .ref 99, .int (nI i)] [] h2 K) : Go G 61 (mc + 8) (ms + 400) M_L_law 430 [.ref 0, .ref 64, .ref 99, .int (nI i)] [] h K := by
  obtain ⟨Q, p1, p2⟩ := P _ _ h I
  refine Go_aload_n (pc' := 431) dL_law_430 rfl rfl rfl ?_
  refine Go_aload_n (pc' := 432) dL_law_431 rfl rfl rfl ?_
  refine Go_iload_n (pc' := 433) dL_law_432 rfl rfl rfl ?_
  refine Go_iconst (v := 1) (pc' := 434) dL_law_433 rfl (by decide) ?_
  refine Go_iadd (pc' := 435) dL_law_434 rfl ?_
  refine Go_scriptLd (pc' := 436) dL_law_435 rfl (by exact scr_ix (k := 1) (by decide) hi hL) ?_
  refine Go_aload_n (pc' := 437) dL_law_436 rfl rfl rfl ?_
  refine Go_iload_n (pc' := 438) dL_law_437 rfl rfl rfl ?_
  refine Go_iconst (v := 2) (pc' := 439) dL_law_438 rfl (by decide) ?_
  refine Go_iadd (pc' := 440) dL_law_439 rfl ?_
  refine Go_scriptLd (pc' := 441) dL_law_440 rfl (by exact scr_ix (k := 2) (by decide) hi hL) ?_
  refine Go_callV_iA (mc := mc) (ms := ms) (mc2 := 8) (ms2 := 400) (pc' := 444) (As := [.int _, .int _]) (st := []) dL_law_441 rfl ok_X11_back km_RL_41 (I.S.o 64 rfl rfl rfl) (I.S.b 64 rfl rfl) ⟨_, _, rfl⟩ rfl (Nat.le_of_ble_eq_true rfl) rfl rfl rfl (Nat.le_of_ble_eq_true rfl) (Nat.lt_succ_self _) (by omega) (by omega) ?_
  refine p1 _ (fun r h1 hq hS1 => ?_)
  refine ⟨_, rfl, ?_⟩
  refine Go_aload_n (pc' := 445) dL_law_444 rfl rfl rfl ?_
  refine Go_aload_n (pc' := 446) dL_law_445 rfl rfl rfl ?_
  refine Go_iload_n (pc' := 447) dL_law_446 rfl rfl rfl ?_
  refine Go_iconst (v := 1) (pc' := 448) dL_law_447 rfl (by decide) ?_
  refine Go_iadd (pc' := 449) dL_law_448 rfl ?_
  refine Go_scriptLd (pc' := 450) dL_law_449 rfl (by exact scr_ix (k := 1) (by decide) hi hL) ?_
  refine Go_aload_n (pc' := 451) dL_law_450 rfl rfl rfl ?_
  refine Go_iload_n (pc' := 452) dL_law_451 rfl rfl rfl ?_
  refine Go_iconst (v := 2) (pc' := 453) dL_law_452 rfl (by decide) ?_
  refine Go_iadd (pc' := 454) dL_law_453 rfl ?_
  refine Go_scriptLd (pc' := 455) dL_law_454 rfl (by exact scr_ix (k := 2) (by decide) hi hL) ?_
  refine Go_callV_i (pc' := 458) (As := [.int _, .int _]) (st := [.int _]) dL_law_455 rfl ok_X12_back km_RL_44 (hS1.o 99 rfl rfl rfl) (hS1.b 99 rfl rfl) ⟨_, _, rfl⟩ rfl (Nat.le_of_ble_eq_true rfl) rfl rfl rfl (Nat.le_of_ble_eq_true rfl) (Nat.lt_succ_self _) ?_
  refine p2 r h1 hq _ (fun h2 I2 => ?_)
  refine ⟨_, rfl, ?_⟩
  refine Go_icmp_eq (tgt := 1786) (pc' := 461) dL_law_458 (by decide) rfl (fun c458 => ?_) (fun c458 => ?_)
  · exact kk h2 I2
  · refine Go_iconst (v := 0) (pc' := 462) dL_law_461 rfl (by decide) ?_
    refine Go_ireturn (ty := .boolean) dL_law_462 rfl rfl ?_
    exact absurd rfl c458
set_option maxRecDepth 20000 in
theorem law_c7 {G : GC} {mc ms i : Nat} {h : HS} {K : Option Value → HS → Prop} (I : Inv h) (hi : i + 6 ≤ gL G) (hL : gL G ≤ 3072) (P : ∀ a b c e : Int32, PairI G M_X11_swing M_X12_swing [.int a, .int b, .int c, .int e]) (kk : ∀ h2, Inv h2 → Go G 61 mc ms M_L_law 1786 [.ref 0, .ref 64, .ref 99, .int (nI i)] [] h2 K) : Go G 61 (mc + 8) (ms + 400) M_L_law 463 [.ref 0, .ref 64, .ref 99, .int (nI i)] [] h K := by
  obtain ⟨Q, p1, p2⟩ := P _ _ _ _ h I
  refine Go_aload_n (pc' := 464) dL_law_463 rfl rfl rfl ?_
  refine Go_aload_n (pc' := 465) dL_law_464 rfl rfl rfl ?_
  refine Go_iload_n (pc' := 466) dL_law_465 rfl rfl rfl ?_
  refine Go_iconst (v := 1) (pc' := 467) dL_law_466 rfl (by decide) ?_
  refine Go_iadd (pc' := 468) dL_law_467 rfl ?_
  refine Go_scriptLd (pc' := 469) dL_law_468 rfl (by exact scr_ix (k := 1) (by decide) hi hL) ?_
  refine Go_aload_n (pc' := 470) dL_law_469 rfl rfl rfl ?_
  refine Go_iload_n (pc' := 471) dL_law_470 rfl rfl rfl ?_
  refine Go_iconst (v := 2) (pc' := 472) dL_law_471 rfl (by decide) ?_
  refine Go_iadd (pc' := 473) dL_law_472 rfl ?_
  refine Go_scriptLd (pc' := 474) dL_law_473 rfl (by exact scr_ix (k := 2) (by decide) hi hL) ?_
  refine Go_aload_n (pc' := 475) dL_law_474 rfl rfl rfl ?_
  refine Go_iload_n (pc' := 476) dL_law_475 rfl rfl rfl ?_
  refine Go_iconst (v := 3) (pc' := 477) dL_law_476 rfl (by decide) ?_
  refine Go_iadd (pc' := 478) dL_law_477 rfl ?_
  refine Go_scriptLd (pc' := 479) dL_law_478 rfl (by exact scr_ix (k := 3) (by decide) hi hL) ?_
  refine Go_aload_n (pc' := 480) dL_law_479 rfl rfl rfl ?_
  refine Go_iload_n (pc' := 481) dL_law_480 rfl rfl rfl ?_
  refine Go_iconst (v := 4) (pc' := 482) dL_law_481 rfl (by decide) ?_
  refine Go_iadd (pc' := 483) dL_law_482 rfl ?_
  refine Go_scriptLd (pc' := 484) dL_law_483 rfl (by exact scr_ix (k := 4) (by decide) hi hL) ?_
  refine Go_callV_iA (mc := mc) (ms := ms) (mc2 := 8) (ms2 := 400) (pc' := 487) (As := [.int _, .int _, .int _, .int _]) (st := []) dL_law_484 rfl ok_X11_swing km_RL_45 (I.S.o 64 rfl rfl rfl) (I.S.b 64 rfl rfl) ⟨_, _, rfl⟩ rfl (Nat.le_of_ble_eq_true rfl) rfl rfl rfl (Nat.le_of_ble_eq_true rfl) (Nat.lt_succ_self _) (by omega) (by omega) ?_
  refine p1 _ (fun r h1 hq hS1 => ?_)
  refine ⟨_, rfl, ?_⟩
  refine Go_aload_n (pc' := 488) dL_law_487 rfl rfl rfl ?_
  refine Go_aload_n (pc' := 489) dL_law_488 rfl rfl rfl ?_
  refine Go_iload_n (pc' := 490) dL_law_489 rfl rfl rfl ?_
  refine Go_iconst (v := 1) (pc' := 491) dL_law_490 rfl (by decide) ?_
  refine Go_iadd (pc' := 492) dL_law_491 rfl ?_
  refine Go_scriptLd (pc' := 493) dL_law_492 rfl (by exact scr_ix (k := 1) (by decide) hi hL) ?_
  refine Go_aload_n (pc' := 494) dL_law_493 rfl rfl rfl ?_
  refine Go_iload_n (pc' := 495) dL_law_494 rfl rfl rfl ?_
  refine Go_iconst (v := 2) (pc' := 496) dL_law_495 rfl (by decide) ?_
  refine Go_iadd (pc' := 497) dL_law_496 rfl ?_
  refine Go_scriptLd (pc' := 498) dL_law_497 rfl (by exact scr_ix (k := 2) (by decide) hi hL) ?_
  refine Go_aload_n (pc' := 499) dL_law_498 rfl rfl rfl ?_
  refine Go_iload_n (pc' := 500) dL_law_499 rfl rfl rfl ?_
  refine Go_iconst (v := 3) (pc' := 501) dL_law_500 rfl (by decide) ?_
  refine Go_iadd (pc' := 502) dL_law_501 rfl ?_
  refine Go_scriptLd (pc' := 503) dL_law_502 rfl (by exact scr_ix (k := 3) (by decide) hi hL) ?_
  refine Go_aload_n (pc' := 504) dL_law_503 rfl rfl rfl ?_
  refine Go_iload_n (pc' := 505) dL_law_504 rfl rfl rfl ?_
  refine Go_iconst (v := 4) (pc' := 506) dL_law_505 rfl (by decide) ?_
  refine Go_iadd (pc' := 507) dL_law_506 rfl ?_
  refine Go_scriptLd (pc' := 508) dL_law_507 rfl (by exact scr_ix (k := 4) (by decide) hi hL) ?_
  refine Go_callV_i (pc' := 511) (As := [.int _, .int _, .int _, .int _]) (st := [.int _]) dL_law_508 rfl ok_X12_swing km_RL_49 (hS1.o 99 rfl rfl rfl) (hS1.b 99 rfl rfl) ⟨_, _, rfl⟩ rfl (Nat.le_of_ble_eq_true rfl) rfl rfl rfl (Nat.le_of_ble_eq_true rfl) (Nat.lt_succ_self _) ?_
  refine p2 r h1 hq _ (fun h2 I2 => ?_)
  refine ⟨_, rfl, ?_⟩
  refine Go_icmp_eq (tgt := 1786) (pc' := 514) dL_law_511 (by decide) rfl (fun c511 => ?_) (fun c511 => ?_)
  · exact kk h2 I2
  · refine Go_iconst (v := 0) (pc' := 515) dL_law_514 rfl (by decide) ?_
    refine Go_ireturn (ty := .boolean) dL_law_515 rfl rfl ?_
    exact absurd rfl c511
set_option maxRecDepth 20000 in
theorem law_c8 {G : GC} {mc ms i : Nat} {h : HS} {K : Option Value → HS → Prop} (I : Inv h) (hi : i + 6 ≤ gL G) (hL : gL G ≤ 3072) (P : ∀ a b c : Int32, PairI G M_X11_mark M_X12_mark [.int a, .int b, .int c]) (kk : ∀ h2, Inv h2 → Go G 61 mc ms M_L_law 1786 [.ref 0, .ref 64, .ref 99, .int (nI i)] [] h2 K) : Go G 61 (mc + 8) (ms + 400) M_L_law 516 [.ref 0, .ref 64, .ref 99, .int (nI i)] [] h K := by
  obtain ⟨Q, p1, p2⟩ := P _ _ _ h I
  refine Go_aload_n (pc' := 517) dL_law_516 rfl rfl rfl ?_
  refine Go_aload_n (pc' := 518) dL_law_517 rfl rfl rfl ?_
  refine Go_iload_n (pc' := 519) dL_law_518 rfl rfl rfl ?_
  refine Go_iconst (v := 1) (pc' := 520) dL_law_519 rfl (by decide) ?_
  refine Go_iadd (pc' := 521) dL_law_520 rfl ?_
  refine Go_scriptLd (pc' := 522) dL_law_521 rfl (by exact scr_ix (k := 1) (by decide) hi hL) ?_
  refine Go_aload_n (pc' := 523) dL_law_522 rfl rfl rfl ?_
  refine Go_iload_n (pc' := 524) dL_law_523 rfl rfl rfl ?_
  refine Go_iconst (v := 2) (pc' := 525) dL_law_524 rfl (by decide) ?_
  refine Go_iadd (pc' := 526) dL_law_525 rfl ?_
  refine Go_scriptLd (pc' := 527) dL_law_526 rfl (by exact scr_ix (k := 2) (by decide) hi hL) ?_
  refine Go_aload_n (pc' := 528) dL_law_527 rfl rfl rfl ?_
  refine Go_iload_n (pc' := 529) dL_law_528 rfl rfl rfl ?_
  refine Go_iconst (v := 3) (pc' := 530) dL_law_529 rfl (by decide) ?_
  refine Go_iadd (pc' := 531) dL_law_530 rfl ?_
  refine Go_scriptLd (pc' := 532) dL_law_531 rfl (by exact scr_ix (k := 3) (by decide) hi hL) ?_
  refine Go_callV_iA (mc := mc) (ms := ms) (mc2 := 8) (ms2 := 400) (pc' := 535) (As := [.int _, .int _, .int _]) (st := []) dL_law_532 rfl ok_X11_mark km_RL_50 (I.S.o 64 rfl rfl rfl) (I.S.b 64 rfl rfl) ⟨_, _, rfl⟩ rfl (Nat.le_of_ble_eq_true rfl) rfl rfl rfl (Nat.le_of_ble_eq_true rfl) (Nat.lt_succ_self _) (by omega) (by omega) ?_
  refine p1 _ (fun r h1 hq hS1 => ?_)
  refine ⟨_, rfl, ?_⟩
  refine Go_aload_n (pc' := 536) dL_law_535 rfl rfl rfl ?_
  refine Go_aload_n (pc' := 537) dL_law_536 rfl rfl rfl ?_
  refine Go_iload_n (pc' := 538) dL_law_537 rfl rfl rfl ?_
  refine Go_iconst (v := 1) (pc' := 539) dL_law_538 rfl (by decide) ?_
  refine Go_iadd (pc' := 540) dL_law_539 rfl ?_
  refine Go_scriptLd (pc' := 541) dL_law_540 rfl (by exact scr_ix (k := 1) (by decide) hi hL) ?_
  refine Go_aload_n (pc' := 542) dL_law_541 rfl rfl rfl ?_
  refine Go_iload_n (pc' := 543) dL_law_542 rfl rfl rfl ?_
  refine Go_iconst (v := 2) (pc' := 544) dL_law_543 rfl (by decide) ?_
  refine Go_iadd (pc' := 545) dL_law_544 rfl ?_
  refine Go_scriptLd (pc' := 546) dL_law_545 rfl (by exact scr_ix (k := 2) (by decide) hi hL) ?_
  refine Go_aload_n (pc' := 547) dL_law_546 rfl rfl rfl ?_
  refine Go_iload_n (pc' := 548) dL_law_547 rfl rfl rfl ?_
  refine Go_iconst (v := 3) (pc' := 549) dL_law_548 rfl (by decide) ?_
  refine Go_iadd (pc' := 550) dL_law_549 rfl ?_
  refine Go_scriptLd (pc' := 551) dL_law_550 rfl (by exact scr_ix (k := 3) (by decide) hi hL) ?_
  refine Go_callV_i (pc' := 554) (As := [.int _, .int _, .int _]) (st := [.int _]) dL_law_551 rfl ok_X12_mark km_RL_53 (hS1.o 99 rfl rfl rfl) (hS1.b 99 rfl rfl) ⟨_, _, rfl⟩ rfl (Nat.le_of_ble_eq_true rfl) rfl rfl rfl (Nat.le_of_ble_eq_true rfl) (Nat.lt_succ_self _) ?_
  refine p2 r h1 hq _ (fun h2 I2 => ?_)
  refine ⟨_, rfl, ?_⟩
  refine Go_icmp_eq (tgt := 1786) (pc' := 557) dL_law_554 (by decide) rfl (fun c554 => ?_) (fun c554 => ?_)
  · exact kk h2 I2
  · refine Go_iconst (v := 0) (pc' := 558) dL_law_557 rfl (by decide) ?_
    refine Go_ireturn (ty := .boolean) dL_law_558 rfl rfl ?_
    exact absurd rfl c554
set_option maxRecDepth 20000 in
theorem law_c9 {G : GC} {mc ms i : Nat} {h : HS} {K : Option Value → HS → Prop} (I : Inv h) (hi : i + 6 ≤ gL G) (hL : gL G ≤ 3072) (P : ∀ a b c e : Int32, PairI G M_X11_clock M_X12_clock [.int a, .int b, .int c, .int e]) (kk : ∀ h2, Inv h2 → Go G 61 mc ms M_L_law 1786 [.ref 0, .ref 64, .ref 99, .int (nI i)] [] h2 K) : Go G 61 (mc + 8) (ms + 400) M_L_law 559 [.ref 0, .ref 64, .ref 99, .int (nI i)] [] h K := by
  obtain ⟨Q, p1, p2⟩ := P _ _ _ _ h I
  refine Go_aload_n (pc' := 560) dL_law_559 rfl rfl rfl ?_
  refine Go_aload_n (pc' := 561) dL_law_560 rfl rfl rfl ?_
  refine Go_iload_n (pc' := 562) dL_law_561 rfl rfl rfl ?_
  refine Go_iconst (v := 1) (pc' := 563) dL_law_562 rfl (by decide) ?_
  refine Go_iadd (pc' := 564) dL_law_563 rfl ?_
  refine Go_scriptLd (pc' := 565) dL_law_564 rfl (by exact scr_ix (k := 1) (by decide) hi hL) ?_
  refine Go_aload_n (pc' := 566) dL_law_565 rfl rfl rfl ?_
  refine Go_iload_n (pc' := 567) dL_law_566 rfl rfl rfl ?_
  refine Go_iconst (v := 2) (pc' := 568) dL_law_567 rfl (by decide) ?_
  refine Go_iadd (pc' := 569) dL_law_568 rfl ?_
  refine Go_scriptLd (pc' := 570) dL_law_569 rfl (by exact scr_ix (k := 2) (by decide) hi hL) ?_
  refine Go_aload_n (pc' := 571) dL_law_570 rfl rfl rfl ?_
  refine Go_iload_n (pc' := 572) dL_law_571 rfl rfl rfl ?_
  refine Go_iconst (v := 3) (pc' := 573) dL_law_572 rfl (by decide) ?_
  refine Go_iadd (pc' := 574) dL_law_573 rfl ?_
  refine Go_scriptLd (pc' := 575) dL_law_574 rfl (by exact scr_ix (k := 3) (by decide) hi hL) ?_
  refine Go_aload_n (pc' := 576) dL_law_575 rfl rfl rfl ?_
  refine Go_iload_n (pc' := 577) dL_law_576 rfl rfl rfl ?_
  refine Go_iconst (v := 4) (pc' := 578) dL_law_577 rfl (by decide) ?_
  refine Go_iadd (pc' := 579) dL_law_578 rfl ?_
  refine Go_scriptLd (pc' := 580) dL_law_579 rfl (by exact scr_ix (k := 4) (by decide) hi hL) ?_
  refine Go_callV_iA (mc := mc) (ms := ms) (mc2 := 8) (ms2 := 400) (pc' := 583) (As := [.int _, .int _, .int _, .int _]) (st := []) dL_law_580 rfl ok_X11_clock km_RL_54 (I.S.o 64 rfl rfl rfl) (I.S.b 64 rfl rfl) ⟨_, _, rfl⟩ rfl (Nat.le_of_ble_eq_true rfl) rfl rfl rfl (Nat.le_of_ble_eq_true rfl) (Nat.lt_succ_self _) (by omega) (by omega) ?_
  refine p1 _ (fun r h1 hq hS1 => ?_)
  refine ⟨_, rfl, ?_⟩
  refine Go_aload_n (pc' := 584) dL_law_583 rfl rfl rfl ?_
  refine Go_aload_n (pc' := 585) dL_law_584 rfl rfl rfl ?_
  refine Go_iload_n (pc' := 586) dL_law_585 rfl rfl rfl ?_
  refine Go_iconst (v := 1) (pc' := 587) dL_law_586 rfl (by decide) ?_
  refine Go_iadd (pc' := 588) dL_law_587 rfl ?_
  refine Go_scriptLd (pc' := 589) dL_law_588 rfl (by exact scr_ix (k := 1) (by decide) hi hL) ?_
  refine Go_aload_n (pc' := 590) dL_law_589 rfl rfl rfl ?_
  refine Go_iload_n (pc' := 591) dL_law_590 rfl rfl rfl ?_
  refine Go_iconst (v := 2) (pc' := 592) dL_law_591 rfl (by decide) ?_
  refine Go_iadd (pc' := 593) dL_law_592 rfl ?_
  refine Go_scriptLd (pc' := 594) dL_law_593 rfl (by exact scr_ix (k := 2) (by decide) hi hL) ?_
  refine Go_aload_n (pc' := 595) dL_law_594 rfl rfl rfl ?_
  refine Go_iload_n (pc' := 596) dL_law_595 rfl rfl rfl ?_
  refine Go_iconst (v := 3) (pc' := 597) dL_law_596 rfl (by decide) ?_
  refine Go_iadd (pc' := 598) dL_law_597 rfl ?_
  refine Go_scriptLd (pc' := 599) dL_law_598 rfl (by exact scr_ix (k := 3) (by decide) hi hL) ?_
  refine Go_aload_n (pc' := 600) dL_law_599 rfl rfl rfl ?_
  refine Go_iload_n (pc' := 601) dL_law_600 rfl rfl rfl ?_
  refine Go_iconst (v := 4) (pc' := 602) dL_law_601 rfl (by decide) ?_
  refine Go_iadd (pc' := 603) dL_law_602 rfl ?_
  refine Go_scriptLd (pc' := 604) dL_law_603 rfl (by exact scr_ix (k := 4) (by decide) hi hL) ?_
  refine Go_callV_i (pc' := 607) (As := [.int _, .int _, .int _, .int _]) (st := [.int _]) dL_law_604 rfl ok_X12_clock km_RL_57 (hS1.o 99 rfl rfl rfl) (hS1.b 99 rfl rfl) ⟨_, _, rfl⟩ rfl (Nat.le_of_ble_eq_true rfl) rfl rfl rfl (Nat.le_of_ble_eq_true rfl) (Nat.lt_succ_self _) ?_
  refine p2 r h1 hq _ (fun h2 I2 => ?_)
  refine ⟨_, rfl, ?_⟩
  refine Go_icmp_eq (tgt := 1786) (pc' := 610) dL_law_607 (by decide) rfl (fun c607 => ?_) (fun c607 => ?_)
  · exact kk h2 I2
  · refine Go_iconst (v := 0) (pc' := 611) dL_law_610 rfl (by decide) ?_
    refine Go_ireturn (ty := .boolean) dL_law_611 rfl rfl ?_
    exact absurd rfl c607
set_option maxRecDepth 20000 in
theorem law_c10 {G : GC} {mc ms i : Nat} {h : HS} {K : Option Value → HS → Prop} (I : Inv h) (hi : i + 6 ≤ gL G) (hL : gL G ≤ 3072) (P : ∀ a b c : Int32, PairL G M_X11_time M_X12_time [.int a, .int b, .int c]) (kk : ∀ h2, Inv h2 → Go G 61 mc ms M_L_law 1786 [.ref 0, .ref 64, .ref 99, .int (nI i)] [] h2 K) : Go G 61 (mc + 8) (ms + 400) M_L_law 612 [.ref 0, .ref 64, .ref 99, .int (nI i)] [] h K := by
  obtain ⟨Q, p1, p2⟩ := P _ _ _ h I
  refine Go_aload_n (pc' := 613) dL_law_612 rfl rfl rfl ?_
  refine Go_aload_n (pc' := 614) dL_law_613 rfl rfl rfl ?_
  refine Go_iload_n (pc' := 615) dL_law_614 rfl rfl rfl ?_
  refine Go_iconst (v := 1) (pc' := 616) dL_law_615 rfl (by decide) ?_
  refine Go_iadd (pc' := 617) dL_law_616 rfl ?_
  refine Go_scriptLd (pc' := 618) dL_law_617 rfl (by exact scr_ix (k := 1) (by decide) hi hL) ?_
  refine Go_aload_n (pc' := 619) dL_law_618 rfl rfl rfl ?_
  refine Go_iload_n (pc' := 620) dL_law_619 rfl rfl rfl ?_
  refine Go_iconst (v := 2) (pc' := 621) dL_law_620 rfl (by decide) ?_
  refine Go_iadd (pc' := 622) dL_law_621 rfl ?_
  refine Go_scriptLd (pc' := 623) dL_law_622 rfl (by exact scr_ix (k := 2) (by decide) hi hL) ?_
  refine Go_aload_n (pc' := 624) dL_law_623 rfl rfl rfl ?_
  refine Go_iload_n (pc' := 625) dL_law_624 rfl rfl rfl ?_
  refine Go_iconst (v := 3) (pc' := 626) dL_law_625 rfl (by decide) ?_
  refine Go_iadd (pc' := 627) dL_law_626 rfl ?_
  refine Go_scriptLd (pc' := 628) dL_law_627 rfl (by exact scr_ix (k := 3) (by decide) hi hL) ?_
  refine Go_callV_lA (mc := mc) (ms := ms) (mc2 := 8) (ms2 := 400) (pc' := 631) (As := [.int _, .int _, .int _]) (st := []) dL_law_628 rfl ok_X11_time km_RL_58 (I.S.o 64 rfl rfl rfl) (I.S.b 64 rfl rfl) ⟨_, _, rfl⟩ rfl (Nat.le_of_ble_eq_true rfl) rfl rfl rfl (Nat.le_of_ble_eq_true rfl) (Nat.lt_succ_self _) (by omega) (by omega) ?_
  refine p1 _ (fun r h1 hq hS1 => ?_)
  refine ⟨_, rfl, ?_⟩
  refine Go_aload_n (pc' := 632) dL_law_631 rfl rfl rfl ?_
  refine Go_aload_n (pc' := 633) dL_law_632 rfl rfl rfl ?_
  refine Go_iload_n (pc' := 634) dL_law_633 rfl rfl rfl ?_
  refine Go_iconst (v := 1) (pc' := 635) dL_law_634 rfl (by decide) ?_
  refine Go_iadd (pc' := 636) dL_law_635 rfl ?_
  refine Go_scriptLd (pc' := 637) dL_law_636 rfl (by exact scr_ix (k := 1) (by decide) hi hL) ?_
  refine Go_aload_n (pc' := 638) dL_law_637 rfl rfl rfl ?_
  refine Go_iload_n (pc' := 639) dL_law_638 rfl rfl rfl ?_
  refine Go_iconst (v := 2) (pc' := 640) dL_law_639 rfl (by decide) ?_
  refine Go_iadd (pc' := 641) dL_law_640 rfl ?_
  refine Go_scriptLd (pc' := 642) dL_law_641 rfl (by exact scr_ix (k := 2) (by decide) hi hL) ?_
  refine Go_aload_n (pc' := 643) dL_law_642 rfl rfl rfl ?_
  refine Go_iload_n (pc' := 644) dL_law_643 rfl rfl rfl ?_
  refine Go_iconst (v := 3) (pc' := 645) dL_law_644 rfl (by decide) ?_
  refine Go_iadd (pc' := 646) dL_law_645 rfl ?_
  refine Go_scriptLd (pc' := 647) dL_law_646 rfl (by exact scr_ix (k := 3) (by decide) hi hL) ?_
  refine Go_callV_l (pc' := 650) (As := [.int _, .int _, .int _]) (st := [.long _]) dL_law_647 rfl ok_X12_time km_RL_62 (hS1.o 99 rfl rfl rfl) (hS1.b 99 rfl rfl) ⟨_, _, rfl⟩ rfl (Nat.le_of_ble_eq_true rfl) rfl rfl rfl (Nat.le_of_ble_eq_true rfl) (Nat.lt_succ_self _) ?_
  refine p2 r h1 hq _ (fun h2 I2 => ?_)
  refine ⟨_, rfl, ?_⟩
  refine Go_lcmp (pc' := 651) dL_law_650 rfl ?_
  refine Go_if_eq (tgt := 1786) (pc' := 654) dL_law_651 (by decide) rfl (fun c651 => ?_) (fun c651 => ?_)
  · exact kk h2 I2
  · refine Go_iconst (v := 0) (pc' := 655) dL_law_654 rfl (by decide) ?_
    refine Go_ireturn (ty := .boolean) dL_law_655 rfl rfl ?_
    exact absurd (lg_self r) c651
set_option maxRecDepth 20000 in
theorem law_c11 {G : GC} {mc ms i : Nat} {h : HS} {K : Option Value → HS → Prop} (I : Inv h) (hi : i + 6 ≤ gL G) (hL : gL G ≤ 3072) (P : ∀ a b : Int32, PairI G M_X11_first M_X12_first [.int a, .int b]) (kk : ∀ h2, Inv h2 → Go G 61 mc ms M_L_law 1786 [.ref 0, .ref 64, .ref 99, .int (nI i)] [] h2 K) : Go G 61 (mc + 8) (ms + 400) M_L_law 656 [.ref 0, .ref 64, .ref 99, .int (nI i)] [] h K := by
  obtain ⟨Q, p1, p2⟩ := P _ _ h I
  refine Go_aload_n (pc' := 657) dL_law_656 rfl rfl rfl ?_
  refine Go_aload_n (pc' := 658) dL_law_657 rfl rfl rfl ?_
  refine Go_iload_n (pc' := 659) dL_law_658 rfl rfl rfl ?_
  refine Go_iconst (v := 1) (pc' := 660) dL_law_659 rfl (by decide) ?_
  refine Go_iadd (pc' := 661) dL_law_660 rfl ?_
  refine Go_scriptLd (pc' := 662) dL_law_661 rfl (by exact scr_ix (k := 1) (by decide) hi hL) ?_
  refine Go_aload_n (pc' := 663) dL_law_662 rfl rfl rfl ?_
  refine Go_iload_n (pc' := 664) dL_law_663 rfl rfl rfl ?_
  refine Go_iconst (v := 2) (pc' := 665) dL_law_664 rfl (by decide) ?_
  refine Go_iadd (pc' := 666) dL_law_665 rfl ?_
  refine Go_scriptLd (pc' := 667) dL_law_666 rfl (by exact scr_ix (k := 2) (by decide) hi hL) ?_
  refine Go_callV_iA (mc := mc) (ms := ms) (mc2 := 8) (ms2 := 400) (pc' := 670) (As := [.int _, .int _]) (st := []) dL_law_667 rfl ok_X11_first km_RL_63 (I.S.o 64 rfl rfl rfl) (I.S.b 64 rfl rfl) ⟨_, _, rfl⟩ rfl (Nat.le_of_ble_eq_true rfl) rfl rfl rfl (Nat.le_of_ble_eq_true rfl) (Nat.lt_succ_self _) (by omega) (by omega) ?_
  refine p1 _ (fun r h1 hq hS1 => ?_)
  refine ⟨_, rfl, ?_⟩
  refine Go_aload_n (pc' := 671) dL_law_670 rfl rfl rfl ?_
  refine Go_aload_n (pc' := 672) dL_law_671 rfl rfl rfl ?_
  refine Go_iload_n (pc' := 673) dL_law_672 rfl rfl rfl ?_
  refine Go_iconst (v := 1) (pc' := 674) dL_law_673 rfl (by decide) ?_
  refine Go_iadd (pc' := 675) dL_law_674 rfl ?_
  refine Go_scriptLd (pc' := 676) dL_law_675 rfl (by exact scr_ix (k := 1) (by decide) hi hL) ?_
  refine Go_aload_n (pc' := 677) dL_law_676 rfl rfl rfl ?_
  refine Go_iload_n (pc' := 678) dL_law_677 rfl rfl rfl ?_
  refine Go_iconst (v := 2) (pc' := 679) dL_law_678 rfl (by decide) ?_
  refine Go_iadd (pc' := 680) dL_law_679 rfl ?_
  refine Go_scriptLd (pc' := 681) dL_law_680 rfl (by exact scr_ix (k := 2) (by decide) hi hL) ?_
  refine Go_callV_i (pc' := 684) (As := [.int _, .int _]) (st := [.int _]) dL_law_681 rfl ok_X12_first km_RL_66 (hS1.o 99 rfl rfl rfl) (hS1.b 99 rfl rfl) ⟨_, _, rfl⟩ rfl (Nat.le_of_ble_eq_true rfl) rfl rfl rfl (Nat.le_of_ble_eq_true rfl) (Nat.lt_succ_self _) ?_
  refine p2 r h1 hq _ (fun h2 I2 => ?_)
  refine ⟨_, rfl, ?_⟩
  refine Go_icmp_eq (tgt := 1786) (pc' := 687) dL_law_684 (by decide) rfl (fun c684 => ?_) (fun c684 => ?_)
  · exact kk h2 I2
  · refine Go_iconst (v := 0) (pc' := 688) dL_law_687 rfl (by decide) ?_
    refine Go_ireturn (ty := .boolean) dL_law_688 rfl rfl ?_
    exact absurd rfl c684
set_option maxRecDepth 20000 in
theorem law_c12 {G : GC} {mc ms i : Nat} {h : HS} {K : Option Value → HS → Prop} (I : Inv h) (hi : i + 6 ≤ gL G) (hL : gL G ≤ 3072) (P : ∀ a b c e : Int32, PairI G M_X11_burst M_X12_burst [.int a, .int b, .int c, .int e]) (kk : ∀ h2, Inv h2 → Go G 61 mc ms M_L_law 1786 [.ref 0, .ref 64, .ref 99, .int (nI i)] [] h2 K) : Go G 61 (mc + 8) (ms + 400) M_L_law 689 [.ref 0, .ref 64, .ref 99, .int (nI i)] [] h K := by
  obtain ⟨Q, p1, p2⟩ := P _ _ _ _ h I
  refine Go_aload_n (pc' := 690) dL_law_689 rfl rfl rfl ?_
  refine Go_aload_n (pc' := 691) dL_law_690 rfl rfl rfl ?_
  refine Go_iload_n (pc' := 692) dL_law_691 rfl rfl rfl ?_
  refine Go_iconst (v := 1) (pc' := 693) dL_law_692 rfl (by decide) ?_
  refine Go_iadd (pc' := 694) dL_law_693 rfl ?_
  refine Go_scriptLd (pc' := 695) dL_law_694 rfl (by exact scr_ix (k := 1) (by decide) hi hL) ?_
  refine Go_aload_n (pc' := 696) dL_law_695 rfl rfl rfl ?_
  refine Go_iload_n (pc' := 697) dL_law_696 rfl rfl rfl ?_
  refine Go_iconst (v := 2) (pc' := 698) dL_law_697 rfl (by decide) ?_
  refine Go_iadd (pc' := 699) dL_law_698 rfl ?_
  refine Go_scriptLd (pc' := 700) dL_law_699 rfl (by exact scr_ix (k := 2) (by decide) hi hL) ?_
  refine Go_aload_n (pc' := 701) dL_law_700 rfl rfl rfl ?_
  refine Go_iload_n (pc' := 702) dL_law_701 rfl rfl rfl ?_
  refine Go_iconst (v := 3) (pc' := 703) dL_law_702 rfl (by decide) ?_
  refine Go_iadd (pc' := 704) dL_law_703 rfl ?_
  refine Go_scriptLd (pc' := 705) dL_law_704 rfl (by exact scr_ix (k := 3) (by decide) hi hL) ?_
  refine Go_aload_n (pc' := 706) dL_law_705 rfl rfl rfl ?_
  refine Go_iload_n (pc' := 707) dL_law_706 rfl rfl rfl ?_
  refine Go_iconst (v := 4) (pc' := 708) dL_law_707 rfl (by decide) ?_
  refine Go_iadd (pc' := 709) dL_law_708 rfl ?_
  refine Go_scriptLd (pc' := 710) dL_law_709 rfl (by exact scr_ix (k := 4) (by decide) hi hL) ?_
  refine Go_callV_iA (mc := mc) (ms := ms) (mc2 := 8) (ms2 := 400) (pc' := 713) (As := [.int _, .int _, .int _, .int _]) (st := []) dL_law_710 rfl ok_X11_burst km_RL_67 (I.S.o 64 rfl rfl rfl) (I.S.b 64 rfl rfl) ⟨_, _, rfl⟩ rfl (Nat.le_of_ble_eq_true rfl) rfl rfl rfl (Nat.le_of_ble_eq_true rfl) (Nat.lt_succ_self _) (by omega) (by omega) ?_
  refine p1 _ (fun r h1 hq hS1 => ?_)
  refine ⟨_, rfl, ?_⟩
  refine Go_aload_n (pc' := 714) dL_law_713 rfl rfl rfl ?_
  refine Go_aload_n (pc' := 715) dL_law_714 rfl rfl rfl ?_
  refine Go_iload_n (pc' := 716) dL_law_715 rfl rfl rfl ?_
  refine Go_iconst (v := 1) (pc' := 717) dL_law_716 rfl (by decide) ?_
  refine Go_iadd (pc' := 718) dL_law_717 rfl ?_
  refine Go_scriptLd (pc' := 719) dL_law_718 rfl (by exact scr_ix (k := 1) (by decide) hi hL) ?_
  refine Go_aload_n (pc' := 720) dL_law_719 rfl rfl rfl ?_
  refine Go_iload_n (pc' := 721) dL_law_720 rfl rfl rfl ?_
  refine Go_iconst (v := 2) (pc' := 722) dL_law_721 rfl (by decide) ?_
  refine Go_iadd (pc' := 723) dL_law_722 rfl ?_
  refine Go_scriptLd (pc' := 724) dL_law_723 rfl (by exact scr_ix (k := 2) (by decide) hi hL) ?_
  refine Go_aload_n (pc' := 725) dL_law_724 rfl rfl rfl ?_
  refine Go_iload_n (pc' := 726) dL_law_725 rfl rfl rfl ?_
  refine Go_iconst (v := 3) (pc' := 727) dL_law_726 rfl (by decide) ?_
  refine Go_iadd (pc' := 728) dL_law_727 rfl ?_
  refine Go_scriptLd (pc' := 729) dL_law_728 rfl (by exact scr_ix (k := 3) (by decide) hi hL) ?_
  refine Go_aload_n (pc' := 730) dL_law_729 rfl rfl rfl ?_
  refine Go_iload_n (pc' := 731) dL_law_730 rfl rfl rfl ?_
  refine Go_iconst (v := 4) (pc' := 732) dL_law_731 rfl (by decide) ?_
  refine Go_iadd (pc' := 733) dL_law_732 rfl ?_
  refine Go_scriptLd (pc' := 734) dL_law_733 rfl (by exact scr_ix (k := 4) (by decide) hi hL) ?_
  refine Go_callV_i (pc' := 737) (As := [.int _, .int _, .int _, .int _]) (st := [.int _]) dL_law_734 rfl ok_X12_burst km_RL_70 (hS1.o 99 rfl rfl rfl) (hS1.b 99 rfl rfl) ⟨_, _, rfl⟩ rfl (Nat.le_of_ble_eq_true rfl) rfl rfl rfl (Nat.le_of_ble_eq_true rfl) (Nat.lt_succ_self _) ?_
  refine p2 r h1 hq _ (fun h2 I2 => ?_)
  refine ⟨_, rfl, ?_⟩
  refine Go_icmp_eq (tgt := 1786) (pc' := 740) dL_law_737 (by decide) rfl (fun c737 => ?_) (fun c737 => ?_)
  · exact kk h2 I2
  · refine Go_iconst (v := 0) (pc' := 741) dL_law_740 rfl (by decide) ?_
    refine Go_ireturn (ty := .boolean) dL_law_741 rfl rfl ?_
    exact absurd rfl c737
set_option maxRecDepth 20000 in
theorem law_c13 {G : GC} {mc ms i : Nat} {h : HS} {K : Option Value → HS → Prop} (I : Inv h) (hi : i + 6 ≤ gL G) (hL : gL G ≤ 3072) (P : ∀ a b c e f : Int32, PairI G M_X11_kind M_X12_kind [.int a, .int b, .int c, .int e, .int f]) (kk : ∀ h2, Inv h2 → Go G 61 mc ms M_L_law 1786 [.ref 0, .ref 64, .ref 99, .int (nI i)] [] h2 K) : Go G 61 (mc + 8) (ms + 400) M_L_law 742 [.ref 0, .ref 64, .ref 99, .int (nI i)] [] h K := by
  obtain ⟨Q, p1, p2⟩ := P _ _ _ _ _ h I
  refine Go_aload_n (pc' := 743) dL_law_742 rfl rfl rfl ?_
  refine Go_aload_n (pc' := 744) dL_law_743 rfl rfl rfl ?_
  refine Go_iload_n (pc' := 745) dL_law_744 rfl rfl rfl ?_
  refine Go_iconst (v := 1) (pc' := 746) dL_law_745 rfl (by decide) ?_
  refine Go_iadd (pc' := 747) dL_law_746 rfl ?_
  refine Go_scriptLd (pc' := 748) dL_law_747 rfl (by exact scr_ix (k := 1) (by decide) hi hL) ?_
  refine Go_aload_n (pc' := 749) dL_law_748 rfl rfl rfl ?_
  refine Go_iload_n (pc' := 750) dL_law_749 rfl rfl rfl ?_
  refine Go_iconst (v := 2) (pc' := 751) dL_law_750 rfl (by decide) ?_
  refine Go_iadd (pc' := 752) dL_law_751 rfl ?_
  refine Go_scriptLd (pc' := 753) dL_law_752 rfl (by exact scr_ix (k := 2) (by decide) hi hL) ?_
  refine Go_aload_n (pc' := 754) dL_law_753 rfl rfl rfl ?_
  refine Go_iload_n (pc' := 755) dL_law_754 rfl rfl rfl ?_
  refine Go_iconst (v := 3) (pc' := 756) dL_law_755 rfl (by decide) ?_
  refine Go_iadd (pc' := 757) dL_law_756 rfl ?_
  refine Go_scriptLd (pc' := 758) dL_law_757 rfl (by exact scr_ix (k := 3) (by decide) hi hL) ?_
  refine Go_aload_n (pc' := 759) dL_law_758 rfl rfl rfl ?_
  refine Go_iload_n (pc' := 760) dL_law_759 rfl rfl rfl ?_
  refine Go_iconst (v := 4) (pc' := 761) dL_law_760 rfl (by decide) ?_
  refine Go_iadd (pc' := 762) dL_law_761 rfl ?_
  refine Go_scriptLd (pc' := 763) dL_law_762 rfl (by exact scr_ix (k := 4) (by decide) hi hL) ?_
  refine Go_aload_n (pc' := 764) dL_law_763 rfl rfl rfl ?_
  refine Go_iload_n (pc' := 765) dL_law_764 rfl rfl rfl ?_
  refine Go_iconst (v := 5) (pc' := 766) dL_law_765 rfl (by decide) ?_
  refine Go_iadd (pc' := 767) dL_law_766 rfl ?_
  refine Go_scriptLd (pc' := 768) dL_law_767 rfl (by exact scr_ix (k := 5) (by decide) hi hL) ?_
  refine Go_callV_iA (mc := mc) (ms := ms) (mc2 := 8) (ms2 := 400) (pc' := 771) (As := [.int _, .int _, .int _, .int _, .int _]) (st := []) dL_law_768 rfl ok_X11_kind km_RL_71 (I.S.o 64 rfl rfl rfl) (I.S.b 64 rfl rfl) ⟨_, _, rfl⟩ rfl (Nat.le_of_ble_eq_true rfl) rfl rfl rfl (Nat.le_of_ble_eq_true rfl) (Nat.lt_succ_self _) (by omega) (by omega) ?_
  refine p1 _ (fun r h1 hq hS1 => ?_)
  refine ⟨_, rfl, ?_⟩
  refine Go_aload_n (pc' := 772) dL_law_771 rfl rfl rfl ?_
  refine Go_aload_n (pc' := 773) dL_law_772 rfl rfl rfl ?_
  refine Go_iload_n (pc' := 774) dL_law_773 rfl rfl rfl ?_
  refine Go_iconst (v := 1) (pc' := 775) dL_law_774 rfl (by decide) ?_
  refine Go_iadd (pc' := 776) dL_law_775 rfl ?_
  refine Go_scriptLd (pc' := 777) dL_law_776 rfl (by exact scr_ix (k := 1) (by decide) hi hL) ?_
  refine Go_aload_n (pc' := 778) dL_law_777 rfl rfl rfl ?_
  refine Go_iload_n (pc' := 779) dL_law_778 rfl rfl rfl ?_
  refine Go_iconst (v := 2) (pc' := 780) dL_law_779 rfl (by decide) ?_
  refine Go_iadd (pc' := 781) dL_law_780 rfl ?_
  refine Go_scriptLd (pc' := 782) dL_law_781 rfl (by exact scr_ix (k := 2) (by decide) hi hL) ?_
  refine Go_aload_n (pc' := 783) dL_law_782 rfl rfl rfl ?_
  refine Go_iload_n (pc' := 784) dL_law_783 rfl rfl rfl ?_
  refine Go_iconst (v := 3) (pc' := 785) dL_law_784 rfl (by decide) ?_
  refine Go_iadd (pc' := 786) dL_law_785 rfl ?_
  refine Go_scriptLd (pc' := 787) dL_law_786 rfl (by exact scr_ix (k := 3) (by decide) hi hL) ?_
  refine Go_aload_n (pc' := 788) dL_law_787 rfl rfl rfl ?_
  refine Go_iload_n (pc' := 789) dL_law_788 rfl rfl rfl ?_
  refine Go_iconst (v := 4) (pc' := 790) dL_law_789 rfl (by decide) ?_
  refine Go_iadd (pc' := 791) dL_law_790 rfl ?_
  refine Go_scriptLd (pc' := 792) dL_law_791 rfl (by exact scr_ix (k := 4) (by decide) hi hL) ?_
  refine Go_aload_n (pc' := 793) dL_law_792 rfl rfl rfl ?_
  refine Go_iload_n (pc' := 794) dL_law_793 rfl rfl rfl ?_
  refine Go_iconst (v := 5) (pc' := 795) dL_law_794 rfl (by decide) ?_
  refine Go_iadd (pc' := 796) dL_law_795 rfl ?_
  refine Go_scriptLd (pc' := 797) dL_law_796 rfl (by exact scr_ix (k := 5) (by decide) hi hL) ?_
  refine Go_callV_i (pc' := 800) (As := [.int _, .int _, .int _, .int _, .int _]) (st := [.int _]) dL_law_797 rfl ok_X12_kind km_RL_75 (hS1.o 99 rfl rfl rfl) (hS1.b 99 rfl rfl) ⟨_, _, rfl⟩ rfl (Nat.le_of_ble_eq_true rfl) rfl rfl rfl (Nat.le_of_ble_eq_true rfl) (Nat.lt_succ_self _) ?_
  refine p2 r h1 hq _ (fun h2 I2 => ?_)
  refine ⟨_, rfl, ?_⟩
  refine Go_icmp_eq (tgt := 1786) (pc' := 803) dL_law_800 (by decide) rfl (fun c800 => ?_) (fun c800 => ?_)
  · exact kk h2 I2
  · refine Go_iconst (v := 0) (pc' := 804) dL_law_803 rfl (by decide) ?_
    refine Go_ireturn (ty := .boolean) dL_law_804 rfl rfl ?_
    exact absurd rfl c800
set_option maxRecDepth 20000 in
theorem law_c14 {G : GC} {mc ms i : Nat} {h : HS} {K : Option Value → HS → Prop} (I : Inv h) (hi : i + 6 ≤ gL G) (hL : gL G ≤ 3072) (P : ∀ a b c e f : Int32, PairI G M_X11_feed M_X12_feed [.int a, .int b, .int c, .int e, .int f]) (kk : ∀ h2, Inv h2 → Go G 61 mc ms M_L_law 1786 [.ref 0, .ref 64, .ref 99, .int (nI i)] [] h2 K) : Go G 61 (mc + 8) (ms + 400) M_L_law 805 [.ref 0, .ref 64, .ref 99, .int (nI i)] [] h K := by
  obtain ⟨Q, p1, p2⟩ := P _ _ _ _ _ h I
  refine Go_aload_n (pc' := 806) dL_law_805 rfl rfl rfl ?_
  refine Go_aload_n (pc' := 807) dL_law_806 rfl rfl rfl ?_
  refine Go_iload_n (pc' := 808) dL_law_807 rfl rfl rfl ?_
  refine Go_iconst (v := 1) (pc' := 809) dL_law_808 rfl (by decide) ?_
  refine Go_iadd (pc' := 810) dL_law_809 rfl ?_
  refine Go_scriptLd (pc' := 811) dL_law_810 rfl (by exact scr_ix (k := 1) (by decide) hi hL) ?_
  refine Go_aload_n (pc' := 812) dL_law_811 rfl rfl rfl ?_
  refine Go_iload_n (pc' := 813) dL_law_812 rfl rfl rfl ?_
  refine Go_iconst (v := 2) (pc' := 814) dL_law_813 rfl (by decide) ?_
  refine Go_iadd (pc' := 815) dL_law_814 rfl ?_
  refine Go_scriptLd (pc' := 816) dL_law_815 rfl (by exact scr_ix (k := 2) (by decide) hi hL) ?_
  refine Go_aload_n (pc' := 817) dL_law_816 rfl rfl rfl ?_
  refine Go_iload_n (pc' := 818) dL_law_817 rfl rfl rfl ?_
  refine Go_iconst (v := 3) (pc' := 819) dL_law_818 rfl (by decide) ?_
  refine Go_iadd (pc' := 820) dL_law_819 rfl ?_
  refine Go_scriptLd (pc' := 821) dL_law_820 rfl (by exact scr_ix (k := 3) (by decide) hi hL) ?_
  refine Go_aload_n (pc' := 822) dL_law_821 rfl rfl rfl ?_
  refine Go_iload_n (pc' := 823) dL_law_822 rfl rfl rfl ?_
  refine Go_iconst (v := 4) (pc' := 824) dL_law_823 rfl (by decide) ?_
  refine Go_iadd (pc' := 825) dL_law_824 rfl ?_
  refine Go_scriptLd (pc' := 826) dL_law_825 rfl (by exact scr_ix (k := 4) (by decide) hi hL) ?_
  refine Go_aload_n (pc' := 827) dL_law_826 rfl rfl rfl ?_
  refine Go_iload_n (pc' := 828) dL_law_827 rfl rfl rfl ?_
  refine Go_iconst (v := 5) (pc' := 829) dL_law_828 rfl (by decide) ?_
  refine Go_iadd (pc' := 830) dL_law_829 rfl ?_
  refine Go_scriptLd (pc' := 831) dL_law_830 rfl (by exact scr_ix (k := 5) (by decide) hi hL) ?_
  refine Go_callV_iA (mc := mc) (ms := ms) (mc2 := 8) (ms2 := 400) (pc' := 834) (As := [.int _, .int _, .int _, .int _, .int _]) (st := []) dL_law_831 rfl ok_X11_feed km_RL_76 (I.S.o 64 rfl rfl rfl) (I.S.b 64 rfl rfl) ⟨_, _, rfl⟩ rfl (Nat.le_of_ble_eq_true rfl) rfl rfl rfl (Nat.le_of_ble_eq_true rfl) (Nat.lt_succ_self _) (by omega) (by omega) ?_
  refine p1 _ (fun r h1 hq hS1 => ?_)
  refine ⟨_, rfl, ?_⟩
  refine Go_aload_n (pc' := 835) dL_law_834 rfl rfl rfl ?_
  refine Go_aload_n (pc' := 836) dL_law_835 rfl rfl rfl ?_
  refine Go_iload_n (pc' := 837) dL_law_836 rfl rfl rfl ?_
  refine Go_iconst (v := 1) (pc' := 838) dL_law_837 rfl (by decide) ?_
  refine Go_iadd (pc' := 839) dL_law_838 rfl ?_
  refine Go_scriptLd (pc' := 840) dL_law_839 rfl (by exact scr_ix (k := 1) (by decide) hi hL) ?_
  refine Go_aload_n (pc' := 841) dL_law_840 rfl rfl rfl ?_
  refine Go_iload_n (pc' := 842) dL_law_841 rfl rfl rfl ?_
  refine Go_iconst (v := 2) (pc' := 843) dL_law_842 rfl (by decide) ?_
  refine Go_iadd (pc' := 844) dL_law_843 rfl ?_
  refine Go_scriptLd (pc' := 845) dL_law_844 rfl (by exact scr_ix (k := 2) (by decide) hi hL) ?_
  refine Go_aload_n (pc' := 846) dL_law_845 rfl rfl rfl ?_
  refine Go_iload_n (pc' := 847) dL_law_846 rfl rfl rfl ?_
  refine Go_iconst (v := 3) (pc' := 848) dL_law_847 rfl (by decide) ?_
  refine Go_iadd (pc' := 849) dL_law_848 rfl ?_
  refine Go_scriptLd (pc' := 850) dL_law_849 rfl (by exact scr_ix (k := 3) (by decide) hi hL) ?_
  refine Go_aload_n (pc' := 851) dL_law_850 rfl rfl rfl ?_
  refine Go_iload_n (pc' := 852) dL_law_851 rfl rfl rfl ?_
  refine Go_iconst (v := 4) (pc' := 853) dL_law_852 rfl (by decide) ?_
  refine Go_iadd (pc' := 854) dL_law_853 rfl ?_
  refine Go_scriptLd (pc' := 855) dL_law_854 rfl (by exact scr_ix (k := 4) (by decide) hi hL) ?_
  refine Go_aload_n (pc' := 856) dL_law_855 rfl rfl rfl ?_
  refine Go_iload_n (pc' := 857) dL_law_856 rfl rfl rfl ?_
  refine Go_iconst (v := 5) (pc' := 858) dL_law_857 rfl (by decide) ?_
  refine Go_iadd (pc' := 859) dL_law_858 rfl ?_
  refine Go_scriptLd (pc' := 860) dL_law_859 rfl (by exact scr_ix (k := 5) (by decide) hi hL) ?_
  refine Go_callV_i (pc' := 863) (As := [.int _, .int _, .int _, .int _, .int _]) (st := [.int _]) dL_law_860 rfl ok_X12_feed km_RL_79 (hS1.o 99 rfl rfl rfl) (hS1.b 99 rfl rfl) ⟨_, _, rfl⟩ rfl (Nat.le_of_ble_eq_true rfl) rfl rfl rfl (Nat.le_of_ble_eq_true rfl) (Nat.lt_succ_self _) ?_
  refine p2 r h1 hq _ (fun h2 I2 => ?_)
  refine ⟨_, rfl, ?_⟩
  refine Go_icmp_eq (tgt := 1786) (pc' := 866) dL_law_863 (by decide) rfl (fun c863 => ?_) (fun c863 => ?_)
  · exact kk h2 I2
  · refine Go_iconst (v := 0) (pc' := 867) dL_law_866 rfl (by decide) ?_
    refine Go_ireturn (ty := .boolean) dL_law_867 rfl rfl ?_
    exact absurd rfl c863
set_option maxRecDepth 20000 in
theorem law_c15 {G : GC} {mc ms i : Nat} {h : HS} {K : Option Value → HS → Prop} (I : Inv h) (hi : i + 6 ≤ gL G) (hL : gL G ≤ 3072) (P : ∀ a : Int32, PairI G M_X11_end M_X12_end [.int a]) (kk : ∀ h2, Inv h2 → Go G 61 mc ms M_L_law 1786 [.ref 0, .ref 64, .ref 99, .int (nI i)] [] h2 K) : Go G 61 (mc + 8) (ms + 400) M_L_law 868 [.ref 0, .ref 64, .ref 99, .int (nI i)] [] h K := by
  obtain ⟨Q, p1, p2⟩ := P _ h I
  refine Go_aload_n (pc' := 869) dL_law_868 rfl rfl rfl ?_
  refine Go_aload_n (pc' := 870) dL_law_869 rfl rfl rfl ?_
  refine Go_iload_n (pc' := 871) dL_law_870 rfl rfl rfl ?_
  refine Go_iconst (v := 1) (pc' := 872) dL_law_871 rfl (by decide) ?_
  refine Go_iadd (pc' := 873) dL_law_872 rfl ?_
  refine Go_scriptLd (pc' := 874) dL_law_873 rfl (by exact scr_ix (k := 1) (by decide) hi hL) ?_
  refine Go_callV_iA (mc := mc) (ms := ms) (mc2 := 8) (ms2 := 400) (pc' := 877) (As := [.int _]) (st := []) dL_law_874 rfl ok_X11_end km_RL_80 (I.S.o 64 rfl rfl rfl) (I.S.b 64 rfl rfl) ⟨_, _, rfl⟩ rfl (Nat.le_of_ble_eq_true rfl) rfl rfl rfl (Nat.le_of_ble_eq_true rfl) (Nat.lt_succ_self _) (by omega) (by omega) ?_
  refine p1 _ (fun r h1 hq hS1 => ?_)
  refine ⟨_, rfl, ?_⟩
  refine Go_aload_n (pc' := 878) dL_law_877 rfl rfl rfl ?_
  refine Go_aload_n (pc' := 879) dL_law_878 rfl rfl rfl ?_
  refine Go_iload_n (pc' := 880) dL_law_879 rfl rfl rfl ?_
  refine Go_iconst (v := 1) (pc' := 881) dL_law_880 rfl (by decide) ?_
  refine Go_iadd (pc' := 882) dL_law_881 rfl ?_
  refine Go_scriptLd (pc' := 883) dL_law_882 rfl (by exact scr_ix (k := 1) (by decide) hi hL) ?_
  refine Go_callV_i (pc' := 886) (As := [.int _]) (st := [.int _]) dL_law_883 rfl ok_X12_end km_RL_84 (hS1.o 99 rfl rfl rfl) (hS1.b 99 rfl rfl) ⟨_, _, rfl⟩ rfl (Nat.le_of_ble_eq_true rfl) rfl rfl rfl (Nat.le_of_ble_eq_true rfl) (Nat.lt_succ_self _) ?_
  refine p2 r h1 hq _ (fun h2 I2 => ?_)
  refine ⟨_, rfl, ?_⟩
  refine Go_icmp_eq (tgt := 1786) (pc' := 889) dL_law_886 (by decide) rfl (fun c886 => ?_) (fun c886 => ?_)
  · exact kk h2 I2
  · refine Go_iconst (v := 0) (pc' := 890) dL_law_889 rfl (by decide) ?_
    refine Go_ireturn (ty := .boolean) dL_law_890 rfl rfl ?_
    exact absurd rfl c886
set_option maxRecDepth 20000 in
theorem law_c16 {G : GC} {mc ms i : Nat} {h : HS} {K : Option Value → HS → Prop} (I : Inv h) (hi : i + 6 ≤ gL G) (hL : gL G ≤ 3072) (P : PairI G M_X11_rules M_X12_rules []) (kk : ∀ h2, Inv h2 → Go G 61 mc ms M_L_law 1786 [.ref 0, .ref 64, .ref 99, .int (nI i)] [] h2 K) : Go G 61 (mc + 8) (ms + 400) M_L_law 891 [.ref 0, .ref 64, .ref 99, .int (nI i)] [] h K := by
  obtain ⟨Q, p1, p2⟩ := P  h I
  refine Go_aload_n (pc' := 892) dL_law_891 rfl rfl rfl ?_
  refine Go_callV_iA (mc := mc) (ms := ms) (mc2 := 8) (ms2 := 400) (pc' := 895) (As := []) (st := []) dL_law_892 rfl ok_X11_rules km_RL_85 (I.S.o 64 rfl rfl rfl) (I.S.b 64 rfl rfl) ⟨_, _, rfl⟩ rfl (Nat.le_of_ble_eq_true rfl) rfl rfl rfl (Nat.le_of_ble_eq_true rfl) (Nat.lt_succ_self _) (by omega) (by omega) ?_
  refine p1 _ (fun r h1 hq hS1 => ?_)
  refine ⟨_, rfl, ?_⟩
  refine Go_aload_n (pc' := 896) dL_law_895 rfl rfl rfl ?_
  refine Go_callV_i (pc' := 899) (As := []) (st := [.int _]) dL_law_896 rfl ok_X12_rules km_RL_89 (hS1.o 99 rfl rfl rfl) (hS1.b 99 rfl rfl) ⟨_, _, rfl⟩ rfl (Nat.le_of_ble_eq_true rfl) rfl rfl rfl (Nat.le_of_ble_eq_true rfl) (Nat.lt_succ_self _) ?_
  refine p2 r h1 hq _ (fun h2 I2 => ?_)
  refine ⟨_, rfl, ?_⟩
  refine Go_icmp_eq (tgt := 1786) (pc' := 902) dL_law_899 (by decide) rfl (fun c899 => ?_) (fun c899 => ?_)
  · exact kk h2 I2
  · refine Go_iconst (v := 0) (pc' := 903) dL_law_902 rfl (by decide) ?_
    refine Go_ireturn (ty := .boolean) dL_law_903 rfl rfl ?_
    exact absurd rfl c899
set_option maxRecDepth 20000 in
theorem law_c17 {G : GC} {mc ms i : Nat} {h : HS} {K : Option Value → HS → Prop} (I : Inv h) (hi : i + 6 ≤ gL G) (hL : gL G ≤ 3072) (P : ∀ a : Int32, PairI G M_X11_fault M_X12_fault [.int a]) (kk : ∀ h2, Inv h2 → Go G 61 mc ms M_L_law 1786 [.ref 0, .ref 64, .ref 99, .int (nI i)] [] h2 K) : Go G 61 (mc + 8) (ms + 400) M_L_law 904 [.ref 0, .ref 64, .ref 99, .int (nI i)] [] h K := by
  obtain ⟨Q, p1, p2⟩ := P _ h I
  refine Go_aload_n (pc' := 905) dL_law_904 rfl rfl rfl ?_
  refine Go_aload_n (pc' := 906) dL_law_905 rfl rfl rfl ?_
  refine Go_iload_n (pc' := 907) dL_law_906 rfl rfl rfl ?_
  refine Go_iconst (v := 1) (pc' := 908) dL_law_907 rfl (by decide) ?_
  refine Go_iadd (pc' := 909) dL_law_908 rfl ?_
  refine Go_scriptLd (pc' := 910) dL_law_909 rfl (by exact scr_ix (k := 1) (by decide) hi hL) ?_
  refine Go_callV_iA (mc := mc) (ms := ms) (mc2 := 8) (ms2 := 400) (pc' := 913) (As := [.int _]) (st := []) dL_law_910 rfl ok_X11_fault km_RL_90 (I.S.o 64 rfl rfl rfl) (I.S.b 64 rfl rfl) ⟨_, _, rfl⟩ rfl (Nat.le_of_ble_eq_true rfl) rfl rfl rfl (Nat.le_of_ble_eq_true rfl) (Nat.lt_succ_self _) (by omega) (by omega) ?_
  refine p1 _ (fun r h1 hq hS1 => ?_)
  refine ⟨_, rfl, ?_⟩
  refine Go_aload_n (pc' := 914) dL_law_913 rfl rfl rfl ?_
  refine Go_aload_n (pc' := 915) dL_law_914 rfl rfl rfl ?_
  refine Go_iload_n (pc' := 916) dL_law_915 rfl rfl rfl ?_
  refine Go_iconst (v := 1) (pc' := 917) dL_law_916 rfl (by decide) ?_
  refine Go_iadd (pc' := 918) dL_law_917 rfl ?_
  refine Go_scriptLd (pc' := 919) dL_law_918 rfl (by exact scr_ix (k := 1) (by decide) hi hL) ?_
  refine Go_callV_i (pc' := 922) (As := [.int _]) (st := [.int _]) dL_law_919 rfl ok_X12_fault km_RL_93 (hS1.o 99 rfl rfl rfl) (hS1.b 99 rfl rfl) ⟨_, _, rfl⟩ rfl (Nat.le_of_ble_eq_true rfl) rfl rfl rfl (Nat.le_of_ble_eq_true rfl) (Nat.lt_succ_self _) ?_
  refine p2 r h1 hq _ (fun h2 I2 => ?_)
  refine ⟨_, rfl, ?_⟩
  refine Go_icmp_eq (tgt := 1786) (pc' := 925) dL_law_922 (by decide) rfl (fun c922 => ?_) (fun c922 => ?_)
  · exact kk h2 I2
  · refine Go_iconst (v := 0) (pc' := 926) dL_law_925 rfl (by decide) ?_
    refine Go_ireturn (ty := .boolean) dL_law_926 rfl rfl ?_
    exact absurd rfl c922
set_option maxRecDepth 20000 in
theorem law_c18 {G : GC} {mc ms i : Nat} {h : HS} {K : Option Value → HS → Prop} (I : Inv h) (hi : i + 6 ≤ gL G) (hL : gL G ≤ 3072) (P : ∀ a b : Int32, PairI G M_X11_waves M_X12_waves [.int a, .int b]) (kk : ∀ h2, Inv h2 → Go G 61 mc ms M_L_law 1786 [.ref 0, .ref 64, .ref 99, .int (nI i)] [] h2 K) : Go G 61 (mc + 8) (ms + 400) M_L_law 927 [.ref 0, .ref 64, .ref 99, .int (nI i)] [] h K := by
  obtain ⟨Q, p1, p2⟩ := P _ _ h I
  refine Go_aload_n (pc' := 928) dL_law_927 rfl rfl rfl ?_
  refine Go_aload_n (pc' := 929) dL_law_928 rfl rfl rfl ?_
  refine Go_iload_n (pc' := 930) dL_law_929 rfl rfl rfl ?_
  refine Go_iconst (v := 1) (pc' := 931) dL_law_930 rfl (by decide) ?_
  refine Go_iadd (pc' := 932) dL_law_931 rfl ?_
  refine Go_scriptLd (pc' := 933) dL_law_932 rfl (by exact scr_ix (k := 1) (by decide) hi hL) ?_
  refine Go_aload_n (pc' := 934) dL_law_933 rfl rfl rfl ?_
  refine Go_iload_n (pc' := 935) dL_law_934 rfl rfl rfl ?_
  refine Go_iconst (v := 2) (pc' := 936) dL_law_935 rfl (by decide) ?_
  refine Go_iadd (pc' := 937) dL_law_936 rfl ?_
  refine Go_scriptLd (pc' := 938) dL_law_937 rfl (by exact scr_ix (k := 2) (by decide) hi hL) ?_
  refine Go_callV_iA (mc := mc) (ms := ms) (mc2 := 8) (ms2 := 400) (pc' := 941) (As := [.int _, .int _]) (st := []) dL_law_938 rfl ok_X11_waves km_RL_94 (I.S.o 64 rfl rfl rfl) (I.S.b 64 rfl rfl) ⟨_, _, rfl⟩ rfl (Nat.le_of_ble_eq_true rfl) rfl rfl rfl (Nat.le_of_ble_eq_true rfl) (Nat.lt_succ_self _) (by omega) (by omega) ?_
  refine p1 _ (fun r h1 hq hS1 => ?_)
  refine ⟨_, rfl, ?_⟩
  refine Go_aload_n (pc' := 942) dL_law_941 rfl rfl rfl ?_
  refine Go_aload_n (pc' := 943) dL_law_942 rfl rfl rfl ?_
  refine Go_iload_n (pc' := 944) dL_law_943 rfl rfl rfl ?_
  refine Go_iconst (v := 1) (pc' := 945) dL_law_944 rfl (by decide) ?_
  refine Go_iadd (pc' := 946) dL_law_945 rfl ?_
  refine Go_scriptLd (pc' := 947) dL_law_946 rfl (by exact scr_ix (k := 1) (by decide) hi hL) ?_
  refine Go_aload_n (pc' := 948) dL_law_947 rfl rfl rfl ?_
  refine Go_iload_n (pc' := 949) dL_law_948 rfl rfl rfl ?_
  refine Go_iconst (v := 2) (pc' := 950) dL_law_949 rfl (by decide) ?_
  refine Go_iadd (pc' := 951) dL_law_950 rfl ?_
  refine Go_scriptLd (pc' := 952) dL_law_951 rfl (by exact scr_ix (k := 2) (by decide) hi hL) ?_
  refine Go_callV_i (pc' := 955) (As := [.int _, .int _]) (st := [.int _]) dL_law_952 rfl ok_X12_waves km_RL_98 (hS1.o 99 rfl rfl rfl) (hS1.b 99 rfl rfl) ⟨_, _, rfl⟩ rfl (Nat.le_of_ble_eq_true rfl) rfl rfl rfl (Nat.le_of_ble_eq_true rfl) (Nat.lt_succ_self _) ?_
  refine p2 r h1 hq _ (fun h2 I2 => ?_)
  refine ⟨_, rfl, ?_⟩
  refine Go_icmp_eq (tgt := 1786) (pc' := 958) dL_law_955 (by decide) rfl (fun c955 => ?_) (fun c955 => ?_)
  · exact kk h2 I2
  · refine Go_iconst (v := 0) (pc' := 959) dL_law_958 rfl (by decide) ?_
    refine Go_ireturn (ty := .boolean) dL_law_959 rfl rfl ?_
    exact absurd rfl c955
set_option maxRecDepth 20000 in
theorem law_c19 {G : GC} {mc ms i : Nat} {h : HS} {K : Option Value → HS → Prop} (I : Inv h) (hi : i + 6 ≤ gL G) (hL : gL G ≤ 3072) (P : PairI G M_X11_quake M_X12_quake []) (kk : ∀ h2, Inv h2 → Go G 61 mc ms M_L_law 1786 [.ref 0, .ref 64, .ref 99, .int (nI i)] [] h2 K) : Go G 61 (mc + 8) (ms + 400) M_L_law 960 [.ref 0, .ref 64, .ref 99, .int (nI i)] [] h K := by
  obtain ⟨Q, p1, p2⟩ := P  h I
  refine Go_aload_n (pc' := 961) dL_law_960 rfl rfl rfl ?_
  refine Go_callV_iA (mc := mc) (ms := ms) (mc2 := 8) (ms2 := 400) (pc' := 964) (As := []) (st := []) dL_law_961 rfl ok_X11_quake km_RL_99 (I.S.o 64 rfl rfl rfl) (I.S.b 64 rfl rfl) ⟨_, _, rfl⟩ rfl (Nat.le_of_ble_eq_true rfl) rfl rfl rfl (Nat.le_of_ble_eq_true rfl) (Nat.lt_succ_self _) (by omega) (by omega) ?_
  refine p1 _ (fun r h1 hq hS1 => ?_)
  refine ⟨_, rfl, ?_⟩
  refine Go_aload_n (pc' := 965) dL_law_964 rfl rfl rfl ?_
  refine Go_callV_i (pc' := 968) (As := []) (st := [.int _]) dL_law_965 rfl ok_X12_quake km_RL_102 (hS1.o 99 rfl rfl rfl) (hS1.b 99 rfl rfl) ⟨_, _, rfl⟩ rfl (Nat.le_of_ble_eq_true rfl) rfl rfl rfl (Nat.le_of_ble_eq_true rfl) (Nat.lt_succ_self _) ?_
  refine p2 r h1 hq _ (fun h2 I2 => ?_)
  refine ⟨_, rfl, ?_⟩
  refine Go_icmp_eq (tgt := 1786) (pc' := 971) dL_law_968 (by decide) rfl (fun c968 => ?_) (fun c968 => ?_)
  · exact kk h2 I2
  · refine Go_iconst (v := 0) (pc' := 972) dL_law_971 rfl (by decide) ?_
    refine Go_ireturn (ty := .boolean) dL_law_972 rfl rfl ?_
    exact absurd rfl c968
set_option maxRecDepth 20000 in
theorem law_c20 {G : GC} {mc ms i : Nat} {h : HS} {K : Option Value → HS → Prop} (I : Inv h) (hi : i + 6 ≤ gL G) (hL : gL G ≤ 3072) (P : ∀ a b c e : Int32, PairI G M_X11_read M_X12_read [.int a, .int b, .int c, .int e]) (kk : ∀ h2, Inv h2 → Go G 61 mc ms M_L_law 1786 [.ref 0, .ref 64, .ref 99, .int (nI i)] [] h2 K) : Go G 61 (mc + 8) (ms + 400) M_L_law 973 [.ref 0, .ref 64, .ref 99, .int (nI i)] [] h K := by
  obtain ⟨Q, p1, p2⟩ := P _ _ _ _ h I
  refine Go_aload_n (pc' := 974) dL_law_973 rfl rfl rfl ?_
  refine Go_aload_n (pc' := 975) dL_law_974 rfl rfl rfl ?_
  refine Go_iload_n (pc' := 976) dL_law_975 rfl rfl rfl ?_
  refine Go_iconst (v := 1) (pc' := 977) dL_law_976 rfl (by decide) ?_
  refine Go_iadd (pc' := 978) dL_law_977 rfl ?_
  refine Go_scriptLd (pc' := 979) dL_law_978 rfl (by exact scr_ix (k := 1) (by decide) hi hL) ?_
  refine Go_aload_n (pc' := 980) dL_law_979 rfl rfl rfl ?_
  refine Go_iload_n (pc' := 981) dL_law_980 rfl rfl rfl ?_
  refine Go_iconst (v := 2) (pc' := 982) dL_law_981 rfl (by decide) ?_
  refine Go_iadd (pc' := 983) dL_law_982 rfl ?_
  refine Go_scriptLd (pc' := 984) dL_law_983 rfl (by exact scr_ix (k := 2) (by decide) hi hL) ?_
  refine Go_aload_n (pc' := 985) dL_law_984 rfl rfl rfl ?_
  refine Go_iload_n (pc' := 986) dL_law_985 rfl rfl rfl ?_
  refine Go_iconst (v := 3) (pc' := 987) dL_law_986 rfl (by decide) ?_
  refine Go_iadd (pc' := 988) dL_law_987 rfl ?_
  refine Go_scriptLd (pc' := 989) dL_law_988 rfl (by exact scr_ix (k := 3) (by decide) hi hL) ?_
  refine Go_aload_n (pc' := 990) dL_law_989 rfl rfl rfl ?_
  refine Go_iload_n (pc' := 991) dL_law_990 rfl rfl rfl ?_
  refine Go_iconst (v := 4) (pc' := 992) dL_law_991 rfl (by decide) ?_
  refine Go_iadd (pc' := 993) dL_law_992 rfl ?_
  refine Go_scriptLd (pc' := 994) dL_law_993 rfl (by exact scr_ix (k := 4) (by decide) hi hL) ?_
  refine Go_callV_iA (mc := mc) (ms := ms) (mc2 := 8) (ms2 := 400) (pc' := 997) (As := [.int _, .int _, .int _, .int _]) (st := []) dL_law_994 rfl ok_X11_read km_RL_103 (I.S.o 64 rfl rfl rfl) (I.S.b 64 rfl rfl) ⟨_, _, rfl⟩ rfl (Nat.le_of_ble_eq_true rfl) rfl rfl rfl (Nat.le_of_ble_eq_true rfl) (Nat.lt_succ_self _) (by omega) (by omega) ?_
  refine p1 _ (fun r h1 hq hS1 => ?_)
  refine ⟨_, rfl, ?_⟩
  refine Go_aload_n (pc' := 998) dL_law_997 rfl rfl rfl ?_
  refine Go_aload_n (pc' := 999) dL_law_998 rfl rfl rfl ?_
  refine Go_iload_n (pc' := 1000) dL_law_999 rfl rfl rfl ?_
  refine Go_iconst (v := 1) (pc' := 1001) dL_law_1000 rfl (by decide) ?_
  refine Go_iadd (pc' := 1002) dL_law_1001 rfl ?_
  refine Go_scriptLd (pc' := 1003) dL_law_1002 rfl (by exact scr_ix (k := 1) (by decide) hi hL) ?_
  refine Go_aload_n (pc' := 1004) dL_law_1003 rfl rfl rfl ?_
  refine Go_iload_n (pc' := 1005) dL_law_1004 rfl rfl rfl ?_
  refine Go_iconst (v := 2) (pc' := 1006) dL_law_1005 rfl (by decide) ?_
  refine Go_iadd (pc' := 1007) dL_law_1006 rfl ?_
  refine Go_scriptLd (pc' := 1008) dL_law_1007 rfl (by exact scr_ix (k := 2) (by decide) hi hL) ?_
  refine Go_aload_n (pc' := 1009) dL_law_1008 rfl rfl rfl ?_
  refine Go_iload_n (pc' := 1010) dL_law_1009 rfl rfl rfl ?_
  refine Go_iconst (v := 3) (pc' := 1011) dL_law_1010 rfl (by decide) ?_
  refine Go_iadd (pc' := 1012) dL_law_1011 rfl ?_
  refine Go_scriptLd (pc' := 1013) dL_law_1012 rfl (by exact scr_ix (k := 3) (by decide) hi hL) ?_
  refine Go_aload_n (pc' := 1014) dL_law_1013 rfl rfl rfl ?_
  refine Go_iload_n (pc' := 1015) dL_law_1014 rfl rfl rfl ?_
  refine Go_iconst (v := 4) (pc' := 1016) dL_law_1015 rfl (by decide) ?_
  refine Go_iadd (pc' := 1017) dL_law_1016 rfl ?_
  refine Go_scriptLd (pc' := 1018) dL_law_1017 rfl (by exact scr_ix (k := 4) (by decide) hi hL) ?_
  refine Go_callV_i (pc' := 1021) (As := [.int _, .int _, .int _, .int _]) (st := [.int _]) dL_law_1018 rfl ok_X12_read km_RL_106 (hS1.o 99 rfl rfl rfl) (hS1.b 99 rfl rfl) ⟨_, _, rfl⟩ rfl (Nat.le_of_ble_eq_true rfl) rfl rfl rfl (Nat.le_of_ble_eq_true rfl) (Nat.lt_succ_self _) ?_
  refine p2 r h1 hq _ (fun h2 I2 => ?_)
  refine ⟨_, rfl, ?_⟩
  refine Go_icmp_eq (tgt := 1786) (pc' := 1024) dL_law_1021 (by decide) rfl (fun c1021 => ?_) (fun c1021 => ?_)
  · exact kk h2 I2
  · refine Go_iconst (v := 0) (pc' := 1025) dL_law_1024 rfl (by decide) ?_
    refine Go_ireturn (ty := .boolean) dL_law_1025 rfl rfl ?_
    exact absurd rfl c1021
set_option maxRecDepth 20000 in
theorem law_c21 {G : GC} {mc ms i : Nat} {h : HS} {K : Option Value → HS → Prop} (I : Inv h) (hi : i + 6 ≤ gL G) (hL : gL G ≤ 3072) (P : ∀ a b c e : Int32, PairI G M_X11_second M_X12_second [.int a, .int b, .int c, .int e]) (kk : ∀ h2, Inv h2 → Go G 61 mc ms M_L_law 1786 [.ref 0, .ref 64, .ref 99, .int (nI i)] [] h2 K) : Go G 61 (mc + 8) (ms + 400) M_L_law 1026 [.ref 0, .ref 64, .ref 99, .int (nI i)] [] h K := by
  obtain ⟨Q, p1, p2⟩ := P _ _ _ _ h I
  refine Go_aload_n (pc' := 1027) dL_law_1026 rfl rfl rfl ?_
  refine Go_aload_n (pc' := 1028) dL_law_1027 rfl rfl rfl ?_
  refine Go_iload_n (pc' := 1029) dL_law_1028 rfl rfl rfl ?_
  refine Go_iconst (v := 1) (pc' := 1030) dL_law_1029 rfl (by decide) ?_
  refine Go_iadd (pc' := 1031) dL_law_1030 rfl ?_
  refine Go_scriptLd (pc' := 1032) dL_law_1031 rfl (by exact scr_ix (k := 1) (by decide) hi hL) ?_
  refine Go_aload_n (pc' := 1033) dL_law_1032 rfl rfl rfl ?_
  refine Go_iload_n (pc' := 1034) dL_law_1033 rfl rfl rfl ?_
  refine Go_iconst (v := 2) (pc' := 1035) dL_law_1034 rfl (by decide) ?_
  refine Go_iadd (pc' := 1036) dL_law_1035 rfl ?_
  refine Go_scriptLd (pc' := 1037) dL_law_1036 rfl (by exact scr_ix (k := 2) (by decide) hi hL) ?_
  refine Go_aload_n (pc' := 1038) dL_law_1037 rfl rfl rfl ?_
  refine Go_iload_n (pc' := 1039) dL_law_1038 rfl rfl rfl ?_
  refine Go_iconst (v := 3) (pc' := 1040) dL_law_1039 rfl (by decide) ?_
  refine Go_iadd (pc' := 1041) dL_law_1040 rfl ?_
  refine Go_scriptLd (pc' := 1042) dL_law_1041 rfl (by exact scr_ix (k := 3) (by decide) hi hL) ?_
  refine Go_aload_n (pc' := 1043) dL_law_1042 rfl rfl rfl ?_
  refine Go_iload_n (pc' := 1044) dL_law_1043 rfl rfl rfl ?_
  refine Go_iconst (v := 4) (pc' := 1045) dL_law_1044 rfl (by decide) ?_
  refine Go_iadd (pc' := 1046) dL_law_1045 rfl ?_
  refine Go_scriptLd (pc' := 1047) dL_law_1046 rfl (by exact scr_ix (k := 4) (by decide) hi hL) ?_
  refine Go_callV_iA (mc := mc) (ms := ms) (mc2 := 8) (ms2 := 400) (pc' := 1050) (As := [.int _, .int _, .int _, .int _]) (st := []) dL_law_1047 rfl ok_X11_second km_RL_107 (I.S.o 64 rfl rfl rfl) (I.S.b 64 rfl rfl) ⟨_, _, rfl⟩ rfl (Nat.le_of_ble_eq_true rfl) rfl rfl rfl (Nat.le_of_ble_eq_true rfl) (Nat.lt_succ_self _) (by omega) (by omega) ?_
  refine p1 _ (fun r h1 hq hS1 => ?_)
  refine ⟨_, rfl, ?_⟩
  refine Go_aload_n (pc' := 1051) dL_law_1050 rfl rfl rfl ?_
  refine Go_aload_n (pc' := 1052) dL_law_1051 rfl rfl rfl ?_
  refine Go_iload_n (pc' := 1053) dL_law_1052 rfl rfl rfl ?_
  refine Go_iconst (v := 1) (pc' := 1054) dL_law_1053 rfl (by decide) ?_
  refine Go_iadd (pc' := 1055) dL_law_1054 rfl ?_
  refine Go_scriptLd (pc' := 1056) dL_law_1055 rfl (by exact scr_ix (k := 1) (by decide) hi hL) ?_
  refine Go_aload_n (pc' := 1057) dL_law_1056 rfl rfl rfl ?_
  refine Go_iload_n (pc' := 1058) dL_law_1057 rfl rfl rfl ?_
  refine Go_iconst (v := 2) (pc' := 1059) dL_law_1058 rfl (by decide) ?_
  refine Go_iadd (pc' := 1060) dL_law_1059 rfl ?_
  refine Go_scriptLd (pc' := 1061) dL_law_1060 rfl (by exact scr_ix (k := 2) (by decide) hi hL) ?_
  refine Go_aload_n (pc' := 1062) dL_law_1061 rfl rfl rfl ?_
  refine Go_iload_n (pc' := 1063) dL_law_1062 rfl rfl rfl ?_
  refine Go_iconst (v := 3) (pc' := 1064) dL_law_1063 rfl (by decide) ?_
  refine Go_iadd (pc' := 1065) dL_law_1064 rfl ?_
  refine Go_scriptLd (pc' := 1066) dL_law_1065 rfl (by exact scr_ix (k := 3) (by decide) hi hL) ?_
  refine Go_aload_n (pc' := 1067) dL_law_1066 rfl rfl rfl ?_
  refine Go_iload_n (pc' := 1068) dL_law_1067 rfl rfl rfl ?_
  refine Go_iconst (v := 4) (pc' := 1069) dL_law_1068 rfl (by decide) ?_
  refine Go_iadd (pc' := 1070) dL_law_1069 rfl ?_
  refine Go_scriptLd (pc' := 1071) dL_law_1070 rfl (by exact scr_ix (k := 4) (by decide) hi hL) ?_
  refine Go_callV_i (pc' := 1074) (As := [.int _, .int _, .int _, .int _]) (st := [.int _]) dL_law_1071 rfl ok_X12_second km_RL_110 (hS1.o 99 rfl rfl rfl) (hS1.b 99 rfl rfl) ⟨_, _, rfl⟩ rfl (Nat.le_of_ble_eq_true rfl) rfl rfl rfl (Nat.le_of_ble_eq_true rfl) (Nat.lt_succ_self _) ?_
  refine p2 r h1 hq _ (fun h2 I2 => ?_)
  refine ⟨_, rfl, ?_⟩
  refine Go_icmp_eq (tgt := 1786) (pc' := 1077) dL_law_1074 (by decide) rfl (fun c1074 => ?_) (fun c1074 => ?_)
  · exact kk h2 I2
  · refine Go_iconst (v := 0) (pc' := 1078) dL_law_1077 rfl (by decide) ?_
    refine Go_ireturn (ty := .boolean) dL_law_1078 rfl rfl ?_
    exact absurd rfl c1074
set_option maxRecDepth 20000 in
theorem law_c22 {G : GC} {mc ms i : Nat} {h : HS} {K : Option Value → HS → Prop} (I : Inv h) (hi : i + 6 ≤ gL G) (hL : gL G ≤ 3072) (P : ∀ a b c e : Int32, PairI G M_X11_beat M_X12_beat [.int a, .int b, .int c, .int e]) (kk : ∀ h2, Inv h2 → Go G 61 mc ms M_L_law 1786 [.ref 0, .ref 64, .ref 99, .int (nI i)] [] h2 K) : Go G 61 (mc + 8) (ms + 400) M_L_law 1079 [.ref 0, .ref 64, .ref 99, .int (nI i)] [] h K := by
  obtain ⟨Q, p1, p2⟩ := P _ _ _ _ h I
  refine Go_aload_n (pc' := 1080) dL_law_1079 rfl rfl rfl ?_
  refine Go_aload_n (pc' := 1081) dL_law_1080 rfl rfl rfl ?_
  refine Go_iload_n (pc' := 1082) dL_law_1081 rfl rfl rfl ?_
  refine Go_iconst (v := 1) (pc' := 1083) dL_law_1082 rfl (by decide) ?_
  refine Go_iadd (pc' := 1084) dL_law_1083 rfl ?_
  refine Go_scriptLd (pc' := 1085) dL_law_1084 rfl (by exact scr_ix (k := 1) (by decide) hi hL) ?_
  refine Go_aload_n (pc' := 1086) dL_law_1085 rfl rfl rfl ?_
  refine Go_iload_n (pc' := 1087) dL_law_1086 rfl rfl rfl ?_
  refine Go_iconst (v := 2) (pc' := 1088) dL_law_1087 rfl (by decide) ?_
  refine Go_iadd (pc' := 1089) dL_law_1088 rfl ?_
  refine Go_scriptLd (pc' := 1090) dL_law_1089 rfl (by exact scr_ix (k := 2) (by decide) hi hL) ?_
  refine Go_aload_n (pc' := 1091) dL_law_1090 rfl rfl rfl ?_
  refine Go_iload_n (pc' := 1092) dL_law_1091 rfl rfl rfl ?_
  refine Go_iconst (v := 3) (pc' := 1093) dL_law_1092 rfl (by decide) ?_
  refine Go_iadd (pc' := 1094) dL_law_1093 rfl ?_
  refine Go_scriptLd (pc' := 1095) dL_law_1094 rfl (by exact scr_ix (k := 3) (by decide) hi hL) ?_
  refine Go_aload_n (pc' := 1096) dL_law_1095 rfl rfl rfl ?_
  refine Go_iload_n (pc' := 1097) dL_law_1096 rfl rfl rfl ?_
  refine Go_iconst (v := 4) (pc' := 1098) dL_law_1097 rfl (by decide) ?_
  refine Go_iadd (pc' := 1099) dL_law_1098 rfl ?_
  refine Go_scriptLd (pc' := 1100) dL_law_1099 rfl (by exact scr_ix (k := 4) (by decide) hi hL) ?_
  refine Go_callV_iA (mc := mc) (ms := ms) (mc2 := 8) (ms2 := 400) (pc' := 1103) (As := [.int _, .int _, .int _, .int _]) (st := []) dL_law_1100 rfl ok_X11_beat km_RL_111 (I.S.o 64 rfl rfl rfl) (I.S.b 64 rfl rfl) ⟨_, _, rfl⟩ rfl (Nat.le_of_ble_eq_true rfl) rfl rfl rfl (Nat.le_of_ble_eq_true rfl) (Nat.lt_succ_self _) (by omega) (by omega) ?_
  refine p1 _ (fun r h1 hq hS1 => ?_)
  refine ⟨_, rfl, ?_⟩
  refine Go_aload_n (pc' := 1104) dL_law_1103 rfl rfl rfl ?_
  refine Go_aload_n (pc' := 1105) dL_law_1104 rfl rfl rfl ?_
  refine Go_iload_n (pc' := 1106) dL_law_1105 rfl rfl rfl ?_
  refine Go_iconst (v := 1) (pc' := 1107) dL_law_1106 rfl (by decide) ?_
  refine Go_iadd (pc' := 1108) dL_law_1107 rfl ?_
  refine Go_scriptLd (pc' := 1109) dL_law_1108 rfl (by exact scr_ix (k := 1) (by decide) hi hL) ?_
  refine Go_aload_n (pc' := 1110) dL_law_1109 rfl rfl rfl ?_
  refine Go_iload_n (pc' := 1111) dL_law_1110 rfl rfl rfl ?_
  refine Go_iconst (v := 2) (pc' := 1112) dL_law_1111 rfl (by decide) ?_
  refine Go_iadd (pc' := 1113) dL_law_1112 rfl ?_
  refine Go_scriptLd (pc' := 1114) dL_law_1113 rfl (by exact scr_ix (k := 2) (by decide) hi hL) ?_
  refine Go_aload_n (pc' := 1115) dL_law_1114 rfl rfl rfl ?_
  refine Go_iload_n (pc' := 1116) dL_law_1115 rfl rfl rfl ?_
  refine Go_iconst (v := 3) (pc' := 1117) dL_law_1116 rfl (by decide) ?_
  refine Go_iadd (pc' := 1118) dL_law_1117 rfl ?_
  refine Go_scriptLd (pc' := 1119) dL_law_1118 rfl (by exact scr_ix (k := 3) (by decide) hi hL) ?_
  refine Go_aload_n (pc' := 1120) dL_law_1119 rfl rfl rfl ?_
  refine Go_iload_n (pc' := 1121) dL_law_1120 rfl rfl rfl ?_
  refine Go_iconst (v := 4) (pc' := 1122) dL_law_1121 rfl (by decide) ?_
  refine Go_iadd (pc' := 1123) dL_law_1122 rfl ?_
  refine Go_scriptLd (pc' := 1124) dL_law_1123 rfl (by exact scr_ix (k := 4) (by decide) hi hL) ?_
  refine Go_callV_i (pc' := 1127) (As := [.int _, .int _, .int _, .int _]) (st := [.int _]) dL_law_1124 rfl ok_X12_beat km_RL_114 (hS1.o 99 rfl rfl rfl) (hS1.b 99 rfl rfl) ⟨_, _, rfl⟩ rfl (Nat.le_of_ble_eq_true rfl) rfl rfl rfl (Nat.le_of_ble_eq_true rfl) (Nat.lt_succ_self _) ?_
  refine p2 r h1 hq _ (fun h2 I2 => ?_)
  refine ⟨_, rfl, ?_⟩
  refine Go_icmp_eq (tgt := 1786) (pc' := 1130) dL_law_1127 (by decide) rfl (fun c1127 => ?_) (fun c1127 => ?_)
  · exact kk h2 I2
  · refine Go_iconst (v := 0) (pc' := 1131) dL_law_1130 rfl (by decide) ?_
    refine Go_ireturn (ty := .boolean) dL_law_1131 rfl rfl ?_
    exact absurd rfl c1127
set_option maxRecDepth 20000 in
theorem law_c23 {G : GC} {mc ms i : Nat} {h : HS} {K : Option Value → HS → Prop} (I : Inv h) (hi : i + 6 ≤ gL G) (hL : gL G ≤ 3072) (P : ∀ a b c : Int32, PairI G M_X11_fits M_X12_fits [.int a, .int b, .int c]) (kk : ∀ h2, Inv h2 → Go G 61 mc ms M_L_law 1786 [.ref 0, .ref 64, .ref 99, .int (nI i)] [] h2 K) : Go G 61 (mc + 8) (ms + 400) M_L_law 1132 [.ref 0, .ref 64, .ref 99, .int (nI i)] [] h K := by
  obtain ⟨Q, p1, p2⟩ := P _ _ _ h I
  refine Go_aload_n (pc' := 1133) dL_law_1132 rfl rfl rfl ?_
  refine Go_aload_n (pc' := 1134) dL_law_1133 rfl rfl rfl ?_
  refine Go_iload_n (pc' := 1135) dL_law_1134 rfl rfl rfl ?_
  refine Go_iconst (v := 1) (pc' := 1136) dL_law_1135 rfl (by decide) ?_
  refine Go_iadd (pc' := 1137) dL_law_1136 rfl ?_
  refine Go_scriptLd (pc' := 1138) dL_law_1137 rfl (by exact scr_ix (k := 1) (by decide) hi hL) ?_
  refine Go_aload_n (pc' := 1139) dL_law_1138 rfl rfl rfl ?_
  refine Go_iload_n (pc' := 1140) dL_law_1139 rfl rfl rfl ?_
  refine Go_iconst (v := 2) (pc' := 1141) dL_law_1140 rfl (by decide) ?_
  refine Go_iadd (pc' := 1142) dL_law_1141 rfl ?_
  refine Go_scriptLd (pc' := 1143) dL_law_1142 rfl (by exact scr_ix (k := 2) (by decide) hi hL) ?_
  refine Go_aload_n (pc' := 1144) dL_law_1143 rfl rfl rfl ?_
  refine Go_iload_n (pc' := 1145) dL_law_1144 rfl rfl rfl ?_
  refine Go_iconst (v := 3) (pc' := 1146) dL_law_1145 rfl (by decide) ?_
  refine Go_iadd (pc' := 1147) dL_law_1146 rfl ?_
  refine Go_scriptLd (pc' := 1148) dL_law_1147 rfl (by exact scr_ix (k := 3) (by decide) hi hL) ?_
  refine Go_callV_iA (mc := mc) (ms := ms) (mc2 := 8) (ms2 := 400) (pc' := 1151) (As := [.int _, .int _, .int _]) (st := []) dL_law_1148 rfl ok_X11_fits km_RL_115 (I.S.o 64 rfl rfl rfl) (I.S.b 64 rfl rfl) ⟨_, _, rfl⟩ rfl (Nat.le_of_ble_eq_true rfl) rfl rfl rfl (Nat.le_of_ble_eq_true rfl) (Nat.lt_succ_self _) (by omega) (by omega) ?_
  refine p1 _ (fun r h1 hq hS1 => ?_)
  refine ⟨_, rfl, ?_⟩
  refine Go_aload_n (pc' := 1152) dL_law_1151 rfl rfl rfl ?_
  refine Go_aload_n (pc' := 1153) dL_law_1152 rfl rfl rfl ?_
  refine Go_iload_n (pc' := 1154) dL_law_1153 rfl rfl rfl ?_
  refine Go_iconst (v := 1) (pc' := 1155) dL_law_1154 rfl (by decide) ?_
  refine Go_iadd (pc' := 1156) dL_law_1155 rfl ?_
  refine Go_scriptLd (pc' := 1157) dL_law_1156 rfl (by exact scr_ix (k := 1) (by decide) hi hL) ?_
  refine Go_aload_n (pc' := 1158) dL_law_1157 rfl rfl rfl ?_
  refine Go_iload_n (pc' := 1159) dL_law_1158 rfl rfl rfl ?_
  refine Go_iconst (v := 2) (pc' := 1160) dL_law_1159 rfl (by decide) ?_
  refine Go_iadd (pc' := 1161) dL_law_1160 rfl ?_
  refine Go_scriptLd (pc' := 1162) dL_law_1161 rfl (by exact scr_ix (k := 2) (by decide) hi hL) ?_
  refine Go_aload_n (pc' := 1163) dL_law_1162 rfl rfl rfl ?_
  refine Go_iload_n (pc' := 1164) dL_law_1163 rfl rfl rfl ?_
  refine Go_iconst (v := 3) (pc' := 1165) dL_law_1164 rfl (by decide) ?_
  refine Go_iadd (pc' := 1166) dL_law_1165 rfl ?_
  refine Go_scriptLd (pc' := 1167) dL_law_1166 rfl (by exact scr_ix (k := 3) (by decide) hi hL) ?_
  refine Go_callV_i (pc' := 1170) (As := [.int _, .int _, .int _]) (st := [.int _]) dL_law_1167 rfl ok_X12_fits km_RL_119 (hS1.o 99 rfl rfl rfl) (hS1.b 99 rfl rfl) ⟨_, _, rfl⟩ rfl (Nat.le_of_ble_eq_true rfl) rfl rfl rfl (Nat.le_of_ble_eq_true rfl) (Nat.lt_succ_self _) ?_
  refine p2 r h1 hq _ (fun h2 I2 => ?_)
  refine ⟨_, rfl, ?_⟩
  refine Go_icmp_eq (tgt := 1786) (pc' := 1173) dL_law_1170 (by decide) rfl (fun c1170 => ?_) (fun c1170 => ?_)
  · exact kk h2 I2
  · refine Go_iconst (v := 0) (pc' := 1174) dL_law_1173 rfl (by decide) ?_
    refine Go_ireturn (ty := .boolean) dL_law_1174 rfl rfl ?_
    exact absurd rfl c1170
set_option maxRecDepth 20000 in
theorem law_c24 {G : GC} {mc ms i : Nat} {h : HS} {K : Option Value → HS → Prop} (I : Inv h) (hi : i + 6 ≤ gL G) (hL : gL G ≤ 3072) (P : ∀ a b c : Int32, PairI G M_X11_fit M_X12_fit [.int a, .int b, .int c]) (kk : ∀ h2, Inv h2 → Go G 61 mc ms M_L_law 1786 [.ref 0, .ref 64, .ref 99, .int (nI i)] [] h2 K) : Go G 61 (mc + 8) (ms + 400) M_L_law 1175 [.ref 0, .ref 64, .ref 99, .int (nI i)] [] h K := by
  obtain ⟨Q, p1, p2⟩ := P _ _ _ h I
  refine Go_aload_n (pc' := 1176) dL_law_1175 rfl rfl rfl ?_
  refine Go_aload_n (pc' := 1177) dL_law_1176 rfl rfl rfl ?_
  refine Go_iload_n (pc' := 1178) dL_law_1177 rfl rfl rfl ?_
  refine Go_iconst (v := 1) (pc' := 1179) dL_law_1178 rfl (by decide) ?_
  refine Go_iadd (pc' := 1180) dL_law_1179 rfl ?_
  refine Go_scriptLd (pc' := 1181) dL_law_1180 rfl (by exact scr_ix (k := 1) (by decide) hi hL) ?_
  refine Go_aload_n (pc' := 1182) dL_law_1181 rfl rfl rfl ?_
  refine Go_iload_n (pc' := 1183) dL_law_1182 rfl rfl rfl ?_
  refine Go_iconst (v := 2) (pc' := 1184) dL_law_1183 rfl (by decide) ?_
  refine Go_iadd (pc' := 1185) dL_law_1184 rfl ?_
  refine Go_scriptLd (pc' := 1186) dL_law_1185 rfl (by exact scr_ix (k := 2) (by decide) hi hL) ?_
  refine Go_aload_n (pc' := 1187) dL_law_1186 rfl rfl rfl ?_
  refine Go_iload_n (pc' := 1188) dL_law_1187 rfl rfl rfl ?_
  refine Go_iconst (v := 3) (pc' := 1189) dL_law_1188 rfl (by decide) ?_
  refine Go_iadd (pc' := 1190) dL_law_1189 rfl ?_
  refine Go_scriptLd (pc' := 1191) dL_law_1190 rfl (by exact scr_ix (k := 3) (by decide) hi hL) ?_
  refine Go_callV_iA (mc := mc) (ms := ms) (mc2 := 8) (ms2 := 400) (pc' := 1194) (As := [.int _, .int _, .int _]) (st := []) dL_law_1191 rfl ok_X11_fit km_RL_120 (I.S.o 64 rfl rfl rfl) (I.S.b 64 rfl rfl) ⟨_, _, rfl⟩ rfl (Nat.le_of_ble_eq_true rfl) rfl rfl rfl (Nat.le_of_ble_eq_true rfl) (Nat.lt_succ_self _) (by omega) (by omega) ?_
  refine p1 _ (fun r h1 hq hS1 => ?_)
  refine ⟨_, rfl, ?_⟩
  refine Go_aload_n (pc' := 1195) dL_law_1194 rfl rfl rfl ?_
  refine Go_aload_n (pc' := 1196) dL_law_1195 rfl rfl rfl ?_
  refine Go_iload_n (pc' := 1197) dL_law_1196 rfl rfl rfl ?_
  refine Go_iconst (v := 1) (pc' := 1198) dL_law_1197 rfl (by decide) ?_
  refine Go_iadd (pc' := 1199) dL_law_1198 rfl ?_
  refine Go_scriptLd (pc' := 1200) dL_law_1199 rfl (by exact scr_ix (k := 1) (by decide) hi hL) ?_
  refine Go_aload_n (pc' := 1201) dL_law_1200 rfl rfl rfl ?_
  refine Go_iload_n (pc' := 1202) dL_law_1201 rfl rfl rfl ?_
  refine Go_iconst (v := 2) (pc' := 1203) dL_law_1202 rfl (by decide) ?_
  refine Go_iadd (pc' := 1204) dL_law_1203 rfl ?_
  refine Go_scriptLd (pc' := 1205) dL_law_1204 rfl (by exact scr_ix (k := 2) (by decide) hi hL) ?_
  refine Go_aload_n (pc' := 1206) dL_law_1205 rfl rfl rfl ?_
  refine Go_iload_n (pc' := 1207) dL_law_1206 rfl rfl rfl ?_
  refine Go_iconst (v := 3) (pc' := 1208) dL_law_1207 rfl (by decide) ?_
  refine Go_iadd (pc' := 1209) dL_law_1208 rfl ?_
  refine Go_scriptLd (pc' := 1210) dL_law_1209 rfl (by exact scr_ix (k := 3) (by decide) hi hL) ?_
  refine Go_callV_i (pc' := 1213) (As := [.int _, .int _, .int _]) (st := [.int _]) dL_law_1210 rfl ok_X12_fit km_RL_123 (hS1.o 99 rfl rfl rfl) (hS1.b 99 rfl rfl) ⟨_, _, rfl⟩ rfl (Nat.le_of_ble_eq_true rfl) rfl rfl rfl (Nat.le_of_ble_eq_true rfl) (Nat.lt_succ_self _) ?_
  refine p2 r h1 hq _ (fun h2 I2 => ?_)
  refine ⟨_, rfl, ?_⟩
  refine Go_icmp_eq (tgt := 1786) (pc' := 1216) dL_law_1213 (by decide) rfl (fun c1213 => ?_) (fun c1213 => ?_)
  · exact kk h2 I2
  · refine Go_iconst (v := 0) (pc' := 1217) dL_law_1216 rfl (by decide) ?_
    refine Go_ireturn (ty := .boolean) dL_law_1217 rfl rfl ?_
    exact absurd rfl c1213
set_option maxRecDepth 20000 in
theorem law_c25 {G : GC} {mc ms i : Nat} {h : HS} {K : Option Value → HS → Prop} (I : Inv h) (hi : i + 6 ≤ gL G) (hL : gL G ≤ 3072) (P : ∀ a : Int32, PairI G M_X11_wrong M_X12_wrong [.int a]) (kk : ∀ h2, Inv h2 → Go G 61 mc ms M_L_law 1786 [.ref 0, .ref 64, .ref 99, .int (nI i)] [] h2 K) : Go G 61 (mc + 8) (ms + 400) M_L_law 1218 [.ref 0, .ref 64, .ref 99, .int (nI i)] [] h K := by
  obtain ⟨Q, p1, p2⟩ := P _ h I
  refine Go_aload_n (pc' := 1219) dL_law_1218 rfl rfl rfl ?_
  refine Go_aload_n (pc' := 1220) dL_law_1219 rfl rfl rfl ?_
  refine Go_iload_n (pc' := 1221) dL_law_1220 rfl rfl rfl ?_
  refine Go_iconst (v := 1) (pc' := 1222) dL_law_1221 rfl (by decide) ?_
  refine Go_iadd (pc' := 1223) dL_law_1222 rfl ?_
  refine Go_scriptLd (pc' := 1224) dL_law_1223 rfl (by exact scr_ix (k := 1) (by decide) hi hL) ?_
  refine Go_callV_iA (mc := mc) (ms := ms) (mc2 := 8) (ms2 := 400) (pc' := 1227) (As := [.int _]) (st := []) dL_law_1224 rfl ok_X11_wrong km_RL_124 (I.S.o 64 rfl rfl rfl) (I.S.b 64 rfl rfl) ⟨_, _, rfl⟩ rfl (Nat.le_of_ble_eq_true rfl) rfl rfl rfl (Nat.le_of_ble_eq_true rfl) (Nat.lt_succ_self _) (by omega) (by omega) ?_
  refine p1 _ (fun r h1 hq hS1 => ?_)
  refine ⟨_, rfl, ?_⟩
  refine Go_aload_n (pc' := 1228) dL_law_1227 rfl rfl rfl ?_
  refine Go_aload_n (pc' := 1229) dL_law_1228 rfl rfl rfl ?_
  refine Go_iload_n (pc' := 1230) dL_law_1229 rfl rfl rfl ?_
  refine Go_iconst (v := 1) (pc' := 1231) dL_law_1230 rfl (by decide) ?_
  refine Go_iadd (pc' := 1232) dL_law_1231 rfl ?_
  refine Go_scriptLd (pc' := 1233) dL_law_1232 rfl (by exact scr_ix (k := 1) (by decide) hi hL) ?_
  refine Go_callV_i (pc' := 1236) (As := [.int _]) (st := [.int _]) dL_law_1233 rfl ok_X12_wrong km_RL_127 (hS1.o 99 rfl rfl rfl) (hS1.b 99 rfl rfl) ⟨_, _, rfl⟩ rfl (Nat.le_of_ble_eq_true rfl) rfl rfl rfl (Nat.le_of_ble_eq_true rfl) (Nat.lt_succ_self _) ?_
  refine p2 r h1 hq _ (fun h2 I2 => ?_)
  refine ⟨_, rfl, ?_⟩
  refine Go_icmp_eq (tgt := 1786) (pc' := 1239) dL_law_1236 (by decide) rfl (fun c1236 => ?_) (fun c1236 => ?_)
  · exact kk h2 I2
  · refine Go_iconst (v := 0) (pc' := 1240) dL_law_1239 rfl (by decide) ?_
    refine Go_ireturn (ty := .boolean) dL_law_1240 rfl rfl ?_
    exact absurd rfl c1236
set_option maxRecDepth 20000 in
theorem law_c26 {G : GC} {mc ms i : Nat} {h : HS} {K : Option Value → HS → Prop} (I : Inv h) (hi : i + 6 ≤ gL G) (hL : gL G ≤ 3072) (P : ∀ a b c : Int32, PairI G M_X11_slides M_X12_slides [.int a, .int b, .int c]) (kk : ∀ h2, Inv h2 → Go G 61 mc ms M_L_law 1786 [.ref 0, .ref 64, .ref 99, .int (nI i)] [] h2 K) : Go G 61 (mc + 8) (ms + 400) M_L_law 1241 [.ref 0, .ref 64, .ref 99, .int (nI i)] [] h K := by
  obtain ⟨Q, p1, p2⟩ := P _ _ _ h I
  refine Go_aload_n (pc' := 1242) dL_law_1241 rfl rfl rfl ?_
  refine Go_aload_n (pc' := 1243) dL_law_1242 rfl rfl rfl ?_
  refine Go_iload_n (pc' := 1244) dL_law_1243 rfl rfl rfl ?_
  refine Go_iconst (v := 1) (pc' := 1245) dL_law_1244 rfl (by decide) ?_
  refine Go_iadd (pc' := 1246) dL_law_1245 rfl ?_
  refine Go_scriptLd (pc' := 1247) dL_law_1246 rfl (by exact scr_ix (k := 1) (by decide) hi hL) ?_
  refine Go_aload_n (pc' := 1248) dL_law_1247 rfl rfl rfl ?_
  refine Go_iload_n (pc' := 1249) dL_law_1248 rfl rfl rfl ?_
  refine Go_iconst (v := 2) (pc' := 1250) dL_law_1249 rfl (by decide) ?_
  refine Go_iadd (pc' := 1251) dL_law_1250 rfl ?_
  refine Go_scriptLd (pc' := 1252) dL_law_1251 rfl (by exact scr_ix (k := 2) (by decide) hi hL) ?_
  refine Go_aload_n (pc' := 1253) dL_law_1252 rfl rfl rfl ?_
  refine Go_iload_n (pc' := 1254) dL_law_1253 rfl rfl rfl ?_
  refine Go_iconst (v := 3) (pc' := 1255) dL_law_1254 rfl (by decide) ?_
  refine Go_iadd (pc' := 1256) dL_law_1255 rfl ?_
  refine Go_scriptLd (pc' := 1257) dL_law_1256 rfl (by exact scr_ix (k := 3) (by decide) hi hL) ?_
  refine Go_callV_iA (mc := mc) (ms := ms) (mc2 := 8) (ms2 := 400) (pc' := 1260) (As := [.int _, .int _, .int _]) (st := []) dL_law_1257 rfl ok_X11_slides km_RL_128 (I.S.o 64 rfl rfl rfl) (I.S.b 64 rfl rfl) ⟨_, _, rfl⟩ rfl (Nat.le_of_ble_eq_true rfl) rfl rfl rfl (Nat.le_of_ble_eq_true rfl) (Nat.lt_succ_self _) (by omega) (by omega) ?_
  refine p1 _ (fun r h1 hq hS1 => ?_)
  refine ⟨_, rfl, ?_⟩
  refine Go_aload_n (pc' := 1261) dL_law_1260 rfl rfl rfl ?_
  refine Go_aload_n (pc' := 1262) dL_law_1261 rfl rfl rfl ?_
  refine Go_iload_n (pc' := 1263) dL_law_1262 rfl rfl rfl ?_
  refine Go_iconst (v := 1) (pc' := 1264) dL_law_1263 rfl (by decide) ?_
  refine Go_iadd (pc' := 1265) dL_law_1264 rfl ?_
  refine Go_scriptLd (pc' := 1266) dL_law_1265 rfl (by exact scr_ix (k := 1) (by decide) hi hL) ?_
  refine Go_aload_n (pc' := 1267) dL_law_1266 rfl rfl rfl ?_
  refine Go_iload_n (pc' := 1268) dL_law_1267 rfl rfl rfl ?_
  refine Go_iconst (v := 2) (pc' := 1269) dL_law_1268 rfl (by decide) ?_
  refine Go_iadd (pc' := 1270) dL_law_1269 rfl ?_
  refine Go_scriptLd (pc' := 1271) dL_law_1270 rfl (by exact scr_ix (k := 2) (by decide) hi hL) ?_
  refine Go_aload_n (pc' := 1272) dL_law_1271 rfl rfl rfl ?_
  refine Go_iload_n (pc' := 1273) dL_law_1272 rfl rfl rfl ?_
  refine Go_iconst (v := 3) (pc' := 1274) dL_law_1273 rfl (by decide) ?_
  refine Go_iadd (pc' := 1275) dL_law_1274 rfl ?_
  refine Go_scriptLd (pc' := 1276) dL_law_1275 rfl (by exact scr_ix (k := 3) (by decide) hi hL) ?_
  refine Go_callV_i (pc' := 1279) (As := [.int _, .int _, .int _]) (st := [.int _]) dL_law_1276 rfl ok_X12_slides km_RL_131 (hS1.o 99 rfl rfl rfl) (hS1.b 99 rfl rfl) ⟨_, _, rfl⟩ rfl (Nat.le_of_ble_eq_true rfl) rfl rfl rfl (Nat.le_of_ble_eq_true rfl) (Nat.lt_succ_self _) ?_
  refine p2 r h1 hq _ (fun h2 I2 => ?_)
  refine ⟨_, rfl, ?_⟩
  refine Go_icmp_eq (tgt := 1786) (pc' := 1282) dL_law_1279 (by decide) rfl (fun c1279 => ?_) (fun c1279 => ?_)
  · exact kk h2 I2
  · refine Go_iconst (v := 0) (pc' := 1283) dL_law_1282 rfl (by decide) ?_
    refine Go_ireturn (ty := .boolean) dL_law_1283 rfl rfl ?_
    exact absurd rfl c1279
set_option maxRecDepth 20000 in
theorem law_c27 {G : GC} {mc ms i : Nat} {h : HS} {K : Option Value → HS → Prop} (I : Inv h) (hi : i + 6 ≤ gL G) (hL : gL G ≤ 3072) (P : ∀ a : Int32, PairI G M_X11_level M_X12_level [.int a]) (kk : ∀ h2, Inv h2 → Go G 61 mc ms M_L_law 1786 [.ref 0, .ref 64, .ref 99, .int (nI i)] [] h2 K) : Go G 61 (mc + 8) (ms + 400) M_L_law 1284 [.ref 0, .ref 64, .ref 99, .int (nI i)] [] h K := by
  obtain ⟨Q, p1, p2⟩ := P _ h I
  refine Go_aload_n (pc' := 1285) dL_law_1284 rfl rfl rfl ?_
  refine Go_aload_n (pc' := 1286) dL_law_1285 rfl rfl rfl ?_
  refine Go_iload_n (pc' := 1287) dL_law_1286 rfl rfl rfl ?_
  refine Go_iconst (v := 1) (pc' := 1288) dL_law_1287 rfl (by decide) ?_
  refine Go_iadd (pc' := 1289) dL_law_1288 rfl ?_
  refine Go_scriptLd (pc' := 1290) dL_law_1289 rfl (by exact scr_ix (k := 1) (by decide) hi hL) ?_
  refine Go_callV_iA (mc := mc) (ms := ms) (mc2 := 8) (ms2 := 400) (pc' := 1293) (As := [.int _]) (st := []) dL_law_1290 rfl ok_X11_level km_RL_132 (I.S.o 64 rfl rfl rfl) (I.S.b 64 rfl rfl) ⟨_, _, rfl⟩ rfl (Nat.le_of_ble_eq_true rfl) rfl rfl rfl (Nat.le_of_ble_eq_true rfl) (Nat.lt_succ_self _) (by omega) (by omega) ?_
  refine p1 _ (fun r h1 hq hS1 => ?_)
  refine ⟨_, rfl, ?_⟩
  refine Go_aload_n (pc' := 1294) dL_law_1293 rfl rfl rfl ?_
  refine Go_aload_n (pc' := 1295) dL_law_1294 rfl rfl rfl ?_
  refine Go_iload_n (pc' := 1296) dL_law_1295 rfl rfl rfl ?_
  refine Go_iconst (v := 1) (pc' := 1297) dL_law_1296 rfl (by decide) ?_
  refine Go_iadd (pc' := 1298) dL_law_1297 rfl ?_
  refine Go_scriptLd (pc' := 1299) dL_law_1298 rfl (by exact scr_ix (k := 1) (by decide) hi hL) ?_
  refine Go_callV_i (pc' := 1302) (As := [.int _]) (st := [.int _]) dL_law_1299 rfl ok_X12_level km_RL_135 (hS1.o 99 rfl rfl rfl) (hS1.b 99 rfl rfl) ⟨_, _, rfl⟩ rfl (Nat.le_of_ble_eq_true rfl) rfl rfl rfl (Nat.le_of_ble_eq_true rfl) (Nat.lt_succ_self _) ?_
  refine p2 r h1 hq _ (fun h2 I2 => ?_)
  refine ⟨_, rfl, ?_⟩
  refine Go_icmp_eq (tgt := 1786) (pc' := 1305) dL_law_1302 (by decide) rfl (fun c1302 => ?_) (fun c1302 => ?_)
  · exact kk h2 I2
  · refine Go_iconst (v := 0) (pc' := 1306) dL_law_1305 rfl (by decide) ?_
    refine Go_ireturn (ty := .boolean) dL_law_1306 rfl rfl ?_
    exact absurd rfl c1302
set_option maxRecDepth 20000 in
theorem law_c28 {G : GC} {mc ms i : Nat} {h : HS} {K : Option Value → HS → Prop} (I : Inv h) (hi : i + 6 ≤ gL G) (hL : gL G ≤ 3072) (P : ∀ a b : Int32, PairI G M_X11_habit M_X12_habit [.int a, .int b]) (kk : ∀ h2, Inv h2 → Go G 61 mc ms M_L_law 1786 [.ref 0, .ref 64, .ref 99, .int (nI i)] [] h2 K) : Go G 61 (mc + 8) (ms + 400) M_L_law 1307 [.ref 0, .ref 64, .ref 99, .int (nI i)] [] h K := by
  obtain ⟨Q, p1, p2⟩ := P _ _ h I
  refine Go_aload_n (pc' := 1308) dL_law_1307 rfl rfl rfl ?_
  refine Go_aload_n (pc' := 1309) dL_law_1308 rfl rfl rfl ?_
  refine Go_iload_n (pc' := 1310) dL_law_1309 rfl rfl rfl ?_
  refine Go_iconst (v := 1) (pc' := 1311) dL_law_1310 rfl (by decide) ?_
  refine Go_iadd (pc' := 1312) dL_law_1311 rfl ?_
  refine Go_scriptLd (pc' := 1313) dL_law_1312 rfl (by exact scr_ix (k := 1) (by decide) hi hL) ?_
  refine Go_aload_n (pc' := 1314) dL_law_1313 rfl rfl rfl ?_
  refine Go_iload_n (pc' := 1315) dL_law_1314 rfl rfl rfl ?_
  refine Go_iconst (v := 2) (pc' := 1316) dL_law_1315 rfl (by decide) ?_
  refine Go_iadd (pc' := 1317) dL_law_1316 rfl ?_
  refine Go_scriptLd (pc' := 1318) dL_law_1317 rfl (by exact scr_ix (k := 2) (by decide) hi hL) ?_
  refine Go_callV_iA (mc := mc) (ms := ms) (mc2 := 8) (ms2 := 400) (pc' := 1321) (As := [.int _, .int _]) (st := []) dL_law_1318 rfl ok_X11_habit km_RL_136 (I.S.o 64 rfl rfl rfl) (I.S.b 64 rfl rfl) ⟨_, _, rfl⟩ rfl (Nat.le_of_ble_eq_true rfl) rfl rfl rfl (Nat.le_of_ble_eq_true rfl) (Nat.lt_succ_self _) (by omega) (by omega) ?_
  refine p1 _ (fun r h1 hq hS1 => ?_)
  refine ⟨_, rfl, ?_⟩
  refine Go_aload_n (pc' := 1322) dL_law_1321 rfl rfl rfl ?_
  refine Go_aload_n (pc' := 1323) dL_law_1322 rfl rfl rfl ?_
  refine Go_iload_n (pc' := 1324) dL_law_1323 rfl rfl rfl ?_
  refine Go_iconst (v := 1) (pc' := 1325) dL_law_1324 rfl (by decide) ?_
  refine Go_iadd (pc' := 1326) dL_law_1325 rfl ?_
  refine Go_scriptLd (pc' := 1327) dL_law_1326 rfl (by exact scr_ix (k := 1) (by decide) hi hL) ?_
  refine Go_aload_n (pc' := 1328) dL_law_1327 rfl rfl rfl ?_
  refine Go_iload_n (pc' := 1329) dL_law_1328 rfl rfl rfl ?_
  refine Go_iconst (v := 2) (pc' := 1330) dL_law_1329 rfl (by decide) ?_
  refine Go_iadd (pc' := 1331) dL_law_1330 rfl ?_
  refine Go_scriptLd (pc' := 1332) dL_law_1331 rfl (by exact scr_ix (k := 2) (by decide) hi hL) ?_
  refine Go_callV_i (pc' := 1335) (As := [.int _, .int _]) (st := [.int _]) dL_law_1332 rfl ok_X12_habit km_RL_139 (hS1.o 99 rfl rfl rfl) (hS1.b 99 rfl rfl) ⟨_, _, rfl⟩ rfl (Nat.le_of_ble_eq_true rfl) rfl rfl rfl (Nat.le_of_ble_eq_true rfl) (Nat.lt_succ_self _) ?_
  refine p2 r h1 hq _ (fun h2 I2 => ?_)
  refine ⟨_, rfl, ?_⟩
  refine Go_icmp_eq (tgt := 1786) (pc' := 1338) dL_law_1335 (by decide) rfl (fun c1335 => ?_) (fun c1335 => ?_)
  · exact kk h2 I2
  · refine Go_iconst (v := 0) (pc' := 1339) dL_law_1338 rfl (by decide) ?_
    refine Go_ireturn (ty := .boolean) dL_law_1339 rfl rfl ?_
    exact absurd rfl c1335
set_option maxRecDepth 20000 in
theorem law_c29 {G : GC} {mc ms i : Nat} {h : HS} {K : Option Value → HS → Prop} (I : Inv h) (hi : i + 6 ≤ gL G) (hL : gL G ≤ 3072) (P : ∀ a b c e : Int32, PairI G M_X11_size M_X12_size [.int a, .int b, .int c, .int e]) (kk : ∀ h2, Inv h2 → Go G 61 mc ms M_L_law 1786 [.ref 0, .ref 64, .ref 99, .int (nI i)] [] h2 K) : Go G 61 (mc + 8) (ms + 400) M_L_law 1340 [.ref 0, .ref 64, .ref 99, .int (nI i)] [] h K := by
  obtain ⟨Q, p1, p2⟩ := P _ _ _ _ h I
  refine Go_aload_n (pc' := 1341) dL_law_1340 rfl rfl rfl ?_
  refine Go_aload_n (pc' := 1342) dL_law_1341 rfl rfl rfl ?_
  refine Go_iload_n (pc' := 1343) dL_law_1342 rfl rfl rfl ?_
  refine Go_iconst (v := 1) (pc' := 1344) dL_law_1343 rfl (by decide) ?_
  refine Go_iadd (pc' := 1345) dL_law_1344 rfl ?_
  refine Go_scriptLd (pc' := 1346) dL_law_1345 rfl (by exact scr_ix (k := 1) (by decide) hi hL) ?_
  refine Go_aload_n (pc' := 1347) dL_law_1346 rfl rfl rfl ?_
  refine Go_iload_n (pc' := 1348) dL_law_1347 rfl rfl rfl ?_
  refine Go_iconst (v := 2) (pc' := 1349) dL_law_1348 rfl (by decide) ?_
  refine Go_iadd (pc' := 1350) dL_law_1349 rfl ?_
  refine Go_scriptLd (pc' := 1351) dL_law_1350 rfl (by exact scr_ix (k := 2) (by decide) hi hL) ?_
  refine Go_aload_n (pc' := 1352) dL_law_1351 rfl rfl rfl ?_
  refine Go_iload_n (pc' := 1353) dL_law_1352 rfl rfl rfl ?_
  refine Go_iconst (v := 3) (pc' := 1354) dL_law_1353 rfl (by decide) ?_
  refine Go_iadd (pc' := 1355) dL_law_1354 rfl ?_
  refine Go_scriptLd (pc' := 1356) dL_law_1355 rfl (by exact scr_ix (k := 3) (by decide) hi hL) ?_
  refine Go_aload_n (pc' := 1357) dL_law_1356 rfl rfl rfl ?_
  refine Go_iload_n (pc' := 1358) dL_law_1357 rfl rfl rfl ?_
  refine Go_iconst (v := 4) (pc' := 1359) dL_law_1358 rfl (by decide) ?_
  refine Go_iadd (pc' := 1360) dL_law_1359 rfl ?_
  refine Go_scriptLd (pc' := 1361) dL_law_1360 rfl (by exact scr_ix (k := 4) (by decide) hi hL) ?_
  refine Go_callV_iA (mc := mc) (ms := ms) (mc2 := 8) (ms2 := 400) (pc' := 1364) (As := [.int _, .int _, .int _, .int _]) (st := []) dL_law_1361 rfl ok_X11_size km_RL_140 (I.S.o 64 rfl rfl rfl) (I.S.b 64 rfl rfl) ⟨_, _, rfl⟩ rfl (Nat.le_of_ble_eq_true rfl) rfl rfl rfl (Nat.le_of_ble_eq_true rfl) (Nat.lt_succ_self _) (by omega) (by omega) ?_
  refine p1 _ (fun r h1 hq hS1 => ?_)
  refine ⟨_, rfl, ?_⟩
  refine Go_aload_n (pc' := 1365) dL_law_1364 rfl rfl rfl ?_
  refine Go_aload_n (pc' := 1366) dL_law_1365 rfl rfl rfl ?_
  refine Go_iload_n (pc' := 1367) dL_law_1366 rfl rfl rfl ?_
  refine Go_iconst (v := 1) (pc' := 1368) dL_law_1367 rfl (by decide) ?_
  refine Go_iadd (pc' := 1369) dL_law_1368 rfl ?_
  refine Go_scriptLd (pc' := 1370) dL_law_1369 rfl (by exact scr_ix (k := 1) (by decide) hi hL) ?_
  refine Go_aload_n (pc' := 1371) dL_law_1370 rfl rfl rfl ?_
  refine Go_iload_n (pc' := 1372) dL_law_1371 rfl rfl rfl ?_
  refine Go_iconst (v := 2) (pc' := 1373) dL_law_1372 rfl (by decide) ?_
  refine Go_iadd (pc' := 1374) dL_law_1373 rfl ?_
  refine Go_scriptLd (pc' := 1375) dL_law_1374 rfl (by exact scr_ix (k := 2) (by decide) hi hL) ?_
  refine Go_aload_n (pc' := 1376) dL_law_1375 rfl rfl rfl ?_
  refine Go_iload_n (pc' := 1377) dL_law_1376 rfl rfl rfl ?_
  refine Go_iconst (v := 3) (pc' := 1378) dL_law_1377 rfl (by decide) ?_
  refine Go_iadd (pc' := 1379) dL_law_1378 rfl ?_
  refine Go_scriptLd (pc' := 1380) dL_law_1379 rfl (by exact scr_ix (k := 3) (by decide) hi hL) ?_
  refine Go_aload_n (pc' := 1381) dL_law_1380 rfl rfl rfl ?_
  refine Go_iload_n (pc' := 1382) dL_law_1381 rfl rfl rfl ?_
  refine Go_iconst (v := 4) (pc' := 1383) dL_law_1382 rfl (by decide) ?_
  refine Go_iadd (pc' := 1384) dL_law_1383 rfl ?_
  refine Go_scriptLd (pc' := 1385) dL_law_1384 rfl (by exact scr_ix (k := 4) (by decide) hi hL) ?_
  refine Go_callV_i (pc' := 1388) (As := [.int _, .int _, .int _, .int _]) (st := [.int _]) dL_law_1385 rfl ok_X12_size km_RL_143 (hS1.o 99 rfl rfl rfl) (hS1.b 99 rfl rfl) ⟨_, _, rfl⟩ rfl (Nat.le_of_ble_eq_true rfl) rfl rfl rfl (Nat.le_of_ble_eq_true rfl) (Nat.lt_succ_self _) ?_
  refine p2 r h1 hq _ (fun h2 I2 => ?_)
  refine ⟨_, rfl, ?_⟩
  refine Go_icmp_eq (tgt := 1786) (pc' := 1391) dL_law_1388 (by decide) rfl (fun c1388 => ?_) (fun c1388 => ?_)
  · exact kk h2 I2
  · refine Go_iconst (v := 0) (pc' := 1392) dL_law_1391 rfl (by decide) ?_
    refine Go_ireturn (ty := .boolean) dL_law_1392 rfl rfl ?_
    exact absurd rfl c1388
set_option maxRecDepth 20000 in
theorem law_c30 {G : GC} {mc ms i : Nat} {h : HS} {K : Option Value → HS → Prop} (I : Inv h) (hi : i + 6 ≤ gL G) (hL : gL G ≤ 3072) (P : ∀ a b c : Int32, PairI G M_X11_place M_X12_place [.int a, .int b, .int c]) (kk : ∀ h2, Inv h2 → Go G 61 mc ms M_L_law 1786 [.ref 0, .ref 64, .ref 99, .int (nI i)] [] h2 K) : Go G 61 (mc + 8) (ms + 400) M_L_law 1393 [.ref 0, .ref 64, .ref 99, .int (nI i)] [] h K := by
  obtain ⟨Q, p1, p2⟩ := P _ _ _ h I
  refine Go_aload_n (pc' := 1394) dL_law_1393 rfl rfl rfl ?_
  refine Go_aload_n (pc' := 1395) dL_law_1394 rfl rfl rfl ?_
  refine Go_iload_n (pc' := 1396) dL_law_1395 rfl rfl rfl ?_
  refine Go_iconst (v := 1) (pc' := 1397) dL_law_1396 rfl (by decide) ?_
  refine Go_iadd (pc' := 1398) dL_law_1397 rfl ?_
  refine Go_scriptLd (pc' := 1399) dL_law_1398 rfl (by exact scr_ix (k := 1) (by decide) hi hL) ?_
  refine Go_aload_n (pc' := 1400) dL_law_1399 rfl rfl rfl ?_
  refine Go_iload_n (pc' := 1401) dL_law_1400 rfl rfl rfl ?_
  refine Go_iconst (v := 2) (pc' := 1402) dL_law_1401 rfl (by decide) ?_
  refine Go_iadd (pc' := 1403) dL_law_1402 rfl ?_
  refine Go_scriptLd (pc' := 1404) dL_law_1403 rfl (by exact scr_ix (k := 2) (by decide) hi hL) ?_
  refine Go_aload_n (pc' := 1405) dL_law_1404 rfl rfl rfl ?_
  refine Go_iload_n (pc' := 1406) dL_law_1405 rfl rfl rfl ?_
  refine Go_iconst (v := 3) (pc' := 1407) dL_law_1406 rfl (by decide) ?_
  refine Go_iadd (pc' := 1408) dL_law_1407 rfl ?_
  refine Go_scriptLd (pc' := 1409) dL_law_1408 rfl (by exact scr_ix (k := 3) (by decide) hi hL) ?_
  refine Go_callV_iA (mc := mc) (ms := ms) (mc2 := 8) (ms2 := 400) (pc' := 1412) (As := [.int _, .int _, .int _]) (st := []) dL_law_1409 rfl ok_X11_place km_RL_144 (I.S.o 64 rfl rfl rfl) (I.S.b 64 rfl rfl) ⟨_, _, rfl⟩ rfl (Nat.le_of_ble_eq_true rfl) rfl rfl rfl (Nat.le_of_ble_eq_true rfl) (Nat.lt_succ_self _) (by omega) (by omega) ?_
  refine p1 _ (fun r h1 hq hS1 => ?_)
  refine ⟨_, rfl, ?_⟩
  refine Go_aload_n (pc' := 1413) dL_law_1412 rfl rfl rfl ?_
  refine Go_aload_n (pc' := 1414) dL_law_1413 rfl rfl rfl ?_
  refine Go_iload_n (pc' := 1415) dL_law_1414 rfl rfl rfl ?_
  refine Go_iconst (v := 1) (pc' := 1416) dL_law_1415 rfl (by decide) ?_
  refine Go_iadd (pc' := 1417) dL_law_1416 rfl ?_
  refine Go_scriptLd (pc' := 1418) dL_law_1417 rfl (by exact scr_ix (k := 1) (by decide) hi hL) ?_
  refine Go_aload_n (pc' := 1419) dL_law_1418 rfl rfl rfl ?_
  refine Go_iload_n (pc' := 1420) dL_law_1419 rfl rfl rfl ?_
  refine Go_iconst (v := 2) (pc' := 1421) dL_law_1420 rfl (by decide) ?_
  refine Go_iadd (pc' := 1422) dL_law_1421 rfl ?_
  refine Go_scriptLd (pc' := 1423) dL_law_1422 rfl (by exact scr_ix (k := 2) (by decide) hi hL) ?_
  refine Go_aload_n (pc' := 1424) dL_law_1423 rfl rfl rfl ?_
  refine Go_iload_n (pc' := 1425) dL_law_1424 rfl rfl rfl ?_
  refine Go_iconst (v := 3) (pc' := 1426) dL_law_1425 rfl (by decide) ?_
  refine Go_iadd (pc' := 1427) dL_law_1426 rfl ?_
  refine Go_scriptLd (pc' := 1428) dL_law_1427 rfl (by exact scr_ix (k := 3) (by decide) hi hL) ?_
  refine Go_callV_i (pc' := 1431) (As := [.int _, .int _, .int _]) (st := [.int _]) dL_law_1428 rfl ok_X12_place km_RL_147 (hS1.o 99 rfl rfl rfl) (hS1.b 99 rfl rfl) ⟨_, _, rfl⟩ rfl (Nat.le_of_ble_eq_true rfl) rfl rfl rfl (Nat.le_of_ble_eq_true rfl) (Nat.lt_succ_self _) ?_
  refine p2 r h1 hq _ (fun h2 I2 => ?_)
  refine ⟨_, rfl, ?_⟩
  refine Go_icmp_eq (tgt := 1786) (pc' := 1434) dL_law_1431 (by decide) rfl (fun c1431 => ?_) (fun c1431 => ?_)
  · exact kk h2 I2
  · refine Go_iconst (v := 0) (pc' := 1435) dL_law_1434 rfl (by decide) ?_
    refine Go_ireturn (ty := .boolean) dL_law_1435 rfl rfl ?_
    exact absurd rfl c1431
set_option maxRecDepth 20000 in
theorem law_c31 {G : GC} {mc ms i : Nat} {h : HS} {K : Option Value → HS → Prop} (I : Inv h) (hi : i + 6 ≤ gL G) (hL : gL G ≤ 3072) (P : ∀ a : Int32, PairI G M_X11_own M_X12_own [.int a]) (kk : ∀ h2, Inv h2 → Go G 61 mc ms M_L_law 1786 [.ref 0, .ref 64, .ref 99, .int (nI i)] [] h2 K) : Go G 61 (mc + 8) (ms + 400) M_L_law 1436 [.ref 0, .ref 64, .ref 99, .int (nI i)] [] h K := by
  obtain ⟨Q, p1, p2⟩ := P _ h I
  refine Go_aload_n (pc' := 1437) dL_law_1436 rfl rfl rfl ?_
  refine Go_aload_n (pc' := 1438) dL_law_1437 rfl rfl rfl ?_
  refine Go_iload_n (pc' := 1439) dL_law_1438 rfl rfl rfl ?_
  refine Go_iconst (v := 1) (pc' := 1440) dL_law_1439 rfl (by decide) ?_
  refine Go_iadd (pc' := 1441) dL_law_1440 rfl ?_
  refine Go_scriptLd (pc' := 1442) dL_law_1441 rfl (by exact scr_ix (k := 1) (by decide) hi hL) ?_
  refine Go_callV_iA (mc := mc) (ms := ms) (mc2 := 8) (ms2 := 400) (pc' := 1445) (As := [.int _]) (st := []) dL_law_1442 rfl ok_X11_own km_RL_148 (I.S.o 64 rfl rfl rfl) (I.S.b 64 rfl rfl) ⟨_, _, rfl⟩ rfl (Nat.le_of_ble_eq_true rfl) rfl rfl rfl (Nat.le_of_ble_eq_true rfl) (Nat.lt_succ_self _) (by omega) (by omega) ?_
  refine p1 _ (fun r h1 hq hS1 => ?_)
  refine ⟨_, rfl, ?_⟩
  refine Go_aload_n (pc' := 1446) dL_law_1445 rfl rfl rfl ?_
  refine Go_aload_n (pc' := 1447) dL_law_1446 rfl rfl rfl ?_
  refine Go_iload_n (pc' := 1448) dL_law_1447 rfl rfl rfl ?_
  refine Go_iconst (v := 1) (pc' := 1449) dL_law_1448 rfl (by decide) ?_
  refine Go_iadd (pc' := 1450) dL_law_1449 rfl ?_
  refine Go_scriptLd (pc' := 1451) dL_law_1450 rfl (by exact scr_ix (k := 1) (by decide) hi hL) ?_
  refine Go_callV_i (pc' := 1454) (As := [.int _]) (st := [.int _]) dL_law_1451 rfl ok_X12_own km_RL_151 (hS1.o 99 rfl rfl rfl) (hS1.b 99 rfl rfl) ⟨_, _, rfl⟩ rfl (Nat.le_of_ble_eq_true rfl) rfl rfl rfl (Nat.le_of_ble_eq_true rfl) (Nat.lt_succ_self _) ?_
  refine p2 r h1 hq _ (fun h2 I2 => ?_)
  refine ⟨_, rfl, ?_⟩
  refine Go_icmp_eq (tgt := 1786) (pc' := 1457) dL_law_1454 (by decide) rfl (fun c1454 => ?_) (fun c1454 => ?_)
  · exact kk h2 I2
  · refine Go_iconst (v := 0) (pc' := 1458) dL_law_1457 rfl (by decide) ?_
    refine Go_ireturn (ty := .boolean) dL_law_1458 rfl rfl ?_
    exact absurd rfl c1454
set_option maxRecDepth 20000 in
theorem law_c32 {G : GC} {mc ms i : Nat} {h : HS} {K : Option Value → HS → Prop} (I : Inv h) (hi : i + 6 ≤ gL G) (hL : gL G ≤ 3072) (P : ∀ a : Int32, PairI G M_X11_pick M_X12_pick [.int a]) (kk : ∀ h2, Inv h2 → Go G 61 mc ms M_L_law 1786 [.ref 0, .ref 64, .ref 99, .int (nI i)] [] h2 K) : Go G 61 (mc + 8) (ms + 400) M_L_law 1459 [.ref 0, .ref 64, .ref 99, .int (nI i)] [] h K := by
  obtain ⟨Q, p1, p2⟩ := P _ h I
  refine Go_aload_n (pc' := 1460) dL_law_1459 rfl rfl rfl ?_
  refine Go_aload_n (pc' := 1461) dL_law_1460 rfl rfl rfl ?_
  refine Go_iload_n (pc' := 1462) dL_law_1461 rfl rfl rfl ?_
  refine Go_iconst (v := 1) (pc' := 1463) dL_law_1462 rfl (by decide) ?_
  refine Go_iadd (pc' := 1464) dL_law_1463 rfl ?_
  refine Go_scriptLd (pc' := 1465) dL_law_1464 rfl (by exact scr_ix (k := 1) (by decide) hi hL) ?_
  refine Go_callV_iA (mc := mc) (ms := ms) (mc2 := 8) (ms2 := 400) (pc' := 1468) (As := [.int _]) (st := []) dL_law_1465 rfl ok_X11_pick km_RL_152 (I.S.o 64 rfl rfl rfl) (I.S.b 64 rfl rfl) ⟨_, _, rfl⟩ rfl (Nat.le_of_ble_eq_true rfl) rfl rfl rfl (Nat.le_of_ble_eq_true rfl) (Nat.lt_succ_self _) (by omega) (by omega) ?_
  refine p1 _ (fun r h1 hq hS1 => ?_)
  refine ⟨_, rfl, ?_⟩
  refine Go_aload_n (pc' := 1469) dL_law_1468 rfl rfl rfl ?_
  refine Go_aload_n (pc' := 1470) dL_law_1469 rfl rfl rfl ?_
  refine Go_iload_n (pc' := 1471) dL_law_1470 rfl rfl rfl ?_
  refine Go_iconst (v := 1) (pc' := 1472) dL_law_1471 rfl (by decide) ?_
  refine Go_iadd (pc' := 1473) dL_law_1472 rfl ?_
  refine Go_scriptLd (pc' := 1474) dL_law_1473 rfl (by exact scr_ix (k := 1) (by decide) hi hL) ?_
  refine Go_callV_i (pc' := 1477) (As := [.int _]) (st := [.int _]) dL_law_1474 rfl ok_X12_pick km_RL_155 (hS1.o 99 rfl rfl rfl) (hS1.b 99 rfl rfl) ⟨_, _, rfl⟩ rfl (Nat.le_of_ble_eq_true rfl) rfl rfl rfl (Nat.le_of_ble_eq_true rfl) (Nat.lt_succ_self _) ?_
  refine p2 r h1 hq _ (fun h2 I2 => ?_)
  refine ⟨_, rfl, ?_⟩
  refine Go_icmp_eq (tgt := 1786) (pc' := 1480) dL_law_1477 (by decide) rfl (fun c1477 => ?_) (fun c1477 => ?_)
  · exact kk h2 I2
  · refine Go_iconst (v := 0) (pc' := 1481) dL_law_1480 rfl (by decide) ?_
    refine Go_ireturn (ty := .boolean) dL_law_1481 rfl rfl ?_
    exact absurd rfl c1477
set_option maxRecDepth 20000 in
theorem law_c33 {G : GC} {mc ms i : Nat} {h : HS} {K : Option Value → HS → Prop} (I : Inv h) (hi : i + 6 ≤ gL G) (hL : gL G ≤ 3072) (P : ∀ a : Int32, PairI G M_X11_parted M_X12_parted [.int a]) (kk : ∀ h2, Inv h2 → Go G 61 mc ms M_L_law 1786 [.ref 0, .ref 64, .ref 99, .int (nI i)] [] h2 K) : Go G 61 (mc + 8) (ms + 400) M_L_law 1482 [.ref 0, .ref 64, .ref 99, .int (nI i)] [] h K := by
  obtain ⟨Q, p1, p2⟩ := P _ h I
  refine Go_aload_n (pc' := 1483) dL_law_1482 rfl rfl rfl ?_
  refine Go_aload_n (pc' := 1484) dL_law_1483 rfl rfl rfl ?_
  refine Go_iload_n (pc' := 1485) dL_law_1484 rfl rfl rfl ?_
  refine Go_iconst (v := 1) (pc' := 1486) dL_law_1485 rfl (by decide) ?_
  refine Go_iadd (pc' := 1487) dL_law_1486 rfl ?_
  refine Go_scriptLd (pc' := 1488) dL_law_1487 rfl (by exact scr_ix (k := 1) (by decide) hi hL) ?_
  refine Go_callV_iA (mc := mc) (ms := ms) (mc2 := 8) (ms2 := 400) (pc' := 1491) (As := [.int _]) (st := []) dL_law_1488 rfl ok_X11_parted km_RL_156 (I.S.o 64 rfl rfl rfl) (I.S.b 64 rfl rfl) ⟨_, _, rfl⟩ rfl (Nat.le_of_ble_eq_true rfl) rfl rfl rfl (Nat.le_of_ble_eq_true rfl) (Nat.lt_succ_self _) (by omega) (by omega) ?_
  refine p1 _ (fun r h1 hq hS1 => ?_)
  refine ⟨_, rfl, ?_⟩
  refine Go_aload_n (pc' := 1492) dL_law_1491 rfl rfl rfl ?_
  refine Go_aload_n (pc' := 1493) dL_law_1492 rfl rfl rfl ?_
  refine Go_iload_n (pc' := 1494) dL_law_1493 rfl rfl rfl ?_
  refine Go_iconst (v := 1) (pc' := 1495) dL_law_1494 rfl (by decide) ?_
  refine Go_iadd (pc' := 1496) dL_law_1495 rfl ?_
  refine Go_scriptLd (pc' := 1497) dL_law_1496 rfl (by exact scr_ix (k := 1) (by decide) hi hL) ?_
  refine Go_callV_i (pc' := 1500) (As := [.int _]) (st := [.int _]) dL_law_1497 rfl ok_X12_parted km_RL_159 (hS1.o 99 rfl rfl rfl) (hS1.b 99 rfl rfl) ⟨_, _, rfl⟩ rfl (Nat.le_of_ble_eq_true rfl) rfl rfl rfl (Nat.le_of_ble_eq_true rfl) (Nat.lt_succ_self _) ?_
  refine p2 r h1 hq _ (fun h2 I2 => ?_)
  refine ⟨_, rfl, ?_⟩
  refine Go_icmp_eq (tgt := 1786) (pc' := 1503) dL_law_1500 (by decide) rfl (fun c1500 => ?_) (fun c1500 => ?_)
  · exact kk h2 I2
  · refine Go_iconst (v := 0) (pc' := 1504) dL_law_1503 rfl (by decide) ?_
    refine Go_ireturn (ty := .boolean) dL_law_1504 rfl rfl ?_
    exact absurd rfl c1500
set_option maxRecDepth 20000 in
theorem law_c34 {G : GC} {mc ms i : Nat} {h : HS} {K : Option Value → HS → Prop} (I : Inv h) (hi : i + 6 ≤ gL G) (hL : gL G ≤ 3072) (P : ∀ a b c : Int32, PairI G M_X11_couples M_X12_couples [.int a, .int b, .int c]) (kk : ∀ h2, Inv h2 → Go G 61 mc ms M_L_law 1786 [.ref 0, .ref 64, .ref 99, .int (nI i)] [] h2 K) : Go G 61 (mc + 8) (ms + 400) M_L_law 1505 [.ref 0, .ref 64, .ref 99, .int (nI i)] [] h K := by
  obtain ⟨Q, p1, p2⟩ := P _ _ _ h I
  refine Go_aload_n (pc' := 1506) dL_law_1505 rfl rfl rfl ?_
  refine Go_aload_n (pc' := 1507) dL_law_1506 rfl rfl rfl ?_
  refine Go_iload_n (pc' := 1508) dL_law_1507 rfl rfl rfl ?_
  refine Go_iconst (v := 1) (pc' := 1509) dL_law_1508 rfl (by decide) ?_
  refine Go_iadd (pc' := 1510) dL_law_1509 rfl ?_
  refine Go_scriptLd (pc' := 1511) dL_law_1510 rfl (by exact scr_ix (k := 1) (by decide) hi hL) ?_
  refine Go_aload_n (pc' := 1512) dL_law_1511 rfl rfl rfl ?_
  refine Go_iload_n (pc' := 1513) dL_law_1512 rfl rfl rfl ?_
  refine Go_iconst (v := 2) (pc' := 1514) dL_law_1513 rfl (by decide) ?_
  refine Go_iadd (pc' := 1515) dL_law_1514 rfl ?_
  refine Go_scriptLd (pc' := 1516) dL_law_1515 rfl (by exact scr_ix (k := 2) (by decide) hi hL) ?_
  refine Go_aload_n (pc' := 1517) dL_law_1516 rfl rfl rfl ?_
  refine Go_iload_n (pc' := 1518) dL_law_1517 rfl rfl rfl ?_
  refine Go_iconst (v := 3) (pc' := 1519) dL_law_1518 rfl (by decide) ?_
  refine Go_iadd (pc' := 1520) dL_law_1519 rfl ?_
  refine Go_scriptLd (pc' := 1521) dL_law_1520 rfl (by exact scr_ix (k := 3) (by decide) hi hL) ?_
  refine Go_callV_iA (mc := mc) (ms := ms) (mc2 := 8) (ms2 := 400) (pc' := 1524) (As := [.int _, .int _, .int _]) (st := []) dL_law_1521 rfl ok_X11_couples km_RL_160 (I.S.o 64 rfl rfl rfl) (I.S.b 64 rfl rfl) ⟨_, _, rfl⟩ rfl (Nat.le_of_ble_eq_true rfl) rfl rfl rfl (Nat.le_of_ble_eq_true rfl) (Nat.lt_succ_self _) (by omega) (by omega) ?_
  refine p1 _ (fun r h1 hq hS1 => ?_)
  refine ⟨_, rfl, ?_⟩
  refine Go_aload_n (pc' := 1525) dL_law_1524 rfl rfl rfl ?_
  refine Go_aload_n (pc' := 1526) dL_law_1525 rfl rfl rfl ?_
  refine Go_iload_n (pc' := 1527) dL_law_1526 rfl rfl rfl ?_
  refine Go_iconst (v := 1) (pc' := 1528) dL_law_1527 rfl (by decide) ?_
  refine Go_iadd (pc' := 1529) dL_law_1528 rfl ?_
  refine Go_scriptLd (pc' := 1530) dL_law_1529 rfl (by exact scr_ix (k := 1) (by decide) hi hL) ?_
  refine Go_aload_n (pc' := 1531) dL_law_1530 rfl rfl rfl ?_
  refine Go_iload_n (pc' := 1532) dL_law_1531 rfl rfl rfl ?_
  refine Go_iconst (v := 2) (pc' := 1533) dL_law_1532 rfl (by decide) ?_
  refine Go_iadd (pc' := 1534) dL_law_1533 rfl ?_
  refine Go_scriptLd (pc' := 1535) dL_law_1534 rfl (by exact scr_ix (k := 2) (by decide) hi hL) ?_
  refine Go_aload_n (pc' := 1536) dL_law_1535 rfl rfl rfl ?_
  refine Go_iload_n (pc' := 1537) dL_law_1536 rfl rfl rfl ?_
  refine Go_iconst (v := 3) (pc' := 1538) dL_law_1537 rfl (by decide) ?_
  refine Go_iadd (pc' := 1539) dL_law_1538 rfl ?_
  refine Go_scriptLd (pc' := 1540) dL_law_1539 rfl (by exact scr_ix (k := 3) (by decide) hi hL) ?_
  refine Go_callV_i (pc' := 1543) (As := [.int _, .int _, .int _]) (st := [.int _]) dL_law_1540 rfl ok_X12_couples km_RL_163 (hS1.o 99 rfl rfl rfl) (hS1.b 99 rfl rfl) ⟨_, _, rfl⟩ rfl (Nat.le_of_ble_eq_true rfl) rfl rfl rfl (Nat.le_of_ble_eq_true rfl) (Nat.lt_succ_self _) ?_
  refine p2 r h1 hq _ (fun h2 I2 => ?_)
  refine ⟨_, rfl, ?_⟩
  refine Go_icmp_eq (tgt := 1786) (pc' := 1546) dL_law_1543 (by decide) rfl (fun c1543 => ?_) (fun c1543 => ?_)
  · exact kk h2 I2
  · refine Go_iconst (v := 0) (pc' := 1547) dL_law_1546 rfl (by decide) ?_
    refine Go_ireturn (ty := .boolean) dL_law_1547 rfl rfl ?_
    exact absurd rfl c1543
set_option maxRecDepth 20000 in
theorem law_c35 {G : GC} {mc ms i : Nat} {h : HS} {K : Option Value → HS → Prop} (I : Inv h) (hi : i + 6 ≤ gL G) (hL : gL G ≤ 3072) (P : ∀ a b c e f : Int32, PairI G M_X11_entry M_X12_entry [.int a, .int b, .int c, .int e, .int f]) (kk : ∀ h2, Inv h2 → Go G 61 mc ms M_L_law 1786 [.ref 0, .ref 64, .ref 99, .int (nI i)] [] h2 K) : Go G 61 (mc + 8) (ms + 400) M_L_law 1548 [.ref 0, .ref 64, .ref 99, .int (nI i)] [] h K := by
  obtain ⟨Q, p1, p2⟩ := P _ _ _ _ _ h I
  refine Go_aload_n (pc' := 1549) dL_law_1548 rfl rfl rfl ?_
  refine Go_aload_n (pc' := 1550) dL_law_1549 rfl rfl rfl ?_
  refine Go_iload_n (pc' := 1551) dL_law_1550 rfl rfl rfl ?_
  refine Go_iconst (v := 1) (pc' := 1552) dL_law_1551 rfl (by decide) ?_
  refine Go_iadd (pc' := 1553) dL_law_1552 rfl ?_
  refine Go_scriptLd (pc' := 1554) dL_law_1553 rfl (by exact scr_ix (k := 1) (by decide) hi hL) ?_
  refine Go_aload_n (pc' := 1555) dL_law_1554 rfl rfl rfl ?_
  refine Go_iload_n (pc' := 1556) dL_law_1555 rfl rfl rfl ?_
  refine Go_iconst (v := 2) (pc' := 1557) dL_law_1556 rfl (by decide) ?_
  refine Go_iadd (pc' := 1558) dL_law_1557 rfl ?_
  refine Go_scriptLd (pc' := 1559) dL_law_1558 rfl (by exact scr_ix (k := 2) (by decide) hi hL) ?_
  refine Go_aload_n (pc' := 1560) dL_law_1559 rfl rfl rfl ?_
  refine Go_iload_n (pc' := 1561) dL_law_1560 rfl rfl rfl ?_
  refine Go_iconst (v := 3) (pc' := 1562) dL_law_1561 rfl (by decide) ?_
  refine Go_iadd (pc' := 1563) dL_law_1562 rfl ?_
  refine Go_scriptLd (pc' := 1564) dL_law_1563 rfl (by exact scr_ix (k := 3) (by decide) hi hL) ?_
  refine Go_aload_n (pc' := 1565) dL_law_1564 rfl rfl rfl ?_
  refine Go_iload_n (pc' := 1566) dL_law_1565 rfl rfl rfl ?_
  refine Go_iconst (v := 4) (pc' := 1567) dL_law_1566 rfl (by decide) ?_
  refine Go_iadd (pc' := 1568) dL_law_1567 rfl ?_
  refine Go_scriptLd (pc' := 1569) dL_law_1568 rfl (by exact scr_ix (k := 4) (by decide) hi hL) ?_
  refine Go_aload_n (pc' := 1570) dL_law_1569 rfl rfl rfl ?_
  refine Go_iload_n (pc' := 1571) dL_law_1570 rfl rfl rfl ?_
  refine Go_iconst (v := 5) (pc' := 1572) dL_law_1571 rfl (by decide) ?_
  refine Go_iadd (pc' := 1573) dL_law_1572 rfl ?_
  refine Go_scriptLd (pc' := 1574) dL_law_1573 rfl (by exact scr_ix (k := 5) (by decide) hi hL) ?_
  refine Go_callV_iA (mc := mc) (ms := ms) (mc2 := 8) (ms2 := 400) (pc' := 1577) (As := [.int _, .int _, .int _, .int _, .int _]) (st := []) dL_law_1574 rfl ok_X11_entry km_RL_164 (I.S.o 64 rfl rfl rfl) (I.S.b 64 rfl rfl) ⟨_, _, rfl⟩ rfl (Nat.le_of_ble_eq_true rfl) rfl rfl rfl (Nat.le_of_ble_eq_true rfl) (Nat.lt_succ_self _) (by omega) (by omega) ?_
  refine p1 _ (fun r h1 hq hS1 => ?_)
  refine ⟨_, rfl, ?_⟩
  refine Go_aload_n (pc' := 1578) dL_law_1577 rfl rfl rfl ?_
  refine Go_aload_n (pc' := 1579) dL_law_1578 rfl rfl rfl ?_
  refine Go_iload_n (pc' := 1580) dL_law_1579 rfl rfl rfl ?_
  refine Go_iconst (v := 1) (pc' := 1581) dL_law_1580 rfl (by decide) ?_
  refine Go_iadd (pc' := 1582) dL_law_1581 rfl ?_
  refine Go_scriptLd (pc' := 1583) dL_law_1582 rfl (by exact scr_ix (k := 1) (by decide) hi hL) ?_
  refine Go_aload_n (pc' := 1584) dL_law_1583 rfl rfl rfl ?_
  refine Go_iload_n (pc' := 1585) dL_law_1584 rfl rfl rfl ?_
  refine Go_iconst (v := 2) (pc' := 1586) dL_law_1585 rfl (by decide) ?_
  refine Go_iadd (pc' := 1587) dL_law_1586 rfl ?_
  refine Go_scriptLd (pc' := 1588) dL_law_1587 rfl (by exact scr_ix (k := 2) (by decide) hi hL) ?_
  refine Go_aload_n (pc' := 1589) dL_law_1588 rfl rfl rfl ?_
  refine Go_iload_n (pc' := 1590) dL_law_1589 rfl rfl rfl ?_
  refine Go_iconst (v := 3) (pc' := 1591) dL_law_1590 rfl (by decide) ?_
  refine Go_iadd (pc' := 1592) dL_law_1591 rfl ?_
  refine Go_scriptLd (pc' := 1593) dL_law_1592 rfl (by exact scr_ix (k := 3) (by decide) hi hL) ?_
  refine Go_aload_n (pc' := 1594) dL_law_1593 rfl rfl rfl ?_
  refine Go_iload_n (pc' := 1595) dL_law_1594 rfl rfl rfl ?_
  refine Go_iconst (v := 4) (pc' := 1596) dL_law_1595 rfl (by decide) ?_
  refine Go_iadd (pc' := 1597) dL_law_1596 rfl ?_
  refine Go_scriptLd (pc' := 1598) dL_law_1597 rfl (by exact scr_ix (k := 4) (by decide) hi hL) ?_
  refine Go_aload_n (pc' := 1599) dL_law_1598 rfl rfl rfl ?_
  refine Go_iload_n (pc' := 1600) dL_law_1599 rfl rfl rfl ?_
  refine Go_iconst (v := 5) (pc' := 1601) dL_law_1600 rfl (by decide) ?_
  refine Go_iadd (pc' := 1602) dL_law_1601 rfl ?_
  refine Go_scriptLd (pc' := 1603) dL_law_1602 rfl (by exact scr_ix (k := 5) (by decide) hi hL) ?_
  refine Go_callV_i (pc' := 1606) (As := [.int _, .int _, .int _, .int _, .int _]) (st := [.int _]) dL_law_1603 rfl ok_X12_entry km_RL_167 (hS1.o 99 rfl rfl rfl) (hS1.b 99 rfl rfl) ⟨_, _, rfl⟩ rfl (Nat.le_of_ble_eq_true rfl) rfl rfl rfl (Nat.le_of_ble_eq_true rfl) (Nat.lt_succ_self _) ?_
  refine p2 r h1 hq _ (fun h2 I2 => ?_)
  refine ⟨_, rfl, ?_⟩
  refine Go_icmp_eq (tgt := 1786) (pc' := 1609) dL_law_1606 (by decide) rfl (fun c1606 => ?_) (fun c1606 => ?_)
  · exact kk h2 I2
  · refine Go_iconst (v := 0) (pc' := 1610) dL_law_1609 rfl (by decide) ?_
    refine Go_ireturn (ty := .boolean) dL_law_1610 rfl rfl ?_
    exact absurd rfl c1606
set_option maxRecDepth 20000 in
theorem law_c36 {G : GC} {mc ms i : Nat} {h : HS} {K : Option Value → HS → Prop} (I : Inv h) (hi : i + 6 ≤ gL G) (hL : gL G ≤ 3072) (P : ∀ a b c : Int32, PairI G M_X11_joined M_X12_joined [.int a, .int b, .int c]) (kk : ∀ h2, Inv h2 → Go G 61 mc ms M_L_law 1786 [.ref 0, .ref 64, .ref 99, .int (nI i)] [] h2 K) : Go G 61 (mc + 8) (ms + 400) M_L_law 1611 [.ref 0, .ref 64, .ref 99, .int (nI i)] [] h K := by
  obtain ⟨Q, p1, p2⟩ := P _ _ _ h I
  refine Go_aload_n (pc' := 1612) dL_law_1611 rfl rfl rfl ?_
  refine Go_aload_n (pc' := 1613) dL_law_1612 rfl rfl rfl ?_
  refine Go_iload_n (pc' := 1614) dL_law_1613 rfl rfl rfl ?_
  refine Go_iconst (v := 1) (pc' := 1615) dL_law_1614 rfl (by decide) ?_
  refine Go_iadd (pc' := 1616) dL_law_1615 rfl ?_
  refine Go_scriptLd (pc' := 1617) dL_law_1616 rfl (by exact scr_ix (k := 1) (by decide) hi hL) ?_
  refine Go_aload_n (pc' := 1618) dL_law_1617 rfl rfl rfl ?_
  refine Go_iload_n (pc' := 1619) dL_law_1618 rfl rfl rfl ?_
  refine Go_iconst (v := 2) (pc' := 1620) dL_law_1619 rfl (by decide) ?_
  refine Go_iadd (pc' := 1621) dL_law_1620 rfl ?_
  refine Go_scriptLd (pc' := 1622) dL_law_1621 rfl (by exact scr_ix (k := 2) (by decide) hi hL) ?_
  refine Go_aload_n (pc' := 1623) dL_law_1622 rfl rfl rfl ?_
  refine Go_iload_n (pc' := 1624) dL_law_1623 rfl rfl rfl ?_
  refine Go_iconst (v := 3) (pc' := 1625) dL_law_1624 rfl (by decide) ?_
  refine Go_iadd (pc' := 1626) dL_law_1625 rfl ?_
  refine Go_scriptLd (pc' := 1627) dL_law_1626 rfl (by exact scr_ix (k := 3) (by decide) hi hL) ?_
  refine Go_callV_iA (mc := mc) (ms := ms) (mc2 := 8) (ms2 := 400) (pc' := 1630) (As := [.int _, .int _, .int _]) (st := []) dL_law_1627 rfl ok_X11_joined km_RL_168 (I.S.o 64 rfl rfl rfl) (I.S.b 64 rfl rfl) ⟨_, _, rfl⟩ rfl (Nat.le_of_ble_eq_true rfl) rfl rfl rfl (Nat.le_of_ble_eq_true rfl) (Nat.lt_succ_self _) (by omega) (by omega) ?_
  refine p1 _ (fun r h1 hq hS1 => ?_)
  refine ⟨_, rfl, ?_⟩
  refine Go_aload_n (pc' := 1631) dL_law_1630 rfl rfl rfl ?_
  refine Go_aload_n (pc' := 1632) dL_law_1631 rfl rfl rfl ?_
  refine Go_iload_n (pc' := 1633) dL_law_1632 rfl rfl rfl ?_
  refine Go_iconst (v := 1) (pc' := 1634) dL_law_1633 rfl (by decide) ?_
  refine Go_iadd (pc' := 1635) dL_law_1634 rfl ?_
  refine Go_scriptLd (pc' := 1636) dL_law_1635 rfl (by exact scr_ix (k := 1) (by decide) hi hL) ?_
  refine Go_aload_n (pc' := 1637) dL_law_1636 rfl rfl rfl ?_
  refine Go_iload_n (pc' := 1638) dL_law_1637 rfl rfl rfl ?_
  refine Go_iconst (v := 2) (pc' := 1639) dL_law_1638 rfl (by decide) ?_
  refine Go_iadd (pc' := 1640) dL_law_1639 rfl ?_
  refine Go_scriptLd (pc' := 1641) dL_law_1640 rfl (by exact scr_ix (k := 2) (by decide) hi hL) ?_
  refine Go_aload_n (pc' := 1642) dL_law_1641 rfl rfl rfl ?_
  refine Go_iload_n (pc' := 1643) dL_law_1642 rfl rfl rfl ?_
  refine Go_iconst (v := 3) (pc' := 1644) dL_law_1643 rfl (by decide) ?_
  refine Go_iadd (pc' := 1645) dL_law_1644 rfl ?_
  refine Go_scriptLd (pc' := 1646) dL_law_1645 rfl (by exact scr_ix (k := 3) (by decide) hi hL) ?_
  refine Go_callV_i (pc' := 1649) (As := [.int _, .int _, .int _]) (st := [.int _]) dL_law_1646 rfl ok_X12_joined km_RL_171 (hS1.o 99 rfl rfl rfl) (hS1.b 99 rfl rfl) ⟨_, _, rfl⟩ rfl (Nat.le_of_ble_eq_true rfl) rfl rfl rfl (Nat.le_of_ble_eq_true rfl) (Nat.lt_succ_self _) ?_
  refine p2 r h1 hq _ (fun h2 I2 => ?_)
  refine ⟨_, rfl, ?_⟩
  refine Go_icmp_eq (tgt := 1786) (pc' := 1652) dL_law_1649 (by decide) rfl (fun c1649 => ?_) (fun c1649 => ?_)
  · exact kk h2 I2
  · refine Go_iconst (v := 0) (pc' := 1653) dL_law_1652 rfl (by decide) ?_
    refine Go_ireturn (ty := .boolean) dL_law_1653 rfl rfl ?_
    exact absurd rfl c1649
set_option maxRecDepth 20000 in
theorem law_c37 {G : GC} {mc ms i : Nat} {h : HS} {K : Option Value → HS → Prop} (I : Inv h) (hi : i + 6 ≤ gL G) (hL : gL G ≤ 3072) (P : ∀ a b c : Int32, PairI G M_X11_quarries M_X12_quarries [.int a, .int b, .int c]) (kk : ∀ h2, Inv h2 → Go G 61 mc ms M_L_law 1786 [.ref 0, .ref 64, .ref 99, .int (nI i)] [] h2 K) : Go G 61 (mc + 8) (ms + 400) M_L_law 1654 [.ref 0, .ref 64, .ref 99, .int (nI i)] [] h K := by
  obtain ⟨Q, p1, p2⟩ := P _ _ _ h I
  refine Go_aload_n (pc' := 1655) dL_law_1654 rfl rfl rfl ?_
  refine Go_aload_n (pc' := 1656) dL_law_1655 rfl rfl rfl ?_
  refine Go_iload_n (pc' := 1657) dL_law_1656 rfl rfl rfl ?_
  refine Go_iconst (v := 1) (pc' := 1658) dL_law_1657 rfl (by decide) ?_
  refine Go_iadd (pc' := 1659) dL_law_1658 rfl ?_
  refine Go_scriptLd (pc' := 1660) dL_law_1659 rfl (by exact scr_ix (k := 1) (by decide) hi hL) ?_
  refine Go_aload_n (pc' := 1661) dL_law_1660 rfl rfl rfl ?_
  refine Go_iload_n (pc' := 1662) dL_law_1661 rfl rfl rfl ?_
  refine Go_iconst (v := 2) (pc' := 1663) dL_law_1662 rfl (by decide) ?_
  refine Go_iadd (pc' := 1664) dL_law_1663 rfl ?_
  refine Go_scriptLd (pc' := 1665) dL_law_1664 rfl (by exact scr_ix (k := 2) (by decide) hi hL) ?_
  refine Go_aload_n (pc' := 1666) dL_law_1665 rfl rfl rfl ?_
  refine Go_iload_n (pc' := 1667) dL_law_1666 rfl rfl rfl ?_
  refine Go_iconst (v := 3) (pc' := 1668) dL_law_1667 rfl (by decide) ?_
  refine Go_iadd (pc' := 1669) dL_law_1668 rfl ?_
  refine Go_scriptLd (pc' := 1670) dL_law_1669 rfl (by exact scr_ix (k := 3) (by decide) hi hL) ?_
  refine Go_callV_iA (mc := mc) (ms := ms) (mc2 := 8) (ms2 := 400) (pc' := 1673) (As := [.int _, .int _, .int _]) (st := []) dL_law_1670 rfl ok_X11_quarries km_RL_172 (I.S.o 64 rfl rfl rfl) (I.S.b 64 rfl rfl) ⟨_, _, rfl⟩ rfl (Nat.le_of_ble_eq_true rfl) rfl rfl rfl (Nat.le_of_ble_eq_true rfl) (Nat.lt_succ_self _) (by omega) (by omega) ?_
  refine p1 _ (fun r h1 hq hS1 => ?_)
  refine ⟨_, rfl, ?_⟩
  refine Go_aload_n (pc' := 1674) dL_law_1673 rfl rfl rfl ?_
  refine Go_aload_n (pc' := 1675) dL_law_1674 rfl rfl rfl ?_
  refine Go_iload_n (pc' := 1676) dL_law_1675 rfl rfl rfl ?_
  refine Go_iconst (v := 1) (pc' := 1677) dL_law_1676 rfl (by decide) ?_
  refine Go_iadd (pc' := 1678) dL_law_1677 rfl ?_
  refine Go_scriptLd (pc' := 1679) dL_law_1678 rfl (by exact scr_ix (k := 1) (by decide) hi hL) ?_
  refine Go_aload_n (pc' := 1680) dL_law_1679 rfl rfl rfl ?_
  refine Go_iload_n (pc' := 1681) dL_law_1680 rfl rfl rfl ?_
  refine Go_iconst (v := 2) (pc' := 1682) dL_law_1681 rfl (by decide) ?_
  refine Go_iadd (pc' := 1683) dL_law_1682 rfl ?_
  refine Go_scriptLd (pc' := 1684) dL_law_1683 rfl (by exact scr_ix (k := 2) (by decide) hi hL) ?_
  refine Go_aload_n (pc' := 1685) dL_law_1684 rfl rfl rfl ?_
  refine Go_iload_n (pc' := 1686) dL_law_1685 rfl rfl rfl ?_
  refine Go_iconst (v := 3) (pc' := 1687) dL_law_1686 rfl (by decide) ?_
  refine Go_iadd (pc' := 1688) dL_law_1687 rfl ?_
  refine Go_scriptLd (pc' := 1689) dL_law_1688 rfl (by exact scr_ix (k := 3) (by decide) hi hL) ?_
  refine Go_callV_i (pc' := 1692) (As := [.int _, .int _, .int _]) (st := [.int _]) dL_law_1689 rfl ok_X12_quarries km_RL_175 (hS1.o 99 rfl rfl rfl) (hS1.b 99 rfl rfl) ⟨_, _, rfl⟩ rfl (Nat.le_of_ble_eq_true rfl) rfl rfl rfl (Nat.le_of_ble_eq_true rfl) (Nat.lt_succ_self _) ?_
  refine p2 r h1 hq _ (fun h2 I2 => ?_)
  refine ⟨_, rfl, ?_⟩
  refine Go_icmp_eq (tgt := 1786) (pc' := 1695) dL_law_1692 (by decide) rfl (fun c1692 => ?_) (fun c1692 => ?_)
  · exact kk h2 I2
  · refine Go_iconst (v := 0) (pc' := 1696) dL_law_1695 rfl (by decide) ?_
    refine Go_ireturn (ty := .boolean) dL_law_1696 rfl rfl ?_
    exact absurd rfl c1692
set_option maxRecDepth 20000 in
theorem law_c38 {G : GC} {mc ms i : Nat} {h : HS} {K : Option Value → HS → Prop} (I : Inv h) (hi : i + 6 ≤ gL G) (hL : gL G ≤ 3072) (P : ∀ a b c : Int32, PairI G M_X11_felt M_X12_felt [.int a, .int b, .int c]) (kk : ∀ h2, Inv h2 → Go G 61 mc ms M_L_law 1786 [.ref 0, .ref 64, .ref 99, .int (nI i)] [] h2 K) : Go G 61 (mc + 8) (ms + 400) M_L_law 1697 [.ref 0, .ref 64, .ref 99, .int (nI i)] [] h K := by
  obtain ⟨Q, p1, p2⟩ := P _ _ _ h I
  refine Go_aload_n (pc' := 1698) dL_law_1697 rfl rfl rfl ?_
  refine Go_aload_n (pc' := 1699) dL_law_1698 rfl rfl rfl ?_
  refine Go_iload_n (pc' := 1700) dL_law_1699 rfl rfl rfl ?_
  refine Go_iconst (v := 1) (pc' := 1701) dL_law_1700 rfl (by decide) ?_
  refine Go_iadd (pc' := 1702) dL_law_1701 rfl ?_
  refine Go_scriptLd (pc' := 1703) dL_law_1702 rfl (by exact scr_ix (k := 1) (by decide) hi hL) ?_
  refine Go_aload_n (pc' := 1704) dL_law_1703 rfl rfl rfl ?_
  refine Go_iload_n (pc' := 1705) dL_law_1704 rfl rfl rfl ?_
  refine Go_iconst (v := 2) (pc' := 1706) dL_law_1705 rfl (by decide) ?_
  refine Go_iadd (pc' := 1707) dL_law_1706 rfl ?_
  refine Go_scriptLd (pc' := 1708) dL_law_1707 rfl (by exact scr_ix (k := 2) (by decide) hi hL) ?_
  refine Go_aload_n (pc' := 1709) dL_law_1708 rfl rfl rfl ?_
  refine Go_iload_n (pc' := 1710) dL_law_1709 rfl rfl rfl ?_
  refine Go_iconst (v := 3) (pc' := 1711) dL_law_1710 rfl (by decide) ?_
  refine Go_iadd (pc' := 1712) dL_law_1711 rfl ?_
  refine Go_scriptLd (pc' := 1713) dL_law_1712 rfl (by exact scr_ix (k := 3) (by decide) hi hL) ?_
  refine Go_callV_iA (mc := mc) (ms := ms) (mc2 := 8) (ms2 := 400) (pc' := 1716) (As := [.int _, .int _, .int _]) (st := []) dL_law_1713 rfl ok_X11_felt km_RL_176 (I.S.o 64 rfl rfl rfl) (I.S.b 64 rfl rfl) ⟨_, _, rfl⟩ rfl (Nat.le_of_ble_eq_true rfl) rfl rfl rfl (Nat.le_of_ble_eq_true rfl) (Nat.lt_succ_self _) (by omega) (by omega) ?_
  refine p1 _ (fun r h1 hq hS1 => ?_)
  refine ⟨_, rfl, ?_⟩
  refine Go_aload_n (pc' := 1717) dL_law_1716 rfl rfl rfl ?_
  refine Go_aload_n (pc' := 1718) dL_law_1717 rfl rfl rfl ?_
  refine Go_iload_n (pc' := 1719) dL_law_1718 rfl rfl rfl ?_
  refine Go_iconst (v := 1) (pc' := 1720) dL_law_1719 rfl (by decide) ?_
  refine Go_iadd (pc' := 1721) dL_law_1720 rfl ?_
  refine Go_scriptLd (pc' := 1722) dL_law_1721 rfl (by exact scr_ix (k := 1) (by decide) hi hL) ?_
  refine Go_aload_n (pc' := 1723) dL_law_1722 rfl rfl rfl ?_
  refine Go_iload_n (pc' := 1724) dL_law_1723 rfl rfl rfl ?_
  refine Go_iconst (v := 2) (pc' := 1725) dL_law_1724 rfl (by decide) ?_
  refine Go_iadd (pc' := 1726) dL_law_1725 rfl ?_
  refine Go_scriptLd (pc' := 1727) dL_law_1726 rfl (by exact scr_ix (k := 2) (by decide) hi hL) ?_
  refine Go_aload_n (pc' := 1728) dL_law_1727 rfl rfl rfl ?_
  refine Go_iload_n (pc' := 1729) dL_law_1728 rfl rfl rfl ?_
  refine Go_iconst (v := 3) (pc' := 1730) dL_law_1729 rfl (by decide) ?_
  refine Go_iadd (pc' := 1731) dL_law_1730 rfl ?_
  refine Go_scriptLd (pc' := 1732) dL_law_1731 rfl (by exact scr_ix (k := 3) (by decide) hi hL) ?_
  refine Go_callV_i (pc' := 1735) (As := [.int _, .int _, .int _]) (st := [.int _]) dL_law_1732 rfl ok_X12_felt km_RL_179 (hS1.o 99 rfl rfl rfl) (hS1.b 99 rfl rfl) ⟨_, _, rfl⟩ rfl (Nat.le_of_ble_eq_true rfl) rfl rfl rfl (Nat.le_of_ble_eq_true rfl) (Nat.lt_succ_self _) ?_
  refine p2 r h1 hq _ (fun h2 I2 => ?_)
  refine ⟨_, rfl, ?_⟩
  refine Go_icmp_eq (tgt := 1786) (pc' := 1738) dL_law_1735 (by decide) rfl (fun c1735 => ?_) (fun c1735 => ?_)
  · exact kk h2 I2
  · refine Go_iconst (v := 0) (pc' := 1739) dL_law_1738 rfl (by decide) ?_
    refine Go_ireturn (ty := .boolean) dL_law_1739 rfl rfl ?_
    exact absurd rfl c1735
set_option maxRecDepth 20000 in
theorem law_c39 {G : GC} {mc ms i : Nat} {h : HS} {K : Option Value → HS → Prop} (I : Inv h) (hi : i + 6 ≤ gL G) (hL : gL G ≤ 3072) (P : ∀ a : Int32, PairI G M_X11_shaken M_X12_shaken [.int a]) (kk : ∀ h2, Inv h2 → Go G 61 mc ms M_L_law 1786 [.ref 0, .ref 64, .ref 99, .int (nI i)] [] h2 K) : Go G 61 (mc + 8) (ms + 400) M_L_law 1740 [.ref 0, .ref 64, .ref 99, .int (nI i)] [] h K := by
  obtain ⟨Q, p1, p2⟩ := P _ h I
  refine Go_aload_n (pc' := 1741) dL_law_1740 rfl rfl rfl ?_
  refine Go_aload_n (pc' := 1742) dL_law_1741 rfl rfl rfl ?_
  refine Go_iload_n (pc' := 1743) dL_law_1742 rfl rfl rfl ?_
  refine Go_iconst (v := 1) (pc' := 1744) dL_law_1743 rfl (by decide) ?_
  refine Go_iadd (pc' := 1745) dL_law_1744 rfl ?_
  refine Go_scriptLd (pc' := 1746) dL_law_1745 rfl (by exact scr_ix (k := 1) (by decide) hi hL) ?_
  refine Go_callV_iA (mc := mc) (ms := ms) (mc2 := 8) (ms2 := 400) (pc' := 1749) (As := [.int _]) (st := []) dL_law_1746 rfl ok_X11_shaken km_RL_180 (I.S.o 64 rfl rfl rfl) (I.S.b 64 rfl rfl) ⟨_, _, rfl⟩ rfl (Nat.le_of_ble_eq_true rfl) rfl rfl rfl (Nat.le_of_ble_eq_true rfl) (Nat.lt_succ_self _) (by omega) (by omega) ?_
  refine p1 _ (fun r h1 hq hS1 => ?_)
  refine ⟨_, rfl, ?_⟩
  refine Go_aload_n (pc' := 1750) dL_law_1749 rfl rfl rfl ?_
  refine Go_aload_n (pc' := 1751) dL_law_1750 rfl rfl rfl ?_
  refine Go_iload_n (pc' := 1752) dL_law_1751 rfl rfl rfl ?_
  refine Go_iconst (v := 1) (pc' := 1753) dL_law_1752 rfl (by decide) ?_
  refine Go_iadd (pc' := 1754) dL_law_1753 rfl ?_
  refine Go_scriptLd (pc' := 1755) dL_law_1754 rfl (by exact scr_ix (k := 1) (by decide) hi hL) ?_
  refine Go_callV_i (pc' := 1758) (As := [.int _]) (st := [.int _]) dL_law_1755 rfl ok_X12_shaken km_RL_183 (hS1.o 99 rfl rfl rfl) (hS1.b 99 rfl rfl) ⟨_, _, rfl⟩ rfl (Nat.le_of_ble_eq_true rfl) rfl rfl rfl (Nat.le_of_ble_eq_true rfl) (Nat.lt_succ_self _) ?_
  refine p2 r h1 hq _ (fun h2 I2 => ?_)
  refine ⟨_, rfl, ?_⟩
  refine Go_icmp_eq (tgt := 1786) (pc' := 1761) dL_law_1758 (by decide) rfl (fun c1758 => ?_) (fun c1758 => ?_)
  · exact kk h2 I2
  · refine Go_iconst (v := 0) (pc' := 1762) dL_law_1761 rfl (by decide) ?_
    refine Go_ireturn (ty := .boolean) dL_law_1762 rfl rfl ?_
    exact absurd rfl c1758
set_option maxRecDepth 20000 in
theorem law_c40 {G : GC} {mc ms i : Nat} {h : HS} {K : Option Value → HS → Prop} (I : Inv h) (hi : i + 6 ≤ gL G) (hL : gL G ≤ 3072) (P : ∀ a : Int32, PairI G M_X11_look M_X12_look [.int a]) (kk : ∀ h2, Inv h2 → Go G 61 mc ms M_L_law 1786 [.ref 0, .ref 64, .ref 99, .int (nI i)] [] h2 K) : Go G 61 (mc + 8) (ms + 400) M_L_law 1763 [.ref 0, .ref 64, .ref 99, .int (nI i)] [] h K := by
  obtain ⟨Q, p1, p2⟩ := P _ h I
  refine Go_aload_n (pc' := 1764) dL_law_1763 rfl rfl rfl ?_
  refine Go_aload_n (pc' := 1765) dL_law_1764 rfl rfl rfl ?_
  refine Go_iload_n (pc' := 1766) dL_law_1765 rfl rfl rfl ?_
  refine Go_iconst (v := 1) (pc' := 1767) dL_law_1766 rfl (by decide) ?_
  refine Go_iadd (pc' := 1768) dL_law_1767 rfl ?_
  refine Go_scriptLd (pc' := 1769) dL_law_1768 rfl (by exact scr_ix (k := 1) (by decide) hi hL) ?_
  refine Go_callV_iA (mc := mc) (ms := ms) (mc2 := 8) (ms2 := 400) (pc' := 1772) (As := [.int _]) (st := []) dL_law_1769 rfl ok_X11_look km_RL_184 (I.S.o 64 rfl rfl rfl) (I.S.b 64 rfl rfl) ⟨_, _, rfl⟩ rfl (Nat.le_of_ble_eq_true rfl) rfl rfl rfl (Nat.le_of_ble_eq_true rfl) (Nat.lt_succ_self _) (by omega) (by omega) ?_
  refine p1 _ (fun r h1 hq hS1 => ?_)
  refine ⟨_, rfl, ?_⟩
  refine Go_aload_n (pc' := 1773) dL_law_1772 rfl rfl rfl ?_
  refine Go_aload_n (pc' := 1774) dL_law_1773 rfl rfl rfl ?_
  refine Go_iload_n (pc' := 1775) dL_law_1774 rfl rfl rfl ?_
  refine Go_iconst (v := 1) (pc' := 1776) dL_law_1775 rfl (by decide) ?_
  refine Go_iadd (pc' := 1777) dL_law_1776 rfl ?_
  refine Go_scriptLd (pc' := 1778) dL_law_1777 rfl (by exact scr_ix (k := 1) (by decide) hi hL) ?_
  refine Go_callV_i (pc' := 1781) (As := [.int _]) (st := [.int _]) dL_law_1778 rfl ok_X12_look km_RL_187 (hS1.o 99 rfl rfl rfl) (hS1.b 99 rfl rfl) ⟨_, _, rfl⟩ rfl (Nat.le_of_ble_eq_true rfl) rfl rfl rfl (Nat.le_of_ble_eq_true rfl) (Nat.lt_succ_self _) ?_
  refine p2 r h1 hq _ (fun h2 I2 => ?_)
  refine ⟨_, rfl, ?_⟩
  refine Go_icmp_eq (tgt := 1786) (pc' := 1784) dL_law_1781 (by decide) rfl (fun c1781 => ?_) (fun c1781 => ?_)
  · exact kk h2 I2
  · refine Go_iconst (v := 0) (pc' := 1785) dL_law_1784 rfl (by decide) ?_
    refine Go_ireturn (ty := .boolean) dL_law_1785 rfl rfl ?_
    exact absurd rfl c1781
def Pairs (G : GC) : Prop := (∀ a b : Int32, PairI G M_X11_cellar M_X12_cellar [.int a, .int b]) ∧ (∀ a b c e : Int32, PairI G M_X11_pen M_X12_pen [.int a, .int b, .int c, .int e]) ∧ (∀ a b : Int32, PairI G M_X11_ground M_X12_ground [.int a, .int b]) ∧ (∀ a b c : Int32, PairI G M_X11_write M_X12_write [.int a, .int b, .int c]) ∧ (∀ a : Int32, PairI G M_X11_paper M_X12_paper [.int a]) ∧ (∀ a b : Int32, PairI G M_X11_at M_X12_at [.int a, .int b]) ∧ (∀ a b : Int32, PairI G M_X11_back M_X12_back [.int a, .int b]) ∧ (∀ a b c e : Int32, PairI G M_X11_swing M_X12_swing [.int a, .int b, .int c, .int e]) ∧ (∀ a b c : Int32, PairI G M_X11_mark M_X12_mark [.int a, .int b, .int c]) ∧ (∀ a b c e : Int32, PairI G M_X11_clock M_X12_clock [.int a, .int b, .int c, .int e]) ∧ (∀ a b c : Int32, PairL G M_X11_time M_X12_time [.int a, .int b, .int c]) ∧ (∀ a b : Int32, PairI G M_X11_first M_X12_first [.int a, .int b]) ∧ (∀ a b c e : Int32, PairI G M_X11_burst M_X12_burst [.int a, .int b, .int c, .int e]) ∧ (∀ a b c e f : Int32, PairI G M_X11_kind M_X12_kind [.int a, .int b, .int c, .int e, .int f]) ∧ (∀ a b c e f : Int32, PairI G M_X11_feed M_X12_feed [.int a, .int b, .int c, .int e, .int f]) ∧ (∀ a : Int32, PairI G M_X11_end M_X12_end [.int a]) ∧ (PairI G M_X11_rules M_X12_rules []) ∧ (∀ a : Int32, PairI G M_X11_fault M_X12_fault [.int a]) ∧ (∀ a b : Int32, PairI G M_X11_waves M_X12_waves [.int a, .int b]) ∧ (PairI G M_X11_quake M_X12_quake []) ∧ (∀ a b c e : Int32, PairI G M_X11_read M_X12_read [.int a, .int b, .int c, .int e]) ∧ (∀ a b c e : Int32, PairI G M_X11_second M_X12_second [.int a, .int b, .int c, .int e]) ∧ (∀ a b c e : Int32, PairI G M_X11_beat M_X12_beat [.int a, .int b, .int c, .int e]) ∧ (∀ a b c : Int32, PairI G M_X11_fits M_X12_fits [.int a, .int b, .int c]) ∧ (∀ a b c : Int32, PairI G M_X11_fit M_X12_fit [.int a, .int b, .int c]) ∧ (∀ a : Int32, PairI G M_X11_wrong M_X12_wrong [.int a]) ∧ (∀ a b c : Int32, PairI G M_X11_slides M_X12_slides [.int a, .int b, .int c]) ∧ (∀ a : Int32, PairI G M_X11_level M_X12_level [.int a]) ∧ (∀ a b : Int32, PairI G M_X11_habit M_X12_habit [.int a, .int b]) ∧ (∀ a b c e : Int32, PairI G M_X11_size M_X12_size [.int a, .int b, .int c, .int e]) ∧ (∀ a b c : Int32, PairI G M_X11_place M_X12_place [.int a, .int b, .int c]) ∧ (∀ a : Int32, PairI G M_X11_own M_X12_own [.int a]) ∧ (∀ a : Int32, PairI G M_X11_pick M_X12_pick [.int a]) ∧ (∀ a : Int32, PairI G M_X11_parted M_X12_parted [.int a]) ∧ (∀ a b c : Int32, PairI G M_X11_couples M_X12_couples [.int a, .int b, .int c]) ∧ (∀ a b c e f : Int32, PairI G M_X11_entry M_X12_entry [.int a, .int b, .int c, .int e, .int f]) ∧ (∀ a b c : Int32, PairI G M_X11_joined M_X12_joined [.int a, .int b, .int c]) ∧ (∀ a b c : Int32, PairI G M_X11_quarries M_X12_quarries [.int a, .int b, .int c]) ∧ (∀ a b c : Int32, PairI G M_X11_felt M_X12_felt [.int a, .int b, .int c]) ∧ (∀ a : Int32, PairI G M_X11_shaken M_X12_shaken [.int a]) ∧ (∀ a : Int32, PairI G M_X11_look M_X12_look [.int a])
set_option maxRecDepth 20000 in
theorem law_loop {G : GC} {K : Option Value → HS → Prop} (hL : gL G ≤ 3072) (A : Pairs G) (hK : ∀ h, Inv h → K (some (.int 1)) h) : ∀ (n i : Nat) (h : HS), Inv h → gL G < i + 6 * (n + 1) → i ≤ 3100 → Go G 61 (8 * n) (400 * n) M_L_law 18 [.ref 0, .ref 64, .ref 99, .int (nI i)] [] h K := by
  intro n
  induction n with
  | zero =>
    intro i h I hn hi
    refine Go_iload_n (pc' := 19) dL_law_18 rfl rfl rfl ?_
    refine Go_aload_n (pc' := 20) dL_law_19 rfl rfl rfl ?_
    refine Go_scriptLen (pc' := 21) dL_law_20 rfl ?_
    refine Go_bipush (v := 6) (pc' := 23) dL_law_21 rfl (by decide) ?_
    refine Go_isub (pc' := 24) dL_law_23 rfl ?_
    have e1 : (Int32.ofNat (gL G) - 6).toInt = (gL G : Int) - 6 := by
      have := i_ofNat (n := gL G) (by omega)
      rw [i_sub, this]
      · rfl
      · rw [this]; show _ ≤ (gL G : Int) - 6; omega
      · rw [this]; show (gL G : Int) - 6 < _; omega
    refine Go_icmp_gt (tgt := 1792) (pc' := 27) dL_law_24 (by decide) rfl (fun c24 => ?_) (fun c24 => ?_)
    · refine Go_iconst (v := 1) (pc' := 1793) dL_law_1792 rfl (by decide) ?_
      exact Go_ireturn (ty := .boolean) dL_law_1793 rfl rfl (hK h I)
    · exact absurd (by rw [i_lt, e1, i_nI (by omega)]; omega) c24
  | succ n ih =>
    intro i h I hn hi
    refine Go_iload_n (pc' := 19) dL_law_18 rfl rfl rfl ?_
    refine Go_aload_n (pc' := 20) dL_law_19 rfl rfl rfl ?_
    refine Go_scriptLen (pc' := 21) dL_law_20 rfl ?_
    refine Go_bipush (v := 6) (pc' := 23) dL_law_21 rfl (by decide) ?_
    refine Go_isub (pc' := 24) dL_law_23 rfl ?_
    have e1 : (Int32.ofNat (gL G) - 6).toInt = (gL G : Int) - 6 := by
      have := i_ofNat (n := gL G) (by omega)
      rw [i_sub, this]
      · rfl
      · rw [this]; show _ ≤ (gL G : Int) - 6; omega
      · rw [this]; show (gL G : Int) - 6 < _; omega
    refine Go_icmp_gt (tgt := 1792) (pc' := 27) dL_law_24 (by decide) rfl (fun c24 => ?_) (fun c24 => ?_)
    · refine Go_iconst (v := 1) (pc' := 1793) dL_law_1792 rfl (by decide) ?_
      exact Go_ireturn (ty := .boolean) dL_law_1793 rfl rfl (hK h I)
    have hi6 : i + 6 ≤ gL G := by
      rw [i_lt, e1, i_nI (by omega)] at c24; omega
    have kk : ∀ h2, Inv h2 → Go G 61 (8 * n) (400 * n) M_L_law 1786 [.ref 0, .ref 64, .ref 99, .int (nI i)] [] h2 K := by
      intro h2 I2
      refine Go_iinc (pc' := 1789) (lv' := [.ref _, .ref _, .ref _, .int (nI (i + 6))]) dL_law_1786 rfl rfl (nI_add i 6) (Nat.le_of_ble_eq_true rfl) rfl rfl ?_
      refine Go_goto (tgt := 18) dL_law_1789 (by decide) ?_
      exact ih (i + 6) h2 I2 (by omega) (by omega)
    refine Go_aload_n (pc' := 28) dL_law_27 rfl rfl rfl ?_
    refine Go_iload_n (pc' := 29) dL_law_28 rfl rfl rfl ?_
    refine Go_scriptLd (pc' := 30) dL_law_29 rfl (inR_nI (by omega) (by omega)) ?_
    refine Go_bipush (v := 63) (pc' := 32) dL_law_30 rfl (by decide) ?_
    refine Go_iand (pc' := 33) dL_law_32 rfl ?_
    obtain ⟨j, hj, ej⟩ := pk_andE (gX G (nI i).toNatClampNeg) (m := 63) 6 (by decide)
    rw [ej]
    refine Go.more (d := 61) (mc := 8 * n + 8) (ms := 400 * n + 400) ?_ (Nat.le_refl _) (by omega) (by omega)
    have hcs : j = 0 ∨ j = 1 ∨ j = 2 ∨ j = 3 ∨ j = 4 ∨ j = 5 ∨ j = 6 ∨ j = 7 ∨ j = 8 ∨ j = 9 ∨ j = 10 ∨ j = 11 ∨ j = 12 ∨ j = 13 ∨ j = 14 ∨ j = 15 ∨ j = 16 ∨ j = 17 ∨ j = 18 ∨ j = 19 ∨ j = 20 ∨ j = 21 ∨ j = 22 ∨ j = 23 ∨ j = 24 ∨ j = 25 ∨ j = 26 ∨ j = 27 ∨ j = 28 ∨ j = 29 ∨ j = 30 ∨ j = 31 ∨ j = 32 ∨ j = 33 ∨ j = 34 ∨ j = 35 ∨ j = 36 ∨ j = 37 ∨ j = 38 ∨ j = 39 ∨ j = 40 ∨ 41 ≤ j := by omega
    rcases hcs with rfl | rfl | rfl | rfl | rfl | rfl | rfl | rfl | rfl | rfl | rfl | rfl | rfl | rfl | rfl | rfl | rfl | rfl | rfl | rfl | rfl | rfl | rfl | rfl | rfl | rfl | rfl | rfl | rfl | rfl | rfl | rfl | rfl | rfl | rfl | rfl | rfl | rfl | rfl | rfl | rfl | h41
    · exact Go_tableIn (x := nI 0) (off := 179) (tgt := 212) dL_law_33 (by decide) (by decide) (by decide +kernel) (by decide) (law_c0 I hi6 hL A.1 kk)
    · exact Go_tableIn (x := nI 1) (off := 212) (tgt := 245) dL_law_33 (by decide) (by decide) (by decide +kernel) (by decide) (law_c1 I hi6 hL A.2.1 kk)
    · exact Go_tableIn (x := nI 2) (off := 265) (tgt := 298) dL_law_33 (by decide) (by decide) (by decide +kernel) (by decide) (law_c2 I hi6 hL A.2.2.1 kk)
    · exact Go_tableIn (x := nI 3) (off := 298) (tgt := 331) dL_law_33 (by decide) (by decide) (by decide +kernel) (by decide) (law_c3 I hi6 hL A.2.2.2.1 kk)
    · exact Go_tableIn (x := nI 4) (off := 341) (tgt := 374) dL_law_33 (by decide) (by decide) (by decide +kernel) (by decide) (law_c4 I hi6 hL A.2.2.2.2.1 kk)
    · exact Go_tableIn (x := nI 5) (off := 364) (tgt := 397) dL_law_33 (by decide) (by decide) (by decide +kernel) (by decide) (law_c5 I hi6 hL A.2.2.2.2.2.1 kk)
    · exact Go_tableIn (x := nI 6) (off := 397) (tgt := 430) dL_law_33 (by decide) (by decide) (by decide +kernel) (by decide) (law_c6 I hi6 hL A.2.2.2.2.2.2.1 kk)
    · exact Go_tableIn (x := nI 7) (off := 430) (tgt := 463) dL_law_33 (by decide) (by decide) (by decide +kernel) (by decide) (law_c7 I hi6 hL A.2.2.2.2.2.2.2.1 kk)
    · exact Go_tableIn (x := nI 8) (off := 483) (tgt := 516) dL_law_33 (by decide) (by decide) (by decide +kernel) (by decide) (law_c8 I hi6 hL A.2.2.2.2.2.2.2.2.1 kk)
    · exact Go_tableIn (x := nI 9) (off := 526) (tgt := 559) dL_law_33 (by decide) (by decide) (by decide +kernel) (by decide) (law_c9 I hi6 hL A.2.2.2.2.2.2.2.2.2.1 kk)
    · exact Go_tableIn (x := nI 10) (off := 579) (tgt := 612) dL_law_33 (by decide) (by decide) (by decide +kernel) (by decide) (law_c10 I hi6 hL A.2.2.2.2.2.2.2.2.2.2.1 kk)
    · exact Go_tableIn (x := nI 11) (off := 623) (tgt := 656) dL_law_33 (by decide) (by decide) (by decide +kernel) (by decide) (law_c11 I hi6 hL A.2.2.2.2.2.2.2.2.2.2.2.1 kk)
    · exact Go_tableIn (x := nI 12) (off := 656) (tgt := 689) dL_law_33 (by decide) (by decide) (by decide +kernel) (by decide) (law_c12 I hi6 hL A.2.2.2.2.2.2.2.2.2.2.2.2.1 kk)
    · exact Go_tableIn (x := nI 13) (off := 709) (tgt := 742) dL_law_33 (by decide) (by decide) (by decide +kernel) (by decide) (law_c13 I hi6 hL A.2.2.2.2.2.2.2.2.2.2.2.2.2.1 kk)
    · exact Go_tableIn (x := nI 14) (off := 772) (tgt := 805) dL_law_33 (by decide) (by decide) (by decide +kernel) (by decide) (law_c14 I hi6 hL A.2.2.2.2.2.2.2.2.2.2.2.2.2.2.1 kk)
    · exact Go_tableIn (x := nI 15) (off := 835) (tgt := 868) dL_law_33 (by decide) (by decide) (by decide +kernel) (by decide) (law_c15 I hi6 hL A.2.2.2.2.2.2.2.2.2.2.2.2.2.2.2.1 kk)
    · exact Go_tableIn (x := nI 16) (off := 858) (tgt := 891) dL_law_33 (by decide) (by decide) (by decide +kernel) (by decide) (law_c16 I hi6 hL A.2.2.2.2.2.2.2.2.2.2.2.2.2.2.2.2.1 kk)
    · exact Go_tableIn (x := nI 17) (off := 871) (tgt := 904) dL_law_33 (by decide) (by decide) (by decide +kernel) (by decide) (law_c17 I hi6 hL A.2.2.2.2.2.2.2.2.2.2.2.2.2.2.2.2.2.1 kk)
    · exact Go_tableIn (x := nI 18) (off := 894) (tgt := 927) dL_law_33 (by decide) (by decide) (by decide +kernel) (by decide) (law_c18 I hi6 hL A.2.2.2.2.2.2.2.2.2.2.2.2.2.2.2.2.2.2.1 kk)
    · exact Go_tableIn (x := nI 19) (off := 927) (tgt := 960) dL_law_33 (by decide) (by decide) (by decide +kernel) (by decide) (law_c19 I hi6 hL A.2.2.2.2.2.2.2.2.2.2.2.2.2.2.2.2.2.2.2.1 kk)
    · exact Go_tableIn (x := nI 20) (off := 940) (tgt := 973) dL_law_33 (by decide) (by decide) (by decide +kernel) (by decide) (law_c20 I hi6 hL A.2.2.2.2.2.2.2.2.2.2.2.2.2.2.2.2.2.2.2.2.1 kk)
    · exact Go_tableIn (x := nI 21) (off := 993) (tgt := 1026) dL_law_33 (by decide) (by decide) (by decide +kernel) (by decide) (law_c21 I hi6 hL A.2.2.2.2.2.2.2.2.2.2.2.2.2.2.2.2.2.2.2.2.2.1 kk)
    · exact Go_tableIn (x := nI 22) (off := 1046) (tgt := 1079) dL_law_33 (by decide) (by decide) (by decide +kernel) (by decide) (law_c22 I hi6 hL A.2.2.2.2.2.2.2.2.2.2.2.2.2.2.2.2.2.2.2.2.2.2.1 kk)
    · exact Go_tableIn (x := nI 23) (off := 1099) (tgt := 1132) dL_law_33 (by decide) (by decide) (by decide +kernel) (by decide) (law_c23 I hi6 hL A.2.2.2.2.2.2.2.2.2.2.2.2.2.2.2.2.2.2.2.2.2.2.2.1 kk)
    · exact Go_tableIn (x := nI 24) (off := 1142) (tgt := 1175) dL_law_33 (by decide) (by decide) (by decide +kernel) (by decide) (law_c24 I hi6 hL A.2.2.2.2.2.2.2.2.2.2.2.2.2.2.2.2.2.2.2.2.2.2.2.2.1 kk)
    · exact Go_tableIn (x := nI 25) (off := 1185) (tgt := 1218) dL_law_33 (by decide) (by decide) (by decide +kernel) (by decide) (law_c25 I hi6 hL A.2.2.2.2.2.2.2.2.2.2.2.2.2.2.2.2.2.2.2.2.2.2.2.2.2.1 kk)
    · exact Go_tableIn (x := nI 26) (off := 1208) (tgt := 1241) dL_law_33 (by decide) (by decide) (by decide +kernel) (by decide) (law_c26 I hi6 hL A.2.2.2.2.2.2.2.2.2.2.2.2.2.2.2.2.2.2.2.2.2.2.2.2.2.2.1 kk)
    · exact Go_tableIn (x := nI 27) (off := 1251) (tgt := 1284) dL_law_33 (by decide) (by decide) (by decide +kernel) (by decide) (law_c27 I hi6 hL A.2.2.2.2.2.2.2.2.2.2.2.2.2.2.2.2.2.2.2.2.2.2.2.2.2.2.2.1 kk)
    · exact Go_tableIn (x := nI 28) (off := 1274) (tgt := 1307) dL_law_33 (by decide) (by decide) (by decide +kernel) (by decide) (law_c28 I hi6 hL A.2.2.2.2.2.2.2.2.2.2.2.2.2.2.2.2.2.2.2.2.2.2.2.2.2.2.2.2.1 kk)
    · exact Go_tableIn (x := nI 29) (off := 1307) (tgt := 1340) dL_law_33 (by decide) (by decide) (by decide +kernel) (by decide) (law_c29 I hi6 hL A.2.2.2.2.2.2.2.2.2.2.2.2.2.2.2.2.2.2.2.2.2.2.2.2.2.2.2.2.2.1 kk)
    · exact Go_tableIn (x := nI 30) (off := 1360) (tgt := 1393) dL_law_33 (by decide) (by decide) (by decide +kernel) (by decide) (law_c30 I hi6 hL A.2.2.2.2.2.2.2.2.2.2.2.2.2.2.2.2.2.2.2.2.2.2.2.2.2.2.2.2.2.2.1 kk)
    · exact Go_tableIn (x := nI 31) (off := 1403) (tgt := 1436) dL_law_33 (by decide) (by decide) (by decide +kernel) (by decide) (law_c31 I hi6 hL A.2.2.2.2.2.2.2.2.2.2.2.2.2.2.2.2.2.2.2.2.2.2.2.2.2.2.2.2.2.2.2.1 kk)
    · exact Go_tableIn (x := nI 32) (off := 1426) (tgt := 1459) dL_law_33 (by decide) (by decide) (by decide +kernel) (by decide) (law_c32 I hi6 hL A.2.2.2.2.2.2.2.2.2.2.2.2.2.2.2.2.2.2.2.2.2.2.2.2.2.2.2.2.2.2.2.2.1 kk)
    · exact Go_tableIn (x := nI 33) (off := 1449) (tgt := 1482) dL_law_33 (by decide) (by decide) (by decide +kernel) (by decide) (law_c33 I hi6 hL A.2.2.2.2.2.2.2.2.2.2.2.2.2.2.2.2.2.2.2.2.2.2.2.2.2.2.2.2.2.2.2.2.2.1 kk)
    · exact Go_tableIn (x := nI 34) (off := 1472) (tgt := 1505) dL_law_33 (by decide) (by decide) (by decide +kernel) (by decide) (law_c34 I hi6 hL A.2.2.2.2.2.2.2.2.2.2.2.2.2.2.2.2.2.2.2.2.2.2.2.2.2.2.2.2.2.2.2.2.2.2.1 kk)
    · exact Go_tableIn (x := nI 35) (off := 1515) (tgt := 1548) dL_law_33 (by decide) (by decide) (by decide +kernel) (by decide) (law_c35 I hi6 hL A.2.2.2.2.2.2.2.2.2.2.2.2.2.2.2.2.2.2.2.2.2.2.2.2.2.2.2.2.2.2.2.2.2.2.2.1 kk)
    · exact Go_tableIn (x := nI 36) (off := 1578) (tgt := 1611) dL_law_33 (by decide) (by decide) (by decide +kernel) (by decide) (law_c36 I hi6 hL A.2.2.2.2.2.2.2.2.2.2.2.2.2.2.2.2.2.2.2.2.2.2.2.2.2.2.2.2.2.2.2.2.2.2.2.2.1 kk)
    · exact Go_tableIn (x := nI 37) (off := 1621) (tgt := 1654) dL_law_33 (by decide) (by decide) (by decide +kernel) (by decide) (law_c37 I hi6 hL A.2.2.2.2.2.2.2.2.2.2.2.2.2.2.2.2.2.2.2.2.2.2.2.2.2.2.2.2.2.2.2.2.2.2.2.2.2.1 kk)
    · exact Go_tableIn (x := nI 38) (off := 1664) (tgt := 1697) dL_law_33 (by decide) (by decide) (by decide +kernel) (by decide) (law_c38 I hi6 hL A.2.2.2.2.2.2.2.2.2.2.2.2.2.2.2.2.2.2.2.2.2.2.2.2.2.2.2.2.2.2.2.2.2.2.2.2.2.2.1 kk)
    · exact Go_tableIn (x := nI 39) (off := 1707) (tgt := 1740) dL_law_33 (by decide) (by decide) (by decide +kernel) (by decide) (law_c39 I hi6 hL A.2.2.2.2.2.2.2.2.2.2.2.2.2.2.2.2.2.2.2.2.2.2.2.2.2.2.2.2.2.2.2.2.2.2.2.2.2.2.2.1 kk)
    · exact Go_tableIn (x := nI 40) (off := 1730) (tgt := 1763) dL_law_33 (by decide) (by decide) (by decide +kernel) (by decide) (law_c40 I hi6 hL A.2.2.2.2.2.2.2.2.2.2.2.2.2.2.2.2.2.2.2.2.2.2.2.2.2.2.2.2.2.2.2.2.2.2.2.2.2.2.2.2 kk)
    · refine Go_tableOut (tgt := 1786) dL_law_33 (Or.inr ?_) (by decide) ((kk h I).more (Nat.le_refl _) (by omega) (by omega))
      rw [i_nI (by omega)]; omega
