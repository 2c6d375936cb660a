/-! ===== the law: its loop ===== -/
abbrev Rm : Room := rmD 200 600000 7302250
abbrev LW (rt : Option FieldType) (nm : String) (ro : Ro) (Qf : Wd → List Frame → Array Value → State → State → Prop) (cells slots pc : Nat) (al st : List Value) (S : St) (I : In) : Prop := V RL cL_law 4 rt nm ro Rm Qf cells slots pc al st S I
theorem v_ag {rt : Option FieldType} {nm : String} {ro : Ro} {Qf : Wd → List Frame → Array Value → State → State → Prop} {cells slots pc n j k : Nat} {z : Int} {al st : List Value} {S : St} {I : In} (h0 : decode cL_law pc = .ok (.aload_n 0, 1)) (h1 : decode cL_law (pc + 1) = .ok (.iload_n 3, 1)) (h2 : decode cL_law (pc + 2) = .ok (.iconst z, 1)) (hz : Int32.ofInt z = nI k) (h3 : decode cL_law (pc + 3) = .ok (.iadd, 1)) (h4 : decode cL_law (pc + 4) = .ok (.iaload, 1)) (hn : pc + 5 = n) (a0 : al[0]? = some (.ref ro.2.1.1)) (a3 : al[3]? = some (.int (nI (6 * j)))) (hj : 6 * j + k < ro.2.1.2.1) (hL : ro.2.1.2.1 ≤ 384)
    (kk : LW rt nm ro Qf cells slots n al (.int (ro.2.1.2.2 (6 * j + k)) :: st) S I) : LW rt nm ro Qf cells slots pc al st S I := by
  refine v_aload_n (n := pc + 1) h0 rfl a0 rfl ?_
  refine v_iload_n (n := pc + 2) h1 rfl a3 rfl ?_
  refine v_iconst (n := pc + 3) h2 hz rfl ?_
  refine v_iadd (n := pc + 4) h3 rfl ?_
  rw [nI_add]
  exact v_scLd (j := 6 * j + k) (ix_nI hj (by omega)) h4 (by omega) kk
/-- what is left behind one call of the script -/
abbrev Nx (rt : Option FieldType) (nm : String) (ro : Ro) (Qf : Wd → List Frame → Array Value → State → State → Prop) (cells slots x m B b j : Nat) : Prop := ∀ S I c s, c ≤ cells + 3 → s ≤ slots + 197 → GI S I x m B (b + 100000) (j + 1) → LW rt nm ro Qf c s 1395 [.ref ro.2.1.1, .ref x, .ref m, .int (nI (6 * j))] [] S I
set_option maxRecDepth 100000 in
set_option maxHeartbeats 1000000 in
theorem la_yard {rt : Option FieldType} {nm : String} {ro : Ro} {Qf : Wd → List Frame → Array Value → State → State → Prop} {cells slots x m B b j : Nat} {S : St} {I : In} (h : GI S I x m B b j) (hb : b < 79000000) (hj : 6 * j + 5 < ro.2.1.2.1) (hL : ro.2.1.2.1 ≤ 384) (hc : cells + 3 ≤ 600000 ∧ slots + 197 ≤ 7302250) (kk : Nx rt nm ro Qf cells slots x m B b j) : LW rt nm ro Qf cells slots 212 [.ref ro.2.1.1, .ref x, .ref m, .int (nI (6 * j))] [] S I := by
  refine v_aload_n (n := 213) dL_law_212 rfl rfl rfl ?_
  refine v_ag (n := 218) (k := 1) dL_law_213 dL_law_214 dL_law_215 rfl dL_law_216 dL_law_217 rfl rfl rfl (by omega) hL ?_
  refine v_ag (n := 223) (k := 2) dL_law_218 dL_law_219 dL_law_220 rfl dL_law_221 dL_law_222 rfl rfl rfl (by omega) hL ?_
  refine v_ag (n := 228) (k := 3) dL_law_223 dL_law_224 dL_law_225 rfl dL_law_226 dL_law_227 rfl rfl rfl (by omega) hL ?_
  refine v_callV (n := 231) (D := 200) (As := [.int (ro.2.1.2.2 (6 * j + 1)), .int (ro.2.1.2.2 (6 * j + 2)), .int (ro.2.1.2.2 (6 * j + 3))]) (rest := []) mc_X10_yard l_L_13 iv_X10_yard se_X10_yard (ci := 9) ⟨by decide, rfl⟩ h.2.1.1.s (g_yard (xa := ro.2.1.2.2 (6 * j + 1)) (xb := ro.2.1.2.2 (6 * j + 2)) (xc := ro.2.1.2.2 (6 * j + 3)) h hb) ⟨rfl, rfl⟩ (l8 rfl) ⟨by show cells + 0 ≤ 600000; omega, by show slots + 0 ≤ 7302250; omega⟩ rfl rfl (l8 rfl) dL_law_228 rfl ?_
  rintro r S1 I1 ⟨v, rfl, hs, hM⟩
  refine v_aload_n (n := 232) dL_law_231 rfl rfl rfl ?_
  refine v_ag (n := 237) (k := 1) dL_law_232 dL_law_233 dL_law_234 rfl dL_law_235 dL_law_236 rfl rfl rfl (by omega) hL ?_
  refine v_ag (n := 242) (k := 2) dL_law_237 dL_law_238 dL_law_239 rfl dL_law_240 dL_law_241 rfl rfl rfl (by omega) hL ?_
  refine v_ag (n := 247) (k := 3) dL_law_242 dL_law_243 dL_law_244 rfl dL_law_245 dL_law_246 rfl rfl rfl (by omega) hL ?_
  refine v_callV (n := 250) (D := 200) (As := [.int (ro.2.1.2.2 (6 * j + 1)), .int (ro.2.1.2.2 (6 * j + 2)), .int (ro.2.1.2.2 (6 * j + 3))]) (rest := [.int v]) mc_X11_yard l_L_17 iv_X11_yard se_X11_yard (ci := 10) ⟨by decide, rfl⟩ hs hM ⟨rfl, rfl⟩ (l8 rfl) ⟨by show cells + 0 + 0 ≤ 600000; omega, by show slots + 0 + 0 ≤ 7302250; omega⟩ rfl rfl (l8 rfl) dL_law_247 rfl ?_
  rintro r2 S2 I2 ⟨rfl, hG⟩
  exact v_icmp_eq (n := 253) (tgt := 1395) dL_law_250 (by decide) rfl (fun _ => kk _ _ _ _ (by omega) (by omega) hG) (fun z => absurd rfl z)
set_option maxRecDepth 100000 in
set_option maxHeartbeats 1000000 in
theorem la_told {rt : Option FieldType} {nm : String} {ro : Ro} {Qf : Wd → List Frame → Array Value → State → State → Prop} {cells slots x m B b j : Nat} {S : St} {I : In} (h : GI S I x m B b j) (hb : b < 79000000) (hj : 6 * j + 5 < ro.2.1.2.1) (hL : ro.2.1.2.1 ≤ 384) (hc : cells + 3 ≤ 600000 ∧ slots + 197 ≤ 7302250) (kk : Nx rt nm ro Qf cells slots x m B b j) : LW rt nm ro Qf cells slots 255 [.ref ro.2.1.1, .ref x, .ref m, .int (nI (6 * j))] [] S I := by
  refine v_aload_n (n := 256) dL_law_255 rfl rfl rfl ?_
  refine v_ag (n := 261) (k := 1) dL_law_256 dL_law_257 dL_law_258 rfl dL_law_259 dL_law_260 rfl rfl rfl (by omega) hL ?_
  refine v_ag (n := 266) (k := 2) dL_law_261 dL_law_262 dL_law_263 rfl dL_law_264 dL_law_265 rfl rfl rfl (by omega) hL ?_
  refine v_callV (n := 269) (D := 200) (As := [.int (ro.2.1.2.2 (6 * j + 1)), .int (ro.2.1.2.2 (6 * j + 2))]) (rest := []) mc_X10_told l_L_18 iv_X10_told se_X10_told (ci := 9) ⟨by decide, rfl⟩ h.2.1.1.s (g_told (xa := ro.2.1.2.2 (6 * j + 1)) (xb := ro.2.1.2.2 (6 * j + 2)) h hb) ⟨rfl, rfl⟩ (l8 rfl) ⟨by show cells + 0 ≤ 600000; omega, by show slots + 0 ≤ 7302250; omega⟩ rfl rfl (l8 rfl) dL_law_266 rfl ?_
  rintro r S1 I1 ⟨v, rfl, hs, hM⟩
  refine v_aload_n (n := 270) dL_law_269 rfl rfl rfl ?_
  refine v_ag (n := 275) (k := 1) dL_law_270 dL_law_271 dL_law_272 rfl dL_law_273 dL_law_274 rfl rfl rfl (by omega) hL ?_
  refine v_ag (n := 280) (k := 2) dL_law_275 dL_law_276 dL_law_277 rfl dL_law_278 dL_law_279 rfl rfl rfl (by omega) hL ?_
  refine v_callV (n := 283) (D := 200) (As := [.int (ro.2.1.2.2 (6 * j + 1)), .int (ro.2.1.2.2 (6 * j + 2))]) (rest := [.int v]) mc_X11_told l_L_22 iv_X11_told se_X11_told (ci := 10) ⟨by decide, rfl⟩ hs hM ⟨rfl, rfl⟩ (l8 rfl) ⟨by show cells + 0 + 0 ≤ 600000; omega, by show slots + 0 + 0 ≤ 7302250; omega⟩ rfl rfl (l8 rfl) dL_law_280 rfl ?_
  rintro r2 S2 I2 ⟨rfl, hG⟩
  exact v_icmp_eq (n := 286) (tgt := 1395) dL_law_283 (by decide) rfl (fun _ => kk _ _ _ _ (by omega) (by omega) hG) (fun z => absurd rfl z)
set_option maxRecDepth 100000 in
set_option maxHeartbeats 1000000 in
theorem la_as {rt : Option FieldType} {nm : String} {ro : Ro} {Qf : Wd → List Frame → Array Value → State → State → Prop} {cells slots x m B b j : Nat} {S : St} {I : In} (h : GI S I x m B b j) (hb : b < 79000000) (hj : 6 * j + 5 < ro.2.1.2.1) (hL : ro.2.1.2.1 ≤ 384) (hc : cells + 3 ≤ 600000 ∧ slots + 197 ≤ 7302250) (kk : Nx rt nm ro Qf cells slots x m B b j) : LW rt nm ro Qf cells slots 288 [.ref ro.2.1.1, .ref x, .ref m, .int (nI (6 * j))] [] S I := by
  refine v_aload_n (n := 289) dL_law_288 rfl rfl rfl ?_
  refine v_ag (n := 294) (k := 1) dL_law_289 dL_law_290 dL_law_291 rfl dL_law_292 dL_law_293 rfl rfl rfl (by omega) hL ?_
  refine v_ag (n := 299) (k := 2) dL_law_294 dL_law_295 dL_law_296 rfl dL_law_297 dL_law_298 rfl rfl rfl (by omega) hL ?_
  refine v_callV (n := 302) (D := 200) (As := [.int (ro.2.1.2.2 (6 * j + 1)), .int (ro.2.1.2.2 (6 * j + 2))]) (rest := []) mc_X10_as l_L_23 iv_X10_as se_X10_as (ci := 9) ⟨by decide, rfl⟩ h.2.1.1.s (g_as (xa := ro.2.1.2.2 (6 * j + 1)) (xb := ro.2.1.2.2 (6 * j + 2)) h hb) ⟨rfl, rfl⟩ (l8 rfl) ⟨by show cells + 0 ≤ 600000; omega, by show slots + 0 ≤ 7302250; omega⟩ rfl rfl (l8 rfl) dL_law_299 rfl ?_
  rintro r S1 I1 ⟨v, rfl, hs, hM⟩
  refine v_aload_n (n := 303) dL_law_302 rfl rfl rfl ?_
  refine v_ag (n := 308) (k := 1) dL_law_303 dL_law_304 dL_law_305 rfl dL_law_306 dL_law_307 rfl rfl rfl (by omega) hL ?_
  refine v_ag (n := 313) (k := 2) dL_law_308 dL_law_309 dL_law_310 rfl dL_law_311 dL_law_312 rfl rfl rfl (by omega) hL ?_
  refine v_callV (n := 316) (D := 200) (As := [.int (ro.2.1.2.2 (6 * j + 1)), .int (ro.2.1.2.2 (6 * j + 2))]) (rest := [.int v]) mc_X11_as l_L_26 iv_X11_as se_X11_as (ci := 10) ⟨by decide, rfl⟩ hs hM ⟨rfl, rfl⟩ (l8 rfl) ⟨by show cells + 0 + 0 ≤ 600000; omega, by show slots + 0 + 0 ≤ 7302250; omega⟩ rfl rfl (l8 rfl) dL_law_313 rfl ?_
  rintro r2 S2 I2 ⟨rfl, hG⟩
  exact v_icmp_eq (n := 319) (tgt := 1395) dL_law_316 (by decide) rfl (fun _ => kk _ _ _ _ (by omega) (by omega) hG) (fun z => absurd rfl z)
set_option maxRecDepth 100000 in
set_option maxHeartbeats 1000000 in
theorem la_turns {rt : Option FieldType} {nm : String} {ro : Ro} {Qf : Wd → List Frame → Array Value → State → State → Prop} {cells slots x m B b j : Nat} {S : St} {I : In} (h : GI S I x m B b j) (hb : b < 79000000) (hj : 6 * j + 5 < ro.2.1.2.1) (hL : ro.2.1.2.1 ≤ 384) (hc : cells + 3 ≤ 600000 ∧ slots + 197 ≤ 7302250) (kk : Nx rt nm ro Qf cells slots x m B b j) : LW rt nm ro Qf cells slots 321 [.ref ro.2.1.1, .ref x, .ref m, .int (nI (6 * j))] [] S I := by
  refine v_aload_n (n := 322) dL_law_321 rfl rfl rfl ?_
  refine v_ag (n := 327) (k := 1) dL_law_322 dL_law_323 dL_law_324 rfl dL_law_325 dL_law_326 rfl rfl rfl (by omega) hL ?_
  refine v_ag (n := 332) (k := 2) dL_law_327 dL_law_328 dL_law_329 rfl dL_law_330 dL_law_331 rfl rfl rfl (by omega) hL ?_
  refine v_callV (n := 335) (D := 200) (As := [.int (ro.2.1.2.2 (6 * j + 1)), .int (ro.2.1.2.2 (6 * j + 2))]) (rest := []) mc_X10_turns l_L_27 iv_X10_turns se_X10_turns (ci := 9) ⟨by decide, rfl⟩ h.2.1.1.s (g_turns (xa := ro.2.1.2.2 (6 * j + 1)) (xb := ro.2.1.2.2 (6 * j + 2)) h hb) ⟨rfl, rfl⟩ (l8 rfl) ⟨by show cells + 0 ≤ 600000; omega, by show slots + 0 ≤ 7302250; omega⟩ rfl rfl (l8 rfl) dL_law_332 rfl ?_
  rintro r S1 I1 ⟨v, rfl, hs, hM⟩
  refine v_aload_n (n := 336) dL_law_335 rfl rfl rfl ?_
  refine v_ag (n := 341) (k := 1) dL_law_336 dL_law_337 dL_law_338 rfl dL_law_339 dL_law_340 rfl rfl rfl (by omega) hL ?_
  refine v_ag (n := 346) (k := 2) dL_law_341 dL_law_342 dL_law_343 rfl dL_law_344 dL_law_345 rfl rfl rfl (by omega) hL ?_
  refine v_callV (n := 349) (D := 200) (As := [.int (ro.2.1.2.2 (6 * j + 1)), .int (ro.2.1.2.2 (6 * j + 2))]) (rest := [.int v]) mc_X11_turns l_L_30 iv_X11_turns se_X11_turns (ci := 10) ⟨by decide, rfl⟩ hs hM ⟨rfl, rfl⟩ (l8 rfl) ⟨by show cells + 0 + 0 ≤ 600000; omega, by show slots + 0 + 0 ≤ 7302250; omega⟩ rfl rfl (l8 rfl) dL_law_346 rfl ?_
  rintro r2 S2 I2 ⟨rfl, hG⟩
  exact v_icmp_eq (n := 352) (tgt := 1395) dL_law_349 (by decide) rfl (fun _ => kk _ _ _ _ (by omega) (by omega) hG) (fun z => absurd rfl z)
set_option maxRecDepth 100000 in
set_option maxHeartbeats 1000000 in
theorem la_set {rt : Option FieldType} {nm : String} {ro : Ro} {Qf : Wd → List Frame → Array Value → State → State → Prop} {cells slots x m B b j : Nat} {S : St} {I : In} (h : GI S I x m B b j) (hb : b < 79000000) (hj : 6 * j + 5 < ro.2.1.2.1) (hL : ro.2.1.2.1 ≤ 384) (hc : cells + 3 ≤ 600000 ∧ slots + 197 ≤ 7302250) (kk : Nx rt nm ro Qf cells slots x m B b j) : LW rt nm ro Qf cells slots 354 [.ref ro.2.1.1, .ref x, .ref m, .int (nI (6 * j))] [] S I := by
  refine v_aload_n (n := 355) dL_law_354 rfl rfl rfl ?_
  refine v_ag (n := 360) (k := 1) dL_law_355 dL_law_356 dL_law_357 rfl dL_law_358 dL_law_359 rfl rfl rfl (by omega) hL ?_
  refine v_ag (n := 365) (k := 2) dL_law_360 dL_law_361 dL_law_362 rfl dL_law_363 dL_law_364 rfl rfl rfl (by omega) hL ?_
  refine v_ag (n := 370) (k := 3) dL_law_365 dL_law_366 dL_law_367 rfl dL_law_368 dL_law_369 rfl rfl rfl (by omega) hL ?_
  refine v_callV (n := 373) (D := 200) (As := [.int (ro.2.1.2.2 (6 * j + 1)), .int (ro.2.1.2.2 (6 * j + 2)), .int (ro.2.1.2.2 (6 * j + 3))]) (rest := []) mc_X10_set l_L_31 iv_X10_set se_X10_set (ci := 9) ⟨by decide, rfl⟩ h.2.1.1.s (g_set (xa := ro.2.1.2.2 (6 * j + 1)) (xb := ro.2.1.2.2 (6 * j + 2)) (xc := ro.2.1.2.2 (6 * j + 3)) h hb) ⟨rfl, rfl⟩ (l8 rfl) ⟨by show cells + 0 ≤ 600000; omega, by show slots + 0 ≤ 7302250; omega⟩ rfl rfl (l8 rfl) dL_law_370 rfl ?_
  rintro r S1 I1 ⟨v, rfl, hs, hM⟩
  refine v_aload_n (n := 374) dL_law_373 rfl rfl rfl ?_
  refine v_ag (n := 379) (k := 1) dL_law_374 dL_law_375 dL_law_376 rfl dL_law_377 dL_law_378 rfl rfl rfl (by omega) hL ?_
  refine v_ag (n := 384) (k := 2) dL_law_379 dL_law_380 dL_law_381 rfl dL_law_382 dL_law_383 rfl rfl rfl (by omega) hL ?_
  refine v_ag (n := 389) (k := 3) dL_law_384 dL_law_385 dL_law_386 rfl dL_law_387 dL_law_388 rfl rfl rfl (by omega) hL ?_
  refine v_callV (n := 392) (D := 200) (As := [.int (ro.2.1.2.2 (6 * j + 1)), .int (ro.2.1.2.2 (6 * j + 2)), .int (ro.2.1.2.2 (6 * j + 3))]) (rest := [.int v]) mc_X11_set l_L_34 iv_X11_set se_X11_set (ci := 10) ⟨by decide, rfl⟩ hs hM ⟨rfl, rfl⟩ (l8 rfl) ⟨by show cells + 0 + 0 ≤ 600000; omega, by show slots + 0 + 0 ≤ 7302250; omega⟩ rfl rfl (l8 rfl) dL_law_389 rfl ?_
  rintro r2 S2 I2 ⟨rfl, hG⟩
  exact v_icmp_eq (n := 395) (tgt := 1395) dL_law_392 (by decide) rfl (fun _ => kk _ _ _ _ (by omega) (by omega) hG) (fun z => absurd rfl z)
set_option maxRecDepth 100000 in
set_option maxHeartbeats 1000000 in
theorem la_deal {rt : Option FieldType} {nm : String} {ro : Ro} {Qf : Wd → List Frame → Array Value → State → State → Prop} {cells slots x m B b j : Nat} {S : St} {I : In} (h : GI S I x m B b j) (hb : b < 79000000) (hj : 6 * j + 5 < ro.2.1.2.1) (hL : ro.2.1.2.1 ≤ 384) (hc : cells + 3 ≤ 600000 ∧ slots + 197 ≤ 7302250) (kk : Nx rt nm ro Qf cells slots x m B b j) : LW rt nm ro Qf cells slots 397 [.ref ro.2.1.1, .ref x, .ref m, .int (nI (6 * j))] [] S I := by
  refine v_aload_n (n := 398) dL_law_397 rfl rfl rfl ?_
  refine v_ag (n := 403) (k := 1) dL_law_398 dL_law_399 dL_law_400 rfl dL_law_401 dL_law_402 rfl rfl rfl (by omega) hL ?_
  refine v_callV (n := 406) (D := 200) (As := [.int (ro.2.1.2.2 (6 * j + 1))]) (rest := []) mc_X10_deal l_L_35 iv_X10_deal se_X10_deal (ci := 9) ⟨by decide, rfl⟩ h.2.1.1.s (g_deal (xa := ro.2.1.2.2 (6 * j + 1)) h hb) ⟨rfl, rfl⟩ (l8 rfl) ⟨by show cells + 0 ≤ 600000; omega, by show slots + 0 ≤ 7302250; omega⟩ rfl rfl (l8 rfl) dL_law_403 rfl ?_
  rintro r S1 I1 ⟨v, rfl, hs, hM⟩
  refine v_aload_n (n := 407) dL_law_406 rfl rfl rfl ?_
  refine v_ag (n := 412) (k := 1) dL_law_407 dL_law_408 dL_law_409 rfl dL_law_410 dL_law_411 rfl rfl rfl (by omega) hL ?_
  refine v_callV (n := 415) (D := 200) (As := [.int (ro.2.1.2.2 (6 * j + 1))]) (rest := [.int v]) mc_X11_deal l_L_39 iv_X11_deal se_X11_deal (ci := 10) ⟨by decide, rfl⟩ hs hM ⟨rfl, rfl⟩ (l8 rfl) ⟨by show cells + 0 + 0 ≤ 600000; omega, by show slots + 0 + 0 ≤ 7302250; omega⟩ rfl rfl (l8 rfl) dL_law_412 rfl ?_
  rintro r2 S2 I2 ⟨rfl, hG⟩
  exact v_icmp_eq (n := 418) (tgt := 1395) dL_law_415 (by decide) rfl (fun _ => kk _ _ _ _ (by omega) (by omega) hG) (fun z => absurd rfl z)
set_option maxRecDepth 100000 in
set_option maxHeartbeats 1000000 in
theorem la_seed {rt : Option FieldType} {nm : String} {ro : Ro} {Qf : Wd → List Frame → Array Value → State → State → Prop} {cells slots x m B b j : Nat} {S : St} {I : In} (h : GI S I x m B b j) (hb : b < 79000000) (hj : 6 * j + 5 < ro.2.1.2.1) (hL : ro.2.1.2.1 ≤ 384) (hc : cells + 3 ≤ 600000 ∧ slots + 197 ≤ 7302250) (kk : Nx rt nm ro Qf cells slots x m B b j) : LW rt nm ro Qf cells slots 420 [.ref ro.2.1.1, .ref x, .ref m, .int (nI (6 * j))] [] S I := by
  refine v_aload_n (n := 421) dL_law_420 rfl rfl rfl ?_
  refine v_ag (n := 426) (k := 1) dL_law_421 dL_law_422 dL_law_423 rfl dL_law_424 dL_law_425 rfl rfl rfl (by omega) hL ?_
  refine v_callV (n := 429) (D := 200) (As := [.int (ro.2.1.2.2 (6 * j + 1))]) (rest := []) mc_X10_seed l_L_40 iv_X10_seed se_X10_seed (ci := 9) ⟨by decide, rfl⟩ h.2.1.1.s (g_seed (xa := ro.2.1.2.2 (6 * j + 1)) h hb) ⟨rfl, rfl⟩ (l8 rfl) ⟨by show cells + 0 ≤ 600000; omega, by show slots + 0 ≤ 7302250; omega⟩ rfl rfl (l8 rfl) dL_law_426 rfl ?_
  rintro r S1 I1 ⟨v, rfl, hs, hM⟩
  refine v_aload_n (n := 430) dL_law_429 rfl rfl rfl ?_
  refine v_ag (n := 435) (k := 1) dL_law_430 dL_law_431 dL_law_432 rfl dL_law_433 dL_law_434 rfl rfl rfl (by omega) hL ?_
  refine v_callV (n := 438) (D := 200) (As := [.int (ro.2.1.2.2 (6 * j + 1))]) (rest := [.int v]) mc_X11_seed l_L_43 iv_X11_seed se_X11_seed (ci := 10) ⟨by decide, rfl⟩ hs hM ⟨rfl, rfl⟩ (l8 rfl) ⟨by show cells + 0 + 0 ≤ 600000; omega, by show slots + 0 + 0 ≤ 7302250; omega⟩ rfl rfl (l8 rfl) dL_law_435 rfl ?_
  rintro r2 S2 I2 ⟨rfl, hG⟩
  exact v_icmp_eq (n := 441) (tgt := 1395) dL_law_438 (by decide) rfl (fun _ => kk _ _ _ _ (by omega) (by omega) hG) (fun z => absurd rfl z)
set_option maxRecDepth 100000 in
set_option maxHeartbeats 1000000 in
theorem la_rule {rt : Option FieldType} {nm : String} {ro : Ro} {Qf : Wd → List Frame → Array Value → State → State → Prop} {cells slots x m B b j : Nat} {S : St} {I : In} (h : GI S I x m B b j) (hb : b < 79000000) (hj : 6 * j + 5 < ro.2.1.2.1) (hL : ro.2.1.2.1 ≤ 384) (hc : cells + 3 ≤ 600000 ∧ slots + 197 ≤ 7302250) (kk : Nx rt nm ro Qf cells slots x m B b j) : LW rt nm ro Qf cells slots 443 [.ref ro.2.1.1, .ref x, .ref m, .int (nI (6 * j))] [] S I := by
  refine v_aload_n (n := 444) dL_law_443 rfl rfl rfl ?_
  refine v_ag (n := 449) (k := 1) dL_law_444 dL_law_445 dL_law_446 rfl dL_law_447 dL_law_448 rfl rfl rfl (by omega) hL ?_
  refine v_ag (n := 454) (k := 2) dL_law_449 dL_law_450 dL_law_451 rfl dL_law_452 dL_law_453 rfl rfl rfl (by omega) hL ?_
  refine v_callV (n := 457) (D := 200) (As := [.int (ro.2.1.2.2 (6 * j + 1)), .int (ro.2.1.2.2 (6 * j + 2))]) (rest := []) mc_X10_rule l_L_44 iv_X10_rule se_X10_rule (ci := 9) ⟨by decide, rfl⟩ h.2.1.1.s (g_rule (xa := ro.2.1.2.2 (6 * j + 1)) (xb := ro.2.1.2.2 (6 * j + 2)) h hb) ⟨rfl, rfl⟩ (l8 rfl) ⟨by show cells + 0 ≤ 600000; omega, by show slots + 0 ≤ 7302250; omega⟩ rfl rfl (l8 rfl) dL_law_454 rfl ?_
  rintro r S1 I1 ⟨v, rfl, hs, hM⟩
  refine v_aload_n (n := 458) dL_law_457 rfl rfl rfl ?_
  refine v_ag (n := 463) (k := 1) dL_law_458 dL_law_459 dL_law_460 rfl dL_law_461 dL_law_462 rfl rfl rfl (by omega) hL ?_
  refine v_ag (n := 468) (k := 2) dL_law_463 dL_law_464 dL_law_465 rfl dL_law_466 dL_law_467 rfl rfl rfl (by omega) hL ?_
  refine v_callV (n := 471) (D := 200) (As := [.int (ro.2.1.2.2 (6 * j + 1)), .int (ro.2.1.2.2 (6 * j + 2))]) (rest := [.int v]) mc_X11_rule l_L_47 iv_X11_rule se_X11_rule (ci := 10) ⟨by decide, rfl⟩ hs hM ⟨rfl, rfl⟩ (l8 rfl) ⟨by show cells + 0 + 0 ≤ 600000; omega, by show slots + 0 + 0 ≤ 7302250; omega⟩ rfl rfl (l8 rfl) dL_law_468 rfl ?_
  rintro r2 S2 I2 ⟨rfl, hG⟩
  exact v_icmp_eq (n := 474) (tgt := 1395) dL_law_471 (by decide) rfl (fun _ => kk _ _ _ _ (by omega) (by omega) hG) (fun z => absurd rfl z)
set_option maxRecDepth 100000 in
set_option maxHeartbeats 1000000 in
theorem la_at {rt : Option FieldType} {nm : String} {ro : Ro} {Qf : Wd → List Frame → Array Value → State → State → Prop} {cells slots x m B b j : Nat} {S : St} {I : In} (h : GI S I x m B b j) (hb : b < 79000000) (hj : 6 * j + 5 < ro.2.1.2.1) (hL : ro.2.1.2.1 ≤ 384) (hc : cells + 3 ≤ 600000 ∧ slots + 197 ≤ 7302250) (kk : Nx rt nm ro Qf cells slots x m B b j) : LW rt nm ro Qf cells slots 476 [.ref ro.2.1.1, .ref x, .ref m, .int (nI (6 * j))] [] S I := by
  refine v_aload_n (n := 477) dL_law_476 rfl rfl rfl ?_
  refine v_ag (n := 482) (k := 1) dL_law_477 dL_law_478 dL_law_479 rfl dL_law_480 dL_law_481 rfl rfl rfl (by omega) hL ?_
  refine v_callV (n := 485) (D := 200) (As := [.int (ro.2.1.2.2 (6 * j + 1))]) (rest := []) mc_X10_at l_L_48 iv_X10_at se_X10_at (ci := 9) ⟨by decide, rfl⟩ h.2.1.1.s (g_at (xa := ro.2.1.2.2 (6 * j + 1)) h hb) ⟨rfl, rfl⟩ (l8 rfl) ⟨by show cells + 0 ≤ 600000; omega, by show slots + 0 ≤ 7302250; omega⟩ rfl rfl (l8 rfl) dL_law_482 rfl ?_
  rintro r S1 I1 ⟨v, rfl, hs, hM⟩
  refine v_aload_n (n := 486) dL_law_485 rfl rfl rfl ?_
  refine v_ag (n := 491) (k := 1) dL_law_486 dL_law_487 dL_law_488 rfl dL_law_489 dL_law_490 rfl rfl rfl (by omega) hL ?_
  refine v_callV (n := 494) (D := 200) (As := [.int (ro.2.1.2.2 (6 * j + 1))]) (rest := [.int v]) mc_X11_at l_L_51 iv_X11_at se_X11_at (ci := 10) ⟨by decide, rfl⟩ hs hM ⟨rfl, rfl⟩ (l8 rfl) ⟨by show cells + 0 + 0 ≤ 600000; omega, by show slots + 0 + 0 ≤ 7302250; omega⟩ rfl rfl (l8 rfl) dL_law_491 rfl ?_
  rintro r2 S2 I2 ⟨rfl, hG⟩
  exact v_icmp_eq (n := 497) (tgt := 1395) dL_law_494 (by decide) rfl (fun _ => kk _ _ _ _ (by omega) (by omega) hG) (fun z => absurd rfl z)
set_option maxRecDepth 100000 in
set_option maxHeartbeats 1000000 in
theorem la_ball {rt : Option FieldType} {nm : String} {ro : Ro} {Qf : Wd → List Frame → Array Value → State → State → Prop} {cells slots x m B b j : Nat} {S : St} {I : In} (h : GI S I x m B b j) (hb : b < 79000000) (hj : 6 * j + 5 < ro.2.1.2.1) (hL : ro.2.1.2.1 ≤ 384) (hc : cells + 3 ≤ 600000 ∧ slots + 197 ≤ 7302250) (kk : Nx rt nm ro Qf cells slots x m B b j) : LW rt nm ro Qf cells slots 499 [.ref ro.2.1.1, .ref x, .ref m, .int (nI (6 * j))] [] S I := by
  refine v_aload_n (n := 500) dL_law_499 rfl rfl rfl ?_
  refine v_ag (n := 505) (k := 1) dL_law_500 dL_law_501 dL_law_502 rfl dL_law_503 dL_law_504 rfl rfl rfl (by omega) hL ?_
  refine v_callV (n := 508) (D := 200) (As := [.int (ro.2.1.2.2 (6 * j + 1))]) (rest := []) mc_X10_ball l_L_52 iv_X10_ball se_X10_ball (ci := 9) ⟨by decide, rfl⟩ h.2.1.1.s (g_ball (xa := ro.2.1.2.2 (6 * j + 1)) h hb) ⟨rfl, rfl⟩ (l8 rfl) ⟨by show cells + 0 ≤ 600000; omega, by show slots + 0 ≤ 7302250; omega⟩ rfl rfl (l8 rfl) dL_law_505 rfl ?_
  rintro r S1 I1 ⟨v, rfl, hs, hM⟩
  refine v_aload_n (n := 509) dL_law_508 rfl rfl rfl ?_
  refine v_ag (n := 514) (k := 1) dL_law_509 dL_law_510 dL_law_511 rfl dL_law_512 dL_law_513 rfl rfl rfl (by omega) hL ?_
  refine v_callV (n := 517) (D := 200) (As := [.int (ro.2.1.2.2 (6 * j + 1))]) (rest := [.int v]) mc_X11_ball l_L_55 iv_X11_ball se_X11_ball (ci := 10) ⟨by decide, rfl⟩ hs hM ⟨rfl, rfl⟩ (l8 rfl) ⟨by show cells + 0 + 0 ≤ 600000; omega, by show slots + 0 + 0 ≤ 7302250; omega⟩ rfl rfl (l8 rfl) dL_law_514 rfl ?_
  rintro r2 S2 I2 ⟨rfl, hG⟩
  exact v_icmp_eq (n := 520) (tgt := 1395) dL_law_517 (by decide) rfl (fun _ => kk _ _ _ _ (by omega) (by omega) hG) (fun z => absurd rfl z)
set_option maxRecDepth 100000 in
set_option maxHeartbeats 1000000 in
theorem la_layer {rt : Option FieldType} {nm : String} {ro : Ro} {Qf : Wd → List Frame → Array Value → State → State → Prop} {cells slots x m B b j : Nat} {S : St} {I : In} (h : GI S I x m B b j) (hb : b < 79000000) (hj : 6 * j + 5 < ro.2.1.2.1) (hL : ro.2.1.2.1 ≤ 384) (hc : cells + 3 ≤ 600000 ∧ slots + 197 ≤ 7302250) (kk : Nx rt nm ro Qf cells slots x m B b j) : LW rt nm ro Qf cells slots 522 [.ref ro.2.1.1, .ref x, .ref m, .int (nI (6 * j))] [] S I := by
  refine v_aload_n (n := 523) dL_law_522 rfl rfl rfl ?_
  refine v_ag (n := 528) (k := 1) dL_law_523 dL_law_524 dL_law_525 rfl dL_law_526 dL_law_527 rfl rfl rfl (by omega) hL ?_
  refine v_ag (n := 533) (k := 2) dL_law_528 dL_law_529 dL_law_530 rfl dL_law_531 dL_law_532 rfl rfl rfl (by omega) hL ?_
  refine v_callV (n := 536) (D := 200) (As := [.int (ro.2.1.2.2 (6 * j + 1)), .int (ro.2.1.2.2 (6 * j + 2))]) (rest := []) mc_X10_layer l_L_56 iv_X10_layer se_X10_layer (ci := 9) ⟨by decide, rfl⟩ h.2.1.1.s (g_layer (xa := ro.2.1.2.2 (6 * j + 1)) (xb := ro.2.1.2.2 (6 * j + 2)) h hb) ⟨rfl, rfl⟩ (l8 rfl) ⟨by show cells + 0 ≤ 600000; omega, by show slots + 0 ≤ 7302250; omega⟩ rfl rfl (l8 rfl) dL_law_533 rfl ?_
  rintro r S1 I1 ⟨v, rfl, hs, hM⟩
  refine v_aload_n (n := 537) dL_law_536 rfl rfl rfl ?_
  refine v_ag (n := 542) (k := 1) dL_law_537 dL_law_538 dL_law_539 rfl dL_law_540 dL_law_541 rfl rfl rfl (by omega) hL ?_
  refine v_ag (n := 547) (k := 2) dL_law_542 dL_law_543 dL_law_544 rfl dL_law_545 dL_law_546 rfl rfl rfl (by omega) hL ?_
  refine v_callV (n := 550) (D := 200) (As := [.int (ro.2.1.2.2 (6 * j + 1)), .int (ro.2.1.2.2 (6 * j + 2))]) (rest := [.int v]) mc_X11_layer l_L_59 iv_X11_layer se_X11_layer (ci := 10) ⟨by decide, rfl⟩ hs hM ⟨rfl, rfl⟩ (l8 rfl) ⟨by show cells + 0 + 0 ≤ 600000; omega, by show slots + 0 + 0 ≤ 7302250; omega⟩ rfl rfl (l8 rfl) dL_law_547 rfl ?_
  rintro r2 S2 I2 ⟨rfl, hG⟩
  exact v_icmp_eq (n := 553) (tgt := 1395) dL_law_550 (by decide) rfl (fun _ => kk _ _ _ _ (by omega) (by omega) hG) (fun z => absurd rfl z)
set_option maxRecDepth 100000 in
set_option maxHeartbeats 1000000 in
theorem la_pack {rt : Option FieldType} {nm : String} {ro : Ro} {Qf : Wd → List Frame → Array Value → State → State → Prop} {cells slots x m B b j : Nat} {S : St} {I : In} (h : GI S I x m B b j) (hb : b < 79000000) (hj : 6 * j + 5 < ro.2.1.2.1) (hL : ro.2.1.2.1 ≤ 384) (hc : cells + 3 ≤ 600000 ∧ slots + 197 ≤ 7302250) (kk : Nx rt nm ro Qf cells slots x m B b j) : LW rt nm ro Qf cells slots 555 [.ref ro.2.1.1, .ref x, .ref m, .int (nI (6 * j))] [] S I := by
  refine v_aload_n (n := 556) dL_law_555 rfl rfl rfl ?_
  refine v_ag (n := 561) (k := 1) dL_law_556 dL_law_557 dL_law_558 rfl dL_law_559 dL_law_560 rfl rfl rfl (by omega) hL ?_
  refine v_ag (n := 566) (k := 2) dL_law_561 dL_law_562 dL_law_563 rfl dL_law_564 dL_law_565 rfl rfl rfl (by omega) hL ?_
  refine v_callV (n := 569) (D := 200) (As := [.int (ro.2.1.2.2 (6 * j + 1)), .int (ro.2.1.2.2 (6 * j + 2))]) (rest := []) mc_X10_pack l_L_60 iv_X10_pack se_X10_pack (ci := 9) ⟨by decide, rfl⟩ h.2.1.1.s (g_pack (xa := ro.2.1.2.2 (6 * j + 1)) (xb := ro.2.1.2.2 (6 * j + 2)) h hb) ⟨rfl, rfl⟩ (l8 rfl) ⟨by show cells + 0 ≤ 600000; omega, by show slots + 0 ≤ 7302250; omega⟩ rfl rfl (l8 rfl) dL_law_566 rfl ?_
  rintro r S1 I1 ⟨v, rfl, hs, hM⟩
  refine v_aload_n (n := 570) dL_law_569 rfl rfl rfl ?_
  refine v_ag (n := 575) (k := 1) dL_law_570 dL_law_571 dL_law_572 rfl dL_law_573 dL_law_574 rfl rfl rfl (by omega) hL ?_
  refine v_ag (n := 580) (k := 2) dL_law_575 dL_law_576 dL_law_577 rfl dL_law_578 dL_law_579 rfl rfl rfl (by omega) hL ?_
  refine v_callV (n := 583) (D := 200) (As := [.int (ro.2.1.2.2 (6 * j + 1)), .int (ro.2.1.2.2 (6 * j + 2))]) (rest := [.int v]) mc_X11_pack l_L_63 iv_X11_pack se_X11_pack (ci := 10) ⟨by decide, rfl⟩ hs hM ⟨rfl, rfl⟩ (l8 rfl) ⟨by show cells + 0 + 0 ≤ 600000; omega, by show slots + 0 + 0 ≤ 7302250; omega⟩ rfl rfl (l8 rfl) dL_law_580 rfl ?_
  rintro r2 S2 I2 ⟨rfl, hG⟩
  exact v_icmp_eq (n := 586) (tgt := 1395) dL_law_583 (by decide) rfl (fun _ => kk _ _ _ _ (by omega) (by omega) hG) (fun z => absurd rfl z)
set_option maxRecDepth 100000 in
set_option maxHeartbeats 1000000 in
theorem la_lose {rt : Option FieldType} {nm : String} {ro : Ro} {Qf : Wd → List Frame → Array Value → State → State → Prop} {cells slots x m B b j : Nat} {S : St} {I : In} (h : GI S I x m B b j) (hb : b < 79000000) (hj : 6 * j + 5 < ro.2.1.2.1) (hL : ro.2.1.2.1 ≤ 384) (hc : cells + 3 ≤ 600000 ∧ slots + 197 ≤ 7302250) (kk : Nx rt nm ro Qf cells slots x m B b j) : LW rt nm ro Qf cells slots 588 [.ref ro.2.1.1, .ref x, .ref m, .int (nI (6 * j))] [] S I := by
  refine v_aload_n (n := 589) dL_law_588 rfl rfl rfl ?_
  refine v_ag (n := 594) (k := 1) dL_law_589 dL_law_590 dL_law_591 rfl dL_law_592 dL_law_593 rfl rfl rfl (by omega) hL ?_
  refine v_callV (n := 597) (D := 200) (As := [.int (ro.2.1.2.2 (6 * j + 1))]) (rest := []) mc_X10_lose l_L_64 iv_X10_lose se_X10_lose (ci := 9) ⟨by decide, rfl⟩ h.2.1.1.s (g_lose (xa := ro.2.1.2.2 (6 * j + 1)) h hb) ⟨rfl, rfl⟩ (l8 rfl) ⟨by show cells + 0 ≤ 600000; omega, by show slots + 0 ≤ 7302250; omega⟩ rfl rfl (l8 rfl) dL_law_594 rfl ?_
  rintro r S1 I1 ⟨v, rfl, hs, hM⟩
  refine v_aload_n (n := 598) dL_law_597 rfl rfl rfl ?_
  refine v_ag (n := 603) (k := 1) dL_law_598 dL_law_599 dL_law_600 rfl dL_law_601 dL_law_602 rfl rfl rfl (by omega) hL ?_
  refine v_callV (n := 606) (D := 200) (As := [.int (ro.2.1.2.2 (6 * j + 1))]) (rest := [.int v]) mc_X11_lose l_L_67 iv_X11_lose se_X11_lose (ci := 10) ⟨by decide, rfl⟩ hs hM ⟨rfl, rfl⟩ (l8 rfl) ⟨by show cells + 0 + 0 ≤ 600000; omega, by show slots + 0 + 0 ≤ 7302250; omega⟩ rfl rfl (l8 rfl) dL_law_603 rfl ?_
  rintro r2 S2 I2 ⟨rfl, hG⟩
  exact v_icmp_eq (n := 609) (tgt := 1395) dL_law_606 (by decide) rfl (fun _ => kk _ _ _ _ (by omega) (by omega) hG) (fun z => absurd rfl z)
set_option maxRecDepth 100000 in
set_option maxHeartbeats 1000000 in
theorem la_find {rt : Option FieldType} {nm : String} {ro : Ro} {Qf : Wd → List Frame → Array Value → State → State → Prop} {cells slots x m B b j : Nat} {S : St} {I : In} (h : GI S I x m B b j) (hb : b < 79000000) (hj : 6 * j + 5 < ro.2.1.2.1) (hL : ro.2.1.2.1 ≤ 384) (hc : cells + 3 ≤ 600000 ∧ slots + 197 ≤ 7302250) (kk : Nx rt nm ro Qf cells slots x m B b j) : LW rt nm ro Qf cells slots 611 [.ref ro.2.1.1, .ref x, .ref m, .int (nI (6 * j))] [] S I := by
  refine v_aload_n (n := 612) dL_law_611 rfl rfl rfl ?_
  refine v_ag (n := 617) (k := 1) dL_law_612 dL_law_613 dL_law_614 rfl dL_law_615 dL_law_616 rfl rfl rfl (by omega) hL ?_
  refine v_callV (n := 620) (D := 200) (As := [.int (ro.2.1.2.2 (6 * j + 1))]) (rest := []) mc_X10_find l_L_68 iv_X10_find se_X10_find (ci := 9) ⟨by decide, rfl⟩ h.2.1.1.s (g_find (xa := ro.2.1.2.2 (6 * j + 1)) h hb) ⟨rfl, rfl⟩ (l8 rfl) ⟨by show cells + 0 ≤ 600000; omega, by show slots + 0 ≤ 7302250; omega⟩ rfl rfl (l8 rfl) dL_law_617 rfl ?_
  rintro r S1 I1 ⟨v, rfl, hs, hM⟩
  refine v_aload_n (n := 621) dL_law_620 rfl rfl rfl ?_
  refine v_ag (n := 626) (k := 1) dL_law_621 dL_law_622 dL_law_623 rfl dL_law_624 dL_law_625 rfl rfl rfl (by omega) hL ?_
  refine v_callV (n := 629) (D := 200) (As := [.int (ro.2.1.2.2 (6 * j + 1))]) (rest := [.int v]) mc_X11_find l_L_71 iv_X11_find se_X11_find (ci := 10) ⟨by decide, rfl⟩ hs hM ⟨rfl, rfl⟩ (l8 rfl) ⟨by show cells + 0 + 0 ≤ 600000; omega, by show slots + 0 + 0 ≤ 7302250; omega⟩ rfl rfl (l8 rfl) dL_law_626 rfl ?_
  rintro r2 S2 I2 ⟨rfl, hG⟩
  exact v_icmp_eq (n := 632) (tgt := 1395) dL_law_629 (by decide) rfl (fun _ => kk _ _ _ _ (by omega) (by omega) hG) (fun z => absurd rfl z)
set_option maxRecDepth 100000 in
set_option maxHeartbeats 1000000 in
theorem la_thing {rt : Option FieldType} {nm : String} {ro : Ro} {Qf : Wd → List Frame → Array Value → State → State → Prop} {cells slots x m B b j : Nat} {S : St} {I : In} (h : GI S I x m B b j) (hb : b < 79000000) (hj : 6 * j + 5 < ro.2.1.2.1) (hL : ro.2.1.2.1 ≤ 384) (hc : cells + 3 ≤ 600000 ∧ slots + 197 ≤ 7302250) (kk : Nx rt nm ro Qf cells slots x m B b j) : LW rt nm ro Qf cells slots 634 [.ref ro.2.1.1, .ref x, .ref m, .int (nI (6 * j))] [] S I := by
  refine v_aload_n (n := 635) dL_law_634 rfl rfl rfl ?_
  refine v_ag (n := 640) (k := 1) dL_law_635 dL_law_636 dL_law_637 rfl dL_law_638 dL_law_639 rfl rfl rfl (by omega) hL ?_
  refine v_callV (n := 643) (D := 200) (As := [.int (ro.2.1.2.2 (6 * j + 1))]) (rest := []) mc_X10_thing l_L_72 iv_X10_thing se_X10_thing (ci := 9) ⟨by decide, rfl⟩ h.2.1.1.s (g_thing (xa := ro.2.1.2.2 (6 * j + 1)) h hb) ⟨rfl, rfl⟩ (l8 rfl) ⟨by show cells + 0 ≤ 600000; omega, by show slots + 0 ≤ 7302250; omega⟩ rfl rfl (l8 rfl) dL_law_640 rfl ?_
  rintro r S1 I1 ⟨v, rfl, hs, hM⟩
  refine v_aload_n (n := 644) dL_law_643 rfl rfl rfl ?_
  refine v_ag (n := 649) (k := 1) dL_law_644 dL_law_645 dL_law_646 rfl dL_law_647 dL_law_648 rfl rfl rfl (by omega) hL ?_
  refine v_callV (n := 652) (D := 200) (As := [.int (ro.2.1.2.2 (6 * j + 1))]) (rest := [.int v]) mc_X11_thing l_L_75 iv_X11_thing se_X11_thing (ci := 10) ⟨by decide, rfl⟩ hs hM ⟨rfl, rfl⟩ (l8 rfl) ⟨by show cells + 0 + 0 ≤ 600000; omega, by show slots + 0 + 0 ≤ 7302250; omega⟩ rfl rfl (l8 rfl) dL_law_649 rfl ?_
  rintro r2 S2 I2 ⟨rfl, hG⟩
  exact v_icmp_eq (n := 655) (tgt := 1395) dL_law_652 (by decide) rfl (fun _ => kk _ _ _ _ (by omega) (by omega) hG) (fun z => absurd rfl z)
set_option maxRecDepth 100000 in
set_option maxHeartbeats 1000000 in
theorem la_days {rt : Option FieldType} {nm : String} {ro : Ro} {Qf : Wd → List Frame → Array Value → State → State → Prop} {cells slots x m B b j : Nat} {S : St} {I : In} (h : GI S I x m B b j) (hb : b < 79000000) (hj : 6 * j + 5 < ro.2.1.2.1) (hL : ro.2.1.2.1 ≤ 384) (hc : cells + 3 ≤ 600000 ∧ slots + 197 ≤ 7302250) (kk : Nx rt nm ro Qf cells slots x m B b j) : LW rt nm ro Qf cells slots 657 [.ref ro.2.1.1, .ref x, .ref m, .int (nI (6 * j))] [] S I := by
  refine v_aload_n (n := 658) dL_law_657 rfl rfl rfl ?_
  refine v_ag (n := 663) (k := 1) dL_law_658 dL_law_659 dL_law_660 rfl dL_law_661 dL_law_662 rfl rfl rfl (by omega) hL ?_
  refine v_callV (n := 666) (D := 200) (As := [.int (ro.2.1.2.2 (6 * j + 1))]) (rest := []) mc_X10_days l_L_76 iv_X10_days se_X10_days (ci := 9) ⟨by decide, rfl⟩ h.2.1.1.s (g_days (xa := ro.2.1.2.2 (6 * j + 1)) h hb) ⟨rfl, rfl⟩ (l8 rfl) ⟨by show cells + 0 ≤ 600000; omega, by show slots + 0 ≤ 7302250; omega⟩ rfl rfl (l8 rfl) dL_law_663 rfl ?_
  rintro r S1 I1 ⟨v, rfl, hs, hM⟩
  refine v_aload_n (n := 667) dL_law_666 rfl rfl rfl ?_
  refine v_ag (n := 672) (k := 1) dL_law_667 dL_law_668 dL_law_669 rfl dL_law_670 dL_law_671 rfl rfl rfl (by omega) hL ?_
  refine v_callV (n := 675) (D := 200) (As := [.int (ro.2.1.2.2 (6 * j + 1))]) (rest := [.int v]) mc_X11_days l_L_79 iv_X11_days se_X11_days (ci := 10) ⟨by decide, rfl⟩ hs hM ⟨rfl, rfl⟩ (l8 rfl) ⟨by show cells + 0 + 0 ≤ 600000; omega, by show slots + 0 + 0 ≤ 7302250; omega⟩ rfl rfl (l8 rfl) dL_law_672 rfl ?_
  rintro r2 S2 I2 ⟨rfl, hG⟩
  exact v_icmp_eq (n := 678) (tgt := 1395) dL_law_675 (by decide) rfl (fun _ => kk _ _ _ _ (by omega) (by omega) hG) (fun z => absurd rfl z)
set_option maxRecDepth 100000 in
set_option maxHeartbeats 1000000 in
theorem la_behind {rt : Option FieldType} {nm : String} {ro : Ro} {Qf : Wd → List Frame → Array Value → State → State → Prop} {cells slots x m B b j : Nat} {S : St} {I : In} (h : GI S I x m B b j) (hb : b < 79000000) (hj : 6 * j + 5 < ro.2.1.2.1) (hL : ro.2.1.2.1 ≤ 384) (hc : cells + 3 ≤ 600000 ∧ slots + 197 ≤ 7302250) (kk : Nx rt nm ro Qf cells slots x m B b j) : LW rt nm ro Qf cells slots 680 [.ref ro.2.1.1, .ref x, .ref m, .int (nI (6 * j))] [] S I := by
  refine v_aload_n (n := 681) dL_law_680 rfl rfl rfl ?_
  refine v_ag (n := 686) (k := 1) dL_law_681 dL_law_682 dL_law_683 rfl dL_law_684 dL_law_685 rfl rfl rfl (by omega) hL ?_
  refine v_ag (n := 691) (k := 2) dL_law_686 dL_law_687 dL_law_688 rfl dL_law_689 dL_law_690 rfl rfl rfl (by omega) hL ?_
  refine v_callV (n := 694) (D := 200) (As := [.int (ro.2.1.2.2 (6 * j + 1)), .int (ro.2.1.2.2 (6 * j + 2))]) (rest := []) mc_X10_behind l_L_80 iv_X10_behind se_X10_behind (ci := 9) ⟨by decide, rfl⟩ h.2.1.1.s (g_behind (xa := ro.2.1.2.2 (6 * j + 1)) (xb := ro.2.1.2.2 (6 * j + 2)) h hb) ⟨rfl, rfl⟩ (l8 rfl) ⟨by show cells + 0 ≤ 600000; omega, by show slots + 0 ≤ 7302250; omega⟩ rfl rfl (l8 rfl) dL_law_691 rfl ?_
  rintro r S1 I1 ⟨v, rfl, hs, hM⟩
  refine v_aload_n (n := 695) dL_law_694 rfl rfl rfl ?_
  refine v_ag (n := 700) (k := 1) dL_law_695 dL_law_696 dL_law_697 rfl dL_law_698 dL_law_699 rfl rfl rfl (by omega) hL ?_
  refine v_ag (n := 705) (k := 2) dL_law_700 dL_law_701 dL_law_702 rfl dL_law_703 dL_law_704 rfl rfl rfl (by omega) hL ?_
  refine v_callV (n := 708) (D := 200) (As := [.int (ro.2.1.2.2 (6 * j + 1)), .int (ro.2.1.2.2 (6 * j + 2))]) (rest := [.int v]) mc_X11_behind l_L_83 iv_X11_behind se_X11_behind (ci := 10) ⟨by decide, rfl⟩ hs hM ⟨rfl, rfl⟩ (l8 rfl) ⟨by show cells + 0 + 0 ≤ 600000; omega, by show slots + 0 + 0 ≤ 7302250; omega⟩ rfl rfl (l8 rfl) dL_law_705 rfl ?_
  rintro r2 S2 I2 ⟨rfl, hG⟩
  exact v_icmp_eq (n := 711) (tgt := 1395) dL_law_708 (by decide) rfl (fun _ => kk _ _ _ _ (by omega) (by omega) hG) (fun z => absurd rfl z)
set_option maxRecDepth 100000 in
set_option maxHeartbeats 1000000 in
theorem la_gone {rt : Option FieldType} {nm : String} {ro : Ro} {Qf : Wd → List Frame → Array Value → State → State → Prop} {cells slots x m B b j : Nat} {S : St} {I : In} (h : GI S I x m B b j) (hb : b < 79000000) (hj : 6 * j + 5 < ro.2.1.2.1) (hL : ro.2.1.2.1 ≤ 384) (hc : cells + 3 ≤ 600000 ∧ slots + 197 ≤ 7302250) (kk : Nx rt nm ro Qf cells slots x m B b j) : LW rt nm ro Qf cells slots 713 [.ref ro.2.1.1, .ref x, .ref m, .int (nI (6 * j))] [] S I := by
  refine v_aload_n (n := 714) dL_law_713 rfl rfl rfl ?_
  refine v_callV (n := 717) (D := 200) (As := []) (rest := []) mc_X10_gone l_L_84 iv_X10_gone se_X10_gone (ci := 9) ⟨by decide, rfl⟩ h.2.1.1.s (g_gone  h hb) ⟨rfl, rfl⟩ (l8 rfl) ⟨by show cells + 0 ≤ 600000; omega, by show slots + 0 ≤ 7302250; omega⟩ rfl rfl (l8 rfl) dL_law_714 rfl ?_
  rintro r S1 I1 ⟨v, rfl, hs, hM⟩
  refine v_aload_n (n := 718) dL_law_717 rfl rfl rfl ?_
  refine v_callV (n := 721) (D := 200) (As := []) (rest := [.int v]) mc_X11_gone l_L_88 iv_X11_gone se_X11_gone (ci := 10) ⟨by decide, rfl⟩ hs hM ⟨rfl, rfl⟩ (l8 rfl) ⟨by show cells + 0 + 0 ≤ 600000; omega, by show slots + 0 + 0 ≤ 7302250; omega⟩ rfl rfl (l8 rfl) dL_law_718 rfl ?_
  rintro r2 S2 I2 ⟨rfl, hG⟩
  exact v_icmp_eq (n := 724) (tgt := 1395) dL_law_721 (by decide) rfl (fun _ => kk _ _ _ _ (by omega) (by omega) hG) (fun z => absurd rfl z)
set_option maxRecDepth 100000 in
set_option maxHeartbeats 1000000 in
theorem la_way {rt : Option FieldType} {nm : String} {ro : Ro} {Qf : Wd → List Frame → Array Value → State → State → Prop} {cells slots x m B b j : Nat} {S : St} {I : In} (h : GI S I x m B b j) (hb : b < 79000000) (hj : 6 * j + 5 < ro.2.1.2.1) (hL : ro.2.1.2.1 ≤ 384) (hc : cells + 3 ≤ 600000 ∧ slots + 197 ≤ 7302250) (kk : Nx rt nm ro Qf cells slots x m B b j) : LW rt nm ro Qf cells slots 726 [.ref ro.2.1.1, .ref x, .ref m, .int (nI (6 * j))] [] S I := by
  refine v_aload_n (n := 727) dL_law_726 rfl rfl rfl ?_
  refine v_ag (n := 732) (k := 1) dL_law_727 dL_law_728 dL_law_729 rfl dL_law_730 dL_law_731 rfl rfl rfl (by omega) hL ?_
  refine v_ag (n := 737) (k := 2) dL_law_732 dL_law_733 dL_law_734 rfl dL_law_735 dL_law_736 rfl rfl rfl (by omega) hL ?_
  refine v_callV (n := 740) (D := 200) (As := [.int (ro.2.1.2.2 (6 * j + 1)), .int (ro.2.1.2.2 (6 * j + 2))]) (rest := []) mc_X10_way l_L_89 iv_X10_way se_X10_way (ci := 9) ⟨by decide, rfl⟩ h.2.1.1.s (g_way (xa := ro.2.1.2.2 (6 * j + 1)) (xb := ro.2.1.2.2 (6 * j + 2)) h hb) ⟨rfl, rfl⟩ (l8 rfl) ⟨by show cells + 0 ≤ 600000; omega, by show slots + 0 ≤ 7302250; omega⟩ rfl rfl (l8 rfl) dL_law_737 rfl ?_
  rintro r S1 I1 ⟨v, rfl, hs, hM⟩
  refine v_aload_n (n := 741) dL_law_740 rfl rfl rfl ?_
  refine v_ag (n := 746) (k := 1) dL_law_741 dL_law_742 dL_law_743 rfl dL_law_744 dL_law_745 rfl rfl rfl (by omega) hL ?_
  refine v_ag (n := 751) (k := 2) dL_law_746 dL_law_747 dL_law_748 rfl dL_law_749 dL_law_750 rfl rfl rfl (by omega) hL ?_
  refine v_callV (n := 754) (D := 200) (As := [.int (ro.2.1.2.2 (6 * j + 1)), .int (ro.2.1.2.2 (6 * j + 2))]) (rest := [.int v]) mc_X11_way l_L_92 iv_X11_way se_X11_way (ci := 10) ⟨by decide, rfl⟩ hs hM ⟨rfl, rfl⟩ (l8 rfl) ⟨by show cells + 0 + 0 ≤ 600000; omega, by show slots + 0 + 0 ≤ 7302250; omega⟩ rfl rfl (l8 rfl) dL_law_751 rfl ?_
  rintro r2 S2 I2 ⟨rfl, hG⟩
  exact v_icmp_eq (n := 757) (tgt := 1395) dL_law_754 (by decide) rfl (fun _ => kk _ _ _ _ (by omega) (by omega) hG) (fun z => absurd rfl z)
set_option maxRecDepth 100000 in
set_option maxHeartbeats 1000000 in
theorem la_most {rt : Option FieldType} {nm : String} {ro : Ro} {Qf : Wd → List Frame → Array Value → State → State → Prop} {cells slots x m B b j : Nat} {S : St} {I : In} (h : GI S I x m B b j) (hb : b < 79000000) (hj : 6 * j + 5 < ro.2.1.2.1) (hL : ro.2.1.2.1 ≤ 384) (hc : cells + 3 ≤ 600000 ∧ slots + 197 ≤ 7302250) (kk : Nx rt nm ro Qf cells slots x m B b j) : LW rt nm ro Qf cells slots 759 [.ref ro.2.1.1, .ref x, .ref m, .int (nI (6 * j))] [] S I := by
  refine v_aload_n (n := 760) dL_law_759 rfl rfl rfl ?_
  refine v_callV (n := 763) (D := 200) (As := []) (rest := []) mc_X10_most l_L_93 iv_X10_most se_X10_most (ci := 9) ⟨by decide, rfl⟩ h.2.1.1.s (g_most  h hb) ⟨rfl, rfl⟩ (l8 rfl) ⟨by show cells + 0 ≤ 600000; omega, by show slots + 0 ≤ 7302250; omega⟩ rfl rfl (l8 rfl) dL_law_760 rfl ?_
  rintro r S1 I1 ⟨v, rfl, hs, hM⟩
  refine v_aload_n (n := 764) dL_law_763 rfl rfl rfl ?_
  refine v_callV (n := 767) (D := 200) (As := []) (rest := [.int v]) mc_X11_most l_L_96 iv_X11_most se_X11_most (ci := 10) ⟨by decide, rfl⟩ hs hM ⟨rfl, rfl⟩ (l8 rfl) ⟨by show cells + 0 + 0 ≤ 600000; omega, by show slots + 0 + 0 ≤ 7302250; omega⟩ rfl rfl (l8 rfl) dL_law_764 rfl ?_
  rintro r2 S2 I2 ⟨rfl, hG⟩
  exact v_icmp_eq (n := 770) (tgt := 1395) dL_law_767 (by decide) rfl (fun _ => kk _ _ _ _ (by omega) (by omega) hG) (fun z => absurd rfl z)
set_option maxRecDepth 100000 in
set_option maxHeartbeats 1000000 in
theorem la_warmed {rt : Option FieldType} {nm : String} {ro : Ro} {Qf : Wd → List Frame → Array Value → State → State → Prop} {cells slots x m B b j : Nat} {S : St} {I : In} (h : GI S I x m B b j) (hb : b < 79000000) (hj : 6 * j + 5 < ro.2.1.2.1) (hL : ro.2.1.2.1 ≤ 384) (hc : cells + 3 ≤ 600000 ∧ slots + 197 ≤ 7302250) (kk : Nx rt nm ro Qf cells slots x m B b j) : LW rt nm ro Qf cells slots 772 [.ref ro.2.1.1, .ref x, .ref m, .int (nI (6 * j))] [] S I := by
  refine v_aload_n (n := 773) dL_law_772 rfl rfl rfl ?_
  refine v_ag (n := 778) (k := 1) dL_law_773 dL_law_774 dL_law_775 rfl dL_law_776 dL_law_777 rfl rfl rfl (by omega) hL ?_
  refine v_ag (n := 783) (k := 2) dL_law_778 dL_law_779 dL_law_780 rfl dL_law_781 dL_law_782 rfl rfl rfl (by omega) hL ?_
  refine v_callV (n := 786) (D := 200) (As := [.int (ro.2.1.2.2 (6 * j + 1)), .int (ro.2.1.2.2 (6 * j + 2))]) (rest := []) mc_X10_warmed l_L_97 iv_X10_warmed se_X10_warmed (ci := 9) ⟨by decide, rfl⟩ h.2.1.1.s (g_warmed (xa := ro.2.1.2.2 (6 * j + 1)) (xb := ro.2.1.2.2 (6 * j + 2)) h hb) ⟨rfl, rfl⟩ (l8 rfl) ⟨by show cells + 0 ≤ 600000; omega, by show slots + 0 ≤ 7302250; omega⟩ rfl rfl (l8 rfl) dL_law_783 rfl ?_
  rintro r S1 I1 ⟨v, rfl, hs, hM⟩
  refine v_aload_n (n := 787) dL_law_786 rfl rfl rfl ?_
  refine v_ag (n := 792) (k := 1) dL_law_787 dL_law_788 dL_law_789 rfl dL_law_790 dL_law_791 rfl rfl rfl (by omega) hL ?_
  refine v_ag (n := 797) (k := 2) dL_law_792 dL_law_793 dL_law_794 rfl dL_law_795 dL_law_796 rfl rfl rfl (by omega) hL ?_
  refine v_callV (n := 800) (D := 200) (As := [.int (ro.2.1.2.2 (6 * j + 1)), .int (ro.2.1.2.2 (6 * j + 2))]) (rest := [.int v]) mc_X11_warmed l_L_100 iv_X11_warmed se_X11_warmed (ci := 10) ⟨by decide, rfl⟩ hs hM ⟨rfl, rfl⟩ (l8 rfl) ⟨by show cells + 0 + 0 ≤ 600000; omega, by show slots + 0 + 0 ≤ 7302250; omega⟩ rfl rfl (l8 rfl) dL_law_797 rfl ?_
  rintro r2 S2 I2 ⟨rfl, hG⟩
  exact v_icmp_eq (n := 803) (tgt := 1395) dL_law_800 (by decide) rfl (fun _ => kk _ _ _ _ (by omega) (by omega) hG) (fun z => absurd rfl z)
set_option maxRecDepth 100000 in
set_option maxHeartbeats 1000000 in
theorem la_fine {rt : Option FieldType} {nm : String} {ro : Ro} {Qf : Wd → List Frame → Array Value → State → State → Prop} {cells slots x m B b j : Nat} {S : St} {I : In} (h : GI S I x m B b j) (hb : b < 79000000) (hj : 6 * j + 5 < ro.2.1.2.1) (hL : ro.2.1.2.1 ≤ 384) (hc : cells + 3 ≤ 600000 ∧ slots + 197 ≤ 7302250) (kk : Nx rt nm ro Qf cells slots x m B b j) : LW rt nm ro Qf cells slots 805 [.ref ro.2.1.1, .ref x, .ref m, .int (nI (6 * j))] [] S I := by
  refine v_aload_n (n := 806) dL_law_805 rfl rfl rfl ?_
  refine v_ag (n := 811) (k := 1) dL_law_806 dL_law_807 dL_law_808 rfl dL_law_809 dL_law_810 rfl rfl rfl (by omega) hL ?_
  refine v_callV (n := 814) (D := 200) (As := [.int (ro.2.1.2.2 (6 * j + 1))]) (rest := []) mc_X10_fine l_L_101 iv_X10_fine se_X10_fine (ci := 9) ⟨by decide, rfl⟩ h.2.1.1.s (g_fine (xa := ro.2.1.2.2 (6 * j + 1)) h hb) ⟨rfl, rfl⟩ (l8 rfl) ⟨by show cells + 0 ≤ 600000; omega, by show slots + 0 ≤ 7302250; omega⟩ rfl rfl (l8 rfl) dL_law_811 rfl ?_
  rintro r S1 I1 ⟨v, rfl, hs, hM⟩
  refine v_aload_n (n := 815) dL_law_814 rfl rfl rfl ?_
  refine v_ag (n := 820) (k := 1) dL_law_815 dL_law_816 dL_law_817 rfl dL_law_818 dL_law_819 rfl rfl rfl (by omega) hL ?_
  refine v_callV (n := 823) (D := 200) (As := [.int (ro.2.1.2.2 (6 * j + 1))]) (rest := [.int v]) mc_X11_fine l_L_104 iv_X11_fine se_X11_fine (ci := 10) ⟨by decide, rfl⟩ hs hM ⟨rfl, rfl⟩ (l8 rfl) ⟨by show cells + 0 + 0 ≤ 600000; omega, by show slots + 0 + 0 ≤ 7302250; omega⟩ rfl rfl (l8 rfl) dL_law_820 rfl ?_
  rintro r2 S2 I2 ⟨rfl, hG⟩
  exact v_icmp_eq (n := 826) (tgt := 1395) dL_law_823 (by decide) rfl (fun _ => kk _ _ _ _ (by omega) (by omega) hG) (fun z => absurd rfl z)
set_option maxRecDepth 100000 in
set_option maxHeartbeats 1000000 in
theorem la_feed {rt : Option FieldType} {nm : String} {ro : Ro} {Qf : Wd → List Frame → Array Value → State → State → Prop} {cells slots x m B b j : Nat} {S : St} {I : In} (h : GI S I x m B b j) (hb : b < 79000000) (hj : 6 * j + 5 < ro.2.1.2.1) (hL : ro.2.1.2.1 ≤ 384) (hc : cells + 3 ≤ 600000 ∧ slots + 197 ≤ 7302250) (kk : Nx rt nm ro Qf cells slots x m B b j) : LW rt nm ro Qf cells slots 828 [.ref ro.2.1.1, .ref x, .ref m, .int (nI (6 * j))] [] S I := by
  refine v_aload_n (n := 829) dL_law_828 rfl rfl rfl ?_
  refine v_ag (n := 834) (k := 1) dL_law_829 dL_law_830 dL_law_831 rfl dL_law_832 dL_law_833 rfl rfl rfl (by omega) hL ?_
  refine v_ag (n := 839) (k := 2) dL_law_834 dL_law_835 dL_law_836 rfl dL_law_837 dL_law_838 rfl rfl rfl (by omega) hL ?_
  refine v_ag (n := 844) (k := 3) dL_law_839 dL_law_840 dL_law_841 rfl dL_law_842 dL_law_843 rfl rfl rfl (by omega) hL ?_
  refine v_callV (n := 847) (D := 200) (As := [.int (ro.2.1.2.2 (6 * j + 1)), .int (ro.2.1.2.2 (6 * j + 2)), .int (ro.2.1.2.2 (6 * j + 3))]) (rest := []) mc_X10_feed l_L_105 iv_X10_feed se_X10_feed (ci := 9) ⟨by decide, rfl⟩ h.2.1.1.s (g_feed (xa := ro.2.1.2.2 (6 * j + 1)) (xb := ro.2.1.2.2 (6 * j + 2)) (xc := ro.2.1.2.2 (6 * j + 3)) h hb) ⟨rfl, rfl⟩ (l8 rfl) ⟨by show cells + 0 ≤ 600000; omega, by show slots + 0 ≤ 7302250; omega⟩ rfl rfl (l8 rfl) dL_law_844 rfl ?_
  rintro r S1 I1 ⟨v, rfl, hs, hM⟩
  refine v_aload_n (n := 848) dL_law_847 rfl rfl rfl ?_
  refine v_ag (n := 853) (k := 1) dL_law_848 dL_law_849 dL_law_850 rfl dL_law_851 dL_law_852 rfl rfl rfl (by omega) hL ?_
  refine v_ag (n := 858) (k := 2) dL_law_853 dL_law_854 dL_law_855 rfl dL_law_856 dL_law_857 rfl rfl rfl (by omega) hL ?_
  refine v_ag (n := 863) (k := 3) dL_law_858 dL_law_859 dL_law_860 rfl dL_law_861 dL_law_862 rfl rfl rfl (by omega) hL ?_
  refine v_callV (n := 866) (D := 200) (As := [.int (ro.2.1.2.2 (6 * j + 1)), .int (ro.2.1.2.2 (6 * j + 2)), .int (ro.2.1.2.2 (6 * j + 3))]) (rest := [.int v]) mc_X11_feed l_L_108 iv_X11_feed se_X11_feed (ci := 10) ⟨by decide, rfl⟩ hs hM ⟨rfl, rfl⟩ (l8 rfl) ⟨by show cells + 0 + 0 ≤ 600000; omega, by show slots + 0 + 0 ≤ 7302250; omega⟩ rfl rfl (l8 rfl) dL_law_863 rfl ?_
  rintro r2 S2 I2 ⟨rfl, hG⟩
  exact v_icmp_eq (n := 869) (tgt := 1395) dL_law_866 (by decide) rfl (fun _ => kk _ _ _ _ (by omega) (by omega) hG) (fun z => absurd rfl z)
set_option maxRecDepth 100000 in
set_option maxHeartbeats 1000000 in
theorem la_trim {rt : Option FieldType} {nm : String} {ro : Ro} {Qf : Wd → List Frame → Array Value → State → State → Prop} {cells slots x m B b j : Nat} {S : St} {I : In} (h : GI S I x m B b j) (hb : b < 79000000) (hj : 6 * j + 5 < ro.2.1.2.1) (hL : ro.2.1.2.1 ≤ 384) (hc : cells + 3 ≤ 600000 ∧ slots + 197 ≤ 7302250) (kk : Nx rt nm ro Qf cells slots x m B b j) : LW rt nm ro Qf cells slots 871 [.ref ro.2.1.1, .ref x, .ref m, .int (nI (6 * j))] [] S I := by
  refine v_aload_n (n := 872) dL_law_871 rfl rfl rfl ?_
  refine v_ag (n := 877) (k := 1) dL_law_872 dL_law_873 dL_law_874 rfl dL_law_875 dL_law_876 rfl rfl rfl (by omega) hL ?_
  refine v_callV (n := 880) (D := 200) (As := [.int (ro.2.1.2.2 (6 * j + 1))]) (rest := []) mc_X10_trim l_L_109 iv_X10_trim se_X10_trim (ci := 9) ⟨by decide, rfl⟩ h.2.1.1.s (g_trim (xa := ro.2.1.2.2 (6 * j + 1)) h hb) ⟨rfl, rfl⟩ (l8 rfl) ⟨by show cells + 0 ≤ 600000; omega, by show slots + 0 ≤ 7302250; omega⟩ rfl rfl (l8 rfl) dL_law_877 rfl ?_
  rintro r S1 I1 ⟨v, rfl, hs, hM⟩
  refine v_aload_n (n := 881) dL_law_880 rfl rfl rfl ?_
  refine v_ag (n := 886) (k := 1) dL_law_881 dL_law_882 dL_law_883 rfl dL_law_884 dL_law_885 rfl rfl rfl (by omega) hL ?_
  refine v_callV (n := 889) (D := 200) (As := [.int (ro.2.1.2.2 (6 * j + 1))]) (rest := [.int v]) mc_X11_trim l_L_112 iv_X11_trim se_X11_trim (ci := 10) ⟨by decide, rfl⟩ hs hM ⟨rfl, rfl⟩ (l8 rfl) ⟨by show cells + 0 + 0 ≤ 600000; omega, by show slots + 0 + 0 ≤ 7302250; omega⟩ rfl rfl (l8 rfl) dL_law_886 rfl ?_
  rintro r2 S2 I2 ⟨rfl, hG⟩
  exact v_icmp_eq (n := 892) (tgt := 1395) dL_law_889 (by decide) rfl (fun _ => kk _ _ _ _ (by omega) (by omega) hG) (fun z => absurd rfl z)
set_option maxRecDepth 100000 in
set_option maxHeartbeats 1000000 in
theorem la_text {rt : Option FieldType} {nm : String} {ro : Ro} {Qf : Wd → List Frame → Array Value → State → State → Prop} {cells slots x m B b j : Nat} {S : St} {I : In} (h : GI S I x m B b j) (hb : b < 79000000) (hj : 6 * j + 5 < ro.2.1.2.1) (hL : ro.2.1.2.1 ≤ 384) (hc : cells + 3 ≤ 600000 ∧ slots + 197 ≤ 7302250) (kk : Nx rt nm ro Qf cells slots x m B b j) : LW rt nm ro Qf cells slots 894 [.ref ro.2.1.1, .ref x, .ref m, .int (nI (6 * j))] [] S I := by
  refine v_aload_n (n := 895) dL_law_894 rfl rfl rfl ?_
  refine v_callV (n := 898) (D := 200) (As := []) (rest := []) mc_X10_text l_L_113 iv_X10_text se_X10_text (ci := 9) ⟨by decide, rfl⟩ h.2.1.1.s (g_text  h hb) ⟨rfl, rfl⟩ (l8 rfl) ⟨by show cells + 3 ≤ 600000; omega, by show slots + 197 ≤ 7302250; omega⟩ rfl rfl (l8 rfl) dL_law_895 rfl ?_
  rintro r S1 I1 ⟨v, rfl, hs, hM⟩
  refine v_aload_n (n := 899) dL_law_898 rfl rfl rfl ?_
  refine v_callV (n := 902) (D := 200) (As := []) (rest := [.int v]) mc_X11_text l_L_116 iv_X11_text se_X11_text (ci := 10) ⟨by decide, rfl⟩ hs hM ⟨rfl, rfl⟩ (l8 rfl) ⟨by show cells + 3 + 0 ≤ 600000; omega, by show slots + 197 + 0 ≤ 7302250; omega⟩ rfl rfl (l8 rfl) dL_law_899 rfl ?_
  rintro r2 S2 I2 ⟨rfl, hG⟩
  exact v_icmp_eq (n := 905) (tgt := 1395) dL_law_902 (by decide) rfl (fun _ => kk _ _ _ _ (by omega) (by omega) hG) (fun z => absurd rfl z)
set_option maxRecDepth 100000 in
set_option maxHeartbeats 1000000 in
theorem la_textTold {rt : Option FieldType} {nm : String} {ro : Ro} {Qf : Wd → List Frame → Array Value → State → State → Prop} {cells slots x m B b j : Nat} {S : St} {I : In} (h : GI S I x m B b j) (hb : b < 79000000) (hj : 6 * j + 5 < ro.2.1.2.1) (hL : ro.2.1.2.1 ≤ 384) (hc : cells + 3 ≤ 600000 ∧ slots + 197 ≤ 7302250) (kk : Nx rt nm ro Qf cells slots x m B b j) : LW rt nm ro Qf cells slots 907 [.ref ro.2.1.1, .ref x, .ref m, .int (nI (6 * j))] [] S I := by
  refine v_aload_n (n := 908) dL_law_907 rfl rfl rfl ?_
  refine v_ag (n := 913) (k := 1) dL_law_908 dL_law_909 dL_law_910 rfl dL_law_911 dL_law_912 rfl rfl rfl (by omega) hL ?_
  refine v_ag (n := 918) (k := 2) dL_law_913 dL_law_914 dL_law_915 rfl dL_law_916 dL_law_917 rfl rfl rfl (by omega) hL ?_
  refine v_callV (n := 921) (D := 200) (As := [.int (ro.2.1.2.2 (6 * j + 1)), .int (ro.2.1.2.2 (6 * j + 2))]) (rest := []) mc_X10_textTold l_L_117 iv_X10_textTold se_X10_textTold (ci := 9) ⟨by decide, rfl⟩ h.2.1.1.s (g_textTold (xa := ro.2.1.2.2 (6 * j + 1)) (xb := ro.2.1.2.2 (6 * j + 2)) h hb) ⟨rfl, rfl⟩ (l8 rfl) ⟨by show cells + 0 ≤ 600000; omega, by show slots + 0 ≤ 7302250; omega⟩ rfl rfl (l8 rfl) dL_law_918 rfl ?_
  rintro r S1 I1 ⟨v, rfl, hs, hM⟩
  refine v_aload_n (n := 922) dL_law_921 rfl rfl rfl ?_
  refine v_ag (n := 927) (k := 1) dL_law_922 dL_law_923 dL_law_924 rfl dL_law_925 dL_law_926 rfl rfl rfl (by omega) hL ?_
  refine v_ag (n := 932) (k := 2) dL_law_927 dL_law_928 dL_law_929 rfl dL_law_930 dL_law_931 rfl rfl rfl (by omega) hL ?_
  refine v_callV (n := 935) (D := 200) (As := [.int (ro.2.1.2.2 (6 * j + 1)), .int (ro.2.1.2.2 (6 * j + 2))]) (rest := [.int v]) mc_X11_textTold l_L_120 iv_X11_textTold se_X11_textTold (ci := 10) ⟨by decide, rfl⟩ hs hM ⟨rfl, rfl⟩ (l8 rfl) ⟨by show cells + 0 + 0 ≤ 600000; omega, by show slots + 0 + 0 ≤ 7302250; omega⟩ rfl rfl (l8 rfl) dL_law_932 rfl ?_
  rintro r2 S2 I2 ⟨rfl, hG⟩
  exact v_icmp_eq (n := 938) (tgt := 1395) dL_law_935 (by decide) rfl (fun _ => kk _ _ _ _ (by omega) (by omega) hG) (fun z => absurd rfl z)
set_option maxRecDepth 100000 in
set_option maxHeartbeats 1000000 in
theorem la_why {rt : Option FieldType} {nm : String} {ro : Ro} {Qf : Wd → List Frame → Array Value → State → State → Prop} {cells slots x m B b j : Nat} {S : St} {I : In} (h : GI S I x m B b j) (hb : b < 79000000) (hj : 6 * j + 5 < ro.2.1.2.1) (hL : ro.2.1.2.1 ≤ 384) (hc : cells + 3 ≤ 600000 ∧ slots + 197 ≤ 7302250) (kk : Nx rt nm ro Qf cells slots x m B b j) : LW rt nm ro Qf cells slots 940 [.ref ro.2.1.1, .ref x, .ref m, .int (nI (6 * j))] [] S I := by
  refine v_aload_n (n := 941) dL_law_940 rfl rfl rfl ?_
  refine v_ag (n := 946) (k := 1) dL_law_941 dL_law_942 dL_law_943 rfl dL_law_944 dL_law_945 rfl rfl rfl (by omega) hL ?_
  refine v_callV (n := 949) (D := 200) (As := [.int (ro.2.1.2.2 (6 * j + 1))]) (rest := []) mc_X10_why l_L_121 iv_X10_why se_X10_why (ci := 9) ⟨by decide, rfl⟩ h.2.1.1.s (g_why (xa := ro.2.1.2.2 (6 * j + 1)) h hb) ⟨rfl, rfl⟩ (l8 rfl) ⟨by show cells + 0 ≤ 600000; omega, by show slots + 0 ≤ 7302250; omega⟩ rfl rfl (l8 rfl) dL_law_946 rfl ?_
  rintro r S1 I1 ⟨v, rfl, hs, hM⟩
  refine v_aload_n (n := 950) dL_law_949 rfl rfl rfl ?_
  refine v_ag (n := 955) (k := 1) dL_law_950 dL_law_951 dL_law_952 rfl dL_law_953 dL_law_954 rfl rfl rfl (by omega) hL ?_
  refine v_callV (n := 958) (D := 200) (As := [.int (ro.2.1.2.2 (6 * j + 1))]) (rest := [.int v]) mc_X11_why l_L_124 iv_X11_why se_X11_why (ci := 10) ⟨by decide, rfl⟩ hs hM ⟨rfl, rfl⟩ (l8 rfl) ⟨by show cells + 0 + 0 ≤ 600000; omega, by show slots + 0 + 0 ≤ 7302250; omega⟩ rfl rfl (l8 rfl) dL_law_955 rfl ?_
  rintro r2 S2 I2 ⟨rfl, hG⟩
  exact v_icmp_eq (n := 961) (tgt := 1395) dL_law_958 (by decide) rfl (fun _ => kk _ _ _ _ (by omega) (by omega) hG) (fun z => absurd rfl z)
set_option maxRecDepth 100000 in
set_option maxHeartbeats 1000000 in
theorem la_sheet {rt : Option FieldType} {nm : String} {ro : Ro} {Qf : Wd → List Frame → Array Value → State → State → Prop} {cells slots x m B b j : Nat} {S : St} {I : In} (h : GI S I x m B b j) (hb : b < 79000000) (hj : 6 * j + 5 < ro.2.1.2.1) (hL : ro.2.1.2.1 ≤ 384) (hc : cells + 3 ≤ 600000 ∧ slots + 197 ≤ 7302250) (kk : Nx rt nm ro Qf cells slots x m B b j) : LW rt nm ro Qf cells slots 963 [.ref ro.2.1.1, .ref x, .ref m, .int (nI (6 * j))] [] S I := by
  refine v_aload_n (n := 964) dL_law_963 rfl rfl rfl ?_
  refine v_ag (n := 969) (k := 1) dL_law_964 dL_law_965 dL_law_966 rfl dL_law_967 dL_law_968 rfl rfl rfl (by omega) hL ?_
  refine v_ag (n := 974) (k := 2) dL_law_969 dL_law_970 dL_law_971 rfl dL_law_972 dL_law_973 rfl rfl rfl (by omega) hL ?_
  refine v_ag (n := 979) (k := 3) dL_law_974 dL_law_975 dL_law_976 rfl dL_law_977 dL_law_978 rfl rfl rfl (by omega) hL ?_
  refine v_callV (n := 982) (D := 200) (As := [.int (ro.2.1.2.2 (6 * j + 1)), .int (ro.2.1.2.2 (6 * j + 2)), .int (ro.2.1.2.2 (6 * j + 3))]) (rest := []) mc_X10_sheet l_L_125 iv_X10_sheet se_X10_sheet (ci := 9) ⟨by decide, rfl⟩ h.2.1.1.s (g_sheet (xa := ro.2.1.2.2 (6 * j + 1)) (xb := ro.2.1.2.2 (6 * j + 2)) (xc := ro.2.1.2.2 (6 * j + 3)) h hb) ⟨rfl, rfl⟩ (l8 rfl) ⟨by show cells + 0 ≤ 600000; omega, by show slots + 0 ≤ 7302250; omega⟩ rfl rfl (l8 rfl) dL_law_979 rfl ?_
  rintro r S1 I1 ⟨v, rfl, hs, hM⟩
  refine v_aload_n (n := 983) dL_law_982 rfl rfl rfl ?_
  refine v_ag (n := 988) (k := 1) dL_law_983 dL_law_984 dL_law_985 rfl dL_law_986 dL_law_987 rfl rfl rfl (by omega) hL ?_
  refine v_ag (n := 993) (k := 2) dL_law_988 dL_law_989 dL_law_990 rfl dL_law_991 dL_law_992 rfl rfl rfl (by omega) hL ?_
  refine v_ag (n := 998) (k := 3) dL_law_993 dL_law_994 dL_law_995 rfl dL_law_996 dL_law_997 rfl rfl rfl (by omega) hL ?_
  refine v_callV (n := 1001) (D := 200) (As := [.int (ro.2.1.2.2 (6 * j + 1)), .int (ro.2.1.2.2 (6 * j + 2)), .int (ro.2.1.2.2 (6 * j + 3))]) (rest := [.int v]) mc_X11_sheet l_L_128 iv_X11_sheet se_X11_sheet (ci := 10) ⟨by decide, rfl⟩ hs hM ⟨rfl, rfl⟩ (l8 rfl) ⟨by show cells + 0 + 0 ≤ 600000; omega, by show slots + 0 + 0 ≤ 7302250; omega⟩ rfl rfl (l8 rfl) dL_law_998 rfl ?_
  rintro r2 S2 I2 ⟨rfl, hG⟩
  exact v_icmp_eq (n := 1004) (tgt := 1395) dL_law_1001 (by decide) rfl (fun _ => kk _ _ _ _ (by omega) (by omega) hG) (fun z => absurd rfl z)
set_option maxRecDepth 100000 in
set_option maxHeartbeats 1000000 in
theorem la_mark {rt : Option FieldType} {nm : String} {ro : Ro} {Qf : Wd → List Frame → Array Value → State → State → Prop} {cells slots x m B b j : Nat} {S : St} {I : In} (h : GI S I x m B b j) (hb : b < 79000000) (hj : 6 * j + 5 < ro.2.1.2.1) (hL : ro.2.1.2.1 ≤ 384) (hc : cells + 3 ≤ 600000 ∧ slots + 197 ≤ 7302250) (kk : Nx rt nm ro Qf cells slots x m B b j) : LW rt nm ro Qf cells slots 1006 [.ref ro.2.1.1, .ref x, .ref m, .int (nI (6 * j))] [] S I := by
  refine v_aload_n (n := 1007) dL_law_1006 rfl rfl rfl ?_
  refine v_ag (n := 1012) (k := 1) dL_law_1007 dL_law_1008 dL_law_1009 rfl dL_law_1010 dL_law_1011 rfl rfl rfl (by omega) hL ?_
  refine v_ag (n := 1017) (k := 2) dL_law_1012 dL_law_1013 dL_law_1014 rfl dL_law_1015 dL_law_1016 rfl rfl rfl (by omega) hL ?_
  refine v_ag (n := 1022) (k := 3) dL_law_1017 dL_law_1018 dL_law_1019 rfl dL_law_1020 dL_law_1021 rfl rfl rfl (by omega) hL ?_
  refine v_callV (n := 1025) (D := 200) (As := [.int (ro.2.1.2.2 (6 * j + 1)), .int (ro.2.1.2.2 (6 * j + 2)), .int (ro.2.1.2.2 (6 * j + 3))]) (rest := []) mc_X10_mark l_L_129 iv_X10_mark se_X10_mark (ci := 9) ⟨by decide, rfl⟩ h.2.1.1.s (g_mark (xa := ro.2.1.2.2 (6 * j + 1)) (xb := ro.2.1.2.2 (6 * j + 2)) (xc := ro.2.1.2.2 (6 * j + 3)) h hb) ⟨rfl, rfl⟩ (l8 rfl) ⟨by show cells + 0 ≤ 600000; omega, by show slots + 0 ≤ 7302250; omega⟩ rfl rfl (l8 rfl) dL_law_1022 rfl ?_
  rintro r S1 I1 ⟨v, rfl, hs, hM⟩
  refine v_aload_n (n := 1026) dL_law_1025 rfl rfl rfl ?_
  refine v_ag (n := 1031) (k := 1) dL_law_1026 dL_law_1027 dL_law_1028 rfl dL_law_1029 dL_law_1030 rfl rfl rfl (by omega) hL ?_
  refine v_ag (n := 1036) (k := 2) dL_law_1031 dL_law_1032 dL_law_1033 rfl dL_law_1034 dL_law_1035 rfl rfl rfl (by omega) hL ?_
  refine v_ag (n := 1041) (k := 3) dL_law_1036 dL_law_1037 dL_law_1038 rfl dL_law_1039 dL_law_1040 rfl rfl rfl (by omega) hL ?_
  refine v_callV (n := 1044) (D := 200) (As := [.int (ro.2.1.2.2 (6 * j + 1)), .int (ro.2.1.2.2 (6 * j + 2)), .int (ro.2.1.2.2 (6 * j + 3))]) (rest := [.int v]) mc_X11_mark l_L_132 iv_X11_mark se_X11_mark (ci := 10) ⟨by decide, rfl⟩ hs hM ⟨rfl, rfl⟩ (l8 rfl) ⟨by show cells + 0 + 0 ≤ 600000; omega, by show slots + 0 + 0 ≤ 7302250; omega⟩ rfl rfl (l8 rfl) dL_law_1041 rfl ?_
  rintro r2 S2 I2 ⟨rfl, hG⟩
  exact v_icmp_eq (n := 1047) (tgt := 1395) dL_law_1044 (by decide) rfl (fun _ => kk _ _ _ _ (by omega) (by omega) hG) (fun z => absurd rfl z)
set_option maxRecDepth 100000 in
set_option maxHeartbeats 1000000 in
theorem la_pour {rt : Option FieldType} {nm : String} {ro : Ro} {Qf : Wd → List Frame → Array Value → State → State → Prop} {cells slots x m B b j : Nat} {S : St} {I : In} (h : GI S I x m B b j) (hb : b < 79000000) (hj : 6 * j + 5 < ro.2.1.2.1) (hL : ro.2.1.2.1 ≤ 384) (hc : cells + 3 ≤ 600000 ∧ slots + 197 ≤ 7302250) (kk : Nx rt nm ro Qf cells slots x m B b j) : LW rt nm ro Qf cells slots 1049 [.ref ro.2.1.1, .ref x, .ref m, .int (nI (6 * j))] [] S I := by
  refine v_aload_n (n := 1050) dL_law_1049 rfl rfl rfl ?_
  refine v_ag (n := 1055) (k := 1) dL_law_1050 dL_law_1051 dL_law_1052 rfl dL_law_1053 dL_law_1054 rfl rfl rfl (by omega) hL ?_
  refine v_callV (n := 1058) (D := 200) (As := [.int (ro.2.1.2.2 (6 * j + 1))]) (rest := []) mc_X10_pour l_L_133 iv_X10_pour se_X10_pour (ci := 9) ⟨by decide, rfl⟩ h.2.1.1.s (g_pour (xa := ro.2.1.2.2 (6 * j + 1)) h hb) ⟨rfl, rfl⟩ (l8 rfl) ⟨by show cells + 0 ≤ 600000; omega, by show slots + 0 ≤ 7302250; omega⟩ rfl rfl (l8 rfl) dL_law_1055 rfl ?_
  rintro r S1 I1 ⟨v, rfl, hs, hM⟩
  refine v_aload_n (n := 1059) dL_law_1058 rfl rfl rfl ?_
  refine v_ag (n := 1064) (k := 1) dL_law_1059 dL_law_1060 dL_law_1061 rfl dL_law_1062 dL_law_1063 rfl rfl rfl (by omega) hL ?_
  refine v_callV (n := 1067) (D := 200) (As := [.int (ro.2.1.2.2 (6 * j + 1))]) (rest := [.int v]) mc_X11_pour l_L_136 iv_X11_pour se_X11_pour (ci := 10) ⟨by decide, rfl⟩ hs hM ⟨rfl, rfl⟩ (l8 rfl) ⟨by show cells + 0 + 0 ≤ 600000; omega, by show slots + 0 + 0 ≤ 7302250; omega⟩ rfl rfl (l8 rfl) dL_law_1064 rfl ?_
  rintro r2 S2 I2 ⟨rfl, hG⟩
  exact v_icmp_eq (n := 1070) (tgt := 1395) dL_law_1067 (by decide) rfl (fun _ => kk _ _ _ _ (by omega) (by omega) hG) (fun z => absurd rfl z)
set_option maxRecDepth 100000 in
set_option maxHeartbeats 1000000 in
theorem la_reads {rt : Option FieldType} {nm : String} {ro : Ro} {Qf : Wd → List Frame → Array Value → State → State → Prop} {cells slots x m B b j : Nat} {S : St} {I : In} (h : GI S I x m B b j) (hb : b < 79000000) (hj : 6 * j + 5 < ro.2.1.2.1) (hL : ro.2.1.2.1 ≤ 384) (hc : cells + 3 ≤ 600000 ∧ slots + 197 ≤ 7302250) (kk : Nx rt nm ro Qf cells slots x m B b j) : LW rt nm ro Qf cells slots 1072 [.ref ro.2.1.1, .ref x, .ref m, .int (nI (6 * j))] [] S I := by
  refine v_aload_n (n := 1073) dL_law_1072 rfl rfl rfl ?_
  refine v_ag (n := 1078) (k := 1) dL_law_1073 dL_law_1074 dL_law_1075 rfl dL_law_1076 dL_law_1077 rfl rfl rfl (by omega) hL ?_
  refine v_callV (n := 1081) (D := 200) (As := [.int (ro.2.1.2.2 (6 * j + 1))]) (rest := []) mc_X10_reads l_L_137 iv_X10_reads se_X10_reads (ci := 9) ⟨by decide, rfl⟩ h.2.1.1.s (g_reads (xa := ro.2.1.2.2 (6 * j + 1)) h hb) ⟨rfl, rfl⟩ (l8 rfl) ⟨by show cells + 0 ≤ 600000; omega, by show slots + 0 ≤ 7302250; omega⟩ rfl rfl (l8 rfl) dL_law_1078 rfl ?_
  rintro r S1 I1 ⟨v, rfl, hs, hM⟩
  refine v_aload_n (n := 1082) dL_law_1081 rfl rfl rfl ?_
  refine v_ag (n := 1087) (k := 1) dL_law_1082 dL_law_1083 dL_law_1084 rfl dL_law_1085 dL_law_1086 rfl rfl rfl (by omega) hL ?_
  refine v_callV (n := 1090) (D := 200) (As := [.int (ro.2.1.2.2 (6 * j + 1))]) (rest := [.int v]) mc_X11_reads l_L_140 iv_X11_reads se_X11_reads (ci := 10) ⟨by decide, rfl⟩ hs hM ⟨rfl, rfl⟩ (l8 rfl) ⟨by show cells + 0 + 0 ≤ 600000; omega, by show slots + 0 + 0 ≤ 7302250; omega⟩ rfl rfl (l8 rfl) dL_law_1087 rfl ?_
  rintro r2 S2 I2 ⟨rfl, hG⟩
  exact v_icmp_eq (n := 1093) (tgt := 1395) dL_law_1090 (by decide) rfl (fun _ => kk _ _ _ _ (by omega) (by omega) hG) (fun z => absurd rfl z)
set_option maxRecDepth 100000 in
set_option maxHeartbeats 1000000 in
theorem la_copy {rt : Option FieldType} {nm : String} {ro : Ro} {Qf : Wd → List Frame → Array Value → State → State → Prop} {cells slots x m B b j : Nat} {S : St} {I : In} (h : GI S I x m B b j) (hb : b < 79000000) (hj : 6 * j + 5 < ro.2.1.2.1) (hL : ro.2.1.2.1 ≤ 384) (hc : cells + 3 ≤ 600000 ∧ slots + 197 ≤ 7302250) (kk : Nx rt nm ro Qf cells slots x m B b j) : LW rt nm ro Qf cells slots 1095 [.ref ro.2.1.1, .ref x, .ref m, .int (nI (6 * j))] [] S I := by
  refine v_aload_n (n := 1096) dL_law_1095 rfl rfl rfl ?_
  refine v_ag (n := 1101) (k := 1) dL_law_1096 dL_law_1097 dL_law_1098 rfl dL_law_1099 dL_law_1100 rfl rfl rfl (by omega) hL ?_
  refine v_ag (n := 1106) (k := 2) dL_law_1101 dL_law_1102 dL_law_1103 rfl dL_law_1104 dL_law_1105 rfl rfl rfl (by omega) hL ?_
  refine v_ag (n := 1111) (k := 3) dL_law_1106 dL_law_1107 dL_law_1108 rfl dL_law_1109 dL_law_1110 rfl rfl rfl (by omega) hL ?_
  refine v_ag (n := 1116) (k := 4) dL_law_1111 dL_law_1112 dL_law_1113 rfl dL_law_1114 dL_law_1115 rfl rfl rfl (by omega) hL ?_
  refine v_ag (n := 1121) (k := 5) dL_law_1116 dL_law_1117 dL_law_1118 rfl dL_law_1119 dL_law_1120 rfl rfl rfl (by omega) hL ?_
  refine v_callV (n := 1124) (D := 200) (As := [.int (ro.2.1.2.2 (6 * j + 1)), .int (ro.2.1.2.2 (6 * j + 2)), .int (ro.2.1.2.2 (6 * j + 3)), .int (ro.2.1.2.2 (6 * j + 4)), .int (ro.2.1.2.2 (6 * j + 5))]) (rest := []) mc_X10_copy l_L_141 iv_X10_copy se_X10_copy (ci := 9) ⟨by decide, rfl⟩ h.2.1.1.s (g_copy (xa := ro.2.1.2.2 (6 * j + 1)) (xb := ro.2.1.2.2 (6 * j + 2)) (xc := ro.2.1.2.2 (6 * j + 3)) (xd := ro.2.1.2.2 (6 * j + 4)) (xe := ro.2.1.2.2 (6 * j + 5)) h hb) ⟨rfl, rfl⟩ (l8 rfl) ⟨by show cells + 0 ≤ 600000; omega, by show slots + 0 ≤ 7302250; omega⟩ rfl rfl (l8 rfl) dL_law_1121 rfl ?_
  rintro r S1 I1 ⟨v, rfl, hs, hM⟩
  refine v_aload_n (n := 1125) dL_law_1124 rfl rfl rfl ?_
  refine v_ag (n := 1130) (k := 1) dL_law_1125 dL_law_1126 dL_law_1127 rfl dL_law_1128 dL_law_1129 rfl rfl rfl (by omega) hL ?_
  refine v_ag (n := 1135) (k := 2) dL_law_1130 dL_law_1131 dL_law_1132 rfl dL_law_1133 dL_law_1134 rfl rfl rfl (by omega) hL ?_
  refine v_ag (n := 1140) (k := 3) dL_law_1135 dL_law_1136 dL_law_1137 rfl dL_law_1138 dL_law_1139 rfl rfl rfl (by omega) hL ?_
  refine v_ag (n := 1145) (k := 4) dL_law_1140 dL_law_1141 dL_law_1142 rfl dL_law_1143 dL_law_1144 rfl rfl rfl (by omega) hL ?_
  refine v_ag (n := 1150) (k := 5) dL_law_1145 dL_law_1146 dL_law_1147 rfl dL_law_1148 dL_law_1149 rfl rfl rfl (by omega) hL ?_
  refine v_callV (n := 1153) (D := 200) (As := [.int (ro.2.1.2.2 (6 * j + 1)), .int (ro.2.1.2.2 (6 * j + 2)), .int (ro.2.1.2.2 (6 * j + 3)), .int (ro.2.1.2.2 (6 * j + 4)), .int (ro.2.1.2.2 (6 * j + 5))]) (rest := [.int v]) mc_X11_copy l_L_145 iv_X11_copy se_X11_copy (ci := 10) ⟨by decide, rfl⟩ hs hM ⟨rfl, rfl⟩ (l8 rfl) ⟨by show cells + 0 + 0 ≤ 600000; omega, by show slots + 0 + 0 ≤ 7302250; omega⟩ rfl rfl (l8 rfl) dL_law_1150 rfl ?_
  rintro r2 S2 I2 ⟨rfl, hG⟩
  exact v_icmp_eq (n := 1156) (tgt := 1395) dL_law_1153 (by decide) rfl (fun _ => kk _ _ _ _ (by omega) (by omega) hG) (fun z => absurd rfl z)
set_option maxRecDepth 100000 in
set_option maxHeartbeats 1000000 in
theorem la_lay {rt : Option FieldType} {nm : String} {ro : Ro} {Qf : Wd → List Frame → Array Value → State → State → Prop} {cells slots x m B b j : Nat} {S : St} {I : In} (h : GI S I x m B b j) (hb : b < 79000000) (hj : 6 * j + 5 < ro.2.1.2.1) (hL : ro.2.1.2.1 ≤ 384) (hc : cells + 3 ≤ 600000 ∧ slots + 197 ≤ 7302250) (kk : Nx rt nm ro Qf cells slots x m B b j) : LW rt nm ro Qf cells slots 1158 [.ref ro.2.1.1, .ref x, .ref m, .int (nI (6 * j))] [] S I := by
  refine v_aload_n (n := 1159) dL_law_1158 rfl rfl rfl ?_
  refine v_ag (n := 1164) (k := 1) dL_law_1159 dL_law_1160 dL_law_1161 rfl dL_law_1162 dL_law_1163 rfl rfl rfl (by omega) hL ?_
  refine v_ag (n := 1169) (k := 2) dL_law_1164 dL_law_1165 dL_law_1166 rfl dL_law_1167 dL_law_1168 rfl rfl rfl (by omega) hL ?_
  refine v_ag (n := 1174) (k := 3) dL_law_1169 dL_law_1170 dL_law_1171 rfl dL_law_1172 dL_law_1173 rfl rfl rfl (by omega) hL ?_
  refine v_callV (n := 1177) (D := 200) (As := [.int (ro.2.1.2.2 (6 * j + 1)), .int (ro.2.1.2.2 (6 * j + 2)), .int (ro.2.1.2.2 (6 * j + 3))]) (rest := []) mc_X10_lay l_L_146 iv_X10_lay se_X10_lay (ci := 9) ⟨by decide, rfl⟩ h.2.1.1.s (g_lay (xa := ro.2.1.2.2 (6 * j + 1)) (xb := ro.2.1.2.2 (6 * j + 2)) (xc := ro.2.1.2.2 (6 * j + 3)) h hb) ⟨rfl, rfl⟩ (l8 rfl) ⟨by show cells + 0 ≤ 600000; omega, by show slots + 0 ≤ 7302250; omega⟩ rfl rfl (l8 rfl) dL_law_1174 rfl ?_
  rintro r S1 I1 ⟨v, rfl, hs, hM⟩
  refine v_aload_n (n := 1178) dL_law_1177 rfl rfl rfl ?_
  refine v_ag (n := 1183) (k := 1) dL_law_1178 dL_law_1179 dL_law_1180 rfl dL_law_1181 dL_law_1182 rfl rfl rfl (by omega) hL ?_
  refine v_ag (n := 1188) (k := 2) dL_law_1183 dL_law_1184 dL_law_1185 rfl dL_law_1186 dL_law_1187 rfl rfl rfl (by omega) hL ?_
  refine v_ag (n := 1193) (k := 3) dL_law_1188 dL_law_1189 dL_law_1190 rfl dL_law_1191 dL_law_1192 rfl rfl rfl (by omega) hL ?_
  refine v_callV (n := 1196) (D := 200) (As := [.int (ro.2.1.2.2 (6 * j + 1)), .int (ro.2.1.2.2 (6 * j + 2)), .int (ro.2.1.2.2 (6 * j + 3))]) (rest := [.int v]) mc_X11_lay l_L_149 iv_X11_lay se_X11_lay (ci := 10) ⟨by decide, rfl⟩ hs hM ⟨rfl, rfl⟩ (l8 rfl) ⟨by show cells + 0 + 0 ≤ 600000; omega, by show slots + 0 + 0 ≤ 7302250; omega⟩ rfl rfl (l8 rfl) dL_law_1193 rfl ?_
  rintro r2 S2 I2 ⟨rfl, hG⟩
  exact v_icmp_eq (n := 1199) (tgt := 1395) dL_law_1196 (by decide) rfl (fun _ => kk _ _ _ _ (by omega) (by omega) hG) (fun z => absurd rfl z)
set_option maxRecDepth 100000 in
set_option maxHeartbeats 1000000 in
theorem la_ask {rt : Option FieldType} {nm : String} {ro : Ro} {Qf : Wd → List Frame → Array Value → State → State → Prop} {cells slots x m B b j : Nat} {S : St} {I : In} (h : GI S I x m B b j) (hb : b < 79000000) (hj : 6 * j + 5 < ro.2.1.2.1) (hL : ro.2.1.2.1 ≤ 384) (hc : cells + 3 ≤ 600000 ∧ slots + 197 ≤ 7302250) (kk : Nx rt nm ro Qf cells slots x m B b j) : LW rt nm ro Qf cells slots 1201 [.ref ro.2.1.1, .ref x, .ref m, .int (nI (6 * j))] [] S I := by
  refine v_aload_n (n := 1202) dL_law_1201 rfl rfl rfl ?_
  refine v_ag (n := 1207) (k := 1) dL_law_1202 dL_law_1203 dL_law_1204 rfl dL_law_1205 dL_law_1206 rfl rfl rfl (by omega) hL ?_
  refine v_ag (n := 1212) (k := 2) dL_law_1207 dL_law_1208 dL_law_1209 rfl dL_law_1210 dL_law_1211 rfl rfl rfl (by omega) hL ?_
  refine v_callV (n := 1215) (D := 200) (As := [.int (ro.2.1.2.2 (6 * j + 1)), .int (ro.2.1.2.2 (6 * j + 2))]) (rest := []) mc_X10_ask l_L_150 iv_X10_ask se_X10_ask (ci := 9) ⟨by decide, rfl⟩ h.2.1.1.s (g_ask (xa := ro.2.1.2.2 (6 * j + 1)) (xb := ro.2.1.2.2 (6 * j + 2)) h hb) ⟨rfl, rfl⟩ (l8 rfl) ⟨by show cells + 0 ≤ 600000; omega, by show slots + 0 ≤ 7302250; omega⟩ rfl rfl (l8 rfl) dL_law_1212 rfl ?_
  rintro r S1 I1 ⟨v, rfl, hs, hM⟩
  refine v_aload_n (n := 1216) dL_law_1215 rfl rfl rfl ?_
  refine v_ag (n := 1221) (k := 1) dL_law_1216 dL_law_1217 dL_law_1218 rfl dL_law_1219 dL_law_1220 rfl rfl rfl (by omega) hL ?_
  refine v_ag (n := 1226) (k := 2) dL_law_1221 dL_law_1222 dL_law_1223 rfl dL_law_1224 dL_law_1225 rfl rfl rfl (by omega) hL ?_
  refine v_callV (n := 1229) (D := 200) (As := [.int (ro.2.1.2.2 (6 * j + 1)), .int (ro.2.1.2.2 (6 * j + 2))]) (rest := [.int v]) mc_X11_ask l_L_153 iv_X11_ask se_X11_ask (ci := 10) ⟨by decide, rfl⟩ hs hM ⟨rfl, rfl⟩ (l8 rfl) ⟨by show cells + 0 + 0 ≤ 600000; omega, by show slots + 0 + 0 ≤ 7302250; omega⟩ rfl rfl (l8 rfl) dL_law_1226 rfl ?_
  rintro r2 S2 I2 ⟨rfl, hG⟩
  exact v_icmp_eq (n := 1232) (tgt := 1395) dL_law_1229 (by decide) rfl (fun _ => kk _ _ _ _ (by omega) (by omega) hG) (fun z => absurd rfl z)
set_option maxRecDepth 100000 in
set_option maxHeartbeats 1000000 in
theorem la_item {rt : Option FieldType} {nm : String} {ro : Ro} {Qf : Wd → List Frame → Array Value → State → State → Prop} {cells slots x m B b j : Nat} {S : St} {I : In} (h : GI S I x m B b j) (hb : b < 79000000) (hj : 6 * j + 5 < ro.2.1.2.1) (hL : ro.2.1.2.1 ≤ 384) (hc : cells + 3 ≤ 600000 ∧ slots + 197 ≤ 7302250) (kk : Nx rt nm ro Qf cells slots x m B b j) : LW rt nm ro Qf cells slots 1234 [.ref ro.2.1.1, .ref x, .ref m, .int (nI (6 * j))] [] S I := by
  refine v_aload_n (n := 1235) dL_law_1234 rfl rfl rfl ?_
  refine v_ag (n := 1240) (k := 1) dL_law_1235 dL_law_1236 dL_law_1237 rfl dL_law_1238 dL_law_1239 rfl rfl rfl (by omega) hL ?_
  refine v_ag (n := 1245) (k := 2) dL_law_1240 dL_law_1241 dL_law_1242 rfl dL_law_1243 dL_law_1244 rfl rfl rfl (by omega) hL ?_
  refine v_callV (n := 1248) (D := 200) (As := [.int (ro.2.1.2.2 (6 * j + 1)), .int (ro.2.1.2.2 (6 * j + 2))]) (rest := []) mc_X10_item l_L_154 iv_X10_item se_X10_item (ci := 9) ⟨by decide, rfl⟩ h.2.1.1.s (g_item (xa := ro.2.1.2.2 (6 * j + 1)) (xb := ro.2.1.2.2 (6 * j + 2)) h hb) ⟨rfl, rfl⟩ (l8 rfl) ⟨by show cells + 0 ≤ 600000; omega, by show slots + 0 ≤ 7302250; omega⟩ rfl rfl (l8 rfl) dL_law_1245 rfl ?_
  rintro r S1 I1 ⟨v, rfl, hs, hM⟩
  refine v_aload_n (n := 1249) dL_law_1248 rfl rfl rfl ?_
  refine v_ag (n := 1254) (k := 1) dL_law_1249 dL_law_1250 dL_law_1251 rfl dL_law_1252 dL_law_1253 rfl rfl rfl (by omega) hL ?_
  refine v_ag (n := 1259) (k := 2) dL_law_1254 dL_law_1255 dL_law_1256 rfl dL_law_1257 dL_law_1258 rfl rfl rfl (by omega) hL ?_
  refine v_callV (n := 1262) (D := 200) (As := [.int (ro.2.1.2.2 (6 * j + 1)), .int (ro.2.1.2.2 (6 * j + 2))]) (rest := [.int v]) mc_X11_item l_L_157 iv_X11_item se_X11_item (ci := 10) ⟨by decide, rfl⟩ hs hM ⟨rfl, rfl⟩ (l8 rfl) ⟨by show cells + 0 + 0 ≤ 600000; omega, by show slots + 0 + 0 ≤ 7302250; omega⟩ rfl rfl (l8 rfl) dL_law_1259 rfl ?_
  rintro r2 S2 I2 ⟨rfl, hG⟩
  exact v_icmp_eq (n := 1265) (tgt := 1395) dL_law_1262 (by decide) rfl (fun _ => kk _ _ _ _ (by omega) (by omega) hG) (fun z => absurd rfl z)
set_option maxRecDepth 100000 in
set_option maxHeartbeats 1000000 in
theorem la_rest {rt : Option FieldType} {nm : String} {ro : Ro} {Qf : Wd → List Frame → Array Value → State → State → Prop} {cells slots x m B b j : Nat} {S : St} {I : In} (h : GI S I x m B b j) (hb : b < 79000000) (hj : 6 * j + 5 < ro.2.1.2.1) (hL : ro.2.1.2.1 ≤ 384) (hc : cells + 3 ≤ 600000 ∧ slots + 197 ≤ 7302250) (kk : Nx rt nm ro Qf cells slots x m B b j) : LW rt nm ro Qf cells slots 1267 [.ref ro.2.1.1, .ref x, .ref m, .int (nI (6 * j))] [] S I := by
  refine v_aload_n (n := 1268) dL_law_1267 rfl rfl rfl ?_
  refine v_ag (n := 1273) (k := 1) dL_law_1268 dL_law_1269 dL_law_1270 rfl dL_law_1271 dL_law_1272 rfl rfl rfl (by omega) hL ?_
  refine v_ag (n := 1278) (k := 2) dL_law_1273 dL_law_1274 dL_law_1275 rfl dL_law_1276 dL_law_1277 rfl rfl rfl (by omega) hL ?_
  refine v_callV (n := 1281) (D := 200) (As := [.int (ro.2.1.2.2 (6 * j + 1)), .int (ro.2.1.2.2 (6 * j + 2))]) (rest := []) mc_X10_rest l_L_158 iv_X10_rest se_X10_rest (ci := 9) ⟨by decide, rfl⟩ h.2.1.1.s (g_rest (xa := ro.2.1.2.2 (6 * j + 1)) (xb := ro.2.1.2.2 (6 * j + 2)) h hb) ⟨rfl, rfl⟩ (l8 rfl) ⟨by show cells + 0 ≤ 600000; omega, by show slots + 0 ≤ 7302250; omega⟩ rfl rfl (l8 rfl) dL_law_1278 rfl ?_
  rintro r S1 I1 ⟨v, rfl, hs, hM⟩
  refine v_aload_n (n := 1282) dL_law_1281 rfl rfl rfl ?_
  refine v_ag (n := 1287) (k := 1) dL_law_1282 dL_law_1283 dL_law_1284 rfl dL_law_1285 dL_law_1286 rfl rfl rfl (by omega) hL ?_
  refine v_ag (n := 1292) (k := 2) dL_law_1287 dL_law_1288 dL_law_1289 rfl dL_law_1290 dL_law_1291 rfl rfl rfl (by omega) hL ?_
  refine v_callV (n := 1295) (D := 200) (As := [.int (ro.2.1.2.2 (6 * j + 1)), .int (ro.2.1.2.2 (6 * j + 2))]) (rest := [.int v]) mc_X11_rest l_L_161 iv_X11_rest se_X11_rest (ci := 10) ⟨by decide, rfl⟩ hs hM ⟨rfl, rfl⟩ (l8 rfl) ⟨by show cells + 0 + 0 ≤ 600000; omega, by show slots + 0 + 0 ≤ 7302250; omega⟩ rfl rfl (l8 rfl) dL_law_1292 rfl ?_
  rintro r2 S2 I2 ⟨rfl, hG⟩
  exact v_icmp_eq (n := 1298) (tgt := 1395) dL_law_1295 (by decide) rfl (fun _ => kk _ _ _ _ (by omega) (by omega) hG) (fun z => absurd rfl z)
set_option maxRecDepth 100000 in
set_option maxHeartbeats 1000000 in
theorem la_tell {rt : Option FieldType} {nm : String} {ro : Ro} {Qf : Wd → List Frame → Array Value → State → State → Prop} {cells slots x m B b j : Nat} {S : St} {I : In} (h : GI S I x m B b j) (hb : b < 79000000) (hj : 6 * j + 5 < ro.2.1.2.1) (hL : ro.2.1.2.1 ≤ 384) (hc : cells + 3 ≤ 600000 ∧ slots + 197 ≤ 7302250) (kk : Nx rt nm ro Qf cells slots x m B b j) : LW rt nm ro Qf cells slots 1300 [.ref ro.2.1.1, .ref x, .ref m, .int (nI (6 * j))] [] S I := by
  refine v_aload_n (n := 1301) dL_law_1300 rfl rfl rfl ?_
  refine v_ag (n := 1306) (k := 1) dL_law_1301 dL_law_1302 dL_law_1303 rfl dL_law_1304 dL_law_1305 rfl rfl rfl (by omega) hL ?_
  refine v_callV (n := 1309) (D := 200) (As := [.int (ro.2.1.2.2 (6 * j + 1))]) (rest := []) mc_X10_tell l_L_162 iv_X10_tell se_X10_tell (ci := 9) ⟨by decide, rfl⟩ h.2.1.1.s (g_tell (xa := ro.2.1.2.2 (6 * j + 1)) h hb) ⟨rfl, rfl⟩ (l8 rfl) ⟨by show cells + 0 ≤ 600000; omega, by show slots + 0 ≤ 7302250; omega⟩ rfl rfl (l8 rfl) dL_law_1306 rfl ?_
  rintro r S1 I1 ⟨v, rfl, hs, hM⟩
  refine v_aload_n (n := 1310) dL_law_1309 rfl rfl rfl ?_
  refine v_ag (n := 1315) (k := 1) dL_law_1310 dL_law_1311 dL_law_1312 rfl dL_law_1313 dL_law_1314 rfl rfl rfl (by omega) hL ?_
  refine v_callV (n := 1318) (D := 200) (As := [.int (ro.2.1.2.2 (6 * j + 1))]) (rest := [.int v]) mc_X11_tell l_L_165 iv_X11_tell se_X11_tell (ci := 10) ⟨by decide, rfl⟩ hs hM ⟨rfl, rfl⟩ (l8 rfl) ⟨by show cells + 0 + 0 ≤ 600000; omega, by show slots + 0 + 0 ≤ 7302250; omega⟩ rfl rfl (l8 rfl) dL_law_1315 rfl ?_
  rintro r2 S2 I2 ⟨rfl, hG⟩
  exact v_icmp_eq (n := 1321) (tgt := 1395) dL_law_1318 (by decide) rfl (fun _ => kk _ _ _ _ (by omega) (by omega) hG) (fun z => absurd rfl z)
set_option maxRecDepth 100000 in
set_option maxHeartbeats 1000000 in
theorem la_check {rt : Option FieldType} {nm : String} {ro : Ro} {Qf : Wd → List Frame → Array Value → State → State → Prop} {cells slots x m B b j : Nat} {S : St} {I : In} (h : GI S I x m B b j) (hb : b < 79000000) (hj : 6 * j + 5 < ro.2.1.2.1) (hL : ro.2.1.2.1 ≤ 384) (hc : cells + 3 ≤ 600000 ∧ slots + 197 ≤ 7302250) (kk : Nx rt nm ro Qf cells slots x m B b j) : LW rt nm ro Qf cells slots 1323 [.ref ro.2.1.1, .ref x, .ref m, .int (nI (6 * j))] [] S I := by
  refine v_aload_n (n := 1324) dL_law_1323 rfl rfl rfl ?_
  refine v_ag (n := 1329) (k := 1) dL_law_1324 dL_law_1325 dL_law_1326 rfl dL_law_1327 dL_law_1328 rfl rfl rfl (by omega) hL ?_
  refine v_callV (n := 1332) (D := 200) (As := [.int (ro.2.1.2.2 (6 * j + 1))]) (rest := []) mc_X10_check l_L_166 iv_X10_check se_X10_check (ci := 9) ⟨by decide, rfl⟩ h.2.1.1.s (g_check (xa := ro.2.1.2.2 (6 * j + 1)) h hb) ⟨rfl, rfl⟩ (l8 rfl) ⟨by show cells + 0 ≤ 600000; omega, by show slots + 0 ≤ 7302250; omega⟩ rfl rfl (l8 rfl) dL_law_1329 rfl ?_
  rintro r S1 I1 ⟨v, rfl, hs, hM⟩
  refine v_aload_n (n := 1333) dL_law_1332 rfl rfl rfl ?_
  refine v_ag (n := 1338) (k := 1) dL_law_1333 dL_law_1334 dL_law_1335 rfl dL_law_1336 dL_law_1337 rfl rfl rfl (by omega) hL ?_
  refine v_callV (n := 1341) (D := 200) (As := [.int (ro.2.1.2.2 (6 * j + 1))]) (rest := [.int v]) mc_X11_check l_L_169 iv_X11_check se_X11_check (ci := 10) ⟨by decide, rfl⟩ hs hM ⟨rfl, rfl⟩ (l8 rfl) ⟨by show cells + 0 + 0 ≤ 600000; omega, by show slots + 0 + 0 ≤ 7302250; omega⟩ rfl rfl (l8 rfl) dL_law_1338 rfl ?_
  rintro r2 S2 I2 ⟨rfl, hG⟩
  exact v_icmp_eq (n := 1344) (tgt := 1395) dL_law_1341 (by decide) rfl (fun _ => kk _ _ _ _ (by omega) (by omega) hG) (fun z => absurd rfl z)
set_option maxRecDepth 100000 in
set_option maxHeartbeats 1000000 in
theorem la_keep {rt : Option FieldType} {nm : String} {ro : Ro} {Qf : Wd → List Frame → Array Value → State → State → Prop} {cells slots x m B b j : Nat} {S : St} {I : In} (h : GI S I x m B b j) (hb : b < 79000000) (hj : 6 * j + 5 < ro.2.1.2.1) (hL : ro.2.1.2.1 ≤ 384) (hc : cells + 3 ≤ 600000 ∧ slots + 197 ≤ 7302250) (kk : Nx rt nm ro Qf cells slots x m B b j) : LW rt nm ro Qf cells slots 1346 [.ref ro.2.1.1, .ref x, .ref m, .int (nI (6 * j))] [] S I := by
  refine v_aload_n (n := 1347) dL_law_1346 rfl rfl rfl ?_
  refine v_callV (n := 1350) (D := 200) (As := []) (rest := []) mc_X10_keep l_L_170 iv_X10_keep se_X10_keep (ci := 9) ⟨by decide, rfl⟩ h.2.1.1.s (g_keep  h hb) ⟨rfl, rfl⟩ (l8 rfl) ⟨by show cells + 0 ≤ 600000; omega, by show slots + 0 ≤ 7302250; omega⟩ rfl rfl (l8 rfl) dL_law_1347 rfl ?_
  rintro r S1 I1 ⟨v, rfl, hs, hM⟩
  refine v_aload_n (n := 1351) dL_law_1350 rfl rfl rfl ?_
  refine v_callV (n := 1354) (D := 200) (As := []) (rest := [.int v]) mc_X11_keep l_L_173 iv_X11_keep se_X11_keep (ci := 10) ⟨by decide, rfl⟩ hs hM ⟨rfl, rfl⟩ (l8 rfl) ⟨by show cells + 0 + 0 ≤ 600000; omega, by show slots + 0 + 0 ≤ 7302250; omega⟩ rfl rfl (l8 rfl) dL_law_1351 rfl ?_
  rintro r2 S2 I2 ⟨rfl, hG⟩
  exact v_icmp_eq (n := 1357) (tgt := 1395) dL_law_1354 (by decide) rfl (fun _ => kk _ _ _ _ (by omega) (by omega) hG) (fun z => absurd rfl z)
set_option maxRecDepth 100000 in
set_option maxHeartbeats 1000000 in
theorem la_back {rt : Option FieldType} {nm : String} {ro : Ro} {Qf : Wd → List Frame → Array Value → State → State → Prop} {cells slots x m B b j : Nat} {S : St} {I : In} (h : GI S I x m B b j) (hb : b < 79000000) (hj : 6 * j + 5 < ro.2.1.2.1) (hL : ro.2.1.2.1 ≤ 384) (hc : cells + 3 ≤ 600000 ∧ slots + 197 ≤ 7302250) (kk : Nx rt nm ro Qf cells slots x m B b j) : LW rt nm ro Qf cells slots 1359 [.ref ro.2.1.1, .ref x, .ref m, .int (nI (6 * j))] [] S I := by
  refine v_aload_n (n := 1360) dL_law_1359 rfl rfl rfl ?_
  refine v_callV (n := 1363) (D := 200) (As := []) (rest := []) mc_X10_back l_L_174 iv_X10_back se_X10_back (ci := 9) ⟨by decide, rfl⟩ h.2.1.1.s (g_back  h hb) ⟨rfl, rfl⟩ (l8 rfl) ⟨by show cells + 0 ≤ 600000; omega, by show slots + 0 ≤ 7302250; omega⟩ rfl rfl (l8 rfl) dL_law_1360 rfl ?_
  rintro r S1 I1 ⟨v, rfl, hs, hM⟩
  refine v_aload_n (n := 1364) dL_law_1363 rfl rfl rfl ?_
  refine v_callV (n := 1367) (D := 200) (As := []) (rest := [.int v]) mc_X11_back l_L_177 iv_X11_back se_X11_back (ci := 10) ⟨by decide, rfl⟩ hs hM ⟨rfl, rfl⟩ (l8 rfl) ⟨by show cells + 0 + 0 ≤ 600000; omega, by show slots + 0 + 0 ≤ 7302250; omega⟩ rfl rfl (l8 rfl) dL_law_1364 rfl ?_
  rintro r2 S2 I2 ⟨rfl, hG⟩
  exact v_icmp_eq (n := 1370) (tgt := 1395) dL_law_1367 (by decide) rfl (fun _ => kk _ _ _ _ (by omega) (by omega) hG) (fun z => absurd rfl z)
set_option maxRecDepth 100000 in
set_option maxHeartbeats 1000000 in
theorem la_count {rt : Option FieldType} {nm : String} {ro : Ro} {Qf : Wd → List Frame → Array Value → State → State → Prop} {cells slots x m B b j : Nat} {S : St} {I : In} (h : GI S I x m B b j) (hb : b < 79000000) (hj : 6 * j + 5 < ro.2.1.2.1) (hL : ro.2.1.2.1 ≤ 384) (hc : cells + 3 ≤ 600000 ∧ slots + 197 ≤ 7302250) (kk : Nx rt nm ro Qf cells slots x m B b j) : LW rt nm ro Qf cells slots 1372 [.ref ro.2.1.1, .ref x, .ref m, .int (nI (6 * j))] [] S I := by
  refine v_aload_n (n := 1373) dL_law_1372 rfl rfl rfl ?_
  refine v_ag (n := 1378) (k := 1) dL_law_1373 dL_law_1374 dL_law_1375 rfl dL_law_1376 dL_law_1377 rfl rfl rfl (by omega) hL ?_
  refine v_callV (n := 1381) (D := 200) (As := [.int (ro.2.1.2.2 (6 * j + 1))]) (rest := []) mc_X10_count l_L_178 iv_X10_count se_X10_count (ci := 9) ⟨by decide, rfl⟩ h.2.1.1.s (g_count (xa := ro.2.1.2.2 (6 * j + 1)) h hb) ⟨rfl, rfl⟩ (l8 rfl) ⟨by show cells + 0 ≤ 600000; omega, by show slots + 0 ≤ 7302250; omega⟩ rfl rfl (l8 rfl) dL_law_1378 rfl ?_
  rintro r S1 I1 ⟨v, rfl, hs, hM⟩
  refine v_aload_n (n := 1382) dL_law_1381 rfl rfl rfl ?_
  refine v_ag (n := 1387) (k := 1) dL_law_1382 dL_law_1383 dL_law_1384 rfl dL_law_1385 dL_law_1386 rfl rfl rfl (by omega) hL ?_
  refine v_callV (n := 1390) (D := 200) (As := [.int (ro.2.1.2.2 (6 * j + 1))]) (rest := [.int v]) mc_X11_count l_L_181 iv_X11_count se_X11_count (ci := 10) ⟨by decide, rfl⟩ hs hM ⟨rfl, rfl⟩ (l8 rfl) ⟨by show cells + 0 + 0 ≤ 600000; omega, by show slots + 0 + 0 ≤ 7302250; omega⟩ rfl rfl (l8 rfl) dL_law_1387 rfl ?_
  rintro r2 S2 I2 ⟨rfl, hG⟩
  exact v_icmp_eq (n := 1393) (tgt := 1395) dL_law_1390 (by decide) rfl (fun _ => kk _ _ _ _ (by omega) (by omega) hG) (fun z => absurd rfl z)
set_option maxRecDepth 100000 in
set_option maxHeartbeats 4000000 in
theorem la_switch {rt : Option FieldType} {nm : String} {ro : Ro} {Qf : Wd → List Frame → Array Value → State → State → Prop} {cells slots x m B b j : Nat} {S : St} {I : In} {y : Int32} (h : GI S I x m B b j) (hb : b < 79000000) (hj : 6 * j + 5 < ro.2.1.2.1) (hL : ro.2.1.2.1 ≤ 384) (hc : cells + 3 ≤ 600000 ∧ slots + 197 ≤ 7302250) (kk : Nx rt nm ro Qf cells slots x m B b j) : LW rt nm ro Qf cells slots 33 [.ref ro.2.1.1, .ref x, .ref m, .int (nI (6 * j))] [.int y] S I := by
  by_cases hy : y.toInt < 0 ∨ 40 < y.toInt
  · exact v_tableO (tgt := 1395) dL_law_33 hy (by decide) (kk _ _ _ _ (by omega) (by omega) (gi_th h (by omega) (by omega) SGp.rf (fun _ _ _ => rfl)))
  · have hk : y.toInt = 0 ∨ y.toInt = 1 ∨ y.toInt = 2 ∨ y.toInt = 3 ∨ y.toInt = 4 ∨ y.toInt = 5 ∨ y.toInt = 6 ∨ y.toInt = 7 ∨ y.toInt = 8 ∨ y.toInt = 9 ∨ y.toInt = 10 ∨ y.toInt = 11 ∨ y.toInt = 12 ∨ y.toInt = 13 ∨ y.toInt = 14 ∨ y.toInt = 15 ∨ y.toInt = 16 ∨ y.toInt = 17 ∨ y.toInt = 18 ∨ y.toInt = 19 ∨ y.toInt = 20 ∨ y.toInt = 21 ∨ y.toInt = 22 ∨ y.toInt = 23 ∨ y.toInt = 24 ∨ y.toInt = 25 ∨ y.toInt = 26 ∨ y.toInt = 27 ∨ y.toInt = 28 ∨ y.toInt = 29 ∨ y.toInt = 30 ∨ y.toInt = 31 ∨ y.toInt = 32 ∨ y.toInt = 33 ∨ y.toInt = 34 ∨ y.toInt = 35 ∨ y.toInt = 36 ∨ y.toInt = 37 ∨ y.toInt = 38 ∨ y.toInt = 39 ∨ y.toInt = 40 := by omega
    rcases hk with e | e | e | e | e | e | e | e | e | e | e | e | e | e | e | e | e | e | e | e | e | e | e | e | e | e | e | e | e | e | e | e | e | e | e | e | e | e | e | e | e
    · exact v_table (off := 179) (tgt := 212) dL_law_33 ⟨by rw [e]; decide, by rw [e]; decide⟩ (by rw [e]; rfl) (by decide) (la_yard h hb hj hL hc kk)
    · exact v_table (off := 222) (tgt := 255) dL_law_33 ⟨by rw [e]; decide, by rw [e]; decide⟩ (by rw [e]; rfl) (by decide) (la_told h hb hj hL hc kk)
    · exact v_table (off := 255) (tgt := 288) dL_law_33 ⟨by rw [e]; decide, by rw [e]; decide⟩ (by rw [e]; rfl) (by decide) (la_as h hb hj hL hc kk)
    · exact v_table (off := 288) (tgt := 321) dL_law_33 ⟨by rw [e]; decide, by rw [e]; decide⟩ (by rw [e]; rfl) (by decide) (la_turns h hb hj hL hc kk)
    · exact v_table (off := 321) (tgt := 354) dL_law_33 ⟨by rw [e]; decide, by rw [e]; decide⟩ (by rw [e]; rfl) (by decide) (la_set h hb hj hL hc kk)
    · exact v_table (off := 364) (tgt := 397) dL_law_33 ⟨by rw [e]; decide, by rw [e]; decide⟩ (by rw [e]; rfl) (by decide) (la_deal h hb hj hL hc kk)
    · exact v_table (off := 387) (tgt := 420) dL_law_33 ⟨by rw [e]; decide, by rw [e]; decide⟩ (by rw [e]; rfl) (by decide) (la_seed h hb hj hL hc kk)
    · exact v_table (off := 410) (tgt := 443) dL_law_33 ⟨by rw [e]; decide, by rw [e]; decide⟩ (by rw [e]; rfl) (by decide) (la_rule h hb hj hL hc kk)
    · exact v_table (off := 443) (tgt := 476) dL_law_33 ⟨by rw [e]; decide, by rw [e]; decide⟩ (by rw [e]; rfl) (by decide) (la_at h hb hj hL hc kk)
    · exact v_table (off := 466) (tgt := 499) dL_law_33 ⟨by rw [e]; decide, by rw [e]; decide⟩ (by rw [e]; rfl) (by decide) (la_ball h hb hj hL hc kk)
    · exact v_table (off := 489) (tgt := 522) dL_law_33 ⟨by rw [e]; decide, by rw [e]; decide⟩ (by rw [e]; rfl) (by decide) (la_layer h hb hj hL hc kk)
    · exact v_table (off := 522) (tgt := 555) dL_law_33 ⟨by rw [e]; decide, by rw [e]; decide⟩ (by rw [e]; rfl) (by decide) (la_pack h hb hj hL hc kk)
    · exact v_table (off := 555) (tgt := 588) dL_law_33 ⟨by rw [e]; decide, by rw [e]; decide⟩ (by rw [e]; rfl) (by decide) (la_lose h hb hj hL hc kk)
    · exact v_table (off := 578) (tgt := 611) dL_law_33 ⟨by rw [e]; decide, by rw [e]; decide⟩ (by rw [e]; rfl) (by decide) (la_find h hb hj hL hc kk)
    · exact v_table (off := 601) (tgt := 634) dL_law_33 ⟨by rw [e]; decide, by rw [e]; decide⟩ (by rw [e]; rfl) (by decide) (la_thing h hb hj hL hc kk)
    · exact v_table (off := 624) (tgt := 657) dL_law_33 ⟨by rw [e]; decide, by rw [e]; decide⟩ (by rw [e]; rfl) (by decide) (la_days h hb hj hL hc kk)
    · exact v_table (off := 647) (tgt := 680) dL_law_33 ⟨by rw [e]; decide, by rw [e]; decide⟩ (by rw [e]; rfl) (by decide) (la_behind h hb hj hL hc kk)
    · exact v_table (off := 680) (tgt := 713) dL_law_33 ⟨by rw [e]; decide, by rw [e]; decide⟩ (by rw [e]; rfl) (by decide) (la_gone h hb hj hL hc kk)
    · exact v_table (off := 693) (tgt := 726) dL_law_33 ⟨by rw [e]; decide, by rw [e]; decide⟩ (by rw [e]; rfl) (by decide) (la_way h hb hj hL hc kk)
    · exact v_table (off := 726) (tgt := 759) dL_law_33 ⟨by rw [e]; decide, by rw [e]; decide⟩ (by rw [e]; rfl) (by decide) (la_most h hb hj hL hc kk)
    · exact v_table (off := 739) (tgt := 772) dL_law_33 ⟨by rw [e]; decide, by rw [e]; decide⟩ (by rw [e]; rfl) (by decide) (la_warmed h hb hj hL hc kk)
    · exact v_table (off := 772) (tgt := 805) dL_law_33 ⟨by rw [e]; decide, by rw [e]; decide⟩ (by rw [e]; rfl) (by decide) (la_fine h hb hj hL hc kk)
    · exact v_table (off := 795) (tgt := 828) dL_law_33 ⟨by rw [e]; decide, by rw [e]; decide⟩ (by rw [e]; rfl) (by decide) (la_feed h hb hj hL hc kk)
    · exact v_table (off := 838) (tgt := 871) dL_law_33 ⟨by rw [e]; decide, by rw [e]; decide⟩ (by rw [e]; rfl) (by decide) (la_trim h hb hj hL hc kk)
    · exact v_table (off := 861) (tgt := 894) dL_law_33 ⟨by rw [e]; decide, by rw [e]; decide⟩ (by rw [e]; rfl) (by decide) (la_text h hb hj hL hc kk)
    · exact v_table (off := 874) (tgt := 907) dL_law_33 ⟨by rw [e]; decide, by rw [e]; decide⟩ (by rw [e]; rfl) (by decide) (la_textTold h hb hj hL hc kk)
    · exact v_table (off := 907) (tgt := 940) dL_law_33 ⟨by rw [e]; decide, by rw [e]; decide⟩ (by rw [e]; rfl) (by decide) (la_why h hb hj hL hc kk)
    · exact v_table (off := 930) (tgt := 963) dL_law_33 ⟨by rw [e]; decide, by rw [e]; decide⟩ (by rw [e]; rfl) (by decide) (la_sheet h hb hj hL hc kk)
    · exact v_table (off := 973) (tgt := 1006) dL_law_33 ⟨by rw [e]; decide, by rw [e]; decide⟩ (by rw [e]; rfl) (by decide) (la_mark h hb hj hL hc kk)
    · exact v_table (off := 1016) (tgt := 1049) dL_law_33 ⟨by rw [e]; decide, by rw [e]; decide⟩ (by rw [e]; rfl) (by decide) (la_pour h hb hj hL hc kk)
    · exact v_table (off := 1039) (tgt := 1072) dL_law_33 ⟨by rw [e]; decide, by rw [e]; decide⟩ (by rw [e]; rfl) (by decide) (la_reads h hb hj hL hc kk)
    · exact v_table (off := 1062) (tgt := 1095) dL_law_33 ⟨by rw [e]; decide, by rw [e]; decide⟩ (by rw [e]; rfl) (by decide) (la_copy h hb hj hL hc kk)
    · exact v_table (off := 1125) (tgt := 1158) dL_law_33 ⟨by rw [e]; decide, by rw [e]; decide⟩ (by rw [e]; rfl) (by decide) (la_lay h hb hj hL hc kk)
    · exact v_table (off := 1168) (tgt := 1201) dL_law_33 ⟨by rw [e]; decide, by rw [e]; decide⟩ (by rw [e]; rfl) (by decide) (la_ask h hb hj hL hc kk)
    · exact v_table (off := 1201) (tgt := 1234) dL_law_33 ⟨by rw [e]; decide, by rw [e]; decide⟩ (by rw [e]; rfl) (by decide) (la_item h hb hj hL hc kk)
    · exact v_table (off := 1234) (tgt := 1267) dL_law_33 ⟨by rw [e]; decide, by rw [e]; decide⟩ (by rw [e]; rfl) (by decide) (la_rest h hb hj hL hc kk)
    · exact v_table (off := 1267) (tgt := 1300) dL_law_33 ⟨by rw [e]; decide, by rw [e]; decide⟩ (by rw [e]; rfl) (by decide) (la_tell h hb hj hL hc kk)
    · exact v_table (off := 1290) (tgt := 1323) dL_law_33 ⟨by rw [e]; decide, by rw [e]; decide⟩ (by rw [e]; rfl) (by decide) (la_check h hb hj hL hc kk)
    · exact v_table (off := 1313) (tgt := 1346) dL_law_33 ⟨by rw [e]; decide, by rw [e]; decide⟩ (by rw [e]; rfl) (by decide) (la_keep h hb hj hL hc kk)
    · exact v_table (off := 1326) (tgt := 1359) dL_law_33 ⟨by rw [e]; decide, by rw [e]; decide⟩ (by rw [e]; rfl) (by decide) (la_back h hb hj hL hc kk)
    · exact v_table (off := 1339) (tgt := 1372) dL_law_33 ⟨by rw [e]; decide, by rw [e]; decide⟩ (by rw [e]; rfl) (by decide) (la_count h hb hj hL hc kk)
theorem la_le {L i : Nat} (hL : L ≤ 384) (hi : i ≤ 384) (h : ¬ nI L - 6 < nI i) : i + 6 ≤ L := by
  rw [Int32.lt_iff_toInt_lt, Int32.toInt_sub, nI_toInt (by omega), nI_toInt (by omega), show ((6 : Int32)).toInt = 6 from by decide, Int.bmod_eq_of_le (by omega) (by omega)] at h
  omega
set_option maxRecDepth 100000 in
set_option maxHeartbeats 4000000 in
theorem la_loop {rt : Option FieldType} {nm : String} {ro : Ro} {Qf : Wd → List Frame → Array Value → State → State → Prop} {x m B : Nat} (hb0 : ∀ w s, KK w ro s → ¬ wA w ro.2.1.1) (hL : ro.2.1.2.1 ≤ 384) (hend : ∀ cells slots al S I, cells ≤ 600000 → slots ≤ 7302250 → LW rt nm ro Qf cells slots 1402 al [.int 1] S I) : ∀ d j cells slots S I, ro.2.1.2.1 - 6 * j ≤ d → 6 * j ≤ ro.2.1.2.1 → GI S I x m B (100000 * j) j → cells ≤ 134 + 3 * j → slots ≤ 6844 + 197 * j → LW rt nm ro Qf cells slots 18 [.ref ro.2.1.1, .ref x, .ref m, .int (nI (6 * j))] [] S I := by
  intro d
  induction d with
  | zero =>
    intro j cells slots S I hd hj hG h1 h2
    refine v_iload_n (n := 19) dL_law_18 rfl rfl rfl ?_
    refine v_aload_n (n := 20) dL_law_19 rfl rfl rfl ?_
    refine v_scLen (n := 21) hb0 dL_law_20 rfl ?_
    refine v_bipush (n := 23) (v := 6) dL_law_21 rfl rfl ?_
    refine v_isub (n := 24) dL_law_23 rfl ?_
    refine v_icmp_gt (n := 27) (tgt := 1401) dL_law_24 (by decide) rfl (fun hq => ?_) (fun hq => ?_)
    · exact v_iconst (n := 1402) (v := 1) dL_law_1401 rfl rfl (hend _ _ _ _ _ (by omega) (by omega))
    · have := la_le hL (by omega) hq
      omega
  | succ d ih =>
    intro j cells slots S I hd hj hG h1 h2
    refine v_iload_n (n := 19) dL_law_18 rfl rfl rfl ?_
    refine v_aload_n (n := 20) dL_law_19 rfl rfl rfl ?_
    refine v_scLen (n := 21) hb0 dL_law_20 rfl ?_
    refine v_bipush (n := 23) (v := 6) dL_law_21 rfl rfl ?_
    refine v_isub (n := 24) dL_law_23 rfl ?_
    refine v_icmp_gt (n := 27) (tgt := 1401) dL_law_24 (by decide) rfl (fun hq => ?_) (fun hq => ?_)
    · exact v_iconst (n := 1402) (v := 1) dL_law_1401 rfl rfl (hend _ _ _ _ _ (by omega) (by omega))
    · have hle := la_le hL (by omega) hq
      refine v_aload_n (n := 28) dL_law_27 rfl rfl rfl ?_
      refine v_iload_n (n := 29) dL_law_28 rfl rfl rfl ?_
      refine v_scLd (n := 30) (j := 6 * j) (ix_nI (by omega) (by omega)) dL_law_29 rfl ?_
      refine v_bipush (n := 32) (v := 63) dL_law_30 rfl rfl ?_
      refine v_iand (n := 33) dL_law_32 rfl ?_
      refine la_switch hG (by omega) (by omega) hL ⟨by omega, by omega⟩ ?_
      intro S2 I2 c s hc hs hG2
      refine v_iinc (n := 1398) (v := nI (6 * (j + 1))) (al' := [.ref ro.2.1.1, .ref x, .ref m, .int (nI (6 * (j + 1)))]) dL_law_1395 rfl ?_ rfl rfl rfl ?_
      · rw [show 6 * (j + 1) = 6 * j + 6 by omega, ← nI_add]; rfl
      · exact v_goto (tgt := 18) dL_law_1398 (by decide) (ih (j + 1) c s S2 I2 (by omega) (by omega) (by rw [show 100000 * (j + 1) = 100000 * j + 100000 by omega]; exact hG2) (by omega) (by omega))
