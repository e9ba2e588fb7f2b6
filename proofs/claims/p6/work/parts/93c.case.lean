/-! cases of the law (laid by wip/p2/c92.py) -/
theorem dl_250 : decode cL_law 250 = .ok (.aload_n 1, 1) := by decide +kernel
theorem dl_251 : decode cL_law 251 = .ok (.aload_n 0, 1) := by decide +kernel
theorem dl_252 : decode cL_law 252 = .ok (.iload 4, 2) := by decide +kernel
theorem dl_254 : decode cL_law 254 = .ok (.iconst 1, 1) := by decide +kernel
theorem dl_255 : decode cL_law 255 = .ok (.iadd, 1) := by decide +kernel
theorem dl_256 : decode cL_law 256 = .ok (.iaload, 1) := by decide +kernel
theorem dl_257 : decode cL_law 257 = .ok (.aload_n 3, 1) := by decide +kernel
theorem dl_258 : decode cL_law 258 = .ok (.invokestatic 62, 3) := by decide +kernel
theorem dl_261 : decode cL_law 261 = .ok (.istore 5, 2) := by decide +kernel
theorem dl_263 : decode cL_law 263 = .ok (.aload_n 2, 1) := by decide +kernel
theorem dl_264 : decode cL_law 264 = .ok (.aload_n 0, 1) := by decide +kernel
theorem dl_265 : decode cL_law 265 = .ok (.iload 4, 2) := by decide +kernel
theorem dl_267 : decode cL_law 267 = .ok (.iconst 1, 1) := by decide +kernel
theorem dl_268 : decode cL_law 268 = .ok (.iadd, 1) := by decide +kernel
theorem dl_269 : decode cL_law 269 = .ok (.iaload, 1) := by decide +kernel
theorem dl_270 : decode cL_law 270 = .ok (.invokevirtual 64, 3) := by decide +kernel
theorem dl_273 : decode cL_law 273 = .ok (.istore 6, 2) := by decide +kernel
theorem dl_275 : decode cL_law 275 = .ok (.aload_n 2, 1) := by decide +kernel
theorem dl_276 : decode cL_law 276 = .ok (.invokevirtual 65, 3) := by decide +kernel
theorem dl_279 : decode cL_law 279 = .ok (.iload 5, 2) := by decide +kernel
theorem dl_281 : decode cL_law 281 = .ok (.if_icmp .eq 5, 3) := by decide +kernel
theorem dl_286 : decode cL_law 286 = .ok (.iload 5, 2) := by decide +kernel
theorem dl_288 : decode cL_law 288 = .ok (.ifCond .ne 15, 3) := by decide +kernel
theorem dl_291 : decode cL_law 291 = .ok (.aload_n 3, 1) := by decide +kernel
theorem dl_292 : decode cL_law 292 = .ok (.iconst 0, 1) := by decide +kernel
theorem dl_293 : decode cL_law 293 = .ok (.laload, 1) := by decide +kernel
theorem dl_294 : decode cL_law 294 = .ok (.iload 6, 2) := by decide +kernel
theorem dl_296 : decode cL_law 296 = .ok (.i2l, 1) := by decide +kernel
theorem dl_297 : decode cL_law 297 = .ok (.lcmp, 1) := by decide +kernel
theorem dl_298 : decode cL_law 298 = .ok (.ifCond .eq 5, 3) := by decide +kernel
theorem dl_303 : decode cL_law 303 = .ok (.goto 506, 3) := by decide +kernel
theorem dl_306 : decode cL_law 306 = .ok (.aload_n 1, 1) := by decide +kernel
theorem dl_307 : decode cL_law 307 = .ok (.aload_n 0, 1) := by decide +kernel
theorem dl_308 : decode cL_law 308 = .ok (.iload 4, 2) := by decide +kernel
theorem dl_310 : decode cL_law 310 = .ok (.iconst 1, 1) := by decide +kernel
theorem dl_311 : decode cL_law 311 = .ok (.iadd, 1) := by decide +kernel
theorem dl_312 : decode cL_law 312 = .ok (.iaload, 1) := by decide +kernel
theorem dl_313 : decode cL_law 313 = .ok (.aload_n 0, 1) := by decide +kernel
theorem dl_314 : decode cL_law 314 = .ok (.iload 4, 2) := by decide +kernel
theorem dl_316 : decode cL_law 316 = .ok (.iconst 2, 1) := by decide +kernel
theorem dl_317 : decode cL_law 317 = .ok (.iadd, 1) := by decide +kernel
theorem dl_318 : decode cL_law 318 = .ok (.iaload, 1) := by decide +kernel
theorem dl_319 : decode cL_law 319 = .ok (.aload_n 3, 1) := by decide +kernel
theorem dl_320 : decode cL_law 320 = .ok (.invokestatic 68, 3) := by decide +kernel
theorem dl_323 : decode cL_law 323 = .ok (.istore 5, 2) := by decide +kernel
theorem dl_325 : decode cL_law 325 = .ok (.aload_n 2, 1) := by decide +kernel
theorem dl_326 : decode cL_law 326 = .ok (.aload_n 0, 1) := by decide +kernel
theorem dl_327 : decode cL_law 327 = .ok (.iload 4, 2) := by decide +kernel
theorem dl_329 : decode cL_law 329 = .ok (.iconst 1, 1) := by decide +kernel
theorem dl_330 : decode cL_law 330 = .ok (.iadd, 1) := by decide +kernel
theorem dl_331 : decode cL_law 331 = .ok (.iaload, 1) := by decide +kernel
theorem dl_332 : decode cL_law 332 = .ok (.aload_n 0, 1) := by decide +kernel
theorem dl_333 : decode cL_law 333 = .ok (.iload 4, 2) := by decide +kernel
theorem dl_335 : decode cL_law 335 = .ok (.iconst 2, 1) := by decide +kernel
theorem dl_336 : decode cL_law 336 = .ok (.iadd, 1) := by decide +kernel
theorem dl_337 : decode cL_law 337 = .ok (.iaload, 1) := by decide +kernel
theorem dl_338 : decode cL_law 338 = .ok (.invokevirtual 71, 3) := by decide +kernel
theorem dl_341 : decode cL_law 341 = .ok (.istore 6, 2) := by decide +kernel
theorem dl_343 : decode cL_law 343 = .ok (.goto 466, 3) := by decide +kernel
theorem dl_346 : decode cL_law 346 = .ok (.aload_n 1, 1) := by decide +kernel
theorem dl_347 : decode cL_law 347 = .ok (.aload_n 0, 1) := by decide +kernel
theorem dl_348 : decode cL_law 348 = .ok (.iload 4, 2) := by decide +kernel
theorem dl_350 : decode cL_law 350 = .ok (.iconst 1, 1) := by decide +kernel
theorem dl_351 : decode cL_law 351 = .ok (.iadd, 1) := by decide +kernel
theorem dl_352 : decode cL_law 352 = .ok (.iaload, 1) := by decide +kernel
theorem dl_353 : decode cL_law 353 = .ok (.invokevirtual 72, 3) := by decide +kernel
theorem dl_356 : decode cL_law 356 = .ok (.pop2, 1) := by decide +kernel
theorem dl_357 : decode cL_law 357 = .ok (.aload_n 2, 1) := by decide +kernel
theorem dl_358 : decode cL_law 358 = .ok (.aload_n 0, 1) := by decide +kernel
theorem dl_359 : decode cL_law 359 = .ok (.iload 4, 2) := by decide +kernel
theorem dl_361 : decode cL_law 361 = .ok (.iconst 1, 1) := by decide +kernel
theorem dl_362 : decode cL_law 362 = .ok (.iadd, 1) := by decide +kernel
theorem dl_363 : decode cL_law 363 = .ok (.iaload, 1) := by decide +kernel
theorem dl_364 : decode cL_law 364 = .ok (.invokevirtual 76, 3) := by decide +kernel
theorem dl_367 : decode cL_law 367 = .ok (.pop2, 1) := by decide +kernel
theorem dl_368 : decode cL_law 368 = .ok (.goto 441, 3) := by decide +kernel
theorem dl_371 : decode cL_law 371 = .ok (.aload_n 1, 1) := by decide +kernel
theorem dl_372 : decode cL_law 372 = .ok (.aload_n 0, 1) := by decide +kernel
theorem dl_373 : decode cL_law 373 = .ok (.iload 4, 2) := by decide +kernel
theorem dl_375 : decode cL_law 375 = .ok (.iconst 1, 1) := by decide +kernel
theorem dl_376 : decode cL_law 376 = .ok (.iadd, 1) := by decide +kernel
theorem dl_377 : decode cL_law 377 = .ok (.iaload, 1) := by decide +kernel
theorem dl_378 : decode cL_law 378 = .ok (.aload_n 0, 1) := by decide +kernel
theorem dl_379 : decode cL_law 379 = .ok (.iload 4, 2) := by decide +kernel
theorem dl_381 : decode cL_law 381 = .ok (.iconst 2, 1) := by decide +kernel
theorem dl_382 : decode cL_law 382 = .ok (.iadd, 1) := by decide +kernel
theorem dl_383 : decode cL_law 383 = .ok (.iaload, 1) := by decide +kernel
theorem dl_384 : decode cL_law 384 = .ok (.invokevirtual 77, 3) := by decide +kernel
theorem dl_387 : decode cL_law 387 = .ok (.pop, 1) := by decide +kernel
theorem dl_388 : decode cL_law 388 = .ok (.aload_n 2, 1) := by decide +kernel
theorem dl_389 : decode cL_law 389 = .ok (.aload_n 0, 1) := by decide +kernel
theorem dl_390 : decode cL_law 390 = .ok (.iload 4, 2) := by decide +kernel
theorem dl_392 : decode cL_law 392 = .ok (.iconst 1, 1) := by decide +kernel
theorem dl_393 : decode cL_law 393 = .ok (.iadd, 1) := by decide +kernel
theorem dl_394 : decode cL_law 394 = .ok (.iaload, 1) := by decide +kernel
theorem dl_395 : decode cL_law 395 = .ok (.aload_n 0, 1) := by decide +kernel
theorem dl_396 : decode cL_law 396 = .ok (.iload 4, 2) := by decide +kernel
theorem dl_398 : decode cL_law 398 = .ok (.iconst 2, 1) := by decide +kernel
theorem dl_399 : decode cL_law 399 = .ok (.iadd, 1) := by decide +kernel
theorem dl_400 : decode cL_law 400 = .ok (.iaload, 1) := by decide +kernel
theorem dl_401 : decode cL_law 401 = .ok (.invokevirtual 80, 3) := by decide +kernel
theorem dl_404 : decode cL_law 404 = .ok (.pop, 1) := by decide +kernel
theorem dl_405 : decode cL_law 405 = .ok (.goto 404, 3) := by decide +kernel
section LWD
variable {p : Program} {l : Launch} {e : Env} {s : State} {m : MethodId} {below : List Frame} {meth : Method} {c : Code} {A : Nat → Prop} {b L : Nat} {xs : Nat → Int32} {D : va_G} {g : xe_G} {x m0 qo : Nat} {aO : ClassId} {q : Nat → Nat} {kr : rR} {Ic : rI} {Rc : rR}
variable {cc : GH} {fed P cells slots : Nat} {fo : Nat → Int64} {H : Heap} {locs : List Loc} {ls : Array Slot} {Q : State → Prop} {i : Int32}

set_option maxHeartbeats 4000000 in
set_option maxRecDepth 100000 in
theorem law_4ok (hx : p.tables.exec = Jvm.exec) (hb : c.code = cL_law) (hml : c.maxLocals = 7) (hown : s.vm.findClass RL = some m.cls) (htb : ∀ w ∈ bg, w.before #[Value.ref b] s = true) (hA : ∀ q : Nat, s.heap.size ≤ q → A q) (hE : xe_E g A s s.heap) (hnt : l.stackTraces = false) (hX : va_X b L xs s s.heap) (hbl : b < s.heap.size) (hbA : ¬ A b) (hKo : va_K D vwCl [(aO, .long)] s) (hAo : A qo) (hi1 : vp_in (i + 1) L) (hi2 : vp_in (i + 2) L) (hi3 : vp_in (i + 3) L) (hi4 : vp_in (i + 4) L) (hi5 : vp_in (i + 5) L) (h3 : L3 g D A s x m0 q kr Ic Rc qo aO mT1 cc cc fed P fo H) (hq0 : ¬ xs (Int32.toNatClampNeg (i + 1)) < 0) (hq1 : xs (Int32.toNatClampNeg (i + 1)) ≤ 15) (hS : va_S A s.heap H locs) (hl : lv_has ls 7 [(0, .ref b), (1, .ref x), (2, .ref m0), (3, .ref qo), (4, .int i)]) (hc : cells + 320026 ≤ 601024) (hs : slots + 320064 + 40 * fed ≤ 7293034)
    (kk : ∀ (P1 : Nat) (cc1 : GH) (fo1 : Nat → Int64) (H1 : Heap) (locs1 : List Loc) (ls1 : Array Slot), P ≤ P1 → L3 g D A s x m0 q kr Ic Rc qo aO mT1 cc1 cc1 fed P1 fo1 H1 → va_S A s.heap H1 locs1 → lv_has ls1 7 [(0, .ref b), (1, .ref x), (2, .ref m0), (3, .ref qo), (4, .int i)] → W p l e room_1 s m #[Value.ref b] below meth c H1 locs1 (cells + (P1 - P) + 26) (slots + (P1 - P) + (64 + 40 * fed)) Q (F0 m 809 ls1 [])) :
    W p l e room_1 s m #[Value.ref b] below meth c H locs cells slots Q (F0 m 250 ls []) := by
  have hpt := h3.pot
  refine lv_aload_n hx hb dl_250 rfl (lv_at hl 1 rfl) ?_
  refine lv_aload_n hx hb dl_251 rfl (lv_at hl 0 rfl) ?_
  refine lv_iload hx hb dl_252 (lv_at hl 4 rfl) ?_
  refine lv_iconst (v := 1) hx hb dl_254 (by decide) ?_
  refine lv_iadd hx hb dl_255 ?_
  refine va_sld hx hb hX hbl hbA hS hi1 dl_256 ?_
  refine lv_aload_n hx hb dl_257 rfl (lv_at hl 3 rfl) ?_
  refine lc_hlp (n := 3) (av := [.ref x, .int (xs (Int32.toNatClampNeg (i + 1))), .ref qo]) (yh := yL_count) (bytes := cL_count) (maxL := 4) (hh := [(0, 9, 12, 19)]) (S := 64 + 40 * fed) hx hb hml hown htb hA hE bg_1383 bg_1384 bg_1362 bg_1331 ⟨by decide, by decide, by decide +kernel⟩ (by decide) dl_258 rfl rfl h3 hS hl.1 hKo hAo (fun M hG => hp_count_ok l D g hnt hG hq0 hq1) (by omega) (by omega) (fun r P1 fo1 H locs hV hP1 h3 hS => ?_)
  have hpt := h3.pot
  obtain ⟨rfl, hfo⟩ := hV
  refine lv_istore (lv' := [(5, .int 0), (0, .ref b), (1, .ref x), (2, .ref m0), (3, .ref qo), (4, .int i)]) hx hb dl_261 hl (by decide) rfl (fun ls hl => ?_)
  refine lv_aload_n hx hb dl_263 rfl (lv_at hl 3 rfl) ?_
  refine lv_aload_n hx hb dl_264 rfl (lv_at hl 1 rfl) ?_
  refine lv_iload hx hb dl_265 (lv_at hl 5 rfl) ?_
  refine lv_iconst (v := 1) hx hb dl_267 (by decide) ?_
  refine lv_iadd hx hb dl_268 ?_
  refine va_sld hx hb hX hbl hbA hS hi1 dl_269 ?_
  refine lc_ref (rest := []) (n := 1) (y := 198) (qm := (yX12_count, cX12_count, 4, (some .int))) (As := [.int (xs (Int32.toNatClampNeg (i + 1)))]) (V := fun v => v = some (.int (cnK cc.2.2.2.2.2 (xs (Int32.toNatClampNeg (i + 1)))))) (X' := fun M => ∃ I R, RS g m0 q M.2 I R M ∧ I 0 = some 0) (cr' := cc) (Nat.le_of_ble_eq_true rfl) hx hb hml hown htb hA hE rfl bg_1385 bg_1386 bg_1387 bg_974 bg_1202 ⟨by decide, by decide, by decide +kernel⟩ (by decide) dl_270 rfl rfl h3 hS hl.1 (fun M hR _ => (rx_count_ok hR hq0 hq1 (by decide)).imp (fun v M' h => ⟨h.1, h.2.1, by obtain ⟨I, R, k1, k2⟩ := h.2.2; exact ⟨I, R, by rw [k1.2.2.2.2.1]; exact k1, k2⟩⟩)) (by omega) (by omega) (fun v H locs hV h3 hS => ?_)
  subst hV
  refine lv_istore (lv' := [(6, .int (cnK cc.2.2.2.2.2 (xs (Int32.toNatClampNeg (i + 1))))), (5, .int 0), (0, .ref b), (1, .ref x), (2, .ref m0), (3, .ref qo), (4, .int i)]) hx hb dl_273 hl (by decide) rfl (fun ls hl => ?_)
  refine lv_aload_n hx hb dl_275 rfl (lv_at hl 4 rfl) ?_
  refine lc_ref (rest := []) (n := 0) (y := 248) (qm := (yX12_thrown, cX12_thrown, 1, (some .int))) (As := []) (V := fun v => v = some (.int 0)) (X' := mT1) (cr' := cc) (Nat.le_of_ble_eq_true rfl) hx hb hml hown htb hA hE rfl bg_1388 bg_1389 bg_1390 bg_974 bg_919 ⟨by decide, by decide, by decide +kernel⟩ (by decide) dl_276 rfl rfl h3 hS hl.1 (fun M hR hX0 => by obtain ⟨I, R, k1, k2⟩ := hX0; exact (rm_thrown k1 k2 (by decide)).imp (fun v M' h => ⟨h.1, by rw [h.2]; exact hR, trivial⟩)) (by omega) (by omega) (fun v H locs hV h3 hS => ?_)
  subst hV
  refine lv_iload hx hb dl_279 (lv_at hl 1 rfl) ?_
  refine lv_icmp_eq (tgt := 286) hx hb dl_281 (by decide) (fun _ => ?_) (fun c9 => absurd rfl c9)
  refine lv_iload hx hb dl_286 (lv_at hl 1 rfl) ?_
  refine lv_if_ne (tgt := 303) hx hb dl_288 (by decide) (fun c9 => absurd rfl c9) (fun _ => ?_)
  refine lv_aload_n hx hb dl_291 rfl (lv_at hl 5 rfl) ?_
  refine lv_iconst (v := 0) hx hb dl_292 (by decide) ?_
  have ho := h3.out
  refine va_lald hx hb hKo ho 0 0 rfl rfl (by unfold vp_in; decide) dl_293 ?_
  refine lv_iload hx hb dl_294 (lv_at hl 0 rfl) ?_
  refine lv_i2l (v := Int32.toInt64 ((cnK cc.2.2.2.2.2 (xs (Int32.toNatClampNeg (i + 1)))))) hx hb dl_296 rfl ?_
  refine W.lcmp hx hb dl_297 ?_
  refine lv_if_eq (tgt := 303) hx hb dl_298 (by decide) (fun _ => ?_) (fun c9 => absurd (by rw [show fo1 (Int32.toNatClampNeg 0) = Int32.toInt64 ((cnK cc.2.2.2.2.2 (xs (Int32.toNatClampNeg (i + 1))))) from hfo]; exact lg_self _) c9)
  refine lv_goto (tgt := 809) hx hb dl_303 (by decide) ?_
  exact kk P1 _ _ H locs ls hP1 h3 hS (lv_sub hl [2, 3, 4, 5, 6] rfl)
set_option maxHeartbeats 4000000 in
set_option maxRecDepth 100000 in
theorem law_4no (hx : p.tables.exec = Jvm.exec) (hb : c.code = cL_law) (hml : c.maxLocals = 7) (hown : s.vm.findClass RL = some m.cls) (htb : ∀ w ∈ bg, w.before #[Value.ref b] s = true) (hA : ∀ q : Nat, s.heap.size ≤ q → A q) (hE : xe_E g A s s.heap) (hnt : l.stackTraces = false) (hX : va_X b L xs s s.heap) (hbl : b < s.heap.size) (hbA : ¬ A b) (hKo : va_K D vwCl [(aO, .long)] s) (hAo : A qo) (hi1 : vp_in (i + 1) L) (hi2 : vp_in (i + 2) L) (hi3 : vp_in (i + 3) L) (hi4 : vp_in (i + 4) L) (hi5 : vp_in (i + 5) L) (h3 : L3 g D A s x m0 q kr Ic Rc qo aO mT1 cc cc fed P fo H) (hbad : xs (Int32.toNatClampNeg (i + 1)) < 0 ∨ ¬ xs (Int32.toNatClampNeg (i + 1)) ≤ 15) (hS : va_S A s.heap H locs) (hl : lv_has ls 7 [(0, .ref b), (1, .ref x), (2, .ref m0), (3, .ref qo), (4, .int i)]) (hc : cells + 320026 ≤ 601024) (hs : slots + 320064 + 40 * fed ≤ 7293034)
    (kk : ∀ (P1 : Nat) (cc1 : GH) (fo1 : Nat → Int64) (H1 : Heap) (locs1 : List Loc) (ls1 : Array Slot), P ≤ P1 → L3 g D A s x m0 q kr Ic Rc qo aO mT1 cc1 cc1 fed P1 fo1 H1 → va_S A s.heap H1 locs1 → lv_has ls1 7 [(0, .ref b), (1, .ref x), (2, .ref m0), (3, .ref qo), (4, .int i)] → W p l e room_1 s m #[Value.ref b] below meth c H1 locs1 (cells + (P1 - P) + 26) (slots + (P1 - P) + (64 + 40 * fed)) Q (F0 m 809 ls1 [])) :
    W p l e room_1 s m #[Value.ref b] below meth c H locs cells slots Q (F0 m 250 ls []) := by
  have hpt := h3.pot
  refine lv_aload_n hx hb dl_250 rfl (lv_at hl 1 rfl) ?_
  refine lv_aload_n hx hb dl_251 rfl (lv_at hl 0 rfl) ?_
  refine lv_iload hx hb dl_252 (lv_at hl 4 rfl) ?_
  refine lv_iconst (v := 1) hx hb dl_254 (by decide) ?_
  refine lv_iadd hx hb dl_255 ?_
  refine va_sld hx hb hX hbl hbA hS hi1 dl_256 ?_
  refine lv_aload_n hx hb dl_257 rfl (lv_at hl 3 rfl) ?_
  refine lc_hlp (n := 3) (av := [.ref x, .int (xs (Int32.toNatClampNeg (i + 1))), .ref qo]) (yh := yL_count) (bytes := cL_count) (maxL := 4) (hh := [(0, 9, 12, 19)]) (S := 64 + 40 * fed) hx hb hml hown htb hA hE bg_1383 bg_1384 bg_1362 bg_1331 ⟨by decide, by decide, by decide +kernel⟩ (by decide) dl_258 rfl rfl h3 hS hl.1 hKo hAo (fun M hG => hp_count_no l D g hnt hG hbad) (by omega) (by omega) (fun r P1 fo1 H locs hV hP1 h3 hS => ?_)
  have hpt := h3.pot
  subst hV
  refine lv_istore (lv' := [(5, .int 1), (0, .ref b), (1, .ref x), (2, .ref m0), (3, .ref qo), (4, .int i)]) hx hb dl_261 hl (by decide) rfl (fun ls hl => ?_)
  refine lv_aload_n hx hb dl_263 rfl (lv_at hl 3 rfl) ?_
  refine lv_aload_n hx hb dl_264 rfl (lv_at hl 1 rfl) ?_
  refine lv_iload hx hb dl_265 (lv_at hl 5 rfl) ?_
  refine lv_iconst (v := 1) hx hb dl_267 (by decide) ?_
  refine lv_iadd hx hb dl_268 ?_
  refine va_sld hx hb hX hbl hbA hS hi1 dl_269 ?_
  refine lc_ref (rest := []) (n := 1) (y := 198) (qm := (yX12_count, cX12_count, 4, (some .int))) (As := [.int (xs (Int32.toNatClampNeg (i + 1)))]) (V := fun v => ∃ y : Int32, v = some (.int y)) (X' := fun M => ∃ I R, RS g m0 q M.2 I R M ∧ I 0 = some 1) (cr' := cc) (Nat.le_of_ble_eq_true rfl) hx hb hml hown htb hA hE rfl bg_1385 bg_1386 bg_1387 bg_974 bg_1202 ⟨by decide, by decide, by decide +kernel⟩ (by decide) dl_270 rfl rfl h3 hS hl.1 (fun M hR _ => (rx_count_no hR hbad (by decide)).imp (fun v M' h => ⟨h.1, h.2.1, by obtain ⟨I, R, k1, k2⟩ := h.2.2; exact ⟨I, R, by rw [k1.2.2.2.2.1]; exact k1, k2⟩⟩)) (by omega) (by omega) (fun v H locs hV h3 hS => ?_)
  obtain ⟨y2, rfl⟩ := hV
  refine lv_istore (lv' := [(6, .int y2), (5, .int 1), (0, .ref b), (1, .ref x), (2, .ref m0), (3, .ref qo), (4, .int i)]) hx hb dl_273 hl (by decide) rfl (fun ls hl => ?_)
  refine lv_aload_n hx hb dl_275 rfl (lv_at hl 4 rfl) ?_
  refine lc_ref (rest := []) (n := 0) (y := 248) (qm := (yX12_thrown, cX12_thrown, 1, (some .int))) (As := []) (V := fun v => v = some (.int 1)) (X' := mT1) (cr' := cc) (Nat.le_of_ble_eq_true rfl) hx hb hml hown htb hA hE rfl bg_1388 bg_1389 bg_1390 bg_974 bg_919 ⟨by decide, by decide, by decide +kernel⟩ (by decide) dl_276 rfl rfl h3 hS hl.1 (fun M hR hX0 => by obtain ⟨I, R, k1, k2⟩ := hX0; exact (rm_thrown k1 k2 (by decide)).imp (fun v M' h => ⟨h.1, by rw [h.2]; exact hR, trivial⟩)) (by omega) (by omega) (fun v H locs hV h3 hS => ?_)
  subst hV
  refine lv_iload hx hb dl_279 (lv_at hl 1 rfl) ?_
  refine lv_icmp_eq (tgt := 286) hx hb dl_281 (by decide) (fun _ => ?_) (fun c9 => absurd rfl c9)
  refine lv_iload hx hb dl_286 (lv_at hl 1 rfl) ?_
  refine lv_if_ne (tgt := 303) hx hb dl_288 (by decide) (fun _ => ?_) (fun c9 => absurd c9 (by decide))
  refine lv_goto (tgt := 809) hx hb dl_303 (by decide) ?_
  exact kk P1 _ _ H locs ls hP1 h3 hS (lv_sub hl [2, 3, 4, 5, 6] rfl)
set_option maxHeartbeats 4000000 in
set_option maxRecDepth 100000 in
theorem law_5 (hx : p.tables.exec = Jvm.exec) (hb : c.code = cL_law) (hml : c.maxLocals = 7) (hown : s.vm.findClass RL = some m.cls) (htb : ∀ w ∈ bg, w.before #[Value.ref b] s = true) (hA : ∀ q : Nat, s.heap.size ≤ q → A q) (hE : xe_E g A s s.heap) (hnt : l.stackTraces = false) (hX : va_X b L xs s s.heap) (hbl : b < s.heap.size) (hbA : ¬ A b) (hKo : va_K D vwCl [(aO, .long)] s) (hAo : A qo) (hi1 : vp_in (i + 1) L) (hi2 : vp_in (i + 2) L) (hi3 : vp_in (i + 3) L) (hi4 : vp_in (i + 4) L) (hi5 : vp_in (i + 5) L) (h3 : L3 g D A s x m0 q kr Ic Rc qo aO mT1 cc cc fed P fo H) (hS : va_S A s.heap H locs) (hl : lv_has ls 7 [(0, .ref b), (1, .ref x), (2, .ref m0), (3, .ref qo), (4, .int i)]) (hc : cells + 320026 ≤ 601024) (hs : slots + 320064 + 40 * fed ≤ 7293034)
    (kk : ∀ (P1 : Nat) (cc1 : GH) (fo1 : Nat → Int64) (H1 : Heap) (locs1 : List Loc) (ls1 : Array Slot), P ≤ P1 → L3 g D A s x m0 q kr Ic Rc qo aO mT1 cc1 cc1 fed P1 fo1 H1 → va_S A s.heap H1 locs1 → lv_has ls1 7 [(0, .ref b), (1, .ref x), (2, .ref m0), (3, .ref qo), (4, .int i)] → W p l e room_1 s m #[Value.ref b] below meth c H1 locs1 (cells + (P1 - P) + 26) (slots + (P1 - P) + (64 + 40 * fed)) Q (F0 m 809 ls1 [])) :
    W p l e room_1 s m #[Value.ref b] below meth c H locs cells slots Q (F0 m 306 ls []) := by
  have hpt := h3.pot
  refine lv_aload_n hx hb dl_306 rfl (lv_at hl 1 rfl) ?_
  refine lv_aload_n hx hb dl_307 rfl (lv_at hl 0 rfl) ?_
  refine lv_iload hx hb dl_308 (lv_at hl 4 rfl) ?_
  refine lv_iconst (v := 1) hx hb dl_310 (by decide) ?_
  refine lv_iadd hx hb dl_311 ?_
  refine va_sld hx hb hX hbl hbA hS hi1 dl_312 ?_
  refine lv_aload_n hx hb dl_313 rfl (lv_at hl 0 rfl) ?_
  refine lv_iload hx hb dl_314 (lv_at hl 4 rfl) ?_
  refine lv_iconst (v := 2) hx hb dl_316 (by decide) ?_
  refine lv_iadd hx hb dl_317 ?_
  refine va_sld hx hb hX hbl hbA hS hi2 dl_318 ?_
  refine lv_aload_n hx hb dl_319 rfl (lv_at hl 3 rfl) ?_
  refine lc_hlp (n := 4) (av := [.ref x, .int (xs (Int32.toNatClampNeg (i + 1))), .int (xs (Int32.toNatClampNeg (i + 2))), .ref qo]) (yh := yL_entry) (bytes := cL_entry) (maxL := 5) (hh := [(0, 10, 13, 19)]) (S := 64 + 40 * fed) hx hb hml hown htb hA hE bg_1391 bg_1392 bg_1362 bg_1335 ⟨by decide, by decide, by decide +kernel⟩ (by decide) dl_320 rfl rfl h3 hS hl.1 hKo hAo (fun M hG => hp_entry l D g hnt hG) (by omega) (by omega) (fun r P1 fo1 H locs hV hP1 h3 hS => ?_)
  have hpt := h3.pot
  refine lv_istore (lv' := [(5, .int r), (0, .ref b), (1, .ref x), (2, .ref m0), (3, .ref qo), (4, .int i)]) hx hb dl_323 hl (by decide) rfl (fun ls hl => ?_)
  refine lv_aload_n hx hb dl_325 rfl (lv_at hl 3 rfl) ?_
  refine lv_aload_n hx hb dl_326 rfl (lv_at hl 1 rfl) ?_
  refine lv_iload hx hb dl_327 (lv_at hl 5 rfl) ?_
  refine lv_iconst (v := 1) hx hb dl_329 (by decide) ?_
  refine lv_iadd hx hb dl_330 ?_
  refine va_sld hx hb hX hbl hbA hS hi1 dl_331 ?_
  refine lv_aload_n hx hb dl_332 rfl (lv_at hl 1 rfl) ?_
  refine lv_iload hx hb dl_333 (lv_at hl 5 rfl) ?_
  refine lv_iconst (v := 2) hx hb dl_335 (by decide) ?_
  refine lv_iadd hx hb dl_336 ?_
  refine va_sld hx hb hX hbl hbA hS hi2 dl_337 ?_
  refine lc_ref (rest := []) (n := 2) (y := 204) (qm := (yX12_entry, cX12_entry, 4, (some .int))) (As := [.int (xs (Int32.toNatClampNeg (i + 1))), .int (xs (Int32.toNatClampNeg (i + 2)))]) (V := fun v => ∃ y : Int32, v = some (.int y)) (X' := mT1) (cr' := cc) (Nat.le_of_ble_eq_true rfl) hx hb hml hown htb hA hE rfl bg_1393 bg_1394 bg_1395 bg_974 bg_1203 ⟨by decide, by decide, by decide +kernel⟩ (by decide) dl_338 rfl rfl h3 hS hl.1 (fun M hR _ => (rx_entry hR (by decide)).imp (fun v M' h => ⟨h.1, h.2, trivial⟩)) (by omega) (by omega) (fun v H locs hV h3 hS => ?_)
  obtain ⟨y2, rfl⟩ := hV
  refine lv_istore (lv' := [(6, .int y2), (5, .int r), (0, .ref b), (1, .ref x), (2, .ref m0), (3, .ref qo), (4, .int i)]) hx hb dl_341 hl (by decide) rfl (fun ls hl => ?_)
  refine lv_goto (tgt := 809) hx hb dl_343 (by decide) ?_
  exact kk P1 _ _ H locs ls hP1 h3 hS (lv_sub hl [2, 3, 4, 5, 6] rfl)
set_option maxHeartbeats 4000000 in
set_option maxRecDepth 100000 in
theorem law_6 (hx : p.tables.exec = Jvm.exec) (hb : c.code = cL_law) (hml : c.maxLocals = 7) (hown : s.vm.findClass RL = some m.cls) (htb : ∀ w ∈ bg, w.before #[Value.ref b] s = true) (hA : ∀ q : Nat, s.heap.size ≤ q → A q) (hE : xe_E g A s s.heap) (hnt : l.stackTraces = false) (hX : va_X b L xs s s.heap) (hbl : b < s.heap.size) (hbA : ¬ A b) (hKo : va_K D vwCl [(aO, .long)] s) (hAo : A qo) (hi1 : vp_in (i + 1) L) (hi2 : vp_in (i + 2) L) (hi3 : vp_in (i + 3) L) (hi4 : vp_in (i + 4) L) (hi5 : vp_in (i + 5) L) (h3 : L3 g D A s x m0 q kr Ic Rc qo aO mT1 cc cc fed P fo H) (hS : va_S A s.heap H locs) (hl : lv_has ls 7 [(0, .ref b), (1, .ref x), (2, .ref m0), (3, .ref qo), (4, .int i)]) (hc : cells + 320026 ≤ 601024) (hs : slots + 320064 + 40 * fed ≤ 7293034)
    (kk : ∀ (P1 : Nat) (cc1 : GH) (fo1 : Nat → Int64) (H1 : Heap) (locs1 : List Loc) (ls1 : Array Slot), P ≤ P1 → L3 g D A s x m0 q kr Ic Rc qo aO mT1 cc1 cc1 fed P1 fo1 H1 → va_S A s.heap H1 locs1 → lv_has ls1 7 [(0, .ref b), (1, .ref x), (2, .ref m0), (3, .ref qo), (4, .int i)] → W p l e room_1 s m #[Value.ref b] below meth c H1 locs1 (cells + (P1 - P) + 26) (slots + (P1 - P) + (64 + 40 * fed)) Q (F0 m 809 ls1 [])) :
    W p l e room_1 s m #[Value.ref b] below meth c H locs cells slots Q (F0 m 346 ls []) := by
  have hpt := h3.pot
  refine lv_aload_n hx hb dl_346 rfl (lv_at hl 1 rfl) ?_
  refine lv_aload_n hx hb dl_347 rfl (lv_at hl 0 rfl) ?_
  refine lv_iload hx hb dl_348 (lv_at hl 4 rfl) ?_
  refine lv_iconst (v := 1) hx hb dl_350 (by decide) ?_
  refine lv_iadd hx hb dl_351 ?_
  refine va_sld hx hb hX hbl hbA hS hi1 dl_352 ?_
  refine lc_cls (n := 1) (y := 1) (qm := (yX11_bits, cX11_bits, 4, (some .long))) (As := [.int (xs (Int32.toNatClampNeg (i + 1)))]) (S := 64 + 40 * fed) (V := fun v => v = some (.long (biK cc.2.2.2.2.2 (xs (Int32.toNatClampNeg (i + 1)))))) hx hb hml hown htb hA hE rfl bg_1396 bg_1397 bg_1398 bg_774 bg_874 ⟨by decide, by decide, by decide +kernel⟩ (by decide) dl_353 rfl rfl h3 hS hl.1 (fun M hG => gx_bitsX hG (by decide)) (by omega) (by omega) (fun v P1 H locs hV hP1 h3 hS => ?_)
  have hpt := h3.pot
  subst hV
  refine lv_pop2_2 (va := .long (biK cc.2.2.2.2.2 (xs (Int32.toNatClampNeg (i + 1))))) hx hb dl_356 rfl ?_
  refine lv_aload_n hx hb dl_357 rfl (lv_at hl 2 rfl) ?_
  refine lv_aload_n hx hb dl_358 rfl (lv_at hl 0 rfl) ?_
  refine lv_iload hx hb dl_359 (lv_at hl 4 rfl) ?_
  refine lv_iconst (v := 1) hx hb dl_361 (by decide) ?_
  refine lv_iadd hx hb dl_362 ?_
  refine va_sld hx hb hX hbl hbA hS hi1 dl_363 ?_
  refine lc_ref (rest := []) (n := 1) (y := 183) (qm := (yX12_bits, cX12_bits, 3, (some .long))) (As := [.int (xs (Int32.toNatClampNeg (i + 1)))]) (V := fun v => v = some (.long (biK cc.2.2.2.2.2 (xs (Int32.toNatClampNeg (i + 1)))))) (X' := mT1) (cr' := cc) (Nat.le_of_ble_eq_true rfl) hx hb hml hown htb hA hE rfl bg_1399 bg_1400 bg_1401 bg_974 bg_1204 ⟨by decide, by decide, by decide +kernel⟩ (by decide) dl_364 rfl rfl h3 hS hl.1 (fun M hR _ => (rx_bitsX hR (by decide)).imp (fun v M' h => ⟨h.1, h.2, trivial⟩)) (by omega) (by omega) (fun v H locs hV h3 hS => ?_)
  subst hV
  refine lv_pop2_2 (va := .long (biK cc.2.2.2.2.2 (xs (Int32.toNatClampNeg (i + 1))))) hx hb dl_367 rfl ?_
  refine lv_goto (tgt := 809) hx hb dl_368 (by decide) ?_
  exact kk P1 _ _ H locs ls hP1 h3 hS (lv_sub hl [0, 1, 2, 3, 4] rfl)
set_option maxHeartbeats 4000000 in
set_option maxRecDepth 100000 in
theorem law_7 (hx : p.tables.exec = Jvm.exec) (hb : c.code = cL_law) (hml : c.maxLocals = 7) (hown : s.vm.findClass RL = some m.cls) (htb : ∀ w ∈ bg, w.before #[Value.ref b] s = true) (hA : ∀ q : Nat, s.heap.size ≤ q → A q) (hE : xe_E g A s s.heap) (hnt : l.stackTraces = false) (hX : va_X b L xs s s.heap) (hbl : b < s.heap.size) (hbA : ¬ A b) (hKo : va_K D vwCl [(aO, .long)] s) (hAo : A qo) (hi1 : vp_in (i + 1) L) (hi2 : vp_in (i + 2) L) (hi3 : vp_in (i + 3) L) (hi4 : vp_in (i + 4) L) (hi5 : vp_in (i + 5) L) (h3 : L3 g D A s x m0 q kr Ic Rc qo aO mT1 cc cc fed P fo H) (hS : va_S A s.heap H locs) (hl : lv_has ls 7 [(0, .ref b), (1, .ref x), (2, .ref m0), (3, .ref qo), (4, .int i)]) (hc : cells + 320026 ≤ 601024) (hs : slots + 320064 + 40 * fed ≤ 7293034)
    (kk : ∀ (P1 : Nat) (cc1 : GH) (fo1 : Nat → Int64) (H1 : Heap) (locs1 : List Loc) (ls1 : Array Slot), P ≤ P1 → L3 g D A s x m0 q kr Ic Rc qo aO mT1 cc1 cc1 fed P1 fo1 H1 → va_S A s.heap H1 locs1 → lv_has ls1 7 [(0, .ref b), (1, .ref x), (2, .ref m0), (3, .ref qo), (4, .int i)] → W p l e room_1 s m #[Value.ref b] below meth c H1 locs1 (cells + (P1 - P) + 26) (slots + (P1 - P) + (64 + 40 * fed)) Q (F0 m 809 ls1 [])) :
    W p l e room_1 s m #[Value.ref b] below meth c H locs cells slots Q (F0 m 371 ls []) := by
  have hpt := h3.pot
  refine lv_aload_n hx hb dl_371 rfl (lv_at hl 1 rfl) ?_
  refine lv_aload_n hx hb dl_372 rfl (lv_at hl 0 rfl) ?_
  refine lv_iload hx hb dl_373 (lv_at hl 4 rfl) ?_
  refine lv_iconst (v := 1) hx hb dl_375 (by decide) ?_
  refine lv_iadd hx hb dl_376 ?_
  refine va_sld hx hb hX hbl hbA hS hi1 dl_377 ?_
  refine lv_aload_n hx hb dl_378 rfl (lv_at hl 0 rfl) ?_
  refine lv_iload hx hb dl_379 (lv_at hl 4 rfl) ?_
  refine lv_iconst (v := 2) hx hb dl_381 (by decide) ?_
  refine lv_iadd hx hb dl_382 ?_
  refine va_sld hx hb hX hbl hbA hS hi2 dl_383 ?_
  refine lc_cls (n := 2) (y := 3) (qm := (yX11_character, cX11_character, 3, (some .int))) (As := [.int (xs (Int32.toNatClampNeg (i + 1))), .int (xs (Int32.toNatClampNeg (i + 2)))]) (S := 64 + 40 * fed) (V := fun v => v = some (.int (chK cc.2.2.2.2.2 (xs (Int32.toNatClampNeg (i + 1))) (xs (Int32.toNatClampNeg (i + 2)))))) hx hb hml hown htb hA hE rfl bg_1402 bg_1403 bg_1404 bg_774 bg_879 ⟨by decide, by decide, by decide +kernel⟩ (by decide) dl_384 rfl rfl h3 hS hl.1 (fun M hG => gx_character hG (by decide)) (by omega) (by omega) (fun v P1 H locs hV hP1 h3 hS => ?_)
  have hpt := h3.pot
  subst hV
  refine lv_pop (va := .int (chK cc.2.2.2.2.2 (xs (Int32.toNatClampNeg (i + 1))) (xs (Int32.toNatClampNeg (i + 2))))) hx hb dl_387 rfl ?_
  refine lv_aload_n hx hb dl_388 rfl (lv_at hl 2 rfl) ?_
  refine lv_aload_n hx hb dl_389 rfl (lv_at hl 0 rfl) ?_
  refine lv_iload hx hb dl_390 (lv_at hl 4 rfl) ?_
  refine lv_iconst (v := 1) hx hb dl_392 (by decide) ?_
  refine lv_iadd hx hb dl_393 ?_
  refine va_sld hx hb hX hbl hbA hS hi1 dl_394 ?_
  refine lv_aload_n hx hb dl_395 rfl (lv_at hl 0 rfl) ?_
  refine lv_iload hx hb dl_396 (lv_at hl 4 rfl) ?_
  refine lv_iconst (v := 2) hx hb dl_398 (by decide) ?_
  refine lv_iadd hx hb dl_399 ?_
  refine va_sld hx hb hX hbl hbA hS hi2 dl_400 ?_
  refine lc_ref (rest := []) (n := 2) (y := 186) (qm := (yX12_character, cX12_character, 3, (some .int))) (As := [.int (xs (Int32.toNatClampNeg (i + 1))), .int (xs (Int32.toNatClampNeg (i + 2)))]) (V := fun v => v = some (.int (chK cc.2.2.2.2.2 (xs (Int32.toNatClampNeg (i + 1))) (xs (Int32.toNatClampNeg (i + 2)))))) (X' := mT1) (cr' := cc) (Nat.le_of_ble_eq_true rfl) hx hb hml hown htb hA hE rfl bg_1405 bg_1406 bg_1407 bg_974 bg_1205 ⟨by decide, by decide, by decide +kernel⟩ (by decide) dl_401 rfl rfl h3 hS hl.1 (fun M hR _ => (rx_character hR (by decide)).imp (fun v M' h => ⟨h.1, h.2, trivial⟩)) (by omega) (by omega) (fun v H locs hV h3 hS => ?_)
  subst hV
  refine lv_pop (va := .int (chK cc.2.2.2.2.2 (xs (Int32.toNatClampNeg (i + 1))) (xs (Int32.toNatClampNeg (i + 2))))) hx hb dl_404 rfl ?_
  refine lv_goto (tgt := 809) hx hb dl_405 (by decide) ?_
  exact kk P1 _ _ H locs ls hP1 h3 hS (lv_sub hl [0, 1, 2, 3, 4] rfl)
end LWD
