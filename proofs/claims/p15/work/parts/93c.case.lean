/-! cases of the law (laid by wip/p2/c92.py) -/
theorem dl_250 : decode cL_law 250 = .ok (.aload_n 1, 1) := by decide +kernel
theorem dl_251 : decode cL_law 251 = .ok (.aload_n 0, 1) := by decide +kernel
theorem dl_252 : decode cL_law 252 = .ok (.iload 4, 2) := by decide +kernel
theorem dl_254 : decode cL_law 254 = .ok (.iconst 1, 1) := by decide +kernel
theorem dl_255 : decode cL_law 255 = .ok (.iadd, 1) := by decide +kernel
theorem dl_256 : decode cL_law 256 = .ok (.iaload, 1) := by decide +kernel
theorem dl_257 : decode cL_law 257 = .ok (.aload_n 3, 1) := by decide +kernel
theorem dl_258 : decode cL_law 258 = .ok (.invokestatic 62, 3) := by decide +kernel
theorem dl_261 : decode cL_law 261 = .ok (.istore 5, 2) := by decide +kernel
theorem dl_263 : decode cL_law 263 = .ok (.aload_n 2, 1) := by decide +kernel
theorem dl_264 : decode cL_law 264 = .ok (.aload_n 0, 1) := by decide +kernel
theorem dl_265 : decode cL_law 265 = .ok (.iload 4, 2) := by decide +kernel
theorem dl_267 : decode cL_law 267 = .ok (.iconst 1, 1) := by decide +kernel
theorem dl_268 : decode cL_law 268 = .ok (.iadd, 1) := by decide +kernel
theorem dl_269 : decode cL_law 269 = .ok (.iaload, 1) := by decide +kernel
theorem dl_270 : decode cL_law 270 = .ok (.invokevirtual 64, 3) := by decide +kernel
theorem dl_273 : decode cL_law 273 = .ok (.istore 6, 2) := by decide +kernel
theorem dl_275 : decode cL_law 275 = .ok (.goto 506, 3) := by decide +kernel
theorem dl_278 : decode cL_law 278 = .ok (.aload_n 1, 1) := by decide +kernel
theorem dl_279 : decode cL_law 279 = .ok (.aload_n 0, 1) := by decide +kernel
theorem dl_280 : decode cL_law 280 = .ok (.iload 4, 2) := by decide +kernel
theorem dl_282 : decode cL_law 282 = .ok (.iconst 1, 1) := by decide +kernel
theorem dl_283 : decode cL_law 283 = .ok (.iadd, 1) := by decide +kernel
theorem dl_284 : decode cL_law 284 = .ok (.iaload, 1) := by decide +kernel
theorem dl_285 : decode cL_law 285 = .ok (.aload_n 0, 1) := by decide +kernel
theorem dl_286 : decode cL_law 286 = .ok (.iload 4, 2) := by decide +kernel
theorem dl_288 : decode cL_law 288 = .ok (.iconst 2, 1) := by decide +kernel
theorem dl_289 : decode cL_law 289 = .ok (.iadd, 1) := by decide +kernel
theorem dl_290 : decode cL_law 290 = .ok (.iaload, 1) := by decide +kernel
theorem dl_291 : decode cL_law 291 = .ok (.aload_n 3, 1) := by decide +kernel
theorem dl_292 : decode cL_law 292 = .ok (.invokestatic 65, 3) := by decide +kernel
theorem dl_295 : decode cL_law 295 = .ok (.istore 5, 2) := by decide +kernel
theorem dl_297 : decode cL_law 297 = .ok (.aload_n 2, 1) := by decide +kernel
theorem dl_298 : decode cL_law 298 = .ok (.aload_n 0, 1) := by decide +kernel
theorem dl_299 : decode cL_law 299 = .ok (.iload 4, 2) := by decide +kernel
theorem dl_301 : decode cL_law 301 = .ok (.iconst 1, 1) := by decide +kernel
theorem dl_302 : decode cL_law 302 = .ok (.iadd, 1) := by decide +kernel
theorem dl_303 : decode cL_law 303 = .ok (.iaload, 1) := by decide +kernel
theorem dl_304 : decode cL_law 304 = .ok (.aload_n 0, 1) := by decide +kernel
theorem dl_305 : decode cL_law 305 = .ok (.iload 4, 2) := by decide +kernel
theorem dl_307 : decode cL_law 307 = .ok (.iconst 2, 1) := by decide +kernel
theorem dl_308 : decode cL_law 308 = .ok (.iadd, 1) := by decide +kernel
theorem dl_309 : decode cL_law 309 = .ok (.iaload, 1) := by decide +kernel
theorem dl_310 : decode cL_law 310 = .ok (.invokevirtual 68, 3) := by decide +kernel
theorem dl_313 : decode cL_law 313 = .ok (.istore 6, 2) := by decide +kernel
theorem dl_315 : decode cL_law 315 = .ok (.goto 466, 3) := by decide +kernel
theorem dl_318 : decode cL_law 318 = .ok (.aload_n 1, 1) := by decide +kernel
theorem dl_319 : decode cL_law 319 = .ok (.aload_n 0, 1) := by decide +kernel
theorem dl_320 : decode cL_law 320 = .ok (.iload 4, 2) := by decide +kernel
theorem dl_322 : decode cL_law 322 = .ok (.iconst 1, 1) := by decide +kernel
theorem dl_323 : decode cL_law 323 = .ok (.iadd, 1) := by decide +kernel
theorem dl_324 : decode cL_law 324 = .ok (.iaload, 1) := by decide +kernel
theorem dl_325 : decode cL_law 325 = .ok (.invokevirtual 69, 3) := by decide +kernel
theorem dl_328 : decode cL_law 328 = .ok (.pop2, 1) := by decide +kernel
theorem dl_329 : decode cL_law 329 = .ok (.aload_n 2, 1) := by decide +kernel
theorem dl_330 : decode cL_law 330 = .ok (.aload_n 0, 1) := by decide +kernel
theorem dl_331 : decode cL_law 331 = .ok (.iload 4, 2) := by decide +kernel
theorem dl_333 : decode cL_law 333 = .ok (.iconst 1, 1) := by decide +kernel
theorem dl_334 : decode cL_law 334 = .ok (.iadd, 1) := by decide +kernel
theorem dl_335 : decode cL_law 335 = .ok (.iaload, 1) := by decide +kernel
theorem dl_336 : decode cL_law 336 = .ok (.invokevirtual 73, 3) := by decide +kernel
theorem dl_339 : decode cL_law 339 = .ok (.pop2, 1) := by decide +kernel
theorem dl_340 : decode cL_law 340 = .ok (.goto 441, 3) := by decide +kernel
theorem dl_343 : decode cL_law 343 = .ok (.aload_n 1, 1) := by decide +kernel
theorem dl_344 : decode cL_law 344 = .ok (.aload_n 0, 1) := by decide +kernel
theorem dl_345 : decode cL_law 345 = .ok (.iload 4, 2) := by decide +kernel
theorem dl_347 : decode cL_law 347 = .ok (.iconst 1, 1) := by decide +kernel
theorem dl_348 : decode cL_law 348 = .ok (.iadd, 1) := by decide +kernel
theorem dl_349 : decode cL_law 349 = .ok (.iaload, 1) := by decide +kernel
theorem dl_350 : decode cL_law 350 = .ok (.aload_n 0, 1) := by decide +kernel
theorem dl_351 : decode cL_law 351 = .ok (.iload 4, 2) := by decide +kernel
theorem dl_353 : decode cL_law 353 = .ok (.iconst 2, 1) := by decide +kernel
theorem dl_354 : decode cL_law 354 = .ok (.iadd, 1) := by decide +kernel
theorem dl_355 : decode cL_law 355 = .ok (.iaload, 1) := by decide +kernel
theorem dl_356 : decode cL_law 356 = .ok (.invokevirtual 74, 3) := by decide +kernel
theorem dl_359 : decode cL_law 359 = .ok (.pop, 1) := by decide +kernel
theorem dl_360 : decode cL_law 360 = .ok (.aload_n 2, 1) := by decide +kernel
theorem dl_361 : decode cL_law 361 = .ok (.aload_n 0, 1) := by decide +kernel
theorem dl_362 : decode cL_law 362 = .ok (.iload 4, 2) := by decide +kernel
theorem dl_364 : decode cL_law 364 = .ok (.iconst 1, 1) := by decide +kernel
theorem dl_365 : decode cL_law 365 = .ok (.iadd, 1) := by decide +kernel
theorem dl_366 : decode cL_law 366 = .ok (.iaload, 1) := by decide +kernel
theorem dl_367 : decode cL_law 367 = .ok (.aload_n 0, 1) := by decide +kernel
theorem dl_368 : decode cL_law 368 = .ok (.iload 4, 2) := by decide +kernel
theorem dl_370 : decode cL_law 370 = .ok (.iconst 2, 1) := by decide +kernel
theorem dl_371 : decode cL_law 371 = .ok (.iadd, 1) := by decide +kernel
theorem dl_372 : decode cL_law 372 = .ok (.iaload, 1) := by decide +kernel
theorem dl_373 : decode cL_law 373 = .ok (.invokevirtual 77, 3) := by decide +kernel
theorem dl_376 : decode cL_law 376 = .ok (.pop, 1) := by decide +kernel
theorem dl_377 : decode cL_law 377 = .ok (.goto 404, 3) := by decide +kernel
section LWD
variable {p : Program} {l : Launch} {e : Env} {s : State} {m : MethodId} {below : List Frame} {meth : Method} {c : Code} {A : Nat → Prop} {b L : Nat} {xs : Nat → Int32} {D : va_G} {g : xe_G} {x m0 qo : Nat} {aO : ClassId} {q : Nat → Nat} {kr : rR} {Ic : rI} {Rc : rR}
variable {cc : GH} {fed P cells slots : Nat} {fo : Nat → Int64} {H : Heap} {locs : List Loc} {ls : Array Slot} {Q : State → Prop} {i : Int32}

set_option maxHeartbeats 4000000 in
set_option maxRecDepth 100000 in
theorem law_4 (hx : p.tables.exec = Jvm.exec) (hb : c.code = cL_law) (hml : c.maxLocals = 7) (hown : s.vm.findClass RL = some m.cls) (htb : ∀ w ∈ bg, w.before #[Value.ref b] s = true) (hA : ∀ q : Nat, s.heap.size ≤ q → A q) (hE : xe_E g A s s.heap) (hnt : l.stackTraces = false) (hX : va_X b L xs s s.heap) (hbl : b < s.heap.size) (hbA : ¬ A b) (hKo : va_K D vwCl [(aO, .long)] s) (hAo : A qo) (hi1 : vp_in (i + 1) L) (hi2 : vp_in (i + 2) L) (hi3 : vp_in (i + 3) L) (hi4 : vp_in (i + 4) L) (hi5 : vp_in (i + 5) L) (h3 : L3 g D A s x m0 q kr Ic Rc qo aO mT1 cc cc fed P fo H) (hS : va_S A s.heap H locs) (hl : lv_has ls 7 [(0, .ref b), (1, .ref x), (2, .ref m0), (3, .ref qo), (4, .int i)]) (hc : cells + 320026 ≤ 601024) (hs : slots + 320064 + 40 * fed ≤ 7293034)
    (kk : ∀ (P1 : Nat) (cc1 : GH) (fo1 : Nat → Int64) (H1 : Heap) (locs1 : List Loc) (ls1 : Array Slot), P ≤ P1 → L3 g D A s x m0 q kr Ic Rc qo aO mT1 cc1 cc1 fed P1 fo1 H1 → va_S A s.heap H1 locs1 → lv_has ls1 7 [(0, .ref b), (1, .ref x), (2, .ref m0), (3, .ref qo), (4, .int i)] → W p l e room_1 s m #[Value.ref b] below meth c H1 locs1 (cells + (P1 - P) + 26) (slots + (P1 - P) + (64 + 40 * fed)) Q (F0 m 781 ls1 [])) :
    W p l e room_1 s m #[Value.ref b] below meth c H locs cells slots Q (F0 m 250 ls []) := by
  have hpt := h3.pot
  refine lv_aload_n hx hb dl_250 rfl (lv_at hl 1 rfl) ?_
  refine lv_aload_n hx hb dl_251 rfl (lv_at hl 0 rfl) ?_
  refine lv_iload hx hb dl_252 (lv_at hl 4 rfl) ?_
  refine lv_iconst (v := 1) hx hb dl_254 (by decide) ?_
  refine lv_iadd hx hb dl_255 ?_
  refine va_sld hx hb hX hbl hbA hS hi1 dl_256 ?_
  refine lv_aload_n hx hb dl_257 rfl (lv_at hl 3 rfl) ?_
  refine lc_hlp (n := 3) (av := [.ref x, .int (xs (Int32.toNatClampNeg (i + 1))), .ref qo]) (yh := yL_count) (bytes := cL_count) (maxL := 4) (hh := [(0, 9, 12, 19)]) (S := 64 + 40 * fed) hx hb hml hown htb hA hE bg_1382 bg_1383 bg_1361 bg_1330 ⟨by decide, by decide, by decide +kernel⟩ (by decide) dl_258 rfl rfl h3 hS hl.1 hKo hAo (fun M hG => hp_count l D g hnt hG) (by omega) (by omega) (fun r P1 fo1 H locs hV hP1 h3 hS => ?_)
  have hpt := h3.pot
  refine lv_istore (lv' := [(5, .int r), (0, .ref b), (1, .ref x), (2, .ref m0), (3, .ref qo), (4, .int i)]) hx hb dl_261 hl (by decide) rfl (fun ls hl => ?_)
  refine lv_aload_n hx hb dl_263 rfl (lv_at hl 3 rfl) ?_
  refine lv_aload_n hx hb dl_264 rfl (lv_at hl 1 rfl) ?_
  refine lv_iload hx hb dl_265 (lv_at hl 5 rfl) ?_
  refine lv_iconst (v := 1) hx hb dl_267 (by decide) ?_
  refine lv_iadd hx hb dl_268 ?_
  refine va_sld hx hb hX hbl hbA hS hi1 dl_269 ?_
  refine lc_ref (rest := []) (n := 1) (y := 198) (qm := (yX12_count, cX12_count, 4, (some .int))) (As := [.int (xs (Int32.toNatClampNeg (i + 1)))]) (V := fun v => ∃ y : Int32, v = some (.int y)) (X' := mT1) (cr' := cc) (Nat.le_of_ble_eq_true rfl) hx hb hml hown htb hA hE rfl bg_1384 bg_1385 bg_1386 bg_972 bg_1201 ⟨by decide, by decide, by decide +kernel⟩ (by decide) dl_270 rfl rfl h3 hS hl.1 (fun M hR _ => (rx_count hR (by decide)).imp (fun v M' h => ⟨h.1, h.2, trivial⟩)) (by omega) (by omega) (fun v H locs hV h3 hS => ?_)
  obtain ⟨y2, rfl⟩ := hV
  refine lv_istore (lv' := [(6, .int y2), (5, .int r), (0, .ref b), (1, .ref x), (2, .ref m0), (3, .ref qo), (4, .int i)]) hx hb dl_273 hl (by decide) rfl (fun ls hl => ?_)
  refine lv_goto (tgt := 781) hx hb dl_275 (by decide) ?_
  exact kk P1 _ _ H locs ls hP1 h3 hS (lv_sub hl [2, 3, 4, 5, 6] rfl)
set_option maxHeartbeats 4000000 in
set_option maxRecDepth 100000 in
theorem law_5 (hx : p.tables.exec = Jvm.exec) (hb : c.code = cL_law) (hml : c.maxLocals = 7) (hown : s.vm.findClass RL = some m.cls) (htb : ∀ w ∈ bg, w.before #[Value.ref b] s = true) (hA : ∀ q : Nat, s.heap.size ≤ q → A q) (hE : xe_E g A s s.heap) (hnt : l.stackTraces = false) (hX : va_X b L xs s s.heap) (hbl : b < s.heap.size) (hbA : ¬ A b) (hKo : va_K D vwCl [(aO, .long)] s) (hAo : A qo) (hi1 : vp_in (i + 1) L) (hi2 : vp_in (i + 2) L) (hi3 : vp_in (i + 3) L) (hi4 : vp_in (i + 4) L) (hi5 : vp_in (i + 5) L) (h3 : L3 g D A s x m0 q kr Ic Rc qo aO mT1 cc cc fed P fo H) (hS : va_S A s.heap H locs) (hl : lv_has ls 7 [(0, .ref b), (1, .ref x), (2, .ref m0), (3, .ref qo), (4, .int i)]) (hc : cells + 320026 ≤ 601024) (hs : slots + 320064 + 40 * fed ≤ 7293034)
    (kk : ∀ (P1 : Nat) (cc1 : GH) (fo1 : Nat → Int64) (H1 : Heap) (locs1 : List Loc) (ls1 : Array Slot), P ≤ P1 → L3 g D A s x m0 q kr Ic Rc qo aO mT1 cc1 cc1 fed P1 fo1 H1 → va_S A s.heap H1 locs1 → lv_has ls1 7 [(0, .ref b), (1, .ref x), (2, .ref m0), (3, .ref qo), (4, .int i)] → W p l e room_1 s m #[Value.ref b] below meth c H1 locs1 (cells + (P1 - P) + 26) (slots + (P1 - P) + (64 + 40 * fed)) Q (F0 m 781 ls1 [])) :
    W p l e room_1 s m #[Value.ref b] below meth c H locs cells slots Q (F0 m 278 ls []) := by
  have hpt := h3.pot
  refine lv_aload_n hx hb dl_278 rfl (lv_at hl 1 rfl) ?_
  refine lv_aload_n hx hb dl_279 rfl (lv_at hl 0 rfl) ?_
  refine lv_iload hx hb dl_280 (lv_at hl 4 rfl) ?_
  refine lv_iconst (v := 1) hx hb dl_282 (by decide) ?_
  refine lv_iadd hx hb dl_283 ?_
  refine va_sld hx hb hX hbl hbA hS hi1 dl_284 ?_
  refine lv_aload_n hx hb dl_285 rfl (lv_at hl 0 rfl) ?_
  refine lv_iload hx hb dl_286 (lv_at hl 4 rfl) ?_
  refine lv_iconst (v := 2) hx hb dl_288 (by decide) ?_
  refine lv_iadd hx hb dl_289 ?_
  refine va_sld hx hb hX hbl hbA hS hi2 dl_290 ?_
  refine lv_aload_n hx hb dl_291 rfl (lv_at hl 3 rfl) ?_
  refine lc_hlp (n := 4) (av := [.ref x, .int (xs (Int32.toNatClampNeg (i + 1))), .int (xs (Int32.toNatClampNeg (i + 2))), .ref qo]) (yh := yL_entry) (bytes := cL_entry) (maxL := 5) (hh := [(0, 10, 13, 19)]) (S := 64 + 40 * fed) hx hb hml hown htb hA hE bg_1387 bg_1388 bg_1361 bg_1334 ⟨by decide, by decide, by decide +kernel⟩ (by decide) dl_292 rfl rfl h3 hS hl.1 hKo hAo (fun M hG => hp_entry l D g hnt hG) (by omega) (by omega) (fun r P1 fo1 H locs hV hP1 h3 hS => ?_)
  have hpt := h3.pot
  refine lv_istore (lv' := [(5, .int r), (0, .ref b), (1, .ref x), (2, .ref m0), (3, .ref qo), (4, .int i)]) hx hb dl_295 hl (by decide) rfl (fun ls hl => ?_)
  refine lv_aload_n hx hb dl_297 rfl (lv_at hl 3 rfl) ?_
  refine lv_aload_n hx hb dl_298 rfl (lv_at hl 1 rfl) ?_
  refine lv_iload hx hb dl_299 (lv_at hl 5 rfl) ?_
  refine lv_iconst (v := 1) hx hb dl_301 (by decide) ?_
  refine lv_iadd hx hb dl_302 ?_
  refine va_sld hx hb hX hbl hbA hS hi1 dl_303 ?_
  refine lv_aload_n hx hb dl_304 rfl (lv_at hl 1 rfl) ?_
  refine lv_iload hx hb dl_305 (lv_at hl 5 rfl) ?_
  refine lv_iconst (v := 2) hx hb dl_307 (by decide) ?_
  refine lv_iadd hx hb dl_308 ?_
  refine va_sld hx hb hX hbl hbA hS hi2 dl_309 ?_
  refine lc_ref (rest := []) (n := 2) (y := 204) (qm := (yX12_entry, cX12_entry, 4, (some .int))) (As := [.int (xs (Int32.toNatClampNeg (i + 1))), .int (xs (Int32.toNatClampNeg (i + 2)))]) (V := fun v => ∃ y : Int32, v = some (.int y)) (X' := mT1) (cr' := cc) (Nat.le_of_ble_eq_true rfl) hx hb hml hown htb hA hE rfl bg_1389 bg_1390 bg_1391 bg_972 bg_1202 ⟨by decide, by decide, by decide +kernel⟩ (by decide) dl_310 rfl rfl h3 hS hl.1 (fun M hR _ => (rx_entry hR (by decide)).imp (fun v M' h => ⟨h.1, h.2, trivial⟩)) (by omega) (by omega) (fun v H locs hV h3 hS => ?_)
  obtain ⟨y2, rfl⟩ := hV
  refine lv_istore (lv' := [(6, .int y2), (5, .int r), (0, .ref b), (1, .ref x), (2, .ref m0), (3, .ref qo), (4, .int i)]) hx hb dl_313 hl (by decide) rfl (fun ls hl => ?_)
  refine lv_goto (tgt := 781) hx hb dl_315 (by decide) ?_
  exact kk P1 _ _ H locs ls hP1 h3 hS (lv_sub hl [2, 3, 4, 5, 6] rfl)
set_option maxHeartbeats 4000000 in
set_option maxRecDepth 100000 in
theorem law_6 (hx : p.tables.exec = Jvm.exec) (hb : c.code = cL_law) (hml : c.maxLocals = 7) (hown : s.vm.findClass RL = some m.cls) (htb : ∀ w ∈ bg, w.before #[Value.ref b] s = true) (hA : ∀ q : Nat, s.heap.size ≤ q → A q) (hE : xe_E g A s s.heap) (hnt : l.stackTraces = false) (hX : va_X b L xs s s.heap) (hbl : b < s.heap.size) (hbA : ¬ A b) (hKo : va_K D vwCl [(aO, .long)] s) (hAo : A qo) (hi1 : vp_in (i + 1) L) (hi2 : vp_in (i + 2) L) (hi3 : vp_in (i + 3) L) (hi4 : vp_in (i + 4) L) (hi5 : vp_in (i + 5) L) (h3 : L3 g D A s x m0 q kr Ic Rc qo aO mT1 cc cc fed P fo H) (hS : va_S A s.heap H locs) (hl : lv_has ls 7 [(0, .ref b), (1, .ref x), (2, .ref m0), (3, .ref qo), (4, .int i)]) (hc : cells + 320026 ≤ 601024) (hs : slots + 320064 + 40 * fed ≤ 7293034)
    (kk : ∀ (P1 : Nat) (cc1 : GH) (fo1 : Nat → Int64) (H1 : Heap) (locs1 : List Loc) (ls1 : Array Slot), P ≤ P1 → L3 g D A s x m0 q kr Ic Rc qo aO mT1 cc1 cc1 fed P1 fo1 H1 → va_S A s.heap H1 locs1 → lv_has ls1 7 [(0, .ref b), (1, .ref x), (2, .ref m0), (3, .ref qo), (4, .int i)] → W p l e room_1 s m #[Value.ref b] below meth c H1 locs1 (cells + (P1 - P) + 26) (slots + (P1 - P) + (64 + 40 * fed)) Q (F0 m 781 ls1 [])) :
    W p l e room_1 s m #[Value.ref b] below meth c H locs cells slots Q (F0 m 318 ls []) := by
  have hpt := h3.pot
  refine lv_aload_n hx hb dl_318 rfl (lv_at hl 1 rfl) ?_
  refine lv_aload_n hx hb dl_319 rfl (lv_at hl 0 rfl) ?_
  refine lv_iload hx hb dl_320 (lv_at hl 4 rfl) ?_
  refine lv_iconst (v := 1) hx hb dl_322 (by decide) ?_
  refine lv_iadd hx hb dl_323 ?_
  refine va_sld hx hb hX hbl hbA hS hi1 dl_324 ?_
  refine lc_cls (n := 1) (y := 1) (qm := (yX11_bits, cX11_bits, 4, (some .long))) (As := [.int (xs (Int32.toNatClampNeg (i + 1)))]) (S := 64 + 40 * fed) (V := fun v => v = some (.long (biK cc.2.2.2.2.2 (xs (Int32.toNatClampNeg (i + 1)))))) hx hb hml hown htb hA hE rfl bg_1392 bg_1393 bg_1394 bg_774 bg_874 ⟨by decide, by decide, by decide +kernel⟩ (by decide) dl_325 rfl rfl h3 hS hl.1 (fun M hG => gx_bitsX hG (by decide)) (by omega) (by omega) (fun v P1 H locs hV hP1 h3 hS => ?_)
  have hpt := h3.pot
  subst hV
  refine lv_pop2_2 (va := .long (biK cc.2.2.2.2.2 (xs (Int32.toNatClampNeg (i + 1))))) hx hb dl_328 rfl ?_
  refine lv_aload_n hx hb dl_329 rfl (lv_at hl 2 rfl) ?_
  refine lv_aload_n hx hb dl_330 rfl (lv_at hl 0 rfl) ?_
  refine lv_iload hx hb dl_331 (lv_at hl 4 rfl) ?_
  refine lv_iconst (v := 1) hx hb dl_333 (by decide) ?_
  refine lv_iadd hx hb dl_334 ?_
  refine va_sld hx hb hX hbl hbA hS hi1 dl_335 ?_
  refine lc_ref (rest := []) (n := 1) (y := 183) (qm := (yX12_bits, cX12_bits, 3, (some .long))) (As := [.int (xs (Int32.toNatClampNeg (i + 1)))]) (V := fun v => v = some (.long (biK cc.2.2.2.2.2 (xs (Int32.toNatClampNeg (i + 1)))))) (X' := mT1) (cr' := cc) (Nat.le_of_ble_eq_true rfl) hx hb hml hown htb hA hE rfl bg_1395 bg_1396 bg_1397 bg_972 bg_1203 ⟨by decide, by decide, by decide +kernel⟩ (by decide) dl_336 rfl rfl h3 hS hl.1 (fun M hR _ => (rx_bitsX hR (by decide)).imp (fun v M' h => ⟨h.1, h.2, trivial⟩)) (by omega) (by omega) (fun v H locs hV h3 hS => ?_)
  subst hV
  refine lv_pop2_2 (va := .long (biK cc.2.2.2.2.2 (xs (Int32.toNatClampNeg (i + 1))))) hx hb dl_339 rfl ?_
  refine lv_goto (tgt := 781) hx hb dl_340 (by decide) ?_
  exact kk P1 _ _ H locs ls hP1 h3 hS (lv_sub hl [0, 1, 2, 3, 4] rfl)
set_option maxHeartbeats 4000000 in
set_option maxRecDepth 100000 in
theorem law_7 (hx : p.tables.exec = Jvm.exec) (hb : c.code = cL_law) (hml : c.maxLocals = 7) (hown : s.vm.findClass RL = some m.cls) (htb : ∀ w ∈ bg, w.before #[Value.ref b] s = true) (hA : ∀ q : Nat, s.heap.size ≤ q → A q) (hE : xe_E g A s s.heap) (hnt : l.stackTraces = false) (hX : va_X b L xs s s.heap) (hbl : b < s.heap.size) (hbA : ¬ A b) (hKo : va_K D vwCl [(aO, .long)] s) (hAo : A qo) (hi1 : vp_in (i + 1) L) (hi2 : vp_in (i + 2) L) (hi3 : vp_in (i + 3) L) (hi4 : vp_in (i + 4) L) (hi5 : vp_in (i + 5) L) (h3 : L3 g D A s x m0 q kr Ic Rc qo aO mT1 cc cc fed P fo H) (hS : va_S A s.heap H locs) (hl : lv_has ls 7 [(0, .ref b), (1, .ref x), (2, .ref m0), (3, .ref qo), (4, .int i)]) (hc : cells + 320026 ≤ 601024) (hs : slots + 320064 + 40 * fed ≤ 7293034)
    (kk : ∀ (P1 : Nat) (cc1 : GH) (fo1 : Nat → Int64) (H1 : Heap) (locs1 : List Loc) (ls1 : Array Slot), P ≤ P1 → L3 g D A s x m0 q kr Ic Rc qo aO mT1 cc1 cc1 fed P1 fo1 H1 → va_S A s.heap H1 locs1 → lv_has ls1 7 [(0, .ref b), (1, .ref x), (2, .ref m0), (3, .ref qo), (4, .int i)] → W p l e room_1 s m #[Value.ref b] below meth c H1 locs1 (cells + (P1 - P) + 26) (slots + (P1 - P) + (64 + 40 * fed)) Q (F0 m 781 ls1 [])) :
    W p l e room_1 s m #[Value.ref b] below meth c H locs cells slots Q (F0 m 343 ls []) := by
  have hpt := h3.pot
  refine lv_aload_n hx hb dl_343 rfl (lv_at hl 1 rfl) ?_
  refine lv_aload_n hx hb dl_344 rfl (lv_at hl 0 rfl) ?_
  refine lv_iload hx hb dl_345 (lv_at hl 4 rfl) ?_
  refine lv_iconst (v := 1) hx hb dl_347 (by decide) ?_
  refine lv_iadd hx hb dl_348 ?_
  refine va_sld hx hb hX hbl hbA hS hi1 dl_349 ?_
  refine lv_aload_n hx hb dl_350 rfl (lv_at hl 0 rfl) ?_
  refine lv_iload hx hb dl_351 (lv_at hl 4 rfl) ?_
  refine lv_iconst (v := 2) hx hb dl_353 (by decide) ?_
  refine lv_iadd hx hb dl_354 ?_
  refine va_sld hx hb hX hbl hbA hS hi2 dl_355 ?_
  refine lc_cls (n := 2) (y := 3) (qm := (yX11_character, cX11_character, 3, (some .int))) (As := [.int (xs (Int32.toNatClampNeg (i + 1))), .int (xs (Int32.toNatClampNeg (i + 2)))]) (S := 64 + 40 * fed) (V := fun v => v = some (.int (chK cc.2.2.2.2.2 (xs (Int32.toNatClampNeg (i + 1))) (xs (Int32.toNatClampNeg (i + 2)))))) hx hb hml hown htb hA hE rfl bg_1398 bg_1399 bg_1400 bg_774 bg_879 ⟨by decide, by decide, by decide +kernel⟩ (by decide) dl_356 rfl rfl h3 hS hl.1 (fun M hG => gx_character hG (by decide)) (by omega) (by omega) (fun v P1 H locs hV hP1 h3 hS => ?_)
  have hpt := h3.pot
  subst hV
  refine lv_pop (va := .int (chK cc.2.2.2.2.2 (xs (Int32.toNatClampNeg (i + 1))) (xs (Int32.toNatClampNeg (i + 2))))) hx hb dl_359 rfl ?_
  refine lv_aload_n hx hb dl_360 rfl (lv_at hl 2 rfl) ?_
  refine lv_aload_n hx hb dl_361 rfl (lv_at hl 0 rfl) ?_
  refine lv_iload hx hb dl_362 (lv_at hl 4 rfl) ?_
  refine lv_iconst (v := 1) hx hb dl_364 (by decide) ?_
  refine lv_iadd hx hb dl_365 ?_
  refine va_sld hx hb hX hbl hbA hS hi1 dl_366 ?_
  refine lv_aload_n hx hb dl_367 rfl (lv_at hl 0 rfl) ?_
  refine lv_iload hx hb dl_368 (lv_at hl 4 rfl) ?_
  refine lv_iconst (v := 2) hx hb dl_370 (by decide) ?_
  refine lv_iadd hx hb dl_371 ?_
  refine va_sld hx hb hX hbl hbA hS hi2 dl_372 ?_
  refine lc_ref (rest := []) (n := 2) (y := 186) (qm := (yX12_character, cX12_character, 3, (some .int))) (As := [.int (xs (Int32.toNatClampNeg (i + 1))), .int (xs (Int32.toNatClampNeg (i + 2)))]) (V := fun v => v = some (.int (chK cc.2.2.2.2.2 (xs (Int32.toNatClampNeg (i + 1))) (xs (Int32.toNatClampNeg (i + 2)))))) (X' := mT1) (cr' := cc) (Nat.le_of_ble_eq_true rfl) hx hb hml hown htb hA hE rfl bg_1401 bg_1402 bg_1403 bg_972 bg_1204 ⟨by decide, by decide, by decide +kernel⟩ (by decide) dl_373 rfl rfl h3 hS hl.1 (fun M hR _ => (rx_character hR (by decide)).imp (fun v M' h => ⟨h.1, h.2, trivial⟩)) (by omega) (by omega) (fun v H locs hV h3 hS => ?_)
  subst hV
  refine lv_pop (va := .int (chK cc.2.2.2.2.2 (xs (Int32.toNatClampNeg (i + 1))) (xs (Int32.toNatClampNeg (i + 2))))) hx hb dl_376 rfl ?_
  refine lv_goto (tgt := 781) hx hb dl_377 (by decide) ?_
  exact kk P1 _ _ H locs ls hP1 h3 hS (lv_sub hl [0, 1, 2, 3, 4] rfl)
end LWD
