/-! cases of the law (laid by wip/p2/c92.py) -/
theorem dl_381 : decode cL_law 381 = .ok (.aload_n 1, 1) := by decide +kernel
theorem dl_382 : decode cL_law 382 = .ok (.aload_n 0, 1) := by decide +kernel
theorem dl_383 : decode cL_law 383 = .ok (.iload 4, 2) := by decide +kernel
theorem dl_385 : decode cL_law 385 = .ok (.iconst 1, 1) := by decide +kernel
theorem dl_386 : decode cL_law 386 = .ok (.iadd, 1) := by decide +kernel
theorem dl_387 : decode cL_law 387 = .ok (.iaload, 1) := by decide +kernel
theorem dl_388 : decode cL_law 388 = .ok (.invokevirtual 78, 3) := by decide +kernel
theorem dl_391 : decode cL_law 391 = .ok (.pop, 1) := by decide +kernel
theorem dl_392 : decode cL_law 392 = .ok (.aload_n 2, 1) := by decide +kernel
theorem dl_393 : decode cL_law 393 = .ok (.aload_n 0, 1) := by decide +kernel
theorem dl_394 : decode cL_law 394 = .ok (.iload 4, 2) := by decide +kernel
theorem dl_396 : decode cL_law 396 = .ok (.iconst 1, 1) := by decide +kernel
theorem dl_397 : decode cL_law 397 = .ok (.iadd, 1) := by decide +kernel
theorem dl_398 : decode cL_law 398 = .ok (.iaload, 1) := by decide +kernel
theorem dl_399 : decode cL_law 399 = .ok (.invokevirtual 81, 3) := by decide +kernel
theorem dl_402 : decode cL_law 402 = .ok (.pop, 1) := by decide +kernel
theorem dl_403 : decode cL_law 403 = .ok (.goto 379, 3) := by decide +kernel
theorem dl_406 : decode cL_law 406 = .ok (.aload_n 1, 1) := by decide +kernel
theorem dl_407 : decode cL_law 407 = .ok (.aload_n 0, 1) := by decide +kernel
theorem dl_408 : decode cL_law 408 = .ok (.iload 4, 2) := by decide +kernel
theorem dl_410 : decode cL_law 410 = .ok (.iconst 1, 1) := by decide +kernel
theorem dl_411 : decode cL_law 411 = .ok (.iadd, 1) := by decide +kernel
theorem dl_412 : decode cL_law 412 = .ok (.iaload, 1) := by decide +kernel
theorem dl_413 : decode cL_law 413 = .ok (.ifCond .eq 7, 3) := by decide +kernel
theorem dl_416 : decode cL_law 416 = .ok (.iconst 1, 1) := by decide +kernel
theorem dl_417 : decode cL_law 417 = .ok (.goto 4, 3) := by decide +kernel
theorem dl_420 : decode cL_law 420 = .ok (.iconst 0, 1) := by decide +kernel
theorem dl_421 : decode cL_law 421 = .ok (.aload_n 0, 1) := by decide +kernel
theorem dl_422 : decode cL_law 422 = .ok (.iload 4, 2) := by decide +kernel
theorem dl_424 : decode cL_law 424 = .ok (.iconst 2, 1) := by decide +kernel
theorem dl_425 : decode cL_law 425 = .ok (.iadd, 1) := by decide +kernel
theorem dl_426 : decode cL_law 426 = .ok (.iaload, 1) := by decide +kernel
theorem dl_427 : decode cL_law 427 = .ok (.aload_n 0, 1) := by decide +kernel
theorem dl_428 : decode cL_law 428 = .ok (.iload 4, 2) := by decide +kernel
theorem dl_430 : decode cL_law 430 = .ok (.iconst 3, 1) := by decide +kernel
theorem dl_431 : decode cL_law 431 = .ok (.iadd, 1) := by decide +kernel
theorem dl_432 : decode cL_law 432 = .ok (.iaload, 1) := by decide +kernel
theorem dl_433 : decode cL_law 433 = .ok (.aload_n 3, 1) := by decide +kernel
theorem dl_434 : decode cL_law 434 = .ok (.invokestatic 82, 3) := by decide +kernel
theorem dl_437 : decode cL_law 437 = .ok (.istore 5, 2) := by decide +kernel
theorem dl_439 : decode cL_law 439 = .ok (.aload_n 2, 1) := by decide +kernel
theorem dl_440 : decode cL_law 440 = .ok (.aload_n 0, 1) := by decide +kernel
theorem dl_441 : decode cL_law 441 = .ok (.iload 4, 2) := by decide +kernel
theorem dl_443 : decode cL_law 443 = .ok (.iconst 1, 1) := by decide +kernel
theorem dl_444 : decode cL_law 444 = .ok (.iadd, 1) := by decide +kernel
theorem dl_445 : decode cL_law 445 = .ok (.iaload, 1) := by decide +kernel
theorem dl_446 : decode cL_law 446 = .ok (.ifCond .eq 7, 3) := by decide +kernel
theorem dl_449 : decode cL_law 449 = .ok (.iconst 1, 1) := by decide +kernel
theorem dl_450 : decode cL_law 450 = .ok (.goto 4, 3) := by decide +kernel
theorem dl_453 : decode cL_law 453 = .ok (.iconst 0, 1) := by decide +kernel
theorem dl_454 : decode cL_law 454 = .ok (.aload_n 0, 1) := by decide +kernel
theorem dl_455 : decode cL_law 455 = .ok (.iload 4, 2) := by decide +kernel
theorem dl_457 : decode cL_law 457 = .ok (.iconst 2, 1) := by decide +kernel
theorem dl_458 : decode cL_law 458 = .ok (.iadd, 1) := by decide +kernel
theorem dl_459 : decode cL_law 459 = .ok (.iaload, 1) := by decide +kernel
theorem dl_460 : decode cL_law 460 = .ok (.aload_n 0, 1) := by decide +kernel
theorem dl_461 : decode cL_law 461 = .ok (.iload 4, 2) := by decide +kernel
theorem dl_463 : decode cL_law 463 = .ok (.iconst 3, 1) := by decide +kernel
theorem dl_464 : decode cL_law 464 = .ok (.iadd, 1) := by decide +kernel
theorem dl_465 : decode cL_law 465 = .ok (.iaload, 1) := by decide +kernel
theorem dl_466 : decode cL_law 466 = .ok (.invokevirtual 85, 3) := by decide +kernel
theorem dl_469 : decode cL_law 469 = .ok (.istore 6, 2) := by decide +kernel
theorem dl_471 : decode cL_law 471 = .ok (.goto 311, 3) := by decide +kernel
theorem dl_474 : decode cL_law 474 = .ok (.aload_n 1, 1) := by decide +kernel
theorem dl_475 : decode cL_law 475 = .ok (.aload_n 0, 1) := by decide +kernel
theorem dl_476 : decode cL_law 476 = .ok (.iload 4, 2) := by decide +kernel
theorem dl_478 : decode cL_law 478 = .ok (.iconst 1, 1) := by decide +kernel
theorem dl_479 : decode cL_law 479 = .ok (.iadd, 1) := by decide +kernel
theorem dl_480 : decode cL_law 480 = .ok (.iaload, 1) := by decide +kernel
theorem dl_481 : decode cL_law 481 = .ok (.ifCond .eq 7, 3) := by decide +kernel
theorem dl_484 : decode cL_law 484 = .ok (.iconst 1, 1) := by decide +kernel
theorem dl_485 : decode cL_law 485 = .ok (.goto 4, 3) := by decide +kernel
theorem dl_488 : decode cL_law 488 = .ok (.iconst 0, 1) := by decide +kernel
theorem dl_489 : decode cL_law 489 = .ok (.aload_n 0, 1) := by decide +kernel
theorem dl_490 : decode cL_law 490 = .ok (.iload 4, 2) := by decide +kernel
theorem dl_492 : decode cL_law 492 = .ok (.iconst 2, 1) := by decide +kernel
theorem dl_493 : decode cL_law 493 = .ok (.iadd, 1) := by decide +kernel
theorem dl_494 : decode cL_law 494 = .ok (.iaload, 1) := by decide +kernel
theorem dl_495 : decode cL_law 495 = .ok (.aload_n 0, 1) := by decide +kernel
theorem dl_496 : decode cL_law 496 = .ok (.iload 4, 2) := by decide +kernel
theorem dl_498 : decode cL_law 498 = .ok (.iconst 3, 1) := by decide +kernel
theorem dl_499 : decode cL_law 499 = .ok (.iadd, 1) := by decide +kernel
theorem dl_500 : decode cL_law 500 = .ok (.iaload, 1) := by decide +kernel
theorem dl_501 : decode cL_law 501 = .ok (.invokevirtual 86, 3) := by decide +kernel
theorem dl_504 : decode cL_law 504 = .ok (.pop, 1) := by decide +kernel
theorem dl_505 : decode cL_law 505 = .ok (.aload_n 2, 1) := by decide +kernel
theorem dl_506 : decode cL_law 506 = .ok (.aload_n 0, 1) := by decide +kernel
theorem dl_507 : decode cL_law 507 = .ok (.iload 4, 2) := by decide +kernel
theorem dl_509 : decode cL_law 509 = .ok (.iconst 1, 1) := by decide +kernel
theorem dl_510 : decode cL_law 510 = .ok (.iadd, 1) := by decide +kernel
theorem dl_511 : decode cL_law 511 = .ok (.iaload, 1) := by decide +kernel
theorem dl_512 : decode cL_law 512 = .ok (.ifCond .eq 7, 3) := by decide +kernel
theorem dl_515 : decode cL_law 515 = .ok (.iconst 1, 1) := by decide +kernel
theorem dl_516 : decode cL_law 516 = .ok (.goto 4, 3) := by decide +kernel
theorem dl_519 : decode cL_law 519 = .ok (.iconst 0, 1) := by decide +kernel
theorem dl_520 : decode cL_law 520 = .ok (.aload_n 0, 1) := by decide +kernel
theorem dl_521 : decode cL_law 521 = .ok (.iload 4, 2) := by decide +kernel
theorem dl_523 : decode cL_law 523 = .ok (.iconst 2, 1) := by decide +kernel
theorem dl_524 : decode cL_law 524 = .ok (.iadd, 1) := by decide +kernel
theorem dl_525 : decode cL_law 525 = .ok (.iaload, 1) := by decide +kernel
theorem dl_526 : decode cL_law 526 = .ok (.aload_n 0, 1) := by decide +kernel
theorem dl_527 : decode cL_law 527 = .ok (.iload 4, 2) := by decide +kernel
theorem dl_529 : decode cL_law 529 = .ok (.iconst 3, 1) := by decide +kernel
theorem dl_530 : decode cL_law 530 = .ok (.iadd, 1) := by decide +kernel
theorem dl_531 : decode cL_law 531 = .ok (.iaload, 1) := by decide +kernel
theorem dl_532 : decode cL_law 532 = .ok (.invokevirtual 89, 3) := by decide +kernel
theorem dl_535 : decode cL_law 535 = .ok (.pop, 1) := by decide +kernel
theorem dl_536 : decode cL_law 536 = .ok (.goto 246, 3) := by decide +kernel
section LWD
variable {p : Program} {l : Launch} {e : Env} {s : State} {m : MethodId} {below : List Frame} {meth : Method} {c : Code} {A : Nat → Prop} {b L : Nat} {xs : Nat → Int32} {D : va_G} {g : xe_G} {x m0 qo : Nat} {aO : ClassId} {q : Nat → Nat} {kr : rR} {Ic : rI} {Rc : rR}
variable {cc : GH} {fed P cells slots : Nat} {fo : Nat → Int64} {H : Heap} {locs : List Loc} {ls : Array Slot} {Q : State → Prop} {i : Int32}

set_option maxHeartbeats 4000000 in
set_option maxRecDepth 100000 in
theorem law_8 (hx : p.tables.exec = Jvm.exec) (hb : c.code = cL_law) (hml : c.maxLocals = 7) (hown : s.vm.findClass RL = some m.cls) (htb : ∀ w ∈ bg, w.before #[Value.ref b] s = true) (hA : ∀ q : Nat, s.heap.size ≤ q → A q) (hE : xe_E g A s s.heap) (hnt : l.stackTraces = false) (hX : va_X b L xs s s.heap) (hbl : b < s.heap.size) (hbA : ¬ A b) (hKo : va_K D vwCl [(aO, .long)] s) (hAo : A qo) (hi1 : vp_in (i + 1) L) (hi2 : vp_in (i + 2) L) (hi3 : vp_in (i + 3) L) (hi4 : vp_in (i + 4) L) (hi5 : vp_in (i + 5) L) (h3 : L3 g D A s x m0 q kr Ic Rc qo aO mT1 cc cc fed P fo H) (hS : va_S A s.heap H locs) (hl : lv_has ls 7 [(0, .ref b), (1, .ref x), (2, .ref m0), (3, .ref qo), (4, .int i)]) (hc : cells + 320026 ≤ 601024) (hs : slots + 320064 + 40 * fed ≤ 7293034)
    (kk : ∀ (P1 : Nat) (cc1 : GH) (fo1 : Nat → Int64) (H1 : Heap) (locs1 : List Loc) (ls1 : Array Slot), P ≤ P1 → L3 g D A s x m0 q kr Ic Rc qo aO mT1 cc1 cc1 fed P1 fo1 H1 → va_S A s.heap H1 locs1 → lv_has ls1 7 [(0, .ref b), (1, .ref x), (2, .ref m0), (3, .ref qo), (4, .int i)] → W p l e room_1 s m #[Value.ref b] below meth c H1 locs1 (cells + (P1 - P) + 26) (slots + (P1 - P) + (64 + 40 * fed)) Q (F0 m 782 ls1 [])) :
    W p l e room_1 s m #[Value.ref b] below meth c H locs cells slots Q (F0 m 381 ls []) := by
  have hpt := h3.pot
  refine lv_aload_n hx hb dl_381 rfl (lv_at hl 1 rfl) ?_
  refine lv_aload_n hx hb dl_382 rfl (lv_at hl 0 rfl) ?_
  refine lv_iload hx hb dl_383 (lv_at hl 4 rfl) ?_
  refine lv_iconst (v := 1) hx hb dl_385 (by decide) ?_
  refine lv_iadd hx hb dl_386 ?_
  refine va_sld hx hb hX hbl hbA hS hi1 dl_387 ?_
  refine lc_cls (n := 1) (y := 17) (qm := (yX11_places, cX11_places, 2, (some .int))) (As := [.int (xs (Int32.toNatClampNeg (i + 1)))]) (S := 64 + 40 * fed) (V := fun v => ∃ y : Int32, v = some (.int y)) hx hb hml hown htb hA hE rfl bg_1404 bg_1405 bg_1406 bg_774 bg_881 ⟨by decide, by decide, by decide +kernel⟩ (by decide) dl_388 rfl rfl h3 hS hl.1 (fun M hG => gx_places hG (by decide)) (by omega) (by omega) (fun v P1 H locs hV hP1 h3 hS => ?_)
  have hpt := h3.pot
  obtain ⟨y1, rfl⟩ := hV
  refine lv_pop (va := .int y1) hx hb dl_391 rfl ?_
  refine lv_aload_n hx hb dl_392 rfl (lv_at hl 2 rfl) ?_
  refine lv_aload_n hx hb dl_393 rfl (lv_at hl 0 rfl) ?_
  refine lv_iload hx hb dl_394 (lv_at hl 4 rfl) ?_
  refine lv_iconst (v := 1) hx hb dl_396 (by decide) ?_
  refine lv_iadd hx hb dl_397 ?_
  refine va_sld hx hb hX hbl hbA hS hi1 dl_398 ?_
  refine lc_ref (rest := []) (n := 1) (y := 232) (qm := (yX12_places, cX12_places, 5, (some .int))) (As := [.int (xs (Int32.toNatClampNeg (i + 1)))]) (V := fun v => ∃ y : Int32, v = some (.int y)) (X' := mT1) (cr' := cc) (Nat.le_of_ble_eq_true rfl) hx hb hml hown htb hA hE rfl bg_1407 bg_1408 bg_1409 bg_972 bg_1209 ⟨by decide, by decide, by decide +kernel⟩ (by decide) dl_399 rfl rfl h3 hS hl.1 (fun M hR _ => (rx_places hR (by decide)).imp (fun v M' h => ⟨h.1, h.2, trivial⟩)) (by omega) (by omega) (fun v H locs hV h3 hS => ?_)
  obtain ⟨y2, rfl⟩ := hV
  refine lv_pop (va := .int y2) hx hb dl_402 rfl ?_
  refine lv_goto (tgt := 782) hx hb dl_403 (by decide) ?_
  exact kk P1 _ _ H locs ls hP1 h3 hS (lv_sub hl [0, 1, 2, 3, 4] rfl)
set_option maxHeartbeats 4000000 in
set_option maxRecDepth 100000 in
theorem law_9 (hx : p.tables.exec = Jvm.exec) (hb : c.code = cL_law) (hml : c.maxLocals = 7) (hown : s.vm.findClass RL = some m.cls) (htb : ∀ w ∈ bg, w.before #[Value.ref b] s = true) (hA : ∀ q : Nat, s.heap.size ≤ q → A q) (hE : xe_E g A s s.heap) (hnt : l.stackTraces = false) (hX : va_X b L xs s s.heap) (hbl : b < s.heap.size) (hbA : ¬ A b) (hKo : va_K D vwCl [(aO, .long)] s) (hAo : A qo) (hi1 : vp_in (i + 1) L) (hi2 : vp_in (i + 2) L) (hi3 : vp_in (i + 3) L) (hi4 : vp_in (i + 4) L) (hi5 : vp_in (i + 5) L) (h3 : L3 g D A s x m0 q kr Ic Rc qo aO mT1 cc cc fed P fo H) (hS : va_S A s.heap H locs) (hl : lv_has ls 7 [(0, .ref b), (1, .ref x), (2, .ref m0), (3, .ref qo), (4, .int i)]) (hc : cells + 320026 ≤ 601024) (hs : slots + 320064 + 40 * fed ≤ 7293034)
    (kk : ∀ (P1 : Nat) (cc1 : GH) (fo1 : Nat → Int64) (H1 : Heap) (locs1 : List Loc) (ls1 : Array Slot), P ≤ P1 → L3 g D A s x m0 q kr Ic Rc qo aO mT1 cc1 cc1 fed P1 fo1 H1 → va_S A s.heap H1 locs1 → lv_has ls1 7 [(0, .ref b), (1, .ref x), (2, .ref m0), (3, .ref qo), (4, .int i)] → W p l e room_1 s m #[Value.ref b] below meth c H1 locs1 (cells + (P1 - P) + 26) (slots + (P1 - P) + (64 + 40 * fed)) Q (F0 m 782 ls1 [])) :
    W p l e room_1 s m #[Value.ref b] below meth c H locs cells slots Q (F0 m 406 ls []) := by
  have hpt := h3.pot
  refine lv_aload_n hx hb dl_406 rfl (lv_at hl 1 rfl) ?_
  refine lv_aload_n hx hb dl_407 rfl (lv_at hl 0 rfl) ?_
  refine lv_iload hx hb dl_408 (lv_at hl 4 rfl) ?_
  refine lv_iconst (v := 1) hx hb dl_410 (by decide) ?_
  refine lv_iadd hx hb dl_411 ?_
  refine va_sld hx hb hX hbl hbA hS hi1 dl_412 ?_
  refine lw_bool hx hb dl_413 dl_416 dl_417 dl_420 (fun z1 => ?_)
  refine lv_aload_n hx hb dl_421 rfl (lv_at hl 0 rfl) ?_
  refine lv_iload hx hb dl_422 (lv_at hl 4 rfl) ?_
  refine lv_iconst (v := 2) hx hb dl_424 (by decide) ?_
  refine lv_iadd hx hb dl_425 ?_
  refine va_sld hx hb hX hbl hbA hS hi2 dl_426 ?_
  refine lv_aload_n hx hb dl_427 rfl (lv_at hl 0 rfl) ?_
  refine lv_iload hx hb dl_428 (lv_at hl 4 rfl) ?_
  refine lv_iconst (v := 3) hx hb dl_430 (by decide) ?_
  refine lv_iadd hx hb dl_431 ?_
  refine va_sld hx hb hX hbl hbA hS hi3 dl_432 ?_
  refine lv_aload_n hx hb dl_433 rfl (lv_at hl 3 rfl) ?_
  refine lc_hlp (n := 5) (av := [.ref x, .int z1, .int (xs (Int32.toNatClampNeg (i + 2))), .int (xs (Int32.toNatClampNeg (i + 3))), .ref qo]) (yh := yL_member) (bytes := cL_member) (maxL := 6) (hh := [(0, 12, 15, 19)]) (S := 64 + 40 * fed) hx hb hml hown htb hA hE bg_1410 bg_1411 bg_1361 bg_1338 ⟨by decide, by decide, by decide +kernel⟩ (by decide) dl_434 rfl rfl h3 hS hl.1 hKo hAo (fun M hG => hp_member l D g hnt hG) (by omega) (by omega) (fun r P1 fo1 H locs hV hP1 h3 hS => ?_)
  have hpt := h3.pot
  refine lv_istore (lv' := [(5, .int r), (0, .ref b), (1, .ref x), (2, .ref m0), (3, .ref qo), (4, .int i)]) hx hb dl_437 hl (by decide) rfl (fun ls hl => ?_)
  refine lv_aload_n hx hb dl_439 rfl (lv_at hl 3 rfl) ?_
  refine lv_aload_n hx hb dl_440 rfl (lv_at hl 1 rfl) ?_
  refine lv_iload hx hb dl_441 (lv_at hl 5 rfl) ?_
  refine lv_iconst (v := 1) hx hb dl_443 (by decide) ?_
  refine lv_iadd hx hb dl_444 ?_
  refine va_sld hx hb hX hbl hbA hS hi1 dl_445 ?_
  refine lw_bool hx hb dl_446 dl_449 dl_450 dl_453 (fun z2 => ?_)
  refine lv_aload_n hx hb dl_454 rfl (lv_at hl 1 rfl) ?_
  refine lv_iload hx hb dl_455 (lv_at hl 5 rfl) ?_
  refine lv_iconst (v := 2) hx hb dl_457 (by decide) ?_
  refine lv_iadd hx hb dl_458 ?_
  refine va_sld hx hb hX hbl hbA hS hi2 dl_459 ?_
  refine lv_aload_n hx hb dl_460 rfl (lv_at hl 1 rfl) ?_
  refine lv_iload hx hb dl_461 (lv_at hl 5 rfl) ?_
  refine lv_iconst (v := 3) hx hb dl_463 (by decide) ?_
  refine lv_iadd hx hb dl_464 ?_
  refine va_sld hx hb hX hbl hbA hS hi3 dl_465 ?_
  refine lc_ref (rest := []) (n := 3) (y := 223) (qm := (yX12_member, cX12_member, 4, (some .int))) (As := [.int z2, .int (xs (Int32.toNatClampNeg (i + 2))), .int (xs (Int32.toNatClampNeg (i + 3)))]) (V := fun v => ∃ y : Int32, v = some (.int y)) (X' := mT1) (cr' := cc) (Nat.le_of_ble_eq_true rfl) hx hb hml hown htb hA hE rfl bg_1412 bg_1413 bg_1414 bg_972 bg_1205 ⟨by decide, by decide, by decide +kernel⟩ (by decide) dl_466 rfl rfl h3 hS hl.1 (fun M hR _ => (rx_member hR (by decide)).imp (fun v M' h => ⟨h.1, h.2, trivial⟩)) (by omega) (by omega) (fun v H locs hV h3 hS => ?_)
  obtain ⟨y2, rfl⟩ := hV
  refine lv_istore (lv' := [(6, .int y2), (5, .int r), (0, .ref b), (1, .ref x), (2, .ref m0), (3, .ref qo), (4, .int i)]) hx hb dl_469 hl (by decide) rfl (fun ls hl => ?_)
  refine lv_goto (tgt := 782) hx hb dl_471 (by decide) ?_
  exact kk P1 _ _ H locs ls hP1 h3 hS (lv_sub hl [2, 3, 4, 5, 6] rfl)
set_option maxHeartbeats 4000000 in
set_option maxRecDepth 100000 in
theorem law_10 (hx : p.tables.exec = Jvm.exec) (hb : c.code = cL_law) (hml : c.maxLocals = 7) (hown : s.vm.findClass RL = some m.cls) (htb : ∀ w ∈ bg, w.before #[Value.ref b] s = true) (hA : ∀ q : Nat, s.heap.size ≤ q → A q) (hE : xe_E g A s s.heap) (hnt : l.stackTraces = false) (hX : va_X b L xs s s.heap) (hbl : b < s.heap.size) (hbA : ¬ A b) (hKo : va_K D vwCl [(aO, .long)] s) (hAo : A qo) (hi1 : vp_in (i + 1) L) (hi2 : vp_in (i + 2) L) (hi3 : vp_in (i + 3) L) (hi4 : vp_in (i + 4) L) (hi5 : vp_in (i + 5) L) (h3 : L3 g D A s x m0 q kr Ic Rc qo aO mT1 cc cc fed P fo H) (hS : va_S A s.heap H locs) (hl : lv_has ls 7 [(0, .ref b), (1, .ref x), (2, .ref m0), (3, .ref qo), (4, .int i)]) (hc : cells + 320026 ≤ 601024) (hs : slots + 320064 + 40 * fed ≤ 7293034)
    (kk : ∀ (P1 : Nat) (cc1 : GH) (fo1 : Nat → Int64) (H1 : Heap) (locs1 : List Loc) (ls1 : Array Slot), P ≤ P1 → L3 g D A s x m0 q kr Ic Rc qo aO mT1 cc1 cc1 fed P1 fo1 H1 → va_S A s.heap H1 locs1 → lv_has ls1 7 [(0, .ref b), (1, .ref x), (2, .ref m0), (3, .ref qo), (4, .int i)] → W p l e room_1 s m #[Value.ref b] below meth c H1 locs1 (cells + (P1 - P) + 26) (slots + (P1 - P) + (64 + 40 * fed)) Q (F0 m 782 ls1 [])) :
    W p l e room_1 s m #[Value.ref b] below meth c H locs cells slots Q (F0 m 474 ls []) := by
  have hpt := h3.pot
  refine lv_aload_n hx hb dl_474 rfl (lv_at hl 1 rfl) ?_
  refine lv_aload_n hx hb dl_475 rfl (lv_at hl 0 rfl) ?_
  refine lv_iload hx hb dl_476 (lv_at hl 4 rfl) ?_
  refine lv_iconst (v := 1) hx hb dl_478 (by decide) ?_
  refine lv_iadd hx hb dl_479 ?_
  refine va_sld hx hb hX hbl hbA hS hi1 dl_480 ?_
  refine lw_bool hx hb dl_481 dl_484 dl_485 dl_488 (fun z1 => ?_)
  refine lv_aload_n hx hb dl_489 rfl (lv_at hl 0 rfl) ?_
  refine lv_iload hx hb dl_490 (lv_at hl 4 rfl) ?_
  refine lv_iconst (v := 2) hx hb dl_492 (by decide) ?_
  refine lv_iadd hx hb dl_493 ?_
  refine va_sld hx hb hX hbl hbA hS hi2 dl_494 ?_
  refine lv_aload_n hx hb dl_495 rfl (lv_at hl 0 rfl) ?_
  refine lv_iload hx hb dl_496 (lv_at hl 4 rfl) ?_
  refine lv_iconst (v := 3) hx hb dl_498 (by decide) ?_
  refine lv_iadd hx hb dl_499 ?_
  refine va_sld hx hb hX hbl hbA hS hi3 dl_500 ?_
  refine lc_cls (n := 3) (y := 10) (qm := (yX11_find, cX11_find, 5, (some .int))) (As := [.int z1, .int (xs (Int32.toNatClampNeg (i + 2))), .int (xs (Int32.toNatClampNeg (i + 3)))]) (S := 64 + 40 * fed) (V := fun v => ∃ y : Int32, v = some (.int y)) hx hb hml hown htb hA hE rfl bg_1415 bg_1416 bg_1417 bg_774 bg_890 ⟨by decide, by decide, by decide +kernel⟩ (by decide) dl_501 rfl rfl h3 hS hl.1 (fun M hG => gx_find hG (by decide)) (by omega) (by omega) (fun v P1 H locs hV hP1 h3 hS => ?_)
  have hpt := h3.pot
  obtain ⟨y1, rfl⟩ := hV
  refine lv_pop (va := .int y1) hx hb dl_504 rfl ?_
  refine lv_aload_n hx hb dl_505 rfl (lv_at hl 2 rfl) ?_
  refine lv_aload_n hx hb dl_506 rfl (lv_at hl 0 rfl) ?_
  refine lv_iload hx hb dl_507 (lv_at hl 4 rfl) ?_
  refine lv_iconst (v := 1) hx hb dl_509 (by decide) ?_
  refine lv_iadd hx hb dl_510 ?_
  refine va_sld hx hb hX hbl hbA hS hi1 dl_511 ?_
  refine lw_bool hx hb dl_512 dl_515 dl_516 dl_519 (fun z2 => ?_)
  refine lv_aload_n hx hb dl_520 rfl (lv_at hl 0 rfl) ?_
  refine lv_iload hx hb dl_521 (lv_at hl 4 rfl) ?_
  refine lv_iconst (v := 2) hx hb dl_523 (by decide) ?_
  refine lv_iadd hx hb dl_524 ?_
  refine va_sld hx hb hX hbl hbA hS hi2 dl_525 ?_
  refine lv_aload_n hx hb dl_526 rfl (lv_at hl 0 rfl) ?_
  refine lv_iload hx hb dl_527 (lv_at hl 4 rfl) ?_
  refine lv_iconst (v := 3) hx hb dl_529 (by decide) ?_
  refine lv_iadd hx hb dl_530 ?_
  refine va_sld hx hb hX hbl hbA hS hi3 dl_531 ?_
  refine lc_ref (rest := []) (n := 3) (y := 207) (qm := (yX12_find, cX12_find, 7, (some .int))) (As := [.int z2, .int (xs (Int32.toNatClampNeg (i + 2))), .int (xs (Int32.toNatClampNeg (i + 3)))]) (V := fun v => ∃ y : Int32, v = some (.int y)) (X' := mT1) (cr' := cc) (Nat.le_of_ble_eq_true rfl) hx hb hml hown htb hA hE rfl bg_1418 bg_1419 bg_1420 bg_972 bg_1206 ⟨by decide, by decide, by decide +kernel⟩ (by decide) dl_532 rfl rfl h3 hS hl.1 (fun M hR _ => (rx_find hR (by decide)).imp (fun v M' h => ⟨h.1, h.2, trivial⟩)) (by omega) (by omega) (fun v H locs hV h3 hS => ?_)
  obtain ⟨y2, rfl⟩ := hV
  refine lv_pop (va := .int y2) hx hb dl_535 rfl ?_
  refine lv_goto (tgt := 782) hx hb dl_536 (by decide) ?_
  exact kk P1 _ _ H locs ls hP1 h3 hS (lv_sub hl [0, 1, 2, 3, 4] rfl)
end LWD
