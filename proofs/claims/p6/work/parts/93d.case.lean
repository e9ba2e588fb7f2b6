/-! cases of the law (laid by wip/p2/c92.py) -/
theorem dl_408 : decode cL_law 408 = .ok (.aload_n 1, 1) := by decide +kernel
theorem dl_409 : decode cL_law 409 = .ok (.aload_n 0, 1) := by decide +kernel
theorem dl_410 : decode cL_law 410 = .ok (.iload 4, 2) := by decide +kernel
theorem dl_412 : decode cL_law 412 = .ok (.iconst 1, 1) := by decide +kernel
theorem dl_413 : decode cL_law 413 = .ok (.iadd, 1) := by decide +kernel
theorem dl_414 : decode cL_law 414 = .ok (.iaload, 1) := by decide +kernel
theorem dl_415 : decode cL_law 415 = .ok (.invokevirtual 81, 3) := by decide +kernel
theorem dl_418 : decode cL_law 418 = .ok (.pop, 1) := by decide +kernel
theorem dl_419 : decode cL_law 419 = .ok (.aload_n 2, 1) := by decide +kernel
theorem dl_420 : decode cL_law 420 = .ok (.aload_n 0, 1) := by decide +kernel
theorem dl_421 : decode cL_law 421 = .ok (.iload 4, 2) := by decide +kernel
theorem dl_423 : decode cL_law 423 = .ok (.iconst 1, 1) := by decide +kernel
theorem dl_424 : decode cL_law 424 = .ok (.iadd, 1) := by decide +kernel
theorem dl_425 : decode cL_law 425 = .ok (.iaload, 1) := by decide +kernel
theorem dl_426 : decode cL_law 426 = .ok (.invokevirtual 84, 3) := by decide +kernel
theorem dl_429 : decode cL_law 429 = .ok (.pop, 1) := by decide +kernel
theorem dl_430 : decode cL_law 430 = .ok (.goto 379, 3) := by decide +kernel
theorem dl_433 : decode cL_law 433 = .ok (.aload_n 1, 1) := by decide +kernel
theorem dl_434 : decode cL_law 434 = .ok (.aload_n 0, 1) := by decide +kernel
theorem dl_435 : decode cL_law 435 = .ok (.iload 4, 2) := by decide +kernel
theorem dl_437 : decode cL_law 437 = .ok (.iconst 1, 1) := by decide +kernel
theorem dl_438 : decode cL_law 438 = .ok (.iadd, 1) := by decide +kernel
theorem dl_439 : decode cL_law 439 = .ok (.iaload, 1) := by decide +kernel
theorem dl_443 : decode cL_law 443 = .ok (.iconst 1, 1) := by decide +kernel
theorem dl_444 : decode cL_law 444 = .ok (.goto 4, 3) := by decide +kernel
theorem dl_447 : decode cL_law 447 = .ok (.iconst 0, 1) := by decide +kernel
theorem dl_440 : decode cL_law 440 = .ok (.ifCond .eq 7, 3) := by decide +kernel
theorem dl_448 : decode cL_law 448 = .ok (.aload_n 0, 1) := by decide +kernel
theorem dl_449 : decode cL_law 449 = .ok (.iload 4, 2) := by decide +kernel
theorem dl_451 : decode cL_law 451 = .ok (.iconst 2, 1) := by decide +kernel
theorem dl_452 : decode cL_law 452 = .ok (.iadd, 1) := by decide +kernel
theorem dl_453 : decode cL_law 453 = .ok (.iaload, 1) := by decide +kernel
theorem dl_454 : decode cL_law 454 = .ok (.aload_n 0, 1) := by decide +kernel
theorem dl_455 : decode cL_law 455 = .ok (.iload 4, 2) := by decide +kernel
theorem dl_457 : decode cL_law 457 = .ok (.iconst 3, 1) := by decide +kernel
theorem dl_458 : decode cL_law 458 = .ok (.iadd, 1) := by decide +kernel
theorem dl_459 : decode cL_law 459 = .ok (.iaload, 1) := by decide +kernel
theorem dl_460 : decode cL_law 460 = .ok (.aload_n 3, 1) := by decide +kernel
theorem dl_461 : decode cL_law 461 = .ok (.invokestatic 85, 3) := by decide +kernel
theorem dl_464 : decode cL_law 464 = .ok (.istore 5, 2) := by decide +kernel
theorem dl_466 : decode cL_law 466 = .ok (.aload_n 2, 1) := by decide +kernel
theorem dl_467 : decode cL_law 467 = .ok (.aload_n 0, 1) := by decide +kernel
theorem dl_468 : decode cL_law 468 = .ok (.iload 4, 2) := by decide +kernel
theorem dl_470 : decode cL_law 470 = .ok (.iconst 1, 1) := by decide +kernel
theorem dl_471 : decode cL_law 471 = .ok (.iadd, 1) := by decide +kernel
theorem dl_472 : decode cL_law 472 = .ok (.iaload, 1) := by decide +kernel
theorem dl_476 : decode cL_law 476 = .ok (.iconst 1, 1) := by decide +kernel
theorem dl_477 : decode cL_law 477 = .ok (.goto 4, 3) := by decide +kernel
theorem dl_480 : decode cL_law 480 = .ok (.iconst 0, 1) := by decide +kernel
theorem dl_473 : decode cL_law 473 = .ok (.ifCond .eq 7, 3) := by decide +kernel
theorem dl_481 : decode cL_law 481 = .ok (.aload_n 0, 1) := by decide +kernel
theorem dl_482 : decode cL_law 482 = .ok (.iload 4, 2) := by decide +kernel
theorem dl_484 : decode cL_law 484 = .ok (.iconst 2, 1) := by decide +kernel
theorem dl_485 : decode cL_law 485 = .ok (.iadd, 1) := by decide +kernel
theorem dl_486 : decode cL_law 486 = .ok (.iaload, 1) := by decide +kernel
theorem dl_487 : decode cL_law 487 = .ok (.aload_n 0, 1) := by decide +kernel
theorem dl_488 : decode cL_law 488 = .ok (.iload 4, 2) := by decide +kernel
theorem dl_490 : decode cL_law 490 = .ok (.iconst 3, 1) := by decide +kernel
theorem dl_491 : decode cL_law 491 = .ok (.iadd, 1) := by decide +kernel
theorem dl_492 : decode cL_law 492 = .ok (.iaload, 1) := by decide +kernel
theorem dl_493 : decode cL_law 493 = .ok (.invokevirtual 88, 3) := by decide +kernel
theorem dl_496 : decode cL_law 496 = .ok (.istore 6, 2) := by decide +kernel
theorem dl_498 : decode cL_law 498 = .ok (.goto 311, 3) := by decide +kernel
theorem dl_501 : decode cL_law 501 = .ok (.aload_n 1, 1) := by decide +kernel
theorem dl_502 : decode cL_law 502 = .ok (.aload_n 0, 1) := by decide +kernel
theorem dl_503 : decode cL_law 503 = .ok (.iload 4, 2) := by decide +kernel
theorem dl_505 : decode cL_law 505 = .ok (.iconst 1, 1) := by decide +kernel
theorem dl_506 : decode cL_law 506 = .ok (.iadd, 1) := by decide +kernel
theorem dl_507 : decode cL_law 507 = .ok (.iaload, 1) := by decide +kernel
theorem dl_511 : decode cL_law 511 = .ok (.iconst 1, 1) := by decide +kernel
theorem dl_512 : decode cL_law 512 = .ok (.goto 4, 3) := by decide +kernel
theorem dl_515 : decode cL_law 515 = .ok (.iconst 0, 1) := by decide +kernel
theorem dl_508 : decode cL_law 508 = .ok (.ifCond .eq 7, 3) := by decide +kernel
theorem dl_516 : decode cL_law 516 = .ok (.aload_n 0, 1) := by decide +kernel
theorem dl_517 : decode cL_law 517 = .ok (.iload 4, 2) := by decide +kernel
theorem dl_519 : decode cL_law 519 = .ok (.iconst 2, 1) := by decide +kernel
theorem dl_520 : decode cL_law 520 = .ok (.iadd, 1) := by decide +kernel
theorem dl_521 : decode cL_law 521 = .ok (.iaload, 1) := by decide +kernel
theorem dl_522 : decode cL_law 522 = .ok (.aload_n 0, 1) := by decide +kernel
theorem dl_523 : decode cL_law 523 = .ok (.iload 4, 2) := by decide +kernel
theorem dl_525 : decode cL_law 525 = .ok (.iconst 3, 1) := by decide +kernel
theorem dl_526 : decode cL_law 526 = .ok (.iadd, 1) := by decide +kernel
theorem dl_527 : decode cL_law 527 = .ok (.iaload, 1) := by decide +kernel
theorem dl_528 : decode cL_law 528 = .ok (.invokevirtual 89, 3) := by decide +kernel
theorem dl_531 : decode cL_law 531 = .ok (.pop, 1) := by decide +kernel
theorem dl_532 : decode cL_law 532 = .ok (.aload_n 2, 1) := by decide +kernel
theorem dl_533 : decode cL_law 533 = .ok (.aload_n 0, 1) := by decide +kernel
theorem dl_534 : decode cL_law 534 = .ok (.iload 4, 2) := by decide +kernel
theorem dl_536 : decode cL_law 536 = .ok (.iconst 1, 1) := by decide +kernel
theorem dl_537 : decode cL_law 537 = .ok (.iadd, 1) := by decide +kernel
theorem dl_538 : decode cL_law 538 = .ok (.iaload, 1) := by decide +kernel
theorem dl_542 : decode cL_law 542 = .ok (.iconst 1, 1) := by decide +kernel
theorem dl_543 : decode cL_law 543 = .ok (.goto 4, 3) := by decide +kernel
theorem dl_546 : decode cL_law 546 = .ok (.iconst 0, 1) := by decide +kernel
theorem dl_539 : decode cL_law 539 = .ok (.ifCond .eq 7, 3) := by decide +kernel
theorem dl_547 : decode cL_law 547 = .ok (.aload_n 0, 1) := by decide +kernel
theorem dl_548 : decode cL_law 548 = .ok (.iload 4, 2) := by decide +kernel
theorem dl_550 : decode cL_law 550 = .ok (.iconst 2, 1) := by decide +kernel
theorem dl_551 : decode cL_law 551 = .ok (.iadd, 1) := by decide +kernel
theorem dl_552 : decode cL_law 552 = .ok (.iaload, 1) := by decide +kernel
theorem dl_553 : decode cL_law 553 = .ok (.aload_n 0, 1) := by decide +kernel
theorem dl_554 : decode cL_law 554 = .ok (.iload 4, 2) := by decide +kernel
theorem dl_556 : decode cL_law 556 = .ok (.iconst 3, 1) := by decide +kernel
theorem dl_557 : decode cL_law 557 = .ok (.iadd, 1) := by decide +kernel
theorem dl_558 : decode cL_law 558 = .ok (.iaload, 1) := by decide +kernel
theorem dl_559 : decode cL_law 559 = .ok (.invokevirtual 92, 3) := by decide +kernel
theorem dl_562 : decode cL_law 562 = .ok (.pop, 1) := by decide +kernel
theorem dl_563 : decode cL_law 563 = .ok (.goto 246, 3) := by decide +kernel
section LWD
variable {p : Program} {l : Launch} {e : Env} {s : State} {m : MethodId} {below : List Frame} {meth : Method} {c : Code} {A : Nat → Prop} {b L : Nat} {xs : Nat → Int32} {D : va_G} {g : xe_G} {x m0 qo : Nat} {aO : ClassId} {q : Nat → Nat} {kr : rR} {Ic : rI} {Rc : rR}
variable {cc : GH} {fed P cells slots : Nat} {fo : Nat → Int64} {H : Heap} {locs : List Loc} {ls : Array Slot} {Q : State → Prop} {i : Int32}

set_option maxHeartbeats 4000000 in
set_option maxRecDepth 100000 in
theorem law_8 (hx : p.tables.exec = Jvm.exec) (hb : c.code = cL_law) (hml : c.maxLocals = 7) (hown : s.vm.findClass RL = some m.cls) (htb : ∀ w ∈ bg, w.before #[Value.ref b] s = true) (hA : ∀ q : Nat, s.heap.size ≤ q → A q) (hE : xe_E g A s s.heap) (hnt : l.stackTraces = false) (hX : va_X b L xs s s.heap) (hbl : b < s.heap.size) (hbA : ¬ A b) (hKo : va_K D vwCl [(aO, .long)] s) (hAo : A qo) (hi1 : vp_in (i + 1) L) (hi2 : vp_in (i + 2) L) (hi3 : vp_in (i + 3) L) (hi4 : vp_in (i + 4) L) (hi5 : vp_in (i + 5) L) (h3 : L3 g D A s x m0 q kr Ic Rc qo aO mT1 cc cc fed P fo H) (hS : va_S A s.heap H locs) (hl : lv_has ls 7 [(0, .ref b), (1, .ref x), (2, .ref m0), (3, .ref qo), (4, .int i)]) (hc : cells + 320026 ≤ 601024) (hs : slots + 320064 + 40 * fed ≤ 7293034)
    (kk : ∀ (P1 : Nat) (cc1 : GH) (fo1 : Nat → Int64) (H1 : Heap) (locs1 : List Loc) (ls1 : Array Slot), P ≤ P1 → L3 g D A s x m0 q kr Ic Rc qo aO mT1 cc1 cc1 fed P1 fo1 H1 → va_S A s.heap H1 locs1 → lv_has ls1 7 [(0, .ref b), (1, .ref x), (2, .ref m0), (3, .ref qo), (4, .int i)] → W p l e room_1 s m #[Value.ref b] below meth c H1 locs1 (cells + (P1 - P) + 26) (slots + (P1 - P) + (64 + 40 * fed)) Q (F0 m 809 ls1 [])) :
    W p l e room_1 s m #[Value.ref b] below meth c H locs cells slots Q (F0 m 408 ls []) := by
  have hpt := h3.pot
  refine lv_aload_n hx hb dl_408 rfl (lv_at hl 1 rfl) ?_
  refine lv_aload_n hx hb dl_409 rfl (lv_at hl 0 rfl) ?_
  refine lv_iload hx hb dl_410 (lv_at hl 4 rfl) ?_
  refine lv_iconst (v := 1) hx hb dl_412 (by decide) ?_
  refine lv_iadd hx hb dl_413 ?_
  refine va_sld hx hb hX hbl hbA hS hi1 dl_414 ?_
  refine lc_cls (n := 1) (y := 17) (qm := (yX11_places, cX11_places, 2, (some .int))) (As := [.int (xs (Int32.toNatClampNeg (i + 1)))]) (S := 64 + 40 * fed) (V := fun v => v = some (.int (plK cc.2.2.2.2.2 (xs (Int32.toNatClampNeg (i + 1)))))) hx hb hml hown htb hA hE rfl bg_1408 bg_1409 bg_1410 bg_774 bg_881 ⟨by decide, by decide, by decide +kernel⟩ (by decide) dl_415 rfl rfl h3 hS hl.1 (fun M hG => gx_placesX hG (by decide)) (by omega) (by omega) (fun v P1 H locs hV hP1 h3 hS => ?_)
  have hpt := h3.pot
  subst hV
  refine lv_pop (va := .int (plK cc.2.2.2.2.2 (xs (Int32.toNatClampNeg (i + 1))))) hx hb dl_418 rfl ?_
  refine lv_aload_n hx hb dl_419 rfl (lv_at hl 2 rfl) ?_
  refine lv_aload_n hx hb dl_420 rfl (lv_at hl 0 rfl) ?_
  refine lv_iload hx hb dl_421 (lv_at hl 4 rfl) ?_
  refine lv_iconst (v := 1) hx hb dl_423 (by decide) ?_
  refine lv_iadd hx hb dl_424 ?_
  refine va_sld hx hb hX hbl hbA hS hi1 dl_425 ?_
  refine lc_ref (rest := []) (n := 1) (y := 232) (qm := (yX12_places, cX12_places, 5, (some .int))) (As := [.int (xs (Int32.toNatClampNeg (i + 1)))]) (V := fun v => v = some (.int (plK cc.2.2.2.2.2 (xs (Int32.toNatClampNeg (i + 1)))))) (X' := mT1) (cr' := cc) (Nat.le_of_ble_eq_true rfl) hx hb hml hown htb hA hE rfl bg_1411 bg_1412 bg_1413 bg_974 bg_1210 ⟨by decide, by decide, by decide +kernel⟩ (by decide) dl_426 rfl rfl h3 hS hl.1 (fun M hR _ => (rx_placesX hR (by decide)).imp (fun v M' h => ⟨h.1, h.2, trivial⟩)) (by omega) (by omega) (fun v H locs hV h3 hS => ?_)
  subst hV
  refine lv_pop (va := .int (plK cc.2.2.2.2.2 (xs (Int32.toNatClampNeg (i + 1))))) hx hb dl_429 rfl ?_
  refine lv_goto (tgt := 809) hx hb dl_430 (by decide) ?_
  exact kk P1 _ _ H locs ls hP1 h3 hS (lv_sub hl [0, 1, 2, 3, 4] rfl)
set_option maxHeartbeats 4000000 in
set_option maxRecDepth 100000 in
theorem law_9 (hx : p.tables.exec = Jvm.exec) (hb : c.code = cL_law) (hml : c.maxLocals = 7) (hown : s.vm.findClass RL = some m.cls) (htb : ∀ w ∈ bg, w.before #[Value.ref b] s = true) (hA : ∀ q : Nat, s.heap.size ≤ q → A q) (hE : xe_E g A s s.heap) (hnt : l.stackTraces = false) (hX : va_X b L xs s s.heap) (hbl : b < s.heap.size) (hbA : ¬ A b) (hKo : va_K D vwCl [(aO, .long)] s) (hAo : A qo) (hi1 : vp_in (i + 1) L) (hi2 : vp_in (i + 2) L) (hi3 : vp_in (i + 3) L) (hi4 : vp_in (i + 4) L) (hi5 : vp_in (i + 5) L) (h3 : L3 g D A s x m0 q kr Ic Rc qo aO mT1 cc cc fed P fo H) (hS : va_S A s.heap H locs) (hl : lv_has ls 7 [(0, .ref b), (1, .ref x), (2, .ref m0), (3, .ref qo), (4, .int i)]) (hc : cells + 320026 ≤ 601024) (hs : slots + 320064 + 40 * fed ≤ 7293034)
    (kk : ∀ (P1 : Nat) (cc1 : GH) (fo1 : Nat → Int64) (H1 : Heap) (locs1 : List Loc) (ls1 : Array Slot), P ≤ P1 → L3 g D A s x m0 q kr Ic Rc qo aO mT1 cc1 cc1 fed P1 fo1 H1 → va_S A s.heap H1 locs1 → lv_has ls1 7 [(0, .ref b), (1, .ref x), (2, .ref m0), (3, .ref qo), (4, .int i)] → W p l e room_1 s m #[Value.ref b] below meth c H1 locs1 (cells + (P1 - P) + 26) (slots + (P1 - P) + (64 + 40 * fed)) Q (F0 m 809 ls1 [])) :
    W p l e room_1 s m #[Value.ref b] below meth c H locs cells slots Q (F0 m 433 ls []) := by
  have hpt := h3.pot
  refine lv_aload_n hx hb dl_433 rfl (lv_at hl 1 rfl) ?_
  refine lv_aload_n hx hb dl_434 rfl (lv_at hl 0 rfl) ?_
  refine lv_iload hx hb dl_435 (lv_at hl 4 rfl) ?_
  refine lv_iconst (v := 1) hx hb dl_437 (by decide) ?_
  refine lv_iadd hx hb dl_438 ?_
  refine va_sld hx hb hX hbl hbA hS hi1 dl_439 ?_
  refine lw_boolx hx hb dl_440 dl_443 dl_444 dl_447 ?_
  refine lv_aload_n hx hb dl_448 rfl (lv_at hl 0 rfl) ?_
  refine lv_iload hx hb dl_449 (lv_at hl 4 rfl) ?_
  refine lv_iconst (v := 2) hx hb dl_451 (by decide) ?_
  refine lv_iadd hx hb dl_452 ?_
  refine va_sld hx hb hX hbl hbA hS hi2 dl_453 ?_
  refine lv_aload_n hx hb dl_454 rfl (lv_at hl 0 rfl) ?_
  refine lv_iload hx hb dl_455 (lv_at hl 4 rfl) ?_
  refine lv_iconst (v := 3) hx hb dl_457 (by decide) ?_
  refine lv_iadd hx hb dl_458 ?_
  refine va_sld hx hb hX hbl hbA hS hi3 dl_459 ?_
  refine lv_aload_n hx hb dl_460 rfl (lv_at hl 3 rfl) ?_
  refine lc_hlp (n := 5) (av := [.ref x, .int (bz (xs (Int32.toNatClampNeg (i + 1)))), .int (xs (Int32.toNatClampNeg (i + 2))), .int (xs (Int32.toNatClampNeg (i + 3))), .ref qo]) (yh := yL_member) (bytes := cL_member) (maxL := 6) (hh := [(0, 12, 15, 19)]) (S := 64 + 40 * fed) hx hb hml hown htb hA hE bg_1414 bg_1415 bg_1362 bg_1339 ⟨by decide, by decide, by decide +kernel⟩ (by decide) dl_461 rfl rfl h3 hS hl.1 hKo hAo (fun M hG => hp_member l D g hnt hG) (by omega) (by omega) (fun r P1 fo1 H locs hV hP1 h3 hS => ?_)
  have hpt := h3.pot
  refine lv_istore (lv' := [(5, .int r), (0, .ref b), (1, .ref x), (2, .ref m0), (3, .ref qo), (4, .int i)]) hx hb dl_464 hl (by decide) rfl (fun ls hl => ?_)
  refine lv_aload_n hx hb dl_466 rfl (lv_at hl 3 rfl) ?_
  refine lv_aload_n hx hb dl_467 rfl (lv_at hl 1 rfl) ?_
  refine lv_iload hx hb dl_468 (lv_at hl 5 rfl) ?_
  refine lv_iconst (v := 1) hx hb dl_470 (by decide) ?_
  refine lv_iadd hx hb dl_471 ?_
  refine va_sld hx hb hX hbl hbA hS hi1 dl_472 ?_
  refine lw_boolx hx hb dl_473 dl_476 dl_477 dl_480 ?_
  refine lv_aload_n hx hb dl_481 rfl (lv_at hl 1 rfl) ?_
  refine lv_iload hx hb dl_482 (lv_at hl 5 rfl) ?_
  refine lv_iconst (v := 2) hx hb dl_484 (by decide) ?_
  refine lv_iadd hx hb dl_485 ?_
  refine va_sld hx hb hX hbl hbA hS hi2 dl_486 ?_
  refine lv_aload_n hx hb dl_487 rfl (lv_at hl 1 rfl) ?_
  refine lv_iload hx hb dl_488 (lv_at hl 5 rfl) ?_
  refine lv_iconst (v := 3) hx hb dl_490 (by decide) ?_
  refine lv_iadd hx hb dl_491 ?_
  refine va_sld hx hb hX hbl hbA hS hi3 dl_492 ?_
  refine lc_ref (rest := []) (n := 3) (y := 223) (qm := (yX12_member, cX12_member, 4, (some .int))) (As := [.int (bz (xs (Int32.toNatClampNeg (i + 1)))), .int (xs (Int32.toNatClampNeg (i + 2))), .int (xs (Int32.toNatClampNeg (i + 3)))]) (V := fun v => ∃ y : Int32, v = some (.int y)) (X' := mT1) (cr' := cc) (Nat.le_of_ble_eq_true rfl) hx hb hml hown htb hA hE rfl bg_1416 bg_1417 bg_1418 bg_974 bg_1206 ⟨by decide, by decide, by decide +kernel⟩ (by decide) dl_493 rfl rfl h3 hS hl.1 (fun M hR _ => (rx_member hR (by decide)).imp (fun v M' h => ⟨h.1, h.2, trivial⟩)) (by omega) (by omega) (fun v H locs hV h3 hS => ?_)
  obtain ⟨y2, rfl⟩ := hV
  refine lv_istore (lv' := [(6, .int y2), (5, .int r), (0, .ref b), (1, .ref x), (2, .ref m0), (3, .ref qo), (4, .int i)]) hx hb dl_496 hl (by decide) rfl (fun ls hl => ?_)
  refine lv_goto (tgt := 809) hx hb dl_498 (by decide) ?_
  exact kk P1 _ _ H locs ls hP1 h3 hS (lv_sub hl [2, 3, 4, 5, 6] rfl)
set_option maxHeartbeats 4000000 in
set_option maxRecDepth 100000 in
theorem law_10 (hx : p.tables.exec = Jvm.exec) (hb : c.code = cL_law) (hml : c.maxLocals = 7) (hown : s.vm.findClass RL = some m.cls) (htb : ∀ w ∈ bg, w.before #[Value.ref b] s = true) (hA : ∀ q : Nat, s.heap.size ≤ q → A q) (hE : xe_E g A s s.heap) (hnt : l.stackTraces = false) (hX : va_X b L xs s s.heap) (hbl : b < s.heap.size) (hbA : ¬ A b) (hKo : va_K D vwCl [(aO, .long)] s) (hAo : A qo) (hi1 : vp_in (i + 1) L) (hi2 : vp_in (i + 2) L) (hi3 : vp_in (i + 3) L) (hi4 : vp_in (i + 4) L) (hi5 : vp_in (i + 5) L) (h3 : L3 g D A s x m0 q kr Ic Rc qo aO mT1 cc cc fed P fo H) (hS : va_S A s.heap H locs) (hl : lv_has ls 7 [(0, .ref b), (1, .ref x), (2, .ref m0), (3, .ref qo), (4, .int i)]) (hc : cells + 320026 ≤ 601024) (hs : slots + 320064 + 40 * fed ≤ 7293034)
    (kk : ∀ (P1 : Nat) (cc1 : GH) (fo1 : Nat → Int64) (H1 : Heap) (locs1 : List Loc) (ls1 : Array Slot), P ≤ P1 → L3 g D A s x m0 q kr Ic Rc qo aO mT1 cc1 cc1 fed P1 fo1 H1 → va_S A s.heap H1 locs1 → lv_has ls1 7 [(0, .ref b), (1, .ref x), (2, .ref m0), (3, .ref qo), (4, .int i)] → W p l e room_1 s m #[Value.ref b] below meth c H1 locs1 (cells + (P1 - P) + 26) (slots + (P1 - P) + (64 + 40 * fed)) Q (F0 m 809 ls1 [])) :
    W p l e room_1 s m #[Value.ref b] below meth c H locs cells slots Q (F0 m 501 ls []) := by
  have hpt := h3.pot
  refine lv_aload_n hx hb dl_501 rfl (lv_at hl 1 rfl) ?_
  refine lv_aload_n hx hb dl_502 rfl (lv_at hl 0 rfl) ?_
  refine lv_iload hx hb dl_503 (lv_at hl 4 rfl) ?_
  refine lv_iconst (v := 1) hx hb dl_505 (by decide) ?_
  refine lv_iadd hx hb dl_506 ?_
  refine va_sld hx hb hX hbl hbA hS hi1 dl_507 ?_
  refine lw_boolx hx hb dl_508 dl_511 dl_512 dl_515 ?_
  refine lv_aload_n hx hb dl_516 rfl (lv_at hl 0 rfl) ?_
  refine lv_iload hx hb dl_517 (lv_at hl 4 rfl) ?_
  refine lv_iconst (v := 2) hx hb dl_519 (by decide) ?_
  refine lv_iadd hx hb dl_520 ?_
  refine va_sld hx hb hX hbl hbA hS hi2 dl_521 ?_
  refine lv_aload_n hx hb dl_522 rfl (lv_at hl 0 rfl) ?_
  refine lv_iload hx hb dl_523 (lv_at hl 4 rfl) ?_
  refine lv_iconst (v := 3) hx hb dl_525 (by decide) ?_
  refine lv_iadd hx hb dl_526 ?_
  refine va_sld hx hb hX hbl hbA hS hi3 dl_527 ?_
  refine lc_cls (n := 3) (y := 10) (qm := (yX11_find, cX11_find, 5, (some .int))) (As := [.int (bz (xs (Int32.toNatClampNeg (i + 1)))), .int (xs (Int32.toNatClampNeg (i + 2))), .int (xs (Int32.toNatClampNeg (i + 3)))]) (S := 64 + 40 * fed) (V := fun v => v = some (.int (fdK cc.2.2.2.2.2 (bz (xs (Int32.toNatClampNeg (i + 1)))) (xs (Int32.toNatClampNeg (i + 2))) (xs (Int32.toNatClampNeg (i + 3)))))) hx hb hml hown htb hA hE rfl bg_1419 bg_1420 bg_1421 bg_774 bg_890 ⟨by decide, by decide, by decide +kernel⟩ (by decide) dl_528 rfl rfl h3 hS hl.1 (fun M hG => gx_findX hG (by decide)) (by omega) (by omega) (fun v P1 H locs hV hP1 h3 hS => ?_)
  have hpt := h3.pot
  subst hV
  refine lv_pop (va := .int (fdK cc.2.2.2.2.2 (bz (xs (Int32.toNatClampNeg (i + 1)))) (xs (Int32.toNatClampNeg (i + 2))) (xs (Int32.toNatClampNeg (i + 3))))) hx hb dl_531 rfl ?_
  refine lv_aload_n hx hb dl_532 rfl (lv_at hl 2 rfl) ?_
  refine lv_aload_n hx hb dl_533 rfl (lv_at hl 0 rfl) ?_
  refine lv_iload hx hb dl_534 (lv_at hl 4 rfl) ?_
  refine lv_iconst (v := 1) hx hb dl_536 (by decide) ?_
  refine lv_iadd hx hb dl_537 ?_
  refine va_sld hx hb hX hbl hbA hS hi1 dl_538 ?_
  refine lw_boolx hx hb dl_539 dl_542 dl_543 dl_546 ?_
  refine lv_aload_n hx hb dl_547 rfl (lv_at hl 0 rfl) ?_
  refine lv_iload hx hb dl_548 (lv_at hl 4 rfl) ?_
  refine lv_iconst (v := 2) hx hb dl_550 (by decide) ?_
  refine lv_iadd hx hb dl_551 ?_
  refine va_sld hx hb hX hbl hbA hS hi2 dl_552 ?_
  refine lv_aload_n hx hb dl_553 rfl (lv_at hl 0 rfl) ?_
  refine lv_iload hx hb dl_554 (lv_at hl 4 rfl) ?_
  refine lv_iconst (v := 3) hx hb dl_556 (by decide) ?_
  refine lv_iadd hx hb dl_557 ?_
  refine va_sld hx hb hX hbl hbA hS hi3 dl_558 ?_
  refine lc_ref (rest := []) (n := 3) (y := 207) (qm := (yX12_find, cX12_find, 7, (some .int))) (As := [.int (bz (xs (Int32.toNatClampNeg (i + 1)))), .int (xs (Int32.toNatClampNeg (i + 2))), .int (xs (Int32.toNatClampNeg (i + 3)))]) (V := fun v => v = some (.int (fdK cc.2.2.2.2.2 (bz (xs (Int32.toNatClampNeg (i + 1)))) (xs (Int32.toNatClampNeg (i + 2))) (xs (Int32.toNatClampNeg (i + 3)))))) (X' := mT1) (cr' := cc) (Nat.le_of_ble_eq_true rfl) hx hb hml hown htb hA hE rfl bg_1422 bg_1423 bg_1424 bg_974 bg_1207 ⟨by decide, by decide, by decide +kernel⟩ (by decide) dl_559 rfl rfl h3 hS hl.1 (fun M hR _ => (rx_findX hR (by decide)).imp (fun v M' h => ⟨h.1, h.2, trivial⟩)) (by omega) (by omega) (fun v H locs hV h3 hS => ?_)
  subst hV
  refine lv_pop (va := .int (fdK cc.2.2.2.2.2 (bz (xs (Int32.toNatClampNeg (i + 1)))) (xs (Int32.toNatClampNeg (i + 2))) (xs (Int32.toNatClampNeg (i + 3))))) hx hb dl_562 rfl ?_
  refine lv_goto (tgt := 809) hx hb dl_563 (by decide) ?_
  exact kk P1 _ _ H locs ls hP1 h3 hS (lv_sub hl [0, 1, 2, 3, 4] rfl)
end LWD
