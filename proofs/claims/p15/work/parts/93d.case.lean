/-! cases of the law (laid by wip/p2/c92.py) -/
theorem dl_380 : decode cL_law 380 = .ok (.aload_n 1, 1) := by decide +kernel
theorem dl_381 : decode cL_law 381 = .ok (.aload_n 0, 1) := by decide +kernel
theorem dl_382 : decode cL_law 382 = .ok (.iload 4, 2) := by decide +kernel
theorem dl_384 : decode cL_law 384 = .ok (.iconst 1, 1) := by decide +kernel
theorem dl_385 : decode cL_law 385 = .ok (.iadd, 1) := by decide +kernel
theorem dl_386 : decode cL_law 386 = .ok (.iaload, 1) := by decide +kernel
theorem dl_387 : decode cL_law 387 = .ok (.invokevirtual 78, 3) := by decide +kernel
theorem dl_390 : decode cL_law 390 = .ok (.pop, 1) := by decide +kernel
theorem dl_391 : decode cL_law 391 = .ok (.aload_n 2, 1) := by decide +kernel
theorem dl_392 : decode cL_law 392 = .ok (.aload_n 0, 1) := by decide +kernel
theorem dl_393 : decode cL_law 393 = .ok (.iload 4, 2) := by decide +kernel
theorem dl_395 : decode cL_law 395 = .ok (.iconst 1, 1) := by decide +kernel
theorem dl_396 : decode cL_law 396 = .ok (.iadd, 1) := by decide +kernel
theorem dl_397 : decode cL_law 397 = .ok (.iaload, 1) := by decide +kernel
theorem dl_398 : decode cL_law 398 = .ok (.invokevirtual 81, 3) := by decide +kernel
theorem dl_401 : decode cL_law 401 = .ok (.pop, 1) := by decide +kernel
theorem dl_402 : decode cL_law 402 = .ok (.goto 379, 3) := by decide +kernel
theorem dl_405 : decode cL_law 405 = .ok (.aload_n 1, 1) := by decide +kernel
theorem dl_406 : decode cL_law 406 = .ok (.aload_n 0, 1) := by decide +kernel
theorem dl_407 : decode cL_law 407 = .ok (.iload 4, 2) := by decide +kernel
theorem dl_409 : decode cL_law 409 = .ok (.iconst 1, 1) := by decide +kernel
theorem dl_410 : decode cL_law 410 = .ok (.iadd, 1) := by decide +kernel
theorem dl_411 : decode cL_law 411 = .ok (.iaload, 1) := by decide +kernel
theorem dl_415 : decode cL_law 415 = .ok (.iconst 1, 1) := by decide +kernel
theorem dl_416 : decode cL_law 416 = .ok (.goto 4, 3) := by decide +kernel
theorem dl_419 : decode cL_law 419 = .ok (.iconst 0, 1) := by decide +kernel
theorem dl_412 : decode cL_law 412 = .ok (.ifCond .eq 7, 3) := by decide +kernel
theorem dl_420 : decode cL_law 420 = .ok (.aload_n 0, 1) := by decide +kernel
theorem dl_421 : decode cL_law 421 = .ok (.iload 4, 2) := by decide +kernel
theorem dl_423 : decode cL_law 423 = .ok (.iconst 2, 1) := by decide +kernel
theorem dl_424 : decode cL_law 424 = .ok (.iadd, 1) := by decide +kernel
theorem dl_425 : decode cL_law 425 = .ok (.iaload, 1) := by decide +kernel
theorem dl_426 : decode cL_law 426 = .ok (.aload_n 0, 1) := by decide +kernel
theorem dl_427 : decode cL_law 427 = .ok (.iload 4, 2) := by decide +kernel
theorem dl_429 : decode cL_law 429 = .ok (.iconst 3, 1) := by decide +kernel
theorem dl_430 : decode cL_law 430 = .ok (.iadd, 1) := by decide +kernel
theorem dl_431 : decode cL_law 431 = .ok (.iaload, 1) := by decide +kernel
theorem dl_432 : decode cL_law 432 = .ok (.aload_n 3, 1) := by decide +kernel
theorem dl_433 : decode cL_law 433 = .ok (.invokestatic 82, 3) := by decide +kernel
theorem dl_436 : decode cL_law 436 = .ok (.istore 5, 2) := by decide +kernel
theorem dl_438 : decode cL_law 438 = .ok (.aload_n 2, 1) := by decide +kernel
theorem dl_439 : decode cL_law 439 = .ok (.aload_n 0, 1) := by decide +kernel
theorem dl_440 : decode cL_law 440 = .ok (.iload 4, 2) := by decide +kernel
theorem dl_442 : decode cL_law 442 = .ok (.iconst 1, 1) := by decide +kernel
theorem dl_443 : decode cL_law 443 = .ok (.iadd, 1) := by decide +kernel
theorem dl_444 : decode cL_law 444 = .ok (.iaload, 1) := by decide +kernel
theorem dl_448 : decode cL_law 448 = .ok (.iconst 1, 1) := by decide +kernel
theorem dl_449 : decode cL_law 449 = .ok (.goto 4, 3) := by decide +kernel
theorem dl_452 : decode cL_law 452 = .ok (.iconst 0, 1) := by decide +kernel
theorem dl_445 : decode cL_law 445 = .ok (.ifCond .eq 7, 3) := by decide +kernel
theorem dl_453 : decode cL_law 453 = .ok (.aload_n 0, 1) := by decide +kernel
theorem dl_454 : decode cL_law 454 = .ok (.iload 4, 2) := by decide +kernel
theorem dl_456 : decode cL_law 456 = .ok (.iconst 2, 1) := by decide +kernel
theorem dl_457 : decode cL_law 457 = .ok (.iadd, 1) := by decide +kernel
theorem dl_458 : decode cL_law 458 = .ok (.iaload, 1) := by decide +kernel
theorem dl_459 : decode cL_law 459 = .ok (.aload_n 0, 1) := by decide +kernel
theorem dl_460 : decode cL_law 460 = .ok (.iload 4, 2) := by decide +kernel
theorem dl_462 : decode cL_law 462 = .ok (.iconst 3, 1) := by decide +kernel
theorem dl_463 : decode cL_law 463 = .ok (.iadd, 1) := by decide +kernel
theorem dl_464 : decode cL_law 464 = .ok (.iaload, 1) := by decide +kernel
theorem dl_465 : decode cL_law 465 = .ok (.invokevirtual 85, 3) := by decide +kernel
theorem dl_468 : decode cL_law 468 = .ok (.istore 6, 2) := by decide +kernel
theorem dl_470 : decode cL_law 470 = .ok (.goto 311, 3) := by decide +kernel
theorem dl_473 : decode cL_law 473 = .ok (.aload_n 1, 1) := by decide +kernel
theorem dl_474 : decode cL_law 474 = .ok (.aload_n 0, 1) := by decide +kernel
theorem dl_475 : decode cL_law 475 = .ok (.iload 4, 2) := by decide +kernel
theorem dl_477 : decode cL_law 477 = .ok (.iconst 1, 1) := by decide +kernel
theorem dl_478 : decode cL_law 478 = .ok (.iadd, 1) := by decide +kernel
theorem dl_479 : decode cL_law 479 = .ok (.iaload, 1) := by decide +kernel
theorem dl_483 : decode cL_law 483 = .ok (.iconst 1, 1) := by decide +kernel
theorem dl_484 : decode cL_law 484 = .ok (.goto 4, 3) := by decide +kernel
theorem dl_487 : decode cL_law 487 = .ok (.iconst 0, 1) := by decide +kernel
theorem dl_480 : decode cL_law 480 = .ok (.ifCond .eq 7, 3) := by decide +kernel
theorem dl_488 : decode cL_law 488 = .ok (.aload_n 0, 1) := by decide +kernel
theorem dl_489 : decode cL_law 489 = .ok (.iload 4, 2) := by decide +kernel
theorem dl_491 : decode cL_law 491 = .ok (.iconst 2, 1) := by decide +kernel
theorem dl_492 : decode cL_law 492 = .ok (.iadd, 1) := by decide +kernel
theorem dl_493 : decode cL_law 493 = .ok (.iaload, 1) := by decide +kernel
theorem dl_494 : decode cL_law 494 = .ok (.aload_n 0, 1) := by decide +kernel
theorem dl_495 : decode cL_law 495 = .ok (.iload 4, 2) := by decide +kernel
theorem dl_497 : decode cL_law 497 = .ok (.iconst 3, 1) := by decide +kernel
theorem dl_498 : decode cL_law 498 = .ok (.iadd, 1) := by decide +kernel
theorem dl_499 : decode cL_law 499 = .ok (.iaload, 1) := by decide +kernel
theorem dl_500 : decode cL_law 500 = .ok (.invokevirtual 86, 3) := by decide +kernel
theorem dl_503 : decode cL_law 503 = .ok (.pop, 1) := by decide +kernel
theorem dl_504 : decode cL_law 504 = .ok (.aload_n 2, 1) := by decide +kernel
theorem dl_505 : decode cL_law 505 = .ok (.aload_n 0, 1) := by decide +kernel
theorem dl_506 : decode cL_law 506 = .ok (.iload 4, 2) := by decide +kernel
theorem dl_508 : decode cL_law 508 = .ok (.iconst 1, 1) := by decide +kernel
theorem dl_509 : decode cL_law 509 = .ok (.iadd, 1) := by decide +kernel
theorem dl_510 : decode cL_law 510 = .ok (.iaload, 1) := by decide +kernel
theorem dl_514 : decode cL_law 514 = .ok (.iconst 1, 1) := by decide +kernel
theorem dl_515 : decode cL_law 515 = .ok (.goto 4, 3) := by decide +kernel
theorem dl_518 : decode cL_law 518 = .ok (.iconst 0, 1) := by decide +kernel
theorem dl_511 : decode cL_law 511 = .ok (.ifCond .eq 7, 3) := by decide +kernel
theorem dl_519 : decode cL_law 519 = .ok (.aload_n 0, 1) := by decide +kernel
theorem dl_520 : decode cL_law 520 = .ok (.iload 4, 2) := by decide +kernel
theorem dl_522 : decode cL_law 522 = .ok (.iconst 2, 1) := by decide +kernel
theorem dl_523 : decode cL_law 523 = .ok (.iadd, 1) := by decide +kernel
theorem dl_524 : decode cL_law 524 = .ok (.iaload, 1) := by decide +kernel
theorem dl_525 : decode cL_law 525 = .ok (.aload_n 0, 1) := by decide +kernel
theorem dl_526 : decode cL_law 526 = .ok (.iload 4, 2) := by decide +kernel
theorem dl_528 : decode cL_law 528 = .ok (.iconst 3, 1) := by decide +kernel
theorem dl_529 : decode cL_law 529 = .ok (.iadd, 1) := by decide +kernel
theorem dl_530 : decode cL_law 530 = .ok (.iaload, 1) := by decide +kernel
theorem dl_531 : decode cL_law 531 = .ok (.invokevirtual 89, 3) := by decide +kernel
theorem dl_534 : decode cL_law 534 = .ok (.pop, 1) := by decide +kernel
theorem dl_535 : decode cL_law 535 = .ok (.goto 246, 3) := by decide +kernel
section LWD
variable {p : Program} {l : Launch} {e : Env} {s : State} {m : MethodId} {below : List Frame} {meth : Method} {c : Code} {A : Nat → Prop} {b L : Nat} {xs : Nat → Int32} {D : va_G} {g : xe_G} {x m0 qo : Nat} {aO : ClassId} {q : Nat → Nat} {kr : rR} {Ic : rI} {Rc : rR}
variable {cc : GH} {fed P cells slots : Nat} {fo : Nat → Int64} {H : Heap} {locs : List Loc} {ls : Array Slot} {Q : State → Prop} {i : Int32}

set_option maxHeartbeats 4000000 in
set_option maxRecDepth 100000 in
theorem law_8 (hx : p.tables.exec = Jvm.exec) (hb : c.code = cL_law) (hml : c.maxLocals = 7) (hown : s.vm.findClass RL = some m.cls) (htb : ∀ w ∈ bg, w.before #[Value.ref b] s = true) (hA : ∀ q : Nat, s.heap.size ≤ q → A q) (hE : xe_E g A s s.heap) (hnt : l.stackTraces = false) (hX : va_X b L xs s s.heap) (hbl : b < s.heap.size) (hbA : ¬ A b) (hKo : va_K D vwCl [(aO, .long)] s) (hAo : A qo) (hi1 : vp_in (i + 1) L) (hi2 : vp_in (i + 2) L) (hi3 : vp_in (i + 3) L) (hi4 : vp_in (i + 4) L) (hi5 : vp_in (i + 5) L) (h3 : L3 g D A s x m0 q kr Ic Rc qo aO mT1 cc cc fed P fo H) (hS : va_S A s.heap H locs) (hl : lv_has ls 7 [(0, .ref b), (1, .ref x), (2, .ref m0), (3, .ref qo), (4, .int i)]) (hc : cells + 320026 ≤ 601024) (hs : slots + 320064 + 40 * fed ≤ 7293034)
    (kk : ∀ (P1 : Nat) (cc1 : GH) (fo1 : Nat → Int64) (H1 : Heap) (locs1 : List Loc) (ls1 : Array Slot), P ≤ P1 → L3 g D A s x m0 q kr Ic Rc qo aO mT1 cc1 cc1 fed P1 fo1 H1 → va_S A s.heap H1 locs1 → lv_has ls1 7 [(0, .ref b), (1, .ref x), (2, .ref m0), (3, .ref qo), (4, .int i)] → W p l e room_1 s m #[Value.ref b] below meth c H1 locs1 (cells + (P1 - P) + 26) (slots + (P1 - P) + (64 + 40 * fed)) Q (F0 m 781 ls1 [])) :
    W p l e room_1 s m #[Value.ref b] below meth c H locs cells slots Q (F0 m 380 ls []) := by
  have hpt := h3.pot
  refine lv_aload_n hx hb dl_380 rfl (lv_at hl 1 rfl) ?_
  refine lv_aload_n hx hb dl_381 rfl (lv_at hl 0 rfl) ?_
  refine lv_iload hx hb dl_382 (lv_at hl 4 rfl) ?_
  refine lv_iconst (v := 1) hx hb dl_384 (by decide) ?_
  refine lv_iadd hx hb dl_385 ?_
  refine va_sld hx hb hX hbl hbA hS hi1 dl_386 ?_
  refine lc_cls (n := 1) (y := 17) (qm := (yX11_places, cX11_places, 2, (some .int))) (As := [.int (xs (Int32.toNatClampNeg (i + 1)))]) (S := 64 + 40 * fed) (V := fun v => v = some (.int (plK cc.2.2.2.2.2 (xs (Int32.toNatClampNeg (i + 1)))))) hx hb hml hown htb hA hE rfl bg_1404 bg_1405 bg_1406 bg_774 bg_881 ⟨by decide, by decide, by decide +kernel⟩ (by decide) dl_387 rfl rfl h3 hS hl.1 (fun M hG => gx_placesX hG (by decide)) (by omega) (by omega) (fun v P1 H locs hV hP1 h3 hS => ?_)
  have hpt := h3.pot
  subst hV
  refine lv_pop (va := .int (plK cc.2.2.2.2.2 (xs (Int32.toNatClampNeg (i + 1))))) hx hb dl_390 rfl ?_
  refine lv_aload_n hx hb dl_391 rfl (lv_at hl 2 rfl) ?_
  refine lv_aload_n hx hb dl_392 rfl (lv_at hl 0 rfl) ?_
  refine lv_iload hx hb dl_393 (lv_at hl 4 rfl) ?_
  refine lv_iconst (v := 1) hx hb dl_395 (by decide) ?_
  refine lv_iadd hx hb dl_396 ?_
  refine va_sld hx hb hX hbl hbA hS hi1 dl_397 ?_
  refine lc_ref (rest := []) (n := 1) (y := 232) (qm := (yX12_places, cX12_places, 5, (some .int))) (As := [.int (xs (Int32.toNatClampNeg (i + 1)))]) (V := fun v => v = some (.int (plK cc.2.2.2.2.2 (xs (Int32.toNatClampNeg (i + 1)))))) (X' := mT1) (cr' := cc) (Nat.le_of_ble_eq_true rfl) hx hb hml hown htb hA hE rfl bg_1407 bg_1408 bg_1409 bg_972 bg_1209 ⟨by decide, by decide, by decide +kernel⟩ (by decide) dl_398 rfl rfl h3 hS hl.1 (fun M hR _ => (rx_placesX hR (by decide)).imp (fun v M' h => ⟨h.1, h.2, trivial⟩)) (by omega) (by omega) (fun v H locs hV h3 hS => ?_)
  subst hV
  refine lv_pop (va := .int (plK cc.2.2.2.2.2 (xs (Int32.toNatClampNeg (i + 1))))) hx hb dl_401 rfl ?_
  refine lv_goto (tgt := 781) hx hb dl_402 (by decide) ?_
  exact kk P1 _ _ H locs ls hP1 h3 hS (lv_sub hl [0, 1, 2, 3, 4] rfl)
set_option maxHeartbeats 4000000 in
set_option maxRecDepth 100000 in
theorem law_9 (hx : p.tables.exec = Jvm.exec) (hb : c.code = cL_law) (hml : c.maxLocals = 7) (hown : s.vm.findClass RL = some m.cls) (htb : ∀ w ∈ bg, w.before #[Value.ref b] s = true) (hA : ∀ q : Nat, s.heap.size ≤ q → A q) (hE : xe_E g A s s.heap) (hnt : l.stackTraces = false) (hX : va_X b L xs s s.heap) (hbl : b < s.heap.size) (hbA : ¬ A b) (hKo : va_K D vwCl [(aO, .long)] s) (hAo : A qo) (hi1 : vp_in (i + 1) L) (hi2 : vp_in (i + 2) L) (hi3 : vp_in (i + 3) L) (hi4 : vp_in (i + 4) L) (hi5 : vp_in (i + 5) L) (h3 : L3 g D A s x m0 q kr Ic Rc qo aO mT1 cc cc fed P fo H) (hS : va_S A s.heap H locs) (hl : lv_has ls 7 [(0, .ref b), (1, .ref x), (2, .ref m0), (3, .ref qo), (4, .int i)]) (hc : cells + 320026 ≤ 601024) (hs : slots + 320064 + 40 * fed ≤ 7293034)
    (kk : ∀ (P1 : Nat) (cc1 : GH) (fo1 : Nat → Int64) (H1 : Heap) (locs1 : List Loc) (ls1 : Array Slot), P ≤ P1 → L3 g D A s x m0 q kr Ic Rc qo aO mT1 cc1 cc1 fed P1 fo1 H1 → va_S A s.heap H1 locs1 → lv_has ls1 7 [(0, .ref b), (1, .ref x), (2, .ref m0), (3, .ref qo), (4, .int i)] → W p l e room_1 s m #[Value.ref b] below meth c H1 locs1 (cells + (P1 - P) + 26) (slots + (P1 - P) + (64 + 40 * fed)) Q (F0 m 781 ls1 [])) :
    W p l e room_1 s m #[Value.ref b] below meth c H locs cells slots Q (F0 m 405 ls []) := by
  have hpt := h3.pot
  refine lv_aload_n hx hb dl_405 rfl (lv_at hl 1 rfl) ?_
  refine lv_aload_n hx hb dl_406 rfl (lv_at hl 0 rfl) ?_
  refine lv_iload hx hb dl_407 (lv_at hl 4 rfl) ?_
  refine lv_iconst (v := 1) hx hb dl_409 (by decide) ?_
  refine lv_iadd hx hb dl_410 ?_
  refine va_sld hx hb hX hbl hbA hS hi1 dl_411 ?_
  refine lw_boolx hx hb dl_412 dl_415 dl_416 dl_419 ?_
  refine lv_aload_n hx hb dl_420 rfl (lv_at hl 0 rfl) ?_
  refine lv_iload hx hb dl_421 (lv_at hl 4 rfl) ?_
  refine lv_iconst (v := 2) hx hb dl_423 (by decide) ?_
  refine lv_iadd hx hb dl_424 ?_
  refine va_sld hx hb hX hbl hbA hS hi2 dl_425 ?_
  refine lv_aload_n hx hb dl_426 rfl (lv_at hl 0 rfl) ?_
  refine lv_iload hx hb dl_427 (lv_at hl 4 rfl) ?_
  refine lv_iconst (v := 3) hx hb dl_429 (by decide) ?_
  refine lv_iadd hx hb dl_430 ?_
  refine va_sld hx hb hX hbl hbA hS hi3 dl_431 ?_
  refine lv_aload_n hx hb dl_432 rfl (lv_at hl 3 rfl) ?_
  refine lc_hlp (n := 5) (av := [.ref x, .int (bz (xs (Int32.toNatClampNeg (i + 1)))), .int (xs (Int32.toNatClampNeg (i + 2))), .int (xs (Int32.toNatClampNeg (i + 3))), .ref qo]) (yh := yL_member) (bytes := cL_member) (maxL := 6) (hh := [(0, 12, 15, 19)]) (S := 64 + 40 * fed) hx hb hml hown htb hA hE bg_1410 bg_1411 bg_1361 bg_1338 ⟨by decide, by decide, by decide +kernel⟩ (by decide) dl_433 rfl rfl h3 hS hl.1 hKo hAo (fun M hG => hp_member l D g hnt hG) (by omega) (by omega) (fun r P1 fo1 H locs hV hP1 h3 hS => ?_)
  have hpt := h3.pot
  refine lv_istore (lv' := [(5, .int r), (0, .ref b), (1, .ref x), (2, .ref m0), (3, .ref qo), (4, .int i)]) hx hb dl_436 hl (by decide) rfl (fun ls hl => ?_)
  refine lv_aload_n hx hb dl_438 rfl (lv_at hl 3 rfl) ?_
  refine lv_aload_n hx hb dl_439 rfl (lv_at hl 1 rfl) ?_
  refine lv_iload hx hb dl_440 (lv_at hl 5 rfl) ?_
  refine lv_iconst (v := 1) hx hb dl_442 (by decide) ?_
  refine lv_iadd hx hb dl_443 ?_
  refine va_sld hx hb hX hbl hbA hS hi1 dl_444 ?_
  refine lw_boolx hx hb dl_445 dl_448 dl_449 dl_452 ?_
  refine lv_aload_n hx hb dl_453 rfl (lv_at hl 1 rfl) ?_
  refine lv_iload hx hb dl_454 (lv_at hl 5 rfl) ?_
  refine lv_iconst (v := 2) hx hb dl_456 (by decide) ?_
  refine lv_iadd hx hb dl_457 ?_
  refine va_sld hx hb hX hbl hbA hS hi2 dl_458 ?_
  refine lv_aload_n hx hb dl_459 rfl (lv_at hl 1 rfl) ?_
  refine lv_iload hx hb dl_460 (lv_at hl 5 rfl) ?_
  refine lv_iconst (v := 3) hx hb dl_462 (by decide) ?_
  refine lv_iadd hx hb dl_463 ?_
  refine va_sld hx hb hX hbl hbA hS hi3 dl_464 ?_
  refine lc_ref (rest := []) (n := 3) (y := 223) (qm := (yX12_member, cX12_member, 4, (some .int))) (As := [.int (bz (xs (Int32.toNatClampNeg (i + 1)))), .int (xs (Int32.toNatClampNeg (i + 2))), .int (xs (Int32.toNatClampNeg (i + 3)))]) (V := fun v => ∃ y : Int32, v = some (.int y)) (X' := mT1) (cr' := cc) (Nat.le_of_ble_eq_true rfl) hx hb hml hown htb hA hE rfl bg_1412 bg_1413 bg_1414 bg_972 bg_1205 ⟨by decide, by decide, by decide +kernel⟩ (by decide) dl_465 rfl rfl h3 hS hl.1 (fun M hR _ => (rx_member hR (by decide)).imp (fun v M' h => ⟨h.1, h.2, trivial⟩)) (by omega) (by omega) (fun v H locs hV h3 hS => ?_)
  obtain ⟨y2, rfl⟩ := hV
  refine lv_istore (lv' := [(6, .int y2), (5, .int r), (0, .ref b), (1, .ref x), (2, .ref m0), (3, .ref qo), (4, .int i)]) hx hb dl_468 hl (by decide) rfl (fun ls hl => ?_)
  refine lv_goto (tgt := 781) hx hb dl_470 (by decide) ?_
  exact kk P1 _ _ H locs ls hP1 h3 hS (lv_sub hl [2, 3, 4, 5, 6] rfl)
set_option maxHeartbeats 4000000 in
set_option maxRecDepth 100000 in
theorem law_10 (hx : p.tables.exec = Jvm.exec) (hb : c.code = cL_law) (hml : c.maxLocals = 7) (hown : s.vm.findClass RL = some m.cls) (htb : ∀ w ∈ bg, w.before #[Value.ref b] s = true) (hA : ∀ q : Nat, s.heap.size ≤ q → A q) (hE : xe_E g A s s.heap) (hnt : l.stackTraces = false) (hX : va_X b L xs s s.heap) (hbl : b < s.heap.size) (hbA : ¬ A b) (hKo : va_K D vwCl [(aO, .long)] s) (hAo : A qo) (hi1 : vp_in (i + 1) L) (hi2 : vp_in (i + 2) L) (hi3 : vp_in (i + 3) L) (hi4 : vp_in (i + 4) L) (hi5 : vp_in (i + 5) L) (h3 : L3 g D A s x m0 q kr Ic Rc qo aO mT1 cc cc fed P fo H) (hS : va_S A s.heap H locs) (hl : lv_has ls 7 [(0, .ref b), (1, .ref x), (2, .ref m0), (3, .ref qo), (4, .int i)]) (hc : cells + 320026 ≤ 601024) (hs : slots + 320064 + 40 * fed ≤ 7293034)
    (kk : ∀ (P1 : Nat) (cc1 : GH) (fo1 : Nat → Int64) (H1 : Heap) (locs1 : List Loc) (ls1 : Array Slot), P ≤ P1 → L3 g D A s x m0 q kr Ic Rc qo aO mT1 cc1 cc1 fed P1 fo1 H1 → va_S A s.heap H1 locs1 → lv_has ls1 7 [(0, .ref b), (1, .ref x), (2, .ref m0), (3, .ref qo), (4, .int i)] → W p l e room_1 s m #[Value.ref b] below meth c H1 locs1 (cells + (P1 - P) + 26) (slots + (P1 - P) + (64 + 40 * fed)) Q (F0 m 781 ls1 [])) :
    W p l e room_1 s m #[Value.ref b] below meth c H locs cells slots Q (F0 m 473 ls []) := by
  have hpt := h3.pot
  refine lv_aload_n hx hb dl_473 rfl (lv_at hl 1 rfl) ?_
  refine lv_aload_n hx hb dl_474 rfl (lv_at hl 0 rfl) ?_
  refine lv_iload hx hb dl_475 (lv_at hl 4 rfl) ?_
  refine lv_iconst (v := 1) hx hb dl_477 (by decide) ?_
  refine lv_iadd hx hb dl_478 ?_
  refine va_sld hx hb hX hbl hbA hS hi1 dl_479 ?_
  refine lw_boolx hx hb dl_480 dl_483 dl_484 dl_487 ?_
  refine lv_aload_n hx hb dl_488 rfl (lv_at hl 0 rfl) ?_
  refine lv_iload hx hb dl_489 (lv_at hl 4 rfl) ?_
  refine lv_iconst (v := 2) hx hb dl_491 (by decide) ?_
  refine lv_iadd hx hb dl_492 ?_
  refine va_sld hx hb hX hbl hbA hS hi2 dl_493 ?_
  refine lv_aload_n hx hb dl_494 rfl (lv_at hl 0 rfl) ?_
  refine lv_iload hx hb dl_495 (lv_at hl 4 rfl) ?_
  refine lv_iconst (v := 3) hx hb dl_497 (by decide) ?_
  refine lv_iadd hx hb dl_498 ?_
  refine va_sld hx hb hX hbl hbA hS hi3 dl_499 ?_
  refine lc_cls (n := 3) (y := 10) (qm := (yX11_find, cX11_find, 5, (some .int))) (As := [.int (bz (xs (Int32.toNatClampNeg (i + 1)))), .int (xs (Int32.toNatClampNeg (i + 2))), .int (xs (Int32.toNatClampNeg (i + 3)))]) (S := 64 + 40 * fed) (V := fun v => v = some (.int (fdK cc.2.2.2.2.2 (bz (xs (Int32.toNatClampNeg (i + 1)))) (xs (Int32.toNatClampNeg (i + 2))) (xs (Int32.toNatClampNeg (i + 3)))))) hx hb hml hown htb hA hE rfl bg_1415 bg_1416 bg_1417 bg_774 bg_890 ⟨by decide, by decide, by decide +kernel⟩ (by decide) dl_500 rfl rfl h3 hS hl.1 (fun M hG => gx_findX hG (by decide)) (by omega) (by omega) (fun v P1 H locs hV hP1 h3 hS => ?_)
  have hpt := h3.pot
  subst hV
  refine lv_pop (va := .int (fdK cc.2.2.2.2.2 (bz (xs (Int32.toNatClampNeg (i + 1)))) (xs (Int32.toNatClampNeg (i + 2))) (xs (Int32.toNatClampNeg (i + 3))))) hx hb dl_503 rfl ?_
  refine lv_aload_n hx hb dl_504 rfl (lv_at hl 2 rfl) ?_
  refine lv_aload_n hx hb dl_505 rfl (lv_at hl 0 rfl) ?_
  refine lv_iload hx hb dl_506 (lv_at hl 4 rfl) ?_
  refine lv_iconst (v := 1) hx hb dl_508 (by decide) ?_
  refine lv_iadd hx hb dl_509 ?_
  refine va_sld hx hb hX hbl hbA hS hi1 dl_510 ?_
  refine lw_boolx hx hb dl_511 dl_514 dl_515 dl_518 ?_
  refine lv_aload_n hx hb dl_519 rfl (lv_at hl 0 rfl) ?_
  refine lv_iload hx hb dl_520 (lv_at hl 4 rfl) ?_
  refine lv_iconst (v := 2) hx hb dl_522 (by decide) ?_
  refine lv_iadd hx hb dl_523 ?_
  refine va_sld hx hb hX hbl hbA hS hi2 dl_524 ?_
  refine lv_aload_n hx hb dl_525 rfl (lv_at hl 0 rfl) ?_
  refine lv_iload hx hb dl_526 (lv_at hl 4 rfl) ?_
  refine lv_iconst (v := 3) hx hb dl_528 (by decide) ?_
  refine lv_iadd hx hb dl_529 ?_
  refine va_sld hx hb hX hbl hbA hS hi3 dl_530 ?_
  refine lc_ref (rest := []) (n := 3) (y := 207) (qm := (yX12_find, cX12_find, 7, (some .int))) (As := [.int (bz (xs (Int32.toNatClampNeg (i + 1)))), .int (xs (Int32.toNatClampNeg (i + 2))), .int (xs (Int32.toNatClampNeg (i + 3)))]) (V := fun v => v = some (.int (fdK cc.2.2.2.2.2 (bz (xs (Int32.toNatClampNeg (i + 1)))) (xs (Int32.toNatClampNeg (i + 2))) (xs (Int32.toNatClampNeg (i + 3)))))) (X' := mT1) (cr' := cc) (Nat.le_of_ble_eq_true rfl) hx hb hml hown htb hA hE rfl bg_1418 bg_1419 bg_1420 bg_972 bg_1206 ⟨by decide, by decide, by decide +kernel⟩ (by decide) dl_531 rfl rfl h3 hS hl.1 (fun M hR _ => (rx_findX hR (by decide)).imp (fun v M' h => ⟨h.1, h.2, trivial⟩)) (by omega) (by omega) (fun v H locs hV h3 hS => ?_)
  subst hV
  refine lv_pop (va := .int (fdK cc.2.2.2.2.2 (bz (xs (Int32.toNatClampNeg (i + 1)))) (xs (Int32.toNatClampNeg (i + 2))) (xs (Int32.toNatClampNeg (i + 3))))) hx hb dl_534 rfl ?_
  refine lv_goto (tgt := 781) hx hb dl_535 (by decide) ?_
  exact kk P1 _ _ H locs ls hP1 h3 hS (lv_sub hl [0, 1, 2, 3, 4] rfl)
end LWD
