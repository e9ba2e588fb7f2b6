/-! cases of the law (laid by wip/p2/c92.py) -/
theorem dl_538 : decode cL_law 538 = .ok (.aload_n 1, 1) := by decide +kernel
theorem dl_539 : decode cL_law 539 = .ok (.aload_n 0, 1) := by decide +kernel
theorem dl_540 : decode cL_law 540 = .ok (.iload 4, 2) := by decide +kernel
theorem dl_542 : decode cL_law 542 = .ok (.iconst 1, 1) := by decide +kernel
theorem dl_543 : decode cL_law 543 = .ok (.iadd, 1) := by decide +kernel
theorem dl_544 : decode cL_law 544 = .ok (.iaload, 1) := by decide +kernel
theorem dl_545 : decode cL_law 545 = .ok (.aload_n 0, 1) := by decide +kernel
theorem dl_546 : decode cL_law 546 = .ok (.iload 4, 2) := by decide +kernel
theorem dl_548 : decode cL_law 548 = .ok (.iconst 2, 1) := by decide +kernel
theorem dl_549 : decode cL_law 549 = .ok (.iadd, 1) := by decide +kernel
theorem dl_550 : decode cL_law 550 = .ok (.iaload, 1) := by decide +kernel
theorem dl_551 : decode cL_law 551 = .ok (.aload_n 0, 1) := by decide +kernel
theorem dl_552 : decode cL_law 552 = .ok (.iload 4, 2) := by decide +kernel
theorem dl_554 : decode cL_law 554 = .ok (.iconst 3, 1) := by decide +kernel
theorem dl_555 : decode cL_law 555 = .ok (.iadd, 1) := by decide +kernel
theorem dl_556 : decode cL_law 556 = .ok (.iaload, 1) := by decide +kernel
theorem dl_557 : decode cL_law 557 = .ok (.aload_n 3, 1) := by decide +kernel
theorem dl_558 : decode cL_law 558 = .ok (.invokestatic 90, 3) := by decide +kernel
theorem dl_561 : decode cL_law 561 = .ok (.istore 5, 2) := by decide +kernel
theorem dl_563 : decode cL_law 563 = .ok (.aload_n 2, 1) := by decide +kernel
theorem dl_564 : decode cL_law 564 = .ok (.aload_n 0, 1) := by decide +kernel
theorem dl_565 : decode cL_law 565 = .ok (.iload 4, 2) := by decide +kernel
theorem dl_567 : decode cL_law 567 = .ok (.iconst 1, 1) := by decide +kernel
theorem dl_568 : decode cL_law 568 = .ok (.iadd, 1) := by decide +kernel
theorem dl_569 : decode cL_law 569 = .ok (.iaload, 1) := by decide +kernel
theorem dl_570 : decode cL_law 570 = .ok (.aload_n 0, 1) := by decide +kernel
theorem dl_571 : decode cL_law 571 = .ok (.iload 4, 2) := by decide +kernel
theorem dl_573 : decode cL_law 573 = .ok (.iconst 2, 1) := by decide +kernel
theorem dl_574 : decode cL_law 574 = .ok (.iadd, 1) := by decide +kernel
theorem dl_575 : decode cL_law 575 = .ok (.iaload, 1) := by decide +kernel
theorem dl_576 : decode cL_law 576 = .ok (.aload_n 0, 1) := by decide +kernel
theorem dl_577 : decode cL_law 577 = .ok (.iload 4, 2) := by decide +kernel
theorem dl_579 : decode cL_law 579 = .ok (.iconst 3, 1) := by decide +kernel
theorem dl_580 : decode cL_law 580 = .ok (.iadd, 1) := by decide +kernel
theorem dl_581 : decode cL_law 581 = .ok (.iaload, 1) := by decide +kernel
theorem dl_582 : decode cL_law 582 = .ok (.invokevirtual 93, 3) := by decide +kernel
theorem dl_585 : decode cL_law 585 = .ok (.istore 6, 2) := by decide +kernel
theorem dl_587 : decode cL_law 587 = .ok (.goto 194, 3) := by decide +kernel
theorem dl_590 : decode cL_law 590 = .ok (.aload_n 1, 1) := by decide +kernel
theorem dl_591 : decode cL_law 591 = .ok (.aload_n 0, 1) := by decide +kernel
theorem dl_592 : decode cL_law 592 = .ok (.iload 4, 2) := by decide +kernel
theorem dl_594 : decode cL_law 594 = .ok (.iconst 1, 1) := by decide +kernel
theorem dl_595 : decode cL_law 595 = .ok (.iadd, 1) := by decide +kernel
theorem dl_596 : decode cL_law 596 = .ok (.iaload, 1) := by decide +kernel
theorem dl_597 : decode cL_law 597 = .ok (.aload_n 0, 1) := by decide +kernel
theorem dl_598 : decode cL_law 598 = .ok (.iload 4, 2) := by decide +kernel
theorem dl_600 : decode cL_law 600 = .ok (.iconst 2, 1) := by decide +kernel
theorem dl_601 : decode cL_law 601 = .ok (.iadd, 1) := by decide +kernel
theorem dl_602 : decode cL_law 602 = .ok (.iaload, 1) := by decide +kernel
theorem dl_603 : decode cL_law 603 = .ok (.invokevirtual 94, 3) := by decide +kernel
theorem dl_606 : decode cL_law 606 = .ok (.pop, 1) := by decide +kernel
theorem dl_607 : decode cL_law 607 = .ok (.aload_n 2, 1) := by decide +kernel
theorem dl_608 : decode cL_law 608 = .ok (.aload_n 0, 1) := by decide +kernel
theorem dl_609 : decode cL_law 609 = .ok (.iload 4, 2) := by decide +kernel
theorem dl_611 : decode cL_law 611 = .ok (.iconst 1, 1) := by decide +kernel
theorem dl_612 : decode cL_law 612 = .ok (.iadd, 1) := by decide +kernel
theorem dl_613 : decode cL_law 613 = .ok (.iaload, 1) := by decide +kernel
theorem dl_614 : decode cL_law 614 = .ok (.aload_n 0, 1) := by decide +kernel
theorem dl_615 : decode cL_law 615 = .ok (.iload 4, 2) := by decide +kernel
theorem dl_617 : decode cL_law 617 = .ok (.iconst 2, 1) := by decide +kernel
theorem dl_618 : decode cL_law 618 = .ok (.iadd, 1) := by decide +kernel
theorem dl_619 : decode cL_law 619 = .ok (.iaload, 1) := by decide +kernel
theorem dl_620 : decode cL_law 620 = .ok (.invokevirtual 97, 3) := by decide +kernel
theorem dl_623 : decode cL_law 623 = .ok (.pop, 1) := by decide +kernel
theorem dl_624 : decode cL_law 624 = .ok (.goto 157, 3) := by decide +kernel
theorem dl_627 : decode cL_law 627 = .ok (.aload_n 1, 1) := by decide +kernel
theorem dl_628 : decode cL_law 628 = .ok (.aload_n 0, 1) := by decide +kernel
theorem dl_629 : decode cL_law 629 = .ok (.iload 4, 2) := by decide +kernel
theorem dl_631 : decode cL_law 631 = .ok (.iconst 1, 1) := by decide +kernel
theorem dl_632 : decode cL_law 632 = .ok (.iadd, 1) := by decide +kernel
theorem dl_633 : decode cL_law 633 = .ok (.iaload, 1) := by decide +kernel
theorem dl_634 : decode cL_law 634 = .ok (.invokevirtual 98, 3) := by decide +kernel
theorem dl_637 : decode cL_law 637 = .ok (.aload_n 2, 1) := by decide +kernel
theorem dl_638 : decode cL_law 638 = .ok (.aload_n 0, 1) := by decide +kernel
theorem dl_639 : decode cL_law 639 = .ok (.iload 4, 2) := by decide +kernel
theorem dl_641 : decode cL_law 641 = .ok (.iconst 1, 1) := by decide +kernel
theorem dl_642 : decode cL_law 642 = .ok (.iadd, 1) := by decide +kernel
theorem dl_643 : decode cL_law 643 = .ok (.iaload, 1) := by decide +kernel
theorem dl_644 : decode cL_law 644 = .ok (.invokevirtual 101, 3) := by decide +kernel
theorem dl_647 : decode cL_law 647 = .ok (.if_icmp .eq 134, 3) := by decide +kernel
section LWD
variable {p : Program} {l : Launch} {e : Env} {s : State} {m : MethodId} {below : List Frame} {meth : Method} {c : Code} {A : Nat → Prop} {b L : Nat} {xs : Nat → Int32} {D : va_G} {g : xe_G} {x m0 qo : Nat} {aO : ClassId} {q : Nat → Nat} {kr : rR} {Ic : rI} {Rc : rR}
variable {cc : GH} {fed P cells slots : Nat} {fo : Nat → Int64} {H : Heap} {locs : List Loc} {ls : Array Slot} {Q : State → Prop} {i : Int32}

set_option maxHeartbeats 4000000 in
set_option maxRecDepth 100000 in
theorem law_11 (hx : p.tables.exec = Jvm.exec) (hb : c.code = cL_law) (hml : c.maxLocals = 7) (hown : s.vm.findClass RL = some m.cls) (htb : ∀ w ∈ bg, w.before #[Value.ref b] s = true) (hA : ∀ q : Nat, s.heap.size ≤ q → A q) (hE : xe_E g A s s.heap) (hnt : l.stackTraces = false) (hX : va_X b L xs s s.heap) (hbl : b < s.heap.size) (hbA : ¬ A b) (hKo : va_K D vwCl [(aO, .long)] s) (hAo : A qo) (hi1 : vp_in (i + 1) L) (hi2 : vp_in (i + 2) L) (hi3 : vp_in (i + 3) L) (hi4 : vp_in (i + 4) L) (hi5 : vp_in (i + 5) L) (h3 : L3 g D A s x m0 q kr Ic Rc qo aO mT1 cc cc fed P fo H) (hS : va_S A s.heap H locs) (hl : lv_has ls 7 [(0, .ref b), (1, .ref x), (2, .ref m0), (3, .ref qo), (4, .int i)]) (hc : cells + 320026 ≤ 601024) (hs : slots + 320064 + 40 * fed ≤ 7293034)
    (kk : ∀ (P1 : Nat) (cc1 : GH) (fo1 : Nat → Int64) (H1 : Heap) (locs1 : List Loc) (ls1 : Array Slot), P ≤ P1 → L3 g D A s x m0 q kr Ic Rc qo aO mT1 cc1 cc1 fed P1 fo1 H1 → va_S A s.heap H1 locs1 → lv_has ls1 7 [(0, .ref b), (1, .ref x), (2, .ref m0), (3, .ref qo), (4, .int i)] → W p l e room_1 s m #[Value.ref b] below meth c H1 locs1 (cells + (P1 - P) + 26) (slots + (P1 - P) + (64 + 40 * fed)) Q (F0 m 781 ls1 [])) :
    W p l e room_1 s m #[Value.ref b] below meth c H locs cells slots Q (F0 m 538 ls []) := by
  have hpt := h3.pot
  refine lv_aload_n hx hb dl_538 rfl (lv_at hl 1 rfl) ?_
  refine lv_aload_n hx hb dl_539 rfl (lv_at hl 0 rfl) ?_
  refine lv_iload hx hb dl_540 (lv_at hl 4 rfl) ?_
  refine lv_iconst (v := 1) hx hb dl_542 (by decide) ?_
  refine lv_iadd hx hb dl_543 ?_
  refine va_sld hx hb hX hbl hbA hS hi1 dl_544 ?_
  refine lv_aload_n hx hb dl_545 rfl (lv_at hl 0 rfl) ?_
  refine lv_iload hx hb dl_546 (lv_at hl 4 rfl) ?_
  refine lv_iconst (v := 2) hx hb dl_548 (by decide) ?_
  refine lv_iadd hx hb dl_549 ?_
  refine va_sld hx hb hX hbl hbA hS hi2 dl_550 ?_
  refine lv_aload_n hx hb dl_551 rfl (lv_at hl 0 rfl) ?_
  refine lv_iload hx hb dl_552 (lv_at hl 4 rfl) ?_
  refine lv_iconst (v := 3) hx hb dl_554 (by decide) ?_
  refine lv_iadd hx hb dl_555 ?_
  refine va_sld hx hb hX hbl hbA hS hi3 dl_556 ?_
  refine lv_aload_n hx hb dl_557 rfl (lv_at hl 3 rfl) ?_
  refine lc_hlp (n := 5) (av := [.ref x, .int (xs (Int32.toNatClampNeg (i + 1))), .int (xs (Int32.toNatClampNeg (i + 2))), .int (xs (Int32.toNatClampNeg (i + 3))), .ref qo]) (yh := yL_row) (bytes := cL_row) (maxL := 6) (hh := [(0, 12, 15, 19)]) (S := 64 + 40 * fed) hx hb hml hown htb hA hE bg_1421 bg_1422 bg_1361 bg_1342 ⟨by decide, by decide, by decide +kernel⟩ (by decide) dl_558 rfl rfl h3 hS hl.1 hKo hAo (fun M hG => hp_row l D g hnt hG) (by omega) (by omega) (fun r P1 fo1 H locs hV hP1 h3 hS => ?_)
  have hpt := h3.pot
  refine lv_istore (lv' := [(5, .int r), (0, .ref b), (1, .ref x), (2, .ref m0), (3, .ref qo), (4, .int i)]) hx hb dl_561 hl (by decide) rfl (fun ls hl => ?_)
  refine lv_aload_n hx hb dl_563 rfl (lv_at hl 3 rfl) ?_
  refine lv_aload_n hx hb dl_564 rfl (lv_at hl 1 rfl) ?_
  refine lv_iload hx hb dl_565 (lv_at hl 5 rfl) ?_
  refine lv_iconst (v := 1) hx hb dl_567 (by decide) ?_
  refine lv_iadd hx hb dl_568 ?_
  refine va_sld hx hb hX hbl hbA hS hi1 dl_569 ?_
  refine lv_aload_n hx hb dl_570 rfl (lv_at hl 1 rfl) ?_
  refine lv_iload hx hb dl_571 (lv_at hl 5 rfl) ?_
  refine lv_iconst (v := 2) hx hb dl_573 (by decide) ?_
  refine lv_iadd hx hb dl_574 ?_
  refine va_sld hx hb hX hbl hbA hS hi2 dl_575 ?_
  refine lv_aload_n hx hb dl_576 rfl (lv_at hl 1 rfl) ?_
  refine lv_iload hx hb dl_577 (lv_at hl 5 rfl) ?_
  refine lv_iconst (v := 3) hx hb dl_579 (by decide) ?_
  refine lv_iadd hx hb dl_580 ?_
  refine va_sld hx hb hX hbl hbA hS hi3 dl_581 ?_
  refine lc_ref (rest := []) (n := 3) (y := 239) (qm := (yX12_row, cX12_row, 4, (some .int))) (As := [.int (xs (Int32.toNatClampNeg (i + 1))), .int (xs (Int32.toNatClampNeg (i + 2))), .int (xs (Int32.toNatClampNeg (i + 3)))]) (V := fun v => ∃ y : Int32, v = some (.int y)) (X' := mT1) (cr' := cc) (Nat.le_of_ble_eq_true rfl) hx hb hml hown htb hA hE rfl bg_1423 bg_1424 bg_1425 bg_972 bg_1207 ⟨by decide, by decide, by decide +kernel⟩ (by decide) dl_582 rfl rfl h3 hS hl.1 (fun M hR _ => (rx_row hR (by decide)).imp (fun v M' h => ⟨h.1, h.2, trivial⟩)) (by omega) (by omega) (fun v H locs hV h3 hS => ?_)
  obtain ⟨y2, rfl⟩ := hV
  refine lv_istore (lv' := [(6, .int y2), (5, .int r), (0, .ref b), (1, .ref x), (2, .ref m0), (3, .ref qo), (4, .int i)]) hx hb dl_585 hl (by decide) rfl (fun ls hl => ?_)
  refine lv_goto (tgt := 781) hx hb dl_587 (by decide) ?_
  exact kk P1 _ _ H locs ls hP1 h3 hS (lv_sub hl [2, 3, 4, 5, 6] rfl)
set_option maxHeartbeats 4000000 in
set_option maxRecDepth 100000 in
theorem law_12 (hx : p.tables.exec = Jvm.exec) (hb : c.code = cL_law) (hml : c.maxLocals = 7) (hown : s.vm.findClass RL = some m.cls) (htb : ∀ w ∈ bg, w.before #[Value.ref b] s = true) (hA : ∀ q : Nat, s.heap.size ≤ q → A q) (hE : xe_E g A s s.heap) (hnt : l.stackTraces = false) (hX : va_X b L xs s s.heap) (hbl : b < s.heap.size) (hbA : ¬ A b) (hKo : va_K D vwCl [(aO, .long)] s) (hAo : A qo) (hi1 : vp_in (i + 1) L) (hi2 : vp_in (i + 2) L) (hi3 : vp_in (i + 3) L) (hi4 : vp_in (i + 4) L) (hi5 : vp_in (i + 5) L) (h3 : L3 g D A s x m0 q kr Ic Rc qo aO mT1 cc cc fed P fo H) (hS : va_S A s.heap H locs) (hl : lv_has ls 7 [(0, .ref b), (1, .ref x), (2, .ref m0), (3, .ref qo), (4, .int i)]) (hc : cells + 320026 ≤ 601024) (hs : slots + 320064 + 40 * fed ≤ 7293034)
    (kk : ∀ (P1 : Nat) (cc1 : GH) (fo1 : Nat → Int64) (H1 : Heap) (locs1 : List Loc) (ls1 : Array Slot), P ≤ P1 → L3 g D A s x m0 q kr Ic Rc qo aO mT1 cc1 cc1 fed P1 fo1 H1 → va_S A s.heap H1 locs1 → lv_has ls1 7 [(0, .ref b), (1, .ref x), (2, .ref m0), (3, .ref qo), (4, .int i)] → W p l e room_1 s m #[Value.ref b] below meth c H1 locs1 (cells + (P1 - P) + 26) (slots + (P1 - P) + (64 + 40 * fed)) Q (F0 m 781 ls1 [])) :
    W p l e room_1 s m #[Value.ref b] below meth c H locs cells slots Q (F0 m 590 ls []) := by
  have hpt := h3.pot
  refine lv_aload_n hx hb dl_590 rfl (lv_at hl 1 rfl) ?_
  refine lv_aload_n hx hb dl_591 rfl (lv_at hl 0 rfl) ?_
  refine lv_iload hx hb dl_592 (lv_at hl 4 rfl) ?_
  refine lv_iconst (v := 1) hx hb dl_594 (by decide) ?_
  refine lv_iadd hx hb dl_595 ?_
  refine va_sld hx hb hX hbl hbA hS hi1 dl_596 ?_
  refine lv_aload_n hx hb dl_597 rfl (lv_at hl 0 rfl) ?_
  refine lv_iload hx hb dl_598 (lv_at hl 4 rfl) ?_
  refine lv_iconst (v := 2) hx hb dl_600 (by decide) ?_
  refine lv_iadd hx hb dl_601 ?_
  refine va_sld hx hb hX hbl hbA hS hi2 dl_602 ?_
  refine lc_cls (n := 2) (y := 2) (qm := (yX11_bootstrap, cX11_bootstrap, 3, (some .int))) (As := [.int (xs (Int32.toNatClampNeg (i + 1))), .int (xs (Int32.toNatClampNeg (i + 2)))]) (S := 64 + 40 * fed) (V := fun v => v = some (.int (bsK cc.2.2.2.2.2 (xs (Int32.toNatClampNeg (i + 1))) (xs (Int32.toNatClampNeg (i + 2)))))) hx hb hml hown htb hA hE rfl bg_1426 bg_1427 bg_1428 bg_774 bg_903 ⟨by decide, by decide, by decide +kernel⟩ (by decide) dl_603 rfl rfl h3 hS hl.1 (fun M hG => gx_bootstrapX hG (by decide)) (by omega) (by omega) (fun v P1 H locs hV hP1 h3 hS => ?_)
  have hpt := h3.pot
  subst hV
  refine lv_pop (va := .int (bsK cc.2.2.2.2.2 (xs (Int32.toNatClampNeg (i + 1))) (xs (Int32.toNatClampNeg (i + 2))))) hx hb dl_606 rfl ?_
  refine lv_aload_n hx hb dl_607 rfl (lv_at hl 2 rfl) ?_
  refine lv_aload_n hx hb dl_608 rfl (lv_at hl 0 rfl) ?_
  refine lv_iload hx hb dl_609 (lv_at hl 4 rfl) ?_
  refine lv_iconst (v := 1) hx hb dl_611 (by decide) ?_
  refine lv_iadd hx hb dl_612 ?_
  refine va_sld hx hb hX hbl hbA hS hi1 dl_613 ?_
  refine lv_aload_n hx hb dl_614 rfl (lv_at hl 0 rfl) ?_
  refine lv_iload hx hb dl_615 (lv_at hl 4 rfl) ?_
  refine lv_iconst (v := 2) hx hb dl_617 (by decide) ?_
  refine lv_iadd hx hb dl_618 ?_
  refine va_sld hx hb hX hbl hbA hS hi2 dl_619 ?_
  refine lc_ref (rest := []) (n := 2) (y := 184) (qm := (yX12_bootstrap, cX12_bootstrap, 5, (some .int))) (As := [.int (xs (Int32.toNatClampNeg (i + 1))), .int (xs (Int32.toNatClampNeg (i + 2)))]) (V := fun v => v = some (.int (bsK cc.2.2.2.2.2 (xs (Int32.toNatClampNeg (i + 1))) (xs (Int32.toNatClampNeg (i + 2)))))) (X' := mT1) (cr' := cc) (Nat.le_of_ble_eq_true rfl) hx hb hml hown htb hA hE rfl bg_1429 bg_1430 bg_1431 bg_972 bg_1208 ⟨by decide, by decide, by decide +kernel⟩ (by decide) dl_620 rfl rfl h3 hS hl.1 (fun M hR _ => (rx_bootstrapX hR (by decide)).imp (fun v M' h => ⟨h.1, h.2, trivial⟩)) (by omega) (by omega) (fun v H locs hV h3 hS => ?_)
  subst hV
  refine lv_pop (va := .int (bsK cc.2.2.2.2.2 (xs (Int32.toNatClampNeg (i + 1))) (xs (Int32.toNatClampNeg (i + 2))))) hx hb dl_623 rfl ?_
  refine lv_goto (tgt := 781) hx hb dl_624 (by decide) ?_
  exact kk P1 _ _ H locs ls hP1 h3 hS (lv_sub hl [0, 1, 2, 3, 4] rfl)
set_option maxHeartbeats 4000000 in
set_option maxRecDepth 100000 in
theorem law_13 (hx : p.tables.exec = Jvm.exec) (hb : c.code = cL_law) (hml : c.maxLocals = 7) (hown : s.vm.findClass RL = some m.cls) (htb : ∀ w ∈ bg, w.before #[Value.ref b] s = true) (hA : ∀ q : Nat, s.heap.size ≤ q → A q) (hE : xe_E g A s s.heap) (hnt : l.stackTraces = false) (hX : va_X b L xs s s.heap) (hbl : b < s.heap.size) (hbA : ¬ A b) (hKo : va_K D vwCl [(aO, .long)] s) (hAo : A qo) (hi1 : vp_in (i + 1) L) (hi2 : vp_in (i + 2) L) (hi3 : vp_in (i + 3) L) (hi4 : vp_in (i + 4) L) (hi5 : vp_in (i + 5) L) (h3 : L3 g D A s x m0 q kr Ic Rc qo aO mT1 cc cc fed P fo H) (hS : va_S A s.heap H locs) (hl : lv_has ls 7 [(0, .ref b), (1, .ref x), (2, .ref m0), (3, .ref qo), (4, .int i)]) (hc : cells + 320026 ≤ 601024) (hs : slots + 320064 + 40 * fed ≤ 7293034)
    (kk : ∀ (P1 : Nat) (cc1 : GH) (fo1 : Nat → Int64) (H1 : Heap) (locs1 : List Loc) (ls1 : Array Slot), P ≤ P1 → L3 g D A s x m0 q kr Ic Rc qo aO mT1 cc1 cc1 fed P1 fo1 H1 → va_S A s.heap H1 locs1 → lv_has ls1 7 [(0, .ref b), (1, .ref x), (2, .ref m0), (3, .ref qo), (4, .int i)] → W p l e room_1 s m #[Value.ref b] below meth c H1 locs1 (cells + (P1 - P) + 26) (slots + (P1 - P) + (64 + 40 * fed)) Q (F0 m 781 ls1 [])) :
    W p l e room_1 s m #[Value.ref b] below meth c H locs cells slots Q (F0 m 627 ls []) := by
  have hpt := h3.pot
  refine lv_aload_n hx hb dl_627 rfl (lv_at hl 1 rfl) ?_
  refine lv_aload_n hx hb dl_628 rfl (lv_at hl 0 rfl) ?_
  refine lv_iload hx hb dl_629 (lv_at hl 4 rfl) ?_
  refine lv_iconst (v := 1) hx hb dl_631 (by decide) ?_
  refine lv_iadd hx hb dl_632 ?_
  refine va_sld hx hb hX hbl hbA hS hi1 dl_633 ?_
  refine lc_cls (n := 1) (y := 6) (qm := (yX11_cut, cX11_cut, 3, (some .int))) (As := [.int (xs (Int32.toNatClampNeg (i + 1)))]) (S := 64 + 40 * fed) (V := fun v => v = some (.int (cuK cc.2.2.2.2.2 (xs (Int32.toNatClampNeg (i + 1)))))) hx hb hml hown htb hA hE rfl bg_1432 bg_1433 bg_1434 bg_774 bg_907 ⟨by decide, by decide, by decide +kernel⟩ (by decide) dl_634 rfl rfl h3 hS hl.1 (fun M hG => gx_cutX hG (by decide)) (by omega) (by omega) (fun v P1 H locs hV hP1 h3 hS => ?_)
  have hpt := h3.pot
  subst hV
  refine lv_aload_n hx hb dl_637 rfl (lv_at hl 2 rfl) ?_
  refine lv_aload_n hx hb dl_638 rfl (lv_at hl 0 rfl) ?_
  refine lv_iload hx hb dl_639 (lv_at hl 4 rfl) ?_
  refine lv_iconst (v := 1) hx hb dl_641 (by decide) ?_
  refine lv_iadd hx hb dl_642 ?_
  refine va_sld hx hb hX hbl hbA hS hi1 dl_643 ?_
  refine lc_ref (rest := [.int (cuK cc.2.2.2.2.2 (xs (Int32.toNatClampNeg (i + 1))))]) (n := 1) (y := 199) (qm := (yX12_cut, cX12_cut, 2, (some .int))) (As := [.int (xs (Int32.toNatClampNeg (i + 1)))]) (V := fun v => v = some (.int (cuK cc.2.2.2.2.2 (xs (Int32.toNatClampNeg (i + 1)))))) (X' := mT1) (cr' := cc) (Nat.le_of_ble_eq_true rfl) hx hb hml hown htb hA hE rfl bg_1435 bg_1436 bg_1437 bg_972 bg_1278 ⟨by decide, by decide, by decide +kernel⟩ (by decide) dl_644 rfl rfl h3 hS hl.1 (fun M hR _ => (rx_cutX hR (by decide)).imp (fun v M' h => ⟨h.1, h.2, trivial⟩)) (by omega) (by omega) (fun v H locs hV h3 hS => ?_)
  subst hV
  refine lv_icmp_eq (tgt := 781) hx hb dl_647 (by decide) (fun _ => ?_) (fun c9 => absurd rfl c9)
  exact kk P1 _ _ H locs ls hP1 h3 hS (lv_sub hl [0, 1, 2, 3, 4] rfl)
end LWD
