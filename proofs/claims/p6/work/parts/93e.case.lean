/-! cases of the law (laid by wip/p2/c92.py) -/
theorem dl_566 : decode cL_law 566 = .ok (.aload_n 1, 1) := by decide +kernel
theorem dl_567 : decode cL_law 567 = .ok (.aload_n 0, 1) := by decide +kernel
theorem dl_568 : decode cL_law 568 = .ok (.iload 4, 2) := by decide +kernel
theorem dl_570 : decode cL_law 570 = .ok (.iconst 1, 1) := by decide +kernel
theorem dl_571 : decode cL_law 571 = .ok (.iadd, 1) := by decide +kernel
theorem dl_572 : decode cL_law 572 = .ok (.iaload, 1) := by decide +kernel
theorem dl_573 : decode cL_law 573 = .ok (.aload_n 0, 1) := by decide +kernel
theorem dl_574 : decode cL_law 574 = .ok (.iload 4, 2) := by decide +kernel
theorem dl_576 : decode cL_law 576 = .ok (.iconst 2, 1) := by decide +kernel
theorem dl_577 : decode cL_law 577 = .ok (.iadd, 1) := by decide +kernel
theorem dl_578 : decode cL_law 578 = .ok (.iaload, 1) := by decide +kernel
theorem dl_579 : decode cL_law 579 = .ok (.aload_n 0, 1) := by decide +kernel
theorem dl_580 : decode cL_law 580 = .ok (.iload 4, 2) := by decide +kernel
theorem dl_582 : decode cL_law 582 = .ok (.iconst 3, 1) := by decide +kernel
theorem dl_583 : decode cL_law 583 = .ok (.iadd, 1) := by decide +kernel
theorem dl_584 : decode cL_law 584 = .ok (.iaload, 1) := by decide +kernel
theorem dl_585 : decode cL_law 585 = .ok (.aload_n 3, 1) := by decide +kernel
theorem dl_586 : decode cL_law 586 = .ok (.invokestatic 93, 3) := by decide +kernel
theorem dl_589 : decode cL_law 589 = .ok (.istore 5, 2) := by decide +kernel
theorem dl_591 : decode cL_law 591 = .ok (.aload_n 2, 1) := by decide +kernel
theorem dl_592 : decode cL_law 592 = .ok (.aload_n 0, 1) := by decide +kernel
theorem dl_593 : decode cL_law 593 = .ok (.iload 4, 2) := by decide +kernel
theorem dl_595 : decode cL_law 595 = .ok (.iconst 1, 1) := by decide +kernel
theorem dl_596 : decode cL_law 596 = .ok (.iadd, 1) := by decide +kernel
theorem dl_597 : decode cL_law 597 = .ok (.iaload, 1) := by decide +kernel
theorem dl_598 : decode cL_law 598 = .ok (.aload_n 0, 1) := by decide +kernel
theorem dl_599 : decode cL_law 599 = .ok (.iload 4, 2) := by decide +kernel
theorem dl_601 : decode cL_law 601 = .ok (.iconst 2, 1) := by decide +kernel
theorem dl_602 : decode cL_law 602 = .ok (.iadd, 1) := by decide +kernel
theorem dl_603 : decode cL_law 603 = .ok (.iaload, 1) := by decide +kernel
theorem dl_604 : decode cL_law 604 = .ok (.aload_n 0, 1) := by decide +kernel
theorem dl_605 : decode cL_law 605 = .ok (.iload 4, 2) := by decide +kernel
theorem dl_607 : decode cL_law 607 = .ok (.iconst 3, 1) := by decide +kernel
theorem dl_608 : decode cL_law 608 = .ok (.iadd, 1) := by decide +kernel
theorem dl_609 : decode cL_law 609 = .ok (.iaload, 1) := by decide +kernel
theorem dl_610 : decode cL_law 610 = .ok (.invokevirtual 96, 3) := by decide +kernel
theorem dl_613 : decode cL_law 613 = .ok (.istore 6, 2) := by decide +kernel
theorem dl_615 : decode cL_law 615 = .ok (.goto 194, 3) := by decide +kernel
theorem dl_618 : decode cL_law 618 = .ok (.aload_n 1, 1) := by decide +kernel
theorem dl_619 : decode cL_law 619 = .ok (.aload_n 0, 1) := by decide +kernel
theorem dl_620 : decode cL_law 620 = .ok (.iload 4, 2) := by decide +kernel
theorem dl_622 : decode cL_law 622 = .ok (.iconst 1, 1) := by decide +kernel
theorem dl_623 : decode cL_law 623 = .ok (.iadd, 1) := by decide +kernel
theorem dl_624 : decode cL_law 624 = .ok (.iaload, 1) := by decide +kernel
theorem dl_625 : decode cL_law 625 = .ok (.aload_n 0, 1) := by decide +kernel
theorem dl_626 : decode cL_law 626 = .ok (.iload 4, 2) := by decide +kernel
theorem dl_628 : decode cL_law 628 = .ok (.iconst 2, 1) := by decide +kernel
theorem dl_629 : decode cL_law 629 = .ok (.iadd, 1) := by decide +kernel
theorem dl_630 : decode cL_law 630 = .ok (.iaload, 1) := by decide +kernel
theorem dl_631 : decode cL_law 631 = .ok (.invokevirtual 97, 3) := by decide +kernel
theorem dl_634 : decode cL_law 634 = .ok (.pop, 1) := by decide +kernel
theorem dl_635 : decode cL_law 635 = .ok (.aload_n 2, 1) := by decide +kernel
theorem dl_636 : decode cL_law 636 = .ok (.aload_n 0, 1) := by decide +kernel
theorem dl_637 : decode cL_law 637 = .ok (.iload 4, 2) := by decide +kernel
theorem dl_639 : decode cL_law 639 = .ok (.iconst 1, 1) := by decide +kernel
theorem dl_640 : decode cL_law 640 = .ok (.iadd, 1) := by decide +kernel
theorem dl_641 : decode cL_law 641 = .ok (.iaload, 1) := by decide +kernel
theorem dl_642 : decode cL_law 642 = .ok (.aload_n 0, 1) := by decide +kernel
theorem dl_643 : decode cL_law 643 = .ok (.iload 4, 2) := by decide +kernel
theorem dl_645 : decode cL_law 645 = .ok (.iconst 2, 1) := by decide +kernel
theorem dl_646 : decode cL_law 646 = .ok (.iadd, 1) := by decide +kernel
theorem dl_647 : decode cL_law 647 = .ok (.iaload, 1) := by decide +kernel
theorem dl_648 : decode cL_law 648 = .ok (.invokevirtual 100, 3) := by decide +kernel
theorem dl_651 : decode cL_law 651 = .ok (.pop, 1) := by decide +kernel
theorem dl_652 : decode cL_law 652 = .ok (.goto 157, 3) := by decide +kernel
theorem dl_655 : decode cL_law 655 = .ok (.aload_n 1, 1) := by decide +kernel
theorem dl_656 : decode cL_law 656 = .ok (.aload_n 0, 1) := by decide +kernel
theorem dl_657 : decode cL_law 657 = .ok (.iload 4, 2) := by decide +kernel
theorem dl_659 : decode cL_law 659 = .ok (.iconst 1, 1) := by decide +kernel
theorem dl_660 : decode cL_law 660 = .ok (.iadd, 1) := by decide +kernel
theorem dl_661 : decode cL_law 661 = .ok (.iaload, 1) := by decide +kernel
theorem dl_662 : decode cL_law 662 = .ok (.invokevirtual 101, 3) := by decide +kernel
theorem dl_665 : decode cL_law 665 = .ok (.pop, 1) := by decide +kernel
theorem dl_666 : decode cL_law 666 = .ok (.aload_n 2, 1) := by decide +kernel
theorem dl_667 : decode cL_law 667 = .ok (.aload_n 0, 1) := by decide +kernel
theorem dl_668 : decode cL_law 668 = .ok (.iload 4, 2) := by decide +kernel
theorem dl_670 : decode cL_law 670 = .ok (.iconst 1, 1) := by decide +kernel
theorem dl_671 : decode cL_law 671 = .ok (.iadd, 1) := by decide +kernel
theorem dl_672 : decode cL_law 672 = .ok (.iaload, 1) := by decide +kernel
theorem dl_673 : decode cL_law 673 = .ok (.invokevirtual 104, 3) := by decide +kernel
theorem dl_676 : decode cL_law 676 = .ok (.pop, 1) := by decide +kernel
theorem dl_677 : decode cL_law 677 = .ok (.goto 132, 3) := by decide +kernel
section LWD
variable {p : Program} {l : Launch} {e : Env} {s : State} {m : MethodId} {below : List Frame} {meth : Method} {c : Code} {A : Nat → Prop} {b L : Nat} {xs : Nat → Int32} {D : va_G} {g : xe_G} {x m0 qo : Nat} {aO : ClassId} {q : Nat → Nat} {kr : rR} {Ic : rI} {Rc : rR}
variable {cc : GH} {fed P cells slots : Nat} {fo : Nat → Int64} {H : Heap} {locs : List Loc} {ls : Array Slot} {Q : State → Prop} {i : Int32}

set_option maxHeartbeats 4000000 in
set_option maxRecDepth 100000 in
theorem law_11 (hx : p.tables.exec = Jvm.exec) (hb : c.code = cL_law) (hml : c.maxLocals = 7) (hown : s.vm.findClass RL = some m.cls) (htb : ∀ w ∈ bg, w.before #[Value.ref b] s = true) (hA : ∀ q : Nat, s.heap.size ≤ q → A q) (hE : xe_E g A s s.heap) (hnt : l.stackTraces = false) (hX : va_X b L xs s s.heap) (hbl : b < s.heap.size) (hbA : ¬ A b) (hKo : va_K D vwCl [(aO, .long)] s) (hAo : A qo) (hi1 : vp_in (i + 1) L) (hi2 : vp_in (i + 2) L) (hi3 : vp_in (i + 3) L) (hi4 : vp_in (i + 4) L) (hi5 : vp_in (i + 5) L) (h3 : L3 g D A s x m0 q kr Ic Rc qo aO mT1 cc cc fed P fo H) (hS : va_S A s.heap H locs) (hl : lv_has ls 7 [(0, .ref b), (1, .ref x), (2, .ref m0), (3, .ref qo), (4, .int i)]) (hc : cells + 320026 ≤ 601024) (hs : slots + 320064 + 40 * fed ≤ 7293034)
    (kk : ∀ (P1 : Nat) (cc1 : GH) (fo1 : Nat → Int64) (H1 : Heap) (locs1 : List Loc) (ls1 : Array Slot), P ≤ P1 → L3 g D A s x m0 q kr Ic Rc qo aO mT1 cc1 cc1 fed P1 fo1 H1 → va_S A s.heap H1 locs1 → lv_has ls1 7 [(0, .ref b), (1, .ref x), (2, .ref m0), (3, .ref qo), (4, .int i)] → W p l e room_1 s m #[Value.ref b] below meth c H1 locs1 (cells + (P1 - P) + 26) (slots + (P1 - P) + (64 + 40 * fed)) Q (F0 m 809 ls1 [])) :
    W p l e room_1 s m #[Value.ref b] below meth c H locs cells slots Q (F0 m 566 ls []) := by
  have hpt := h3.pot
  refine lv_aload_n hx hb dl_566 rfl (lv_at hl 1 rfl) ?_
  refine lv_aload_n hx hb dl_567 rfl (lv_at hl 0 rfl) ?_
  refine lv_iload hx hb dl_568 (lv_at hl 4 rfl) ?_
  refine lv_iconst (v := 1) hx hb dl_570 (by decide) ?_
  refine lv_iadd hx hb dl_571 ?_
  refine va_sld hx hb hX hbl hbA hS hi1 dl_572 ?_
  refine lv_aload_n hx hb dl_573 rfl (lv_at hl 0 rfl) ?_
  refine lv_iload hx hb dl_574 (lv_at hl 4 rfl) ?_
  refine lv_iconst (v := 2) hx hb dl_576 (by decide) ?_
  refine lv_iadd hx hb dl_577 ?_
  refine va_sld hx hb hX hbl hbA hS hi2 dl_578 ?_
  refine lv_aload_n hx hb dl_579 rfl (lv_at hl 0 rfl) ?_
  refine lv_iload hx hb dl_580 (lv_at hl 4 rfl) ?_
  refine lv_iconst (v := 3) hx hb dl_582 (by decide) ?_
  refine lv_iadd hx hb dl_583 ?_
  refine va_sld hx hb hX hbl hbA hS hi3 dl_584 ?_
  refine lv_aload_n hx hb dl_585 rfl (lv_at hl 3 rfl) ?_
  refine lc_hlp (n := 5) (av := [.ref x, .int (xs (Int32.toNatClampNeg (i + 1))), .int (xs (Int32.toNatClampNeg (i + 2))), .int (xs (Int32.toNatClampNeg (i + 3))), .ref qo]) (yh := yL_row) (bytes := cL_row) (maxL := 6) (hh := [(0, 12, 15, 19)]) (S := 64 + 40 * fed) hx hb hml hown htb hA hE bg_1425 bg_1426 bg_1362 bg_1343 ⟨by decide, by decide, by decide +kernel⟩ (by decide) dl_586 rfl rfl h3 hS hl.1 hKo hAo (fun M hG => hp_row l D g hnt hG) (by omega) (by omega) (fun r P1 fo1 H locs hV hP1 h3 hS => ?_)
  have hpt := h3.pot
  refine lv_istore (lv' := [(5, .int r), (0, .ref b), (1, .ref x), (2, .ref m0), (3, .ref qo), (4, .int i)]) hx hb dl_589 hl (by decide) rfl (fun ls hl => ?_)
  refine lv_aload_n hx hb dl_591 rfl (lv_at hl 3 rfl) ?_
  refine lv_aload_n hx hb dl_592 rfl (lv_at hl 1 rfl) ?_
  refine lv_iload hx hb dl_593 (lv_at hl 5 rfl) ?_
  refine lv_iconst (v := 1) hx hb dl_595 (by decide) ?_
  refine lv_iadd hx hb dl_596 ?_
  refine va_sld hx hb hX hbl hbA hS hi1 dl_597 ?_
  refine lv_aload_n hx hb dl_598 rfl (lv_at hl 1 rfl) ?_
  refine lv_iload hx hb dl_599 (lv_at hl 5 rfl) ?_
  refine lv_iconst (v := 2) hx hb dl_601 (by decide) ?_
  refine lv_iadd hx hb dl_602 ?_
  refine va_sld hx hb hX hbl hbA hS hi2 dl_603 ?_
  refine lv_aload_n hx hb dl_604 rfl (lv_at hl 1 rfl) ?_
  refine lv_iload hx hb dl_605 (lv_at hl 5 rfl) ?_
  refine lv_iconst (v := 3) hx hb dl_607 (by decide) ?_
  refine lv_iadd hx hb dl_608 ?_
  refine va_sld hx hb hX hbl hbA hS hi3 dl_609 ?_
  refine lc_ref (rest := []) (n := 3) (y := 239) (qm := (yX12_row, cX12_row, 4, (some .int))) (As := [.int (xs (Int32.toNatClampNeg (i + 1))), .int (xs (Int32.toNatClampNeg (i + 2))), .int (xs (Int32.toNatClampNeg (i + 3)))]) (V := fun v => ∃ y : Int32, v = some (.int y)) (X' := mT1) (cr' := cc) (Nat.le_of_ble_eq_true rfl) hx hb hml hown htb hA hE rfl bg_1427 bg_1428 bg_1429 bg_974 bg_1208 ⟨by decide, by decide, by decide +kernel⟩ (by decide) dl_610 rfl rfl h3 hS hl.1 (fun M hR _ => (rx_row hR (by decide)).imp (fun v M' h => ⟨h.1, h.2, trivial⟩)) (by omega) (by omega) (fun v H locs hV h3 hS => ?_)
  obtain ⟨y2, rfl⟩ := hV
  refine lv_istore (lv' := [(6, .int y2), (5, .int r), (0, .ref b), (1, .ref x), (2, .ref m0), (3, .ref qo), (4, .int i)]) hx hb dl_613 hl (by decide) rfl (fun ls hl => ?_)
  refine lv_goto (tgt := 809) hx hb dl_615 (by decide) ?_
  exact kk P1 _ _ H locs ls hP1 h3 hS (lv_sub hl [2, 3, 4, 5, 6] rfl)
set_option maxHeartbeats 4000000 in
set_option maxRecDepth 100000 in
theorem law_12 (hx : p.tables.exec = Jvm.exec) (hb : c.code = cL_law) (hml : c.maxLocals = 7) (hown : s.vm.findClass RL = some m.cls) (htb : ∀ w ∈ bg, w.before #[Value.ref b] s = true) (hA : ∀ q : Nat, s.heap.size ≤ q → A q) (hE : xe_E g A s s.heap) (hnt : l.stackTraces = false) (hX : va_X b L xs s s.heap) (hbl : b < s.heap.size) (hbA : ¬ A b) (hKo : va_K D vwCl [(aO, .long)] s) (hAo : A qo) (hi1 : vp_in (i + 1) L) (hi2 : vp_in (i + 2) L) (hi3 : vp_in (i + 3) L) (hi4 : vp_in (i + 4) L) (hi5 : vp_in (i + 5) L) (h3 : L3 g D A s x m0 q kr Ic Rc qo aO mT1 cc cc fed P fo H) (hS : va_S A s.heap H locs) (hl : lv_has ls 7 [(0, .ref b), (1, .ref x), (2, .ref m0), (3, .ref qo), (4, .int i)]) (hc : cells + 320026 ≤ 601024) (hs : slots + 320064 + 40 * fed ≤ 7293034)
    (kk : ∀ (P1 : Nat) (cc1 : GH) (fo1 : Nat → Int64) (H1 : Heap) (locs1 : List Loc) (ls1 : Array Slot), P ≤ P1 → L3 g D A s x m0 q kr Ic Rc qo aO mT1 cc1 cc1 fed P1 fo1 H1 → va_S A s.heap H1 locs1 → lv_has ls1 7 [(0, .ref b), (1, .ref x), (2, .ref m0), (3, .ref qo), (4, .int i)] → W p l e room_1 s m #[Value.ref b] below meth c H1 locs1 (cells + (P1 - P) + 26) (slots + (P1 - P) + (64 + 40 * fed)) Q (F0 m 809 ls1 [])) :
    W p l e room_1 s m #[Value.ref b] below meth c H locs cells slots Q (F0 m 618 ls []) := by
  have hpt := h3.pot
  refine lv_aload_n hx hb dl_618 rfl (lv_at hl 1 rfl) ?_
  refine lv_aload_n hx hb dl_619 rfl (lv_at hl 0 rfl) ?_
  refine lv_iload hx hb dl_620 (lv_at hl 4 rfl) ?_
  refine lv_iconst (v := 1) hx hb dl_622 (by decide) ?_
  refine lv_iadd hx hb dl_623 ?_
  refine va_sld hx hb hX hbl hbA hS hi1 dl_624 ?_
  refine lv_aload_n hx hb dl_625 rfl (lv_at hl 0 rfl) ?_
  refine lv_iload hx hb dl_626 (lv_at hl 4 rfl) ?_
  refine lv_iconst (v := 2) hx hb dl_628 (by decide) ?_
  refine lv_iadd hx hb dl_629 ?_
  refine va_sld hx hb hX hbl hbA hS hi2 dl_630 ?_
  refine lc_cls (n := 2) (y := 2) (qm := (yX11_bootstrap, cX11_bootstrap, 3, (some .int))) (As := [.int (xs (Int32.toNatClampNeg (i + 1))), .int (xs (Int32.toNatClampNeg (i + 2)))]) (S := 64 + 40 * fed) (V := fun v => v = some (.int (bsK cc.2.2.2.2.2 (xs (Int32.toNatClampNeg (i + 1))) (xs (Int32.toNatClampNeg (i + 2)))))) hx hb hml hown htb hA hE rfl bg_1430 bg_1431 bg_1432 bg_774 bg_903 ⟨by decide, by decide, by decide +kernel⟩ (by decide) dl_631 rfl rfl h3 hS hl.1 (fun M hG => gx_bootstrapX hG (by decide)) (by omega) (by omega) (fun v P1 H locs hV hP1 h3 hS => ?_)
  have hpt := h3.pot
  subst hV
  refine lv_pop (va := .int (bsK cc.2.2.2.2.2 (xs (Int32.toNatClampNeg (i + 1))) (xs (Int32.toNatClampNeg (i + 2))))) hx hb dl_634 rfl ?_
  refine lv_aload_n hx hb dl_635 rfl (lv_at hl 2 rfl) ?_
  refine lv_aload_n hx hb dl_636 rfl (lv_at hl 0 rfl) ?_
  refine lv_iload hx hb dl_637 (lv_at hl 4 rfl) ?_
  refine lv_iconst (v := 1) hx hb dl_639 (by decide) ?_
  refine lv_iadd hx hb dl_640 ?_
  refine va_sld hx hb hX hbl hbA hS hi1 dl_641 ?_
  refine lv_aload_n hx hb dl_642 rfl (lv_at hl 0 rfl) ?_
  refine lv_iload hx hb dl_643 (lv_at hl 4 rfl) ?_
  refine lv_iconst (v := 2) hx hb dl_645 (by decide) ?_
  refine lv_iadd hx hb dl_646 ?_
  refine va_sld hx hb hX hbl hbA hS hi2 dl_647 ?_
  refine lc_ref (rest := []) (n := 2) (y := 184) (qm := (yX12_bootstrap, cX12_bootstrap, 5, (some .int))) (As := [.int (xs (Int32.toNatClampNeg (i + 1))), .int (xs (Int32.toNatClampNeg (i + 2)))]) (V := fun v => v = some (.int (bsK cc.2.2.2.2.2 (xs (Int32.toNatClampNeg (i + 1))) (xs (Int32.toNatClampNeg (i + 2)))))) (X' := mT1) (cr' := cc) (Nat.le_of_ble_eq_true rfl) hx hb hml hown htb hA hE rfl bg_1433 bg_1434 bg_1435 bg_974 bg_1209 ⟨by decide, by decide, by decide +kernel⟩ (by decide) dl_648 rfl rfl h3 hS hl.1 (fun M hR _ => (rx_bootstrapX hR (by decide)).imp (fun v M' h => ⟨h.1, h.2, trivial⟩)) (by omega) (by omega) (fun v H locs hV h3 hS => ?_)
  subst hV
  refine lv_pop (va := .int (bsK cc.2.2.2.2.2 (xs (Int32.toNatClampNeg (i + 1))) (xs (Int32.toNatClampNeg (i + 2))))) hx hb dl_651 rfl ?_
  refine lv_goto (tgt := 809) hx hb dl_652 (by decide) ?_
  exact kk P1 _ _ H locs ls hP1 h3 hS (lv_sub hl [0, 1, 2, 3, 4] rfl)
set_option maxHeartbeats 4000000 in
set_option maxRecDepth 100000 in
theorem law_13 (hx : p.tables.exec = Jvm.exec) (hb : c.code = cL_law) (hml : c.maxLocals = 7) (hown : s.vm.findClass RL = some m.cls) (htb : ∀ w ∈ bg, w.before #[Value.ref b] s = true) (hA : ∀ q : Nat, s.heap.size ≤ q → A q) (hE : xe_E g A s s.heap) (hnt : l.stackTraces = false) (hX : va_X b L xs s s.heap) (hbl : b < s.heap.size) (hbA : ¬ A b) (hKo : va_K D vwCl [(aO, .long)] s) (hAo : A qo) (hi1 : vp_in (i + 1) L) (hi2 : vp_in (i + 2) L) (hi3 : vp_in (i + 3) L) (hi4 : vp_in (i + 4) L) (hi5 : vp_in (i + 5) L) (h3 : L3 g D A s x m0 q kr Ic Rc qo aO mT1 cc cc fed P fo H) (hS : va_S A s.heap H locs) (hl : lv_has ls 7 [(0, .ref b), (1, .ref x), (2, .ref m0), (3, .ref qo), (4, .int i)]) (hc : cells + 320026 ≤ 601024) (hs : slots + 320064 + 40 * fed ≤ 7293034)
    (kk : ∀ (P1 : Nat) (cc1 : GH) (fo1 : Nat → Int64) (H1 : Heap) (locs1 : List Loc) (ls1 : Array Slot), P ≤ P1 → L3 g D A s x m0 q kr Ic Rc qo aO mT1 cc1 cc1 fed P1 fo1 H1 → va_S A s.heap H1 locs1 → lv_has ls1 7 [(0, .ref b), (1, .ref x), (2, .ref m0), (3, .ref qo), (4, .int i)] → W p l e room_1 s m #[Value.ref b] below meth c H1 locs1 (cells + (P1 - P) + 26) (slots + (P1 - P) + (64 + 40 * fed)) Q (F0 m 809 ls1 [])) :
    W p l e room_1 s m #[Value.ref b] below meth c H locs cells slots Q (F0 m 655 ls []) := by
  have hpt := h3.pot
  refine lv_aload_n hx hb dl_655 rfl (lv_at hl 1 rfl) ?_
  refine lv_aload_n hx hb dl_656 rfl (lv_at hl 0 rfl) ?_
  refine lv_iload hx hb dl_657 (lv_at hl 4 rfl) ?_
  refine lv_iconst (v := 1) hx hb dl_659 (by decide) ?_
  refine lv_iadd hx hb dl_660 ?_
  refine va_sld hx hb hX hbl hbA hS hi1 dl_661 ?_
  refine lc_cls (n := 1) (y := 6) (qm := (yX11_cut, cX11_cut, 3, (some .int))) (As := [.int (xs (Int32.toNatClampNeg (i + 1)))]) (S := 64 + 40 * fed) (V := fun v => ∃ y : Int32, v = some (.int y)) hx hb hml hown htb hA hE rfl bg_1436 bg_1437 bg_1438 bg_774 bg_907 ⟨by decide, by decide, by decide +kernel⟩ (by decide) dl_662 rfl rfl h3 hS hl.1 (fun M hG => gx_cut hG (by decide)) (by omega) (by omega) (fun v P1 H locs hV hP1 h3 hS => ?_)
  have hpt := h3.pot
  obtain ⟨y1, rfl⟩ := hV
  refine lv_pop (va := .int y1) hx hb dl_665 rfl ?_
  refine lv_aload_n hx hb dl_666 rfl (lv_at hl 2 rfl) ?_
  refine lv_aload_n hx hb dl_667 rfl (lv_at hl 0 rfl) ?_
  refine lv_iload hx hb dl_668 (lv_at hl 4 rfl) ?_
  refine lv_iconst (v := 1) hx hb dl_670 (by decide) ?_
  refine lv_iadd hx hb dl_671 ?_
  refine va_sld hx hb hX hbl hbA hS hi1 dl_672 ?_
  refine lc_ref (rest := []) (n := 1) (y := 199) (qm := (yX12_cut, cX12_cut, 2, (some .int))) (As := [.int (xs (Int32.toNatClampNeg (i + 1)))]) (V := fun v => ∃ y : Int32, v = some (.int y)) (X' := mT1) (cr' := cc) (Nat.le_of_ble_eq_true rfl) hx hb hml hown htb hA hE rfl bg_1439 bg_1440 bg_1441 bg_974 bg_1279 ⟨by decide, by decide, by decide +kernel⟩ (by decide) dl_673 rfl rfl h3 hS hl.1 (fun M hR _ => (rx_cut hR (by decide)).imp (fun v M' h => ⟨h.1, h.2, trivial⟩)) (by omega) (by omega) (fun v H locs hV h3 hS => ?_)
  obtain ⟨y2, rfl⟩ := hV
  refine lv_pop (va := .int y2) hx hb dl_676 rfl ?_
  refine lv_goto (tgt := 809) hx hb dl_677 (by decide) ?_
  exact kk P1 _ _ H locs ls hP1 h3 hS (lv_sub hl [0, 1, 2, 3, 4] rfl)
end LWD
