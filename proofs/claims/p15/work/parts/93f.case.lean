/-! cases of the law (laid by wip/p2/c92.py) -/
theorem dl_652 : decode cL_law 652 = .ok (.aload_n 1, 1) := by decide +kernel
theorem dl_653 : decode cL_law 653 = .ok (.aload_n 0, 1) := by decide +kernel
theorem dl_654 : decode cL_law 654 = .ok (.iload 4, 2) := by decide +kernel
theorem dl_656 : decode cL_law 656 = .ok (.iconst 1, 1) := by decide +kernel
theorem dl_657 : decode cL_law 657 = .ok (.iadd, 1) := by decide +kernel
theorem dl_658 : decode cL_law 658 = .ok (.iaload, 1) := by decide +kernel
theorem dl_659 : decode cL_law 659 = .ok (.aload_n 0, 1) := by decide +kernel
theorem dl_660 : decode cL_law 660 = .ok (.iload 4, 2) := by decide +kernel
theorem dl_662 : decode cL_law 662 = .ok (.iconst 2, 1) := by decide +kernel
theorem dl_663 : decode cL_law 663 = .ok (.iadd, 1) := by decide +kernel
theorem dl_664 : decode cL_law 664 = .ok (.iaload, 1) := by decide +kernel
theorem dl_665 : decode cL_law 665 = .ok (.aload_n 0, 1) := by decide +kernel
theorem dl_666 : decode cL_law 666 = .ok (.iload 4, 2) := by decide +kernel
theorem dl_668 : decode cL_law 668 = .ok (.iconst 3, 1) := by decide +kernel
theorem dl_669 : decode cL_law 669 = .ok (.iadd, 1) := by decide +kernel
theorem dl_670 : decode cL_law 670 = .ok (.iaload, 1) := by decide +kernel
theorem dl_671 : decode cL_law 671 = .ok (.aload_n 3, 1) := by decide +kernel
theorem dl_672 : decode cL_law 672 = .ok (.invokestatic 102, 3) := by decide +kernel
theorem dl_675 : decode cL_law 675 = .ok (.istore 5, 2) := by decide +kernel
theorem dl_677 : decode cL_law 677 = .ok (.aload_n 2, 1) := by decide +kernel
theorem dl_678 : decode cL_law 678 = .ok (.aload_n 0, 1) := by decide +kernel
theorem dl_679 : decode cL_law 679 = .ok (.iload 4, 2) := by decide +kernel
theorem dl_681 : decode cL_law 681 = .ok (.iconst 1, 1) := by decide +kernel
theorem dl_682 : decode cL_law 682 = .ok (.iadd, 1) := by decide +kernel
theorem dl_683 : decode cL_law 683 = .ok (.iaload, 1) := by decide +kernel
theorem dl_684 : decode cL_law 684 = .ok (.aload_n 0, 1) := by decide +kernel
theorem dl_685 : decode cL_law 685 = .ok (.iload 4, 2) := by decide +kernel
theorem dl_687 : decode cL_law 687 = .ok (.iconst 2, 1) := by decide +kernel
theorem dl_688 : decode cL_law 688 = .ok (.iadd, 1) := by decide +kernel
theorem dl_689 : decode cL_law 689 = .ok (.iaload, 1) := by decide +kernel
theorem dl_690 : decode cL_law 690 = .ok (.aload_n 0, 1) := by decide +kernel
theorem dl_691 : decode cL_law 691 = .ok (.iload 4, 2) := by decide +kernel
theorem dl_693 : decode cL_law 693 = .ok (.iconst 3, 1) := by decide +kernel
theorem dl_694 : decode cL_law 694 = .ok (.iadd, 1) := by decide +kernel
theorem dl_695 : decode cL_law 695 = .ok (.iaload, 1) := by decide +kernel
theorem dl_696 : decode cL_law 696 = .ok (.invokevirtual 104, 3) := by decide +kernel
theorem dl_699 : decode cL_law 699 = .ok (.istore 6, 2) := by decide +kernel
theorem dl_701 : decode cL_law 701 = .ok (.goto 80, 3) := by decide +kernel
theorem dl_704 : decode cL_law 704 = .ok (.aload_n 1, 1) := by decide +kernel
theorem dl_705 : decode cL_law 705 = .ok (.aload_n 0, 1) := by decide +kernel
theorem dl_706 : decode cL_law 706 = .ok (.iload 4, 2) := by decide +kernel
theorem dl_708 : decode cL_law 708 = .ok (.iconst 1, 1) := by decide +kernel
theorem dl_709 : decode cL_law 709 = .ok (.iadd, 1) := by decide +kernel
theorem dl_710 : decode cL_law 710 = .ok (.iaload, 1) := by decide +kernel
theorem dl_711 : decode cL_law 711 = .ok (.aload_n 0, 1) := by decide +kernel
theorem dl_712 : decode cL_law 712 = .ok (.iload 4, 2) := by decide +kernel
theorem dl_714 : decode cL_law 714 = .ok (.iconst 2, 1) := by decide +kernel
theorem dl_715 : decode cL_law 715 = .ok (.iadd, 1) := by decide +kernel
theorem dl_716 : decode cL_law 716 = .ok (.iaload, 1) := by decide +kernel
theorem dl_717 : decode cL_law 717 = .ok (.aload_n 0, 1) := by decide +kernel
theorem dl_718 : decode cL_law 718 = .ok (.iload 4, 2) := by decide +kernel
theorem dl_720 : decode cL_law 720 = .ok (.iconst 3, 1) := by decide +kernel
theorem dl_721 : decode cL_law 721 = .ok (.iadd, 1) := by decide +kernel
theorem dl_722 : decode cL_law 722 = .ok (.iaload, 1) := by decide +kernel
theorem dl_723 : decode cL_law 723 = .ok (.aload_n 0, 1) := by decide +kernel
theorem dl_724 : decode cL_law 724 = .ok (.iload 4, 2) := by decide +kernel
theorem dl_726 : decode cL_law 726 = .ok (.iconst 4, 1) := by decide +kernel
theorem dl_727 : decode cL_law 727 = .ok (.iadd, 1) := by decide +kernel
theorem dl_728 : decode cL_law 728 = .ok (.iaload, 1) := by decide +kernel
theorem dl_732 : decode cL_law 732 = .ok (.iconst 1, 1) := by decide +kernel
theorem dl_733 : decode cL_law 733 = .ok (.goto 4, 3) := by decide +kernel
theorem dl_736 : decode cL_law 736 = .ok (.iconst 0, 1) := by decide +kernel
theorem dl_729 : decode cL_law 729 = .ok (.ifCond .eq 7, 3) := by decide +kernel
theorem dl_737 : decode cL_law 737 = .ok (.invokevirtual 105, 3) := by decide +kernel
theorem dl_740 : decode cL_law 740 = .ok (.pop, 1) := by decide +kernel
theorem dl_741 : decode cL_law 741 = .ok (.aload_n 2, 1) := by decide +kernel
theorem dl_742 : decode cL_law 742 = .ok (.aload_n 0, 1) := by decide +kernel
theorem dl_743 : decode cL_law 743 = .ok (.iload 4, 2) := by decide +kernel
theorem dl_745 : decode cL_law 745 = .ok (.iconst 1, 1) := by decide +kernel
theorem dl_746 : decode cL_law 746 = .ok (.iadd, 1) := by decide +kernel
theorem dl_747 : decode cL_law 747 = .ok (.iaload, 1) := by decide +kernel
theorem dl_748 : decode cL_law 748 = .ok (.aload_n 0, 1) := by decide +kernel
theorem dl_749 : decode cL_law 749 = .ok (.iload 4, 2) := by decide +kernel
theorem dl_751 : decode cL_law 751 = .ok (.iconst 2, 1) := by decide +kernel
theorem dl_752 : decode cL_law 752 = .ok (.iadd, 1) := by decide +kernel
theorem dl_753 : decode cL_law 753 = .ok (.iaload, 1) := by decide +kernel
theorem dl_754 : decode cL_law 754 = .ok (.aload_n 0, 1) := by decide +kernel
theorem dl_755 : decode cL_law 755 = .ok (.iload 4, 2) := by decide +kernel
theorem dl_757 : decode cL_law 757 = .ok (.iconst 3, 1) := by decide +kernel
theorem dl_758 : decode cL_law 758 = .ok (.iadd, 1) := by decide +kernel
theorem dl_759 : decode cL_law 759 = .ok (.iaload, 1) := by decide +kernel
theorem dl_760 : decode cL_law 760 = .ok (.aload_n 0, 1) := by decide +kernel
theorem dl_761 : decode cL_law 761 = .ok (.iload 4, 2) := by decide +kernel
theorem dl_763 : decode cL_law 763 = .ok (.iconst 4, 1) := by decide +kernel
theorem dl_764 : decode cL_law 764 = .ok (.iadd, 1) := by decide +kernel
theorem dl_765 : decode cL_law 765 = .ok (.iaload, 1) := by decide +kernel
theorem dl_769 : decode cL_law 769 = .ok (.iconst 1, 1) := by decide +kernel
theorem dl_770 : decode cL_law 770 = .ok (.goto 4, 3) := by decide +kernel
theorem dl_773 : decode cL_law 773 = .ok (.iconst 0, 1) := by decide +kernel
theorem dl_766 : decode cL_law 766 = .ok (.ifCond .eq 7, 3) := by decide +kernel
theorem dl_774 : decode cL_law 774 = .ok (.invokevirtual 109, 3) := by decide +kernel
theorem dl_777 : decode cL_law 777 = .ok (.pop, 1) := by decide +kernel
theorem dl_778 : decode cL_law 778 = .ok (.goto 3, 3) := by decide +kernel
section LWD
variable {p : Program} {l : Launch} {e : Env} {s : State} {m : MethodId} {below : List Frame} {meth : Method} {c : Code} {A : Nat → Prop} {b L : Nat} {xs : Nat → Int32} {D : va_G} {g : xe_G} {x m0 qo : Nat} {aO : ClassId} {q : Nat → Nat} {kr : rR} {Ic : rI} {Rc : rR}
variable {cc : GH} {fed P cells slots : Nat} {fo : Nat → Int64} {H : Heap} {locs : List Loc} {ls : Array Slot} {Q : State → Prop} {i : Int32}

set_option maxHeartbeats 4000000 in
set_option maxRecDepth 100000 in
theorem law_14 (hx : p.tables.exec = Jvm.exec) (hb : c.code = cL_law) (hml : c.maxLocals = 7) (hown : s.vm.findClass RL = some m.cls) (htb : ∀ w ∈ bg, w.before #[Value.ref b] s = true) (hA : ∀ q : Nat, s.heap.size ≤ q → A q) (hE : xe_E g A s s.heap) (hnt : l.stackTraces = false) (hX : va_X b L xs s s.heap) (hbl : b < s.heap.size) (hbA : ¬ A b) (hKo : va_K D vwCl [(aO, .long)] s) (hAo : A qo) (hi1 : vp_in (i + 1) L) (hi2 : vp_in (i + 2) L) (hi3 : vp_in (i + 3) L) (hi4 : vp_in (i + 4) L) (hi5 : vp_in (i + 5) L) (h3 : L3 g D A s x m0 q kr Ic Rc qo aO mT1 cc cc fed P fo H) (hS : va_S A s.heap H locs) (hl : lv_has ls 7 [(0, .ref b), (1, .ref x), (2, .ref m0), (3, .ref qo), (4, .int i)]) (hc : cells + 320026 ≤ 601024) (hs : slots + 320064 + 40 * fed ≤ 7293034)
    (kk : ∀ (P1 : Nat) (cc1 : GH) (fo1 : Nat → Int64) (H1 : Heap) (locs1 : List Loc) (ls1 : Array Slot), P ≤ P1 → L3 g D A s x m0 q kr Ic Rc qo aO mT1 cc1 cc1 fed P1 fo1 H1 → va_S A s.heap H1 locs1 → lv_has ls1 7 [(0, .ref b), (1, .ref x), (2, .ref m0), (3, .ref qo), (4, .int i)] → W p l e room_1 s m #[Value.ref b] below meth c H1 locs1 (cells + (P1 - P) + 26) (slots + (P1 - P) + (64 + 40 * fed)) Q (F0 m 781 ls1 [])) :
    W p l e room_1 s m #[Value.ref b] below meth c H locs cells slots Q (F0 m 652 ls []) := by
  have hpt := h3.pot
  refine lv_aload_n hx hb dl_652 rfl (lv_at hl 1 rfl) ?_
  refine lv_aload_n hx hb dl_653 rfl (lv_at hl 0 rfl) ?_
  refine lv_iload hx hb dl_654 (lv_at hl 4 rfl) ?_
  refine lv_iconst (v := 1) hx hb dl_656 (by decide) ?_
  refine lv_iadd hx hb dl_657 ?_
  refine va_sld hx hb hX hbl hbA hS hi1 dl_658 ?_
  refine lv_aload_n hx hb dl_659 rfl (lv_at hl 0 rfl) ?_
  refine lv_iload hx hb dl_660 (lv_at hl 4 rfl) ?_
  refine lv_iconst (v := 2) hx hb dl_662 (by decide) ?_
  refine lv_iadd hx hb dl_663 ?_
  refine va_sld hx hb hX hbl hbA hS hi2 dl_664 ?_
  refine lv_aload_n hx hb dl_665 rfl (lv_at hl 0 rfl) ?_
  refine lv_iload hx hb dl_666 (lv_at hl 4 rfl) ?_
  refine lv_iconst (v := 3) hx hb dl_668 (by decide) ?_
  refine lv_iadd hx hb dl_669 ?_
  refine va_sld hx hb hX hbl hbA hS hi3 dl_670 ?_
  refine lv_aload_n hx hb dl_671 rfl (lv_at hl 3 rfl) ?_
  refine lc_hlp (n := 5) (av := [.ref x, .int (xs (Int32.toNatClampNeg (i + 1))), .int (xs (Int32.toNatClampNeg (i + 2))), .int (xs (Int32.toNatClampNeg (i + 3))), .ref qo]) (yh := yL_instruction) (bytes := cL_instruction) (maxL := 6) (hh := [(0, 12, 15, 19)]) (S := 64 + 40 * fed) hx hb hml hown htb hA hE bg_1438 bg_1439 bg_1361 bg_1346 ⟨by decide, by decide, by decide +kernel⟩ (by decide) dl_672 rfl rfl h3 hS hl.1 hKo hAo (fun M hG => hp_instruction l D g hnt hG) (by omega) (by omega) (fun r P1 fo1 H locs hV hP1 h3 hS => ?_)
  have hpt := h3.pot
  refine lv_istore (lv' := [(5, .int r), (0, .ref b), (1, .ref x), (2, .ref m0), (3, .ref qo), (4, .int i)]) hx hb dl_675 hl (by decide) rfl (fun ls hl => ?_)
  refine lv_aload_n hx hb dl_677 rfl (lv_at hl 3 rfl) ?_
  refine lv_aload_n hx hb dl_678 rfl (lv_at hl 1 rfl) ?_
  refine lv_iload hx hb dl_679 (lv_at hl 5 rfl) ?_
  refine lv_iconst (v := 1) hx hb dl_681 (by decide) ?_
  refine lv_iadd hx hb dl_682 ?_
  refine va_sld hx hb hX hbl hbA hS hi1 dl_683 ?_
  refine lv_aload_n hx hb dl_684 rfl (lv_at hl 1 rfl) ?_
  refine lv_iload hx hb dl_685 (lv_at hl 5 rfl) ?_
  refine lv_iconst (v := 2) hx hb dl_687 (by decide) ?_
  refine lv_iadd hx hb dl_688 ?_
  refine va_sld hx hb hX hbl hbA hS hi2 dl_689 ?_
  refine lv_aload_n hx hb dl_690 rfl (lv_at hl 1 rfl) ?_
  refine lv_iload hx hb dl_691 (lv_at hl 5 rfl) ?_
  refine lv_iconst (v := 3) hx hb dl_693 (by decide) ?_
  refine lv_iadd hx hb dl_694 ?_
  refine va_sld hx hb hX hbl hbA hS hi3 dl_695 ?_
  refine lc_ref (rest := []) (n := 3) (y := 215) (qm := (yX12_instruction, cX12_instruction, 6, (some .int))) (As := [.int (xs (Int32.toNatClampNeg (i + 1))), .int (xs (Int32.toNatClampNeg (i + 2))), .int (xs (Int32.toNatClampNeg (i + 3)))]) (V := fun v => ∃ y : Int32, v = some (.int y)) (X' := mT1) (cr' := cc) (Nat.le_of_ble_eq_true rfl) hx hb hml hown htb hA hE rfl bg_1440 bg_1441 bg_1442 bg_972 bg_1285 ⟨by decide, by decide, by decide +kernel⟩ (by decide) dl_696 rfl rfl h3 hS hl.1 (fun M hR _ => (rx_instruction hR (by decide)).imp (fun v M' h => ⟨h.1, h.2, trivial⟩)) (by omega) (by omega) (fun v H locs hV h3 hS => ?_)
  obtain ⟨y2, rfl⟩ := hV
  refine lv_istore (lv' := [(6, .int y2), (5, .int r), (0, .ref b), (1, .ref x), (2, .ref m0), (3, .ref qo), (4, .int i)]) hx hb dl_699 hl (by decide) rfl (fun ls hl => ?_)
  refine lv_goto (tgt := 781) hx hb dl_701 (by decide) ?_
  exact kk P1 _ _ H locs ls hP1 h3 hS (lv_sub hl [2, 3, 4, 5, 6] rfl)
set_option maxHeartbeats 4000000 in
set_option maxRecDepth 100000 in
theorem law_15 (hx : p.tables.exec = Jvm.exec) (hb : c.code = cL_law) (hml : c.maxLocals = 7) (hown : s.vm.findClass RL = some m.cls) (htb : ∀ w ∈ bg, w.before #[Value.ref b] s = true) (hA : ∀ q : Nat, s.heap.size ≤ q → A q) (hE : xe_E g A s s.heap) (hnt : l.stackTraces = false) (hX : va_X b L xs s s.heap) (hbl : b < s.heap.size) (hbA : ¬ A b) (hKo : va_K D vwCl [(aO, .long)] s) (hAo : A qo) (hi1 : vp_in (i + 1) L) (hi2 : vp_in (i + 2) L) (hi3 : vp_in (i + 3) L) (hi4 : vp_in (i + 4) L) (hi5 : vp_in (i + 5) L) (h3 : L3 g D A s x m0 q kr Ic Rc qo aO mT1 cc cc fed P fo H) (hS : va_S A s.heap H locs) (hl : lv_has ls 7 [(0, .ref b), (1, .ref x), (2, .ref m0), (3, .ref qo), (4, .int i)]) (hc : cells + 320026 ≤ 601024) (hs : slots + 320064 + 40 * fed ≤ 7293034)
    (kk : ∀ (P1 : Nat) (cc1 : GH) (fo1 : Nat → Int64) (H1 : Heap) (locs1 : List Loc) (ls1 : Array Slot), P ≤ P1 → L3 g D A s x m0 q kr Ic Rc qo aO mT1 cc1 cc1 fed P1 fo1 H1 → va_S A s.heap H1 locs1 → lv_has ls1 7 [(0, .ref b), (1, .ref x), (2, .ref m0), (3, .ref qo), (4, .int i)] → W p l e room_1 s m #[Value.ref b] below meth c H1 locs1 (cells + (P1 - P) + 26) (slots + (P1 - P) + (64 + 40 * fed)) Q (F0 m 781 ls1 [])) :
    W p l e room_1 s m #[Value.ref b] below meth c H locs cells slots Q (F0 m 704 ls []) := by
  have hpt := h3.pot
  refine lv_aload_n hx hb dl_704 rfl (lv_at hl 1 rfl) ?_
  refine lv_aload_n hx hb dl_705 rfl (lv_at hl 0 rfl) ?_
  refine lv_iload hx hb dl_706 (lv_at hl 4 rfl) ?_
  refine lv_iconst (v := 1) hx hb dl_708 (by decide) ?_
  refine lv_iadd hx hb dl_709 ?_
  refine va_sld hx hb hX hbl hbA hS hi1 dl_710 ?_
  refine lv_aload_n hx hb dl_711 rfl (lv_at hl 0 rfl) ?_
  refine lv_iload hx hb dl_712 (lv_at hl 4 rfl) ?_
  refine lv_iconst (v := 2) hx hb dl_714 (by decide) ?_
  refine lv_iadd hx hb dl_715 ?_
  refine va_sld hx hb hX hbl hbA hS hi2 dl_716 ?_
  refine lv_aload_n hx hb dl_717 rfl (lv_at hl 0 rfl) ?_
  refine lv_iload hx hb dl_718 (lv_at hl 4 rfl) ?_
  refine lv_iconst (v := 3) hx hb dl_720 (by decide) ?_
  refine lv_iadd hx hb dl_721 ?_
  refine va_sld hx hb hX hbl hbA hS hi3 dl_722 ?_
  refine lv_aload_n hx hb dl_723 rfl (lv_at hl 0 rfl) ?_
  refine lv_iload hx hb dl_724 (lv_at hl 4 rfl) ?_
  refine lv_iconst (v := 4) hx hb dl_726 (by decide) ?_
  refine lv_iadd hx hb dl_727 ?_
  refine va_sld hx hb hX hbl hbA hS hi4 dl_728 ?_
  refine lw_boolx hx hb dl_729 dl_732 dl_733 dl_736 ?_
  refine lc_cls (n := 4) (y := 14) (qm := (yX11_jump, cX11_jump, 6, (some .int))) (As := [.int (xs (Int32.toNatClampNeg (i + 1))), .int (xs (Int32.toNatClampNeg (i + 2))), .int (xs (Int32.toNatClampNeg (i + 3))), .int (bz (xs (Int32.toNatClampNeg (i + 4))))]) (S := 64 + 40 * fed) (V := fun v => v = some (.int (juK cc.2.2.2.2.2 (xs (Int32.toNatClampNeg (i + 1))) (xs (Int32.toNatClampNeg (i + 2))) (xs (Int32.toNatClampNeg (i + 3))) (bz (xs (Int32.toNatClampNeg (i + 4))))))) hx hb hml hown htb hA hE rfl bg_1443 bg_1444 bg_1445 bg_774 bg_915 ⟨by decide, by decide, by decide +kernel⟩ (by decide) dl_737 rfl rfl h3 hS hl.1 (fun M hG => gx_jumpX hG (by decide)) (by omega) (by omega) (fun v P1 H locs hV hP1 h3 hS => ?_)
  have hpt := h3.pot
  subst hV
  refine lv_pop (va := .int (juK cc.2.2.2.2.2 (xs (Int32.toNatClampNeg (i + 1))) (xs (Int32.toNatClampNeg (i + 2))) (xs (Int32.toNatClampNeg (i + 3))) (bz (xs (Int32.toNatClampNeg (i + 4)))))) hx hb dl_740 rfl ?_
  refine lv_aload_n hx hb dl_741 rfl (lv_at hl 2 rfl) ?_
  refine lv_aload_n hx hb dl_742 rfl (lv_at hl 0 rfl) ?_
  refine lv_iload hx hb dl_743 (lv_at hl 4 rfl) ?_
  refine lv_iconst (v := 1) hx hb dl_745 (by decide) ?_
  refine lv_iadd hx hb dl_746 ?_
  refine va_sld hx hb hX hbl hbA hS hi1 dl_747 ?_
  refine lv_aload_n hx hb dl_748 rfl (lv_at hl 0 rfl) ?_
  refine lv_iload hx hb dl_749 (lv_at hl 4 rfl) ?_
  refine lv_iconst (v := 2) hx hb dl_751 (by decide) ?_
  refine lv_iadd hx hb dl_752 ?_
  refine va_sld hx hb hX hbl hbA hS hi2 dl_753 ?_
  refine lv_aload_n hx hb dl_754 rfl (lv_at hl 0 rfl) ?_
  refine lv_iload hx hb dl_755 (lv_at hl 4 rfl) ?_
  refine lv_iconst (v := 3) hx hb dl_757 (by decide) ?_
  refine lv_iadd hx hb dl_758 ?_
  refine va_sld hx hb hX hbl hbA hS hi3 dl_759 ?_
  refine lv_aload_n hx hb dl_760 rfl (lv_at hl 0 rfl) ?_
  refine lv_iload hx hb dl_761 (lv_at hl 4 rfl) ?_
  refine lv_iconst (v := 4) hx hb dl_763 (by decide) ?_
  refine lv_iadd hx hb dl_764 ?_
  refine va_sld hx hb hX hbl hbA hS hi4 dl_765 ?_
  refine lw_boolx hx hb dl_766 dl_769 dl_770 dl_773 ?_
  refine lc_ref (rest := []) (n := 4) (y := 220) (qm := (yX12_jump, cX12_jump, 7, (some .int))) (As := [.int (xs (Int32.toNatClampNeg (i + 1))), .int (xs (Int32.toNatClampNeg (i + 2))), .int (xs (Int32.toNatClampNeg (i + 3))), .int (bz (xs (Int32.toNatClampNeg (i + 4))))]) (V := fun v => v = some (.int (juK cc.2.2.2.2.2 (xs (Int32.toNatClampNeg (i + 1))) (xs (Int32.toNatClampNeg (i + 2))) (xs (Int32.toNatClampNeg (i + 3))) (bz (xs (Int32.toNatClampNeg (i + 4))))))) (X' := mT1) (cr' := cc) (Nat.le_of_ble_eq_true rfl) hx hb hml hown htb hA hE rfl bg_1446 bg_1447 bg_1448 bg_972 bg_1298 ⟨by decide, by decide, by decide +kernel⟩ (by decide) dl_774 rfl rfl h3 hS hl.1 (fun M hR _ => (rx_jumpX hR (by decide)).imp (fun v M' h => ⟨h.1, h.2, trivial⟩)) (by omega) (by omega) (fun v H locs hV h3 hS => ?_)
  subst hV
  refine lv_pop (va := .int (juK cc.2.2.2.2.2 (xs (Int32.toNatClampNeg (i + 1))) (xs (Int32.toNatClampNeg (i + 2))) (xs (Int32.toNatClampNeg (i + 3))) (bz (xs (Int32.toNatClampNeg (i + 4)))))) hx hb dl_777 rfl ?_
  refine lv_goto (tgt := 781) hx hb dl_778 (by decide) ?_
  exact kk P1 _ _ H locs ls hP1 h3 hS (lv_sub hl [0, 1, 2, 3, 4] rfl)
end LWD
