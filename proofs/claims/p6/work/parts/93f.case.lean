/-! cases of the law (laid by wip/p2/c92.py) -/
theorem dl_680 : decode cL_law 680 = .ok (.aload_n 1, 1) := by decide +kernel
theorem dl_681 : decode cL_law 681 = .ok (.aload_n 0, 1) := by decide +kernel
theorem dl_682 : decode cL_law 682 = .ok (.iload 4, 2) := by decide +kernel
theorem dl_684 : decode cL_law 684 = .ok (.iconst 1, 1) := by decide +kernel
theorem dl_685 : decode cL_law 685 = .ok (.iadd, 1) := by decide +kernel
theorem dl_686 : decode cL_law 686 = .ok (.iaload, 1) := by decide +kernel
theorem dl_687 : decode cL_law 687 = .ok (.aload_n 0, 1) := by decide +kernel
theorem dl_688 : decode cL_law 688 = .ok (.iload 4, 2) := by decide +kernel
theorem dl_690 : decode cL_law 690 = .ok (.iconst 2, 1) := by decide +kernel
theorem dl_691 : decode cL_law 691 = .ok (.iadd, 1) := by decide +kernel
theorem dl_692 : decode cL_law 692 = .ok (.iaload, 1) := by decide +kernel
theorem dl_693 : decode cL_law 693 = .ok (.aload_n 0, 1) := by decide +kernel
theorem dl_694 : decode cL_law 694 = .ok (.iload 4, 2) := by decide +kernel
theorem dl_696 : decode cL_law 696 = .ok (.iconst 3, 1) := by decide +kernel
theorem dl_697 : decode cL_law 697 = .ok (.iadd, 1) := by decide +kernel
theorem dl_698 : decode cL_law 698 = .ok (.iaload, 1) := by decide +kernel
theorem dl_699 : decode cL_law 699 = .ok (.aload_n 3, 1) := by decide +kernel
theorem dl_700 : decode cL_law 700 = .ok (.invokestatic 105, 3) := by decide +kernel
theorem dl_703 : decode cL_law 703 = .ok (.istore 5, 2) := by decide +kernel
theorem dl_705 : decode cL_law 705 = .ok (.aload_n 2, 1) := by decide +kernel
theorem dl_706 : decode cL_law 706 = .ok (.aload_n 0, 1) := by decide +kernel
theorem dl_707 : decode cL_law 707 = .ok (.iload 4, 2) := by decide +kernel
theorem dl_709 : decode cL_law 709 = .ok (.iconst 1, 1) := by decide +kernel
theorem dl_710 : decode cL_law 710 = .ok (.iadd, 1) := by decide +kernel
theorem dl_711 : decode cL_law 711 = .ok (.iaload, 1) := by decide +kernel
theorem dl_712 : decode cL_law 712 = .ok (.aload_n 0, 1) := by decide +kernel
theorem dl_713 : decode cL_law 713 = .ok (.iload 4, 2) := by decide +kernel
theorem dl_715 : decode cL_law 715 = .ok (.iconst 2, 1) := by decide +kernel
theorem dl_716 : decode cL_law 716 = .ok (.iadd, 1) := by decide +kernel
theorem dl_717 : decode cL_law 717 = .ok (.iaload, 1) := by decide +kernel
theorem dl_718 : decode cL_law 718 = .ok (.aload_n 0, 1) := by decide +kernel
theorem dl_719 : decode cL_law 719 = .ok (.iload 4, 2) := by decide +kernel
theorem dl_721 : decode cL_law 721 = .ok (.iconst 3, 1) := by decide +kernel
theorem dl_722 : decode cL_law 722 = .ok (.iadd, 1) := by decide +kernel
theorem dl_723 : decode cL_law 723 = .ok (.iaload, 1) := by decide +kernel
theorem dl_724 : decode cL_law 724 = .ok (.invokevirtual 107, 3) := by decide +kernel
theorem dl_727 : decode cL_law 727 = .ok (.istore 6, 2) := by decide +kernel
theorem dl_729 : decode cL_law 729 = .ok (.goto 80, 3) := by decide +kernel
theorem dl_732 : decode cL_law 732 = .ok (.aload_n 1, 1) := by decide +kernel
theorem dl_733 : decode cL_law 733 = .ok (.aload_n 0, 1) := by decide +kernel
theorem dl_734 : decode cL_law 734 = .ok (.iload 4, 2) := by decide +kernel
theorem dl_736 : decode cL_law 736 = .ok (.iconst 1, 1) := by decide +kernel
theorem dl_737 : decode cL_law 737 = .ok (.iadd, 1) := by decide +kernel
theorem dl_738 : decode cL_law 738 = .ok (.iaload, 1) := by decide +kernel
theorem dl_739 : decode cL_law 739 = .ok (.aload_n 0, 1) := by decide +kernel
theorem dl_740 : decode cL_law 740 = .ok (.iload 4, 2) := by decide +kernel
theorem dl_742 : decode cL_law 742 = .ok (.iconst 2, 1) := by decide +kernel
theorem dl_743 : decode cL_law 743 = .ok (.iadd, 1) := by decide +kernel
theorem dl_744 : decode cL_law 744 = .ok (.iaload, 1) := by decide +kernel
theorem dl_745 : decode cL_law 745 = .ok (.aload_n 0, 1) := by decide +kernel
theorem dl_746 : decode cL_law 746 = .ok (.iload 4, 2) := by decide +kernel
theorem dl_748 : decode cL_law 748 = .ok (.iconst 3, 1) := by decide +kernel
theorem dl_749 : decode cL_law 749 = .ok (.iadd, 1) := by decide +kernel
theorem dl_750 : decode cL_law 750 = .ok (.iaload, 1) := by decide +kernel
theorem dl_751 : decode cL_law 751 = .ok (.aload_n 0, 1) := by decide +kernel
theorem dl_752 : decode cL_law 752 = .ok (.iload 4, 2) := by decide +kernel
theorem dl_754 : decode cL_law 754 = .ok (.iconst 4, 1) := by decide +kernel
theorem dl_755 : decode cL_law 755 = .ok (.iadd, 1) := by decide +kernel
theorem dl_756 : decode cL_law 756 = .ok (.iaload, 1) := by decide +kernel
theorem dl_760 : decode cL_law 760 = .ok (.iconst 1, 1) := by decide +kernel
theorem dl_761 : decode cL_law 761 = .ok (.goto 4, 3) := by decide +kernel
theorem dl_764 : decode cL_law 764 = .ok (.iconst 0, 1) := by decide +kernel
theorem dl_757 : decode cL_law 757 = .ok (.ifCond .eq 7, 3) := by decide +kernel
theorem dl_765 : decode cL_law 765 = .ok (.invokevirtual 108, 3) := by decide +kernel
theorem dl_768 : decode cL_law 768 = .ok (.pop, 1) := by decide +kernel
theorem dl_769 : decode cL_law 769 = .ok (.aload_n 2, 1) := by decide +kernel
theorem dl_770 : decode cL_law 770 = .ok (.aload_n 0, 1) := by decide +kernel
theorem dl_771 : decode cL_law 771 = .ok (.iload 4, 2) := by decide +kernel
theorem dl_773 : decode cL_law 773 = .ok (.iconst 1, 1) := by decide +kernel
theorem dl_774 : decode cL_law 774 = .ok (.iadd, 1) := by decide +kernel
theorem dl_775 : decode cL_law 775 = .ok (.iaload, 1) := by decide +kernel
theorem dl_776 : decode cL_law 776 = .ok (.aload_n 0, 1) := by decide +kernel
theorem dl_777 : decode cL_law 777 = .ok (.iload 4, 2) := by decide +kernel
theorem dl_779 : decode cL_law 779 = .ok (.iconst 2, 1) := by decide +kernel
theorem dl_780 : decode cL_law 780 = .ok (.iadd, 1) := by decide +kernel
theorem dl_781 : decode cL_law 781 = .ok (.iaload, 1) := by decide +kernel
theorem dl_782 : decode cL_law 782 = .ok (.aload_n 0, 1) := by decide +kernel
theorem dl_783 : decode cL_law 783 = .ok (.iload 4, 2) := by decide +kernel
theorem dl_785 : decode cL_law 785 = .ok (.iconst 3, 1) := by decide +kernel
theorem dl_786 : decode cL_law 786 = .ok (.iadd, 1) := by decide +kernel
theorem dl_787 : decode cL_law 787 = .ok (.iaload, 1) := by decide +kernel
theorem dl_788 : decode cL_law 788 = .ok (.aload_n 0, 1) := by decide +kernel
theorem dl_789 : decode cL_law 789 = .ok (.iload 4, 2) := by decide +kernel
theorem dl_791 : decode cL_law 791 = .ok (.iconst 4, 1) := by decide +kernel
theorem dl_792 : decode cL_law 792 = .ok (.iadd, 1) := by decide +kernel
theorem dl_793 : decode cL_law 793 = .ok (.iaload, 1) := by decide +kernel
theorem dl_797 : decode cL_law 797 = .ok (.iconst 1, 1) := by decide +kernel
theorem dl_798 : decode cL_law 798 = .ok (.goto 4, 3) := by decide +kernel
theorem dl_801 : decode cL_law 801 = .ok (.iconst 0, 1) := by decide +kernel
theorem dl_794 : decode cL_law 794 = .ok (.ifCond .eq 7, 3) := by decide +kernel
theorem dl_802 : decode cL_law 802 = .ok (.invokevirtual 112, 3) := by decide +kernel
theorem dl_805 : decode cL_law 805 = .ok (.pop, 1) := by decide +kernel
theorem dl_806 : decode cL_law 806 = .ok (.goto 3, 3) := by decide +kernel
section LWD
variable {p : Program} {l : Launch} {e : Env} {s : State} {m : MethodId} {below : List Frame} {meth : Method} {c : Code} {A : Nat → Prop} {b L : Nat} {xs : Nat → Int32} {D : va_G} {g : xe_G} {x m0 qo : Nat} {aO : ClassId} {q : Nat → Nat} {kr : rR} {Ic : rI} {Rc : rR}
variable {cc : GH} {fed P cells slots : Nat} {fo : Nat → Int64} {H : Heap} {locs : List Loc} {ls : Array Slot} {Q : State → Prop} {i : Int32}

set_option maxHeartbeats 4000000 in
set_option maxRecDepth 100000 in
theorem law_14 (hx : p.tables.exec = Jvm.exec) (hb : c.code = cL_law) (hml : c.maxLocals = 7) (hown : s.vm.findClass RL = some m.cls) (htb : ∀ w ∈ bg, w.before #[Value.ref b] s = true) (hA : ∀ q : Nat, s.heap.size ≤ q → A q) (hE : xe_E g A s s.heap) (hnt : l.stackTraces = false) (hX : va_X b L xs s s.heap) (hbl : b < s.heap.size) (hbA : ¬ A b) (hKo : va_K D vwCl [(aO, .long)] s) (hAo : A qo) (hi1 : vp_in (i + 1) L) (hi2 : vp_in (i + 2) L) (hi3 : vp_in (i + 3) L) (hi4 : vp_in (i + 4) L) (hi5 : vp_in (i + 5) L) (h3 : L3 g D A s x m0 q kr Ic Rc qo aO mT1 cc cc fed P fo H) (hS : va_S A s.heap H locs) (hl : lv_has ls 7 [(0, .ref b), (1, .ref x), (2, .ref m0), (3, .ref qo), (4, .int i)]) (hc : cells + 320026 ≤ 601024) (hs : slots + 320064 + 40 * fed ≤ 7293034)
    (kk : ∀ (P1 : Nat) (cc1 : GH) (fo1 : Nat → Int64) (H1 : Heap) (locs1 : List Loc) (ls1 : Array Slot), P ≤ P1 → L3 g D A s x m0 q kr Ic Rc qo aO mT1 cc1 cc1 fed P1 fo1 H1 → va_S A s.heap H1 locs1 → lv_has ls1 7 [(0, .ref b), (1, .ref x), (2, .ref m0), (3, .ref qo), (4, .int i)] → W p l e room_1 s m #[Value.ref b] below meth c H1 locs1 (cells + (P1 - P) + 26) (slots + (P1 - P) + (64 + 40 * fed)) Q (F0 m 809 ls1 [])) :
    W p l e room_1 s m #[Value.ref b] below meth c H locs cells slots Q (F0 m 680 ls []) := by
  have hpt := h3.pot
  refine lv_aload_n hx hb dl_680 rfl (lv_at hl 1 rfl) ?_
  refine lv_aload_n hx hb dl_681 rfl (lv_at hl 0 rfl) ?_
  refine lv_iload hx hb dl_682 (lv_at hl 4 rfl) ?_
  refine lv_iconst (v := 1) hx hb dl_684 (by decide) ?_
  refine lv_iadd hx hb dl_685 ?_
  refine va_sld hx hb hX hbl hbA hS hi1 dl_686 ?_
  refine lv_aload_n hx hb dl_687 rfl (lv_at hl 0 rfl) ?_
  refine lv_iload hx hb dl_688 (lv_at hl 4 rfl) ?_
  refine lv_iconst (v := 2) hx hb dl_690 (by decide) ?_
  refine lv_iadd hx hb dl_691 ?_
  refine va_sld hx hb hX hbl hbA hS hi2 dl_692 ?_
  refine lv_aload_n hx hb dl_693 rfl (lv_at hl 0 rfl) ?_
  refine lv_iload hx hb dl_694 (lv_at hl 4 rfl) ?_
  refine lv_iconst (v := 3) hx hb dl_696 (by decide) ?_
  refine lv_iadd hx hb dl_697 ?_
  refine va_sld hx hb hX hbl hbA hS hi3 dl_698 ?_
  refine lv_aload_n hx hb dl_699 rfl (lv_at hl 3 rfl) ?_
  refine lc_hlp (n := 5) (av := [.ref x, .int (xs (Int32.toNatClampNeg (i + 1))), .int (xs (Int32.toNatClampNeg (i + 2))), .int (xs (Int32.toNatClampNeg (i + 3))), .ref qo]) (yh := yL_instruction) (bytes := cL_instruction) (maxL := 6) (hh := [(0, 12, 15, 19)]) (S := 64 + 40 * fed) hx hb hml hown htb hA hE bg_1442 bg_1443 bg_1362 bg_1347 ⟨by decide, by decide, by decide +kernel⟩ (by decide) dl_700 rfl rfl h3 hS hl.1 hKo hAo (fun M hG => hp_instruction l D g hnt hG) (by omega) (by omega) (fun r P1 fo1 H locs hV hP1 h3 hS => ?_)
  have hpt := h3.pot
  refine lv_istore (lv' := [(5, .int r), (0, .ref b), (1, .ref x), (2, .ref m0), (3, .ref qo), (4, .int i)]) hx hb dl_703 hl (by decide) rfl (fun ls hl => ?_)
  refine lv_aload_n hx hb dl_705 rfl (lv_at hl 3 rfl) ?_
  refine lv_aload_n hx hb dl_706 rfl (lv_at hl 1 rfl) ?_
  refine lv_iload hx hb dl_707 (lv_at hl 5 rfl) ?_
  refine lv_iconst (v := 1) hx hb dl_709 (by decide) ?_
  refine lv_iadd hx hb dl_710 ?_
  refine va_sld hx hb hX hbl hbA hS hi1 dl_711 ?_
  refine lv_aload_n hx hb dl_712 rfl (lv_at hl 1 rfl) ?_
  refine lv_iload hx hb dl_713 (lv_at hl 5 rfl) ?_
  refine lv_iconst (v := 2) hx hb dl_715 (by decide) ?_
  refine lv_iadd hx hb dl_716 ?_
  refine va_sld hx hb hX hbl hbA hS hi2 dl_717 ?_
  refine lv_aload_n hx hb dl_718 rfl (lv_at hl 1 rfl) ?_
  refine lv_iload hx hb dl_719 (lv_at hl 5 rfl) ?_
  refine lv_iconst (v := 3) hx hb dl_721 (by decide) ?_
  refine lv_iadd hx hb dl_722 ?_
  refine va_sld hx hb hX hbl hbA hS hi3 dl_723 ?_
  refine lc_ref (rest := []) (n := 3) (y := 215) (qm := (yX12_instruction, cX12_instruction, 6, (some .int))) (As := [.int (xs (Int32.toNatClampNeg (i + 1))), .int (xs (Int32.toNatClampNeg (i + 2))), .int (xs (Int32.toNatClampNeg (i + 3)))]) (V := fun v => ∃ y : Int32, v = some (.int y)) (X' := mT1) (cr' := cc) (Nat.le_of_ble_eq_true rfl) hx hb hml hown htb hA hE rfl bg_1444 bg_1445 bg_1446 bg_974 bg_1286 ⟨by decide, by decide, by decide +kernel⟩ (by decide) dl_724 rfl rfl h3 hS hl.1 (fun M hR _ => (rx_instruction hR (by decide)).imp (fun v M' h => ⟨h.1, h.2, trivial⟩)) (by omega) (by omega) (fun v H locs hV h3 hS => ?_)
  obtain ⟨y2, rfl⟩ := hV
  refine lv_istore (lv' := [(6, .int y2), (5, .int r), (0, .ref b), (1, .ref x), (2, .ref m0), (3, .ref qo), (4, .int i)]) hx hb dl_727 hl (by decide) rfl (fun ls hl => ?_)
  refine lv_goto (tgt := 809) hx hb dl_729 (by decide) ?_
  exact kk P1 _ _ H locs ls hP1 h3 hS (lv_sub hl [2, 3, 4, 5, 6] rfl)
set_option maxHeartbeats 4000000 in
set_option maxRecDepth 100000 in
theorem law_15 (hx : p.tables.exec = Jvm.exec) (hb : c.code = cL_law) (hml : c.maxLocals = 7) (hown : s.vm.findClass RL = some m.cls) (htb : ∀ w ∈ bg, w.before #[Value.ref b] s = true) (hA : ∀ q : Nat, s.heap.size ≤ q → A q) (hE : xe_E g A s s.heap) (hnt : l.stackTraces = false) (hX : va_X b L xs s s.heap) (hbl : b < s.heap.size) (hbA : ¬ A b) (hKo : va_K D vwCl [(aO, .long)] s) (hAo : A qo) (hi1 : vp_in (i + 1) L) (hi2 : vp_in (i + 2) L) (hi3 : vp_in (i + 3) L) (hi4 : vp_in (i + 4) L) (hi5 : vp_in (i + 5) L) (h3 : L3 g D A s x m0 q kr Ic Rc qo aO mT1 cc cc fed P fo H) (hS : va_S A s.heap H locs) (hl : lv_has ls 7 [(0, .ref b), (1, .ref x), (2, .ref m0), (3, .ref qo), (4, .int i)]) (hc : cells + 320026 ≤ 601024) (hs : slots + 320064 + 40 * fed ≤ 7293034)
    (kk : ∀ (P1 : Nat) (cc1 : GH) (fo1 : Nat → Int64) (H1 : Heap) (locs1 : List Loc) (ls1 : Array Slot), P ≤ P1 → L3 g D A s x m0 q kr Ic Rc qo aO mT1 cc1 cc1 fed P1 fo1 H1 → va_S A s.heap H1 locs1 → lv_has ls1 7 [(0, .ref b), (1, .ref x), (2, .ref m0), (3, .ref qo), (4, .int i)] → W p l e room_1 s m #[Value.ref b] below meth c H1 locs1 (cells + (P1 - P) + 26) (slots + (P1 - P) + (64 + 40 * fed)) Q (F0 m 809 ls1 [])) :
    W p l e room_1 s m #[Value.ref b] below meth c H locs cells slots Q (F0 m 732 ls []) := by
  have hpt := h3.pot
  refine lv_aload_n hx hb dl_732 rfl (lv_at hl 1 rfl) ?_
  refine lv_aload_n hx hb dl_733 rfl (lv_at hl 0 rfl) ?_
  refine lv_iload hx hb dl_734 (lv_at hl 4 rfl) ?_
  refine lv_iconst (v := 1) hx hb dl_736 (by decide) ?_
  refine lv_iadd hx hb dl_737 ?_
  refine va_sld hx hb hX hbl hbA hS hi1 dl_738 ?_
  refine lv_aload_n hx hb dl_739 rfl (lv_at hl 0 rfl) ?_
  refine lv_iload hx hb dl_740 (lv_at hl 4 rfl) ?_
  refine lv_iconst (v := 2) hx hb dl_742 (by decide) ?_
  refine lv_iadd hx hb dl_743 ?_
  refine va_sld hx hb hX hbl hbA hS hi2 dl_744 ?_
  refine lv_aload_n hx hb dl_745 rfl (lv_at hl 0 rfl) ?_
  refine lv_iload hx hb dl_746 (lv_at hl 4 rfl) ?_
  refine lv_iconst (v := 3) hx hb dl_748 (by decide) ?_
  refine lv_iadd hx hb dl_749 ?_
  refine va_sld hx hb hX hbl hbA hS hi3 dl_750 ?_
  refine lv_aload_n hx hb dl_751 rfl (lv_at hl 0 rfl) ?_
  refine lv_iload hx hb dl_752 (lv_at hl 4 rfl) ?_
  refine lv_iconst (v := 4) hx hb dl_754 (by decide) ?_
  refine lv_iadd hx hb dl_755 ?_
  refine va_sld hx hb hX hbl hbA hS hi4 dl_756 ?_
  refine lw_boolx hx hb dl_757 dl_760 dl_761 dl_764 ?_
  refine lc_cls (n := 4) (y := 14) (qm := (yX11_jump, cX11_jump, 6, (some .int))) (As := [.int (xs (Int32.toNatClampNeg (i + 1))), .int (xs (Int32.toNatClampNeg (i + 2))), .int (xs (Int32.toNatClampNeg (i + 3))), .int (bz (xs (Int32.toNatClampNeg (i + 4))))]) (S := 64 + 40 * fed) (V := fun v => ∃ y : Int32, v = some (.int y)) hx hb hml hown htb hA hE rfl bg_1447 bg_1448 bg_1449 bg_774 bg_915 ⟨by decide, by decide, by decide +kernel⟩ (by decide) dl_765 rfl rfl h3 hS hl.1 (fun M hG => gx_jump hG (by decide)) (by omega) (by omega) (fun v P1 H locs hV hP1 h3 hS => ?_)
  have hpt := h3.pot
  obtain ⟨y1, rfl⟩ := hV
  refine lv_pop (va := .int y1) hx hb dl_768 rfl ?_
  refine lv_aload_n hx hb dl_769 rfl (lv_at hl 2 rfl) ?_
  refine lv_aload_n hx hb dl_770 rfl (lv_at hl 0 rfl) ?_
  refine lv_iload hx hb dl_771 (lv_at hl 4 rfl) ?_
  refine lv_iconst (v := 1) hx hb dl_773 (by decide) ?_
  refine lv_iadd hx hb dl_774 ?_
  refine va_sld hx hb hX hbl hbA hS hi1 dl_775 ?_
  refine lv_aload_n hx hb dl_776 rfl (lv_at hl 0 rfl) ?_
  refine lv_iload hx hb dl_777 (lv_at hl 4 rfl) ?_
  refine lv_iconst (v := 2) hx hb dl_779 (by decide) ?_
  refine lv_iadd hx hb dl_780 ?_
  refine va_sld hx hb hX hbl hbA hS hi2 dl_781 ?_
  refine lv_aload_n hx hb dl_782 rfl (lv_at hl 0 rfl) ?_
  refine lv_iload hx hb dl_783 (lv_at hl 4 rfl) ?_
  refine lv_iconst (v := 3) hx hb dl_785 (by decide) ?_
  refine lv_iadd hx hb dl_786 ?_
  refine va_sld hx hb hX hbl hbA hS hi3 dl_787 ?_
  refine lv_aload_n hx hb dl_788 rfl (lv_at hl 0 rfl) ?_
  refine lv_iload hx hb dl_789 (lv_at hl 4 rfl) ?_
  refine lv_iconst (v := 4) hx hb dl_791 (by decide) ?_
  refine lv_iadd hx hb dl_792 ?_
  refine va_sld hx hb hX hbl hbA hS hi4 dl_793 ?_
  refine lw_boolx hx hb dl_794 dl_797 dl_798 dl_801 ?_
  refine lc_ref (rest := []) (n := 4) (y := 220) (qm := (yX12_jump, cX12_jump, 7, (some .int))) (As := [.int (xs (Int32.toNatClampNeg (i + 1))), .int (xs (Int32.toNatClampNeg (i + 2))), .int (xs (Int32.toNatClampNeg (i + 3))), .int (bz (xs (Int32.toNatClampNeg (i + 4))))]) (V := fun v => ∃ y : Int32, v = some (.int y)) (X' := mT1) (cr' := cc) (Nat.le_of_ble_eq_true rfl) hx hb hml hown htb hA hE rfl bg_1450 bg_1451 bg_1452 bg_974 bg_1299 ⟨by decide, by decide, by decide +kernel⟩ (by decide) dl_802 rfl rfl h3 hS hl.1 (fun M hR _ => (rx_jump hR (by decide)).imp (fun v M' h => ⟨h.1, h.2, trivial⟩)) (by omega) (by omega) (fun v H locs hV h3 hS => ?_)
  obtain ⟨y2, rfl⟩ := hV
  refine lv_pop (va := .int y2) hx hb dl_805 rfl ?_
  refine lv_goto (tgt := 809) hx hb dl_806 (by decide) ?_
  exact kk P1 _ _ H locs ls hP1 h3 hS (lv_sub hl [0, 1, 2, 3, 4] rfl)
end LWD
