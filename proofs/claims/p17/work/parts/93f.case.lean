section
/-! cases of the law (laid by wip/p2/c92.py) -/
theorem dl_652 : decode cL_law 652 = .ok (.aload_n 1, 1) := by decide +kernel
theorem dl_653 : decode cL_law 653 = .ok (.aload_n 0, 1) := by decide +kernel
theorem dl_654 : decode cL_law 654 = .ok (.iload 4, 2) := by decide +kernel
theorem dl_656 : decode cL_law 656 = .ok (.iconst 1, 1) := by decide +kernel
theorem dl_657 : decode cL_law 657 = .ok (.iadd, 1) := by decide +kernel
theorem dl_658 : decode cL_law 658 = .ok (.iaload, 1) := by decide +kernel
theorem dl_659 : decode cL_law 659 = .ok (.aload_n 0, 1) := by decide +kernel
theorem dl_660 : decode cL_law 660 = .ok (.iload 4, 2) := by decide +kernel
theorem dl_662 : decode cL_law 662 = .ok (.iconst 2, 1) := by decide +kernel
theorem dl_663 : decode cL_law 663 = .ok (.iadd, 1) := by decide +kernel
theorem dl_664 : decode cL_law 664 = .ok (.iaload, 1) := by decide +kernel
theorem dl_665 : decode cL_law 665 = .ok (.aload_n 0, 1) := by decide +kernel
theorem dl_666 : decode cL_law 666 = .ok (.iload 4, 2) := by decide +kernel
theorem dl_668 : decode cL_law 668 = .ok (.iconst 3, 1) := by decide +kernel
theorem dl_669 : decode cL_law 669 = .ok (.iadd, 1) := by decide +kernel
theorem dl_670 : decode cL_law 670 = .ok (.iaload, 1) := by decide +kernel
theorem dl_671 : decode cL_law 671 = .ok (.aload_n 3, 1) := by decide +kernel
theorem dl_672 : decode cL_law 672 = .ok (.invokestatic 102, 3) := by decide +kernel
theorem dl_675 : decode cL_law 675 = .ok (.istore 5, 2) := by decide +kernel
theorem dl_677 : decode cL_law 677 = .ok (.aload_n 2, 1) := by decide +kernel
theorem dl_678 : decode cL_law 678 = .ok (.aload_n 0, 1) := by decide +kernel
theorem dl_679 : decode cL_law 679 = .ok (.iload 4, 2) := by decide +kernel
theorem dl_681 : decode cL_law 681 = .ok (.iconst 1, 1) := by decide +kernel
theorem dl_682 : decode cL_law 682 = .ok (.iadd, 1) := by decide +kernel
theorem dl_683 : decode cL_law 683 = .ok (.iaload, 1) := by decide +kernel
theorem dl_684 : decode cL_law 684 = .ok (.aload_n 0, 1) := by decide +kernel
theorem dl_685 : decode cL_law 685 = .ok (.iload 4, 2) := by decide +kernel
theorem dl_687 : decode cL_law 687 = .ok (.iconst 2, 1) := by decide +kernel
theorem dl_688 : decode cL_law 688 = .ok (.iadd, 1) := by decide +kernel
theorem dl_689 : decode cL_law 689 = .ok (.iaload, 1) := by decide +kernel
theorem dl_690 : decode cL_law 690 = .ok (.aload_n 0, 1) := by decide +kernel
theorem dl_691 : decode cL_law 691 = .ok (.iload 4, 2) := by decide +kernel
theorem dl_693 : decode cL_law 693 = .ok (.iconst 3, 1) := by decide +kernel
theorem dl_694 : decode cL_law 694 = .ok (.iadd, 1) := by decide +kernel
theorem dl_695 : decode cL_law 695 = .ok (.iaload, 1) := by decide +kernel
theorem dl_696 : decode cL_law 696 = .ok (.invokevirtual 104, 3) := by decide +kernel
theorem dl_699 : decode cL_law 699 = .ok (.istore 6, 2) := by decide +kernel
theorem dl_701 : decode cL_law 701 = .ok (.goto 80, 3) := by decide +kernel
theorem dl_704 : decode cL_law 704 = .ok (.aload_n 1, 1) := by decide +kernel
theorem dl_705 : decode cL_law 705 = .ok (.aload_n 0, 1) := by decide +kernel
theorem dl_706 : decode cL_law 706 = .ok (.iload 4, 2) := by decide +kernel
theorem dl_708 : decode cL_law 708 = .ok (.iconst 1, 1) := by decide +kernel
theorem dl_709 : decode cL_law 709 = .ok (.iadd, 1) := by decide +kernel
theorem dl_710 : decode cL_law 710 = .ok (.iaload, 1) := by decide +kernel
theorem dl_711 : decode cL_law 711 = .ok (.aload_n 0, 1) := by decide +kernel
theorem dl_712 : decode cL_law 712 = .ok (.iload 4, 2) := by decide +kernel
theorem dl_714 : decode cL_law 714 = .ok (.iconst 2, 1) := by decide +kernel
theorem dl_715 : decode cL_law 715 = .ok (.iadd, 1) := by decide +kernel
theorem dl_716 : decode cL_law 716 = .ok (.iaload, 1) := by decide +kernel
theorem dl_717 : decode cL_law 717 = .ok (.aload_n 0, 1) := by decide +kernel
theorem dl_718 : decode cL_law 718 = .ok (.iload 4, 2) := by decide +kernel
theorem dl_720 : decode cL_law 720 = .ok (.iconst 3, 1) := by decide +kernel
theorem dl_721 : decode cL_law 721 = .ok (.iadd, 1) := by decide +kernel
theorem dl_722 : decode cL_law 722 = .ok (.iaload, 1) := by decide +kernel
theorem dl_723 : decode cL_law 723 = .ok (.aload_n 0, 1) := by decide +kernel
theorem dl_724 : decode cL_law 724 = .ok (.iload 4, 2) := by decide +kernel
theorem dl_726 : decode cL_law 726 = .ok (.iconst 4, 1) := by decide +kernel
theorem dl_727 : decode cL_law 727 = .ok (.iadd, 1) := by decide +kernel
theorem dl_728 : decode cL_law 728 = .ok (.iaload, 1) := by decide +kernel
theorem dl_732 : decode cL_law 732 = .ok (.iconst 1, 1) := by decide +kernel
theorem dl_733 : decode cL_law 733 = .ok (.goto 4, 3) := by decide +kernel
theorem dl_736 : decode cL_law 736 = .ok (.iconst 0, 1) := by decide +kernel
theorem dl_729 : decode cL_law 729 = .ok (.ifCond .eq 7, 3) := by decide +kernel
theorem dl_737 : decode cL_law 737 = .ok (.invokevirtual 105, 3) := by decide +kernel
theorem dl_740 : decode cL_law 740 = .ok (.aload_n 2, 1) := by decide +kernel
theorem dl_741 : decode cL_law 741 = .ok (.aload_n 0, 1) := by decide +kernel
theorem dl_742 : decode cL_law 742 = .ok (.iload 4, 2) := by decide +kernel
theorem dl_744 : decode cL_law 744 = .ok (.iconst 1, 1) := by decide +kernel
theorem dl_745 : decode cL_law 745 = .ok (.iadd, 1) := by decide +kernel
theorem dl_746 : decode cL_law 746 = .ok (.iaload, 1) := by decide +kernel
theorem dl_747 : decode cL_law 747 = .ok (.aload_n 0, 1) := by decide +kernel
theorem dl_748 : decode cL_law 748 = .ok (.iload 4, 2) := by decide +kernel
theorem dl_750 : decode cL_law 750 = .ok (.iconst 2, 1) := by decide +kernel
theorem dl_751 : decode cL_law 751 = .ok (.iadd, 1) := by decide +kernel
theorem dl_752 : decode cL_law 752 = .ok (.iaload, 1) := by decide +kernel
theorem dl_753 : decode cL_law 753 = .ok (.aload_n 0, 1) := by decide +kernel
theorem dl_754 : decode cL_law 754 = .ok (.iload 4, 2) := by decide +kernel
theorem dl_756 : decode cL_law 756 = .ok (.iconst 3, 1) := by decide +kernel
theorem dl_757 : decode cL_law 757 = .ok (.iadd, 1) := by decide +kernel
theorem dl_758 : decode cL_law 758 = .ok (.iaload, 1) := by decide +kernel
theorem dl_759 : decode cL_law 759 = .ok (.aload_n 0, 1) := by decide +kernel
theorem dl_760 : decode cL_law 760 = .ok (.iload 4, 2) := by decide +kernel
theorem dl_762 : decode cL_law 762 = .ok (.iconst 4, 1) := by decide +kernel
theorem dl_763 : decode cL_law 763 = .ok (.iadd, 1) := by decide +kernel
theorem dl_764 : decode cL_law 764 = .ok (.iaload, 1) := by decide +kernel
theorem dl_768 : decode cL_law 768 = .ok (.iconst 1, 1) := by decide +kernel
theorem dl_769 : decode cL_law 769 = .ok (.goto 4, 3) := by decide +kernel
theorem dl_772 : decode cL_law 772 = .ok (.iconst 0, 1) := by decide +kernel
theorem dl_765 : decode cL_law 765 = .ok (.ifCond .eq 7, 3) := by decide +kernel
theorem dl_773 : decode cL_law 773 = .ok (.invokevirtual 109, 3) := by decide +kernel
theorem dl_776 : decode cL_law 776 = .ok (.if_icmp .eq 5, 3) := by decide +kernel
section LWD
variable {p : Program} {l : Launch} {e : Env} {s : State} {m : MethodId} {below : List Frame} {meth : Method} {c : Code} {A : Nat → Prop} {b L : Nat} {xs : Nat → Int32} {D : va_G} {g : xe_G} {x m0 qo : Nat} {aO : ClassId} {q : Nat → Nat} {kr : rR} {Ic : rI} {Rc : rR}
variable {cc : GH} {fed P cells slots : Nat} {fo : Nat → Int64} {H : Heap} {locs : List Loc} {ls : Array Slot} {Q : State → Prop} {i : Int32}

set_option maxHeartbeats 4000000 in
set_option maxRecDepth 100000 in
theorem law_14 (hx : p.tables.exec = Jvm.exec) (hb : c.code = cL_law) (hml : c.maxLocals = 7) (hown : s.vm.findClass RL = some m.cls) (htb : ∀ w ∈ bg, w.before #[Value.ref b] s = true) (hA : ∀ q : Nat, s.heap.size ≤ q → A q) (hE : xe_E g A s s.heap) (hnt : l.stackTraces = false) (hX : va_X b L xs s s.heap) (hbl : b < s.heap.size) (hbA : ¬ A b) (hKo : va_K D vwCl [(aO, .long)] s) (hAo : A qo) (hi1 : vp_in (i + 1) L) (hi2 : vp_in (i + 2) L) (hi3 : vp_in (i + 3) L) (hi4 : vp_in (i + 4) L) (hi5 : vp_in (i + 5) L) (h3 : L3 g D A s x m0 q kr Ic Rc qo aO mT1 cc cc fed P fo H) (hS : va_S A s.heap H locs) (hl : lv_has ls 7 [(0, .ref b), (1, .ref x), (2, .ref m0), (3, .ref qo), (4, .int i)]) (hc : cells + 320026 ≤ 601024) (hs : slots + 320064 + 40 * fed ≤ 7293034)
    (kk : ∀ (P1 : Nat) (cc1 : GH) (fo1 : Nat → Int64) (H1 : Heap) (locs1 : List Loc) (ls1 : Array Slot), P ≤ P1 → L3 g D A s x m0 q kr Ic Rc qo aO mT1 cc1 cc1 fed P1 fo1 H1 → va_S A s.heap H1 locs1 → lv_has ls1 7 [(0, .ref b), (1, .ref x), (2, .ref m0), (3, .ref qo), (4, .int i)] → W p l e room_1 s m #[Value.ref b] below meth c H1 locs1 (cells + (P1 - P) + 26) (slots + (P1 - P) + (64 + 40 * fed)) Q (F0 m 781 ls1 [])) :
    W p l e room_1 s m #[Value.ref b] below meth c H locs cells slots Q (F0 m 652 ls []) := by
  have hpt := h3.pot
  refine lv_aload_n hx hb dl_652 rfl (lv_at hl 1 rfl) ?_
  refine lv_aload_n hx hb dl_653 rfl (lv_at hl 0 rfl) ?_
  refine lv_iload hx hb dl_654 (lv_at hl 4 rfl) ?_
  refine lv_iconst (v := 1) hx hb dl_656 (by decide) ?_
  refine lv_iadd hx hb dl_657 ?_
  refine va_sld hx hb hX hbl hbA hS hi1 dl_658 ?_
  refine lv_aload_n hx hb dl_659 rfl (lv_at hl 0 rfl) ?_
  refine lv_iload hx hb dl_660 (lv_at hl 4 rfl) ?_
  refine lv_iconst (v := 2) hx hb dl_662 (by decide) ?_
  refine lv_iadd hx hb dl_663 ?_
  refine va_sld hx hb hX hbl hbA hS hi2 dl_664 ?_
  refine lv_aload_n hx hb dl_665 rfl (lv_at hl 0 rfl) ?_
  refine lv_iload hx hb dl_666 (lv_at hl 4 rfl) ?_
  refine lv_iconst (v := 3) hx hb dl_668 (by decide) ?_
  refine lv_iadd hx hb dl_669 ?_
  refine va_sld hx hb hX hbl hbA hS hi3 dl_670 ?_
  refine lv_aload_n hx hb dl_671 rfl (lv_at hl 3 rfl) ?_
  refine lc_hlp (n := 5) (av := [.ref x, .int (xs (Int32.toNatClampNeg (i + 1))), .int (xs (Int32.toNatClampNeg (i + 2))), .int (xs (Int32.toNatClampNeg (i + 3))), .ref qo]) (yh := yL_instruction) (bytes := cL_instruction) (maxL := 6) (hh := [(0, 12, 15, 19)]) (S := 64 + 40 * fed) hx hb hml hown htb hA hE bg_1438 bg_1439 bg_1361 bg_1346 ⟨by decide, by decide, by decide +kernel⟩ (by decide) dl_672 rfl rfl h3 hS hl.1 hKo hAo (fun M hG => hp_instruction l D g hnt hG) (by omega) (by omega) (fun r P1 fo1 H locs hV hP1 h3 hS => ?_)
  have hpt := h3.pot
  refine lv_istore (lv' := [(5, .int r), (0, .ref b), (1, .ref x), (2, .ref m0), (3, .ref qo), (4, .int i)]) hx hb dl_675 hl (by decide) rfl (fun ls hl => ?_)
  refine lv_aload_n hx hb dl_677 rfl (lv_at hl 3 rfl) ?_
  refine lv_aload_n hx hb dl_678 rfl (lv_at hl 1 rfl) ?_
  refine lv_iload hx hb dl_679 (lv_at hl 5 rfl) ?_
  refine lv_iconst (v := 1) hx hb dl_681 (by decide) ?_
  refine lv_iadd hx hb dl_682 ?_
  refine va_sld hx hb hX hbl hbA hS hi1 dl_683 ?_
  refine lv_aload_n hx hb dl_684 rfl (lv_at hl 1 rfl) ?_
  refine lv_iload hx hb dl_685 (lv_at hl 5 rfl) ?_
  refine lv_iconst (v := 2) hx hb dl_687 (by decide) ?_
  refine lv_iadd hx hb dl_688 ?_
  refine va_sld hx hb hX hbl hbA hS hi2 dl_689 ?_
  refine lv_aload_n hx hb dl_690 rfl (lv_at hl 1 rfl) ?_
  refine lv_iload hx hb dl_691 (lv_at hl 5 rfl) ?_
  refine lv_iconst (v := 3) hx hb dl_693 (by decide) ?_
  refine lv_iadd hx hb dl_694 ?_
  refine va_sld hx hb hX hbl hbA hS hi3 dl_695 ?_
  refine lc_ref (rest := []) (n := 3) (y := 215) (qm := (yX12_instruction, cX12_instruction, 6, (some .int))) (As := [.int (xs (Int32.toNatClampNeg (i + 1))), .int (xs (Int32.toNatClampNeg (i + 2))), .int (xs (Int32.toNatClampNeg (i + 3)))]) (V := fun v => ∃ y : Int32, v = some (.int y)) (X' := mT1) (cr' := cc) (Nat.le_of_ble_eq_true rfl) hx hb hml hown htb hA hE rfl bg_1440 bg_1441 bg_1442 bg_972 bg_1285 ⟨by decide, by decide, by decide +kernel⟩ (by decide) dl_696 rfl rfl h3 hS hl.1 (fun M hR _ => (rx_instruction hR (by decide)).imp (fun v M' h => ⟨h.1, h.2, trivial⟩)) (by omega) (by omega) (fun v H locs hV h3 hS => ?_)
  obtain ⟨y2, rfl⟩ := hV
  refine lv_istore (lv' := [(6, .int y2), (5, .int r), (0, .ref b), (1, .ref x), (2, .ref m0), (3, .ref qo), (4, .int i)]) hx hb dl_699 hl (by decide) rfl (fun ls hl => ?_)
  refine lv_goto (tgt := 781) hx hb dl_701 (by decide) ?_
  exact kk P1 _ _ H locs ls hP1 h3 hS (lv_sub hl [2, 3, 4, 5, 6] rfl)
set_option maxHeartbeats 4000000 in
set_option maxRecDepth 100000 in
theorem law_15 (hx : p.tables.exec = Jvm.exec) (hb : c.code = cL_law) (hml : c.maxLocals = 7) (hown : s.vm.findClass RL = some m.cls) (htb : ∀ w ∈ bg, w.before #[Value.ref b] s = true) (hA : ∀ q : Nat, s.heap.size ≤ q → A q) (hE : xe_E g A s s.heap) (hnt : l.stackTraces = false) (hX : va_X b L xs s s.heap) (hbl : b < s.heap.size) (hbA : ¬ A b) (hKo : va_K D vwCl [(aO, .long)] s) (hAo : A qo) (hi1 : vp_in (i + 1) L) (hi2 : vp_in (i + 2) L) (hi3 : vp_in (i + 3) L) (hi4 : vp_in (i + 4) L) (hi5 : vp_in (i + 5) L) (h3 : L3 g D A s x m0 q kr Ic Rc qo aO mT1 cc cc fed P fo H) (hS : va_S A s.heap H locs) (hl : lv_has ls 7 [(0, .ref b), (1, .ref x), (2, .ref m0), (3, .ref qo), (4, .int i)]) (hc : cells + 320026 ≤ 601024) (hs : slots + 320064 + 40 * fed ≤ 7293034)
    (kk : ∀ (P1 : Nat) (cc1 : GH) (fo1 : Nat → Int64) (H1 : Heap) (locs1 : List Loc) (ls1 : Array Slot), P ≤ P1 → L3 g D A s x m0 q kr Ic Rc qo aO mT1 cc1 cc1 fed P1 fo1 H1 → va_S A s.heap H1 locs1 → lv_has ls1 7 [(0, .ref b), (1, .ref x), (2, .ref m0), (3, .ref qo), (4, .int i)] → W p l e room_1 s m #[Value.ref b] below meth c H1 locs1 (cells + (P1 - P) + 26) (slots + (P1 - P) + (64 + 40 * fed)) Q (F0 m 781 ls1 [])) :
    W p l e room_1 s m #[Value.ref b] below meth c H locs cells slots Q (F0 m 704 ls []) := by
  have hpt := h3.pot
  refine lv_aload_n hx hb dl_704 rfl (lv_at hl 1 rfl) ?_
  refine lv_aload_n hx hb dl_705 rfl (lv_at hl 0 rfl) ?_
  refine lv_iload hx hb dl_706 (lv_at hl 4 rfl) ?_
  refine lv_iconst (v := 1) hx hb dl_708 (by decide) ?_
  refine lv_iadd hx hb dl_709 ?_
  refine va_sld hx hb hX hbl hbA hS hi1 dl_710 ?_
  refine lv_aload_n hx hb dl_711 rfl (lv_at hl 0 rfl) ?_
  refine lv_iload hx hb dl_712 (lv_at hl 4 rfl) ?_
  refine lv_iconst (v := 2) hx hb dl_714 (by decide) ?_
  refine lv_iadd hx hb dl_715 ?_
  refine va_sld hx hb hX hbl hbA hS hi2 dl_716 ?_
  refine lv_aload_n hx hb dl_717 rfl (lv_at hl 0 rfl) ?_
  refine lv_iload hx hb dl_718 (lv_at hl 4 rfl) ?_
  refine lv_iconst (v := 3) hx hb dl_720 (by decide) ?_
  refine lv_iadd hx hb dl_721 ?_
  refine va_sld hx hb hX hbl hbA hS hi3 dl_722 ?_
  refine lv_aload_n hx hb dl_723 rfl (lv_at hl 0 rfl) ?_
  refine lv_iload hx hb dl_724 (lv_at hl 4 rfl) ?_
  refine lv_iconst (v := 4) hx hb dl_726 (by decide) ?_
  refine lv_iadd hx hb dl_727 ?_
  refine va_sld hx hb hX hbl hbA hS hi4 dl_728 ?_
  refine lw_boolx hx hb dl_729 dl_732 dl_733 dl_736 ?_
  refine lc_cls (n := 4) (y := 14) (qm := (yX11_jump, cX11_jump, 6, (some .int))) (As := [.int (xs (Int32.toNatClampNeg (i + 1))), .int (xs (Int32.toNatClampNeg (i + 2))), .int (xs (Int32.toNatClampNeg (i + 3))), .int (bz (xs (Int32.toNatClampNeg (i + 4))))]) (S := 64 + 40 * fed) (V := fun v => v = some (.int (juK cc.2.2.2.2.2 (xs (Int32.toNatClampNeg (i + 1))) (xs (Int32.toNatClampNeg (i + 2))) (xs (Int32.toNatClampNeg (i + 3))) (bz (xs (Int32.toNatClampNeg (i + 4))))))) hx hb hml hown htb hA hE rfl bg_1443 bg_1444 bg_1445 bg_774 bg_915 ⟨by decide, by decide, by decide +kernel⟩ (by decide) dl_737 rfl rfl h3 hS hl.1 (fun M hG => gx_jumpX hG (by decide)) (by omega) (by omega) (fun v P1 H locs hV hP1 h3 hS => ?_)
  have hpt := h3.pot
  subst hV
  refine lv_aload_n hx hb dl_740 rfl (lv_at hl 2 rfl) ?_
  refine lv_aload_n hx hb dl_741 rfl (lv_at hl 0 rfl) ?_
  refine lv_iload hx hb dl_742 (lv_at hl 4 rfl) ?_
  refine lv_iconst (v := 1) hx hb dl_744 (by decide) ?_
  refine lv_iadd hx hb dl_745 ?_
  refine va_sld hx hb hX hbl hbA hS hi1 dl_746 ?_
  refine lv_aload_n hx hb dl_747 rfl (lv_at hl 0 rfl) ?_
  refine lv_iload hx hb dl_748 (lv_at hl 4 rfl) ?_
  refine lv_iconst (v := 2) hx hb dl_750 (by decide) ?_
  refine lv_iadd hx hb dl_751 ?_
  refine va_sld hx hb hX hbl hbA hS hi2 dl_752 ?_
  refine lv_aload_n hx hb dl_753 rfl (lv_at hl 0 rfl) ?_
  refine lv_iload hx hb dl_754 (lv_at hl 4 rfl) ?_
  refine lv_iconst (v := 3) hx hb dl_756 (by decide) ?_
  refine lv_iadd hx hb dl_757 ?_
  refine va_sld hx hb hX hbl hbA hS hi3 dl_758 ?_
  refine lv_aload_n hx hb dl_759 rfl (lv_at hl 0 rfl) ?_
  refine lv_iload hx hb dl_760 (lv_at hl 4 rfl) ?_
  refine lv_iconst (v := 4) hx hb dl_762 (by decide) ?_
  refine lv_iadd hx hb dl_763 ?_
  refine va_sld hx hb hX hbl hbA hS hi4 dl_764 ?_
  refine lw_boolx hx hb dl_765 dl_768 dl_769 dl_772 ?_
  refine lc_ref (rest := [.int (juK cc.2.2.2.2.2 (xs (Int32.toNatClampNeg (i + 1))) (xs (Int32.toNatClampNeg (i + 2))) (xs (Int32.toNatClampNeg (i + 3))) (bz (xs (Int32.toNatClampNeg (i + 4)))))]) (n := 4) (y := 220) (qm := (yX12_jump, cX12_jump, 7, (some .int))) (As := [.int (xs (Int32.toNatClampNeg (i + 1))), .int (xs (Int32.toNatClampNeg (i + 2))), .int (xs (Int32.toNatClampNeg (i + 3))), .int (bz (xs (Int32.toNatClampNeg (i + 4))))]) (V := fun v => v = some (.int (juK cc.2.2.2.2.2 (xs (Int32.toNatClampNeg (i + 1))) (xs (Int32.toNatClampNeg (i + 2))) (xs (Int32.toNatClampNeg (i + 3))) (bz (xs (Int32.toNatClampNeg (i + 4))))))) (X' := mT1) (cr' := cc) (Nat.le_of_ble_eq_true rfl) hx hb hml hown htb hA hE rfl bg_1446 bg_1447 bg_1448 bg_972 bg_1298 ⟨by decide, by decide, by decide +kernel⟩ (by decide) dl_773 rfl rfl h3 hS hl.1 (fun M hR _ => (rx_jumpX hR (by decide)).imp (fun v M' h => ⟨h.1, h.2, trivial⟩)) (by omega) (by omega) (fun v H locs hV h3 hS => ?_)
  subst hV
  refine lv_icmp_eq (tgt := 781) hx hb dl_776 (by decide) (fun _ => ?_) (fun c9 => absurd rfl c9)
  exact kk P1 _ _ H locs ls hP1 h3 hS (lv_sub hl [0, 1, 2, 3, 4] rfl)
end LWD
end
section
/-! THE CLAIM OUT OF ONE WALK OF THE LAW'S BODY. Your part is whole_start (and what it stands on); all else here is the same for every law, but numbers. -/
def R_law : String := "ClassGateLaw"
def lw_P (b : Addr) (xs : List Int32) (args : Array Value) (s : State) : Prop := args = #[.ref b] ∧ s.IntsAt b xs ∧ xs.length ≤ 3072 ∧ (Jvm.Cond.and given_1 narrow_1).before args s = true
def lw_Q (_ : Array Value) (s : State) (o : Outcome) (t : State) : Prop := o = .returned (some (.int 1)) ∧ Framed s o t [] 601024 7293034
def lw_Z (below : List Frame) (a : Array Value) (s : State) : State → Prop := fun t => ∃ o, t.status = .running ∧ Ended t below o ∧ lw_Q a s o t
/-- the law's own end, with 1 on the stack, nothing written that was there before, its room as the claim has it -/
theorem lw_ret {p : Program} {l : Launch} {e : Env} {s : State} {m : MethodId} {below : List Frame} {meth : Method} {c : Code} {b : Nat} (hx : p.tables.exec = Jvm.exec) (hb : c.code = code) (hr : meth.sig.returnType = ret) (hlocks : meth.locks = false) {pc : Nat} {H : Heap} {ls : Array Slot} (hdg : decode code pc = .ok (.ireturn, 1)) : W p l e room_1 s m #[Value.ref b] below meth c H [] 601024 7293034 (lw_Z below #[Value.ref b] s) (F0 m pc ls [.int 1]) := by
  intro T hT X
  obtain ⟨fs, hret, hrun, hended, hW, hframe⟩ := X.leave (v := some (.int 1)) (hlocks := hlocks) (fun h => by rw [hr] at h; cases h)
  have hmeth' : T.vm.method? m = some meth := X.method'
  refine ⟨T.setFrames fs, ?_, .returned (some (.int 1)), hrun, hended, rfl, ⟨_, rfl⟩, hW, hframe⟩
  jvm_step X.here [X.here.top, hx, hb, hdg, hmeth', hr, ret, narrow_b1]
  (try refine ⟨rfl, ?_⟩); (try refine ⟨rfl, ?_⟩)
  first | (intro acts; rw [hret _ acts rfl rfl rfl]) | rw [hret _ _ rfl rfl rfl]
  exact Steps.refl _
/-- what holds at the law's entry: the machine, the code, the tables' words (any of lw_tbl by 'hts w (by decide +kernel)'), the script of L ints xs at the cell b, what the Statement gives of the start (any of its parts by flat_of_before) -/
def lw_At (p : Program) (s : State) (m : MethodId) (meth : Method) (c : Code) (b L : Nat) (xs : Nat → Int32) : Prop :=
  p.tables.exec = Jvm.exec ∧ c.code = code ∧ meth.sig.returnType = ret ∧ c.maxLocals = 7 ∧ s.vm.findClass R_law = some m.cls ∧ (∀ w ∈ lw_tbl, w.before #[Value.ref b] s = true) ∧ va_X b L xs s s.heap ∧ b < s.heap.size ∧ meth.locks = false ∧ (Jvm.Cond.and given_1 narrow_1).before #[Value.ref b] s = true
end
section
/-! literals at the entry (laid by wip/p2/c95.py) -/
theorem fl_at {args : Array Value} {s : State} (hgv : (Jvm.Cond.and given_1 narrow_1).before args s = true) {i : Nat} {w : Cond} (h : (flatC (Jvm.Cond.and given_1 narrow_1))[i]? = some w) : w.before args s = true := flat_of_before _ hgv w (List.mem_of_getElem? h)
set_option maxHeartbeats 8000000 in
set_option maxRecDepth 200000 in
theorem xs_0 {s : State} {b : Nat} {A : Nat → Prop} (hA : ∀ a : Nat, a < s.heap.size → ¬ A a) (hts : ∀ w ∈ lw_tbl, w.before #[Value.ref b] s = true) (hgv : (Jvm.Cond.and given_1 narrow_1).before #[Value.ref b] s = true) : ∃ a v : Nat, (vk_R "ClassGate$AttributeCheck" 49 "ConstantValue" a s ∧ va_O "java/lang/String" a A s s.heap) ∧ va_OF "java/lang/String" "coder" "B" (.int 0) a A s s.heap ∧ va_OF "java/lang/String" "value" "[B" (.ref v) a A s s.heap ∧ va_T .byte v (xe_lt 0).2.2.2.length (fun j => .int ((xe_lt 0).2.2.2.getD j 0)) A s s.heap := by
  have e0 : (Cond.exactly (Term.string "ClassGate$AttributeCheck" 49) "java/lang/String").before #[Value.ref b] s = true := fl_at hgv (i := 72) (by decide +kernel)
  obtain ⟨a0, -, -, -, z0, -⟩ := Cond.exactly_spec (args := #[Value.ref b]) (first := s) (o := none) (s := s) (idx := []) (t := (Term.string "ClassGate$AttributeCheck" 49)) (cls := "java/lang/String") e0
  have r0 : vk_R "ClassGate$AttributeCheck" 49 "ConstantValue" a0 s := vk_R.of (hts _ (tb_4 _ (List.mem_of_getElem? (i := 5) (by decide +kernel)))) z0
  have o0 : va_O "java/lang/String" a0 A s s.heap := va_Oof e0 z0 hA
  have p0 : (Cond.eq (.field (Term.string "ClassGate$AttributeCheck" 49) "java/lang/String" "coder" "B") (.int 0)).before #[Value.ref b] s = true := fl_at hgv (i := 73) (by decide +kernel)
  have q0 : (Cond.arrayOf (Term.field (Term.string "ClassGate$AttributeCheck" 49) "java/lang/String" "value" "[B") .byte).before #[Value.ref b] s = true := fl_at hgv (i := 74) (by decide +kernel)
  have l0 : (Cond.eq (.length (Term.field (Term.string "ClassGate$AttributeCheck" 49) "java/lang/String" "value" "[B")) (.int 13)).before #[Value.ref b] s = true := fl_at hgv (i := 75) (by decide +kernel)
  have hw : ∀ j : Nat, j < 13 → (flatC (Jvm.Cond.and given_1 narrow_1))[76 + j]? = some (Cond.eq (.elem (Term.field (Term.string "ClassGate$AttributeCheck" 49) "java/lang/String" "value" "[B") (.int (Int32.ofNat j))) (.int ((xe_lt 0).2.2.2.getD j 0))) := by decide +kernel
  obtain ⟨v0, y0, T0⟩ := va_Tof (tm := (Term.field (Term.string "ClassGate$AttributeCheck" 49) "java/lang/String" "value" "[B")) (ty := .byte) (N := 13) (f := fun j => .int ((xe_lt 0).2.2.2.getD j 0)) (A := A) (by decide) q0 (va_eqt l0) (fun j hj => va_eqt (fl_at hgv (hw j hj))) hA
  exact ⟨a0, v0, ⟨r0, o0⟩, vk_OFof z0 (va_eqt p0) hA, vk_OFof z0 y0 hA, T0⟩
set_option maxHeartbeats 8000000 in
set_option maxRecDepth 200000 in
theorem xs_1 {s : State} {b : Nat} {A : Nat → Prop} (hA : ∀ a : Nat, a < s.heap.size → ¬ A a) (hts : ∀ w ∈ lw_tbl, w.before #[Value.ref b] s = true) (hgv : (Jvm.Cond.and given_1 narrow_1).before #[Value.ref b] s = true) : ∃ a v : Nat, (vk_R "ClassGate$AttributeCheck" 123 "Code" a s ∧ va_O "java/lang/String" a A s s.heap) ∧ va_OF "java/lang/String" "coder" "B" (.int 0) a A s s.heap ∧ va_OF "java/lang/String" "value" "[B" (.ref v) a A s s.heap ∧ va_T .byte v (xe_lt 1).2.2.2.length (fun j => .int ((xe_lt 1).2.2.2.getD j 0)) A s s.heap := by
  have e0 : (Cond.exactly (Term.string "ClassGate$AttributeCheck" 123) "java/lang/String").before #[Value.ref b] s = true := fl_at hgv (i := 134) (by decide +kernel)
  obtain ⟨a0, -, -, -, z0, -⟩ := Cond.exactly_spec (args := #[Value.ref b]) (first := s) (o := none) (s := s) (idx := []) (t := (Term.string "ClassGate$AttributeCheck" 123)) (cls := "java/lang/String") e0
  have r0 : vk_R "ClassGate$AttributeCheck" 123 "Code" a0 s := vk_R.of (hts _ (tb_4 _ (List.mem_of_getElem? (i := 101) (by decide +kernel)))) z0
  have o0 : va_O "java/lang/String" a0 A s s.heap := va_Oof e0 z0 hA
  have p0 : (Cond.eq (.field (Term.string "ClassGate$AttributeCheck" 123) "java/lang/String" "coder" "B") (.int 0)).before #[Value.ref b] s = true := fl_at hgv (i := 135) (by decide +kernel)
  have q0 : (Cond.arrayOf (Term.field (Term.string "ClassGate$AttributeCheck" 123) "java/lang/String" "value" "[B") .byte).before #[Value.ref b] s = true := fl_at hgv (i := 136) (by decide +kernel)
  have l0 : (Cond.eq (.length (Term.field (Term.string "ClassGate$AttributeCheck" 123) "java/lang/String" "value" "[B")) (.int 4)).before #[Value.ref b] s = true := fl_at hgv (i := 137) (by decide +kernel)
  have hw : ∀ j : Nat, j < 4 → (flatC (Jvm.Cond.and given_1 narrow_1))[138 + j]? = some (Cond.eq (.elem (Term.field (Term.string "ClassGate$AttributeCheck" 123) "java/lang/String" "value" "[B") (.int (Int32.ofNat j))) (.int ((xe_lt 1).2.2.2.getD j 0))) := by decide +kernel
  obtain ⟨v0, y0, T0⟩ := va_Tof (tm := (Term.field (Term.string "ClassGate$AttributeCheck" 123) "java/lang/String" "value" "[B")) (ty := .byte) (N := 4) (f := fun j => .int ((xe_lt 1).2.2.2.getD j 0)) (A := A) (by decide) q0 (va_eqt l0) (fun j hj => va_eqt (fl_at hgv (hw j hj))) hA
  exact ⟨a0, v0, ⟨r0, o0⟩, vk_OFof z0 (va_eqt p0) hA, vk_OFof z0 y0 hA, T0⟩
set_option maxHeartbeats 8000000 in
set_option maxRecDepth 200000 in
theorem xs_2 {s : State} {b : Nat} {A : Nat → Prop} (hA : ∀ a : Nat, a < s.heap.size → ¬ A a) (hts : ∀ w ∈ lw_tbl, w.before #[Value.ref b] s = true) (hgv : (Jvm.Cond.and given_1 narrow_1).before #[Value.ref b] s = true) : ∃ a v : Nat, (vk_R "ClassGate$AttributeCheck" 125 "Exceptions" a s ∧ va_O "java/lang/String" a A s s.heap) ∧ va_OF "java/lang/String" "coder" "B" (.int 0) a A s s.heap ∧ va_OF "java/lang/String" "value" "[B" (.ref v) a A s s.heap ∧ va_T .byte v (xe_lt 2).2.2.2.length (fun j => .int ((xe_lt 2).2.2.2.getD j 0)) A s s.heap := by
  have e0 : (Cond.exactly (Term.string "ClassGate$AttributeCheck" 125) "java/lang/String").before #[Value.ref b] s = true := fl_at hgv (i := 142) (by decide +kernel)
  obtain ⟨a0, -, -, -, z0, -⟩ := Cond.exactly_spec (args := #[Value.ref b]) (first := s) (o := none) (s := s) (idx := []) (t := (Term.string "ClassGate$AttributeCheck" 125)) (cls := "java/lang/String") e0
  have r0 : vk_R "ClassGate$AttributeCheck" 125 "Exceptions" a0 s := vk_R.of (hts _ (tb_4 _ (List.mem_of_getElem? (i := 102) (by decide +kernel)))) z0
  have o0 : va_O "java/lang/String" a0 A s s.heap := va_Oof e0 z0 hA
  have p0 : (Cond.eq (.field (Term.string "ClassGate$AttributeCheck" 125) "java/lang/String" "coder" "B") (.int 0)).before #[Value.ref b] s = true := fl_at hgv (i := 143) (by decide +kernel)
  have q0 : (Cond.arrayOf (Term.field (Term.string "ClassGate$AttributeCheck" 125) "java/lang/String" "value" "[B") .byte).before #[Value.ref b] s = true := fl_at hgv (i := 144) (by decide +kernel)
  have l0 : (Cond.eq (.length (Term.field (Term.string "ClassGate$AttributeCheck" 125) "java/lang/String" "value" "[B")) (.int 10)).before #[Value.ref b] s = true := fl_at hgv (i := 145) (by decide +kernel)
  have hw : ∀ j : Nat, j < 10 → (flatC (Jvm.Cond.and given_1 narrow_1))[146 + j]? = some (Cond.eq (.elem (Term.field (Term.string "ClassGate$AttributeCheck" 125) "java/lang/String" "value" "[B") (.int (Int32.ofNat j))) (.int ((xe_lt 2).2.2.2.getD j 0))) := by decide +kernel
  obtain ⟨v0, y0, T0⟩ := va_Tof (tm := (Term.field (Term.string "ClassGate$AttributeCheck" 125) "java/lang/String" "value" "[B")) (ty := .byte) (N := 10) (f := fun j => .int ((xe_lt 2).2.2.2.getD j 0)) (A := A) (by decide) q0 (va_eqt l0) (fun j hj => va_eqt (fl_at hgv (hw j hj))) hA
  exact ⟨a0, v0, ⟨r0, o0⟩, vk_OFof z0 (va_eqt p0) hA, vk_OFof z0 y0 hA, T0⟩
set_option maxHeartbeats 8000000 in
set_option maxRecDepth 200000 in
theorem xs_3 {s : State} {b : Nat} {A : Nat → Prop} (hA : ∀ a : Nat, a < s.heap.size → ¬ A a) (hts : ∀ w ∈ lw_tbl, w.before #[Value.ref b] s = true) (hgv : (Jvm.Cond.and given_1 narrow_1).before #[Value.ref b] s = true) : ∃ a v : Nat, (vk_R "ClassGate$AttributeCheck" 127 "InnerClasses" a s ∧ va_O "java/lang/String" a A s s.heap) ∧ va_OF "java/lang/String" "coder" "B" (.int 0) a A s s.heap ∧ va_OF "java/lang/String" "value" "[B" (.ref v) a A s s.heap ∧ va_T .byte v (xe_lt 3).2.2.2.length (fun j => .int ((xe_lt 3).2.2.2.getD j 0)) A s s.heap := by
  have e0 : (Cond.exactly (Term.string "ClassGate$AttributeCheck" 127) "java/lang/String").before #[Value.ref b] s = true := fl_at hgv (i := 173) (by decide +kernel)
  obtain ⟨a0, -, -, -, z0, -⟩ := Cond.exactly_spec (args := #[Value.ref b]) (first := s) (o := none) (s := s) (idx := []) (t := (Term.string "ClassGate$AttributeCheck" 127)) (cls := "java/lang/String") e0
  have r0 : vk_R "ClassGate$AttributeCheck" 127 "InnerClasses" a0 s := vk_R.of (hts _ (tb_4 _ (List.mem_of_getElem? (i := 234) (by decide +kernel)))) z0
  have o0 : va_O "java/lang/String" a0 A s s.heap := va_Oof e0 z0 hA
  have p0 : (Cond.eq (.field (Term.string "ClassGate$AttributeCheck" 127) "java/lang/String" "coder" "B") (.int 0)).before #[Value.ref b] s = true := fl_at hgv (i := 174) (by decide +kernel)
  have q0 : (Cond.arrayOf (Term.field (Term.string "ClassGate$AttributeCheck" 127) "java/lang/String" "value" "[B") .byte).before #[Value.ref b] s = true := fl_at hgv (i := 175) (by decide +kernel)
  have l0 : (Cond.eq (.length (Term.field (Term.string "ClassGate$AttributeCheck" 127) "java/lang/String" "value" "[B")) (.int 12)).before #[Value.ref b] s = true := fl_at hgv (i := 176) (by decide +kernel)
  have hw : ∀ j : Nat, j < 12 → (flatC (Jvm.Cond.and given_1 narrow_1))[177 + j]? = some (Cond.eq (.elem (Term.field (Term.string "ClassGate$AttributeCheck" 127) "java/lang/String" "value" "[B") (.int (Int32.ofNat j))) (.int ((xe_lt 3).2.2.2.getD j 0))) := by decide +kernel
  obtain ⟨v0, y0, T0⟩ := va_Tof (tm := (Term.field (Term.string "ClassGate$AttributeCheck" 127) "java/lang/String" "value" "[B")) (ty := .byte) (N := 12) (f := fun j => .int ((xe_lt 3).2.2.2.getD j 0)) (A := A) (by decide) q0 (va_eqt l0) (fun j hj => va_eqt (fl_at hgv (hw j hj))) hA
  exact ⟨a0, v0, ⟨r0, o0⟩, vk_OFof z0 (va_eqt p0) hA, vk_OFof z0 y0 hA, T0⟩
set_option maxHeartbeats 8000000 in
set_option maxRecDepth 200000 in
theorem xs_4 {s : State} {b : Nat} {A : Nat → Prop} (hA : ∀ a : Nat, a < s.heap.size → ¬ A a) (hts : ∀ w ∈ lw_tbl, w.before #[Value.ref b] s = true) (hgv : (Jvm.Cond.and given_1 narrow_1).before #[Value.ref b] s = true) : ∃ a v : Nat, (vk_R "ClassGate$AttributeCheck" 132 "BootstrapMethods" a s ∧ va_O "java/lang/String" a A s s.heap) ∧ va_OF "java/lang/String" "coder" "B" (.int 0) a A s s.heap ∧ va_OF "java/lang/String" "value" "[B" (.ref v) a A s s.heap ∧ va_T .byte v (xe_lt 4).2.2.2.length (fun j => .int ((xe_lt 4).2.2.2.getD j 0)) A s s.heap := by
  have e0 : (Cond.exactly (Term.string "ClassGate$AttributeCheck" 132) "java/lang/String").before #[Value.ref b] s = true := fl_at hgv (i := 189) (by decide +kernel)
  obtain ⟨a0, -, -, -, z0, -⟩ := Cond.exactly_spec (args := #[Value.ref b]) (first := s) (o := none) (s := s) (idx := []) (t := (Term.string "ClassGate$AttributeCheck" 132)) (cls := "java/lang/String") e0
  have r0 : vk_R "ClassGate$AttributeCheck" 132 "BootstrapMethods" a0 s := vk_R.of (hts _ (tb_4 _ (List.mem_of_getElem? (i := 235) (by decide +kernel)))) z0
  have o0 : va_O "java/lang/String" a0 A s s.heap := va_Oof e0 z0 hA
  have p0 : (Cond.eq (.field (Term.string "ClassGate$AttributeCheck" 132) "java/lang/String" "coder" "B") (.int 0)).before #[Value.ref b] s = true := fl_at hgv (i := 190) (by decide +kernel)
  have q0 : (Cond.arrayOf (Term.field (Term.string "ClassGate$AttributeCheck" 132) "java/lang/String" "value" "[B") .byte).before #[Value.ref b] s = true := fl_at hgv (i := 191) (by decide +kernel)
  have l0 : (Cond.eq (.length (Term.field (Term.string "ClassGate$AttributeCheck" 132) "java/lang/String" "value" "[B")) (.int 16)).before #[Value.ref b] s = true := fl_at hgv (i := 192) (by decide +kernel)
  have hw : ∀ j : Nat, j < 16 → (flatC (Jvm.Cond.and given_1 narrow_1))[193 + j]? = some (Cond.eq (.elem (Term.field (Term.string "ClassGate$AttributeCheck" 132) "java/lang/String" "value" "[B") (.int (Int32.ofNat j))) (.int ((xe_lt 4).2.2.2.getD j 0))) := by decide +kernel
  obtain ⟨v0, y0, T0⟩ := va_Tof (tm := (Term.field (Term.string "ClassGate$AttributeCheck" 132) "java/lang/String" "value" "[B")) (ty := .byte) (N := 16) (f := fun j => .int ((xe_lt 4).2.2.2.getD j 0)) (A := A) (by decide) q0 (va_eqt l0) (fun j hj => va_eqt (fl_at hgv (hw j hj))) hA
  exact ⟨a0, v0, ⟨r0, o0⟩, vk_OFof z0 (va_eqt p0) hA, vk_OFof z0 y0 hA, T0⟩
end
section
/-! literals at the entry (laid by wip/p2/c95.py) -/
set_option maxHeartbeats 8000000 in
set_option maxRecDepth 200000 in
theorem xs_5 {s : State} {b : Nat} {A : Nat → Prop} (hA : ∀ a : Nat, a < s.heap.size → ¬ A a) (hts : ∀ w ∈ lw_tbl, w.before #[Value.ref b] s = true) (hgv : (Jvm.Cond.and given_1 narrow_1).before #[Value.ref b] s = true) : ∃ a v : Nat, (vk_R "ClassGate$AttributeCheck" 134 "NestHost" a s ∧ va_O "java/lang/String" a A s s.heap) ∧ va_OF "java/lang/String" "coder" "B" (.int 0) a A s s.heap ∧ va_OF "java/lang/String" "value" "[B" (.ref v) a A s s.heap ∧ va_T .byte v (xe_lt 5).2.2.2.length (fun j => .int ((xe_lt 5).2.2.2.getD j 0)) A s s.heap := by
  have e0 : (Cond.exactly (Term.string "ClassGate$AttributeCheck" 134) "java/lang/String").before #[Value.ref b] s = true := fl_at hgv (i := 209) (by decide +kernel)
  obtain ⟨a0, -, -, -, z0, -⟩ := Cond.exactly_spec (args := #[Value.ref b]) (first := s) (o := none) (s := s) (idx := []) (t := (Term.string "ClassGate$AttributeCheck" 134)) (cls := "java/lang/String") e0
  have r0 : vk_R "ClassGate$AttributeCheck" 134 "NestHost" a0 s := vk_R.of (hts _ (tb_4 _ (List.mem_of_getElem? (i := 236) (by decide +kernel)))) z0
  have o0 : va_O "java/lang/String" a0 A s s.heap := va_Oof e0 z0 hA
  have p0 : (Cond.eq (.field (Term.string "ClassGate$AttributeCheck" 134) "java/lang/String" "coder" "B") (.int 0)).before #[Value.ref b] s = true := fl_at hgv (i := 210) (by decide +kernel)
  have q0 : (Cond.arrayOf (Term.field (Term.string "ClassGate$AttributeCheck" 134) "java/lang/String" "value" "[B") .byte).before #[Value.ref b] s = true := fl_at hgv (i := 211) (by decide +kernel)
  have l0 : (Cond.eq (.length (Term.field (Term.string "ClassGate$AttributeCheck" 134) "java/lang/String" "value" "[B")) (.int 8)).before #[Value.ref b] s = true := fl_at hgv (i := 212) (by decide +kernel)
  have hw : ∀ j : Nat, j < 8 → (flatC (Jvm.Cond.and given_1 narrow_1))[213 + j]? = some (Cond.eq (.elem (Term.field (Term.string "ClassGate$AttributeCheck" 134) "java/lang/String" "value" "[B") (.int (Int32.ofNat j))) (.int ((xe_lt 5).2.2.2.getD j 0))) := by decide +kernel
  obtain ⟨v0, y0, T0⟩ := va_Tof (tm := (Term.field (Term.string "ClassGate$AttributeCheck" 134) "java/lang/String" "value" "[B")) (ty := .byte) (N := 8) (f := fun j => .int ((xe_lt 5).2.2.2.getD j 0)) (A := A) (by decide) q0 (va_eqt l0) (fun j hj => va_eqt (fl_at hgv (hw j hj))) hA
  exact ⟨a0, v0, ⟨r0, o0⟩, vk_OFof z0 (va_eqt p0) hA, vk_OFof z0 y0 hA, T0⟩
set_option maxHeartbeats 8000000 in
set_option maxRecDepth 200000 in
theorem xs_6 {s : State} {b : Nat} {A : Nat → Prop} (hA : ∀ a : Nat, a < s.heap.size → ¬ A a) (hts : ∀ w ∈ lw_tbl, w.before #[Value.ref b] s = true) (hgv : (Jvm.Cond.and given_1 narrow_1).before #[Value.ref b] s = true) : ∃ a v : Nat, (vk_R "ClassGate$AttributeCheck" 136 "NestMembers" a s ∧ va_O "java/lang/String" a A s s.heap) ∧ va_OF "java/lang/String" "coder" "B" (.int 0) a A s s.heap ∧ va_OF "java/lang/String" "value" "[B" (.ref v) a A s s.heap ∧ va_T .byte v (xe_lt 6).2.2.2.length (fun j => .int ((xe_lt 6).2.2.2.getD j 0)) A s s.heap := by
  have e0 : (Cond.exactly (Term.string "ClassGate$AttributeCheck" 136) "java/lang/String").before #[Value.ref b] s = true := fl_at hgv (i := 221) (by decide +kernel)
  obtain ⟨a0, -, -, -, z0, -⟩ := Cond.exactly_spec (args := #[Value.ref b]) (first := s) (o := none) (s := s) (idx := []) (t := (Term.string "ClassGate$AttributeCheck" 136)) (cls := "java/lang/String") e0
  have r0 : vk_R "ClassGate$AttributeCheck" 136 "NestMembers" a0 s := vk_R.of (hts _ (tb_4 _ (List.mem_of_getElem? (i := 237) (by decide +kernel)))) z0
  have o0 : va_O "java/lang/String" a0 A s s.heap := va_Oof e0 z0 hA
  have p0 : (Cond.eq (.field (Term.string "ClassGate$AttributeCheck" 136) "java/lang/String" "coder" "B") (.int 0)).before #[Value.ref b] s = true := fl_at hgv (i := 222) (by decide +kernel)
  have q0 : (Cond.arrayOf (Term.field (Term.string "ClassGate$AttributeCheck" 136) "java/lang/String" "value" "[B") .byte).before #[Value.ref b] s = true := fl_at hgv (i := 223) (by decide +kernel)
  have l0 : (Cond.eq (.length (Term.field (Term.string "ClassGate$AttributeCheck" 136) "java/lang/String" "value" "[B")) (.int 11)).before #[Value.ref b] s = true := fl_at hgv (i := 224) (by decide +kernel)
  have hw : ∀ j : Nat, j < 11 → (flatC (Jvm.Cond.and given_1 narrow_1))[225 + j]? = some (Cond.eq (.elem (Term.field (Term.string "ClassGate$AttributeCheck" 136) "java/lang/String" "value" "[B") (.int (Int32.ofNat j))) (.int ((xe_lt 6).2.2.2.getD j 0))) := by decide +kernel
  obtain ⟨v0, y0, T0⟩ := va_Tof (tm := (Term.field (Term.string "ClassGate$AttributeCheck" 136) "java/lang/String" "value" "[B")) (ty := .byte) (N := 11) (f := fun j => .int ((xe_lt 6).2.2.2.getD j 0)) (A := A) (by decide) q0 (va_eqt l0) (fun j hj => va_eqt (fl_at hgv (hw j hj))) hA
  exact ⟨a0, v0, ⟨r0, o0⟩, vk_OFof z0 (va_eqt p0) hA, vk_OFof z0 y0 hA, T0⟩
set_option maxHeartbeats 8000000 in
set_option maxRecDepth 200000 in
theorem xs_7 {s : State} {b : Nat} {A : Nat → Prop} (hA : ∀ a : Nat, a < s.heap.size → ¬ A a) (hts : ∀ w ∈ lw_tbl, w.before #[Value.ref b] s = true) (hgv : (Jvm.Cond.and given_1 narrow_1).before #[Value.ref b] s = true) : ∃ a v : Nat, (vk_R "ClassGate$AttributeCheck" 138 "Record" a s ∧ va_O "java/lang/String" a A s s.heap) ∧ va_OF "java/lang/String" "coder" "B" (.int 0) a A s s.heap ∧ va_OF "java/lang/String" "value" "[B" (.ref v) a A s s.heap ∧ va_T .byte v (xe_lt 7).2.2.2.length (fun j => .int ((xe_lt 7).2.2.2.getD j 0)) A s s.heap := by
  have e0 : (Cond.exactly (Term.string "ClassGate$AttributeCheck" 138) "java/lang/String").before #[Value.ref b] s = true := fl_at hgv (i := 236) (by decide +kernel)
  obtain ⟨a0, -, -, -, z0, -⟩ := Cond.exactly_spec (args := #[Value.ref b]) (first := s) (o := none) (s := s) (idx := []) (t := (Term.string "ClassGate$AttributeCheck" 138)) (cls := "java/lang/String") e0
  have r0 : vk_R "ClassGate$AttributeCheck" 138 "Record" a0 s := vk_R.of (hts _ (tb_4 _ (List.mem_of_getElem? (i := 238) (by decide +kernel)))) z0
  have o0 : va_O "java/lang/String" a0 A s s.heap := va_Oof e0 z0 hA
  have p0 : (Cond.eq (.field (Term.string "ClassGate$AttributeCheck" 138) "java/lang/String" "coder" "B") (.int 0)).before #[Value.ref b] s = true := fl_at hgv (i := 237) (by decide +kernel)
  have q0 : (Cond.arrayOf (Term.field (Term.string "ClassGate$AttributeCheck" 138) "java/lang/String" "value" "[B") .byte).before #[Value.ref b] s = true := fl_at hgv (i := 238) (by decide +kernel)
  have l0 : (Cond.eq (.length (Term.field (Term.string "ClassGate$AttributeCheck" 138) "java/lang/String" "value" "[B")) (.int 6)).before #[Value.ref b] s = true := fl_at hgv (i := 239) (by decide +kernel)
  have hw : ∀ j : Nat, j < 6 → (flatC (Jvm.Cond.and given_1 narrow_1))[240 + j]? = some (Cond.eq (.elem (Term.field (Term.string "ClassGate$AttributeCheck" 138) "java/lang/String" "value" "[B") (.int (Int32.ofNat j))) (.int ((xe_lt 7).2.2.2.getD j 0))) := by decide +kernel
  obtain ⟨v0, y0, T0⟩ := va_Tof (tm := (Term.field (Term.string "ClassGate$AttributeCheck" 138) "java/lang/String" "value" "[B")) (ty := .byte) (N := 6) (f := fun j => .int ((xe_lt 7).2.2.2.getD j 0)) (A := A) (by decide) q0 (va_eqt l0) (fun j hj => va_eqt (fl_at hgv (hw j hj))) hA
  exact ⟨a0, v0, ⟨r0, o0⟩, vk_OFof z0 (va_eqt p0) hA, vk_OFof z0 y0 hA, T0⟩
set_option maxHeartbeats 8000000 in
set_option maxRecDepth 200000 in
theorem xs_8 {s : State} {b : Nat} {A : Nat → Prop} (hA : ∀ a : Nat, a < s.heap.size → ¬ A a) (hts : ∀ w ∈ lw_tbl, w.before #[Value.ref b] s = true) (hgv : (Jvm.Cond.and given_1 narrow_1).before #[Value.ref b] s = true) : ∃ a v : Nat, (vk_R "ClassGate$AttributeCheck" 140 "PermittedSubclasses" a s ∧ va_O "java/lang/String" a A s s.heap) ∧ va_OF "java/lang/String" "coder" "B" (.int 0) a A s s.heap ∧ va_OF "java/lang/String" "value" "[B" (.ref v) a A s s.heap ∧ va_T .byte v (xe_lt 8).2.2.2.length (fun j => .int ((xe_lt 8).2.2.2.getD j 0)) A s s.heap := by
  have e0 : (Cond.exactly (Term.string "ClassGate$AttributeCheck" 140) "java/lang/String").before #[Value.ref b] s = true := fl_at hgv (i := 246) (by decide +kernel)
  obtain ⟨a0, -, -, -, z0, -⟩ := Cond.exactly_spec (args := #[Value.ref b]) (first := s) (o := none) (s := s) (idx := []) (t := (Term.string "ClassGate$AttributeCheck" 140)) (cls := "java/lang/String") e0
  have r0 : vk_R "ClassGate$AttributeCheck" 140 "PermittedSubclasses" a0 s := vk_R.of (hts _ (tb_4 _ (List.mem_of_getElem? (i := 239) (by decide +kernel)))) z0
  have o0 : va_O "java/lang/String" a0 A s s.heap := va_Oof e0 z0 hA
  have p0 : (Cond.eq (.field (Term.string "ClassGate$AttributeCheck" 140) "java/lang/String" "coder" "B") (.int 0)).before #[Value.ref b] s = true := fl_at hgv (i := 247) (by decide +kernel)
  have q0 : (Cond.arrayOf (Term.field (Term.string "ClassGate$AttributeCheck" 140) "java/lang/String" "value" "[B") .byte).before #[Value.ref b] s = true := fl_at hgv (i := 248) (by decide +kernel)
  have l0 : (Cond.eq (.length (Term.field (Term.string "ClassGate$AttributeCheck" 140) "java/lang/String" "value" "[B")) (.int 19)).before #[Value.ref b] s = true := fl_at hgv (i := 249) (by decide +kernel)
  have hw : ∀ j : Nat, j < 19 → (flatC (Jvm.Cond.and given_1 narrow_1))[250 + j]? = some (Cond.eq (.elem (Term.field (Term.string "ClassGate$AttributeCheck" 140) "java/lang/String" "value" "[B") (.int (Int32.ofNat j))) (.int ((xe_lt 8).2.2.2.getD j 0))) := by decide +kernel
  obtain ⟨v0, y0, T0⟩ := va_Tof (tm := (Term.field (Term.string "ClassGate$AttributeCheck" 140) "java/lang/String" "value" "[B")) (ty := .byte) (N := 19) (f := fun j => .int ((xe_lt 8).2.2.2.getD j 0)) (A := A) (by decide) q0 (va_eqt l0) (fun j hj => va_eqt (fl_at hgv (hw j hj))) hA
  exact ⟨a0, v0, ⟨r0, o0⟩, vk_OFof z0 (va_eqt p0) hA, vk_OFof z0 y0 hA, T0⟩
set_option maxHeartbeats 8000000 in
set_option maxRecDepth 200000 in
theorem xs_9 {s : State} {b : Nat} {A : Nat → Prop} (hA : ∀ a : Nat, a < s.heap.size → ¬ A a) (hts : ∀ w ∈ lw_tbl, w.before #[Value.ref b] s = true) (hgv : (Jvm.Cond.and given_1 narrow_1).before #[Value.ref b] s = true) : ∃ a v : Nat, (vk_R "ClassGate$AttributeCheck" 157 "Ljava/lang/String;" a s ∧ va_O "java/lang/String" a A s s.heap) ∧ va_OF "java/lang/String" "coder" "B" (.int 0) a A s s.heap ∧ va_OF "java/lang/String" "value" "[B" (.ref v) a A s s.heap ∧ va_T .byte v (xe_lt 9).2.2.2.length (fun j => .int ((xe_lt 9).2.2.2.getD j 0)) A s s.heap := by
  have e0 : (Cond.exactly (Term.string "ClassGate$AttributeCheck" 157) "java/lang/String").before #[Value.ref b] s = true := fl_at hgv (i := 89) (by decide +kernel)
  obtain ⟨a0, -, -, -, z0, -⟩ := Cond.exactly_spec (args := #[Value.ref b]) (first := s) (o := none) (s := s) (idx := []) (t := (Term.string "ClassGate$AttributeCheck" 157)) (cls := "java/lang/String") e0
  have r0 : vk_R "ClassGate$AttributeCheck" 157 "Ljava/lang/String;" a0 s := vk_R.of (hts _ (tb_4 _ (List.mem_of_getElem? (i := 51) (by decide +kernel)))) z0
  have o0 : va_O "java/lang/String" a0 A s s.heap := va_Oof e0 z0 hA
  have p0 : (Cond.eq (.field (Term.string "ClassGate$AttributeCheck" 157) "java/lang/String" "coder" "B") (.int 0)).before #[Value.ref b] s = true := fl_at hgv (i := 90) (by decide +kernel)
  have q0 : (Cond.arrayOf (Term.field (Term.string "ClassGate$AttributeCheck" 157) "java/lang/String" "value" "[B") .byte).before #[Value.ref b] s = true := fl_at hgv (i := 91) (by decide +kernel)
  have l0 : (Cond.eq (.length (Term.field (Term.string "ClassGate$AttributeCheck" 157) "java/lang/String" "value" "[B")) (.int 18)).before #[Value.ref b] s = true := fl_at hgv (i := 92) (by decide +kernel)
  have hw : ∀ j : Nat, j < 18 → (flatC (Jvm.Cond.and given_1 narrow_1))[93 + j]? = some (Cond.eq (.elem (Term.field (Term.string "ClassGate$AttributeCheck" 157) "java/lang/String" "value" "[B") (.int (Int32.ofNat j))) (.int ((xe_lt 9).2.2.2.getD j 0))) := by decide +kernel
  obtain ⟨v0, y0, T0⟩ := va_Tof (tm := (Term.field (Term.string "ClassGate$AttributeCheck" 157) "java/lang/String" "value" "[B")) (ty := .byte) (N := 18) (f := fun j => .int ((xe_lt 9).2.2.2.getD j 0)) (A := A) (by decide) q0 (va_eqt l0) (fun j hj => va_eqt (fl_at hgv (hw j hj))) hA
  exact ⟨a0, v0, ⟨r0, o0⟩, vk_OFof z0 (va_eqt p0) hA, vk_OFof z0 y0 hA, T0⟩
set_option maxHeartbeats 8000000 in
set_option maxRecDepth 200000 in
theorem xs_10 {s : State} {b : Nat} {A : Nat → Prop} (hA : ∀ a : Nat, a < s.heap.size → ¬ A a) (hts : ∀ w ∈ lw_tbl, w.before #[Value.ref b] s = true) (hgv : (Jvm.Cond.and given_1 narrow_1).before #[Value.ref b] s = true) : ∃ a v : Nat, (vk_R "ClassGate$AttributeCheck" 235 "StackMapTable" a s ∧ va_O "java/lang/String" a A s s.heap) ∧ va_OF "java/lang/String" "coder" "B" (.int 0) a A s s.heap ∧ va_OF "java/lang/String" "value" "[B" (.ref v) a A s s.heap ∧ va_T .byte v (xe_lt 10).2.2.2.length (fun j => .int ((xe_lt 10).2.2.2.getD j 0)) A s s.heap := by
  have e0 : (Cond.exactly (Term.string "ClassGate$AttributeCheck" 235) "java/lang/String").before #[Value.ref b] s = true := fl_at hgv (i := 156) (by decide +kernel)
  obtain ⟨a0, -, -, -, z0, -⟩ := Cond.exactly_spec (args := #[Value.ref b]) (first := s) (o := none) (s := s) (idx := []) (t := (Term.string "ClassGate$AttributeCheck" 235)) (cls := "java/lang/String") e0
  have r0 : vk_R "ClassGate$AttributeCheck" 235 "StackMapTable" a0 s := vk_R.of (hts _ (tb_4 _ (List.mem_of_getElem? (i := 217) (by decide +kernel)))) z0
  have o0 : va_O "java/lang/String" a0 A s s.heap := va_Oof e0 z0 hA
  have p0 : (Cond.eq (.field (Term.string "ClassGate$AttributeCheck" 235) "java/lang/String" "coder" "B") (.int 0)).before #[Value.ref b] s = true := fl_at hgv (i := 157) (by decide +kernel)
  have q0 : (Cond.arrayOf (Term.field (Term.string "ClassGate$AttributeCheck" 235) "java/lang/String" "value" "[B") .byte).before #[Value.ref b] s = true := fl_at hgv (i := 158) (by decide +kernel)
  have l0 : (Cond.eq (.length (Term.field (Term.string "ClassGate$AttributeCheck" 235) "java/lang/String" "value" "[B")) (.int 13)).before #[Value.ref b] s = true := fl_at hgv (i := 159) (by decide +kernel)
  have hw : ∀ j : Nat, j < 13 → (flatC (Jvm.Cond.and given_1 narrow_1))[160 + j]? = some (Cond.eq (.elem (Term.field (Term.string "ClassGate$AttributeCheck" 235) "java/lang/String" "value" "[B") (.int (Int32.ofNat j))) (.int ((xe_lt 10).2.2.2.getD j 0))) := by decide +kernel
  obtain ⟨v0, y0, T0⟩ := va_Tof (tm := (Term.field (Term.string "ClassGate$AttributeCheck" 235) "java/lang/String" "value" "[B")) (ty := .byte) (N := 13) (f := fun j => .int ((xe_lt 10).2.2.2.getD j 0)) (A := A) (by decide) q0 (va_eqt l0) (fun j hj => va_eqt (fl_at hgv (hw j hj))) hA
  exact ⟨a0, v0, ⟨r0, o0⟩, vk_OFof z0 (va_eqt p0) hA, vk_OFof z0 y0 hA, T0⟩
set_option maxHeartbeats 8000000 in
set_option maxRecDepth 200000 in
theorem xs_11 {s : State} {b : Nat} {A : Nat → Prop} (hA : ∀ a : Nat, a < s.heap.size → ¬ A a) (hts : ∀ w ∈ lw_tbl, w.before #[Value.ref b] s = true) (hgv : (Jvm.Cond.and given_1 narrow_1).before #[Value.ref b] s = true) : ∃ a v : Nat, (vk_R "ClassGate$ClassCheck" 66 "java/lang/Object" a s ∧ va_O "java/lang/String" a A s s.heap) ∧ va_OF "java/lang/String" "coder" "B" (.int 0) a A s s.heap ∧ va_OF "java/lang/String" "value" "[B" (.ref v) a A s s.heap ∧ va_T .byte v (xe_lt 11).2.2.2.length (fun j => .int ((xe_lt 11).2.2.2.getD j 0)) A s s.heap := by
  have e0 : (Cond.exactly (Term.string "ClassGate$ClassCheck" 66) "java/lang/String").before #[Value.ref b] s = true := fl_at hgv (i := 52) (by decide +kernel)
  obtain ⟨a0, -, -, -, z0, -⟩ := Cond.exactly_spec (args := #[Value.ref b]) (first := s) (o := none) (s := s) (idx := []) (t := (Term.string "ClassGate$ClassCheck" 66)) (cls := "java/lang/String") e0
  have r0 : vk_R "ClassGate$ClassCheck" 66 "java/lang/Object" a0 s := vk_R.of (hts _ (tb_3 _ (List.mem_of_getElem? (i := 202) (by decide +kernel)))) z0
  have o0 : va_O "java/lang/String" a0 A s s.heap := va_Oof e0 z0 hA
  have p0 : (Cond.eq (.field (Term.string "ClassGate$ClassCheck" 66) "java/lang/String" "coder" "B") (.int 0)).before #[Value.ref b] s = true := fl_at hgv (i := 53) (by decide +kernel)
  have q0 : (Cond.arrayOf (Term.field (Term.string "ClassGate$ClassCheck" 66) "java/lang/String" "value" "[B") .byte).before #[Value.ref b] s = true := fl_at hgv (i := 54) (by decide +kernel)
  have l0 : (Cond.eq (.length (Term.field (Term.string "ClassGate$ClassCheck" 66) "java/lang/String" "value" "[B")) (.int 16)).before #[Value.ref b] s = true := fl_at hgv (i := 55) (by decide +kernel)
  have hw : ∀ j : Nat, j < 16 → (flatC (Jvm.Cond.and given_1 narrow_1))[56 + j]? = some (Cond.eq (.elem (Term.field (Term.string "ClassGate$ClassCheck" 66) "java/lang/String" "value" "[B") (.int (Int32.ofNat j))) (.int ((xe_lt 11).2.2.2.getD j 0))) := by decide +kernel
  obtain ⟨v0, y0, T0⟩ := va_Tof (tm := (Term.field (Term.string "ClassGate$ClassCheck" 66) "java/lang/String" "value" "[B")) (ty := .byte) (N := 16) (f := fun j => .int ((xe_lt 11).2.2.2.getD j 0)) (A := A) (by decide) q0 (va_eqt l0) (fun j hj => va_eqt (fl_at hgv (hw j hj))) hA
  exact ⟨a0, v0, ⟨r0, o0⟩, vk_OFof z0 (va_eqt p0) hA, vk_OFof z0 y0 hA, T0⟩
set_option maxHeartbeats 8000000 in
set_option maxRecDepth 200000 in
theorem xs_12 {s : State} {b : Nat} {A : Nat → Prop} (hA : ∀ a : Nat, a < s.heap.size → ¬ A a) (hts : ∀ w ∈ lw_tbl, w.before #[Value.ref b] s = true) (hgv : (Jvm.Cond.and given_1 narrow_1).before #[Value.ref b] s = true) : ∃ a v : Nat, (vk_R "ClassGate$ClassCheck" 157 "<init>" a s ∧ va_O "java/lang/String" a A s s.heap) ∧ va_OF "java/lang/String" "coder" "B" (.int 0) a A s s.heap ∧ va_OF "java/lang/String" "value" "[B" (.ref v) a A s s.heap ∧ va_T .byte v (xe_lt 12).2.2.2.length (fun j => .int ((xe_lt 12).2.2.2.getD j 0)) A s s.heap := by
  have e0 : (Cond.exactly (Term.string "ClassGate$ClassCheck" 157) "java/lang/String").before #[Value.ref b] s = true := fl_at hgv (i := 111) (by decide +kernel)
  obtain ⟨a0, -, -, -, z0, -⟩ := Cond.exactly_spec (args := #[Value.ref b]) (first := s) (o := none) (s := s) (idx := []) (t := (Term.string "ClassGate$ClassCheck" 157)) (cls := "java/lang/String") e0
  have r0 : vk_R "ClassGate$ClassCheck" 157 "<init>" a0 s := vk_R.of (hts _ (tb_4 _ (List.mem_of_getElem? (i := 67) (by decide +kernel)))) z0
  have o0 : va_O "java/lang/String" a0 A s s.heap := va_Oof e0 z0 hA
  have p0 : (Cond.eq (.field (Term.string "ClassGate$ClassCheck" 157) "java/lang/String" "coder" "B") (.int 0)).before #[Value.ref b] s = true := fl_at hgv (i := 112) (by decide +kernel)
  have q0 : (Cond.arrayOf (Term.field (Term.string "ClassGate$ClassCheck" 157) "java/lang/String" "value" "[B") .byte).before #[Value.ref b] s = true := fl_at hgv (i := 113) (by decide +kernel)
  have l0 : (Cond.eq (.length (Term.field (Term.string "ClassGate$ClassCheck" 157) "java/lang/String" "value" "[B")) (.int 6)).before #[Value.ref b] s = true := fl_at hgv (i := 114) (by decide +kernel)
  have hw : ∀ j : Nat, j < 6 → (flatC (Jvm.Cond.and given_1 narrow_1))[115 + j]? = some (Cond.eq (.elem (Term.field (Term.string "ClassGate$ClassCheck" 157) "java/lang/String" "value" "[B") (.int (Int32.ofNat j))) (.int ((xe_lt 12).2.2.2.getD j 0))) := by decide +kernel
  obtain ⟨v0, y0, T0⟩ := va_Tof (tm := (Term.field (Term.string "ClassGate$ClassCheck" 157) "java/lang/String" "value" "[B")) (ty := .byte) (N := 6) (f := fun j => .int ((xe_lt 12).2.2.2.getD j 0)) (A := A) (by decide) q0 (va_eqt l0) (fun j hj => va_eqt (fl_at hgv (hw j hj))) hA
  exact ⟨a0, v0, ⟨r0, o0⟩, vk_OFof z0 (va_eqt p0) hA, vk_OFof z0 y0 hA, T0⟩
set_option maxHeartbeats 8000000 in
set_option maxRecDepth 200000 in
theorem xs_13 {s : State} {b : Nat} {A : Nat → Prop} (hA : ∀ a : Nat, a < s.heap.size → ¬ A a) (hts : ∀ w ∈ lw_tbl, w.before #[Value.ref b] s = true) (hgv : (Jvm.Cond.and given_1 narrow_1).before #[Value.ref b] s = true) : ∃ a v : Nat, (vk_R "ClassGate$ClassCheck" 158 "<clinit>" a s ∧ va_O "java/lang/String" a A s s.heap) ∧ va_OF "java/lang/String" "coder" "B" (.int 0) a A s s.heap ∧ va_OF "java/lang/String" "value" "[B" (.ref v) a A s s.heap ∧ va_T .byte v (xe_lt 13).2.2.2.length (fun j => .int ((xe_lt 13).2.2.2.getD j 0)) A s s.heap := by
  have e0 : (Cond.exactly (Term.string "ClassGate$ClassCheck" 158) "java/lang/String").before #[Value.ref b] s = true := fl_at hgv (i := 122) (by decide +kernel)
  obtain ⟨a0, -, -, -, z0, -⟩ := Cond.exactly_spec (args := #[Value.ref b]) (first := s) (o := none) (s := s) (idx := []) (t := (Term.string "ClassGate$ClassCheck" 158)) (cls := "java/lang/String") e0
  have r0 : vk_R "ClassGate$ClassCheck" 158 "<clinit>" a0 s := vk_R.of (hts _ (tb_4 _ (List.mem_of_getElem? (i := 68) (by decide +kernel)))) z0
  have o0 : va_O "java/lang/String" a0 A s s.heap := va_Oof e0 z0 hA
  have p0 : (Cond.eq (.field (Term.string "ClassGate$ClassCheck" 158) "java/lang/String" "coder" "B") (.int 0)).before #[Value.ref b] s = true := fl_at hgv (i := 123) (by decide +kernel)
  have q0 : (Cond.arrayOf (Term.field (Term.string "ClassGate$ClassCheck" 158) "java/lang/String" "value" "[B") .byte).before #[Value.ref b] s = true := fl_at hgv (i := 124) (by decide +kernel)
  have l0 : (Cond.eq (.length (Term.field (Term.string "ClassGate$ClassCheck" 158) "java/lang/String" "value" "[B")) (.int 8)).before #[Value.ref b] s = true := fl_at hgv (i := 125) (by decide +kernel)
  have hw : ∀ j : Nat, j < 8 → (flatC (Jvm.Cond.and given_1 narrow_1))[126 + j]? = some (Cond.eq (.elem (Term.field (Term.string "ClassGate$ClassCheck" 158) "java/lang/String" "value" "[B") (.int (Int32.ofNat j))) (.int ((xe_lt 13).2.2.2.getD j 0))) := by decide +kernel
  obtain ⟨v0, y0, T0⟩ := va_Tof (tm := (Term.field (Term.string "ClassGate$ClassCheck" 158) "java/lang/String" "value" "[B")) (ty := .byte) (N := 8) (f := fun j => .int ((xe_lt 13).2.2.2.getD j 0)) (A := A) (by decide) q0 (va_eqt l0) (fun j hj => va_eqt (fl_at hgv (hw j hj))) hA
  exact ⟨a0, v0, ⟨r0, o0⟩, vk_OFof z0 (va_eqt p0) hA, vk_OFof z0 y0 hA, T0⟩
set_option maxHeartbeats 8000000 in
set_option maxRecDepth 200000 in
theorem xs_14 {s : State} {b : Nat} {A : Nat → Prop} (hA : ∀ a : Nat, a < s.heap.size → ¬ A a) (hts : ∀ w ∈ lw_tbl, w.before #[Value.ref b] s = true) (hgv : (Jvm.Cond.and given_1 narrow_1).before #[Value.ref b] s = true) : ∃ a v : Nat, (vk_R "ClassGate$Pool" 98 "<init>" a s ∧ va_O "java/lang/String" a A s s.heap) ∧ va_OF "java/lang/String" "coder" "B" (.int 0) a A s s.heap ∧ va_OF "java/lang/String" "value" "[B" (.ref v) a A s s.heap ∧ va_T .byte v (xe_lt 14).2.2.2.length (fun j => .int ((xe_lt 14).2.2.2.getD j 0)) A s s.heap := by
  have e0 : (Cond.exactly (Term.string "ClassGate$Pool" 98) "java/lang/String").before #[Value.ref b] s = true := fl_at hgv (i := 42) (by decide +kernel)
  obtain ⟨a0, -, -, -, z0, -⟩ := Cond.exactly_spec (args := #[Value.ref b]) (first := s) (o := none) (s := s) (idx := []) (t := (Term.string "ClassGate$Pool" 98)) (cls := "java/lang/String") e0
  have r0 : vk_R "ClassGate$Pool" 98 "<init>" a0 s := vk_R.of (hts _ (tb_3 _ (List.mem_of_getElem? (i := 112) (by decide +kernel)))) z0
  have o0 : va_O "java/lang/String" a0 A s s.heap := va_Oof e0 z0 hA
  have p0 : (Cond.eq (.field (Term.string "ClassGate$Pool" 98) "java/lang/String" "coder" "B") (.int 0)).before #[Value.ref b] s = true := fl_at hgv (i := 43) (by decide +kernel)
  have q0 : (Cond.arrayOf (Term.field (Term.string "ClassGate$Pool" 98) "java/lang/String" "value" "[B") .byte).before #[Value.ref b] s = true := fl_at hgv (i := 44) (by decide +kernel)
  have l0 : (Cond.eq (.length (Term.field (Term.string "ClassGate$Pool" 98) "java/lang/String" "value" "[B")) (.int 6)).before #[Value.ref b] s = true := fl_at hgv (i := 45) (by decide +kernel)
  have hw : ∀ j : Nat, j < 6 → (flatC (Jvm.Cond.and given_1 narrow_1))[46 + j]? = some (Cond.eq (.elem (Term.field (Term.string "ClassGate$Pool" 98) "java/lang/String" "value" "[B") (.int (Int32.ofNat j))) (.int ((xe_lt 14).2.2.2.getD j 0))) := by decide +kernel
  obtain ⟨v0, y0, T0⟩ := va_Tof (tm := (Term.field (Term.string "ClassGate$Pool" 98) "java/lang/String" "value" "[B")) (ty := .byte) (N := 6) (f := fun j => .int ((xe_lt 14).2.2.2.getD j 0)) (A := A) (by decide) q0 (va_eqt l0) (fun j hj => va_eqt (fl_at hgv (hw j hj))) hA
  exact ⟨a0, v0, ⟨r0, o0⟩, vk_OFof z0 (va_eqt p0) hA, vk_OFof z0 y0 hA, T0⟩
end
section
/-! literals at the entry (laid by wip/p2/c95.py) -/
set_option maxHeartbeats 8000000 in
set_option maxRecDepth 200000 in
theorem xs_15 {s : State} {b : Nat} {A : Nat → Prop} (hA : ∀ a : Nat, a < s.heap.size → ¬ A a) (hts : ∀ w ∈ lw_tbl, w.before #[Value.ref b] s = true) (hgv : (Jvm.Cond.and given_1 narrow_1).before #[Value.ref b] s = true) : ∃ a v : Nat, (vk_R "ClassGateModel" 127 "ConstantValue" a s ∧ va_O "java/lang/String" a A s s.heap) ∧ va_OF "java/lang/String" "coder" "B" (.int 0) a A s s.heap ∧ va_OF "java/lang/String" "value" "[B" (.ref v) a A s s.heap ∧ va_T .byte v (xe_lt 15).2.2.2.length (fun j => .int ((xe_lt 15).2.2.2.getD j 0)) A s s.heap := by
  have e0 : (Cond.exactly (Term.string "ClassGateModel" 127) "java/lang/String").before #[Value.ref b] s = true := fl_at hgv (i := 450) (by decide +kernel)
  obtain ⟨a0, -, -, -, z0, -⟩ := Cond.exactly_spec (args := #[Value.ref b]) (first := s) (o := none) (s := s) (idx := []) (t := (Term.string "ClassGateModel" 127)) (cls := "java/lang/String") e0
  have r0 : vk_R "ClassGateModel" 127 "ConstantValue" a0 s := vk_R.of (hts _ (tb_6 _ (List.mem_of_getElem? (i := 163) (by decide +kernel)))) z0
  have o0 : va_O "java/lang/String" a0 A s s.heap := va_Oof e0 z0 hA
  have p0 : (Cond.eq (.field (Term.string "ClassGateModel" 127) "java/lang/String" "coder" "B") (.int 0)).before #[Value.ref b] s = true := fl_at hgv (i := 451) (by decide +kernel)
  have q0 : (Cond.arrayOf (Term.field (Term.string "ClassGateModel" 127) "java/lang/String" "value" "[B") .byte).before #[Value.ref b] s = true := fl_at hgv (i := 452) (by decide +kernel)
  have l0 : (Cond.eq (.length (Term.field (Term.string "ClassGateModel" 127) "java/lang/String" "value" "[B")) (.int 13)).before #[Value.ref b] s = true := fl_at hgv (i := 453) (by decide +kernel)
  have hw : ∀ j : Nat, j < 13 → (flatC (Jvm.Cond.and given_1 narrow_1))[454 + j]? = some (Cond.eq (.elem (Term.field (Term.string "ClassGateModel" 127) "java/lang/String" "value" "[B") (.int (Int32.ofNat j))) (.int ((xe_lt 15).2.2.2.getD j 0))) := by decide +kernel
  obtain ⟨v0, y0, T0⟩ := va_Tof (tm := (Term.field (Term.string "ClassGateModel" 127) "java/lang/String" "value" "[B")) (ty := .byte) (N := 13) (f := fun j => .int ((xe_lt 15).2.2.2.getD j 0)) (A := A) (by decide) q0 (va_eqt l0) (fun j hj => va_eqt (fl_at hgv (hw j hj))) hA
  exact ⟨a0, v0, ⟨r0, o0⟩, vk_OFof z0 (va_eqt p0) hA, vk_OFof z0 y0 hA, T0⟩
set_option maxHeartbeats 8000000 in
set_option maxRecDepth 200000 in
theorem xs_16 {s : State} {b : Nat} {A : Nat → Prop} (hA : ∀ a : Nat, a < s.heap.size → ¬ A a) (hts : ∀ w ∈ lw_tbl, w.before #[Value.ref b] s = true) (hgv : (Jvm.Cond.and given_1 narrow_1).before #[Value.ref b] s = true) : ∃ a v : Nat, (vk_R "ClassGateModel" 129 "Code" a s ∧ va_O "java/lang/String" a A s s.heap) ∧ va_OF "java/lang/String" "coder" "B" (.int 0) a A s s.heap ∧ va_OF "java/lang/String" "value" "[B" (.ref v) a A s s.heap ∧ va_T .byte v (xe_lt 16).2.2.2.length (fun j => .int ((xe_lt 16).2.2.2.getD j 0)) A s s.heap := by
  have e0 : (Cond.exactly (Term.string "ClassGateModel" 129) "java/lang/String").before #[Value.ref b] s = true := fl_at hgv (i := 468) (by decide +kernel)
  obtain ⟨a0, -, -, -, z0, -⟩ := Cond.exactly_spec (args := #[Value.ref b]) (first := s) (o := none) (s := s) (idx := []) (t := (Term.string "ClassGateModel" 129)) (cls := "java/lang/String") e0
  have r0 : vk_R "ClassGateModel" 129 "Code" a0 s := vk_R.of (hts _ (tb_6 _ (List.mem_of_getElem? (i := 164) (by decide +kernel)))) z0
  have o0 : va_O "java/lang/String" a0 A s s.heap := va_Oof e0 z0 hA
  have p0 : (Cond.eq (.field (Term.string "ClassGateModel" 129) "java/lang/String" "coder" "B") (.int 0)).before #[Value.ref b] s = true := fl_at hgv (i := 469) (by decide +kernel)
  have q0 : (Cond.arrayOf (Term.field (Term.string "ClassGateModel" 129) "java/lang/String" "value" "[B") .byte).before #[Value.ref b] s = true := fl_at hgv (i := 470) (by decide +kernel)
  have l0 : (Cond.eq (.length (Term.field (Term.string "ClassGateModel" 129) "java/lang/String" "value" "[B")) (.int 4)).before #[Value.ref b] s = true := fl_at hgv (i := 471) (by decide +kernel)
  have hw : ∀ j : Nat, j < 4 → (flatC (Jvm.Cond.and given_1 narrow_1))[472 + j]? = some (Cond.eq (.elem (Term.field (Term.string "ClassGateModel" 129) "java/lang/String" "value" "[B") (.int (Int32.ofNat j))) (.int ((xe_lt 16).2.2.2.getD j 0))) := by decide +kernel
  obtain ⟨v0, y0, T0⟩ := va_Tof (tm := (Term.field (Term.string "ClassGateModel" 129) "java/lang/String" "value" "[B")) (ty := .byte) (N := 4) (f := fun j => .int ((xe_lt 16).2.2.2.getD j 0)) (A := A) (by decide) q0 (va_eqt l0) (fun j hj => va_eqt (fl_at hgv (hw j hj))) hA
  exact ⟨a0, v0, ⟨r0, o0⟩, vk_OFof z0 (va_eqt p0) hA, vk_OFof z0 y0 hA, T0⟩
set_option maxHeartbeats 8000000 in
set_option maxRecDepth 200000 in
theorem xs_17 {s : State} {b : Nat} {A : Nat → Prop} (hA : ∀ a : Nat, a < s.heap.size → ¬ A a) (hts : ∀ w ∈ lw_tbl, w.before #[Value.ref b] s = true) (hgv : (Jvm.Cond.and given_1 narrow_1).before #[Value.ref b] s = true) : ∃ a v : Nat, (vk_R "ClassGateModel" 131 "Exceptions" a s ∧ va_O "java/lang/String" a A s s.heap) ∧ va_OF "java/lang/String" "coder" "B" (.int 0) a A s s.heap ∧ va_OF "java/lang/String" "value" "[B" (.ref v) a A s s.heap ∧ va_T .byte v (xe_lt 17).2.2.2.length (fun j => .int ((xe_lt 17).2.2.2.getD j 0)) A s s.heap := by
  have e0 : (Cond.exactly (Term.string "ClassGateModel" 131) "java/lang/String").before #[Value.ref b] s = true := fl_at hgv (i := 477) (by decide +kernel)
  obtain ⟨a0, -, -, -, z0, -⟩ := Cond.exactly_spec (args := #[Value.ref b]) (first := s) (o := none) (s := s) (idx := []) (t := (Term.string "ClassGateModel" 131)) (cls := "java/lang/String") e0
  have r0 : vk_R "ClassGateModel" 131 "Exceptions" a0 s := vk_R.of (hts _ (tb_6 _ (List.mem_of_getElem? (i := 165) (by decide +kernel)))) z0
  have o0 : va_O "java/lang/String" a0 A s s.heap := va_Oof e0 z0 hA
  have p0 : (Cond.eq (.field (Term.string "ClassGateModel" 131) "java/lang/String" "coder" "B") (.int 0)).before #[Value.ref b] s = true := fl_at hgv (i := 478) (by decide +kernel)
  have q0 : (Cond.arrayOf (Term.field (Term.string "ClassGateModel" 131) "java/lang/String" "value" "[B") .byte).before #[Value.ref b] s = true := fl_at hgv (i := 479) (by decide +kernel)
  have l0 : (Cond.eq (.length (Term.field (Term.string "ClassGateModel" 131) "java/lang/String" "value" "[B")) (.int 10)).before #[Value.ref b] s = true := fl_at hgv (i := 480) (by decide +kernel)
  have hw : ∀ j : Nat, j < 10 → (flatC (Jvm.Cond.and given_1 narrow_1))[481 + j]? = some (Cond.eq (.elem (Term.field (Term.string "ClassGateModel" 131) "java/lang/String" "value" "[B") (.int (Int32.ofNat j))) (.int ((xe_lt 17).2.2.2.getD j 0))) := by decide +kernel
  obtain ⟨v0, y0, T0⟩ := va_Tof (tm := (Term.field (Term.string "ClassGateModel" 131) "java/lang/String" "value" "[B")) (ty := .byte) (N := 10) (f := fun j => .int ((xe_lt 17).2.2.2.getD j 0)) (A := A) (by decide) q0 (va_eqt l0) (fun j hj => va_eqt (fl_at hgv (hw j hj))) hA
  exact ⟨a0, v0, ⟨r0, o0⟩, vk_OFof z0 (va_eqt p0) hA, vk_OFof z0 y0 hA, T0⟩
set_option maxHeartbeats 8000000 in
set_option maxRecDepth 200000 in
theorem xs_18 {s : State} {b : Nat} {A : Nat → Prop} (hA : ∀ a : Nat, a < s.heap.size → ¬ A a) (hts : ∀ w ∈ lw_tbl, w.before #[Value.ref b] s = true) (hgv : (Jvm.Cond.and given_1 narrow_1).before #[Value.ref b] s = true) : ∃ a v : Nat, (vk_R "ClassGateModel" 133 "StackMapTable" a s ∧ va_O "java/lang/String" a A s s.heap) ∧ va_OF "java/lang/String" "coder" "B" (.int 0) a A s s.heap ∧ va_OF "java/lang/String" "value" "[B" (.ref v) a A s s.heap ∧ va_T .byte v (xe_lt 18).2.2.2.length (fun j => .int ((xe_lt 18).2.2.2.getD j 0)) A s s.heap := by
  have e0 : (Cond.exactly (Term.string "ClassGateModel" 133) "java/lang/String").before #[Value.ref b] s = true := fl_at hgv (i := 492) (by decide +kernel)
  obtain ⟨a0, -, -, -, z0, -⟩ := Cond.exactly_spec (args := #[Value.ref b]) (first := s) (o := none) (s := s) (idx := []) (t := (Term.string "ClassGateModel" 133)) (cls := "java/lang/String") e0
  have r0 : vk_R "ClassGateModel" 133 "StackMapTable" a0 s := vk_R.of (hts _ (tb_6 _ (List.mem_of_getElem? (i := 166) (by decide +kernel)))) z0
  have o0 : va_O "java/lang/String" a0 A s s.heap := va_Oof e0 z0 hA
  have p0 : (Cond.eq (.field (Term.string "ClassGateModel" 133) "java/lang/String" "coder" "B") (.int 0)).before #[Value.ref b] s = true := fl_at hgv (i := 493) (by decide +kernel)
  have q0 : (Cond.arrayOf (Term.field (Term.string "ClassGateModel" 133) "java/lang/String" "value" "[B") .byte).before #[Value.ref b] s = true := fl_at hgv (i := 494) (by decide +kernel)
  have l0 : (Cond.eq (.length (Term.field (Term.string "ClassGateModel" 133) "java/lang/String" "value" "[B")) (.int 13)).before #[Value.ref b] s = true := fl_at hgv (i := 495) (by decide +kernel)
  have hw : ∀ j : Nat, j < 13 → (flatC (Jvm.Cond.and given_1 narrow_1))[496 + j]? = some (Cond.eq (.elem (Term.field (Term.string "ClassGateModel" 133) "java/lang/String" "value" "[B") (.int (Int32.ofNat j))) (.int ((xe_lt 18).2.2.2.getD j 0))) := by decide +kernel
  obtain ⟨v0, y0, T0⟩ := va_Tof (tm := (Term.field (Term.string "ClassGateModel" 133) "java/lang/String" "value" "[B")) (ty := .byte) (N := 13) (f := fun j => .int ((xe_lt 18).2.2.2.getD j 0)) (A := A) (by decide) q0 (va_eqt l0) (fun j hj => va_eqt (fl_at hgv (hw j hj))) hA
  exact ⟨a0, v0, ⟨r0, o0⟩, vk_OFof z0 (va_eqt p0) hA, vk_OFof z0 y0 hA, T0⟩
set_option maxHeartbeats 8000000 in
set_option maxRecDepth 200000 in
theorem xs_19 {s : State} {b : Nat} {A : Nat → Prop} (hA : ∀ a : Nat, a < s.heap.size → ¬ A a) (hts : ∀ w ∈ lw_tbl, w.before #[Value.ref b] s = true) (hgv : (Jvm.Cond.and given_1 narrow_1).before #[Value.ref b] s = true) : ∃ a v : Nat, (vk_R "ClassGateModel" 135 "InnerClasses" a s ∧ va_O "java/lang/String" a A s s.heap) ∧ va_OF "java/lang/String" "coder" "B" (.int 0) a A s s.heap ∧ va_OF "java/lang/String" "value" "[B" (.ref v) a A s s.heap ∧ va_T .byte v (xe_lt 19).2.2.2.length (fun j => .int ((xe_lt 19).2.2.2.getD j 0)) A s s.heap := by
  have e0 : (Cond.exactly (Term.string "ClassGateModel" 135) "java/lang/String").before #[Value.ref b] s = true := fl_at hgv (i := 510) (by decide +kernel)
  obtain ⟨a0, -, -, -, z0, -⟩ := Cond.exactly_spec (args := #[Value.ref b]) (first := s) (o := none) (s := s) (idx := []) (t := (Term.string "ClassGateModel" 135)) (cls := "java/lang/String") e0
  have r0 : vk_R "ClassGateModel" 135 "InnerClasses" a0 s := vk_R.of (hts _ (tb_6 _ (List.mem_of_getElem? (i := 167) (by decide +kernel)))) z0
  have o0 : va_O "java/lang/String" a0 A s s.heap := va_Oof e0 z0 hA
  have p0 : (Cond.eq (.field (Term.string "ClassGateModel" 135) "java/lang/String" "coder" "B") (.int 0)).before #[Value.ref b] s = true := fl_at hgv (i := 511) (by decide +kernel)
  have q0 : (Cond.arrayOf (Term.field (Term.string "ClassGateModel" 135) "java/lang/String" "value" "[B") .byte).before #[Value.ref b] s = true := fl_at hgv (i := 512) (by decide +kernel)
  have l0 : (Cond.eq (.length (Term.field (Term.string "ClassGateModel" 135) "java/lang/String" "value" "[B")) (.int 12)).before #[Value.ref b] s = true := fl_at hgv (i := 513) (by decide +kernel)
  have hw : ∀ j : Nat, j < 12 → (flatC (Jvm.Cond.and given_1 narrow_1))[514 + j]? = some (Cond.eq (.elem (Term.field (Term.string "ClassGateModel" 135) "java/lang/String" "value" "[B") (.int (Int32.ofNat j))) (.int ((xe_lt 19).2.2.2.getD j 0))) := by decide +kernel
  obtain ⟨v0, y0, T0⟩ := va_Tof (tm := (Term.field (Term.string "ClassGateModel" 135) "java/lang/String" "value" "[B")) (ty := .byte) (N := 12) (f := fun j => .int ((xe_lt 19).2.2.2.getD j 0)) (A := A) (by decide) q0 (va_eqt l0) (fun j hj => va_eqt (fl_at hgv (hw j hj))) hA
  exact ⟨a0, v0, ⟨r0, o0⟩, vk_OFof z0 (va_eqt p0) hA, vk_OFof z0 y0 hA, T0⟩
set_option maxHeartbeats 8000000 in
set_option maxRecDepth 200000 in
theorem xs_20 {s : State} {b : Nat} {A : Nat → Prop} (hA : ∀ a : Nat, a < s.heap.size → ¬ A a) (hts : ∀ w ∈ lw_tbl, w.before #[Value.ref b] s = true) (hgv : (Jvm.Cond.and given_1 narrow_1).before #[Value.ref b] s = true) : ∃ a v : Nat, (vk_R "ClassGateModel" 137 "BootstrapMethods" a s ∧ va_O "java/lang/String" a A s s.heap) ∧ va_OF "java/lang/String" "coder" "B" (.int 0) a A s s.heap ∧ va_OF "java/lang/String" "value" "[B" (.ref v) a A s s.heap ∧ va_T .byte v (xe_lt 20).2.2.2.length (fun j => .int ((xe_lt 20).2.2.2.getD j 0)) A s s.heap := by
  have e0 : (Cond.exactly (Term.string "ClassGateModel" 137) "java/lang/String").before #[Value.ref b] s = true := fl_at hgv (i := 527) (by decide +kernel)
  obtain ⟨a0, -, -, -, z0, -⟩ := Cond.exactly_spec (args := #[Value.ref b]) (first := s) (o := none) (s := s) (idx := []) (t := (Term.string "ClassGateModel" 137)) (cls := "java/lang/String") e0
  have r0 : vk_R "ClassGateModel" 137 "BootstrapMethods" a0 s := vk_R.of (hts _ (tb_6 _ (List.mem_of_getElem? (i := 168) (by decide +kernel)))) z0
  have o0 : va_O "java/lang/String" a0 A s s.heap := va_Oof e0 z0 hA
  have p0 : (Cond.eq (.field (Term.string "ClassGateModel" 137) "java/lang/String" "coder" "B") (.int 0)).before #[Value.ref b] s = true := fl_at hgv (i := 528) (by decide +kernel)
  have q0 : (Cond.arrayOf (Term.field (Term.string "ClassGateModel" 137) "java/lang/String" "value" "[B") .byte).before #[Value.ref b] s = true := fl_at hgv (i := 529) (by decide +kernel)
  have l0 : (Cond.eq (.length (Term.field (Term.string "ClassGateModel" 137) "java/lang/String" "value" "[B")) (.int 16)).before #[Value.ref b] s = true := fl_at hgv (i := 530) (by decide +kernel)
  have hw : ∀ j : Nat, j < 16 → (flatC (Jvm.Cond.and given_1 narrow_1))[531 + j]? = some (Cond.eq (.elem (Term.field (Term.string "ClassGateModel" 137) "java/lang/String" "value" "[B") (.int (Int32.ofNat j))) (.int ((xe_lt 20).2.2.2.getD j 0))) := by decide +kernel
  obtain ⟨v0, y0, T0⟩ := va_Tof (tm := (Term.field (Term.string "ClassGateModel" 137) "java/lang/String" "value" "[B")) (ty := .byte) (N := 16) (f := fun j => .int ((xe_lt 20).2.2.2.getD j 0)) (A := A) (by decide) q0 (va_eqt l0) (fun j hj => va_eqt (fl_at hgv (hw j hj))) hA
  exact ⟨a0, v0, ⟨r0, o0⟩, vk_OFof z0 (va_eqt p0) hA, vk_OFof z0 y0 hA, T0⟩
set_option maxHeartbeats 8000000 in
set_option maxRecDepth 200000 in
theorem xs_21 {s : State} {b : Nat} {A : Nat → Prop} (hA : ∀ a : Nat, a < s.heap.size → ¬ A a) (hts : ∀ w ∈ lw_tbl, w.before #[Value.ref b] s = true) (hgv : (Jvm.Cond.and given_1 narrow_1).before #[Value.ref b] s = true) : ∃ a v : Nat, (vk_R "ClassGateModel" 139 "NestHost" a s ∧ va_O "java/lang/String" a A s s.heap) ∧ va_OF "java/lang/String" "coder" "B" (.int 0) a A s s.heap ∧ va_OF "java/lang/String" "value" "[B" (.ref v) a A s s.heap ∧ va_T .byte v (xe_lt 21).2.2.2.length (fun j => .int ((xe_lt 21).2.2.2.getD j 0)) A s s.heap := by
  have e0 : (Cond.exactly (Term.string "ClassGateModel" 139) "java/lang/String").before #[Value.ref b] s = true := fl_at hgv (i := 548) (by decide +kernel)
  obtain ⟨a0, -, -, -, z0, -⟩ := Cond.exactly_spec (args := #[Value.ref b]) (first := s) (o := none) (s := s) (idx := []) (t := (Term.string "ClassGateModel" 139)) (cls := "java/lang/String") e0
  have r0 : vk_R "ClassGateModel" 139 "NestHost" a0 s := vk_R.of (hts _ (tb_6 _ (List.mem_of_getElem? (i := 169) (by decide +kernel)))) z0
  have o0 : va_O "java/lang/String" a0 A s s.heap := va_Oof e0 z0 hA
  have p0 : (Cond.eq (.field (Term.string "ClassGateModel" 139) "java/lang/String" "coder" "B") (.int 0)).before #[Value.ref b] s = true := fl_at hgv (i := 549) (by decide +kernel)
  have q0 : (Cond.arrayOf (Term.field (Term.string "ClassGateModel" 139) "java/lang/String" "value" "[B") .byte).before #[Value.ref b] s = true := fl_at hgv (i := 550) (by decide +kernel)
  have l0 : (Cond.eq (.length (Term.field (Term.string "ClassGateModel" 139) "java/lang/String" "value" "[B")) (.int 8)).before #[Value.ref b] s = true := fl_at hgv (i := 551) (by decide +kernel)
  have hw : ∀ j : Nat, j < 8 → (flatC (Jvm.Cond.and given_1 narrow_1))[552 + j]? = some (Cond.eq (.elem (Term.field (Term.string "ClassGateModel" 139) "java/lang/String" "value" "[B") (.int (Int32.ofNat j))) (.int ((xe_lt 21).2.2.2.getD j 0))) := by decide +kernel
  obtain ⟨v0, y0, T0⟩ := va_Tof (tm := (Term.field (Term.string "ClassGateModel" 139) "java/lang/String" "value" "[B")) (ty := .byte) (N := 8) (f := fun j => .int ((xe_lt 21).2.2.2.getD j 0)) (A := A) (by decide) q0 (va_eqt l0) (fun j hj => va_eqt (fl_at hgv (hw j hj))) hA
  exact ⟨a0, v0, ⟨r0, o0⟩, vk_OFof z0 (va_eqt p0) hA, vk_OFof z0 y0 hA, T0⟩
set_option maxHeartbeats 8000000 in
set_option maxRecDepth 200000 in
theorem xs_22 {s : State} {b : Nat} {A : Nat → Prop} (hA : ∀ a : Nat, a < s.heap.size → ¬ A a) (hts : ∀ w ∈ lw_tbl, w.before #[Value.ref b] s = true) (hgv : (Jvm.Cond.and given_1 narrow_1).before #[Value.ref b] s = true) : ∃ a v : Nat, (vk_R "ClassGateModel" 141 "NestMembers" a s ∧ va_O "java/lang/String" a A s s.heap) ∧ va_OF "java/lang/String" "coder" "B" (.int 0) a A s s.heap ∧ va_OF "java/lang/String" "value" "[B" (.ref v) a A s s.heap ∧ va_T .byte v (xe_lt 22).2.2.2.length (fun j => .int ((xe_lt 22).2.2.2.getD j 0)) A s s.heap := by
  have e0 : (Cond.exactly (Term.string "ClassGateModel" 141) "java/lang/String").before #[Value.ref b] s = true := fl_at hgv (i := 561) (by decide +kernel)
  obtain ⟨a0, -, -, -, z0, -⟩ := Cond.exactly_spec (args := #[Value.ref b]) (first := s) (o := none) (s := s) (idx := []) (t := (Term.string "ClassGateModel" 141)) (cls := "java/lang/String") e0
  have r0 : vk_R "ClassGateModel" 141 "NestMembers" a0 s := vk_R.of (hts _ (tb_6 _ (List.mem_of_getElem? (i := 170) (by decide +kernel)))) z0
  have o0 : va_O "java/lang/String" a0 A s s.heap := va_Oof e0 z0 hA
  have p0 : (Cond.eq (.field (Term.string "ClassGateModel" 141) "java/lang/String" "coder" "B") (.int 0)).before #[Value.ref b] s = true := fl_at hgv (i := 562) (by decide +kernel)
  have q0 : (Cond.arrayOf (Term.field (Term.string "ClassGateModel" 141) "java/lang/String" "value" "[B") .byte).before #[Value.ref b] s = true := fl_at hgv (i := 563) (by decide +kernel)
  have l0 : (Cond.eq (.length (Term.field (Term.string "ClassGateModel" 141) "java/lang/String" "value" "[B")) (.int 11)).before #[Value.ref b] s = true := fl_at hgv (i := 564) (by decide +kernel)
  have hw : ∀ j : Nat, j < 11 → (flatC (Jvm.Cond.and given_1 narrow_1))[565 + j]? = some (Cond.eq (.elem (Term.field (Term.string "ClassGateModel" 141) "java/lang/String" "value" "[B") (.int (Int32.ofNat j))) (.int ((xe_lt 22).2.2.2.getD j 0))) := by decide +kernel
  obtain ⟨v0, y0, T0⟩ := va_Tof (tm := (Term.field (Term.string "ClassGateModel" 141) "java/lang/String" "value" "[B")) (ty := .byte) (N := 11) (f := fun j => .int ((xe_lt 22).2.2.2.getD j 0)) (A := A) (by decide) q0 (va_eqt l0) (fun j hj => va_eqt (fl_at hgv (hw j hj))) hA
  exact ⟨a0, v0, ⟨r0, o0⟩, vk_OFof z0 (va_eqt p0) hA, vk_OFof z0 y0 hA, T0⟩
set_option maxHeartbeats 8000000 in
set_option maxRecDepth 200000 in
theorem xs_23 {s : State} {b : Nat} {A : Nat → Prop} (hA : ∀ a : Nat, a < s.heap.size → ¬ A a) (hts : ∀ w ∈ lw_tbl, w.before #[Value.ref b] s = true) (hgv : (Jvm.Cond.and given_1 narrow_1).before #[Value.ref b] s = true) : ∃ a v : Nat, (vk_R "ClassGateModel" 143 "Record" a s ∧ va_O "java/lang/String" a A s s.heap) ∧ va_OF "java/lang/String" "coder" "B" (.int 0) a A s s.heap ∧ va_OF "java/lang/String" "value" "[B" (.ref v) a A s s.heap ∧ va_T .byte v (xe_lt 23).2.2.2.length (fun j => .int ((xe_lt 23).2.2.2.getD j 0)) A s s.heap := by
  have e0 : (Cond.exactly (Term.string "ClassGateModel" 143) "java/lang/String").before #[Value.ref b] s = true := fl_at hgv (i := 577) (by decide +kernel)
  obtain ⟨a0, -, -, -, z0, -⟩ := Cond.exactly_spec (args := #[Value.ref b]) (first := s) (o := none) (s := s) (idx := []) (t := (Term.string "ClassGateModel" 143)) (cls := "java/lang/String") e0
  have r0 : vk_R "ClassGateModel" 143 "Record" a0 s := vk_R.of (hts _ (tb_6 _ (List.mem_of_getElem? (i := 171) (by decide +kernel)))) z0
  have o0 : va_O "java/lang/String" a0 A s s.heap := va_Oof e0 z0 hA
  have p0 : (Cond.eq (.field (Term.string "ClassGateModel" 143) "java/lang/String" "coder" "B") (.int 0)).before #[Value.ref b] s = true := fl_at hgv (i := 578) (by decide +kernel)
  have q0 : (Cond.arrayOf (Term.field (Term.string "ClassGateModel" 143) "java/lang/String" "value" "[B") .byte).before #[Value.ref b] s = true := fl_at hgv (i := 579) (by decide +kernel)
  have l0 : (Cond.eq (.length (Term.field (Term.string "ClassGateModel" 143) "java/lang/String" "value" "[B")) (.int 6)).before #[Value.ref b] s = true := fl_at hgv (i := 580) (by decide +kernel)
  have hw : ∀ j : Nat, j < 6 → (flatC (Jvm.Cond.and given_1 narrow_1))[581 + j]? = some (Cond.eq (.elem (Term.field (Term.string "ClassGateModel" 143) "java/lang/String" "value" "[B") (.int (Int32.ofNat j))) (.int ((xe_lt 23).2.2.2.getD j 0))) := by decide +kernel
  obtain ⟨v0, y0, T0⟩ := va_Tof (tm := (Term.field (Term.string "ClassGateModel" 143) "java/lang/String" "value" "[B")) (ty := .byte) (N := 6) (f := fun j => .int ((xe_lt 23).2.2.2.getD j 0)) (A := A) (by decide) q0 (va_eqt l0) (fun j hj => va_eqt (fl_at hgv (hw j hj))) hA
  exact ⟨a0, v0, ⟨r0, o0⟩, vk_OFof z0 (va_eqt p0) hA, vk_OFof z0 y0 hA, T0⟩
set_option maxHeartbeats 8000000 in
set_option maxRecDepth 200000 in
theorem xs_24 {s : State} {b : Nat} {A : Nat → Prop} (hA : ∀ a : Nat, a < s.heap.size → ¬ A a) (hts : ∀ w ∈ lw_tbl, w.before #[Value.ref b] s = true) (hgv : (Jvm.Cond.and given_1 narrow_1).before #[Value.ref b] s = true) : ∃ a v : Nat, (vk_R "ClassGateModel" 145 "PermittedSubclasses" a s ∧ va_O "java/lang/String" a A s s.heap) ∧ va_OF "java/lang/String" "coder" "B" (.int 0) a A s s.heap ∧ va_OF "java/lang/String" "value" "[B" (.ref v) a A s s.heap ∧ va_T .byte v (xe_lt 24).2.2.2.length (fun j => .int ((xe_lt 24).2.2.2.getD j 0)) A s s.heap := by
  have e0 : (Cond.exactly (Term.string "ClassGateModel" 145) "java/lang/String").before #[Value.ref b] s = true := fl_at hgv (i := 588) (by decide +kernel)
  obtain ⟨a0, -, -, -, z0, -⟩ := Cond.exactly_spec (args := #[Value.ref b]) (first := s) (o := none) (s := s) (idx := []) (t := (Term.string "ClassGateModel" 145)) (cls := "java/lang/String") e0
  have r0 : vk_R "ClassGateModel" 145 "PermittedSubclasses" a0 s := vk_R.of (hts _ (tb_6 _ (List.mem_of_getElem? (i := 172) (by decide +kernel)))) z0
  have o0 : va_O "java/lang/String" a0 A s s.heap := va_Oof e0 z0 hA
  have p0 : (Cond.eq (.field (Term.string "ClassGateModel" 145) "java/lang/String" "coder" "B") (.int 0)).before #[Value.ref b] s = true := fl_at hgv (i := 589) (by decide +kernel)
  have q0 : (Cond.arrayOf (Term.field (Term.string "ClassGateModel" 145) "java/lang/String" "value" "[B") .byte).before #[Value.ref b] s = true := fl_at hgv (i := 590) (by decide +kernel)
  have l0 : (Cond.eq (.length (Term.field (Term.string "ClassGateModel" 145) "java/lang/String" "value" "[B")) (.int 19)).before #[Value.ref b] s = true := fl_at hgv (i := 591) (by decide +kernel)
  have hw : ∀ j : Nat, j < 19 → (flatC (Jvm.Cond.and given_1 narrow_1))[592 + j]? = some (Cond.eq (.elem (Term.field (Term.string "ClassGateModel" 145) "java/lang/String" "value" "[B") (.int (Int32.ofNat j))) (.int ((xe_lt 24).2.2.2.getD j 0))) := by decide +kernel
  obtain ⟨v0, y0, T0⟩ := va_Tof (tm := (Term.field (Term.string "ClassGateModel" 145) "java/lang/String" "value" "[B")) (ty := .byte) (N := 19) (f := fun j => .int ((xe_lt 24).2.2.2.getD j 0)) (A := A) (by decide) q0 (va_eqt l0) (fun j hj => va_eqt (fl_at hgv (hw j hj))) hA
  exact ⟨a0, v0, ⟨r0, o0⟩, vk_OFof z0 (va_eqt p0) hA, vk_OFof z0 y0 hA, T0⟩
set_option maxHeartbeats 8000000 in
set_option maxRecDepth 200000 in
theorem xs_25 {s : State} {b : Nat} {A : Nat → Prop} (hA : ∀ a : Nat, a < s.heap.size → ¬ A a) (hts : ∀ w ∈ lw_tbl, w.before #[Value.ref b] s = true) (hgv : (Jvm.Cond.and given_1 narrow_1).before #[Value.ref b] s = true) : ∃ a v : Nat, (vk_R "ClassGateModel" 178 "<init>" a s ∧ va_O "java/lang/String" a A s s.heap) ∧ va_OF "java/lang/String" "coder" "B" (.int 0) a A s s.heap ∧ va_OF "java/lang/String" "value" "[B" (.ref v) a A s s.heap ∧ va_T .byte v (xe_lt 25).2.2.2.length (fun j => .int ((xe_lt 25).2.2.2.getD j 0)) A s s.heap := by
  have e0 : (Cond.exactly (Term.string "ClassGateModel" 178) "java/lang/String").before #[Value.ref b] s = true := fl_at hgv (i := 612) (by decide +kernel)
  obtain ⟨a0, -, -, -, z0, -⟩ := Cond.exactly_spec (args := #[Value.ref b]) (first := s) (o := none) (s := s) (idx := []) (t := (Term.string "ClassGateModel" 178)) (cls := "java/lang/String") e0
  have r0 : vk_R "ClassGateModel" 178 "<init>" a0 s := vk_R.of (hts _ (tb_6 _ (List.mem_of_getElem? (i := 177) (by decide +kernel)))) z0
  have o0 : va_O "java/lang/String" a0 A s s.heap := va_Oof e0 z0 hA
  have p0 : (Cond.eq (.field (Term.string "ClassGateModel" 178) "java/lang/String" "coder" "B") (.int 0)).before #[Value.ref b] s = true := fl_at hgv (i := 613) (by decide +kernel)
  have q0 : (Cond.arrayOf (Term.field (Term.string "ClassGateModel" 178) "java/lang/String" "value" "[B") .byte).before #[Value.ref b] s = true := fl_at hgv (i := 614) (by decide +kernel)
  have l0 : (Cond.eq (.length (Term.field (Term.string "ClassGateModel" 178) "java/lang/String" "value" "[B")) (.int 6)).before #[Value.ref b] s = true := fl_at hgv (i := 615) (by decide +kernel)
  have hw : ∀ j : Nat, j < 6 → (flatC (Jvm.Cond.and given_1 narrow_1))[616 + j]? = some (Cond.eq (.elem (Term.field (Term.string "ClassGateModel" 178) "java/lang/String" "value" "[B") (.int (Int32.ofNat j))) (.int ((xe_lt 25).2.2.2.getD j 0))) := by decide +kernel
  obtain ⟨v0, y0, T0⟩ := va_Tof (tm := (Term.field (Term.string "ClassGateModel" 178) "java/lang/String" "value" "[B")) (ty := .byte) (N := 6) (f := fun j => .int ((xe_lt 25).2.2.2.getD j 0)) (A := A) (by decide) q0 (va_eqt l0) (fun j hj => va_eqt (fl_at hgv (hw j hj))) hA
  exact ⟨a0, v0, ⟨r0, o0⟩, vk_OFof z0 (va_eqt p0) hA, vk_OFof z0 y0 hA, T0⟩
set_option maxHeartbeats 8000000 in
set_option maxRecDepth 200000 in
theorem xs_26 {s : State} {b : Nat} {A : Nat → Prop} (hA : ∀ a : Nat, a < s.heap.size → ¬ A a) (hts : ∀ w ∈ lw_tbl, w.before #[Value.ref b] s = true) (hgv : (Jvm.Cond.and given_1 narrow_1).before #[Value.ref b] s = true) : ∃ a v : Nat, (vk_R "ClassGateModel" 186 "<clinit>" a s ∧ va_O "java/lang/String" a A s s.heap) ∧ va_OF "java/lang/String" "coder" "B" (.int 0) a A s s.heap ∧ va_OF "java/lang/String" "value" "[B" (.ref v) a A s s.heap ∧ va_T .byte v (xe_lt 26).2.2.2.length (fun j => .int ((xe_lt 26).2.2.2.getD j 0)) A s s.heap := by
  have e0 : (Cond.exactly (Term.string "ClassGateModel" 186) "java/lang/String").before #[Value.ref b] s = true := fl_at hgv (i := 624) (by decide +kernel)
  obtain ⟨a0, -, -, -, z0, -⟩ := Cond.exactly_spec (args := #[Value.ref b]) (first := s) (o := none) (s := s) (idx := []) (t := (Term.string "ClassGateModel" 186)) (cls := "java/lang/String") e0
  have r0 : vk_R "ClassGateModel" 186 "<clinit>" a0 s := vk_R.of (hts _ (tb_6 _ (List.mem_of_getElem? (i := 188) (by decide +kernel)))) z0
  have o0 : va_O "java/lang/String" a0 A s s.heap := va_Oof e0 z0 hA
  have p0 : (Cond.eq (.field (Term.string "ClassGateModel" 186) "java/lang/String" "coder" "B") (.int 0)).before #[Value.ref b] s = true := fl_at hgv (i := 625) (by decide +kernel)
  have q0 : (Cond.arrayOf (Term.field (Term.string "ClassGateModel" 186) "java/lang/String" "value" "[B") .byte).before #[Value.ref b] s = true := fl_at hgv (i := 626) (by decide +kernel)
  have l0 : (Cond.eq (.length (Term.field (Term.string "ClassGateModel" 186) "java/lang/String" "value" "[B")) (.int 8)).before #[Value.ref b] s = true := fl_at hgv (i := 627) (by decide +kernel)
  have hw : ∀ j : Nat, j < 8 → (flatC (Jvm.Cond.and given_1 narrow_1))[628 + j]? = some (Cond.eq (.elem (Term.field (Term.string "ClassGateModel" 186) "java/lang/String" "value" "[B") (.int (Int32.ofNat j))) (.int ((xe_lt 26).2.2.2.getD j 0))) := by decide +kernel
  obtain ⟨v0, y0, T0⟩ := va_Tof (tm := (Term.field (Term.string "ClassGateModel" 186) "java/lang/String" "value" "[B")) (ty := .byte) (N := 8) (f := fun j => .int ((xe_lt 26).2.2.2.getD j 0)) (A := A) (by decide) q0 (va_eqt l0) (fun j hj => va_eqt (fl_at hgv (hw j hj))) hA
  exact ⟨a0, v0, ⟨r0, o0⟩, vk_OFof z0 (va_eqt p0) hA, vk_OFof z0 y0 hA, T0⟩
set_option maxHeartbeats 8000000 in
set_option maxRecDepth 200000 in
theorem xs_27 {s : State} {b : Nat} {A : Nat → Prop} (hA : ∀ a : Nat, a < s.heap.size → ¬ A a) (hts : ∀ w ∈ lw_tbl, w.before #[Value.ref b] s = true) (hgv : (Jvm.Cond.and given_1 narrow_1).before #[Value.ref b] s = true) : ∃ a v : Nat, (vk_R "ClassGateModel" 191 "java/lang/Object" a s ∧ va_O "java/lang/String" a A s s.heap) ∧ va_OF "java/lang/String" "coder" "B" (.int 0) a A s s.heap ∧ va_OF "java/lang/String" "value" "[B" (.ref v) a A s s.heap ∧ va_T .byte v (xe_lt 27).2.2.2.length (fun j => .int ((xe_lt 27).2.2.2.getD j 0)) A s s.heap := by
  have e0 : (Cond.exactly (Term.string "ClassGateModel" 191) "java/lang/String").before #[Value.ref b] s = true := fl_at hgv (i := 637) (by decide +kernel)
  obtain ⟨a0, -, -, -, z0, -⟩ := Cond.exactly_spec (args := #[Value.ref b]) (first := s) (o := none) (s := s) (idx := []) (t := (Term.string "ClassGateModel" 191)) (cls := "java/lang/String") e0
  have r0 : vk_R "ClassGateModel" 191 "java/lang/Object" a0 s := vk_R.of (hts _ (tb_6 _ (List.mem_of_getElem? (i := 189) (by decide +kernel)))) z0
  have o0 : va_O "java/lang/String" a0 A s s.heap := va_Oof e0 z0 hA
  have p0 : (Cond.eq (.field (Term.string "ClassGateModel" 191) "java/lang/String" "coder" "B") (.int 0)).before #[Value.ref b] s = true := fl_at hgv (i := 638) (by decide +kernel)
  have q0 : (Cond.arrayOf (Term.field (Term.string "ClassGateModel" 191) "java/lang/String" "value" "[B") .byte).before #[Value.ref b] s = true := fl_at hgv (i := 639) (by decide +kernel)
  have l0 : (Cond.eq (.length (Term.field (Term.string "ClassGateModel" 191) "java/lang/String" "value" "[B")) (.int 16)).before #[Value.ref b] s = true := fl_at hgv (i := 640) (by decide +kernel)
  have hw : ∀ j : Nat, j < 16 → (flatC (Jvm.Cond.and given_1 narrow_1))[641 + j]? = some (Cond.eq (.elem (Term.field (Term.string "ClassGateModel" 191) "java/lang/String" "value" "[B") (.int (Int32.ofNat j))) (.int ((xe_lt 27).2.2.2.getD j 0))) := by decide +kernel
  obtain ⟨v0, y0, T0⟩ := va_Tof (tm := (Term.field (Term.string "ClassGateModel" 191) "java/lang/String" "value" "[B")) (ty := .byte) (N := 16) (f := fun j => .int ((xe_lt 27).2.2.2.getD j 0)) (A := A) (by decide) q0 (va_eqt l0) (fun j hj => va_eqt (fl_at hgv (hw j hj))) hA
  exact ⟨a0, v0, ⟨r0, o0⟩, vk_OFof z0 (va_eqt p0) hA, vk_OFof z0 y0 hA, T0⟩
set_option maxHeartbeats 8000000 in
set_option maxRecDepth 200000 in
theorem xs_28 {s : State} {b : Nat} {A : Nat → Prop} (hA : ∀ a : Nat, a < s.heap.size → ¬ A a) (hts : ∀ w ∈ lw_tbl, w.before #[Value.ref b] s = true) (hgv : (Jvm.Cond.and given_1 narrow_1).before #[Value.ref b] s = true) : ∃ a v : Nat, (vk_R "ClassGateModel" 383 "Ljava/lang/String;" a s ∧ va_O "java/lang/String" a A s s.heap) ∧ va_OF "java/lang/String" "coder" "B" (.int 0) a A s s.heap ∧ va_OF "java/lang/String" "value" "[B" (.ref v) a A s s.heap ∧ va_T .byte v (xe_lt 28).2.2.2.length (fun j => .int ((xe_lt 28).2.2.2.getD j 0)) A s s.heap := by
  have e0 : (Cond.exactly (Term.string "ClassGateModel" 383) "java/lang/String").before #[Value.ref b] s = true := fl_at hgv (i := 658) (by decide +kernel)
  obtain ⟨a0, -, -, -, z0, -⟩ := Cond.exactly_spec (args := #[Value.ref b]) (first := s) (o := none) (s := s) (idx := []) (t := (Term.string "ClassGateModel" 383)) (cls := "java/lang/String") e0
  have r0 : vk_R "ClassGateModel" 383 "Ljava/lang/String;" a0 s := vk_R.of (hts _ (tb_8 _ (List.mem_of_getElem? (i := 128) (by decide +kernel)))) z0
  have o0 : va_O "java/lang/String" a0 A s s.heap := va_Oof e0 z0 hA
  have p0 : (Cond.eq (.field (Term.string "ClassGateModel" 383) "java/lang/String" "coder" "B") (.int 0)).before #[Value.ref b] s = true := fl_at hgv (i := 659) (by decide +kernel)
  have q0 : (Cond.arrayOf (Term.field (Term.string "ClassGateModel" 383) "java/lang/String" "value" "[B") .byte).before #[Value.ref b] s = true := fl_at hgv (i := 660) (by decide +kernel)
  have l0 : (Cond.eq (.length (Term.field (Term.string "ClassGateModel" 383) "java/lang/String" "value" "[B")) (.int 18)).before #[Value.ref b] s = true := fl_at hgv (i := 661) (by decide +kernel)
  have hw : ∀ j : Nat, j < 18 → (flatC (Jvm.Cond.and given_1 narrow_1))[662 + j]? = some (Cond.eq (.elem (Term.field (Term.string "ClassGateModel" 383) "java/lang/String" "value" "[B") (.int (Int32.ofNat j))) (.int ((xe_lt 28).2.2.2.getD j 0))) := by decide +kernel
  obtain ⟨v0, y0, T0⟩ := va_Tof (tm := (Term.field (Term.string "ClassGateModel" 383) "java/lang/String" "value" "[B")) (ty := .byte) (N := 18) (f := fun j => .int ((xe_lt 28).2.2.2.getD j 0)) (A := A) (by decide) q0 (va_eqt l0) (fun j hj => va_eqt (fl_at hgv (hw j hj))) hA
  exact ⟨a0, v0, ⟨r0, o0⟩, vk_OFof z0 (va_eqt p0) hA, vk_OFof z0 y0 hA, T0⟩
end
section
/-! literals at the entry (laid by wip/p2/c95.py) -/
set_option maxHeartbeats 8000000 in
set_option maxRecDepth 200000 in
theorem xs_29 {s : State} {b : Nat} {A : Nat → Prop} (hA : ∀ a : Nat, a < s.heap.size → ¬ A a) (hts : ∀ w ∈ lw_tbl, w.before #[Value.ref b] s = true) (hgv : (Jvm.Cond.and given_1 narrow_1).before #[Value.ref b] s = true) : ∃ a v : Nat, (vk_R "ClassGateModel" 480 "1111111111111111232332222211111111111111111111111111112222211111111111111111111111111111111111111111111111111111111111111111111111113111111111111111111113333333333333333200111111333333355323113311043355" a s ∧ va_O "java/lang/String" a A s s.heap) ∧ va_OF "java/lang/String" "coder" "B" (.int 0) a A s s.heap ∧ va_OF "java/lang/String" "value" "[B" (.ref v) a A s s.heap ∧ va_T .byte v (xe_lt 29).2.2.2.length (fun j => .int ((xe_lt 29).2.2.2.getD j 0)) A s s.heap := by
  have e0 : (Cond.exactly (Term.string "ClassGateModel" 480) "java/lang/String").before #[Value.ref b] s = true := fl_at hgv (i := 681) (by decide +kernel)
  obtain ⟨a0, -, -, -, z0, -⟩ := Cond.exactly_spec (args := #[Value.ref b]) (first := s) (o := none) (s := s) (idx := []) (t := (Term.string "ClassGateModel" 480)) (cls := "java/lang/String") e0
  have r0 : vk_R "ClassGateModel" 480 "1111111111111111232332222211111111111111111111111111112222211111111111111111111111111111111111111111111111111111111111111111111111113111111111111111111113333333333333333200111111333333355323113311043355" a0 s := vk_R.of (hts _ (tb_8 _ (List.mem_of_getElem? (i := 223) (by decide +kernel)))) z0
  have o0 : va_O "java/lang/String" a0 A s s.heap := va_Oof e0 z0 hA
  have p0 : (Cond.eq (.field (Term.string "ClassGateModel" 480) "java/lang/String" "coder" "B") (.int 0)).before #[Value.ref b] s = true := fl_at hgv (i := 682) (by decide +kernel)
  have q0 : (Cond.arrayOf (Term.field (Term.string "ClassGateModel" 480) "java/lang/String" "value" "[B") .byte).before #[Value.ref b] s = true := fl_at hgv (i := 683) (by decide +kernel)
  have l0 : (Cond.eq (.length (Term.field (Term.string "ClassGateModel" 480) "java/lang/String" "value" "[B")) (.int 202)).before #[Value.ref b] s = true := fl_at hgv (i := 684) (by decide +kernel)
  have hw : ∀ j : Nat, j < 202 → (flatC (Jvm.Cond.and given_1 narrow_1))[685 + j]? = some (Cond.eq (.elem (Term.field (Term.string "ClassGateModel" 480) "java/lang/String" "value" "[B") (.int (Int32.ofNat j))) (.int ((xe_lt 29).2.2.2.getD j 0))) := by decide +kernel
  obtain ⟨v0, y0, T0⟩ := va_Tof (tm := (Term.field (Term.string "ClassGateModel" 480) "java/lang/String" "value" "[B")) (ty := .byte) (N := 202) (f := fun j => .int ((xe_lt 29).2.2.2.getD j 0)) (A := A) (by decide) q0 (va_eqt l0) (fun j hj => va_eqt (fl_at hgv (hw j hj))) hA
  exact ⟨a0, v0, ⟨r0, o0⟩, vk_OFof z0 (va_eqt p0) hA, vk_OFof z0 y0 hA, T0⟩
set_option maxHeartbeats 8000000 in
set_option maxRecDepth 200000 in
theorem xs_30 {s : State} {b : Nat} {A : Nat → Prop} (hA : ∀ a : Nat, a < s.heap.size → ¬ A a) (hts : ∀ w ∈ lw_tbl, w.before #[Value.ref b] s = true) (hgv : (Jvm.Cond.and given_1 narrow_1).before #[Value.ref b] s = true) : ∃ a v : Nat, (vk_R "ClassGate" 29 "more bytes than a file may have" a s ∧ va_O "java/lang/String" a A s s.heap) := by
  have e0 : (Cond.exactly (Term.string "ClassGate" 29) "java/lang/String").before #[Value.ref b] s = true := fl_at hgv (i := 269) (by decide +kernel)
  obtain ⟨a0, -, -, -, z0, -⟩ := Cond.exactly_spec (args := #[Value.ref b]) (first := s) (o := none) (s := s) (idx := []) (t := (Term.string "ClassGate" 29)) (cls := "java/lang/String") e0
  have r0 : vk_R "ClassGate" 29 "more bytes than a file may have" a0 s := vk_R.of (hts _ (tb_6 _ (List.mem_of_getElem? (i := 16) (by decide +kernel)))) z0
  have o0 : va_O "java/lang/String" a0 A s s.heap := va_Oof e0 z0 hA
  exact ⟨a0, 0, r0, o0⟩
set_option maxHeartbeats 8000000 in
set_option maxRecDepth 200000 in
theorem xs_31 {s : State} {b : Nat} {A : Nat → Prop} (hA : ∀ a : Nat, a < s.heap.size → ¬ A a) (hts : ∀ w ∈ lw_tbl, w.before #[Value.ref b] s = true) (hgv : (Jvm.Cond.and given_1 narrow_1).before #[Value.ref b] s = true) : ∃ a v : Nat, (vk_R "ClassGate" 46 "not so many bytes have come" a s ∧ va_O "java/lang/String" a A s s.heap) := by
  have e0 : (Cond.exactly (Term.string "ClassGate" 46) "java/lang/String").before #[Value.ref b] s = true := fl_at hgv (i := 304) (by decide +kernel)
  obtain ⟨a0, -, -, -, z0, -⟩ := Cond.exactly_spec (args := #[Value.ref b]) (first := s) (o := none) (s := s) (idx := []) (t := (Term.string "ClassGate" 46)) (cls := "java/lang/String") e0
  have r0 : vk_R "ClassGate" 46 "not so many bytes have come" a0 s := vk_R.of (hts _ (tb_6 _ (List.mem_of_getElem? (i := 77) (by decide +kernel)))) z0
  have o0 : va_O "java/lang/String" a0 A s s.heap := va_Oof e0 z0 hA
  exact ⟨a0, 0, r0, o0⟩
set_option maxHeartbeats 8000000 in
set_option maxRecDepth 200000 in
theorem xs_32 {s : State} {b : Nat} {A : Nat → Prop} (hA : ∀ a : Nat, a < s.heap.size → ¬ A a) (hts : ∀ w ∈ lw_tbl, w.before #[Value.ref b] s = true) (hgv : (Jvm.Cond.and given_1 narrow_1).before #[Value.ref b] s = true) : ∃ a v : Nat, (vk_R "ClassGate" 148 "no such count" a s ∧ va_O "java/lang/String" a A s s.heap) := by
  have e0 : (Cond.exactly (Term.string "ClassGate" 148) "java/lang/String").before #[Value.ref b] s = true := fl_at hgv (i := 335) (by decide +kernel)
  obtain ⟨a0, -, -, -, z0, -⟩ := Cond.exactly_spec (args := #[Value.ref b]) (first := s) (o := none) (s := s) (idx := []) (t := (Term.string "ClassGate" 148)) (cls := "java/lang/String") e0
  have r0 : vk_R "ClassGate" 148 "no such count" a0 s := vk_R.of (hts _ (tb_6 _ (List.mem_of_getElem? (i := 91) (by decide +kernel)))) z0
  have o0 : va_O "java/lang/String" a0 A s s.heap := va_Oof e0 z0 hA
  exact ⟨a0, 0, r0, o0⟩
set_option maxHeartbeats 8000000 in
set_option maxRecDepth 200000 in
theorem xs_33 {s : State} {b : Nat} {A : Nat → Prop} (hA : ∀ a : Nat, a < s.heap.size → ¬ A a) (hts : ∀ w ∈ lw_tbl, w.before #[Value.ref b] s = true) (hgv : (Jvm.Cond.and given_1 narrow_1).before #[Value.ref b] s = true) : ∃ a v : Nat, (vk_R "ClassGate" 154 "no such part" a s ∧ va_O "java/lang/String" a A s s.heap) := by
  have e0 : (Cond.exactly (Term.string "ClassGate" 154) "java/lang/String").before #[Value.ref b] s = true := fl_at hgv (i := 352) (by decide +kernel)
  obtain ⟨a0, -, -, -, z0, -⟩ := Cond.exactly_spec (args := #[Value.ref b]) (first := s) (o := none) (s := s) (idx := []) (t := (Term.string "ClassGate" 154)) (cls := "java/lang/String") e0
  have r0 : vk_R "ClassGate" 154 "no such part" a0 s := vk_R.of (hts _ (tb_6 _ (List.mem_of_getElem? (i := 107) (by decide +kernel)))) z0
  have o0 : va_O "java/lang/String" a0 A s s.heap := va_Oof e0 z0 hA
  exact ⟨a0, 0, r0, o0⟩
set_option maxHeartbeats 8000000 in
set_option maxRecDepth 200000 in
theorem xs_34 {s : State} {b : Nat} {A : Nat → Prop} (hA : ∀ a : Nat, a < s.heap.size → ¬ A a) (hts : ∀ w ∈ lw_tbl, w.before #[Value.ref b] s = true) (hgv : (Jvm.Cond.and given_1 narrow_1).before #[Value.ref b] s = true) : ∃ a v : Nat, (vk_R "ClassGate" 187 "no such thing of a member" a s ∧ va_O "java/lang/String" a A s s.heap) := by
  have e0 : (Cond.exactly (Term.string "ClassGate" 187) "java/lang/String").before #[Value.ref b] s = true := fl_at hgv (i := 368) (by decide +kernel)
  obtain ⟨a0, -, -, -, z0, -⟩ := Cond.exactly_spec (args := #[Value.ref b]) (first := s) (o := none) (s := s) (idx := []) (t := (Term.string "ClassGate" 187)) (cls := "java/lang/String") e0
  have r0 : vk_R "ClassGate" 187 "no such thing of a member" a0 s := vk_R.of (hts _ (tb_6 _ (List.mem_of_getElem? (i := 117) (by decide +kernel)))) z0
  have o0 : va_O "java/lang/String" a0 A s s.heap := va_Oof e0 z0 hA
  exact ⟨a0, 0, r0, o0⟩
set_option maxHeartbeats 8000000 in
set_option maxRecDepth 200000 in
theorem xs_35 {s : State} {b : Nat} {A : Nat → Prop} (hA : ∀ a : Nat, a < s.heap.size → ¬ A a) (hts : ∀ w ∈ lw_tbl, w.before #[Value.ref b] s = true) (hgv : (Jvm.Cond.and given_1 narrow_1).before #[Value.ref b] s = true) : ∃ a v : Nat, (vk_R "ClassGate" 209 "no such column" a s ∧ va_O "java/lang/String" a A s s.heap) := by
  have e0 : (Cond.exactly (Term.string "ClassGate" 209) "java/lang/String").before #[Value.ref b] s = true := fl_at hgv (i := 397) (by decide +kernel)
  obtain ⟨a0, -, -, -, z0, -⟩ := Cond.exactly_spec (args := #[Value.ref b]) (first := s) (o := none) (s := s) (idx := []) (t := (Term.string "ClassGate" 209)) (cls := "java/lang/String") e0
  have r0 : vk_R "ClassGate" 209 "no such column" a0 s := vk_R.of (hts _ (tb_6 _ (List.mem_of_getElem? (i := 133) (by decide +kernel)))) z0
  have o0 : va_O "java/lang/String" a0 A s s.heap := va_Oof e0 z0 hA
  exact ⟨a0, 0, r0, o0⟩
set_option maxHeartbeats 8000000 in
set_option maxRecDepth 200000 in
theorem xs_36 {s : State} {b : Nat} {A : Nat → Prop} (hA : ∀ a : Nat, a < s.heap.size → ¬ A a) (hts : ∀ w ∈ lw_tbl, w.before #[Value.ref b] s = true) (hgv : (Jvm.Cond.and given_1 narrow_1).before #[Value.ref b] s = true) : ∃ a v : Nat, (vk_R "ClassGate" 237 "no such thing of an instruction" a s ∧ va_O "java/lang/String" a A s s.heap) := by
  have e0 : (Cond.exactly (Term.string "ClassGate" 237) "java/lang/String").before #[Value.ref b] s = true := fl_at hgv (i := 415) (by decide +kernel)
  obtain ⟨a0, -, -, -, z0, -⟩ := Cond.exactly_spec (args := #[Value.ref b]) (first := s) (o := none) (s := s) (idx := []) (t := (Term.string "ClassGate" 237)) (cls := "java/lang/String") e0
  have r0 : vk_R "ClassGate" 237 "no such thing of an instruction" a0 s := vk_R.of (hts _ (tb_6 _ (List.mem_of_getElem? (i := 142) (by decide +kernel)))) z0
  have o0 : va_O "java/lang/String" a0 A s s.heap := va_Oof e0 z0 hA
  exact ⟨a0, 0, r0, o0⟩
end
section
/-! what holds at the law's entry (laid by wip/p2/c95.py) -/
theorem len_size {t : Term} {args : Array Value} {s : State} {a : Nat} (h : (Term.length t).eval args s none [] s = some (.int 0)) (ht : t.eval args s none [] s = some (.ref a)) : ∃ cell : Cell, s.heap[a]? = some cell ∧ cell.slots.size = 0 := by
  simp only [Term.eval, Option.bind_eq_bind] at h
  simp [ht] at h
  obtain ⟨cell, hcell, h⟩ := Option.bind_eq_some_iff.mp h
  refine ⟨cell, (State.arrayAt?_spec hcell).1, ?_⟩
  by_cases hn : cell.slots.size < 2147483648
  · rw [if_pos hn] at h
    have h2 := Value.int.inj (Option.some.inj h)
    have h3 := congrArg Int32.toInt h2
    rw [show cell.slots.size.toInt32 = Int32.ofNat cell.slots.size from rfl, Int32.toInt_ofNat_of_lt hn] at h3
    have h4 : (0 : Int32).toInt = 0 := rfl
    omega
  · rw [if_neg hn] at h
    cases h
set_option maxHeartbeats 8000000 in
set_option maxRecDepth 200000 in
theorem xe_start {s : State} {b : Nat} {A : Nat → Prop} (hA : ∀ a : Nat, a < s.heap.size → ¬ A a) (hts : ∀ w ∈ lw_tbl, w.before #[Value.ref b] s = true) (hgv : (Jvm.Cond.and given_1 narrow_1).before #[Value.ref b] s = true) : ∃ g : xe_G, xe_E g A s s.heap ∧ ∃ cell : Cell, s.heap[g.1]? = some cell ∧ cell.slots.size = 0 := by
  have n1 : (Cond.arrayOf (Term.static "ClassGate" "NO_BYTES" "[B") .byte).before #[Value.ref b] s = true := fl_at hgv (i := 5) (by decide +kernel)
  have n2 : (Cond.eq (.length (Term.static "ClassGate" "NO_BYTES" "[B")) (.int 0)).before #[Value.ref b] s = true := fl_at hgv (i := 6) (by decide +kernel)
  obtain ⟨nb, hnb, hT⟩ := va_Tof (tm := (Term.static "ClassGate" "NO_BYTES" "[B")) (ty := .byte) (N := 0) (f := fun _ => .null) (A := A) (by decide) n1 (va_eqt n2) (fun j hj => absurd hj (Nat.not_lt_zero j)) hA
  have hsz := len_size (va_eqt n2) hnb
  have hZ : va_Z "ClassGate" "NO_BYTES" "[B" (.ref nb) A s s.heap := va_Zref (hts _ (tb_1 _ (List.mem_of_getElem? (i := 36) (by decide +kernel)))) (hts _ (tb_1 _ (List.mem_of_getElem? (i := 1) (by decide +kernel)))) hnb hA
  have c1 : (Cond.eq (.static "java/lang/String" "COMPACT_STRINGS" "Z") (.int 1)).before #[Value.ref b] s = true := fl_at hgv (i := 7) (by decide +kernel)
  have hC : va_Z "java/lang/String" "COMPACT_STRINGS" "Z" (.int 1) A s s.heap := va_Zof (hts _ (tb_3 _ (List.mem_of_getElem? (i := 126) (by decide +kernel)))) (hts _ (tb_1 _ (List.mem_of_getElem? (i := 3) (by decide +kernel)))) (va_eqt c1) hA
  have s1 : (Cond.isRef (.static "jdk/internal/util/Preconditions" "SIOOBE_FORMATTER" "Ljava/util/function/BiFunction;")).before #[Value.ref b] s = true := fl_at hgv (i := 8) (by decide +kernel)
  have hF : va_Zq "jdk/internal/util/Preconditions" "SIOOBE_FORMATTER" "Ljava/util/function/BiFunction;" A s s.heap := va_Zqof (hts _ (tb_3 _ (List.mem_of_getElem? (i := 142) (by decide +kernel)))) (hts _ (tb_1 _ (List.mem_of_getElem? (i := 5) (by decide +kernel)))) s1 hA
  have tU : (Cond.isRef (.static "java/lang/Throwable" "UNASSIGNED_STACK" "[Ljava/lang/StackTraceElement;")).before #[Value.ref b] s = true := fl_at hgv (i := 12) (by decide +kernel)
  have hU : vx_Zq Bundle.tN "UNASSIGNED_STACK" Bundle.steD A s s.heap := vx_Zqof (hts _ (tb_6 _ (List.mem_of_getElem? (i := 3) (by decide +kernel)))) (hts _ (tb_1 _ (List.mem_of_getElem? (i := 7) (by decide +kernel)))) tU hA
  have tN : (Cond.isRef (.static "java/lang/Throwable" "SUPPRESSED_SENTINEL" "Ljava/util/List;")).before #[Value.ref b] s = true := fl_at hgv (i := 13) (by decide +kernel)
  have hN : vx_Zq Bundle.tN "SUPPRESSED_SENTINEL" Bundle.listD A s s.heap := vx_Zqof (hts _ (tb_6 _ (List.mem_of_getElem? (i := 5) (by decide +kernel)))) (hts _ (tb_1 _ (List.mem_of_getElem? (i := 7) (by decide +kernel)))) tN hA
  obtain ⟨a0, v0, w0⟩ := xs_0 hA hts hgv
  obtain ⟨a1, v1, w1⟩ := xs_1 hA hts hgv
  obtain ⟨a2, v2, w2⟩ := xs_2 hA hts hgv
  obtain ⟨a3, v3, w3⟩ := xs_3 hA hts hgv
  obtain ⟨a4, v4, w4⟩ := xs_4 hA hts hgv
  obtain ⟨a5, v5, w5⟩ := xs_5 hA hts hgv
  obtain ⟨a6, v6, w6⟩ := xs_6 hA hts hgv
  obtain ⟨a7, v7, w7⟩ := xs_7 hA hts hgv
  obtain ⟨a8, v8, w8⟩ := xs_8 hA hts hgv
  obtain ⟨a9, v9, w9⟩ := xs_9 hA hts hgv
  obtain ⟨a10, v10, w10⟩ := xs_10 hA hts hgv
  obtain ⟨a11, v11, w11⟩ := xs_11 hA hts hgv
  obtain ⟨a12, v12, w12⟩ := xs_12 hA hts hgv
  obtain ⟨a13, v13, w13⟩ := xs_13 hA hts hgv
  obtain ⟨a14, v14, w14⟩ := xs_14 hA hts hgv
  obtain ⟨a15, v15, w15⟩ := xs_15 hA hts hgv
  obtain ⟨a16, v16, w16⟩ := xs_16 hA hts hgv
  obtain ⟨a17, v17, w17⟩ := xs_17 hA hts hgv
  obtain ⟨a18, v18, w18⟩ := xs_18 hA hts hgv
  obtain ⟨a19, v19, w19⟩ := xs_19 hA hts hgv
  obtain ⟨a20, v20, w20⟩ := xs_20 hA hts hgv
  obtain ⟨a21, v21, w21⟩ := xs_21 hA hts hgv
  obtain ⟨a22, v22, w22⟩ := xs_22 hA hts hgv
  obtain ⟨a23, v23, w23⟩ := xs_23 hA hts hgv
  obtain ⟨a24, v24, w24⟩ := xs_24 hA hts hgv
  obtain ⟨a25, v25, w25⟩ := xs_25 hA hts hgv
  obtain ⟨a26, v26, w26⟩ := xs_26 hA hts hgv
  obtain ⟨a27, v27, w27⟩ := xs_27 hA hts hgv
  obtain ⟨a28, v28, w28⟩ := xs_28 hA hts hgv
  obtain ⟨a29, v29, w29⟩ := xs_29 hA hts hgv
  obtain ⟨a30, v30, w30⟩ := xs_30 hA hts hgv
  obtain ⟨a31, v31, w31⟩ := xs_31 hA hts hgv
  obtain ⟨a32, v32, w32⟩ := xs_32 hA hts hgv
  obtain ⟨a33, v33, w33⟩ := xs_33 hA hts hgv
  obtain ⟨a34, v34, w34⟩ := xs_34 hA hts hgv
  obtain ⟨a35, v35, w35⟩ := xs_35 hA hts hgv
  obtain ⟨a36, v36, w36⟩ := xs_36 hA hts hgv
  refine ⟨(nb, (fun k => [a0, a1, a2, a3, a4, a5, a6, a7, a8, a9, a10, a11, a12, a13, a14, a15, a16, a17, a18, a19, a20, a21, a22, a23, a24, a25, a26, a27, a28, a29, a30, a31, a32, a33, a34, a35, a36].getD k 0), (fun k => [v0, v1, v2, v3, v4, v5, v6, v7, v8, v9, v10, v11, v12, v13, v14, v15, v16, v17, v18, v19, v20, v21, v22, v23, v24, v25, v26, v27, v28, v29, v30, v31, v32, v33, v34, v35, v36].getD k 0)), ⟨hZ, hT, hC, hF, hU, hN, fun k hk => ?_, fun k hk => ?_, fun w hw => ?_, va_AO.of (hts _ (tb_1 _ (List.mem_of_getElem? (i := 120) (by decide +kernel)))), va_AO.of (hts _ (tb_6 _ (List.mem_of_getElem? (i := 162) (by decide +kernel))))⟩, hsz⟩
  · have hk : k < 37 := hk
    rcases (show k = 0 ∨ k = 1 ∨ k = 2 ∨ k = 3 ∨ k = 4 ∨ k = 5 ∨ k = 6 ∨ k = 7 ∨ k = 8 ∨ k = 9 ∨ k = 10 ∨ k = 11 ∨ k = 12 ∨ k = 13 ∨ k = 14 ∨ k = 15 ∨ k = 16 ∨ k = 17 ∨ k = 18 ∨ k = 19 ∨ k = 20 ∨ k = 21 ∨ k = 22 ∨ k = 23 ∨ k = 24 ∨ k = 25 ∨ k = 26 ∨ k = 27 ∨ k = 28 ∨ k = 29 ∨ k = 30 ∨ k = 31 ∨ k = 32 ∨ k = 33 ∨ k = 34 ∨ k = 35 ∨ k = 36 by omega) with rfl | rfl | rfl | rfl | rfl | rfl | rfl | rfl | rfl | rfl | rfl | rfl | rfl | rfl | rfl | rfl | rfl | rfl | rfl | rfl | rfl | rfl | rfl | rfl | rfl | rfl | rfl | rfl | rfl | rfl | rfl | rfl | rfl | rfl | rfl | rfl | rfl
    · exact w0.1
    · exact w1.1
    · exact w2.1
    · exact w3.1
    · exact w4.1
    · exact w5.1
    · exact w6.1
    · exact w7.1
    · exact w8.1
    · exact w9.1
    · exact w10.1
    · exact w11.1
    · exact w12.1
    · exact w13.1
    · exact w14.1
    · exact w15.1
    · exact w16.1
    · exact w17.1
    · exact w18.1
    · exact w19.1
    · exact w20.1
    · exact w21.1
    · exact w22.1
    · exact w23.1
    · exact w24.1
    · exact w25.1
    · exact w26.1
    · exact w27.1
    · exact w28.1
    · exact w29.1
    · exact w30
    · exact w31
    · exact w32
    · exact w33
    · exact w34
    · exact w35
    · exact w36
  · have hk : k < 30 := hk
    rcases (show k = 0 ∨ k = 1 ∨ k = 2 ∨ k = 3 ∨ k = 4 ∨ k = 5 ∨ k = 6 ∨ k = 7 ∨ k = 8 ∨ k = 9 ∨ k = 10 ∨ k = 11 ∨ k = 12 ∨ k = 13 ∨ k = 14 ∨ k = 15 ∨ k = 16 ∨ k = 17 ∨ k = 18 ∨ k = 19 ∨ k = 20 ∨ k = 21 ∨ k = 22 ∨ k = 23 ∨ k = 24 ∨ k = 25 ∨ k = 26 ∨ k = 27 ∨ k = 28 ∨ k = 29 by omega) with rfl | rfl | rfl | rfl | rfl | rfl | rfl | rfl | rfl | rfl | rfl | rfl | rfl | rfl | rfl | rfl | rfl | rfl | rfl | rfl | rfl | rfl | rfl | rfl | rfl | rfl | rfl | rfl | rfl | rfl
    · exact w0.2
    · exact w1.2
    · exact w2.2
    · exact w3.2
    · exact w4.2
    · exact w5.2
    · exact w6.2
    · exact w7.2
    · exact w8.2
    · exact w9.2
    · exact w10.2
    · exact w11.2
    · exact w12.2
    · exact w13.2
    · exact w14.2
    · exact w15.2
    · exact w16.2
    · exact w17.2
    · exact w18.2
    · exact w19.2
    · exact w20.2
    · exact w21.2
    · exact w22.2
    · exact w23.2
    · exact w24.2
    · exact w25.2
    · exact w26.2
    · exact w27.2
    · exact w28.2
    · exact w29.2
  · have hw2 := hw
    simp only [xe_nw, List.mem_cons, List.not_mem_nil, or_false] at hw2
    rcases hw2 with rfl | rfl | rfl | rfl
    · exact va_Nw.of (xe_on _ hw) (hts _ (tb_5 _ (List.mem_of_getElem? (i := 220) (by decide +kernel))))
    · exact va_Nw.of (xe_on _ hw) (hts _ (tb_5 _ (List.mem_of_getElem? (i := 222) (by decide +kernel))))
    · exact va_Nw.of (xe_on _ hw) (hts _ (tb_5 _ (List.mem_of_getElem? (i := 224) (by decide +kernel))))
    · exact va_Nw.of (xe_on _ hw) (hts _ (tb_6 _ (List.mem_of_getElem? (i := 70) (by decide +kernel))))
theorem iw_0 : ∀ w ∈ u_ws RX0 TX0 5, w ∈ lw_tbl := fun w h => bg_in w (bi_X0 w h)
theorem iw_1 : ∀ w ∈ u_ws RX1 TX1 1, w ∈ lw_tbl := fun w h => bg_in w (bi_X1 w h)
theorem iw_2 : ∀ w ∈ u_ws RX2 TX2 5, w ∈ lw_tbl := fun w h => bg_in w (bi_X2 w h)
theorem iw_3 : ∀ w ∈ u_ws RX3 TX3 17, w ∈ lw_tbl := fun w h => bg_in w (bi_X3 w h)
theorem iw_4 : ∀ w ∈ u_ws RX4 TX4 11, w ∈ lw_tbl := fun w h => bg_in w (bi_X4 w h)
theorem iw_5 : ∀ w ∈ u_ws RX5 TX5 12, w ∈ lw_tbl := fun w h => bg_in w (bi_X5 w h)
theorem iw_6 : ∀ w ∈ u_ws RX6 TX6 11, w ∈ lw_tbl := fun w h => bg_in w (bi_X6 w h)
theorem iw_7 : ∀ w ∈ u_ws RX7 TX7 8, w ∈ lw_tbl := fun w h => bg_in w (bi_X7 w h)
theorem iw_8 : ∀ w ∈ u_ws RX8 TX8 3, w ∈ lw_tbl := fun w h => bg_in w (bi_X8 w h)
theorem iw_9 : ∀ w ∈ u_ws RX9 TX9 5, w ∈ lw_tbl := fun w h => bg_in w (bi_X9 w h)
theorem iw_10 : ∀ w ∈ u_ws RX10 TX10 2, w ∈ lw_tbl := fun w h => bg_in w (bi_X10 w h)
theorem iw_11 : ∀ w ∈ u_ws RX11 TX11 5, w ∈ lw_tbl := fun w h => bg_in w (bi_X11 w h)
theorem iw_12 : ∀ w ∈ u_ws RX12 TX12 82, w ∈ lw_tbl := fun w h => bg_in w (bi_X12 w h)
set_option maxHeartbeats 4000000 in
set_option maxRecDepth 100000 in
theorem xe_classes {s : State} {b : Nat} (hts : ∀ w ∈ lw_tbl, w.before #[Value.ref b] s = true) : ∃ D : va_G, va_K D vwCl [] s := by
  obtain ⟨c0, i0, k0⟩ := u_known (C := RX0) (T := TX0) (N := 5) (n := 5) hts iw_0 (hts _ (tb_2 _ (List.mem_of_getElem? (i := 224) (by decide +kernel))))
  obtain ⟨c1, i1, k1⟩ := u_known (C := RX1) (T := TX1) (N := 1) (n := 1) hts iw_1 (hts _ (tb_1 _ (List.mem_of_getElem? (i := 61) (by decide +kernel))))
  obtain ⟨c2, i2, k2⟩ := u_known (C := RX2) (T := TX2) (N := 5) (n := 5) hts iw_2 (hts _ (tb_3 _ (List.mem_of_getElem? (i := 6) (by decide +kernel))))
  obtain ⟨c3, i3, k3⟩ := u_known (C := RX3) (T := TX3) (N := 17) (n := 17) hts iw_3 (hts _ (tb_1 _ (List.mem_of_getElem? (i := 59) (by decide +kernel))))
  obtain ⟨c4, i4, k4⟩ := u_known (C := RX4) (T := TX4) (N := 11) (n := 11) hts iw_4 (hts _ (tb_4 _ (List.mem_of_getElem? (i := 108) (by decide +kernel))))
  obtain ⟨c5, i5, k5⟩ := u_known (C := RX5) (T := TX5) (N := 12) (n := 12) hts iw_5 (hts _ (tb_4 _ (List.mem_of_getElem? (i := 116) (by decide +kernel))))
  obtain ⟨c6, i6, k6⟩ := u_known (C := RX6) (T := TX6) (N := 11) (n := 11) hts iw_6 (hts _ (tb_2 _ (List.mem_of_getElem? (i := 116) (by decide +kernel))))
  obtain ⟨c7, i7, k7⟩ := u_known (C := RX7) (T := TX7) (N := 8) (n := 8) hts iw_7 (hts _ (tb_1 _ (List.mem_of_getElem? (i := 75) (by decide +kernel))))
  obtain ⟨c8, i8, k8⟩ := u_known (C := RX8) (T := TX8) (N := 3) (n := 3) hts iw_8 (hts _ (tb_2 _ (List.mem_of_getElem? (i := 208) (by decide +kernel))))
  obtain ⟨c9, i9, k9⟩ := u_known (C := RX9) (T := TX9) (N := 5) (n := 5) hts iw_9 (hts _ (tb_1 _ (List.mem_of_getElem? (i := 229) (by decide +kernel))))
  obtain ⟨c10, i10, k10⟩ := u_known (C := RX10) (T := TX10) (N := 2) (n := 2) hts iw_10 (hts _ (tb_1 _ (List.mem_of_getElem? (i := 211) (by decide +kernel))))
  obtain ⟨c11, i11, k11⟩ := u_known (C := RX11) (T := TX11) (N := 5) (n := 5) hts iw_11 (hts _ (tb_1 _ (List.mem_of_getElem? (i := 28) (by decide +kernel))))
  obtain ⟨c12, i12, k12⟩ := u_known (C := RX12) (T := TX12) (N := 82) (n := 82) hts iw_12 (hts _ (tb_6 _ (List.mem_of_getElem? (i := 152) (by decide +kernel))))
  refine ⟨(fun k => match k with | 0 => c0 | 1 => c1 | 2 => c2 | 3 => c3 | 4 => c4 | 5 => c5 | 6 => c6 | 7 => c7 | 8 => c8 | 9 => c9 | 10 => c10 | 11 => c11 | _ => c12, fun k => match k with | 0 => i0 | 1 => i1 | 2 => i2 | 3 => i3 | 4 => i4 | 5 => i5 | 6 => i6 | 7 => i7 | 8 => i8 | 9 => i9 | 10 => i10 | 11 => i11 | _ => i12), ?_, fun k q h => by simp at h⟩
  intro k q hq
  match k, hq with
  | 0, hq => cases hq; exact k0
  | 1, hq => cases hq; exact k1
  | 2, hq => cases hq; exact k2
  | 3, hq => cases hq; exact k3
  | 4, hq => cases hq; exact k4
  | 5, hq => cases hq; exact k5
  | 6, hq => cases hq; exact k6
  | 7, hq => cases hq; exact k7
  | 8, hq => cases hq; exact k8
  | 9, hq => cases hq; exact k9
  | 10, hq => cases hq; exact k10
  | 11, hq => cases hq; exact k11
  | 12, hq => cases hq; exact k12
  | k + 13, hq => simp [vwCl] at hq
end
section
/-! the small heaps at the law's entry (my own text) -/
section LWS
variable {g : xe_G} {D : va_G} {A : Nat → Prop} {s : State} {H : Heap}
/-- literals (and the empty row): all that is known at the entry -/
def lH (g : xe_G) (p : Nat → Bool) (nb : Bool) (z : Nat) : mi_H := (fun a => if nb = true ∧ a = g.1 then some (ar .byte 0 (fun _ => 0)) else ((List.range 37).find? (fun k => p k && (g.2.1 k == a))).map (fun k => .inr (100 + k, fun _ => none)), z, 0)
def pC0 (k : Nat) : Bool := decide (k < 15)
def pR0 (k : Nat) : Bool := decide (15 ≤ k ∧ k < 30)
theorem lH_rel {p : Nat → Bool} {nb : Bool} {z : Nat} (hK : va_K D vwCl [] s) (hz : H.size = z) : mi_rel g D A s (lH g p nb z) H [] [] := by
  refine ⟨hK, fun k q h => by simp at h, ⟨fun i j p q h => by simp at h, fun k q h => by simp at h⟩, hz, fun a c hc => ?_, fun k a e h => by simp at h⟩
  unfold lH at hc
  dsimp only at hc
  split at hc
  · rename_i h1
    cases hc
    exact Or.inr (Or.inl ⟨h1.2, _, rfl⟩)
  · cases h5 : (List.range 37).find? (fun k => p k && (g.2.1 k == a)) with
    | none => rw [h5] at hc; cases hc
    | some k =>
      rw [h5] at hc
      cases hc
      have h6 : p k = true ∧ g.2.1 k = a := by simpa using List.find?_some h5
      exact Or.inr (Or.inr ⟨k, _, List.mem_range.mp (List.mem_of_find?_eq_some h5), h6.2.symm, rfl⟩)
theorem lH_c {z k : Nat} (hk : k < 15) (hn : g.2.1 k ≠ g.1) : ∃ f : Nat × (Nat → Option Value), (lH g pC0 true z).1 (g.2.1 k) = some (.inr (100 + f.1 % 30, f.2)) := by
  unfold lH
  dsimp only
  rw [if_neg (fun h => hn h.2)]
  cases h5 : (List.range 37).find? (fun j => pC0 j && (g.2.1 j == g.2.1 k)) with
  | none => exact absurd (by simp [pC0, hk] : (pC0 k && (g.2.1 k == g.2.1 k)) = true) (List.find?_eq_none.mp h5 k (List.mem_range.mpr (by omega)))
  | some j =>
    have h6 : pC0 j = true ∧ g.2.1 j = g.2.1 k := by simpa using List.find?_some h5
    have h7 : j < 15 := by simpa [pC0] using h6.1
    exact ⟨(j, fun _ => none), by show some _ = some _; rw [Nat.mod_eq_of_lt (show j < 30 by omega)]⟩
theorem lH_g {p : Nat → Bool} {z : Nat} : (lH g p true z).1 g.1 = some (ar .byte 0 (fun _ => 0)) := by
  unfold lH
  dsimp only
  rw [if_pos ⟨rfl, rfl⟩]
theorem lH_r {z k : Nat} (hk : rlk k) (hi : ∀ j k, rlk j → rlk k → g.2.1 j = g.2.1 k → j = k) : (lH g pR0 false z).1 (g.2.1 k) = some (.inr (100 + k, fun _ => none)) := by
  unfold lH
  dsimp only
  rw [if_neg (fun h => by cases h.1)]
  cases h5 : (List.range 37).find? (fun j => pR0 j && (g.2.1 j == g.2.1 k)) with
  | none => exact absurd (by simp [pR0, hk.1, hk.2] : (pR0 k && (g.2.1 k == g.2.1 k)) = true) (List.find?_eq_none.mp h5 k (List.mem_range.mpr (by have := hk.2; omega)))
  | some j =>
    have h6 : pR0 j = true ∧ g.2.1 j = g.2.1 k := by simpa using List.find?_some h5
    have h7 : 15 ≤ j ∧ j < 30 := by simpa [pR0] using h6.1
    rw [hi j k h7 hk h6.2]
    rfl
theorem lx_lt {k : Nat} (hE : xe_E g A s s.heap) (hk : k < 37) : g.2.1 k < s.heap.size := by
  obtain ⟨cell, h1, -⟩ := (hE.2.2.2.2.2.2.1 k hk).2
  exact (Array.getElem?_eq_some_iff.mp h1).1
theorem lx_nb (hE : xe_E g A s s.heap) : g.1 < s.heap.size := by
  obtain ⟨cell, h1, -⟩ := hE.2.1
  exact (Array.getElem?_eq_some_iff.mp h1).1
theorem lx_ne {k : Nat} (hE : xe_E g A s s.heap) (hk : k < 30) (hz : ∃ cell : Cell, s.heap[g.1]? = some cell ∧ cell.slots.size = 0) : g.2.1 k ≠ g.1 := by
  intro e
  obtain ⟨cell, h1, h2⟩ := hz
  obtain ⟨q1, q2, q3, q4, c2, -, -, h3, -, h4, -⟩ := (hE.2.2.2.2.2.2.2.1 k hk).1
  rw [e, h1] at h3
  cases h3
  have := (Array.getElem?_eq_some_iff.mp h4).1
  omega
theorem lx_len : ∀ k, k < 30 → (xe_lt k).2.2.2.length ≤ 300 := by decide +kernel
theorem lx_tab : ∀ j, j < 30 → ∀ k, k < 30 → 15 ≤ j → 15 ≤ k → (xe_lt j).2.2.2 = (xe_lt k).2.2.2 → j = k := by decide +kernel
theorem lx_txt (hE : xe_E g A s s.heap) (j k : Nat) (hj : j < 30) (hk : k < 30) (e : g.2.1 j = g.2.1 k) : (xe_lt j).2.2.2 = (xe_lt k).2.2.2 := by
  obtain ⟨-, vj, tj⟩ := hE.2.2.2.2.2.2.2.1 j hj
  obtain ⟨-, vk, tk⟩ := hE.2.2.2.2.2.2.2.1 k hk
  obtain ⟨cf, kc, i, f, cell, a1, a2, a3, a4, a5, -⟩ := vj
  obtain ⟨cf', kc', i', f', cell', b1, b2, b3, b4, b5, -⟩ := vk
  rw [a1] at b1
  cases b1
  rw [e, b3] at a3
  cases a3
  rw [a5] at b5
  have e2 : g.2.2 j = g.2.2 k := by
    have := Option.some.inj b5
    exact Value.ref.inj this
  obtain ⟨cl, c1, c2, c3, c4, c5, c6, -⟩ := tj
  obtain ⟨cl', d1, d2, d3, d4, d5, d6, -⟩ := tk
  rw [e2, d1] at c1
  cases c1
  have l1 := lx_len j hj
  have l2 := lx_len k hk
  have hlen : (xe_lt j).2.2.2.length = (xe_lt k).2.2.2.length := by
    have h1 := congrArg Int32.toInt (c5.symm.trans d5)
    rw [Int32.toInt_ofNat_of_lt (by omega), Int32.toInt_ofNat_of_lt (by omega)] at h1
    omega
  refine List.ext_getElem hlen (fun i h1 h2 => ?_)
  have h3 := c6 i h1
  rw [d6 i h2] at h3
  have h4 := Value.int.inj (Option.some.inj h3)
  simp only [List.getD_eq_getElem?_getD, List.getElem?_eq_getElem h1, List.getElem?_eq_getElem h2, Option.getD_some] at h4
  exact h4.symm
theorem lx_inj (hE : xe_E g A s s.heap) (j k : Nat) (hj : rlk j) (hk : rlk k) (e : g.2.1 j = g.2.1 k) : j = k := lx_tab j hj.2 k hk.2 hj.1 hk.1 (lx_txt hE j k hj.2 hk.2 e)
/-- the new class -/
theorem lH_t {z k : Nat} (hE : xe_E g A s s.heap) (hk : k < 15) (hn : g.2.1 k ≠ g.1) : ∃ (k' : Nat) (fl : Nat → Option Value), k' < 30 ∧ (lH g pC0 true z).1 (g.2.1 k) = some (.inr (100 + k', fl)) ∧ (xe_lt k').2.2.2 = (xe_lt k).2.2.2 := by
  unfold lH
  dsimp only
  rw [if_neg (fun h => hn h.2)]
  cases h5 : (List.range 37).find? (fun j => pC0 j && (g.2.1 j == g.2.1 k)) with
  | none => exact absurd (by simp [pC0, hk] : (pC0 k && (g.2.1 k == g.2.1 k)) = true) (List.find?_eq_none.mp h5 k (List.mem_range.mpr (by omega)))
  | some j =>
    have h6 : pC0 j = true ∧ g.2.1 j = g.2.1 k := by simpa using List.find?_some h5
    have h7 : j < 15 := by simpa [pC0] using h6.1
    exact ⟨j, fun _ => none, by omega, rfl, lx_txt hE j k (by omega) (by omega) h6.2⟩
theorem gate0 {z : Nat} {M1 M' : mi_H} (hz : s.heap.size = z) (hE : xe_E g A s s.heap) (hsz : ∃ cell : Cell, s.heap[g.1]? = some cell ∧ cell.slots.size = 0) (hM1 : ∀ a, a ≠ z → M1.1 a = (lH g pC0 true z).1 a)
    (h1 : M'.1 z = some (ob 11 [.ref (z + 1), .int 0, .ref g.1, .null, .int (-1)])) (h2 : M'.1 (z + 1) = some (ar .byte 1024 (fun _ => 0))) (h3 : ∀ a, a ≠ z → a ≠ z + 1 → M'.1 a = M1.1 a) (h4 : M'.2.1 = z + 2) : GATX g z (0, fun _ => 0, fun _ => 0, 0, -1, none) 0 2048 M' := by
  have hg := lx_nb hE
  have hk : ∀ a, a < z → M'.1 a = (lH g pC0 true z).1 a := fun a ha => (h3 a (by omega) (by omega)).trans (hM1 a (by omega))
  have hgne : z + 1 ≠ g.1 := by omega
  have e1 : z ≠ g.1 := by omega
  refine ⟨(fun a => if a = g.1 then some (24, [0]) else none, fun _ _ => 0), z + 1, g.1, .null, fun _ => 0, 1024, 0, 0, fun k hk2 => ?_, ⟨fun a k ps ha => ?_, fun a t ha => ?_, fun k hk2 => ?_⟩, h1, if_neg e1, by omega, fun i hi => ?_, if_pos rfl, ⟨h2, if_neg hgne, by omega, fun _ => rfl, fun i hi => absurd hi (Nat.not_lt_zero i)⟩, ⟨if_pos rfl, Or.inl rfl⟩, Or.inl rfl, rfl, by decide⟩
  · have hl := lx_lt hE (show k < 37 by omega)
    obtain ⟨k', fl, a1, a2, a3⟩ := lH_t (z := z) hE hk2 (lx_ne hE (by omega) hsz)
    exact ⟨by omega, k', fl, a1, (hk _ (by omega)).trans a2, a3⟩
  · dsimp only at ha
    split at ha
    · rename_i e
      cases ha
      subst e
      exact Or.inr (Or.inl ⟨0, [], rfl, .byte, fun _ => 0, rfl, (hk g.1 (by omega)).trans lH_g, by decide, (fun h => absurd h (by decide)), (fun _ => ⟨rfl, fun _ => rfl⟩), (fun h => absurd h (by decide))⟩)
    · cases ha
  · dsimp only at ha
    split at ha
    · omega
    · cases ha
  · have hl := lx_lt hE (show k < 37 by omega)
    obtain ⟨f, hf⟩ := lH_c (z := z) hk2 (lx_ne hE (by omega) hsz)
    exact ⟨by omega, f, (hk _ (by omega)).trans hf⟩
  · have hl := lx_lt hE (show i < 37 by omega)
    omega
theorem lw_new {p : Program} {l : Launch} {e : Env} {R : Room} {m : MethodId} {args : Array Value} {below : List Frame} {meth : Method} {c : Code} {locs : List Loc} {cells slots : Nat} {Q : State → Prop} {pc : Nat} {ls : Array Slot} {rest : List Value} {own : String} {cc : ByteArray} {ci i N : Nat} {C : String} {T : u_T} {ty : Nat → FieldType} {ds : List Value} {M : mi_H} {ws : va_W} {tys : List (ClassId × FieldType)}
    (hci : ci < 100) (hc0 : vwCl[ci]? = some (C, T, N)) (hin : ∀ w ∈ u_ws C T N, w ∈ bg) (hty : ∀ k, k < N → parseFieldDescriptor (T k).2.2.1 = some (ty k)) (hcl : Cond.classLink own i C ∈ bg) (hin9 : Cond.instantiable C N ∈ bg) (hi9 : Cond.initialized C ∈ bg) (hfs : ∀ j, j < N → defaultValue (ty j) = vp_V ds j) (hdl : ds.length = N) (hd : decode cc pc = .ok (.new i, 3))
    (hx : p.tables.exec = Jvm.exec) (hb : c.code = cc) (hown : s.vm.findClass own = some m.cls) (htb : ∀ w ∈ bg, w.before args s = true) (hA : ∀ q : Nat, s.heap.size ≤ q → A q) (hE : xe_E g A s s.heap) (hr : mi_rel g D A s M H ws tys) (hS : va_S A s.heap H locs) (hc : cells + 1 ≤ R.cells) (hs : slots + N ≤ R.slots)
    (kk : ∀ H1 : Heap, mi_rel g D A s (va_up M.1 M.2.1 (some (.inr (ci, fun k => ds[k]?))), M.2.1 + 1, M.2.2 + N) H1 (ws ++ [(H.size, .inr (ci, ds))]) (tys ++ []) → H1.size = H.size + 1 → (∀ q : Nat, q < H.size → H1[q]? = H[q]?) → va_S A s.heap H1 locs → W p l e R s m args below meth c H1 locs (cells + 1) (slots + N) Q (F0 m (pc + 3) ls (.ref H.size :: rest))) : W p l e R s m args below meth c H locs cells slots Q (F0 m pc ls rest) := by
  have hKn := hr.1.1 ci _ hc0
  refine W.newcK hx hb hown (htb _ hcl) (htb _ hin9) (htb _ hi9) rfl hd hc hs hKn.2.1 rfl fun H1 kC hkC e1 z1 o1 => ?_
  refine kk H1 ?_ z1 o1 ⟨Nat.le_trans hS.1 (by omega), fun x h1 h2 => (o1 x (Nat.lt_of_lt_of_le h1 hS.1)).trans (hS.2.1 x h1 h2), hS.2.2⟩
  refine hr.push N (hA _ hS.1) (by rw [List.append_nil]; exact hr.1) ⟨mi_fresh hE hS, fun o9 h9 => by cases h9; exact hci⟩ ⟨ds, rfl, ?_, fun k v hv => hv⟩ ⟨_, hc0, (u_born ty htb hin hKn hkC e1 hty).to hfs⟩ z1 o1
  unfold mi_n
  rw [hc0]
  exact hdl
end LWS
end
section
/-! the law's loop, its beginning (laid by wip/p2/c96.py) -/
theorem dl_0 : decode cL_law 0 = .ok (.new 8, 3) := by decide +kernel
theorem dl_3 : decode cL_law 3 = .ok (.dup, 1) := by decide +kernel
theorem dl_4 : decode cL_law 4 = .ok (.invokespecial 39, 3) := by decide +kernel
theorem dl_7 : decode cL_law 7 = .ok (.astore_n 1, 1) := by decide +kernel
theorem dl_8 : decode cL_law 8 = .ok (.new 40, 3) := by decide +kernel
theorem dl_11 : decode cL_law 11 = .ok (.dup, 1) := by decide +kernel
theorem dl_12 : decode cL_law 12 = .ok (.invokespecial 42, 3) := by decide +kernel
theorem dl_15 : decode cL_law 15 = .ok (.astore_n 2, 1) := by decide +kernel
theorem dl_16 : decode cL_law 16 = .ok (.iconst 1, 1) := by decide +kernel
theorem dl_17 : decode cL_law 17 = .ok (.newarray .long, 2) := by decide +kernel
theorem dl_19 : decode cL_law 19 = .ok (.astore_n 3, 1) := by decide +kernel
theorem dl_20 : decode cL_law 20 = .ok (.iconst 0, 1) := by decide +kernel
theorem dl_21 : decode cL_law 21 = .ok (.istore 4, 2) := by decide +kernel
theorem dl_23 : decode cL_law 23 = .ok (.iload 4, 2) := by decide +kernel
theorem dl_25 : decode cL_law 25 = .ok (.aload_n 0, 1) := by decide +kernel
theorem dl_26 : decode cL_law 26 = .ok (.arraylength, 1) := by decide +kernel
theorem dl_27 : decode cL_law 27 = .ok (.bipush 6, 2) := by decide +kernel
theorem dl_29 : decode cL_law 29 = .ok (.isub, 1) := by decide +kernel
theorem dl_30 : decode cL_law 30 = .ok (.if_icmp .gt 757, 3) := by decide +kernel
theorem dl_33 : decode cL_law 33 = .ok (.aload_n 0, 1) := by decide +kernel
theorem dl_34 : decode cL_law 34 = .ok (.iload 4, 2) := by decide +kernel
theorem dl_36 : decode cL_law 36 = .ok (.iaload, 1) := by decide +kernel
theorem dl_37 : decode cL_law 37 = .ok (.bipush 15, 2) := by decide +kernel
theorem dl_39 : decode cL_law 39 = .ok (.iand, 1) := by decide +kernel
theorem dl_40 : decode cL_law 40 = .ok (.tableswitch 741 0 15 #[80, 156, 184, 197, 210, 238, 278, 303, 340, 365, 433, 498, 550, 587, 612, 664], 80) := by decide +kernel
theorem dl_781 : decode cL_law 781 = .ok (.iinc 4 6, 3) := by decide +kernel
theorem dl_784 : decode cL_law 784 = .ok (.goto (-761), 3) := by decide +kernel
theorem dl_787 : decode cL_law 787 = .ok (.iconst 1, 1) := by decide +kernel
theorem dl_788 : decode cL_law 788 = .ok (.ireturn, 1) := by decide +kernel
section LWE
variable {p : Program} {l : Launch} {e : Env} {s : State} {m : MethodId} {below : List Frame} {meth : Method} {c : Code} {A : Nat → Prop} {b L : Nat} {xs : Nat → Int32} {D : va_G} {g : xe_G} {x m0 qo : Nat} {aO : ClassId} {q : Nat → Nat} {kr : rR} {Ic : rI} {Rc : rR}
theorem lq_max : ∀ a, a < 513 → a * (512 - a) ≤ 65536 := by decide +kernel
theorem lq_le {a j : Nat} (h : a ≤ j) (hj : j ≤ 512) : a * (j - a) ≤ 65536 := Nat.le_trans (Nat.mul_le_mul_left a (by omega)) (lq_max a (by omega))
theorem lq_feed {a j : Nat} : a * (j - a) ≤ (a + 1) * (j + 1 - (a + 1)) := by
  rw [show j + 1 - (a + 1) = j - a by omega]
  exact Nat.mul_le_mul_right _ (Nat.le_succ _)
theorem lq_other {a j : Nat} (h : a ≤ j) : a * (j + 1 - a) = a * (j - a) + a := by
  rw [show j + 1 - a = (j - a) + 1 by omega, Nat.mul_succ]
theorem vp_nI {a L : Nat} (h : a < L) (hL : L ≤ 3072) : vp_in (nI a) L := by
  unfold vp_in
  rintro (h1 | h1)
  · have h2 := Int32.lt_iff_toInt_lt.mp h1
    rw [nI_val (by omega)] at h2
    have h4 : (0 : Int32).toInt = 0 := rfl
    omega
  · rw [nI_toNat (by omega)] at h1
    omega

theorem lw_more {L j : Nat} (hL : L ≤ 3072) (hj : j ≤ 512) (h : ¬ nI (6 * j) > Int32.ofNat L - 6) : 6 * j + 6 ≤ L := by
  have h1 := Int32.le_iff_toInt_le.mp (Int32.not_lt.mp h)
  rw [nI_val (by omega)] at h1
  have e : (Int32.ofNat L - 6).toInt = (L : Int) - 6 := by
    rw [Int32.toInt_sub, Int32.toInt_ofNat_of_lt (by omega)]
    show ((L : Int) - 6).bmod (2 ^ 32) = _
    exact Int.bmod_eq_of_le (by omega) (by omega)
  rw [e] at h1
  omega
set_option maxHeartbeats 4000000 in
set_option maxRecDepth 100000 in
theorem law_loop (hx : p.tables.exec = Jvm.exec) (hb : c.code = cL_law) (hr : meth.sig.returnType = ret) (hml : c.maxLocals = 7) (hlocks : meth.locks = false) (hown : s.vm.findClass RL = some m.cls) (htb : ∀ w ∈ bg, w.before #[Value.ref b] s = true) (hAe : A = fun q : Nat => s.heap.size ≤ q) (hA : ∀ q : Nat, s.heap.size ≤ q → A q) (hE : xe_E g A s s.heap) (hnt : l.stackTraces = false) (hX : va_X b L xs s s.heap) (hbl : b < s.heap.size) (hbA : ¬ A b) (hKo : va_K D vwCl [(aO, .long)] s) (hAo : A qo) (hL : L ≤ 3072) : ∀ (n j : Nat) (cc : GH) (fed P : Nat) (fo : Nat → Int64) (H : Heap) (locs : List Loc) (ls : Array Slot) (cells slots : Nat), L ≤ 6 * (j + n) + 5 → fed ≤ j → j ≤ 512 → cells ≤ 100 + 30 * j + P → slots ≤ 900000 + 70 * j + P + 40 * (fed * (j - fed)) → L3 g D A s x m0 q kr Ic Rc qo aO mT1 cc cc fed P fo H → va_S A s.heap H locs → lv_has ls 7 [(0, .ref b), (1, .ref x), (2, .ref m0), (3, .ref qo), (4, .int (nI (6 * j)))] → W p l e room_1 s m #[Value.ref b] below meth c H locs cells slots (lw_Z below #[Value.ref b] s) (F0 m 23 ls []) := by
  intro n
  induction n with
  | zero =>
    intro j cc fed P fo H locs ls cells slots hn hf hj hc hs h3 hS hl
    have hq := lq_le hf hj
    have hpt := h3.pot
    refine lv_iload hx hb dl_23 (lv_at hl 4 rfl) ?_
    refine lv_aload_n hx hb dl_25 rfl (lv_at hl 0 rfl) ?_
    refine va_slen hx hb hX hbl hbA hS dl_26 ?_
    refine lv_bipush (v := 6) hx hb dl_27 (by decide) ?_
    refine lv_isub hx hb dl_29 ?_
    refine lv_icmp_gt (tgt := 787) hx hb dl_30 (by decide) (fun _ => ?_) (fun c30 => ?_)
    · refine lv_iconst (v := 1) hx hb dl_787 (by decide) ?_
      refine va_forget (fun q hq => by have h := hS.2.2 q hq; rw [hAe] at h; exact h) ?_
      refine W.widen (k := 601024) (n := 7293034) (by omega) (by omega) ?_
      exact lw_ret hx hb hr hlocks dl_788
    · have h6 : 6 * j + 6 ≤ L := lw_more hL hj c30
      omega
  | succ n ih =>
    intro j cc fed P fo H locs ls cells slots hn hf hj hc hs h3 hS hl
    have hq := lq_le hf hj
    have hpt := h3.pot
    refine lv_iload hx hb dl_23 (lv_at hl 4 rfl) ?_
    refine lv_aload_n hx hb dl_25 rfl (lv_at hl 0 rfl) ?_
    refine va_slen hx hb hX hbl hbA hS dl_26 ?_
    refine lv_bipush (v := 6) hx hb dl_27 (by decide) ?_
    refine lv_isub hx hb dl_29 ?_
    refine lv_icmp_gt (tgt := 787) hx hb dl_30 (by decide) (fun _ => ?_) (fun c30 => ?_)
    · refine lv_iconst (v := 1) hx hb dl_787 (by decide) ?_
      refine va_forget (fun q hq => by have h := hS.2.2 q hq; rw [hAe] at h; exact h) ?_
      refine W.widen (k := 601024) (n := 7293034) (by omega) (by omega) ?_
      exact lw_ret hx hb hr hlocks dl_788
    · have h6 : 6 * j + 6 ≤ L := lw_more hL hj c30
      have hi1 : vp_in (nI (6 * j) + 1) L := by rw [nI_plus (j := 1) rfl (by omega)]; exact vp_nI (by omega) hL
      have hi2 : vp_in (nI (6 * j) + 2) L := by rw [nI_plus (j := 2) rfl (by omega)]; exact vp_nI (by omega) hL
      have hi3 : vp_in (nI (6 * j) + 3) L := by rw [nI_plus (j := 3) rfl (by omega)]; exact vp_nI (by omega) hL
      have hi4 : vp_in (nI (6 * j) + 4) L := by rw [nI_plus (j := 4) rfl (by omega)]; exact vp_nI (by omega) hL
      have hi5 : vp_in (nI (6 * j) + 5) L := by rw [nI_plus (j := 5) rfl (by omega)]; exact vp_nI (by omega) hL
      refine lv_aload_n hx hb dl_33 rfl (lv_at hl 0 rfl) ?_
      refine lv_iload hx hb dl_34 (lv_at hl 4 rfl) ?_
      refine va_sld hx hb hX hbl hbA hS (vp_nI (by omega) hL) dl_36 ?_
      refine lv_bipush (v := 15) hx hb dl_37 (by decide) ?_
      refine lv_iand hx hb dl_39 ?_
      have go : ∀ (P1 : Nat) (cc1 : GH) (fed1 c1 s1 : Nat) (fo1 : Nat → Int64) (H1 : Heap) (locs1 : List Loc) (ls1 : Array Slot), fed1 ≤ j + 1 → c1 ≤ 100 + 30 * (j + 1) + P1 → s1 ≤ 900000 + 70 * (j + 1) + P1 + 40 * (fed1 * (j + 1 - fed1)) → L3 g D A s x m0 q kr Ic Rc qo aO mT1 cc1 cc1 fed1 P1 fo1 H1 → va_S A s.heap H1 locs1 → lv_has ls1 7 [(0, .ref b), (1, .ref x), (2, .ref m0), (3, .ref qo), (4, .int (nI (6 * j)))] → W p l e room_1 s m #[Value.ref b] below meth c H1 locs1 c1 s1 (lw_Z below #[Value.ref b] s) (F0 m 781 ls1 []) := by
        intro P1 cc1 fed1 c1 s1 fo1 H1 locs1 ls1 k1 k2 k3 k4 k5 hl
        refine lv_iinc (v := nI (6 * (j + 1))) (lv' := [(4, .int (nI (6 * (j + 1)))), (0, .ref b), (1, .ref x), (2, .ref m0), (3, .ref qo)]) hx hb dl_781 hl (k := 4) rfl (by rw [show 6 * (j + 1) = 6 * j + 6 by omega]; exact nI_plus (j := 6) rfl (by omega)) (by decide) rfl (fun ls hl => ?_)
        refine lv_goto (tgt := 23) hx hb dl_784 (by decide) ?_
        exact ih (j + 1) cc1 fed1 P1 fo1 H1 locs1 ls c1 s1 (by omega) k1 (by omega) k2 k3 k4 k5 (lv_sub hl [1, 2, 3, 4, 0] rfl)
      have gn : ∀ (P1 : Nat) (cc1 : GH) (fo1 : Nat → Int64) (H1 : Heap) (locs1 : List Loc) (ls1 : Array Slot), P ≤ P1 → L3 g D A s x m0 q kr Ic Rc qo aO mT1 cc1 cc1 fed P1 fo1 H1 → va_S A s.heap H1 locs1 → lv_has ls1 7 [(0, .ref b), (1, .ref x), (2, .ref m0), (3, .ref qo), (4, .int (nI (6 * j)))] → W p l e room_1 s m #[Value.ref b] below meth c H1 locs1 (cells + (P1 - P) + 26) (slots + (P1 - P) + (64 + 40 * fed)) (lw_Z below #[Value.ref b] s) (F0 m 781 ls1 []) := fun P1 cc1 fo1 H1 locs1 ls1 k1 k2 k3 k4 => go P1 cc1 fed _ _ fo1 H1 locs1 ls1 (by omega) (by omega) (by rw [lq_other hf]; omega) k2 k3 k4
      obtain ⟨jj, hjj, ej⟩ := pk_andE (xs (Int32.toNatClampNeg (nI (6 * j)))) (m := 15) 4 (by decide)
      refine lv_topi (fun x_40 ex_40 => ?_)
      rw [ej] at ex_40
      subst ex_40
      rcases (show jj = 0 ∨ jj = 1 ∨ jj = 2 ∨ jj = 3 ∨ jj = 4 ∨ jj = 5 ∨ jj = 6 ∨ jj = 7 ∨ jj = 8 ∨ jj = 9 ∨ jj = 10 ∨ jj = 11 ∨ jj = 12 ∨ jj = 13 ∨ jj = 14 ∨ jj = 15 by omega) with rfl | rfl | rfl | rfl | rfl | rfl | rfl | rfl | rfl | rfl | rfl | rfl | rfl | rfl | rfl | rfl
      · refine lv_tableIn (off := 80) (tgt := 120) hx hb dl_40 (by decide) (by decide) (by decide) (by decide) ?_
        exact law_0 hx hb hml hown htb hA hE hnt hX hbl hbA hKo hAo hi1 hi2 hi3 hi4 hi5 h3 (by omega) hS hl (by omega) (by omega) (fun P1 cc1 fo1 H1 locs1 ls1 k1 k2 k3 k4 => go P1 cc1 (fed + 1) _ _ fo1 H1 locs1 ls1 (by omega) (by omega) (by have := lq_feed (a := fed) (j := j); omega) k2 k3 k4)
      · refine lv_tableIn (off := 156) (tgt := 196) hx hb dl_40 (by decide) (by decide) (by decide) (by decide) ?_
        by_cases hbad : xs (Int32.toNatClampNeg (nI (6 * j) + 1)) < 0 ∨ ¬ xs (Int32.toNatClampNeg (nI (6 * j) + 1)) ≤ nI cc.1
        · exact law_1no hx hb hml hown htb hA hE hnt hX hbl hbA hKo hAo hi1 hi2 hi3 hi4 hi5 h3 hbad hS hl (by omega) (by omega) gn
        · exact law_1ok hx hb hml hown htb hA hE hnt hX hbl hbA hKo hAo hi1 hi2 hi3 hi4 hi5 h3 (fun h => hbad (Or.inl h)) (Decidable.not_not.mp (fun h => hbad (Or.inr h))) hS hl (by omega) (by omega) gn
      · refine lv_tableIn (off := 184) (tgt := 224) hx hb dl_40 (by decide) (by decide) (by decide) (by decide) ?_
        exact law_2 hx hb hml hown htb hA hE hnt hX hbl hbA hKo hAo hi1 hi2 hi3 hi4 hi5 h3 hS hl (by omega) (by omega) gn
      · refine lv_tableIn (off := 197) (tgt := 237) hx hb dl_40 (by decide) (by decide) (by decide) (by decide) ?_
        exact law_3 hx hb hml hown htb hA hE hnt hX hbl hbA hKo hAo hi1 hi2 hi3 hi4 hi5 h3 hS hl (by omega) (by omega) gn
      · refine lv_tableIn (off := 210) (tgt := 250) hx hb dl_40 (by decide) (by decide) (by decide) (by decide) ?_
        exact law_4 hx hb hml hown htb hA hE hnt hX hbl hbA hKo hAo hi1 hi2 hi3 hi4 hi5 h3 hS hl (by omega) (by omega) gn
      · refine lv_tableIn (off := 238) (tgt := 278) hx hb dl_40 (by decide) (by decide) (by decide) (by decide) ?_
        exact law_5 hx hb hml hown htb hA hE hnt hX hbl hbA hKo hAo hi1 hi2 hi3 hi4 hi5 h3 hS hl (by omega) (by omega) gn
      · refine lv_tableIn (off := 278) (tgt := 318) hx hb dl_40 (by decide) (by decide) (by decide) (by decide) ?_
        exact law_6 hx hb hml hown htb hA hE hnt hX hbl hbA hKo hAo hi1 hi2 hi3 hi4 hi5 h3 hS hl (by omega) (by omega) gn
      · refine lv_tableIn (off := 303) (tgt := 343) hx hb dl_40 (by decide) (by decide) (by decide) (by decide) ?_
        exact law_7 hx hb hml hown htb hA hE hnt hX hbl hbA hKo hAo hi1 hi2 hi3 hi4 hi5 h3 hS hl (by omega) (by omega) gn
      · refine lv_tableIn (off := 340) (tgt := 380) hx hb dl_40 (by decide) (by decide) (by decide) (by decide) ?_
        exact law_8 hx hb hml hown htb hA hE hnt hX hbl hbA hKo hAo hi1 hi2 hi3 hi4 hi5 h3 hS hl (by omega) (by omega) gn
      · refine lv_tableIn (off := 365) (tgt := 405) hx hb dl_40 (by decide) (by decide) (by decide) (by decide) ?_
        exact law_9 hx hb hml hown htb hA hE hnt hX hbl hbA hKo hAo hi1 hi2 hi3 hi4 hi5 h3 hS hl (by omega) (by omega) gn
      · refine lv_tableIn (off := 433) (tgt := 473) hx hb dl_40 (by decide) (by decide) (by decide) (by decide) ?_
        exact law_10 hx hb hml hown htb hA hE hnt hX hbl hbA hKo hAo hi1 hi2 hi3 hi4 hi5 h3 hS hl (by omega) (by omega) gn
      · refine lv_tableIn (off := 498) (tgt := 538) hx hb dl_40 (by decide) (by decide) (by decide) (by decide) ?_
        exact law_11 hx hb hml hown htb hA hE hnt hX hbl hbA hKo hAo hi1 hi2 hi3 hi4 hi5 h3 hS hl (by omega) (by omega) gn
      · refine lv_tableIn (off := 550) (tgt := 590) hx hb dl_40 (by decide) (by decide) (by decide) (by decide) ?_
        exact law_12 hx hb hml hown htb hA hE hnt hX hbl hbA hKo hAo hi1 hi2 hi3 hi4 hi5 h3 hS hl (by omega) (by omega) gn
      · refine lv_tableIn (off := 587) (tgt := 627) hx hb dl_40 (by decide) (by decide) (by decide) (by decide) ?_
        exact law_13 hx hb hml hown htb hA hE hnt hX hbl hbA hKo hAo hi1 hi2 hi3 hi4 hi5 h3 hS hl (by omega) (by omega) gn
      · refine lv_tableIn (off := 612) (tgt := 652) hx hb dl_40 (by decide) (by decide) (by decide) (by decide) ?_
        exact law_14 hx hb hml hown htb hA hE hnt hX hbl hbA hKo hAo hi1 hi2 hi3 hi4 hi5 h3 hS hl (by omega) (by omega) gn
      · refine lv_tableIn (off := 664) (tgt := 704) hx hb dl_40 (by decide) (by decide) (by decide) (by decide) ?_
        exact law_15 hx hb hml hown htb hA hE hnt hX hbl hbA hKo hAo hi1 hi2 hi3 hi4 hi5 h3 hS hl (by omega) (by omega) gn
end LWE
end
section
theorem lH_nw {g : xe_G} {p : Nat → Bool} {z a : Nat} {c : mi_C} (h : (lH g p false z).1 a = some c) (hw : mi_wr g a c) : False := by
  unfold lH at h
  dsimp only at h
  rw [if_neg (fun h => by cases h.1)] at h
  obtain ⟨k, -, hk⟩ := Option.map_eq_some_iff.mp h
  subst hk
  have := hw.2 _ rfl
  dsimp only at this
  omega
theorem lw_d12 : ∀ k, rx k = false → ([.int 0, .null, .null, .int 0, .null, .null, .null, .null, .int 0, .int 0, .int 0, .int 0, .null, .null, .null, .null, .int 0, .int 0, .int 0, .int 0, .int 0, .null, .null, .null, .null, .int 0, .int 0, .null, .null, .null, .null, .null, .null, .null, .null, .null, .null, .null, .null, .null, .null, .null, .null, .null, .null, .null, .null, .int 0, .int 0, .int 0, .int 0, .int 0, .int 0, .int 0, .int 0, .int 0, .int 0, .int 0, .int 0, .int 0, .int 0, .int 0, .null, .null, .null, .int 0, .int 0, .int 0, .int 0, .int 0, .int 0, .int 0, .int 0, .int 0, .int 0, .int 0, .int 0, .int 0, .int 0, .int 0, .null, .null] : List Value)[k]? = (I00 k).map Value.int := by
  have h : ∀ k, k < 82 → rx k = false → ([.int 0, .null, .null, .int 0, .null, .null, .null, .null, .int 0, .int 0, .int 0, .int 0, .null, .null, .null, .null, .int 0, .int 0, .int 0, .int 0, .int 0, .null, .null, .null, .null, .int 0, .int 0, .null, .null, .null, .null, .null, .null, .null, .null, .null, .null, .null, .null, .null, .null, .null, .null, .null, .null, .null, .null, .int 0, .int 0, .int 0, .int 0, .int 0, .int 0, .int 0, .int 0, .int 0, .int 0, .int 0, .int 0, .int 0, .int 0, .int 0, .null, .null, .null, .int 0, .int 0, .int 0, .int 0, .int 0, .int 0, .int 0, .int 0, .int 0, .int 0, .int 0, .int 0, .int 0, .int 0, .int 0, .null, .null] : List Value)[k]? = some (.int 0) := by decide +kernel
  intro k hk
  by_cases h1 : k < 82
  · rw [h k h1 hk]
    simp [I00, h1]
  · rw [List.getElem?_eq_none (by show 82 ≤ k; omega)]
    simp [I00, h1]
theorem lw_newl {p : Program} {l : Launch} {e : Env} {R : Room} {s : State} {m : MethodId} {args : Array Value} {below : List Frame} {meth : Method} {c : Code} {H : Heap} {locs : List Loc} {cells slots : Nat} {Q : State → Prop} {pc : Nat} {ls : Array Slot} {rest : List Value} {cc : ByteArray} {D : va_G} (hx : p.tables.exec = Jvm.exec) (hb : c.code = cc) (harr : (Cond.arrayClass .long).before args s = true) (hK : va_K D vwCl [] s) (hcells : cells + 1 ≤ R.cells) (hslots : slots + 1 ≤ R.slots) (hd : decode cc pc = .ok (.newarray .long, 2))
    (kk : ∀ (H1 : Heap) (aO : ClassId), H1.size = H.size + 1 → (∀ q : Nat, q < H.size → H1[q]? = H[q]?) → va_K D vwCl [(aO, .long)] s → va_P D vwCl (oW H.size aO (fun _ => 0)) H1 → W p l e R s m args below meth c H1 locs (cells + 1) (slots + 1) Q (F0 m (pc + 2) ls (.ref H.size :: rest))) : W p l e R s m args below meth c H locs cells slots Q (F0 m pc ls (.int 1 :: rest)) := by
  refine va_newaK (atype := .long) hx hb harr rfl hd rfl (by decide) (by decide : Int32.toNatClampNeg 1 = 1) (by decide) hcells hslots rfl fun H1 cA e1 z1 o1 hAr hNm => ?_
  refine kk H1 cA z1 o1 ⟨hK.1, fun k x hx => ?_⟩ (fun k x hx => ?_)
  · have hz : k < 1 := (List.getElem?_eq_some_iff.mp hx).1
    rw [show k = 0 by omega] at hx
    cases hx
    exact ⟨hAr, hNm⟩
  · have hz : k < 1 := (List.getElem?_eq_some_iff.mp hx).1
    rw [show k = 0 by omega] at hx
    cases hx
    show H1[H.size]? = some (vp_cell _ _)
    exact e1
set_option maxHeartbeats 8000000 in
set_option maxRecDepth 100000 in
/-- THE LAW, from its entry -/
theorem whole_start {p : Program} {e : Env} {s : State} {m : MethodId} {below : List Frame} {meth : Method} {c : Code} (l : Launch) (hnt : l.stackTraces = false) {b L : Nat} {xs : Nat → Int32} (hL : L ≤ 3072) (C0 : lw_At p s m meth c b L xs) : W p l e room_1 s m #[Value.ref b] below meth c s.heap [] 0 0 (lw_Z below #[Value.ref b] s) (entryFrame m ([Value.ref b] : List Value).toArray 7) := by
  obtain ⟨hx, hb, hr, hml, hown, hts, hX, hbl, hlocks, hgv⟩ := id C0
  have hb : c.code = cL_law := hb
  have hown : s.vm.findClass RL = some m.cls := hown
  obtain ⟨A, hAe⟩ : ∃ A : Nat → Prop, A = fun q : Nat => s.heap.size ≤ q := ⟨_, rfl⟩
  have hA : ∀ q : Nat, s.heap.size ≤ q → A q := fun q h => by rw [hAe]; exact h
  have hbA : ¬ A b := by rw [hAe]; exact Nat.not_le.mpr hbl
  obtain ⟨g, hE, hsz⟩ := xe_start (A := A) (by intro a h; rw [hAe]; exact Nat.not_le.mpr h) hts hgv
  obtain ⟨D, hK⟩ := xe_classes hts
  have htb : ∀ w ∈ bg, w.before #[Value.ref b] s = true := fun w h => hts w (bg_in w h)
  have hS : va_S A s.heap s.heap [] := va_S.rf
  have hl := lv_entry ([.ref b]) (n := 7) (Nat.le_of_ble_eq_true rfl)
  rw [lg_entry_eq]
  generalize (lg_sl ([.ref b]) ++ List.replicate (7 - (lg_sl ([.ref b])).length) Slot.unset).toArray = ls at hl ⊢
  have hl : lv_has ls 7 [(0, .ref b)] := hl
  obtain ⟨z, hz⟩ : ∃ z : Nat, z = s.heap.size := ⟨_, rfl⟩
  refine lw_new (ci := 11) (T := TX11) (ds := [.null, .int 0, .null, .null, .int 0]) (M := lH g pC0 true z) (cells := 0) (slots := 0) (by decide) rfl bi_X11 tyX11_ok bg_1350 bg_1351 bg_774 (by decide) rfl dl_0 hx hb hown htb hA hE (lH_rel hK hz.symm) hS (by decide) (by decide) (fun H1 r1 z1 o1 hS => ?_)
  rw [← hz]
  obtain ⟨M1, hM1⟩ : ∃ M1 : mi_H, M1 = (va_up (lH g pC0 true z).1 z (some (.inr (11, fun k => ([.null, .int 0, .null, .null, .int 0] : List Value)[k]?))), z + 1, 0 + 5) := ⟨_, rfl⟩
  obtain ⟨w1, t1, r1⟩ : ∃ w1 t1, mi_rel g D A s M1 H1 w1 t1 := ⟨_, _, by rw [hM1]; exact r1⟩
  have hx1 : M1.1 z = some (ob 11 [.null, .int 0, .null, .null, .int 0]) := by rw [hM1]; simp [va_up, ob]
  have hM1o : ∀ a, a ≠ z → M1.1 a = (lH g pC0 true z).1 a := by intro a ha; rw [hM1]; simp [va_up, ha]
  have hM12 : M1.2 = (z + 1, 5) := by rw [hM1]
  refine lv_dup hx hb dl_3 rfl ?_
  obtain ⟨v0, M2, hMm, rfl, k1, k2, k3, k4⟩ := (tq_init (g := g) hx1 (by rw [hM12]; show z < z + 1; omega) (d := 16) (by decide)).met (l := l)
  rw [hM12] at k1 k2 k3 k4
  dsimp only at k1 k2 k3 k4
  have k41 : M2.2.1 = z + 2 := by rw [k4]
  have k42 : M2.2.2 = 1029 := by rw [k4]
  have e11 : M1.2.1 = z + 1 := by rw [hM12]
  have e12 : M1.2.2 = 5 := by rw [hM12]
  have hG : GATX g z (0, fun _ => 0, fun _ => 0, 0, -1, none) 0 2048 M2 := gate0 hz.symm hE hsz hM1o k1 k2 k3 k41
  obtain ⟨m1, m2, hMet⟩ := hMm
  have hMet : Met l yX11_init (.code yX11_init cX11_init 1 none :: bg) (mi_rm 16 (M2.2.1 - M1.2.1) (M2.2.2 - M1.2.2)) (mi_Pre g D M1 [.ref z]) (mi_Q g D M1 none M2) (M2.2.1 - M1.2.1) (M2.2.2 - M1.2.2) (mi_A g M1) := hMet D
  refine mi_goF (A := A) (va_runI (As := []) (rest := [.ref z]) ⟨hx, hb, hml, hown, htb⟩ hMet (bg_I 0 htb bg_1352 bg_1353 bg_774 bg_758 rfl rfl ⟨by decide, by decide, by decide +kernel⟩ ⟨by show 16 + 8 + 1 ≤ 2048; decide, by show 8 + (1 + 11) + (40 * 16 + 1000) ≤ 84000; decide⟩) ⟨mi_blind, mi_enter r1 hS hA hE⟩ rfl rfl hl.1 rfl (lv_room (Nat.le_of_ble_eq_true rfl)) dl_4 ⟨by show 0 + 1 + (M2.2.1 - M1.2.1) ≤ 601024; omega, by show 0 + 5 + (M2.2.2 - M1.2.2) ≤ 7293034; omega⟩) (mi_A_sub r1 hS hA) hS (fun H2 locs2 ws2 tys2 r2 z2 o2 hS => ?_)
  have hs2 := r2.2.2.2.1
  refine W.widen (k := 2) (n := 1029) (by omega) (by omega) ?_
  refine lv_astore_n (lv' := [(1, .ref z), (0, .ref b)]) hx hb dl_7 rfl hl (by decide) rfl (fun ls hl => ?_)
  obtain ⟨y, hy⟩ : ∃ y : Nat, y = H2.size := ⟨_, rfl⟩
  have hzy : y = z + 2 := by omega
  refine lw_new (ci := 12) (T := TX12) (ds := [.int 0, .null, .null, .int 0, .null, .null, .null, .null, .int 0, .int 0, .int 0, .int 0, .null, .null, .null, .null, .int 0, .int 0, .int 0, .int 0, .int 0, .null, .null, .null, .null, .int 0, .int 0, .null, .null, .null, .null, .null, .null, .null, .null, .null, .null, .null, .null, .null, .null, .null, .null, .null, .null, .null, .null, .int 0, .int 0, .int 0, .int 0, .int 0, .int 0, .int 0, .int 0, .int 0, .int 0, .int 0, .int 0, .int 0, .int 0, .int 0, .null, .null, .null, .int 0, .int 0, .int 0, .int 0, .int 0, .int 0, .int 0, .int 0, .int 0, .int 0, .int 0, .int 0, .int 0, .int 0, .int 0, .null, .null]) (M := lH g pR0 false y) (by decide) rfl bi_X12 tyX12_ok bg_1354 bg_1355 bg_972 (by decide) rfl dl_8 hx hb hown htb hA hE (lH_rel hK hy.symm) hS (by decide) (by decide) (fun H3 r3 z3 o3 hS => ?_)
  rw [← hy]
  obtain ⟨M3, hM3⟩ : ∃ M3 : mi_H, M3 = (va_up (lH g pR0 false y).1 y (some (.inr (12, fun k => ([.int 0, .null, .null, .int 0, .null, .null, .null, .null, .int 0, .int 0, .int 0, .int 0, .null, .null, .null, .null, .int 0, .int 0, .int 0, .int 0, .int 0, .null, .null, .null, .null, .int 0, .int 0, .null, .null, .null, .null, .null, .null, .null, .null, .null, .null, .null, .null, .null, .null, .null, .null, .null, .null, .null, .null, .int 0, .int 0, .int 0, .int 0, .int 0, .int 0, .int 0, .int 0, .int 0, .int 0, .int 0, .int 0, .int 0, .int 0, .int 0, .null, .null, .null, .int 0, .int 0, .int 0, .int 0, .int 0, .int 0, .int 0, .int 0, .int 0, .int 0, .int 0, .int 0, .int 0, .int 0, .int 0, .null, .null] : List Value)[k]?))), y + 1, 0 + 82) := ⟨_, rfl⟩
  obtain ⟨w3, t3, r3⟩ : ∃ w3 t3, mi_rel g D A s M3 H3 w3 t3 := ⟨_, _, by rw [hM3]; exact r3⟩
  have hx3 : M3.1 y = some (.inr (12, fun k => ([.int 0, .null, .null, .int 0, .null, .null, .null, .null, .int 0, .int 0, .int 0, .int 0, .null, .null, .null, .null, .int 0, .int 0, .int 0, .int 0, .int 0, .null, .null, .null, .null, .int 0, .int 0, .null, .null, .null, .null, .null, .null, .null, .null, .null, .null, .null, .null, .null, .null, .null, .null, .null, .null, .null, .null, .int 0, .int 0, .int 0, .int 0, .int 0, .int 0, .int 0, .int 0, .int 0, .int 0, .int 0, .int 0, .int 0, .int 0, .int 0, .null, .null, .null, .int 0, .int 0, .int 0, .int 0, .int 0, .int 0, .int 0, .int 0, .int 0, .int 0, .int 0, .int 0, .int 0, .int 0, .int 0, .null, .null] : List Value)[k]?)) := by rw [hM3]; simp [va_up]
  have hM3o : ∀ a, a ≠ y → M3.1 a = (lH g pR0 false y).1 a := by intro a ha; rw [hM3]; simp [va_up, ha]
  have hM32 : M3.2 = (y + 1, 82) := by rw [hM3]
  have e31 : M3.2.1 = y + 1 := by rw [hM32]
  have e32 : M3.2.2 = 82 := by rw [hM32]
  have hlt : ∀ k, rlk k → g.2.1 k < z := fun k hk => by have := lx_lt hE (show k < 37 by have := hk.2; omega); omega
  refine lv_dup hx hb dl_11 rfl ?_
  obtain ⟨v4, M4, hMr, rfl, k5, Ic, Rc, M5, k6, k7⟩ := (rx_init (g := g) hx3 lw_d12 (by omega) (fun k hk => by have := hlt k hk; omega) (fun k hk => by have := hlt k hk; omega) (fun k hk => ⟨_, (hM3o _ (by have := hlt k hk; omega)).trans (lH_r hk (lx_inj hE))⟩) (d := 16) (by decide)).met (l := l)
  have k51 : M4.2.1 = y + 40 := by rw [k5, e31]
  have k52 : M4.2.2 = 898650 := by rw [k5, e32]
  obtain ⟨m3, m4, hMet4⟩ := hMr
  have hMet4 : Met l yX12_init (.code yX12_init cX12_init 1 none :: bg) (mi_rm 16 (M4.2.1 - M3.2.1) (M4.2.2 - M3.2.2)) (mi_Pre g D M3 [.ref y]) (mi_Q g D M3 none M4) (M4.2.1 - M3.2.1) (M4.2.2 - M3.2.2) (mi_A g M3) := hMet4 D
  refine mi_goF (A := A) (va_runI (As := []) (rest := [.ref y]) ⟨hx, hb, hml, hown, htb⟩ hMet4 (bg_I 0 htb bg_1356 bg_1357 bg_972 bg_919 rfl rfl ⟨by decide, by decide, by decide +kernel⟩ ⟨by show 16 + 8 + 1 ≤ 2048; decide, by show 8 + (1 + 11) + (40 * 16 + 1000) ≤ 84000; decide⟩) ⟨mi_blind, mi_enter r3 hS hA hE⟩ rfl rfl hl.1 rfl (lv_room (Nat.le_of_ble_eq_true rfl)) dl_12 ⟨by show 2 + 1 + (M4.2.1 - M3.2.1) ≤ 601024; omega, by show 1029 + 82 + (M4.2.2 - M3.2.2) ≤ 7293034; omega⟩) (mi_A_sub r3 hS hA) hS (fun H4 locs4 ws4 tys4 r4 z4 o4 hS => ?_)
  have hs4 := r4.2.2.2.1
  refine W.widen (k := 42) (n := 899679) (by omega) (by omega) ?_
  refine lv_astore_n (lv' := [(2, .ref y), (1, .ref z), (0, .ref b)]) hx hb dl_15 rfl hl (by decide) rfl (fun ls hl => ?_)
  refine lv_iconst (v := 1) hx hb dl_16 (by decide) ?_
  refine lw_newl (D := D) hx hb (htb _ bg_1358) hK (by decide) (by decide) dl_17 (fun H5 aO z5 o5 hKo ho => ?_)
  refine W.widen (k := 43) (n := 899680) (by decide) (by decide) ?_
  refine lv_astore_n (lv' := [(3, .ref H4.size), (2, .ref y), (1, .ref z), (0, .ref b)]) hx hb dl_19 rfl hl (by decide) rfl (fun ls hl => ?_)
  refine lv_iconst (v := 0) hx hb dl_20 (by decide) ?_
  refine lv_istore (lv' := [(4, .int 0), (3, .ref H4.size), (2, .ref y), (1, .ref z), (0, .ref b)]) hx hb dl_21 hl (by decide) rfl (fun ls hl => ?_)
  have hsz4 : s.heap.size ≤ H4.size := hS.1
  have hS5 : va_S A s.heap H5 locs4 := ⟨by omega, fun a a1 a2 => (o5 a (by omega)).trans (hS.2.1 a a1 a2), hS.2.2⟩
  have r2w : mi_rel g D A s M2 H2 ws2 tys2 := r2.wide (fun a ha => ha.elim (fun h => (r1.lt h).2) (fun h => hA a (by omega)))
  have hlow2 : ∀ a, lown g M2 a → a < y := fun a ha => by have := (r2.lt ha).1; omega
  have hnot : ∀ a, a < y → ¬ mi_A g M3 a := fun a ha h => h.elim (fun h9 => by obtain ⟨c9, q1, q2⟩ := h9; rw [hM3o a (by omega)] at q1; exact lH_nw q1 q2) (fun h9 => by omega)
  have r2f := mi_rel.frame (H1 := H5) r2w (fun a ha => by have h9 := hlow2 a ha; rw [o5 a (by omega), o4 a (by omega) (hnot a h9), o3 a (by omega)])
  obtain ⟨ws5, r5⟩ := r4.less k6 (by rw [k7.z])
  have r5w : mi_rel g D A s M5 H4 ws5 tys4 := r5.wide (fun a ha => ha.elim (fun h => (r3.lt h).2) (fun h => hA a (by omega)))
  have r5f := mi_rel.frame (H1 := H5) r5w (fun a ha => o5 a (r5.lt ha).1)
  have hl := lv_sub hl (l' := [(0, .ref b), (1, .ref z), (2, .ref y), (3, .ref H4.size), (4, .int (nI (6 * 0)))]) [4, 3, 2, 1, 0] rfl
  refine law_loop hx hb hr hml hlocks hown htb hAe hA hE hnt hX hbl hbA hKo (hA _ hsz4) hL 512 0 (0, fun _ => 0, fun _ => 0, 0, -1, none) 0 2048 _ H5 locs4 ls 43 899680 (by omega) (by omega) (by omega) (by omega) (by omega) ⟨(M2.1, H5.size, M2.2.2), (M5.1, H5.size, M5.2.2), ws2, ws5, tys2, tys4, r2f, r5f, hG.room (by omega), k7.room, trivial, ho, fun a h1 h2 => ?_, fun h1 => ?_, fun h1 => ?_⟩ hS5 hl
  · have h3 := hlow2 a h1
    exact hnot a h3 (r5.lt (show lown g M5 a from h2)).2
  · have := hlow2 _ h1
    omega
  · have := (r5.lt (show lown g M5 H4.size from h1)).1
    omega
end
