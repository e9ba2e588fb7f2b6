theorem dX11_takeWord_0 : decode cX11_takeWord 0 = .ok (.aload_n 0, 1) := by decide +kernel
theorem dX11_takeWord_1 : decode cX11_takeWord 1 = .ok (.getfield 9, 3) := by decide +kernel
theorem dX11_takeWord_4 : decode cX11_takeWord 4 = .ok (.arraylength, 1) := by decide +kernel
theorem dX11_takeWord_5 : decode cX11_takeWord 5 = .ok (.aload_n 0, 1) := by decide +kernel
theorem dX11_takeWord_6 : decode cX11_takeWord 6 = .ok (.getfield 23, 3) := by decide +kernel
theorem dX11_takeWord_9 : decode cX11_takeWord 9 = .ok (.isub, 1) := by decide +kernel
theorem dX11_takeWord_10 : decode cX11_takeWord 10 = .ok (.iconst 4, 1) := by decide +kernel
theorem dX11_takeWord_11 : decode cX11_takeWord 11 = .ok (.if_icmp .ge 21, 3) := by decide +kernel
theorem dX11_takeWord_32 : decode cX11_takeWord 32 = .ok (.aload_n 0, 1) := by decide +kernel
theorem dX11_takeWord_33 : decode cX11_takeWord 33 = .ok (.getfield 9, 3) := by decide +kernel
theorem dX11_takeWord_36 : decode cX11_takeWord 36 = .ok (.aload_n 0, 1) := by decide +kernel
theorem dX11_takeWord_37 : decode cX11_takeWord 37 = .ok (.getfield 23, 3) := by decide +kernel
theorem dX11_takeWord_40 : decode cX11_takeWord 40 = .ok (.iload_n 1, 1) := by decide +kernel
theorem dX11_takeWord_41 : decode cX11_takeWord 41 = .ok (.bipush 24, 2) := by decide +kernel
theorem dX11_takeWord_43 : decode cX11_takeWord 43 = .ok (.iushr, 1) := by decide +kernel
theorem dX11_takeWord_44 : decode cX11_takeWord 44 = .ok (.i2b, 1) := by decide +kernel
theorem dX11_takeWord_45 : decode cX11_takeWord 45 = .ok (.bastore, 1) := by decide +kernel
theorem dX11_takeWord_46 : decode cX11_takeWord 46 = .ok (.aload_n 0, 1) := by decide +kernel
theorem dX11_takeWord_47 : decode cX11_takeWord 47 = .ok (.getfield 9, 3) := by decide +kernel
theorem dX11_takeWord_50 : decode cX11_takeWord 50 = .ok (.aload_n 0, 1) := by decide +kernel
theorem dX11_takeWord_51 : decode cX11_takeWord 51 = .ok (.getfield 23, 3) := by decide +kernel
theorem dX11_takeWord_54 : decode cX11_takeWord 54 = .ok (.iconst 1, 1) := by decide +kernel
theorem dX11_takeWord_55 : decode cX11_takeWord 55 = .ok (.iadd, 1) := by decide +kernel
theorem dX11_takeWord_56 : decode cX11_takeWord 56 = .ok (.iload_n 1, 1) := by decide +kernel
theorem dX11_takeWord_57 : decode cX11_takeWord 57 = .ok (.bipush 16, 2) := by decide +kernel
theorem dX11_takeWord_59 : decode cX11_takeWord 59 = .ok (.iushr, 1) := by decide +kernel
theorem dX11_takeWord_60 : decode cX11_takeWord 60 = .ok (.i2b, 1) := by decide +kernel
theorem dX11_takeWord_61 : decode cX11_takeWord 61 = .ok (.bastore, 1) := by decide +kernel
theorem dX11_takeWord_62 : decode cX11_takeWord 62 = .ok (.aload_n 0, 1) := by decide +kernel
theorem dX11_takeWord_63 : decode cX11_takeWord 63 = .ok (.getfield 9, 3) := by decide +kernel
theorem dX11_takeWord_66 : decode cX11_takeWord 66 = .ok (.aload_n 0, 1) := by decide +kernel
theorem dX11_takeWord_67 : decode cX11_takeWord 67 = .ok (.getfield 23, 3) := by decide +kernel
theorem dX11_takeWord_70 : decode cX11_takeWord 70 = .ok (.iconst 2, 1) := by decide +kernel
theorem dX11_takeWord_71 : decode cX11_takeWord 71 = .ok (.iadd, 1) := by decide +kernel
theorem dX11_takeWord_72 : decode cX11_takeWord 72 = .ok (.iload_n 1, 1) := by decide +kernel
theorem dX11_takeWord_73 : decode cX11_takeWord 73 = .ok (.bipush 8, 2) := by decide +kernel
theorem dX11_takeWord_75 : decode cX11_takeWord 75 = .ok (.iushr, 1) := by decide +kernel
theorem dX11_takeWord_76 : decode cX11_takeWord 76 = .ok (.i2b, 1) := by decide +kernel
theorem dX11_takeWord_77 : decode cX11_takeWord 77 = .ok (.bastore, 1) := by decide +kernel
theorem dX11_takeWord_78 : decode cX11_takeWord 78 = .ok (.aload_n 0, 1) := by decide +kernel
theorem dX11_takeWord_79 : decode cX11_takeWord 79 = .ok (.getfield 9, 3) := by decide +kernel
theorem dX11_takeWord_82 : decode cX11_takeWord 82 = .ok (.aload_n 0, 1) := by decide +kernel
theorem dX11_takeWord_83 : decode cX11_takeWord 83 = .ok (.getfield 23, 3) := by decide +kernel
theorem dX11_takeWord_86 : decode cX11_takeWord 86 = .ok (.iconst 3, 1) := by decide +kernel
theorem dX11_takeWord_87 : decode cX11_takeWord 87 = .ok (.iadd, 1) := by decide +kernel
theorem dX11_takeWord_88 : decode cX11_takeWord 88 = .ok (.iload_n 1, 1) := by decide +kernel
theorem dX11_takeWord_89 : decode cX11_takeWord 89 = .ok (.i2b, 1) := by decide +kernel
theorem dX11_takeWord_90 : decode cX11_takeWord 90 = .ok (.bastore, 1) := by decide +kernel
theorem dX11_takeWord_91 : decode cX11_takeWord 91 = .ok (.aload_n 0, 1) := by decide +kernel
theorem dX11_takeWord_92 : decode cX11_takeWord 92 = .ok (.dup, 1) := by decide +kernel
theorem dX11_takeWord_93 : decode cX11_takeWord 93 = .ok (.getfield 23, 3) := by decide +kernel
theorem dX11_takeWord_96 : decode cX11_takeWord 96 = .ok (.iconst 4, 1) := by decide +kernel
theorem dX11_takeWord_97 : decode cX11_takeWord 97 = .ok (.iadd, 1) := by decide +kernel
theorem dX11_takeWord_98 : decode cX11_takeWord 98 = .ok (.putfield 23, 3) := by decide +kernel
theorem dX11_takeWord_101 : decode cX11_takeWord 101 = .ok (.return_, 1) := by decide +kernel
set_option maxHeartbeats 4000000 in
set_option maxRecDepth 100000 in
theorem cg_take (l : Launch) (D : va_G) (g : xe_G) (h0 : Nat) (qc : Nat) (n : Int32) (fl : Nat) (wp : Int32) (cB : ClassId) (f : Nat → Int32) (w : Int32) (sz : Nat) (hn : 4 ≤ 1024 - n) (i0 : vp_in n 1024) (i1 : vp_in (n + 1) 1024) (i2 : vp_in (n + 2) 1024) (i3 : vp_in (n + 3) 1024) : Met l yX11_takeWord (.code yX11_takeWord cX11_takeWord 2 none :: bg) ({ frames := 1, cells := 0, slots := 0, locals := 120 } : Room) (xb_Pre (xe_E g) D vwCl [(h0, .inr (11, [.ref qc, .int n, .ref fl, .null, .int wp])), (qc, .inl (cB, 1024, .inl f))] [(cB, .byte)] sz [.ref h0, .int w]) (va_Qv (fun _ => True) (xb_B D vwCl (va_A [(h0, .inr (11, [.ref qc, .int n, .ref fl, .null, .int wp])), (qc, .inl (cB, 1024, .inl f))] sz) (fun u : (Nat → Int32) => [(h0, .inr (11, [.ref qc, .int (n + 4), .ref fl, .null, .int wp])), (qc, .inl (cB, 1024, .inl u))]) (fun u : (Nat → Int32) => [(cB, .byte)])) (va_A [(h0, .inr (11, [.ref qc, .int n, .ref fl, .null, .int wp])), (qc, .inl (cB, 1024, .inl f))] sz)) 0 0 (va_A [(h0, .inr (11, [.ref qc, .int n, .ref fl, .null, .int wp])), (qc, .inl (cB, 1024, .inl f))] sz) := by
  refine Met.ofW (cc := cX11_takeWord) (maxL := 2) (ret := none) (by decide) rfl ?_
  intro p e s m args below meth c s₁ B hml hv
  obtain ⟨rfl, hsz, hP, hK, hD0, hE⟩ := hv
  have hx := B.exec
  have hb := B.bytes
  have hr := B.returns
  have hts := atoms_spec (ws := (.code yX11_takeWord cX11_takeWord 2 none :: bg)) B.pre
  have htb : ∀ w ∈ bg, w.before _ s = true := fun w h => hts w (List.mem_cons_of_mem _ h)
  have hown : s.vm.findClass RX11 = some m.cls := findClass_of_methodNamed B.named
  have hlocks := B.notSynchronized
  subst hsz
  have hD := hD0.self (sz := s.heap.size)
  generalize hAe : va_A [(h0, .inr (11, [.ref qc, .int n, .ref fl, .null, .int wp])), (qc, .inl (cB, 1024, .inl f))] s.heap.size = A at hD hE ⊢
  have hA : ∀ q : Nat, s.heap.size ≤ q → A q := fun q h => by rw [← hAe]; exact Or.inr h
  have hS : va_S A s.heap s.heap [] := va_S.rf
  have hP : va_P D vwCl [(h0, .inr (11, [.ref qc, .int n, .ref fl, .null, .int wp])), (qc, .inl (cB, 1024, .inl f))] s.heap := hP
  have hl := lv_entry ([.ref h0, .int w]) (n := 2) (Nat.le_of_ble_eq_true rfl)
  rw [lg_entry_eq]
  generalize (lg_sl ([.ref h0, .int w]) ++ List.replicate (2 - (lg_sl ([.ref h0, .int w])).length) Slot.unset).toArray = ls at hl ⊢
  have hl : lv_has ls 2 [(0, .ref h0), (1, .int w)] := hl
  refine lv_aload_n hx hb dX11_takeWord_0 rfl (lv_at hl 0 rfl) ?_
  refine va_get (D := D) (ci := 11) (v := .ref qc) (C := RX11) (T := TX11) (N := 5) hx hb htb bi_X11 hown hK hP 0 rfl rfl 0 (by decide) (htb _ bg_5) (fun _ h9 => h9) rfl dX11_takeWord_1 ?_
  refine va_alen (v := 1024) hx hb hK hP 1 0 rfl rfl rfl dX11_takeWord_4 ?_
  refine lv_aload_n hx hb dX11_takeWord_5 rfl (lv_at hl 0 rfl) ?_
  refine va_get (D := D) (ci := 11) (v := .int n) (C := RX11) (T := TX11) (N := 5) hx hb htb bi_X11 hown hK hP 0 rfl rfl 1 (by decide) (htb _ bg_10) (fun _ h9 => h9) rfl dX11_takeWord_6 ?_
  refine lv_isub hx hb dX11_takeWord_9 ?_
  refine lv_iconst (v := 4) hx hb dX11_takeWord_10 (by decide) ?_
  refine lv_icmp_ge (tgt := 32) hx hb dX11_takeWord_11 (by decide) (fun c_11 => ?_) (fun c_11 => ?_)
  rotate_left
  · exact absurd (hn) c_11
  refine lv_aload_n hx hb dX11_takeWord_32 rfl (lv_at hl 0 rfl) ?_
  refine va_get (D := D) (ci := 11) (v := .ref qc) (C := RX11) (T := TX11) (N := 5) hx hb htb bi_X11 hown hK hP 0 rfl rfl 0 (by decide) (htb _ bg_5) (fun _ h9 => h9) rfl dX11_takeWord_33 ?_
  refine lv_aload_n hx hb dX11_takeWord_36 rfl (lv_at hl 0 rfl) ?_
  refine va_get (D := D) (ci := 11) (v := .int n) (C := RX11) (T := TX11) (N := 5) hx hb htb bi_X11 hown hK hP 0 rfl rfl 1 (by decide) (htb _ bg_10) (fun _ h9 => h9) rfl dX11_takeWord_37 ?_
  refine lv_iload_n hx hb dX11_takeWord_40 rfl (lv_at hl 1 rfl) ?_
  refine lv_bipush (v := 24) hx hb dX11_takeWord_41 (by decide) ?_
  refine lv_iushr hx hb dX11_takeWord_43 rfl ?_
  refine lv_topi (fun x43_u ex43_u => ?_)
  refine lv_i2b hx hb dX11_takeWord_44 rfl ?_
  refine lv_topi (fun x44_c ex44_c => ?_)
  refine va_bast hx hb hK hP hD hS 1 0 rfl rfl (i0) dX11_takeWord_45 (fun H locs hP hD hS => ?_)
  have hP : va_P D vwCl [(h0, .inr (11, [.ref qc, .int n, .ref fl, .null, .int wp])), (qc, .inl (cB, 1024, .inl (upd f (Int32.toNatClampNeg n) (vp_nar .byte x44_c))))] H := hP
  have hD : va_D A [(h0, .inr (11, [.ref qc, .int n, .ref fl, .null, .int wp])), (qc, .inl (cB, 1024, .inl (upd f (Int32.toNatClampNeg n) (vp_nar .byte x44_c))))] := hD
  generalize (upd f (Int32.toNatClampNeg n) (vp_nar .byte x44_c)) = f45 at hP hD
  refine lv_aload_n hx hb dX11_takeWord_46 rfl (lv_at hl 0 rfl) ?_
  refine va_get (D := D) (ci := 11) (v := .ref qc) (C := RX11) (T := TX11) (N := 5) hx hb htb bi_X11 hown hK hP 0 rfl rfl 0 (by decide) (htb _ bg_5) (fun _ h9 => h9) rfl dX11_takeWord_47 ?_
  refine lv_aload_n hx hb dX11_takeWord_50 rfl (lv_at hl 0 rfl) ?_
  refine va_get (D := D) (ci := 11) (v := .int n) (C := RX11) (T := TX11) (N := 5) hx hb htb bi_X11 hown hK hP 0 rfl rfl 1 (by decide) (htb _ bg_10) (fun _ h9 => h9) rfl dX11_takeWord_51 ?_
  refine lv_iconst (v := 1) hx hb dX11_takeWord_54 (by decide) ?_
  refine lv_iadd hx hb dX11_takeWord_55 ?_
  refine lv_iload_n hx hb dX11_takeWord_56 rfl (lv_at hl 1 rfl) ?_
  refine lv_bipush (v := 16) hx hb dX11_takeWord_57 (by decide) ?_
  refine lv_iushr hx hb dX11_takeWord_59 rfl ?_
  refine lv_topi (fun x59_u ex59_u => ?_)
  refine lv_i2b hx hb dX11_takeWord_60 rfl ?_
  refine lv_topi (fun x60_c ex60_c => ?_)
  refine va_bast hx hb hK hP hD hS 1 0 rfl rfl (i1) dX11_takeWord_61 (fun H locs hP hD hS => ?_)
  have hP : va_P D vwCl [(h0, .inr (11, [.ref qc, .int n, .ref fl, .null, .int wp])), (qc, .inl (cB, 1024, .inl (upd f45 (Int32.toNatClampNeg (n + 1)) (vp_nar .byte x60_c))))] H := hP
  have hD : va_D A [(h0, .inr (11, [.ref qc, .int n, .ref fl, .null, .int wp])), (qc, .inl (cB, 1024, .inl (upd f45 (Int32.toNatClampNeg (n + 1)) (vp_nar .byte x60_c))))] := hD
  generalize (upd f45 (Int32.toNatClampNeg (n + 1)) (vp_nar .byte x60_c)) = f61 at hP hD
  refine lv_aload_n hx hb dX11_takeWord_62 rfl (lv_at hl 0 rfl) ?_
  refine va_get (D := D) (ci := 11) (v := .ref qc) (C := RX11) (T := TX11) (N := 5) hx hb htb bi_X11 hown hK hP 0 rfl rfl 0 (by decide) (htb _ bg_5) (fun _ h9 => h9) rfl dX11_takeWord_63 ?_
  refine lv_aload_n hx hb dX11_takeWord_66 rfl (lv_at hl 0 rfl) ?_
  refine va_get (D := D) (ci := 11) (v := .int n) (C := RX11) (T := TX11) (N := 5) hx hb htb bi_X11 hown hK hP 0 rfl rfl 1 (by decide) (htb _ bg_10) (fun _ h9 => h9) rfl dX11_takeWord_67 ?_
  refine lv_iconst (v := 2) hx hb dX11_takeWord_70 (by decide) ?_
  refine lv_iadd hx hb dX11_takeWord_71 ?_
  refine lv_iload_n hx hb dX11_takeWord_72 rfl (lv_at hl 1 rfl) ?_
  refine lv_bipush (v := 8) hx hb dX11_takeWord_73 (by decide) ?_
  refine lv_iushr hx hb dX11_takeWord_75 rfl ?_
  refine lv_topi (fun x75_u ex75_u => ?_)
  refine lv_i2b hx hb dX11_takeWord_76 rfl ?_
  refine lv_topi (fun x76_c ex76_c => ?_)
  refine va_bast hx hb hK hP hD hS 1 0 rfl rfl (i2) dX11_takeWord_77 (fun H locs hP hD hS => ?_)
  have hP : va_P D vwCl [(h0, .inr (11, [.ref qc, .int n, .ref fl, .null, .int wp])), (qc, .inl (cB, 1024, .inl (upd f61 (Int32.toNatClampNeg (n + 2)) (vp_nar .byte x76_c))))] H := hP
  have hD : va_D A [(h0, .inr (11, [.ref qc, .int n, .ref fl, .null, .int wp])), (qc, .inl (cB, 1024, .inl (upd f61 (Int32.toNatClampNeg (n + 2)) (vp_nar .byte x76_c))))] := hD
  generalize (upd f61 (Int32.toNatClampNeg (n + 2)) (vp_nar .byte x76_c)) = f77 at hP hD
  refine lv_aload_n hx hb dX11_takeWord_78 rfl (lv_at hl 0 rfl) ?_
  refine va_get (D := D) (ci := 11) (v := .ref qc) (C := RX11) (T := TX11) (N := 5) hx hb htb bi_X11 hown hK hP 0 rfl rfl 0 (by decide) (htb _ bg_5) (fun _ h9 => h9) rfl dX11_takeWord_79 ?_
  refine lv_aload_n hx hb dX11_takeWord_82 rfl (lv_at hl 0 rfl) ?_
  refine va_get (D := D) (ci := 11) (v := .int n) (C := RX11) (T := TX11) (N := 5) hx hb htb bi_X11 hown hK hP 0 rfl rfl 1 (by decide) (htb _ bg_10) (fun _ h9 => h9) rfl dX11_takeWord_83 ?_
  refine lv_iconst (v := 3) hx hb dX11_takeWord_86 (by decide) ?_
  refine lv_iadd hx hb dX11_takeWord_87 ?_
  refine lv_iload_n hx hb dX11_takeWord_88 rfl (lv_at hl 1 rfl) ?_
  refine lv_i2b hx hb dX11_takeWord_89 rfl ?_
  refine lv_topi (fun x89_c ex89_c => ?_)
  refine va_bast hx hb hK hP hD hS 1 0 rfl rfl (i3) dX11_takeWord_90 (fun H locs hP hD hS => ?_)
  have hP : va_P D vwCl [(h0, .inr (11, [.ref qc, .int n, .ref fl, .null, .int wp])), (qc, .inl (cB, 1024, .inl (upd f77 (Int32.toNatClampNeg (n + 3)) (vp_nar .byte x89_c))))] H := hP
  have hD : va_D A [(h0, .inr (11, [.ref qc, .int n, .ref fl, .null, .int wp])), (qc, .inl (cB, 1024, .inl (upd f77 (Int32.toNatClampNeg (n + 3)) (vp_nar .byte x89_c))))] := hD
  generalize (upd f77 (Int32.toNatClampNeg (n + 3)) (vp_nar .byte x89_c)) = f90 at hP hD
  refine lv_aload_n hx hb dX11_takeWord_91 rfl (lv_at hl 0 rfl) ?_
  refine lv_dup hx hb dX11_takeWord_92 rfl ?_
  refine va_get (D := D) (ci := 11) (v := .int n) (C := RX11) (T := TX11) (N := 5) hx hb htb bi_X11 hown hK hP 0 rfl rfl 1 (by decide) (htb _ bg_10) (fun _ h9 => h9) rfl dX11_takeWord_93 ?_
  refine lv_iconst (v := 4) hx hb dX11_takeWord_96 (by decide) ?_
  refine lv_iadd hx hb dX11_takeWord_97 ?_
  refine va_put (D := D) (ci := 11) (v := .int (n + 4)) (ty := tyX11 1) (C := RX11) (T := TX11) (N := 5) hx hb htb bi_X11 tyX11 tyX11_ok nmX11 hown hK hP hD hS 0 rfl rfl 1 (by decide) (htb _ bg_10) (fun _ h9 => h9) rfl (tyX11_ok 1 (by decide)) rfl rfl (Nat.le_of_ble_eq_true rfl) dX11_takeWord_98 (fun H locs hP hD hS => ?_)
  have hP : va_P D vwCl [(h0, .inr (11, [.ref qc, .int (n + 4), .ref fl, .null, .int wp])), (qc, .inl (cB, 1024, .inl f90))] H := hP
  have hD : va_D A [(h0, .inr (11, [.ref qc, .int (n + 4), .ref fl, .null, .int wp])), (qc, .inl (cB, 1024, .inl f90))] := hD
  have hP9 := hP.sub (ws' := [(h0, .inr (11, [.ref qc, .int (n + 4), .ref fl, .null, .int wp])), (qc, .inl (cB, 1024, .inl f90))]) [0, 1] rfl
  have hD9 := hD.sub (ws' := [(h0, .inr (11, [.ref qc, .int (n + 4), .ref fl, .null, .int wp])), (qc, .inl (cB, 1024, .inl f90))]) [0, 1] rfl rfl
  have hK9 := hK.sub (tys' := [(cB, .byte)]) [0] rfl
  exact W.vret hx hb hr (fun t ht hW => ⟨⟨f90, rfl, trivial, by rw [ht]; exact hP9, va_K.moved hW.alike hK9, hD9⟩, hS.F ht⟩) hS.2.2 dX11_takeWord_101
theorem dX11_feed_0 : decode cX11_feed 0 = .ok (.aload_n 0, 1) := by decide +kernel
theorem dX11_feed_1 : decode cX11_feed 1 = .ok (.getfield 23, 3) := by decide +kernel
theorem dX11_feed_4 : decode cX11_feed 4 = .ok (.ldc 26, 2) := by decide +kernel
theorem dX11_feed_6 : decode cX11_feed 6 = .ok (.if_icmp .le 13, 3) := by decide +kernel
theorem dX11_feed_19 : decode cX11_feed 19 = .ok (.aload_n 0, 1) := by decide +kernel
theorem dX11_feed_20 : decode cX11_feed 20 = .ok (.iload_n 1, 1) := by decide +kernel
theorem dX11_feed_21 : decode cX11_feed 21 = .ok (.invokevirtual 34, 3) := by decide +kernel
theorem dX11_feed_24 : decode cX11_feed 24 = .ok (.aload_n 0, 1) := by decide +kernel
theorem dX11_feed_25 : decode cX11_feed 25 = .ok (.iload_n 2, 1) := by decide +kernel
theorem dX11_feed_26 : decode cX11_feed 26 = .ok (.invokevirtual 34, 3) := by decide +kernel
theorem dX11_feed_29 : decode cX11_feed 29 = .ok (.aload_n 0, 1) := by decide +kernel
theorem dX11_feed_30 : decode cX11_feed 30 = .ok (.iload_n 3, 1) := by decide +kernel
theorem dX11_feed_31 : decode cX11_feed 31 = .ok (.invokevirtual 34, 3) := by decide +kernel
theorem dX11_feed_34 : decode cX11_feed 34 = .ok (.aload_n 0, 1) := by decide +kernel
theorem dX11_feed_35 : decode cX11_feed 35 = .ok (.iload 4, 2) := by decide +kernel
theorem dX11_feed_37 : decode cX11_feed 37 = .ok (.invokevirtual 34, 3) := by decide +kernel
theorem dX11_feed_40 : decode cX11_feed 40 = .ok (.aload_n 0, 1) := by decide +kernel
theorem dX11_feed_41 : decode cX11_feed 41 = .ok (.iload 5, 2) := by decide +kernel
theorem dX11_feed_43 : decode cX11_feed 43 = .ok (.invokevirtual 34, 3) := by decide +kernel
theorem dX11_feed_46 : decode cX11_feed 46 = .ok (.aload_n 0, 1) := by decide +kernel
theorem dX11_feed_47 : decode cX11_feed 47 = .ok (.getfield 23, 3) := by decide +kernel
theorem dX11_feed_50 : decode cX11_feed 50 = .ok (.ireturn, 1) := by decide +kernel
set_option maxHeartbeats 4000000 in
set_option maxRecDepth 100000 in
theorem cg_feed (l : Launch) (D : va_G) (g : xe_G) (h0 : Nat) (qc : Nat) (fl : Nat) (wp : Int32) (cB : ClassId) (f : Nat → Int32) (x0 : Int32) (x1 : Int32) (x2 : Int32) (x3 : Int32) (x4 : Int32) (sz : Nat)  : Met l yX11_feed (.code yX11_feed cX11_feed 6 (some .int) :: bg) ({ frames := 2, cells := 0, slots := 0, locals := 240 } : Room) (xb_Pre (xe_E g) D vwCl [(h0, .inr (11, [.ref qc, .int 0, .ref fl, .null, .int wp])), (qc, .inl (cB, 1024, .inl f))] [(cB, .byte)] sz [.ref h0, .int x0, .int x1, .int x2, .int x3, .int x4]) (va_Qi (fun r _ => r = 20) (xb_B D vwCl (va_A [(h0, .inr (11, [.ref qc, .int 0, .ref fl, .null, .int wp])), (qc, .inl (cB, 1024, .inl f))] sz) (fun u : Int32 × (Nat → Int32) => [(h0, .inr (11, [.ref qc, .int u.1, .ref fl, .null, .int wp])), (qc, .inl (cB, 1024, .inl u.2))]) (fun u : Int32 × (Nat → Int32) => [(cB, .byte)])) (va_A [(h0, .inr (11, [.ref qc, .int 0, .ref fl, .null, .int wp])), (qc, .inl (cB, 1024, .inl f))] sz)) 0 0 (va_A [(h0, .inr (11, [.ref qc, .int 0, .ref fl, .null, .int wp])), (qc, .inl (cB, 1024, .inl f))] sz) := by
  refine Met.ofW (cc := cX11_feed) (maxL := 6) (ret := (some .int)) (by decide) rfl ?_
  intro p e s m args below meth c s₁ B hml hv
  obtain ⟨rfl, hsz, hP, hK, hD0, hE⟩ := hv
  have hx := B.exec
  have hb := B.bytes
  have hr := B.returns
  have hts := atoms_spec (ws := (.code yX11_feed cX11_feed 6 (some .int) :: bg)) B.pre
  have htb : ∀ w ∈ bg, w.before _ s = true := fun w h => hts w (List.mem_cons_of_mem _ h)
  have hown : s.vm.findClass RX11 = some m.cls := findClass_of_methodNamed B.named
  have hlocks := B.notSynchronized
  subst hsz
  have hD := hD0.self (sz := s.heap.size)
  generalize hAe : va_A [(h0, .inr (11, [.ref qc, .int 0, .ref fl, .null, .int wp])), (qc, .inl (cB, 1024, .inl f))] s.heap.size = A at hD hE ⊢
  have hA : ∀ q : Nat, s.heap.size ≤ q → A q := fun q h => by rw [← hAe]; exact Or.inr h
  have hS : va_S A s.heap s.heap [] := va_S.rf
  have hP : va_P D vwCl [(h0, .inr (11, [.ref qc, .int 0, .ref fl, .null, .int wp])), (qc, .inl (cB, 1024, .inl f))] s.heap := hP
  have hl := lv_entry ([.ref h0, .int x0, .int x1, .int x2, .int x3, .int x4]) (n := 6) (Nat.le_of_ble_eq_true rfl)
  rw [lg_entry_eq]
  generalize (lg_sl ([.ref h0, .int x0, .int x1, .int x2, .int x3, .int x4]) ++ List.replicate (6 - (lg_sl ([.ref h0, .int x0, .int x1, .int x2, .int x3, .int x4])).length) Slot.unset).toArray = ls at hl ⊢
  have hl : lv_has ls 6 [(0, .ref h0), (1, .int x0), (2, .int x1), (3, .int x2), (4, .int x3), (5, .int x4)] := hl
  refine lv_aload_n hx hb dX11_feed_0 rfl (lv_at hl 0 rfl) ?_
  refine va_get (D := D) (ci := 11) (v := .int 0) (C := RX11) (T := TX11) (N := 5) hx hb htb bi_X11 hown hK hP 0 rfl rfl 1 (by decide) (htb _ bg_10) (fun _ h9 => h9) rfl dX11_feed_1 ?_
  refine lv_ldc (own := RX11) (v := 65520) hx hb hown (htb _ bg_11) dX11_feed_4 ?_
  refine lv_icmp_le (tgt := 19) hx hb dX11_feed_6 (by decide) (fun c_6 => ?_) (fun c_6 => ?_)
  rotate_left
  · exact absurd (by decide) c_6
  refine lv_aload_n hx hb dX11_feed_19 rfl (lv_at hl 0 rfl) ?_
  refine lv_iload_n hx hb dX11_feed_20 rfl (lv_at hl 1 rfl) ?_
  refine xb_gov (wr := []) (va_runV (As := [.int x0]) (rest := []) ⟨hx, hb, hml, hown, htb⟩ (cg_take l D g h0 qc 0 fl wp cB f x0 (Array.size s.heap) (by decide) (by unfold vp_in; decide) (by unfold vp_in; decide) (by unfold vp_in; decide) (by unfold vp_in; decide)) (bg_V 1 htb bg_14 bg_16 bg_17 bg_18 bg_15 rfl rfl (by decide +kernel) ⟨Nat.le_of_ble_eq_true rfl, Nat.le_of_ble_eq_true rfl⟩) ⟨xb_blind xe_ok, va_recv hK hP (ci := 11) (q0 := 0) rfl rfl, xb_enter xe_ok hK hP hD hS hA hE [0, 1] rfl rfl rfl [0] rfl⟩ rfl rfl hl.1 rfl (lv_room (Nat.le_of_ble_eq_true rfl)) dX11_feed_21 ⟨Nat.le_of_ble_eq_true rfl, Nat.le_of_ble_eq_true rfl⟩) hK hP hD hS hA [0, 1] [] rfl rfl rfl (by decide) (fun u_21 H locs hw_21 hP hD hK hS => ?_)
  generalize u_21 = f1 at hP hD hK hw_21
  have hP : va_P D vwCl [(h0, .inr (11, [.ref qc, .int (0 + 4), .ref fl, .null, .int wp])), (qc, .inl (cB, 1024, .inl f1))] H := hP
  have hD : va_D A [(h0, .inr (11, [.ref qc, .int (0 + 4), .ref fl, .null, .int wp])), (qc, .inl (cB, 1024, .inl f1))] := hD
  have hK : va_K D vwCl [(cB, .byte), (cB, .byte)] s := hK
  refine W.widen (k := 0) (n := 0) (by decide) (by decide) ?_
  have hK := hK.sub (tys' := [(cB, .byte)]) [0] rfl
  refine lv_aload_n hx hb dX11_feed_24 rfl (lv_at hl 0 rfl) ?_
  refine lv_iload_n hx hb dX11_feed_25 rfl (lv_at hl 2 rfl) ?_
  refine xb_gov (wr := []) (va_runV (As := [.int x1]) (rest := []) ⟨hx, hb, hml, hown, htb⟩ (cg_take l D g h0 qc (0 + 4) fl wp cB f1 x1 (Array.size H) (by decide) (by unfold vp_in; decide) (by unfold vp_in; decide) (by unfold vp_in; decide) (by unfold vp_in; decide)) (bg_V 1 htb bg_14 bg_16 bg_17 bg_18 bg_15 rfl rfl (by decide +kernel) ⟨Nat.le_of_ble_eq_true rfl, Nat.le_of_ble_eq_true rfl⟩) ⟨xb_blind xe_ok, va_recv hK hP (ci := 11) (q0 := 0) rfl rfl, xb_enter xe_ok hK hP hD hS hA hE [0, 1] rfl rfl rfl [0] rfl⟩ rfl rfl hl.1 rfl (lv_room (Nat.le_of_ble_eq_true rfl)) dX11_feed_26 ⟨Nat.le_of_ble_eq_true rfl, Nat.le_of_ble_eq_true rfl⟩) hK hP hD hS hA [0, 1] [] rfl rfl rfl (by decide) (fun u_26 H locs hw_26 hP hD hK hS => ?_)
  generalize u_26 = f2 at hP hD hK hw_26
  have hP : va_P D vwCl [(h0, .inr (11, [.ref qc, .int ((0 + 4) + 4), .ref fl, .null, .int wp])), (qc, .inl (cB, 1024, .inl f2))] H := hP
  have hD : va_D A [(h0, .inr (11, [.ref qc, .int ((0 + 4) + 4), .ref fl, .null, .int wp])), (qc, .inl (cB, 1024, .inl f2))] := hD
  have hK : va_K D vwCl [(cB, .byte), (cB, .byte)] s := hK
  refine W.widen (k := 0) (n := 0) (by decide) (by decide) ?_
  have hK := hK.sub (tys' := [(cB, .byte)]) [0] rfl
  refine lv_aload_n hx hb dX11_feed_29 rfl (lv_at hl 0 rfl) ?_
  refine lv_iload_n hx hb dX11_feed_30 rfl (lv_at hl 3 rfl) ?_
  refine xb_gov (wr := []) (va_runV (As := [.int x2]) (rest := []) ⟨hx, hb, hml, hown, htb⟩ (cg_take l D g h0 qc ((0 + 4) + 4) fl wp cB f2 x2 (Array.size H) (by decide) (by unfold vp_in; decide) (by unfold vp_in; decide) (by unfold vp_in; decide) (by unfold vp_in; decide)) (bg_V 1 htb bg_14 bg_16 bg_17 bg_18 bg_15 rfl rfl (by decide +kernel) ⟨Nat.le_of_ble_eq_true rfl, Nat.le_of_ble_eq_true rfl⟩) ⟨xb_blind xe_ok, va_recv hK hP (ci := 11) (q0 := 0) rfl rfl, xb_enter xe_ok hK hP hD hS hA hE [0, 1] rfl rfl rfl [0] rfl⟩ rfl rfl hl.1 rfl (lv_room (Nat.le_of_ble_eq_true rfl)) dX11_feed_31 ⟨Nat.le_of_ble_eq_true rfl, Nat.le_of_ble_eq_true rfl⟩) hK hP hD hS hA [0, 1] [] rfl rfl rfl (by decide) (fun u_31 H locs hw_31 hP hD hK hS => ?_)
  generalize u_31 = f3 at hP hD hK hw_31
  have hP : va_P D vwCl [(h0, .inr (11, [.ref qc, .int (((0 + 4) + 4) + 4), .ref fl, .null, .int wp])), (qc, .inl (cB, 1024, .inl f3))] H := hP
  have hD : va_D A [(h0, .inr (11, [.ref qc, .int (((0 + 4) + 4) + 4), .ref fl, .null, .int wp])), (qc, .inl (cB, 1024, .inl f3))] := hD
  have hK : va_K D vwCl [(cB, .byte), (cB, .byte)] s := hK
  refine W.widen (k := 0) (n := 0) (by decide) (by decide) ?_
  have hK := hK.sub (tys' := [(cB, .byte)]) [0] rfl
  refine lv_aload_n hx hb dX11_feed_34 rfl (lv_at hl 0 rfl) ?_
  refine lv_iload hx hb dX11_feed_35 (lv_at hl 4 rfl) ?_
  refine xb_gov (wr := []) (va_runV (As := [.int x3]) (rest := []) ⟨hx, hb, hml, hown, htb⟩ (cg_take l D g h0 qc (((0 + 4) + 4) + 4) fl wp cB f3 x3 (Array.size H) (by decide) (by unfold vp_in; decide) (by unfold vp_in; decide) (by unfold vp_in; decide) (by unfold vp_in; decide)) (bg_V 1 htb bg_14 bg_16 bg_17 bg_18 bg_15 rfl rfl (by decide +kernel) ⟨Nat.le_of_ble_eq_true rfl, Nat.le_of_ble_eq_true rfl⟩) ⟨xb_blind xe_ok, va_recv hK hP (ci := 11) (q0 := 0) rfl rfl, xb_enter xe_ok hK hP hD hS hA hE [0, 1] rfl rfl rfl [0] rfl⟩ rfl rfl hl.1 rfl (lv_room (Nat.le_of_ble_eq_true rfl)) dX11_feed_37 ⟨Nat.le_of_ble_eq_true rfl, Nat.le_of_ble_eq_true rfl⟩) hK hP hD hS hA [0, 1] [] rfl rfl rfl (by decide) (fun u_37 H locs hw_37 hP hD hK hS => ?_)
  generalize u_37 = f4 at hP hD hK hw_37
  have hP : va_P D vwCl [(h0, .inr (11, [.ref qc, .int ((((0 + 4) + 4) + 4) + 4), .ref fl, .null, .int wp])), (qc, .inl (cB, 1024, .inl f4))] H := hP
  have hD : va_D A [(h0, .inr (11, [.ref qc, .int ((((0 + 4) + 4) + 4) + 4), .ref fl, .null, .int wp])), (qc, .inl (cB, 1024, .inl f4))] := hD
  have hK : va_K D vwCl [(cB, .byte), (cB, .byte)] s := hK
  refine W.widen (k := 0) (n := 0) (by decide) (by decide) ?_
  have hK := hK.sub (tys' := [(cB, .byte)]) [0] rfl
  refine lv_aload_n hx hb dX11_feed_40 rfl (lv_at hl 0 rfl) ?_
  refine lv_iload hx hb dX11_feed_41 (lv_at hl 5 rfl) ?_
  refine xb_gov (wr := []) (va_runV (As := [.int x4]) (rest := []) ⟨hx, hb, hml, hown, htb⟩ (cg_take l D g h0 qc ((((0 + 4) + 4) + 4) + 4) fl wp cB f4 x4 (Array.size H) (by decide) (by unfold vp_in; decide) (by unfold vp_in; decide) (by unfold vp_in; decide) (by unfold vp_in; decide)) (bg_V 1 htb bg_14 bg_16 bg_17 bg_18 bg_15 rfl rfl (by decide +kernel) ⟨Nat.le_of_ble_eq_true rfl, Nat.le_of_ble_eq_true rfl⟩) ⟨xb_blind xe_ok, va_recv hK hP (ci := 11) (q0 := 0) rfl rfl, xb_enter xe_ok hK hP hD hS hA hE [0, 1] rfl rfl rfl [0] rfl⟩ rfl rfl hl.1 rfl (lv_room (Nat.le_of_ble_eq_true rfl)) dX11_feed_43 ⟨Nat.le_of_ble_eq_true rfl, Nat.le_of_ble_eq_true rfl⟩) hK hP hD hS hA [0, 1] [] rfl rfl rfl (by decide) (fun u_43 H locs hw_43 hP hD hK hS => ?_)
  generalize u_43 = f5 at hP hD hK hw_43
  have hP : va_P D vwCl [(h0, .inr (11, [.ref qc, .int (((((0 + 4) + 4) + 4) + 4) + 4), .ref fl, .null, .int wp])), (qc, .inl (cB, 1024, .inl f5))] H := hP
  have hD : va_D A [(h0, .inr (11, [.ref qc, .int (((((0 + 4) + 4) + 4) + 4) + 4), .ref fl, .null, .int wp])), (qc, .inl (cB, 1024, .inl f5))] := hD
  have hK : va_K D vwCl [(cB, .byte), (cB, .byte)] s := hK
  refine W.widen (k := 0) (n := 0) (by decide) (by decide) ?_
  have hK := hK.sub (tys' := [(cB, .byte)]) [0] rfl
  refine lv_aload_n hx hb dX11_feed_46 rfl (lv_at hl 0 rfl) ?_
  refine va_get (D := D) (ci := 11) (v := .int (((((0 + 4) + 4) + 4) + 4) + 4)) (C := RX11) (T := TX11) (N := 5) hx hb htb bi_X11 hown hK hP 0 rfl rfl 1 (by decide) (htb _ bg_10) (fun _ h9 => h9) rfl dX11_feed_47 ?_
  have hP9 := hP.sub (ws' := [(h0, .inr (11, [.ref qc, .int (((((0 + 4) + 4) + 4) + 4) + 4), .ref fl, .null, .int wp])), (qc, .inl (cB, 1024, .inl f5))]) [0, 1] rfl
  have hD9 := hD.sub (ws' := [(h0, .inr (11, [.ref qc, .int (((((0 + 4) + 4) + 4) + 4) + 4), .ref fl, .null, .int wp])), (qc, .inl (cB, 1024, .inl f5))]) [0, 1] rfl rfl
  have hK9 := hK.sub (tys' := [(cB, .byte)]) [0] rfl
  exact W.iret (v := (((((0 + 4) + 4) + 4) + 4) + 4)) hx hb hr (fun t ht hW => ⟨⟨(((((0 + 4) + 4) + 4) + 4) + 4), ((((((0 + 4) + 4) + 4) + 4) + 4), f5), rfl, show ((((((0 + 4) + 4) + 4) + 4) + 4) : Int32) = 20 by decide, by rw [ht]; exact hP9, va_K.moved hW.alike hK9, hD9⟩, hS.F ht⟩) hS.2.2 dX11_feed_50
theorem dJ7_copyOf_9075b_0 : decode cJ7_copyOf_9075b 0 = .ok (.iload_n 1, 1) := by decide +kernel
theorem dJ7_copyOf_9075b_1 : decode cJ7_copyOf_9075b 1 = .ok (.aload_n 0, 1) := by decide +kernel
theorem dJ7_copyOf_9075b_2 : decode cJ7_copyOf_9075b 2 = .ok (.arraylength, 1) := by decide +kernel
theorem dJ7_copyOf_9075b_3 : decode cJ7_copyOf_9075b 3 = .ok (.if_icmp .ne 11, 3) := by decide +kernel
theorem dJ7_copyOf_9075b_14 : decode cJ7_copyOf_9075b 14 = .ok (.iload_n 1, 1) := by decide +kernel
theorem dJ7_copyOf_9075b_15 : decode cJ7_copyOf_9075b 15 = .ok (.newarray .byte, 2) := by decide +kernel
theorem dJ7_copyOf_9075b_17 : decode cJ7_copyOf_9075b 17 = .ok (.astore_n 2, 1) := by decide +kernel
theorem dJ7_copyOf_9075b_18 : decode cJ7_copyOf_9075b 18 = .ok (.aload_n 0, 1) := by decide +kernel
theorem dJ7_copyOf_9075b_19 : decode cJ7_copyOf_9075b 19 = .ok (.iconst 0, 1) := by decide +kernel
theorem dJ7_copyOf_9075b_20 : decode cJ7_copyOf_9075b 20 = .ok (.aload_n 2, 1) := by decide +kernel
theorem dJ7_copyOf_9075b_21 : decode cJ7_copyOf_9075b 21 = .ok (.iconst 0, 1) := by decide +kernel
theorem dJ7_copyOf_9075b_22 : decode cJ7_copyOf_9075b 22 = .ok (.aload_n 0, 1) := by decide +kernel
theorem dJ7_copyOf_9075b_23 : decode cJ7_copyOf_9075b 23 = .ok (.arraylength, 1) := by decide +kernel
theorem dJ7_copyOf_9075b_24 : decode cJ7_copyOf_9075b 24 = .ok (.iload_n 1, 1) := by decide +kernel
theorem dJ7_copyOf_9075b_25 : decode cJ7_copyOf_9075b 25 = .ok (.invokestatic 304, 3) := by decide +kernel
theorem dJ7_copyOf_9075b_28 : decode cJ7_copyOf_9075b 28 = .ok (.invokestatic 150, 3) := by decide +kernel
theorem dJ7_copyOf_9075b_31 : decode cJ7_copyOf_9075b 31 = .ok (.aload_n 2, 1) := by decide +kernel
theorem dJ7_copyOf_9075b_32 : decode cJ7_copyOf_9075b 32 = .ok (.areturn, 1) := by decide +kernel
set_option maxHeartbeats 4000000 in
set_option maxRecDepth 100000 in
theorem cj_copyOf (l : Launch) (D : va_G) (g : xe_G) (qc : Nat) (cB : ClassId) (f : Nat → Int32) (sz : Nat)  : Met l yJ7_copyOf_9075b (.code yJ7_copyOf_9075b cJ7_copyOf_9075b 3 (some (.array .byte)) :: bg) ({ frames := 2, cells := 1, slots := 0, locals := 240 } : Room) (xb_Pre (xe_E g) D vwCl [(qc, .inl (cB, 1024, .inl f))] [(cB, .byte)] sz [.ref qc, .int 0]) (va_Qq (fun r u => r = some u.1) (xb_B D vwCl (va_A [(qc, .inl (cB, 1024, .inl f))] sz) (fun u : Nat × ClassId × (Nat → Int32) => [(qc, .inl (cB, 1024, .inl f)), (u.1, .inl (u.2.1, 0, .inl u.2.2))]) (fun u : Nat × ClassId × (Nat → Int32) => [(cB, .byte), (u.2.1, .byte)])) (va_A [(qc, .inl (cB, 1024, .inl f))] sz)) 1 0 (va_A [(qc, .inl (cB, 1024, .inl f))] sz) := by
  refine Met.ofW (cc := cJ7_copyOf_9075b) (maxL := 3) (ret := (some (.array .byte))) (by decide) rfl ?_
  intro p e s m args below meth c s₁ B hml hv
  obtain ⟨rfl, hsz, hP, hK, hD0, hE⟩ := hv
  have hx := B.exec
  have hb := B.bytes
  have hr := B.returns
  have hts := atoms_spec (ws := (.code yJ7_copyOf_9075b cJ7_copyOf_9075b 3 (some (.array .byte)) :: bg)) B.pre
  have htb : ∀ w ∈ bg, w.before _ s = true := fun w h => hts w (List.mem_cons_of_mem _ h)
  have hown : s.vm.findClass RJ7 = some m.cls := findClass_of_methodNamed B.named
  have hlocks := B.notSynchronized
  subst hsz
  have hD := hD0.self (sz := s.heap.size)
  generalize hAe : va_A [(qc, .inl (cB, 1024, .inl f))] s.heap.size = A at hD hE ⊢
  have hA : ∀ q : Nat, s.heap.size ≤ q → A q := fun q h => by rw [← hAe]; exact Or.inr h
  have hS : va_S A s.heap s.heap [] := va_S.rf
  have hP : va_P D vwCl [(qc, .inl (cB, 1024, .inl f))] s.heap := hP
  have hl := lv_entry ([.ref qc, .int 0]) (n := 3) (Nat.le_of_ble_eq_true rfl)
  rw [lg_entry_eq]
  generalize (lg_sl ([.ref qc, .int 0]) ++ List.replicate (3 - (lg_sl ([.ref qc, .int 0])).length) Slot.unset).toArray = ls at hl ⊢
  have hl : lv_has ls 3 [(0, .ref qc), (1, .int 0)] := hl
  refine lv_iload_n hx hb dJ7_copyOf_9075b_0 rfl (lv_at hl 1 rfl) ?_
  refine lv_aload_n hx hb dJ7_copyOf_9075b_1 rfl (lv_at hl 0 rfl) ?_
  refine va_alen (v := 1024) hx hb hK hP 0 0 rfl rfl rfl dJ7_copyOf_9075b_2 ?_
  refine lv_icmp_ne (tgt := 14) hx hb dJ7_copyOf_9075b_3 (by decide) (fun c_3 => ?_) (fun c_3 => ?_)
  rotate_left
  · exact absurd c_3 (by decide)
  refine lv_iload_n hx hb dJ7_copyOf_9075b_14 rfl (lv_at hl 1 rfl) ?_
  refine va_newa (atype := .byte) (ty := .byte) (a0 := (0, .inl (fun _ => 0))) (N' := 0) hx hb (htb _ bg_4) rfl hK hP hD hS hA (fun _ => rfl) (by decide) (by decide) (by decide) (Nat.le_of_ble_eq_true rfl) (Nat.le_of_ble_eq_true rfl) dJ7_copyOf_9075b_15 (fun q15 a15 H hK hP hD hS => ?_)
  have hP : va_P D vwCl [(qc, .inl (cB, 1024, .inl f)), (q15, .inl (a15, 0, .inl (fun _ => 0)))] H := hP
  have hD : va_D A [(qc, .inl (cB, 1024, .inl f)), (q15, .inl (a15, 0, .inl (fun _ => 0)))] := hD
  have hK : va_K D vwCl [(cB, .byte), (a15, .byte)] s := hK
  refine W.widen (k := 1) (n := 0) (by decide) (by decide) ?_
  refine lv_astore_n (lv' := [(2, .ref q15), (0, .ref qc), (1, .int 0)]) hx hb dJ7_copyOf_9075b_17 rfl hl (by decide) rfl (fun ls hl => ?_)
  refine lv_aload_n hx hb dJ7_copyOf_9075b_18 rfl (lv_at hl 1 rfl) ?_
  refine lv_iconst (v := 0) hx hb dJ7_copyOf_9075b_19 (by decide) ?_
  refine lv_aload_n hx hb dJ7_copyOf_9075b_20 rfl (lv_at hl 0 rfl) ?_
  refine lv_iconst (v := 0) hx hb dJ7_copyOf_9075b_21 (by decide) ?_
  refine lv_aload_n hx hb dJ7_copyOf_9075b_22 rfl (lv_at hl 1 rfl) ?_
  refine va_alen (v := 1024) hx hb hK hP 0 0 rfl rfl rfl dJ7_copyOf_9075b_23 ?_
  refine lv_iload_n hx hb dJ7_copyOf_9075b_24 rfl (lv_at hl 2 rfl) ?_
  refine va_mmin hx hb (by rw [hml]; exact hl.1.symm) hown (htb _ bg_615) (htb _ bg_616) (htb _ bg_622) (htb _ bg_617) (Nat.le_of_ble_eq_true rfl) (Nat.le_of_ble_eq_true rfl) (Nat.le_of_ble_eq_true rfl) (Nat.le_of_ble_eq_true rfl) dJ7_copyOf_9075b_25 ?_
  refine lv_topi (fun x_25 ex_25 => ?_)
  have hx_25 : x_25 = 0 := by rw [ex_25]; rfl
  rw [hx_25]
  refine va_copyi hx hb (by rw [hml]; exact hl.1.symm) hown (htb _ bg_624) (htb _ bg_625) (htb _ bg_626) (htb _ bg_623) hK hP hD hS 0 1 0 1 rfl rfl rfl rfl rfl (by decide) (by decide) (by decide) (by decide) (by decide) (fun i hi => absurd (show i < 0 from hi) (Nat.not_lt_zero i)) (Nat.le_of_ble_eq_true rfl) (by decide) dJ7_copyOf_9075b_28 (fun H locs hP hD hS => ?_)
  have hP : va_P D vwCl [(qc, .inl (cB, 1024, .inl f)), (q15, .inl (a15, 0, .inl (va_cpy f (fun _ => 0) (Int32.toNatClampNeg 0) (Int32.toNatClampNeg 0) (Int32.toNatClampNeg 0))))] H := hP
  have hD : va_D A [(qc, .inl (cB, 1024, .inl f)), (q15, .inl (a15, 0, .inl (va_cpy f (fun _ => 0) (Int32.toNatClampNeg 0) (Int32.toNatClampNeg 0) (Int32.toNatClampNeg 0))))] := hD
  generalize (va_cpy f (fun _ => 0) (Int32.toNatClampNeg 0) (Int32.toNatClampNeg 0) (Int32.toNatClampNeg 0)) = cp28 at hP hD
  refine lv_aload_n hx hb dJ7_copyOf_9075b_31 rfl (lv_at hl 0 rfl) ?_
  have hP9 := hP.sub (ws' := [(qc, .inl (cB, 1024, .inl f)), (q15, .inl (a15, 0, .inl cp28))]) [0, 1] rfl
  have hD9 := hD.sub (ws' := [(qc, .inl (cB, 1024, .inl f)), (q15, .inl (a15, 0, .inl cp28))]) [0, 1] rfl rfl
  have hK9 := hK.sub (tys' := [(cB, .byte), (a15, .byte)]) [0, 1] rfl
  exact W.aret (v := .ref q15) hx hb hr (Or.inr ⟨_, rfl⟩) (Or.inr ⟨_, rfl⟩) (fun t ht hW => ⟨⟨(some q15), (q15, a15, cp28), rfl, rfl, by rw [ht]; exact hP9, va_K.moved hW.alike hK9, hD9⟩, hS.F ht⟩) hS.2.2 dJ7_copyOf_9075b_32
theorem dX11_count_0 : decode cX11_count 0 = .ok (.iload_n 1, 1) := by decide +kernel
theorem dX11_count_1 : decode cX11_count 1 = .ok (.ifCond .lt 9, 3) := by decide +kernel
theorem dX11_count_4 : decode cX11_count 4 = .ok (.iload_n 1, 1) := by decide +kernel
theorem dX11_count_5 : decode cX11_count 5 = .ok (.bipush 15, 2) := by decide +kernel
theorem dX11_count_7 : decode cX11_count 7 = .ok (.if_icmp .le 13, 3) := by decide +kernel
theorem dX11_count_10 : decode cX11_count 10 = .ok (.new 44, 3) := by decide +kernel
theorem dX11_count_13 : decode cX11_count 13 = .ok (.dup, 1) := by decide +kernel
theorem dX11_count_14 : decode cX11_count 14 = .ok (.ldc 148, 2) := by decide +kernel
theorem dX11_count_16 : decode cX11_count 16 = .ok (.invokespecial 48, 3) := by decide +kernel
theorem dX11_count_19 : decode cX11_count 19 = .ok (.athrow, 1) := by decide +kernel
theorem dX11_count_20 : decode cX11_count 20 = .ok (.aload_n 0, 1) := by decide +kernel
theorem dX11_count_21 : decode cX11_count 21 = .ok (.getfield 69, 3) := by decide +kernel
theorem dX11_count_24 : decode cX11_count 24 = .ok (.ifnonnull 7, 3) := by decide +kernel
theorem dX11_count_27 : decode cX11_count 27 = .ok (.iconst (-1), 1) := by decide +kernel
theorem dX11_count_28 : decode cX11_count 28 = .ok (.goto 11, 3) := by decide +kernel
theorem dX11_count_39 : decode cX11_count 39 = .ok (.ireturn, 1) := by decide +kernel
set_option maxHeartbeats 4000000 in
set_option maxRecDepth 100000 in
theorem cg_count (l : Launch) (D : va_G) (g : xe_G) (h0 : Nat) (qc : Nat) (n : Int32) (fl : Nat) (wp : Int32) (x0 : Int32) (sz : Nat)  (hnt : l.stackTraces = false) : vx_Met l yX11_count (.code yX11_count cX11_count 2 (some .int) :: bg) ({ frames := 8, cells := 1, slots := 6, locals := 600 } : Room) (xb_Pre (xe_E g) D vwCl [(h0, .inr (11, [.ref qc, .int n, .ref fl, .null, .int wp]))] [] sz [.ref h0, .int x0]) (va_Qi (fun r _ => r = -1 ∧ ¬ x0 < 0 ∧ x0 ≤ 15) (xb_B D vwCl (va_A [(h0, .inr (11, [.ref qc, .int n, .ref fl, .null, .int wp]))] sz) (fun u : Unit => [(h0, .inr (11, [.ref qc, .int n, .ref fl, .null, .int wp]))]) (fun u : Unit => [])) (va_A [(h0, .inr (11, [.ref qc, .int n, .ref fl, .null, .int wp]))] sz)) (vx_X (fun _ : Unit => (x0 < 0 ∨ ¬ x0 ≤ 15)) (fun E (_ : Unit) t => E = "java/lang/IllegalArgumentException" ∧ xb_B D vwCl (va_A [(h0, .inr (11, [.ref qc, .int n, .ref fl, .null, .int wp]))] sz) (fun _ : Unit => [(h0, .inr (11, [.ref qc, .int n, .ref fl, .null, .int wp]))]) (fun _ : Unit => []) () t) (va_A [(h0, .inr (11, [.ref qc, .int n, .ref fl, .null, .int wp]))] sz)) 1 6 (va_A [(h0, .inr (11, [.ref qc, .int n, .ref fl, .null, .int wp]))] sz) := by
  refine vx_ofW (cc := cX11_count) (maxL := 2) (ret := (some .int)) (by decide) rfl ?_
  intro p e s m args below meth c s₁ B hml hemp hv
  obtain ⟨rfl, hsz, hP, hK, hD0, hE⟩ := hv
  have hx := B.exec
  have hb := B.bytes
  have hr := B.returns
  have hts := atoms_spec (ws := (.code yX11_count cX11_count 2 (some .int) :: bg)) B.pre
  have htb : ∀ w ∈ bg, w.before _ s = true := fun w h => hts w (List.mem_cons_of_mem _ h)
  have hown : s.vm.findClass RX11 = some m.cls := findClass_of_methodNamed B.named
  have hlocks := B.notSynchronized
  subst hsz
  have hD := hD0.self (sz := s.heap.size)
  generalize hAe : va_A [(h0, .inr (11, [.ref qc, .int n, .ref fl, .null, .int wp]))] s.heap.size = A at hD hE ⊢
  have hA : ∀ q : Nat, s.heap.size ≤ q → A q := fun q h => by rw [← hAe]; exact Or.inr h
  have hS : va_S A s.heap s.heap [] := va_S.rf
  have hP : va_P D vwCl [(h0, .inr (11, [.ref qc, .int n, .ref fl, .null, .int wp]))] s.heap := hP
  have hl := lv_entry ([.ref h0, .int x0]) (n := 2) (Nat.le_of_ble_eq_true rfl)
  rw [lg_entry_eq]
  generalize (lg_sl ([.ref h0, .int x0]) ++ List.replicate (2 - (lg_sl ([.ref h0, .int x0])).length) Slot.unset).toArray = ls at hl ⊢
  have hl : lv_has ls 2 [(0, .ref h0), (1, .int x0)] := hl
  refine lv_iload_n hx hb dX11_count_0 rfl (lv_at hl 1 rfl) ?_
  refine lv_if_lt (tgt := 10) hx hb dX11_count_1 (by decide) (fun c_1 => ?_) (fun c_1 => ?_)
  · skip
    exact vx_throwS (A := A) hx hb hnt hown (by decide) (by decide) (htb _ bg_24) (htb _ bg_25) (hE.2.2.2.2.2.2.1 14 (by decide)).1 (xe_hat hE htb) xe_ot hE.2.2.2.2.1 hE.2.2.2.2.2.1 hS (by rw [hml]; exact hl.1) dX11_count_10 dX11_count_13 dX11_count_14 dX11_count_16 dX11_count_19 (fun x hx => (hemp x hx).elim) (Nat.le_of_ble_eq_true rfl) (Nat.le_of_ble_eq_true rfl) (Nat.le_of_ble_eq_true rfl) (Nat.le_of_ble_eq_true rfl) hlocks (fun t ht hz hk => xe_thrown (by first | exact Or.inl c_1 | exact Or.inr c_7) hP hK hD hS ht hz hk) hS.2.2 (by decide) (by decide)
  · skip
    refine lv_iload_n hx hb dX11_count_4 rfl (lv_at hl 1 rfl) ?_
    refine lv_bipush (v := 15) hx hb dX11_count_5 (by decide) ?_
    refine lv_icmp_le (tgt := 20) hx hb dX11_count_7 (by decide) (fun c_7 => ?_) (fun c_7 => ?_)
    · skip
      refine lv_aload_n hx hb dX11_count_20 rfl (lv_at hl 0 rfl) ?_
      refine va_get (D := D) (ci := 11) (v := .null) (C := RX11) (T := TX11) (N := 5) hx hb htb bi_X11 hown hK hP 0 rfl rfl 3 (by decide) (htb _ bg_48) (fun _ h9 => h9) rfl dX11_count_21 ?_
      refine lv_ifnonnullN hx hb dX11_count_24 ?_
      refine lv_iconst (v := (-1)) hx hb dX11_count_27 (by decide) ?_
      refine lv_goto (tgt := 39) hx hb dX11_count_28 (by decide) ?_
      have hP9 := hP.sub (ws' := [(h0, .inr (11, [.ref qc, .int n, .ref fl, .null, .int wp]))]) [0] rfl
      have hD9 := hD.sub (ws' := [(h0, .inr (11, [.ref qc, .int n, .ref fl, .null, .int wp]))]) [0] rfl rfl
      have hK9 := hK.sub (tys' := []) [] rfl
      refine W.widen (k := 1) (n := 6) (by decide) (by decide) ?_
      refine vx_ret ?_
      exact W.iret (v := (-1)) hx hb hr (fun t ht hW => ⟨⟨(-1), (), rfl, ⟨rfl, c_1, c_7⟩, by rw [ht]; exact hP9, va_K.moved hW.alike hK9, hD9⟩, hS.F ht⟩) hS.2.2 dX11_count_39
    · skip
      exact vx_throwS (A := A) hx hb hnt hown (by decide) (by decide) (htb _ bg_24) (htb _ bg_25) (hE.2.2.2.2.2.2.1 14 (by decide)).1 (xe_hat hE htb) xe_ot hE.2.2.2.2.1 hE.2.2.2.2.2.1 hS (by rw [hml]; exact hl.1) dX11_count_10 dX11_count_13 dX11_count_14 dX11_count_16 dX11_count_19 (fun x hx => (hemp x hx).elim) (Nat.le_of_ble_eq_true rfl) (Nat.le_of_ble_eq_true rfl) (Nat.le_of_ble_eq_true rfl) (Nat.le_of_ble_eq_true rfl) hlocks (fun t ht hz hk => xe_thrown (by first | exact Or.inl c_1 | exact Or.inr c_7) hP hK hD hS ht hz hk) hS.2.2 (by decide) (by decide)
theorem dX11_entry_0 : decode cX11_entry 0 = .ok (.iload_n 2, 1) := by decide +kernel
theorem dX11_entry_1 : decode cX11_entry 1 = .ok (.ifCond .lt 8, 3) := by decide +kernel
theorem dX11_entry_4 : decode cX11_entry 4 = .ok (.iload_n 2, 1) := by decide +kernel
theorem dX11_entry_5 : decode cX11_entry 5 = .ok (.iconst 2, 1) := by decide +kernel
theorem dX11_entry_6 : decode cX11_entry 6 = .ok (.if_icmp .le 13, 3) := by decide +kernel
theorem dX11_entry_9 : decode cX11_entry 9 = .ok (.new 44, 3) := by decide +kernel
theorem dX11_entry_12 : decode cX11_entry 12 = .ok (.dup, 1) := by decide +kernel
theorem dX11_entry_13 : decode cX11_entry 13 = .ok (.ldc 154, 2) := by decide +kernel
theorem dX11_entry_15 : decode cX11_entry 15 = .ok (.invokespecial 48, 3) := by decide +kernel
theorem dX11_entry_18 : decode cX11_entry 18 = .ok (.athrow, 1) := by decide +kernel
theorem dX11_entry_19 : decode cX11_entry 19 = .ok (.aload_n 0, 1) := by decide +kernel
theorem dX11_entry_20 : decode cX11_entry 20 = .ok (.getfield 69, 3) := by decide +kernel
theorem dX11_entry_23 : decode cX11_entry 23 = .ok (.ifnull 21, 3) := by decide +kernel
theorem dX11_entry_44 : decode cX11_entry 44 = .ok (.iconst (-1), 1) := by decide +kernel
theorem dX11_entry_45 : decode cX11_entry 45 = .ok (.ireturn, 1) := by decide +kernel
set_option maxHeartbeats 4000000 in
set_option maxRecDepth 100000 in
theorem cg_entry (l : Launch) (D : va_G) (g : xe_G) (h0 : Nat) (qc : Nat) (n : Int32) (fl : Nat) (wp : Int32) (x0 : Int32) (x1 : Int32) (sz : Nat)  (hnt : l.stackTraces = false) : vx_Met l yX11_entry (.code yX11_entry cX11_entry 3 (some .int) :: bg) ({ frames := 8, cells := 1, slots := 6, locals := 600 } : Room) (xb_Pre (xe_E g) D vwCl [(h0, .inr (11, [.ref qc, .int n, .ref fl, .null, .int wp]))] [] sz [.ref h0, .int x0, .int x1]) (va_Qi (fun r _ => r = -1 ∧ ¬ x1 < 0 ∧ x1 ≤ 2) (xb_B D vwCl (va_A [(h0, .inr (11, [.ref qc, .int n, .ref fl, .null, .int wp]))] sz) (fun u : Unit => [(h0, .inr (11, [.ref qc, .int n, .ref fl, .null, .int wp]))]) (fun u : Unit => [])) (va_A [(h0, .inr (11, [.ref qc, .int n, .ref fl, .null, .int wp]))] sz)) (vx_X (fun _ : Unit => (x1 < 0 ∨ ¬ x1 ≤ 2)) (fun E (_ : Unit) t => E = "java/lang/IllegalArgumentException" ∧ xb_B D vwCl (va_A [(h0, .inr (11, [.ref qc, .int n, .ref fl, .null, .int wp]))] sz) (fun _ : Unit => [(h0, .inr (11, [.ref qc, .int n, .ref fl, .null, .int wp]))]) (fun _ : Unit => []) () t) (va_A [(h0, .inr (11, [.ref qc, .int n, .ref fl, .null, .int wp]))] sz)) 1 6 (va_A [(h0, .inr (11, [.ref qc, .int n, .ref fl, .null, .int wp]))] sz) := by
  refine vx_ofW (cc := cX11_entry) (maxL := 3) (ret := (some .int)) (by decide) rfl ?_
  intro p e s m args below meth c s₁ B hml hemp hv
  obtain ⟨rfl, hsz, hP, hK, hD0, hE⟩ := hv
  have hx := B.exec
  have hb := B.bytes
  have hr := B.returns
  have hts := atoms_spec (ws := (.code yX11_entry cX11_entry 3 (some .int) :: bg)) B.pre
  have htb : ∀ w ∈ bg, w.before _ s = true := fun w h => hts w (List.mem_cons_of_mem _ h)
  have hown : s.vm.findClass RX11 = some m.cls := findClass_of_methodNamed B.named
  have hlocks := B.notSynchronized
  subst hsz
  have hD := hD0.self (sz := s.heap.size)
  generalize hAe : va_A [(h0, .inr (11, [.ref qc, .int n, .ref fl, .null, .int wp]))] s.heap.size = A at hD hE ⊢
  have hA : ∀ q : Nat, s.heap.size ≤ q → A q := fun q h => by rw [← hAe]; exact Or.inr h
  have hS : va_S A s.heap s.heap [] := va_S.rf
  have hP : va_P D vwCl [(h0, .inr (11, [.ref qc, .int n, .ref fl, .null, .int wp]))] s.heap := hP
  have hl := lv_entry ([.ref h0, .int x0, .int x1]) (n := 3) (Nat.le_of_ble_eq_true rfl)
  rw [lg_entry_eq]
  generalize (lg_sl ([.ref h0, .int x0, .int x1]) ++ List.replicate (3 - (lg_sl ([.ref h0, .int x0, .int x1])).length) Slot.unset).toArray = ls at hl ⊢
  have hl : lv_has ls 3 [(0, .ref h0), (1, .int x0), (2, .int x1)] := hl
  refine lv_iload_n hx hb dX11_entry_0 rfl (lv_at hl 2 rfl) ?_
  refine lv_if_lt (tgt := 9) hx hb dX11_entry_1 (by decide) (fun c_1 => ?_) (fun c_1 => ?_)
  · skip
    exact vx_throwS (A := A) hx hb hnt hown (by decide) (by decide) (htb _ bg_24) (htb _ bg_25) (hE.2.2.2.2.2.2.1 15 (by decide)).1 (xe_hat hE htb) xe_ot hE.2.2.2.2.1 hE.2.2.2.2.2.1 hS (by rw [hml]; exact hl.1) dX11_entry_9 dX11_entry_12 dX11_entry_13 dX11_entry_15 dX11_entry_18 (fun x hx => (hemp x hx).elim) (Nat.le_of_ble_eq_true rfl) (Nat.le_of_ble_eq_true rfl) (Nat.le_of_ble_eq_true rfl) (Nat.le_of_ble_eq_true rfl) hlocks (fun t ht hz hk => xe_thrown (by first | exact Or.inl c_1 | exact Or.inr c_6) hP hK hD hS ht hz hk) hS.2.2 (by decide) (by decide)
  · skip
    refine lv_iload_n hx hb dX11_entry_4 rfl (lv_at hl 2 rfl) ?_
    refine lv_iconst (v := 2) hx hb dX11_entry_5 (by decide) ?_
    refine lv_icmp_le (tgt := 19) hx hb dX11_entry_6 (by decide) (fun c_6 => ?_) (fun c_6 => ?_)
    · skip
      refine lv_aload_n hx hb dX11_entry_19 rfl (lv_at hl 0 rfl) ?_
      refine va_get (D := D) (ci := 11) (v := .null) (C := RX11) (T := TX11) (N := 5) hx hb htb bi_X11 hown hK hP 0 rfl rfl 3 (by decide) (htb _ bg_48) (fun _ h9 => h9) rfl dX11_entry_20 ?_
      refine lv_ifnullN (tgt := 44) hx hb dX11_entry_23 (by decide) ?_
      refine lv_iconst (v := (-1)) hx hb dX11_entry_44 (by decide) ?_
      have hP9 := hP.sub (ws' := [(h0, .inr (11, [.ref qc, .int n, .ref fl, .null, .int wp]))]) [0] rfl
      have hD9 := hD.sub (ws' := [(h0, .inr (11, [.ref qc, .int n, .ref fl, .null, .int wp]))]) [0] rfl rfl
      have hK9 := hK.sub (tys' := []) [] rfl
      refine W.widen (k := 1) (n := 6) (by decide) (by decide) ?_
      refine vx_ret ?_
      exact W.iret (v := (-1)) hx hb hr (fun t ht hW => ⟨⟨(-1), (), rfl, ⟨rfl, c_1, c_6⟩, by rw [ht]; exact hP9, va_K.moved hW.alike hK9, hD9⟩, hS.F ht⟩) hS.2.2 dX11_entry_45
    · skip
      exact vx_throwS (A := A) hx hb hnt hown (by decide) (by decide) (htb _ bg_24) (htb _ bg_25) (hE.2.2.2.2.2.2.1 15 (by decide)).1 (xe_hat hE htb) xe_ot hE.2.2.2.2.1 hE.2.2.2.2.2.1 hS (by rw [hml]; exact hl.1) dX11_entry_9 dX11_entry_12 dX11_entry_13 dX11_entry_15 dX11_entry_18 (fun x hx => (hemp x hx).elim) (Nat.le_of_ble_eq_true rfl) (Nat.le_of_ble_eq_true rfl) (Nat.le_of_ble_eq_true rfl) (Nat.le_of_ble_eq_true rfl) hlocks (fun t ht hz hk => xe_thrown (by first | exact Or.inl c_1 | exact Or.inr c_6) hP hK hD hS ht hz hk) hS.2.2 (by decide) (by decide)
theorem dX11_member_0 : decode cX11_member 0 = .ok (.iload_n 3, 1) := by decide +kernel
theorem dX11_member_1 : decode cX11_member 1 = .ok (.ifCond .lt 9, 3) := by decide +kernel
theorem dX11_member_4 : decode cX11_member 4 = .ok (.iload_n 3, 1) := by decide +kernel
theorem dX11_member_5 : decode cX11_member 5 = .ok (.bipush 9, 2) := by decide +kernel
theorem dX11_member_7 : decode cX11_member 7 = .ok (.if_icmp .le 13, 3) := by decide +kernel
theorem dX11_member_10 : decode cX11_member 10 = .ok (.new 44, 3) := by decide +kernel
theorem dX11_member_13 : decode cX11_member 13 = .ok (.dup, 1) := by decide +kernel
theorem dX11_member_14 : decode cX11_member 14 = .ok (.ldc 187, 2) := by decide +kernel
theorem dX11_member_16 : decode cX11_member 16 = .ok (.invokespecial 48, 3) := by decide +kernel
theorem dX11_member_19 : decode cX11_member 19 = .ok (.athrow, 1) := by decide +kernel
theorem dX11_member_20 : decode cX11_member 20 = .ok (.aload_n 0, 1) := by decide +kernel
theorem dX11_member_21 : decode cX11_member 21 = .ok (.getfield 69, 3) := by decide +kernel
theorem dX11_member_24 : decode cX11_member 24 = .ok (.ifnonnull 7, 3) := by decide +kernel
theorem dX11_member_27 : decode cX11_member 27 = .ok (.aconst_null, 1) := by decide +kernel
theorem dX11_member_28 : decode cX11_member 28 = .ok (.goto 12, 3) := by decide +kernel
theorem dX11_member_40 : decode cX11_member 40 = .ok (.astore 4, 2) := by decide +kernel
theorem dX11_member_42 : decode cX11_member 42 = .ok (.aload 4, 2) := by decide +kernel
theorem dX11_member_44 : decode cX11_member 44 = .ok (.ifnonnull 7, 3) := by decide +kernel
theorem dX11_member_47 : decode cX11_member 47 = .ok (.iconst (-1), 1) := by decide +kernel
theorem dX11_member_48 : decode cX11_member 48 = .ok (.goto 10, 3) := by decide +kernel
theorem dX11_member_58 : decode cX11_member 58 = .ok (.ireturn, 1) := by decide +kernel
set_option maxHeartbeats 4000000 in
set_option maxRecDepth 100000 in
theorem cg_member (l : Launch) (D : va_G) (g : xe_G) (h0 : Nat) (qc : Nat) (n : Int32) (fl : Nat) (wp : Int32) (x0 : Int32) (x1 : Int32) (x2 : Int32) (sz : Nat)  (hnt : l.stackTraces = false) : vx_Met l yX11_member (.code yX11_member cX11_member 5 (some .int) :: bg) ({ frames := 8, cells := 1, slots := 6, locals := 600 } : Room) (xb_Pre (xe_E g) D vwCl [(h0, .inr (11, [.ref qc, .int n, .ref fl, .null, .int wp]))] [] sz [.ref h0, .int x0, .int x1, .int x2]) (va_Qi (fun r _ => r = -1 ∧ ¬ x2 < 0 ∧ x2 ≤ 9) (xb_B D vwCl (va_A [(h0, .inr (11, [.ref qc, .int n, .ref fl, .null, .int wp]))] sz) (fun u : Unit => [(h0, .inr (11, [.ref qc, .int n, .ref fl, .null, .int wp]))]) (fun u : Unit => [])) (va_A [(h0, .inr (11, [.ref qc, .int n, .ref fl, .null, .int wp]))] sz)) (vx_X (fun _ : Unit => (x2 < 0 ∨ ¬ x2 ≤ 9)) (fun E (_ : Unit) t => E = "java/lang/IllegalArgumentException" ∧ xb_B D vwCl (va_A [(h0, .inr (11, [.ref qc, .int n, .ref fl, .null, .int wp]))] sz) (fun _ : Unit => [(h0, .inr (11, [.ref qc, .int n, .ref fl, .null, .int wp]))]) (fun _ : Unit => []) () t) (va_A [(h0, .inr (11, [.ref qc, .int n, .ref fl, .null, .int wp]))] sz)) 1 6 (va_A [(h0, .inr (11, [.ref qc, .int n, .ref fl, .null, .int wp]))] sz) := by
  refine vx_ofW (cc := cX11_member) (maxL := 5) (ret := (some .int)) (by decide) rfl ?_
  intro p e s m args below meth c s₁ B hml hemp hv
  obtain ⟨rfl, hsz, hP, hK, hD0, hE⟩ := hv
  have hx := B.exec
  have hb := B.bytes
  have hr := B.returns
  have hts := atoms_spec (ws := (.code yX11_member cX11_member 5 (some .int) :: bg)) B.pre
  have htb : ∀ w ∈ bg, w.before _ s = true := fun w h => hts w (List.mem_cons_of_mem _ h)
  have hown : s.vm.findClass RX11 = some m.cls := findClass_of_methodNamed B.named
  have hlocks := B.notSynchronized
  subst hsz
  have hD := hD0.self (sz := s.heap.size)
  generalize hAe : va_A [(h0, .inr (11, [.ref qc, .int n, .ref fl, .null, .int wp]))] s.heap.size = A at hD hE ⊢
  have hA : ∀ q : Nat, s.heap.size ≤ q → A q := fun q h => by rw [← hAe]; exact Or.inr h
  have hS : va_S A s.heap s.heap [] := va_S.rf
  have hP : va_P D vwCl [(h0, .inr (11, [.ref qc, .int n, .ref fl, .null, .int wp]))] s.heap := hP
  have hl := lv_entry ([.ref h0, .int x0, .int x1, .int x2]) (n := 5) (Nat.le_of_ble_eq_true rfl)
  rw [lg_entry_eq]
  generalize (lg_sl ([.ref h0, .int x0, .int x1, .int x2]) ++ List.replicate (5 - (lg_sl ([.ref h0, .int x0, .int x1, .int x2])).length) Slot.unset).toArray = ls at hl ⊢
  have hl : lv_has ls 5 [(0, .ref h0), (1, .int x0), (2, .int x1), (3, .int x2)] := hl
  refine lv_iload_n hx hb dX11_member_0 rfl (lv_at hl 3 rfl) ?_
  refine lv_if_lt (tgt := 10) hx hb dX11_member_1 (by decide) (fun c_1 => ?_) (fun c_1 => ?_)
  · skip
    exact vx_throwS (A := A) hx hb hnt hown (by decide) (by decide) (htb _ bg_24) (htb _ bg_25) (hE.2.2.2.2.2.2.1 16 (by decide)).1 (xe_hat hE htb) xe_ot hE.2.2.2.2.1 hE.2.2.2.2.2.1 hS (by rw [hml]; exact hl.1) dX11_member_10 dX11_member_13 dX11_member_14 dX11_member_16 dX11_member_19 (fun x hx => (hemp x hx).elim) (Nat.le_of_ble_eq_true rfl) (Nat.le_of_ble_eq_true rfl) (Nat.le_of_ble_eq_true rfl) (Nat.le_of_ble_eq_true rfl) hlocks (fun t ht hz hk => xe_thrown (by first | exact Or.inl c_1 | exact Or.inr c_7) hP hK hD hS ht hz hk) hS.2.2 (by decide) (by decide)
  · skip
    refine lv_iload_n hx hb dX11_member_4 rfl (lv_at hl 3 rfl) ?_
    refine lv_bipush (v := 9) hx hb dX11_member_5 (by decide) ?_
    refine lv_icmp_le (tgt := 20) hx hb dX11_member_7 (by decide) (fun c_7 => ?_) (fun c_7 => ?_)
    · skip
      refine lv_aload_n hx hb dX11_member_20 rfl (lv_at hl 0 rfl) ?_
      refine va_get (D := D) (ci := 11) (v := .null) (C := RX11) (T := TX11) (N := 5) hx hb htb bi_X11 hown hK hP 0 rfl rfl 3 (by decide) (htb _ bg_48) (fun _ h9 => h9) rfl dX11_member_21 ?_
      refine lv_ifnonnullN hx hb dX11_member_24 ?_
      refine lv_null hx hb dX11_member_27 ?_
      refine lv_goto (tgt := 40) hx hb dX11_member_28 (by decide) ?_
      refine lv_astoreN (lv' := [(4, .null), (0, .ref h0), (1, .int x0), (2, .int x1), (3, .int x2)]) hx hb dX11_member_40 hl (by decide) rfl (fun ls hl => ?_)
      refine lv_aloadN hx hb dX11_member_42 (lv_at hl 0 rfl) ?_
      refine lv_ifnonnullN hx hb dX11_member_44 ?_
      refine lv_iconst (v := (-1)) hx hb dX11_member_47 (by decide) ?_
      refine lv_goto (tgt := 58) hx hb dX11_member_48 (by decide) ?_
      have hP9 := hP.sub (ws' := [(h0, .inr (11, [.ref qc, .int n, .ref fl, .null, .int wp]))]) [0] rfl
      have hD9 := hD.sub (ws' := [(h0, .inr (11, [.ref qc, .int n, .ref fl, .null, .int wp]))]) [0] rfl rfl
      have hK9 := hK.sub (tys' := []) [] rfl
      refine W.widen (k := 1) (n := 6) (by decide) (by decide) ?_
      refine vx_ret ?_
      exact W.iret (v := (-1)) hx hb hr (fun t ht hW => ⟨⟨(-1), (), rfl, ⟨rfl, c_1, c_7⟩, by rw [ht]; exact hP9, va_K.moved hW.alike hK9, hD9⟩, hS.F ht⟩) hS.2.2 dX11_member_58
    · skip
      exact vx_throwS (A := A) hx hb hnt hown (by decide) (by decide) (htb _ bg_24) (htb _ bg_25) (hE.2.2.2.2.2.2.1 16 (by decide)).1 (xe_hat hE htb) xe_ot hE.2.2.2.2.1 hE.2.2.2.2.2.1 hS (by rw [hml]; exact hl.1) dX11_member_10 dX11_member_13 dX11_member_14 dX11_member_16 dX11_member_19 (fun x hx => (hemp x hx).elim) (Nat.le_of_ble_eq_true rfl) (Nat.le_of_ble_eq_true rfl) (Nat.le_of_ble_eq_true rfl) (Nat.le_of_ble_eq_true rfl) hlocks (fun t ht hz hk => xe_thrown (by first | exact Or.inl c_1 | exact Or.inr c_7) hP hK hD hS ht hz hk) hS.2.2 (by decide) (by decide)
theorem dX11_row_0 : decode cX11_row 0 = .ok (.iload_n 3, 1) := by decide +kernel
theorem dX11_row_1 : decode cX11_row 1 = .ok (.ifCond .lt 8, 3) := by decide +kernel
theorem dX11_row_4 : decode cX11_row 4 = .ok (.iload_n 3, 1) := by decide +kernel
theorem dX11_row_5 : decode cX11_row 5 = .ok (.iconst 3, 1) := by decide +kernel
theorem dX11_row_6 : decode cX11_row 6 = .ok (.if_icmp .le 13, 3) := by decide +kernel
theorem dX11_row_9 : decode cX11_row 9 = .ok (.new 44, 3) := by decide +kernel
theorem dX11_row_12 : decode cX11_row 12 = .ok (.dup, 1) := by decide +kernel
theorem dX11_row_13 : decode cX11_row 13 = .ok (.ldc 209, 2) := by decide +kernel
theorem dX11_row_15 : decode cX11_row 15 = .ok (.invokespecial 48, 3) := by decide +kernel
theorem dX11_row_18 : decode cX11_row 18 = .ok (.athrow, 1) := by decide +kernel
theorem dX11_row_19 : decode cX11_row 19 = .ok (.aload_n 0, 1) := by decide +kernel
theorem dX11_row_20 : decode cX11_row 20 = .ok (.iload_n 1, 1) := by decide +kernel
theorem dX11_row_21 : decode cX11_row 21 = .ok (.invokevirtual 211, 3) := by decide +kernel
theorem dX11_row_24 : decode cX11_row 24 = .ok (.astore 4, 2) := by decide +kernel
theorem dX11_row_26 : decode cX11_row 26 = .ok (.aload 4, 2) := by decide +kernel
theorem dX11_row_28 : decode cX11_row 28 = .ok (.ifnull 16, 3) := by decide +kernel
theorem dX11_row_44 : decode cX11_row 44 = .ok (.iconst (-1), 1) := by decide +kernel
theorem dX11_row_45 : decode cX11_row 45 = .ok (.ireturn, 1) := by decide +kernel
set_option maxHeartbeats 4000000 in
set_option maxRecDepth 100000 in
theorem cg_row (l : Launch) (D : va_G) (g : xe_G) (h0 : Nat) (qc : Nat) (n : Int32) (fl : Nat) (wp : Int32) (x0 : Int32) (x1 : Int32) (x2 : Int32) (sz : Nat)  (hnt : l.stackTraces = false) : vx_Met l yX11_row (.code yX11_row cX11_row 5 (some .int) :: bg) ({ frames := 8, cells := 1, slots := 6, locals := 600 } : Room) (xb_Pre (xe_E g) D vwCl [(h0, .inr (11, [.ref qc, .int n, .ref fl, .null, .int wp]))] [] sz [.ref h0, .int x0, .int x1, .int x2]) (va_Qi (fun r _ => r = -1 ∧ ¬ x2 < 0 ∧ x2 ≤ 3) (xb_B D vwCl (va_A [(h0, .inr (11, [.ref qc, .int n, .ref fl, .null, .int wp]))] sz) (fun u : Unit => [(h0, .inr (11, [.ref qc, .int n, .ref fl, .null, .int wp]))]) (fun u : Unit => [])) (va_A [(h0, .inr (11, [.ref qc, .int n, .ref fl, .null, .int wp]))] sz)) (vx_X (fun _ : Unit => (x2 < 0 ∨ ¬ x2 ≤ 3)) (fun E (_ : Unit) t => E = "java/lang/IllegalArgumentException" ∧ xb_B D vwCl (va_A [(h0, .inr (11, [.ref qc, .int n, .ref fl, .null, .int wp]))] sz) (fun _ : Unit => [(h0, .inr (11, [.ref qc, .int n, .ref fl, .null, .int wp]))]) (fun _ : Unit => []) () t) (va_A [(h0, .inr (11, [.ref qc, .int n, .ref fl, .null, .int wp]))] sz)) 1 6 (va_A [(h0, .inr (11, [.ref qc, .int n, .ref fl, .null, .int wp]))] sz) := by
  refine vx_ofW (cc := cX11_row) (maxL := 5) (ret := (some .int)) (by decide) rfl ?_
  intro p e s m args below meth c s₁ B hml hemp hv
  obtain ⟨rfl, hsz, hP, hK, hD0, hE⟩ := hv
  have hx := B.exec
  have hb := B.bytes
  have hr := B.returns
  have hts := atoms_spec (ws := (.code yX11_row cX11_row 5 (some .int) :: bg)) B.pre
  have htb : ∀ w ∈ bg, w.before _ s = true := fun w h => hts w (List.mem_cons_of_mem _ h)
  have hown : s.vm.findClass RX11 = some m.cls := findClass_of_methodNamed B.named
  have hlocks := B.notSynchronized
  subst hsz
  have hD := hD0.self (sz := s.heap.size)
  generalize hAe : va_A [(h0, .inr (11, [.ref qc, .int n, .ref fl, .null, .int wp]))] s.heap.size = A at hD hE ⊢
  have hA : ∀ q : Nat, s.heap.size ≤ q → A q := fun q h => by rw [← hAe]; exact Or.inr h
  have hS : va_S A s.heap s.heap [] := va_S.rf
  have hP : va_P D vwCl [(h0, .inr (11, [.ref qc, .int n, .ref fl, .null, .int wp]))] s.heap := hP
  have hl := lv_entry ([.ref h0, .int x0, .int x1, .int x2]) (n := 5) (Nat.le_of_ble_eq_true rfl)
  rw [lg_entry_eq]
  generalize (lg_sl ([.ref h0, .int x0, .int x1, .int x2]) ++ List.replicate (5 - (lg_sl ([.ref h0, .int x0, .int x1, .int x2])).length) Slot.unset).toArray = ls at hl ⊢
  have hl : lv_has ls 5 [(0, .ref h0), (1, .int x0), (2, .int x1), (3, .int x2)] := hl
  refine lv_iload_n hx hb dX11_row_0 rfl (lv_at hl 3 rfl) ?_
  refine lv_if_lt (tgt := 9) hx hb dX11_row_1 (by decide) (fun c_1 => ?_) (fun c_1 => ?_)
  · skip
    exact vx_throwS (A := A) hx hb hnt hown (by decide) (by decide) (htb _ bg_24) (htb _ bg_25) (hE.2.2.2.2.2.2.1 17 (by decide)).1 (xe_hat hE htb) xe_ot hE.2.2.2.2.1 hE.2.2.2.2.2.1 hS (by rw [hml]; exact hl.1) dX11_row_9 dX11_row_12 dX11_row_13 dX11_row_15 dX11_row_18 (fun x hx => (hemp x hx).elim) (Nat.le_of_ble_eq_true rfl) (Nat.le_of_ble_eq_true rfl) (Nat.le_of_ble_eq_true rfl) (Nat.le_of_ble_eq_true rfl) hlocks (fun t ht hz hk => xe_thrown (by first | exact Or.inl c_1 | exact Or.inr c_6) hP hK hD hS ht hz hk) hS.2.2 (by decide) (by decide)
  · skip
    refine lv_iload_n hx hb dX11_row_4 rfl (lv_at hl 3 rfl) ?_
    refine lv_iconst (v := 3) hx hb dX11_row_5 (by decide) ?_
    refine lv_icmp_le (tgt := 19) hx hb dX11_row_6 (by decide) (fun c_6 => ?_) (fun c_6 => ?_)
    · skip
      refine lv_aload_n hx hb dX11_row_19 rfl (lv_at hl 0 rfl) ?_
      refine lv_iload_n hx hb dX11_row_20 rfl (lv_at hl 1 rfl) ?_
      refine xb_goq (wr := []) (va_runV (As := [.int x0]) (rest := []) ⟨hx, hb, hml, hown, htb⟩ (cg_codeOf l D g h0 qc n fl wp x0 (Array.size s.heap) ) (bg_V 1 htb bg_76 bg_78 bg_79 bg_18 bg_77 rfl rfl (by decide +kernel) ⟨Nat.le_of_ble_eq_true rfl, Nat.le_of_ble_eq_true rfl⟩) ⟨xb_blind xe_ok, va_recv hK hP (ci := 11) (q0 := 0) rfl rfl, xb_enter xe_ok hK hP hD hS hA hE [0] rfl rfl rfl [] rfl⟩ rfl rfl hl.1 rfl (lv_room (Nat.le_of_ble_eq_true rfl)) dX11_row_21 ⟨Nat.le_of_ble_eq_true rfl, Nat.le_of_ble_eq_true rfl⟩) hK hP hD hS hA [0] [] rfl rfl rfl (by decide) (fun r_21 u_21 H locs hw_21 hP hD hK hS => ?_)
      have hP : va_P D vwCl [(h0, .inr (11, [.ref qc, .int n, .ref fl, .null, .int wp]))] H := hP
      have hD : va_D A [(h0, .inr (11, [.ref qc, .int n, .ref fl, .null, .int wp]))] := hD
      have hK : va_K D vwCl [] s := hK
      refine W.widen (k := 0) (n := 0) (by decide) (by decide) ?_
      have hw_21 : r_21 = none := hw_21
      subst hw_21
      refine lv_astoreN (lv' := [(4, .null), (0, .ref h0), (1, .int x0), (2, .int x1), (3, .int x2)]) hx hb dX11_row_24 hl (by decide) rfl (fun ls hl => ?_)
      refine lv_aloadN hx hb dX11_row_26 (lv_at hl 0 rfl) ?_
      refine lv_ifnullN (tgt := 44) hx hb dX11_row_28 (by decide) ?_
      refine lv_iconst (v := (-1)) hx hb dX11_row_44 (by decide) ?_
      have hP9 := hP.sub (ws' := [(h0, .inr (11, [.ref qc, .int n, .ref fl, .null, .int wp]))]) [0] rfl
      have hD9 := hD.sub (ws' := [(h0, .inr (11, [.ref qc, .int n, .ref fl, .null, .int wp]))]) [0] rfl rfl
      have hK9 := hK.sub (tys' := []) [] rfl
      refine W.widen (k := 1) (n := 6) (by decide) (by decide) ?_
      refine vx_ret ?_
      exact W.iret (v := (-1)) hx hb hr (fun t ht hW => ⟨⟨(-1), (), rfl, ⟨rfl, c_1, c_6⟩, by rw [ht]; exact hP9, va_K.moved hW.alike hK9, hD9⟩, hS.F ht⟩) hS.2.2 dX11_row_45
    · skip
      exact vx_throwS (A := A) hx hb hnt hown (by decide) (by decide) (htb _ bg_24) (htb _ bg_25) (hE.2.2.2.2.2.2.1 17 (by decide)).1 (xe_hat hE htb) xe_ot hE.2.2.2.2.1 hE.2.2.2.2.2.1 hS (by rw [hml]; exact hl.1) dX11_row_9 dX11_row_12 dX11_row_13 dX11_row_15 dX11_row_18 (fun x hx => (hemp x hx).elim) (Nat.le_of_ble_eq_true rfl) (Nat.le_of_ble_eq_true rfl) (Nat.le_of_ble_eq_true rfl) (Nat.le_of_ble_eq_true rfl) hlocks (fun t ht hz hk => xe_thrown (by first | exact Or.inl c_1 | exact Or.inr c_6) hP hK hD hS ht hz hk) hS.2.2 (by decide) (by decide)
theorem dX11_instruction_0 : decode cX11_instruction 0 = .ok (.iload_n 3, 1) := by decide +kernel
theorem dX11_instruction_1 : decode cX11_instruction 1 = .ok (.ifCond .lt 8, 3) := by decide +kernel
theorem dX11_instruction_4 : decode cX11_instruction 4 = .ok (.iload_n 3, 1) := by decide +kernel
theorem dX11_instruction_5 : decode cX11_instruction 5 = .ok (.iconst 4, 1) := by decide +kernel
theorem dX11_instruction_6 : decode cX11_instruction 6 = .ok (.if_icmp .le 13, 3) := by decide +kernel
theorem dX11_instruction_9 : decode cX11_instruction 9 = .ok (.new 44, 3) := by decide +kernel
theorem dX11_instruction_12 : decode cX11_instruction 12 = .ok (.dup, 1) := by decide +kernel
theorem dX11_instruction_13 : decode cX11_instruction 13 = .ok (.ldc 237, 2) := by decide +kernel
theorem dX11_instruction_15 : decode cX11_instruction 15 = .ok (.invokespecial 48, 3) := by decide +kernel
theorem dX11_instruction_18 : decode cX11_instruction 18 = .ok (.athrow, 1) := by decide +kernel
theorem dX11_instruction_19 : decode cX11_instruction 19 = .ok (.aload_n 0, 1) := by decide +kernel
theorem dX11_instruction_20 : decode cX11_instruction 20 = .ok (.iload_n 1, 1) := by decide +kernel
theorem dX11_instruction_21 : decode cX11_instruction 21 = .ok (.invokevirtual 211, 3) := by decide +kernel
theorem dX11_instruction_24 : decode cX11_instruction 24 = .ok (.astore 4, 2) := by decide +kernel
theorem dX11_instruction_26 : decode cX11_instruction 26 = .ok (.aload 4, 2) := by decide +kernel
theorem dX11_instruction_28 : decode cX11_instruction 28 = .ok (.ifnull 16, 3) := by decide +kernel
theorem dX11_instruction_44 : decode cX11_instruction 44 = .ok (.iconst (-1), 1) := by decide +kernel
theorem dX11_instruction_45 : decode cX11_instruction 45 = .ok (.goto 10, 3) := by decide +kernel
theorem dX11_instruction_55 : decode cX11_instruction 55 = .ok (.ireturn, 1) := by decide +kernel
set_option maxHeartbeats 4000000 in
set_option maxRecDepth 100000 in
theorem cg_instruction (l : Launch) (D : va_G) (g : xe_G) (h0 : Nat) (qc : Nat) (n : Int32) (fl : Nat) (wp : Int32) (x0 : Int32) (x1 : Int32) (x2 : Int32) (sz : Nat)  (hnt : l.stackTraces = false) : vx_Met l yX11_instruction (.code yX11_instruction cX11_instruction 5 (some .int) :: bg) ({ frames := 8, cells := 1, slots := 6, locals := 600 } : Room) (xb_Pre (xe_E g) D vwCl [(h0, .inr (11, [.ref qc, .int n, .ref fl, .null, .int wp]))] [] sz [.ref h0, .int x0, .int x1, .int x2]) (va_Qi (fun r _ => r = -1 ∧ ¬ x2 < 0 ∧ x2 ≤ 4) (xb_B D vwCl (va_A [(h0, .inr (11, [.ref qc, .int n, .ref fl, .null, .int wp]))] sz) (fun u : Unit => [(h0, .inr (11, [.ref qc, .int n, .ref fl, .null, .int wp]))]) (fun u : Unit => [])) (va_A [(h0, .inr (11, [.ref qc, .int n, .ref fl, .null, .int wp]))] sz)) (vx_X (fun _ : Unit => (x2 < 0 ∨ ¬ x2 ≤ 4)) (fun E (_ : Unit) t => E = "java/lang/IllegalArgumentException" ∧ xb_B D vwCl (va_A [(h0, .inr (11, [.ref qc, .int n, .ref fl, .null, .int wp]))] sz) (fun _ : Unit => [(h0, .inr (11, [.ref qc, .int n, .ref fl, .null, .int wp]))]) (fun _ : Unit => []) () t) (va_A [(h0, .inr (11, [.ref qc, .int n, .ref fl, .null, .int wp]))] sz)) 1 6 (va_A [(h0, .inr (11, [.ref qc, .int n, .ref fl, .null, .int wp]))] sz) := by
  refine vx_ofW (cc := cX11_instruction) (maxL := 5) (ret := (some .int)) (by decide) rfl ?_
  intro p e s m args below meth c s₁ B hml hemp hv
  obtain ⟨rfl, hsz, hP, hK, hD0, hE⟩ := hv
  have hx := B.exec
  have hb := B.bytes
  have hr := B.returns
  have hts := atoms_spec (ws := (.code yX11_instruction cX11_instruction 5 (some .int) :: bg)) B.pre
  have htb : ∀ w ∈ bg, w.before _ s = true := fun w h => hts w (List.mem_cons_of_mem _ h)
  have hown : s.vm.findClass RX11 = some m.cls := findClass_of_methodNamed B.named
  have hlocks := B.notSynchronized
  subst hsz
  have hD := hD0.self (sz := s.heap.size)
  generalize hAe : va_A [(h0, .inr (11, [.ref qc, .int n, .ref fl, .null, .int wp]))] s.heap.size = A at hD hE ⊢
  have hA : ∀ q : Nat, s.heap.size ≤ q → A q := fun q h => by rw [← hAe]; exact Or.inr h
  have hS : va_S A s.heap s.heap [] := va_S.rf
  have hP : va_P D vwCl [(h0, .inr (11, [.ref qc, .int n, .ref fl, .null, .int wp]))] s.heap := hP
  have hl := lv_entry ([.ref h0, .int x0, .int x1, .int x2]) (n := 5) (Nat.le_of_ble_eq_true rfl)
  rw [lg_entry_eq]
  generalize (lg_sl ([.ref h0, .int x0, .int x1, .int x2]) ++ List.replicate (5 - (lg_sl ([.ref h0, .int x0, .int x1, .int x2])).length) Slot.unset).toArray = ls at hl ⊢
  have hl : lv_has ls 5 [(0, .ref h0), (1, .int x0), (2, .int x1), (3, .int x2)] := hl
  refine lv_iload_n hx hb dX11_instruction_0 rfl (lv_at hl 3 rfl) ?_
  refine lv_if_lt (tgt := 9) hx hb dX11_instruction_1 (by decide) (fun c_1 => ?_) (fun c_1 => ?_)
  · skip
    exact vx_throwS (A := A) hx hb hnt hown (by decide) (by decide) (htb _ bg_24) (htb _ bg_25) (hE.2.2.2.2.2.2.1 18 (by decide)).1 (xe_hat hE htb) xe_ot hE.2.2.2.2.1 hE.2.2.2.2.2.1 hS (by rw [hml]; exact hl.1) dX11_instruction_9 dX11_instruction_12 dX11_instruction_13 dX11_instruction_15 dX11_instruction_18 (fun x hx => (hemp x hx).elim) (Nat.le_of_ble_eq_true rfl) (Nat.le_of_ble_eq_true rfl) (Nat.le_of_ble_eq_true rfl) (Nat.le_of_ble_eq_true rfl) hlocks (fun t ht hz hk => xe_thrown (by first | exact Or.inl c_1 | exact Or.inr c_6) hP hK hD hS ht hz hk) hS.2.2 (by decide) (by decide)
  · skip
    refine lv_iload_n hx hb dX11_instruction_4 rfl (lv_at hl 3 rfl) ?_
    refine lv_iconst (v := 4) hx hb dX11_instruction_5 (by decide) ?_
    refine lv_icmp_le (tgt := 19) hx hb dX11_instruction_6 (by decide) (fun c_6 => ?_) (fun c_6 => ?_)
    · skip
      refine lv_aload_n hx hb dX11_instruction_19 rfl (lv_at hl 0 rfl) ?_
      refine lv_iload_n hx hb dX11_instruction_20 rfl (lv_at hl 1 rfl) ?_
      refine xb_goq (wr := []) (va_runV (As := [.int x0]) (rest := []) ⟨hx, hb, hml, hown, htb⟩ (cg_codeOf l D g h0 qc n fl wp x0 (Array.size s.heap) ) (bg_V 1 htb bg_76 bg_78 bg_79 bg_18 bg_77 rfl rfl (by decide +kernel) ⟨Nat.le_of_ble_eq_true rfl, Nat.le_of_ble_eq_true rfl⟩) ⟨xb_blind xe_ok, va_recv hK hP (ci := 11) (q0 := 0) rfl rfl, xb_enter xe_ok hK hP hD hS hA hE [0] rfl rfl rfl [] rfl⟩ rfl rfl hl.1 rfl (lv_room (Nat.le_of_ble_eq_true rfl)) dX11_instruction_21 ⟨Nat.le_of_ble_eq_true rfl, Nat.le_of_ble_eq_true rfl⟩) hK hP hD hS hA [0] [] rfl rfl rfl (by decide) (fun r_21 u_21 H locs hw_21 hP hD hK hS => ?_)
      have hP : va_P D vwCl [(h0, .inr (11, [.ref qc, .int n, .ref fl, .null, .int wp]))] H := hP
      have hD : va_D A [(h0, .inr (11, [.ref qc, .int n, .ref fl, .null, .int wp]))] := hD
      have hK : va_K D vwCl [] s := hK
      refine W.widen (k := 0) (n := 0) (by decide) (by decide) ?_
      have hw_21 : r_21 = none := hw_21
      subst hw_21
      refine lv_astoreN (lv' := [(4, .null), (0, .ref h0), (1, .int x0), (2, .int x1), (3, .int x2)]) hx hb dX11_instruction_24 hl (by decide) rfl (fun ls hl => ?_)
      refine lv_aloadN hx hb dX11_instruction_26 (lv_at hl 0 rfl) ?_
      refine lv_ifnullN (tgt := 44) hx hb dX11_instruction_28 (by decide) ?_
      refine lv_iconst (v := (-1)) hx hb dX11_instruction_44 (by decide) ?_
      refine lv_goto (tgt := 55) hx hb dX11_instruction_45 (by decide) ?_
      have hP9 := hP.sub (ws' := [(h0, .inr (11, [.ref qc, .int n, .ref fl, .null, .int wp]))]) [0] rfl
      have hD9 := hD.sub (ws' := [(h0, .inr (11, [.ref qc, .int n, .ref fl, .null, .int wp]))]) [0] rfl rfl
      have hK9 := hK.sub (tys' := []) [] rfl
      refine W.widen (k := 1) (n := 6) (by decide) (by decide) ?_
      refine vx_ret ?_
      exact W.iret (v := (-1)) hx hb hr (fun t ht hW => ⟨⟨(-1), (), rfl, ⟨rfl, c_1, c_6⟩, by rw [ht]; exact hP9, va_K.moved hW.alike hK9, hD9⟩, hS.F ht⟩) hS.2.2 dX11_instruction_55
    · skip
      exact vx_throwS (A := A) hx hb hnt hown (by decide) (by decide) (htb _ bg_24) (htb _ bg_25) (hE.2.2.2.2.2.2.1 18 (by decide)).1 (xe_hat hE htb) xe_ot hE.2.2.2.2.1 hE.2.2.2.2.2.1 hS (by rw [hml]; exact hl.1) dX11_instruction_9 dX11_instruction_12 dX11_instruction_13 dX11_instruction_15 dX11_instruction_18 (fun x hx => (hemp x hx).elim) (Nat.le_of_ble_eq_true rfl) (Nat.le_of_ble_eq_true rfl) (Nat.le_of_ble_eq_true rfl) (Nat.le_of_ble_eq_true rfl) hlocks (fun t ht hz hk => xe_thrown (by first | exact Or.inl c_1 | exact Or.inr c_6) hP hK hD hS ht hz hk) hS.2.2 (by decide) (by decide)
theorem dX11_end_0 : decode cX11_end 0 = .ok (.iload_n 1, 1) := by decide +kernel
theorem dX11_end_1 : decode cX11_end 1 = .ok (.ifCond .lt 11, 3) := by decide +kernel
theorem dX11_end_4 : decode cX11_end 4 = .ok (.iload_n 1, 1) := by decide +kernel
theorem dX11_end_5 : decode cX11_end 5 = .ok (.aload_n 0, 1) := by decide +kernel
theorem dX11_end_6 : decode cX11_end 6 = .ok (.getfield 23, 3) := by decide +kernel
theorem dX11_end_9 : decode cX11_end 9 = .ok (.if_icmp .le 13, 3) := by decide +kernel
theorem dX11_end_12 : decode cX11_end 12 = .ok (.new 44, 3) := by decide +kernel
theorem dX11_end_15 : decode cX11_end 15 = .ok (.dup, 1) := by decide +kernel
theorem dX11_end_16 : decode cX11_end 16 = .ok (.ldc 46, 2) := by decide +kernel
theorem dX11_end_18 : decode cX11_end 18 = .ok (.invokespecial 48, 3) := by decide +kernel
theorem dX11_end_21 : decode cX11_end 21 = .ok (.athrow, 1) := by decide +kernel
theorem dX11_end_22 : decode cX11_end 22 = .ok (.aload_n 0, 1) := by decide +kernel
theorem dX11_end_23 : decode cX11_end 23 = .ok (.aload_n 0, 1) := by decide +kernel
theorem dX11_end_24 : decode cX11_end 24 = .ok (.getfield 9, 3) := by decide +kernel
theorem dX11_end_27 : decode cX11_end 27 = .ok (.iload_n 1, 1) := by decide +kernel
theorem dX11_end_28 : decode cX11_end 28 = .ok (.invokestatic 38, 3) := by decide +kernel
theorem dX11_end_31 : decode cX11_end 31 = .ok (.putfield 16, 3) := by decide +kernel
theorem dX11_end_34 : decode cX11_end 34 = .ok (.aload_n 0, 1) := by decide +kernel
theorem dX11_end_35 : decode cX11_end 35 = .ok (.iconst 0, 1) := by decide +kernel
theorem dX11_end_36 : decode cX11_end 36 = .ok (.putfield 23, 3) := by decide +kernel
theorem dX11_end_39 : decode cX11_end 39 = .ok (.iload_n 1, 1) := by decide +kernel
theorem dX11_end_40 : decode cX11_end 40 = .ok (.ireturn, 1) := by decide +kernel
set_option maxHeartbeats 4000000 in
set_option maxRecDepth 100000 in
theorem cg_end (l : Launch) (D : va_G) (g : xe_G) (h0 : Nat) (qc : Nat) (fl : Nat) (wp : Int32) (cB : ClassId) (f : Nat → Int32) (x0 : Int32) (sz : Nat)  (hnt : l.stackTraces = false) : vx_Met l yX11_end (.code yX11_end cX11_end 2 (some .int) :: bg) ({ frames := 8, cells := 1, slots := 6, locals := 600 } : Room) (xb_Pre (xe_E g) D vwCl [(h0, .inr (11, [.ref qc, .int 0, .ref fl, .null, .int wp])), (qc, .inl (cB, 1024, .inl f))] [(cB, .byte)] sz [.ref h0, .int x0]) (va_Qi (fun r _ => r = 0 ∧ ¬ x0 < 0 ∧ x0 ≤ 0) (xb_B D vwCl (va_A [(h0, .inr (11, [.ref qc, .int 0, .ref fl, .null, .int wp])), (qc, .inl (cB, 1024, .inl f))] sz) (fun u : Nat × ClassId × (Nat → Int32) => [(h0, .inr (11, [.ref qc, .int 0, .ref u.1, .null, .int wp])), (qc, .inl (cB, 1024, .inl f)), (u.1, .inl (u.2.1, 0, .inl u.2.2))]) (fun u : Nat × ClassId × (Nat → Int32) => [(cB, .byte), (u.2.1, .byte)])) (va_A [(h0, .inr (11, [.ref qc, .int 0, .ref fl, .null, .int wp])), (qc, .inl (cB, 1024, .inl f))] sz)) (vx_X (fun _ : Unit => (x0 < 0 ∨ ¬ x0 ≤ 0)) (fun E (_ : Unit) t => E = "java/lang/IllegalArgumentException" ∧ xb_B D vwCl (va_A [(h0, .inr (11, [.ref qc, .int 0, .ref fl, .null, .int wp])), (qc, .inl (cB, 1024, .inl f))] sz) (fun _ : Unit => [(h0, .inr (11, [.ref qc, .int 0, .ref fl, .null, .int wp])), (qc, .inl (cB, 1024, .inl f))]) (fun _ : Unit => [(cB, .byte)]) () t) (va_A [(h0, .inr (11, [.ref qc, .int 0, .ref fl, .null, .int wp])), (qc, .inl (cB, 1024, .inl f))] sz)) 1 6 (va_A [(h0, .inr (11, [.ref qc, .int 0, .ref fl, .null, .int wp])), (qc, .inl (cB, 1024, .inl f))] sz) := by
  refine vx_ofW (cc := cX11_end) (maxL := 2) (ret := (some .int)) (by decide) rfl ?_
  intro p e s m args below meth c s₁ B hml hemp hv
  obtain ⟨rfl, hsz, hP, hK, hD0, hE⟩ := hv
  have hx := B.exec
  have hb := B.bytes
  have hr := B.returns
  have hts := atoms_spec (ws := (.code yX11_end cX11_end 2 (some .int) :: bg)) B.pre
  have htb : ∀ w ∈ bg, w.before _ s = true := fun w h => hts w (List.mem_cons_of_mem _ h)
  have hown : s.vm.findClass RX11 = some m.cls := findClass_of_methodNamed B.named
  have hlocks := B.notSynchronized
  subst hsz
  have hD := hD0.self (sz := s.heap.size)
  generalize hAe : va_A [(h0, .inr (11, [.ref qc, .int 0, .ref fl, .null, .int wp])), (qc, .inl (cB, 1024, .inl f))] s.heap.size = A at hD hE ⊢
  have hA : ∀ q : Nat, s.heap.size ≤ q → A q := fun q h => by rw [← hAe]; exact Or.inr h
  have hS : va_S A s.heap s.heap [] := va_S.rf
  have hP : va_P D vwCl [(h0, .inr (11, [.ref qc, .int 0, .ref fl, .null, .int wp])), (qc, .inl (cB, 1024, .inl f))] s.heap := hP
  have hl := lv_entry ([.ref h0, .int x0]) (n := 2) (Nat.le_of_ble_eq_true rfl)
  rw [lg_entry_eq]
  generalize (lg_sl ([.ref h0, .int x0]) ++ List.replicate (2 - (lg_sl ([.ref h0, .int x0])).length) Slot.unset).toArray = ls at hl ⊢
  have hl : lv_has ls 2 [(0, .ref h0), (1, .int x0)] := hl
  refine lv_iload_n hx hb dX11_end_0 rfl (lv_at hl 1 rfl) ?_
  refine lv_if_lt (tgt := 12) hx hb dX11_end_1 (by decide) (fun c_1 => ?_) (fun c_1 => ?_)
  · skip
    exact vx_throwS (A := A) hx hb hnt hown (by decide) (by decide) (htb _ bg_24) (htb _ bg_25) (hE.2.2.2.2.2.2.1 13 (by decide)).1 (xe_hat hE htb) xe_ot hE.2.2.2.2.1 hE.2.2.2.2.2.1 hS (by rw [hml]; exact hl.1) dX11_end_12 dX11_end_15 dX11_end_16 dX11_end_18 dX11_end_21 (fun x hx => (hemp x hx).elim) (Nat.le_of_ble_eq_true rfl) (Nat.le_of_ble_eq_true rfl) (Nat.le_of_ble_eq_true rfl) (Nat.le_of_ble_eq_true rfl) hlocks (fun t ht hz hk => xe_thrown (by first | exact Or.inl c_1 | exact Or.inr c_9) hP hK hD hS ht hz hk) hS.2.2 (by decide) (by decide)
  · skip
    refine lv_iload_n hx hb dX11_end_4 rfl (lv_at hl 1 rfl) ?_
    refine lv_aload_n hx hb dX11_end_5 rfl (lv_at hl 0 rfl) ?_
    refine va_get (D := D) (ci := 11) (v := .int 0) (C := RX11) (T := TX11) (N := 5) hx hb htb bi_X11 hown hK hP 0 rfl rfl 1 (by decide) (htb _ bg_10) (fun _ h9 => h9) rfl dX11_end_6 ?_
    refine lv_icmp_le (tgt := 22) hx hb dX11_end_9 (by decide) (fun c_9 => ?_) (fun c_9 => ?_)
    · skip
      have hx0 : x0 = 0 := Int32.le_antisymm c_9 (Int32.not_lt.mp c_1)
      subst hx0
      refine lv_aload_n hx hb dX11_end_22 rfl (lv_at hl 0 rfl) ?_
      refine lv_aload_n hx hb dX11_end_23 rfl (lv_at hl 0 rfl) ?_
      refine va_get (D := D) (ci := 11) (v := .ref qc) (C := RX11) (T := TX11) (N := 5) hx hb htb bi_X11 hown hK hP 0 rfl rfl 0 (by decide) (htb _ bg_5) (fun _ h9 => h9) rfl dX11_end_24 ?_
      refine lv_iload_n hx hb dX11_end_27 rfl (lv_at hl 1 rfl) ?_
      refine xb_goq (wr := [(h0, .inr (11, [.ref qc, .int 0, .ref fl, .null, .int wp]))]) (va_runS (As := [.ref qc, .int 0]) (rest := [.ref h0]) ⟨hx, hb, hml, hown, htb⟩ (cj_copyOf l D g qc cB f (Array.size s.heap) ) (bg_S 2 htb bg_19 bg_21 bg_22 bg_20 rfl rfl (by decide +kernel) ⟨Nat.le_of_ble_eq_true rfl, Nat.le_of_ble_eq_true rfl⟩) ⟨xb_blind xe_ok, xb_enter xe_ok hK hP hD hS hA hE [1] rfl rfl rfl [0] rfl⟩ rfl rfl hl.1 rfl (lv_room (Nat.le_of_ble_eq_true rfl)) dX11_end_28 ⟨Nat.le_of_ble_eq_true rfl, Nat.le_of_ble_eq_true rfl⟩) hK hP hD hS hA [1] [0] rfl rfl rfl (by decide) (fun r_28 u_28 H locs hw_28 hP hD hK hS => ?_)
      obtain ⟨v1, v2, v3⟩ := u_28
      have hP : va_P D vwCl [(h0, .inr (11, [.ref qc, .int 0, .ref fl, .null, .int wp])), (qc, .inl (cB, 1024, .inl f)), (v1, .inl (v2, 0, .inl v3))] H := hP
      have hD : va_D A [(h0, .inr (11, [.ref qc, .int 0, .ref fl, .null, .int wp])), (qc, .inl (cB, 1024, .inl f)), (v1, .inl (v2, 0, .inl v3))] := hD
      have hK : va_K D vwCl [(cB, .byte), (cB, .byte), (v2, .byte)] s := hK
      refine W.widen (k := 1) (n := 0) (by decide) (by decide) ?_
      have hw_28 : r_28 = some v1 := hw_28
      subst hw_28
      have hK := hK.sub (tys' := [(cB, .byte), (v2, .byte)]) [0, 2] rfl
      refine va_put (D := D) (ci := 11) (v := .ref v1) (ty := tyX11 2) (C := RX11) (T := TX11) (N := 5) hx hb htb bi_X11 tyX11 tyX11_ok nmX11 hown hK hP hD hS 0 rfl rfl 2 (by decide) (htb _ bg_7) (fun _ h9 => h9) rfl (tyX11_ok 2 (by decide)) rfl rfl (Nat.le_of_ble_eq_true rfl) dX11_end_31 (fun H locs hP hD hS => ?_)
      have hP : va_P D vwCl [(h0, .inr (11, [.ref qc, .int 0, .ref v1, .null, .int wp])), (qc, .inl (cB, 1024, .inl f)), (v1, .inl (v2, 0, .inl v3))] H := hP
      have hD : va_D A [(h0, .inr (11, [.ref qc, .int 0, .ref v1, .null, .int wp])), (qc, .inl (cB, 1024, .inl f)), (v1, .inl (v2, 0, .inl v3))] := hD
      refine lv_aload_n hx hb dX11_end_34 rfl (lv_at hl 0 rfl) ?_
      refine lv_iconst (v := 0) hx hb dX11_end_35 (by decide) ?_
      refine va_put (D := D) (ci := 11) (v := .int 0) (ty := tyX11 1) (C := RX11) (T := TX11) (N := 5) hx hb htb bi_X11 tyX11 tyX11_ok nmX11 hown hK hP hD hS 0 rfl rfl 1 (by decide) (htb _ bg_10) (fun _ h9 => h9) rfl (tyX11_ok 1 (by decide)) rfl rfl (Nat.le_of_ble_eq_true rfl) dX11_end_36 (fun H locs hP hD hS => ?_)
      have hP : va_P D vwCl [(h0, .inr (11, [.ref qc, .int 0, .ref v1, .null, .int wp])), (qc, .inl (cB, 1024, .inl f)), (v1, .inl (v2, 0, .inl v3))] H := hP
      have hD : va_D A [(h0, .inr (11, [.ref qc, .int 0, .ref v1, .null, .int wp])), (qc, .inl (cB, 1024, .inl f)), (v1, .inl (v2, 0, .inl v3))] := hD
      refine lv_iload_n hx hb dX11_end_39 rfl (lv_at hl 1 rfl) ?_
      have hP9 := hP.sub (ws' := [(h0, .inr (11, [.ref qc, .int 0, .ref v1, .null, .int wp])), (qc, .inl (cB, 1024, .inl f)), (v1, .inl (v2, 0, .inl v3))]) [0, 1, 2] rfl
      have hD9 := hD.sub (ws' := [(h0, .inr (11, [.ref qc, .int 0, .ref v1, .null, .int wp])), (qc, .inl (cB, 1024, .inl f)), (v1, .inl (v2, 0, .inl v3))]) [0, 1, 2] rfl rfl
      have hK9 := hK.sub (tys' := [(cB, .byte), (v2, .byte)]) [0, 1] rfl
      refine W.widen (k := 1) (n := 6) (by decide) (by decide) ?_
      refine vx_ret ?_
      exact W.iret (v := 0) hx hb hr (fun t ht hW => ⟨⟨0, (v1, v2, v3), rfl, ⟨rfl, c_1, c_9⟩, by rw [ht]; exact hP9, va_K.moved hW.alike hK9, hD9⟩, hS.F ht⟩) hS.2.2 dX11_end_40
    · skip
      exact vx_throwS (A := A) hx hb hnt hown (by decide) (by decide) (htb _ bg_24) (htb _ bg_25) (hE.2.2.2.2.2.2.1 13 (by decide)).1 (xe_hat hE htb) xe_ot hE.2.2.2.2.1 hE.2.2.2.2.2.1 hS (by rw [hml]; exact hl.1) dX11_end_12 dX11_end_15 dX11_end_16 dX11_end_18 dX11_end_21 (fun x hx => (hemp x hx).elim) (Nat.le_of_ble_eq_true rfl) (Nat.le_of_ble_eq_true rfl) (Nat.le_of_ble_eq_true rfl) (Nat.le_of_ble_eq_true rfl) hlocks (fun t ht hz hk => xe_thrown (by first | exact Or.inl c_1 | exact Or.inr c_9) hP hK hD hS ht hz hk) hS.2.2 (by decide) (by decide)
