theorem dL_feed_0 : decode cL_feed 0 = .ok (.aload 6, 2) := by decide +kernel
theorem dL_feed_2 : decode cL_feed 2 = .ok (.iconst 0, 1) := by decide +kernel
theorem dL_feed_3 : decode cL_feed 3 = .ok (.aload_n 0, 1) := by decide +kernel
theorem dL_feed_4 : decode cL_feed 4 = .ok (.iload_n 1, 1) := by decide +kernel
theorem dL_feed_5 : decode cL_feed 5 = .ok (.iload_n 2, 1) := by decide +kernel
theorem dL_feed_6 : decode cL_feed 6 = .ok (.iload_n 3, 1) := by decide +kernel
theorem dL_feed_7 : decode cL_feed 7 = .ok (.iload 4, 2) := by decide +kernel
theorem dL_feed_9 : decode cL_feed 9 = .ok (.iload 5, 2) := by decide +kernel
theorem dL_feed_11 : decode cL_feed 11 = .ok (.invokevirtual 7, 3) := by decide +kernel
theorem dL_feed_14 : decode cL_feed 14 = .ok (.i2l, 1) := by decide +kernel
theorem dL_feed_15 : decode cL_feed 15 = .ok (.lastore, 1) := by decide +kernel
theorem dL_feed_16 : decode cL_feed 16 = .ok (.goto 7, 3) := by decide +kernel
theorem dL_feed_23 : decode cL_feed 23 = .ok (.iconst 0, 1) := by decide +kernel
theorem dL_feed_24 : decode cL_feed 24 = .ok (.ireturn, 1) := by decide +kernel
set_option maxHeartbeats 4000000 in
set_option maxRecDepth 100000 in
theorem lh_feed (l : Launch) (D : va_G) (g : xe_G) (h0 : Nat) (qc : Nat) (fl : Nat) (wp : Int32) (cB : ClassId) (f : Nat → Int32) (qo : Nat) (aO : ClassId) (fo : Nat → Int64) (x0 : Int32) (x1 : Int32) (x2 : Int32) (x3 : Int32) (x4 : Int32) (sz : Nat)  : Met l yL_feed (.codeWith yL_feed cL_feed 8 (some .int) [(0, 16, 19, 13)] :: bg) ({ frames := 4, cells := 0, slots := 0, locals := 480 } : Room) (xb_Pre (xe_E g) D vwCl [(h0, .inr (11, [.ref qc, .int 0, .ref fl, .null, .int wp])), (qc, .inl (cB, 1024, .inl f)), (qo, .inl (aO, 1, .inr (.inl fo)))] [(cB, .byte), (aO, .long)] sz [.ref h0, .int x0, .int x1, .int x2, .int x3, .int x4, .ref qo]) (va_Qi (fun r u => r = 0 ∧ u 0 = Int32.toInt64 20) (xb_B D vwCl (va_A [(h0, .inr (11, [.ref qc, .int 0, .ref fl, .null, .int wp])), (qc, .inl (cB, 1024, .inl f)), (qo, .inl (aO, 1, .inr (.inl fo)))] sz) (fun u : (Nat → Int64) => [(qo, .inl (aO, 1, .inr (.inl u)))]) (fun u : (Nat → Int64) => [(aO, .long)])) (va_A [(h0, .inr (11, [.ref qc, .int 0, .ref fl, .null, .int wp])), (qc, .inl (cB, 1024, .inl f)), (qo, .inl (aO, 1, .inr (.inl fo)))] sz)) 0 0 (va_A [(h0, .inr (11, [.ref qc, .int 0, .ref fl, .null, .int wp])), (qc, .inl (cB, 1024, .inl f)), (qo, .inl (aO, 1, .inr (.inl fo)))] sz) := by
  refine xt_MetW (cc := cL_feed) (maxL := 8) (ret := (some .int)) (hh := [(0, 16, 19, 13)]) (by decide) rfl ?_
  intro p e s m args below meth c s₁ B hml htab hv
  obtain ⟨rfl, hsz, hP, hK, hD0, hE⟩ := hv
  have hx := B.exec
  have hb := B.bytes
  have hr := B.returns
  have hts := atoms_spec (ws := (.codeWith yL_feed cL_feed 8 (some .int) [(0, 16, 19, 13)] :: bg)) B.pre
  have htb : ∀ w ∈ bg, w.before _ s = true := fun w h => hts w (List.mem_cons_of_mem _ h)
  have hown : s.vm.findClass RL = some m.cls := findClass_of_methodNamed B.named
  have hlocks := B.notSynchronized
  subst hsz
  have hD := hD0.self (sz := s.heap.size)
  generalize hAe : va_A [(h0, .inr (11, [.ref qc, .int 0, .ref fl, .null, .int wp])), (qc, .inl (cB, 1024, .inl f)), (qo, .inl (aO, 1, .inr (.inl fo)))] s.heap.size = A at hD hE ⊢
  have hA : ∀ q : Nat, s.heap.size ≤ q → A q := fun q h => by rw [← hAe]; exact Or.inr h
  have hS : va_S A s.heap s.heap [] := va_S.rf
  have hP : va_P D vwCl [(h0, .inr (11, [.ref qc, .int 0, .ref fl, .null, .int wp])), (qc, .inl (cB, 1024, .inl f)), (qo, .inl (aO, 1, .inr (.inl fo)))] s.heap := hP
  have hl := lv_entry ([.ref h0, .int x0, .int x1, .int x2, .int x3, .int x4, .ref qo]) (n := 8) (Nat.le_of_ble_eq_true rfl)
  rw [lg_entry_eq]
  generalize (lg_sl ([.ref h0, .int x0, .int x1, .int x2, .int x3, .int x4, .ref qo]) ++ List.replicate (8 - (lg_sl ([.ref h0, .int x0, .int x1, .int x2, .int x3, .int x4, .ref qo])).length) Slot.unset).toArray = ls at hl ⊢
  have hl : lv_has ls 8 [(0, .ref h0), (1, .int x0), (2, .int x1), (3, .int x2), (4, .int x3), (5, .int x4), (6, .ref qo)] := hl
  refine lv_aload hx hb dL_feed_0 (lv_at hl 6 rfl) ?_
  refine lv_iconst (v := 0) hx hb dL_feed_2 (by decide) ?_
  refine lv_aload_n hx hb dL_feed_3 rfl (lv_at hl 0 rfl) ?_
  refine lv_iload_n hx hb dL_feed_4 rfl (lv_at hl 1 rfl) ?_
  refine lv_iload_n hx hb dL_feed_5 rfl (lv_at hl 2 rfl) ?_
  refine lv_iload_n hx hb dL_feed_6 rfl (lv_at hl 3 rfl) ?_
  refine lv_iload hx hb dL_feed_7 (lv_at hl 4 rfl) ?_
  refine lv_iload hx hb dL_feed_9 (lv_at hl 5 rfl) ?_
  refine xb_goi (wr := [(qo, .inl (aO, 1, .inr (.inl fo)))]) (va_runV (As := [.int x0, .int x1, .int x2, .int x3, .int x4]) (rest := [.int 0, .ref qo]) ⟨hx, hb, hml, hown, htb⟩ (cg_feed l D g h0 qc fl wp cB f x0 x1 x2 x3 x4 (Array.size s.heap) ) (bg_V 5 htb bg_318 bg_319 bg_320 bg_18 bg_9 rfl rfl (by decide +kernel) ⟨Nat.le_of_ble_eq_true rfl, Nat.le_of_ble_eq_true rfl⟩) ⟨xb_blind xe_ok, va_recv hK hP (ci := 11) (q0 := 0) rfl rfl, xb_enter xe_ok hK hP hD hS hA hE [0, 1] rfl rfl rfl [0] rfl⟩ rfl rfl hl.1 rfl (lv_room (Nat.le_of_ble_eq_true rfl)) dL_feed_11 ⟨Nat.le_of_ble_eq_true rfl, Nat.le_of_ble_eq_true rfl⟩) hK hP hD hS hA [0, 1] [2] rfl rfl rfl (by decide) (fun r_11 u_11 H locs hw_11 hP hD hK hS => ?_)
  obtain ⟨n1, f1⟩ := u_11
  have hP : va_P D vwCl [(qo, .inl (aO, 1, .inr (.inl fo))), (h0, .inr (11, [.ref qc, .int n1, .ref fl, .null, .int wp])), (qc, .inl (cB, 1024, .inl f1))] H := hP
  have hD : va_D A [(qo, .inl (aO, 1, .inr (.inl fo))), (h0, .inr (11, [.ref qc, .int n1, .ref fl, .null, .int wp])), (qc, .inl (cB, 1024, .inl f1))] := hD
  have hK : va_K D vwCl [(cB, .byte), (aO, .long), (cB, .byte)] s := hK
  refine W.widen (k := 0) (n := 0) (by decide) (by decide) ?_
  have hw_11 : r_11 = 20 := hw_11
  subst hw_11
  have hK := hK.sub (tys' := [(cB, .byte), (aO, .long)]) [0, 1] rfl
  refine lv_i2l (v := Int32.toInt64 20) hx hb dL_feed_14 rfl ?_
  refine va_last hx hb hK hP hD hS 0 1 rfl rfl (by unfold vp_in; decide) dL_feed_15 (fun H locs hP hD hS => ?_)
  have hP : va_P D vwCl [(qo, .inl (aO, 1, .inr (.inl (vp_updL fo (Int32.toNatClampNeg 0) (Int32.toInt64 20))))), (h0, .inr (11, [.ref qc, .int n1, .ref fl, .null, .int wp])), (qc, .inl (cB, 1024, .inl f1))] H := hP
  have hD : va_D A [(qo, .inl (aO, 1, .inr (.inl (vp_updL fo (Int32.toNatClampNeg 0) (Int32.toInt64 20))))), (h0, .inr (11, [.ref qc, .int n1, .ref fl, .null, .int wp])), (qc, .inl (cB, 1024, .inl f1))] := hD
  refine lv_goto (tgt := 23) hx hb dL_feed_16 (by decide) ?_
  refine lv_iconst (v := 0) hx hb dL_feed_23 (by decide) ?_
  have hP9 := hP.sub (ws' := [(qo, .inl (aO, 1, .inr (.inl (vp_updL fo (Int32.toNatClampNeg 0) (Int32.toInt64 20)))))]) [0] rfl
  have hD9 := hD.sub (ws' := [(qo, .inl (aO, 1, .inr (.inl (vp_updL fo (Int32.toNatClampNeg 0) (Int32.toInt64 20)))))]) [0] rfl rfl
  have hK9 := hK.sub (tys' := [(aO, .long)]) [1] rfl
  exact W.iret (v := 0) hx hb hr (fun t ht hW => ⟨⟨0, (vp_updL fo (Int32.toNatClampNeg 0) (Int32.toInt64 20)), rfl, ⟨rfl, pk_uLs⟩, by rw [ht]; exact hP9, va_K.moved hW.alike hK9, hD9⟩, hS.F ht⟩) hS.2.2 dL_feed_24
theorem dL_count_0 : decode cL_count 0 = .ok (.aload_n 2, 1) := by decide +kernel
theorem dL_count_1 : decode cL_count 1 = .ok (.iconst 0, 1) := by decide +kernel
theorem dL_count_2 : decode cL_count 2 = .ok (.aload_n 0, 1) := by decide +kernel
theorem dL_count_3 : decode cL_count 3 = .ok (.iload_n 1, 1) := by decide +kernel
theorem dL_count_4 : decode cL_count 4 = .ok (.invokevirtual 21, 3) := by decide +kernel
theorem dL_count_7 : decode cL_count 7 = .ok (.i2l, 1) := by decide +kernel
theorem dL_count_8 : decode cL_count 8 = .ok (.lastore, 1) := by decide +kernel
theorem dL_count_9 : decode cL_count 9 = .ok (.goto 6, 3) := by decide +kernel
theorem dL_count_12 : decode cL_count 12 = .ok (.astore_n 3, 1) := by decide +kernel
theorem dL_count_13 : decode cL_count 13 = .ok (.iconst 1, 1) := by decide +kernel
theorem dL_count_14 : decode cL_count 14 = .ok (.ireturn, 1) := by decide +kernel
theorem dL_count_15 : decode cL_count 15 = .ok (.iconst 0, 1) := by decide +kernel
theorem dL_count_16 : decode cL_count 16 = .ok (.ireturn, 1) := by decide +kernel
set_option maxHeartbeats 4000000 in
set_option maxRecDepth 100000 in
theorem lh_count (l : Launch) (D : va_G) (g : xe_G) (h0 : Nat) (qc : Nat) (n : Int32) (fl : Nat) (wp : Int32) (qo : Nat) (aO : ClassId) (fo : Nat → Int64) (x0 : Int32) (sz : Nat) (hnt : l.stackTraces = false) : Met l yL_count (.codeWith yL_count cL_count 4 (some .int) [(0, 9, 12, 19)] :: bg) ({ frames := 10, cells := 1, slots := 6, locals := 900 } : Room) (xb_Pre (xe_E g) D vwCl [(h0, .inr (11, [.ref qc, .int n, .ref fl, .null, .int wp])), (qo, .inl (aO, 1, .inr (.inl fo)))] [(aO, .long)] sz [.ref h0, .int x0, .ref qo]) (va_Qi (fun r u => (¬ x0 < 0 ∧ x0 ≤ 15 ∧ r = 0 ∧ u 0 = Int32.toInt64 (-1)) ∨ ((x0 < 0 ∨ ¬ x0 ≤ 15) ∧ r = 1)) (xb_B D vwCl (va_A [(h0, .inr (11, [.ref qc, .int n, .ref fl, .null, .int wp])), (qo, .inl (aO, 1, .inr (.inl fo)))] sz) (fun u : (Nat → Int64) => [(qo, .inl (aO, 1, .inr (.inl u)))]) (fun u : (Nat → Int64) => [(aO, .long)])) (va_A [(h0, .inr (11, [.ref qc, .int n, .ref fl, .null, .int wp])), (qo, .inl (aO, 1, .inr (.inl fo)))] sz)) 1 6 (va_A [(h0, .inr (11, [.ref qc, .int n, .ref fl, .null, .int wp])), (qo, .inl (aO, 1, .inr (.inl fo)))] sz) := by
  refine xt_MetW (cc := cL_count) (maxL := 4) (ret := (some .int)) (hh := [(0, 9, 12, 19)]) (by decide) rfl ?_
  intro p e s m args below meth c s₁ B hml htab hv
  obtain ⟨rfl, hsz, hP, hK, hD0, hE⟩ := hv
  have hx := B.exec
  have hb := B.bytes
  have hr := B.returns
  have hts := atoms_spec (ws := (.codeWith yL_count cL_count 4 (some .int) [(0, 9, 12, 19)] :: bg)) B.pre
  have htb : ∀ w ∈ bg, w.before _ s = true := fun w h => hts w (List.mem_cons_of_mem _ h)
  have hown : s.vm.findClass RL = some m.cls := findClass_of_methodNamed B.named
  have hlocks := B.notSynchronized
  subst hsz
  have hD := hD0.self (sz := s.heap.size)
  generalize hAe : va_A [(h0, .inr (11, [.ref qc, .int n, .ref fl, .null, .int wp])), (qo, .inl (aO, 1, .inr (.inl fo)))] s.heap.size = A at hD hE ⊢
  have hA : ∀ q : Nat, s.heap.size ≤ q → A q := fun q h => by rw [← hAe]; exact Or.inr h
  have hS : va_S A s.heap s.heap [] := va_S.rf
  have hP : va_P D vwCl [(h0, .inr (11, [.ref qc, .int n, .ref fl, .null, .int wp])), (qo, .inl (aO, 1, .inr (.inl fo)))] s.heap := hP
  have hl := lv_entry ([.ref h0, .int x0, .ref qo]) (n := 4) (Nat.le_of_ble_eq_true rfl)
  rw [lg_entry_eq]
  generalize (lg_sl ([.ref h0, .int x0, .ref qo]) ++ List.replicate (4 - (lg_sl ([.ref h0, .int x0, .ref qo])).length) Slot.unset).toArray = ls at hl ⊢
  have hl : lv_has ls 4 [(0, .ref h0), (1, .int x0), (2, .ref qo)] := hl
  refine lv_aload_n hx hb dL_count_0 rfl (lv_at hl 2 rfl) ?_
  refine lv_iconst (v := 0) hx hb dL_count_1 (by decide) ?_
  refine lv_aload_n hx hb dL_count_2 rfl (lv_at hl 0 rfl) ?_
  refine lv_iload_n hx hb dL_count_3 rfl (lv_at hl 1 rfl) ?_
  refine xb_gox (wr := [(qo, .inl (aO, 1, .inr (.inl fo)))]) (vx_runV (As := [.int x0]) (rest := [.int 0, .ref qo]) ⟨hx, hb, hml, hown, htb⟩ (cg_count l D g h0 qc n fl wp x0 (Array.size s.heap)  hnt) (bg_V 1 htb bg_326 bg_327 bg_328 bg_18 bg_62 rfl rfl (by decide +kernel) ⟨Nat.le_of_ble_eq_true rfl, Nat.le_of_ble_eq_true rfl⟩) ⟨xb_blind xe_ok, va_recv hK hP (ci := 11) (q0 := 0) rfl rfl, xb_enter xe_ok hK hP hD hS hA hE [0] rfl rfl rfl [] rfl⟩ rfl rfl hl.1 rfl (lv_room (Nat.le_of_ble_eq_true rfl)) dL_count_4 ⟨Nat.le_of_ble_eq_true rfl, Nat.le_of_ble_eq_true rfl⟩) hK hP hD hS hA [0] [1] rfl rfl rfl (by decide) hown (htb _ bg_614) htab (by decide) (by decide) (fun r_4 u_4 H locs hw_4 hP hD hK hS => ?_) (fun x9 H locs hpx hP hD hS => ?_)
  · skip
    have hP : va_P D vwCl [(qo, .inl (aO, 1, .inr (.inl fo))), (h0, .inr (11, [.ref qc, .int n, .ref fl, .null, .int wp]))] H := hP
    have hD : va_D A [(qo, .inl (aO, 1, .inr (.inl fo))), (h0, .inr (11, [.ref qc, .int n, .ref fl, .null, .int wp]))] := hD
    have hK : va_K D vwCl [(aO, .long)] s := hK
    refine W.widen (k := 1) (n := 6) (by decide) (by decide) ?_
    obtain ⟨hw_4, hok⟩ := hw_4
    have hw_4 : r_4 = (-1) := hw_4
    subst hw_4
    refine lv_i2l (v := Int32.toInt64 (-1)) hx hb dL_count_7 rfl ?_
    refine va_last hx hb hK hP hD hS 0 0 rfl rfl (by unfold vp_in; decide) dL_count_8 (fun H locs hP hD hS => ?_)
    have hP : va_P D vwCl [(qo, .inl (aO, 1, .inr (.inl (vp_updL fo (Int32.toNatClampNeg 0) (Int32.toInt64 (-1)))))), (h0, .inr (11, [.ref qc, .int n, .ref fl, .null, .int wp]))] H := hP
    have hD : va_D A [(qo, .inl (aO, 1, .inr (.inl (vp_updL fo (Int32.toNatClampNeg 0) (Int32.toInt64 (-1)))))), (h0, .inr (11, [.ref qc, .int n, .ref fl, .null, .int wp]))] := hD
    refine lv_goto (tgt := 15) hx hb dL_count_9 (by decide) ?_
    refine lv_iconst (v := 0) hx hb dL_count_15 (by decide) ?_
    have hP9 := hP.sub (ws' := [(qo, .inl (aO, 1, .inr (.inl (vp_updL fo (Int32.toNatClampNeg 0) (Int32.toInt64 (-1))))))]) [0] rfl
    have hD9 := hD.sub (ws' := [(qo, .inl (aO, 1, .inr (.inl (vp_updL fo (Int32.toNatClampNeg 0) (Int32.toInt64 (-1))))))]) [0] rfl rfl
    have hK9 := hK.sub (tys' := [(aO, .long)]) [0] rfl
    exact W.iret (v := 0) hx hb hr (fun t ht hW => ⟨⟨0, (vp_updL fo (Int32.toNatClampNeg 0) (Int32.toInt64 (-1))), rfl, Or.inl ⟨hok.1, hok.2, rfl, pk_uLs⟩, by rw [ht]; exact hP9, va_K.moved hW.alike hK9, hD9⟩, hS.F ht⟩) hS.2.2 dL_count_16
  · skip
    have hP : va_P D vwCl [(qo, .inl (aO, 1, .inr (.inl fo))), (h0, .inr (11, [.ref qc, .int n, .ref fl, .null, .int wp]))] H := hP
    have hD : va_D A [(qo, .inl (aO, 1, .inr (.inl fo))), (h0, .inr (11, [.ref qc, .int n, .ref fl, .null, .int wp]))] := hD
    refine W.widen (k := 1) (n := 6) (by decide) (by decide) ?_
    refine lv_astore_n (lv' := [(3, .ref x9), (0, .ref h0), (1, .int x0), (2, .ref qo)]) hx hb dL_count_12 rfl hl (by decide) rfl (fun ls hl => ?_)
    refine lv_iconst (v := 1) hx hb dL_count_13 (by decide) ?_
    have hP9 := hP.sub (ws' := [(qo, .inl (aO, 1, .inr (.inl fo)))]) [0] rfl
    have hD9 := hD.sub (ws' := [(qo, .inl (aO, 1, .inr (.inl fo)))]) [0] rfl rfl
    have hK9 := hK.sub (tys' := [(aO, .long)]) [0] rfl
    exact W.iret (v := 1) hx hb hr (fun t ht hW => ⟨⟨1, fo, rfl, Or.inr ⟨hpx, rfl⟩, by rw [ht]; exact hP9, va_K.moved hW.alike hK9, hD9⟩, hS.F ht⟩) hS.2.2 dL_count_14
theorem dL_entry_0 : decode cL_entry 0 = .ok (.aload_n 3, 1) := by decide +kernel
theorem dL_entry_1 : decode cL_entry 1 = .ok (.iconst 0, 1) := by decide +kernel
theorem dL_entry_2 : decode cL_entry 2 = .ok (.aload_n 0, 1) := by decide +kernel
theorem dL_entry_3 : decode cL_entry 3 = .ok (.iload_n 1, 1) := by decide +kernel
theorem dL_entry_4 : decode cL_entry 4 = .ok (.iload_n 2, 1) := by decide +kernel
theorem dL_entry_5 : decode cL_entry 5 = .ok (.invokevirtual 24, 3) := by decide +kernel
theorem dL_entry_8 : decode cL_entry 8 = .ok (.i2l, 1) := by decide +kernel
theorem dL_entry_9 : decode cL_entry 9 = .ok (.lastore, 1) := by decide +kernel
theorem dL_entry_10 : decode cL_entry 10 = .ok (.goto 7, 3) := by decide +kernel
theorem dL_entry_13 : decode cL_entry 13 = .ok (.astore 4, 2) := by decide +kernel
theorem dL_entry_15 : decode cL_entry 15 = .ok (.iconst 1, 1) := by decide +kernel
theorem dL_entry_16 : decode cL_entry 16 = .ok (.ireturn, 1) := by decide +kernel
theorem dL_entry_17 : decode cL_entry 17 = .ok (.iconst 0, 1) := by decide +kernel
theorem dL_entry_18 : decode cL_entry 18 = .ok (.ireturn, 1) := by decide +kernel
set_option maxHeartbeats 4000000 in
set_option maxRecDepth 100000 in
theorem lh_entry (l : Launch) (D : va_G) (g : xe_G) (h0 : Nat) (qc : Nat) (n : Int32) (fl : Nat) (wp : Int32) (qo : Nat) (aO : ClassId) (fo : Nat → Int64) (x0 : Int32) (x1 : Int32) (sz : Nat) (hnt : l.stackTraces = false) : Met l yL_entry (.codeWith yL_entry cL_entry 5 (some .int) [(0, 10, 13, 19)] :: bg) ({ frames := 10, cells := 1, slots := 6, locals := 900 } : Room) (xb_Pre (xe_E g) D vwCl [(h0, .inr (11, [.ref qc, .int n, .ref fl, .null, .int wp])), (qo, .inl (aO, 1, .inr (.inl fo)))] [(aO, .long)] sz [.ref h0, .int x0, .int x1, .ref qo]) (va_Qi (fun r u => (¬ x1 < 0 ∧ x1 ≤ 2 ∧ r = 0 ∧ u 0 = Int32.toInt64 (-1)) ∨ ((x1 < 0 ∨ ¬ x1 ≤ 2) ∧ r = 1)) (xb_B D vwCl (va_A [(h0, .inr (11, [.ref qc, .int n, .ref fl, .null, .int wp])), (qo, .inl (aO, 1, .inr (.inl fo)))] sz) (fun u : (Nat → Int64) => [(qo, .inl (aO, 1, .inr (.inl u)))]) (fun u : (Nat → Int64) => [(aO, .long)])) (va_A [(h0, .inr (11, [.ref qc, .int n, .ref fl, .null, .int wp])), (qo, .inl (aO, 1, .inr (.inl fo)))] sz)) 1 6 (va_A [(h0, .inr (11, [.ref qc, .int n, .ref fl, .null, .int wp])), (qo, .inl (aO, 1, .inr (.inl fo)))] sz) := by
  refine xt_MetW (cc := cL_entry) (maxL := 5) (ret := (some .int)) (hh := [(0, 10, 13, 19)]) (by decide) rfl ?_
  intro p e s m args below meth c s₁ B hml htab hv
  obtain ⟨rfl, hsz, hP, hK, hD0, hE⟩ := hv
  have hx := B.exec
  have hb := B.bytes
  have hr := B.returns
  have hts := atoms_spec (ws := (.codeWith yL_entry cL_entry 5 (some .int) [(0, 10, 13, 19)] :: bg)) B.pre
  have htb : ∀ w ∈ bg, w.before _ s = true := fun w h => hts w (List.mem_cons_of_mem _ h)
  have hown : s.vm.findClass RL = some m.cls := findClass_of_methodNamed B.named
  have hlocks := B.notSynchronized
  subst hsz
  have hD := hD0.self (sz := s.heap.size)
  generalize hAe : va_A [(h0, .inr (11, [.ref qc, .int n, .ref fl, .null, .int wp])), (qo, .inl (aO, 1, .inr (.inl fo)))] s.heap.size = A at hD hE ⊢
  have hA : ∀ q : Nat, s.heap.size ≤ q → A q := fun q h => by rw [← hAe]; exact Or.inr h
  have hS : va_S A s.heap s.heap [] := va_S.rf
  have hP : va_P D vwCl [(h0, .inr (11, [.ref qc, .int n, .ref fl, .null, .int wp])), (qo, .inl (aO, 1, .inr (.inl fo)))] s.heap := hP
  have hl := lv_entry ([.ref h0, .int x0, .int x1, .ref qo]) (n := 5) (Nat.le_of_ble_eq_true rfl)
  rw [lg_entry_eq]
  generalize (lg_sl ([.ref h0, .int x0, .int x1, .ref qo]) ++ List.replicate (5 - (lg_sl ([.ref h0, .int x0, .int x1, .ref qo])).length) Slot.unset).toArray = ls at hl ⊢
  have hl : lv_has ls 5 [(0, .ref h0), (1, .int x0), (2, .int x1), (3, .ref qo)] := hl
  refine lv_aload_n hx hb dL_entry_0 rfl (lv_at hl 3 rfl) ?_
  refine lv_iconst (v := 0) hx hb dL_entry_1 (by decide) ?_
  refine lv_aload_n hx hb dL_entry_2 rfl (lv_at hl 0 rfl) ?_
  refine lv_iload_n hx hb dL_entry_3 rfl (lv_at hl 1 rfl) ?_
  refine lv_iload_n hx hb dL_entry_4 rfl (lv_at hl 2 rfl) ?_
  refine xb_gox (wr := [(qo, .inl (aO, 1, .inr (.inl fo)))]) (vx_runV (As := [.int x0, .int x1]) (rest := [.int 0, .ref qo]) ⟨hx, hb, hml, hown, htb⟩ (cg_entry l D g h0 qc n fl wp x0 x1 (Array.size s.heap)  hnt) (bg_V 2 htb bg_330 bg_331 bg_332 bg_18 bg_63 rfl rfl (by decide +kernel) ⟨Nat.le_of_ble_eq_true rfl, Nat.le_of_ble_eq_true rfl⟩) ⟨xb_blind xe_ok, va_recv hK hP (ci := 11) (q0 := 0) rfl rfl, xb_enter xe_ok hK hP hD hS hA hE [0] rfl rfl rfl [] rfl⟩ rfl rfl hl.1 rfl (lv_room (Nat.le_of_ble_eq_true rfl)) dL_entry_5 ⟨Nat.le_of_ble_eq_true rfl, Nat.le_of_ble_eq_true rfl⟩) hK hP hD hS hA [0] [1] rfl rfl rfl (by decide) hown (htb _ bg_614) htab (by decide) (by decide) (fun r_5 u_5 H locs hw_5 hP hD hK hS => ?_) (fun x9 H locs hpx hP hD hS => ?_)
  · skip
    have hP : va_P D vwCl [(qo, .inl (aO, 1, .inr (.inl fo))), (h0, .inr (11, [.ref qc, .int n, .ref fl, .null, .int wp]))] H := hP
    have hD : va_D A [(qo, .inl (aO, 1, .inr (.inl fo))), (h0, .inr (11, [.ref qc, .int n, .ref fl, .null, .int wp]))] := hD
    have hK : va_K D vwCl [(aO, .long)] s := hK
    refine W.widen (k := 1) (n := 6) (by decide) (by decide) ?_
    obtain ⟨hw_5, hok⟩ := hw_5
    have hw_5 : r_5 = (-1) := hw_5
    subst hw_5
    refine lv_i2l (v := Int32.toInt64 (-1)) hx hb dL_entry_8 rfl ?_
    refine va_last hx hb hK hP hD hS 0 0 rfl rfl (by unfold vp_in; decide) dL_entry_9 (fun H locs hP hD hS => ?_)
    have hP : va_P D vwCl [(qo, .inl (aO, 1, .inr (.inl (vp_updL fo (Int32.toNatClampNeg 0) (Int32.toInt64 (-1)))))), (h0, .inr (11, [.ref qc, .int n, .ref fl, .null, .int wp]))] H := hP
    have hD : va_D A [(qo, .inl (aO, 1, .inr (.inl (vp_updL fo (Int32.toNatClampNeg 0) (Int32.toInt64 (-1)))))), (h0, .inr (11, [.ref qc, .int n, .ref fl, .null, .int wp]))] := hD
    refine lv_goto (tgt := 17) hx hb dL_entry_10 (by decide) ?_
    refine lv_iconst (v := 0) hx hb dL_entry_17 (by decide) ?_
    have hP9 := hP.sub (ws' := [(qo, .inl (aO, 1, .inr (.inl (vp_updL fo (Int32.toNatClampNeg 0) (Int32.toInt64 (-1))))))]) [0] rfl
    have hD9 := hD.sub (ws' := [(qo, .inl (aO, 1, .inr (.inl (vp_updL fo (Int32.toNatClampNeg 0) (Int32.toInt64 (-1))))))]) [0] rfl rfl
    have hK9 := hK.sub (tys' := [(aO, .long)]) [0] rfl
    exact W.iret (v := 0) hx hb hr (fun t ht hW => ⟨⟨0, (vp_updL fo (Int32.toNatClampNeg 0) (Int32.toInt64 (-1))), rfl, Or.inl ⟨hok.1, hok.2, rfl, pk_uLs⟩, by rw [ht]; exact hP9, va_K.moved hW.alike hK9, hD9⟩, hS.F ht⟩) hS.2.2 dL_entry_18
  · skip
    have hP : va_P D vwCl [(qo, .inl (aO, 1, .inr (.inl fo))), (h0, .inr (11, [.ref qc, .int n, .ref fl, .null, .int wp]))] H := hP
    have hD : va_D A [(qo, .inl (aO, 1, .inr (.inl fo))), (h0, .inr (11, [.ref qc, .int n, .ref fl, .null, .int wp]))] := hD
    refine W.widen (k := 1) (n := 6) (by decide) (by decide) ?_
    refine lv_astore (lv' := [(4, .ref x9), (0, .ref h0), (1, .int x0), (2, .int x1), (3, .ref qo)]) hx hb dL_entry_13 hl (by decide) rfl (fun ls hl => ?_)
    refine lv_iconst (v := 1) hx hb dL_entry_15 (by decide) ?_
    have hP9 := hP.sub (ws' := [(qo, .inl (aO, 1, .inr (.inl fo)))]) [0] rfl
    have hD9 := hD.sub (ws' := [(qo, .inl (aO, 1, .inr (.inl fo)))]) [0] rfl rfl
    have hK9 := hK.sub (tys' := [(aO, .long)]) [0] rfl
    exact W.iret (v := 1) hx hb hr (fun t ht hW => ⟨⟨1, fo, rfl, Or.inr ⟨hpx, rfl⟩, by rw [ht]; exact hP9, va_K.moved hW.alike hK9, hD9⟩, hS.F ht⟩) hS.2.2 dL_entry_16
theorem dL_member_0 : decode cL_member 0 = .ok (.aload 4, 2) := by decide +kernel
theorem dL_member_2 : decode cL_member 2 = .ok (.iconst 0, 1) := by decide +kernel
theorem dL_member_3 : decode cL_member 3 = .ok (.aload_n 0, 1) := by decide +kernel
theorem dL_member_4 : decode cL_member 4 = .ok (.iload_n 1, 1) := by decide +kernel
theorem dL_member_5 : decode cL_member 5 = .ok (.iload_n 2, 1) := by decide +kernel
theorem dL_member_6 : decode cL_member 6 = .ok (.iload_n 3, 1) := by decide +kernel
theorem dL_member_7 : decode cL_member 7 = .ok (.invokevirtual 28, 3) := by decide +kernel
theorem dL_member_10 : decode cL_member 10 = .ok (.i2l, 1) := by decide +kernel
theorem dL_member_11 : decode cL_member 11 = .ok (.lastore, 1) := by decide +kernel
theorem dL_member_12 : decode cL_member 12 = .ok (.goto 7, 3) := by decide +kernel
theorem dL_member_15 : decode cL_member 15 = .ok (.astore 5, 2) := by decide +kernel
theorem dL_member_17 : decode cL_member 17 = .ok (.iconst 1, 1) := by decide +kernel
theorem dL_member_18 : decode cL_member 18 = .ok (.ireturn, 1) := by decide +kernel
theorem dL_member_19 : decode cL_member 19 = .ok (.iconst 0, 1) := by decide +kernel
theorem dL_member_20 : decode cL_member 20 = .ok (.ireturn, 1) := by decide +kernel
set_option maxHeartbeats 4000000 in
set_option maxRecDepth 100000 in
theorem lh_member (l : Launch) (D : va_G) (g : xe_G) (h0 : Nat) (qc : Nat) (n : Int32) (fl : Nat) (wp : Int32) (qo : Nat) (aO : ClassId) (fo : Nat → Int64) (x0 : Int32) (x1 : Int32) (x2 : Int32) (sz : Nat) (hnt : l.stackTraces = false) : Met l yL_member (.codeWith yL_member cL_member 6 (some .int) [(0, 12, 15, 19)] :: bg) ({ frames := 10, cells := 1, slots := 6, locals := 900 } : Room) (xb_Pre (xe_E g) D vwCl [(h0, .inr (11, [.ref qc, .int n, .ref fl, .null, .int wp])), (qo, .inl (aO, 1, .inr (.inl fo)))] [(aO, .long)] sz [.ref h0, .int x0, .int x1, .int x2, .ref qo]) (va_Qi (fun r u => (¬ x2 < 0 ∧ x2 ≤ 9 ∧ r = 0 ∧ u 0 = Int32.toInt64 (-1)) ∨ ((x2 < 0 ∨ ¬ x2 ≤ 9) ∧ r = 1)) (xb_B D vwCl (va_A [(h0, .inr (11, [.ref qc, .int n, .ref fl, .null, .int wp])), (qo, .inl (aO, 1, .inr (.inl fo)))] sz) (fun u : (Nat → Int64) => [(qo, .inl (aO, 1, .inr (.inl u)))]) (fun u : (Nat → Int64) => [(aO, .long)])) (va_A [(h0, .inr (11, [.ref qc, .int n, .ref fl, .null, .int wp])), (qo, .inl (aO, 1, .inr (.inl fo)))] sz)) 1 6 (va_A [(h0, .inr (11, [.ref qc, .int n, .ref fl, .null, .int wp])), (qo, .inl (aO, 1, .inr (.inl fo)))] sz) := by
  refine xt_MetW (cc := cL_member) (maxL := 6) (ret := (some .int)) (hh := [(0, 12, 15, 19)]) (by decide) rfl ?_
  intro p e s m args below meth c s₁ B hml htab hv
  obtain ⟨rfl, hsz, hP, hK, hD0, hE⟩ := hv
  have hx := B.exec
  have hb := B.bytes
  have hr := B.returns
  have hts := atoms_spec (ws := (.codeWith yL_member cL_member 6 (some .int) [(0, 12, 15, 19)] :: bg)) B.pre
  have htb : ∀ w ∈ bg, w.before _ s = true := fun w h => hts w (List.mem_cons_of_mem _ h)
  have hown : s.vm.findClass RL = some m.cls := findClass_of_methodNamed B.named
  have hlocks := B.notSynchronized
  subst hsz
  have hD := hD0.self (sz := s.heap.size)
  generalize hAe : va_A [(h0, .inr (11, [.ref qc, .int n, .ref fl, .null, .int wp])), (qo, .inl (aO, 1, .inr (.inl fo)))] s.heap.size = A at hD hE ⊢
  have hA : ∀ q : Nat, s.heap.size ≤ q → A q := fun q h => by rw [← hAe]; exact Or.inr h
  have hS : va_S A s.heap s.heap [] := va_S.rf
  have hP : va_P D vwCl [(h0, .inr (11, [.ref qc, .int n, .ref fl, .null, .int wp])), (qo, .inl (aO, 1, .inr (.inl fo)))] s.heap := hP
  have hl := lv_entry ([.ref h0, .int x0, .int x1, .int x2, .ref qo]) (n := 6) (Nat.le_of_ble_eq_true rfl)
  rw [lg_entry_eq]
  generalize (lg_sl ([.ref h0, .int x0, .int x1, .int x2, .ref qo]) ++ List.replicate (6 - (lg_sl ([.ref h0, .int x0, .int x1, .int x2, .ref qo])).length) Slot.unset).toArray = ls at hl ⊢
  have hl : lv_has ls 6 [(0, .ref h0), (1, .int x0), (2, .int x1), (3, .int x2), (4, .ref qo)] := hl
  refine lv_aload hx hb dL_member_0 (lv_at hl 4 rfl) ?_
  refine lv_iconst (v := 0) hx hb dL_member_2 (by decide) ?_
  refine lv_aload_n hx hb dL_member_3 rfl (lv_at hl 0 rfl) ?_
  refine lv_iload_n hx hb dL_member_4 rfl (lv_at hl 1 rfl) ?_
  refine lv_iload_n hx hb dL_member_5 rfl (lv_at hl 2 rfl) ?_
  refine lv_iload_n hx hb dL_member_6 rfl (lv_at hl 3 rfl) ?_
  refine xb_gox (wr := [(qo, .inl (aO, 1, .inr (.inl fo)))]) (vx_runV (As := [.int x0, .int x1, .int x2]) (rest := [.int 0, .ref qo]) ⟨hx, hb, hml, hown, htb⟩ (cg_member l D g h0 qc n fl wp x0 x1 x2 (Array.size s.heap)  hnt) (bg_V 3 htb bg_334 bg_335 bg_336 bg_18 bg_71 rfl rfl (by decide +kernel) ⟨Nat.le_of_ble_eq_true rfl, Nat.le_of_ble_eq_true rfl⟩) ⟨xb_blind xe_ok, va_recv hK hP (ci := 11) (q0 := 0) rfl rfl, xb_enter xe_ok hK hP hD hS hA hE [0] rfl rfl rfl [] rfl⟩ rfl rfl hl.1 rfl (lv_room (Nat.le_of_ble_eq_true rfl)) dL_member_7 ⟨Nat.le_of_ble_eq_true rfl, Nat.le_of_ble_eq_true rfl⟩) hK hP hD hS hA [0] [1] rfl rfl rfl (by decide) hown (htb _ bg_614) htab (by decide) (by decide) (fun r_7 u_7 H locs hw_7 hP hD hK hS => ?_) (fun x9 H locs hpx hP hD hS => ?_)
  · skip
    have hP : va_P D vwCl [(qo, .inl (aO, 1, .inr (.inl fo))), (h0, .inr (11, [.ref qc, .int n, .ref fl, .null, .int wp]))] H := hP
    have hD : va_D A [(qo, .inl (aO, 1, .inr (.inl fo))), (h0, .inr (11, [.ref qc, .int n, .ref fl, .null, .int wp]))] := hD
    have hK : va_K D vwCl [(aO, .long)] s := hK
    refine W.widen (k := 1) (n := 6) (by decide) (by decide) ?_
    obtain ⟨hw_7, hok⟩ := hw_7
    have hw_7 : r_7 = (-1) := hw_7
    subst hw_7
    refine lv_i2l (v := Int32.toInt64 (-1)) hx hb dL_member_10 rfl ?_
    refine va_last hx hb hK hP hD hS 0 0 rfl rfl (by unfold vp_in; decide) dL_member_11 (fun H locs hP hD hS => ?_)
    have hP : va_P D vwCl [(qo, .inl (aO, 1, .inr (.inl (vp_updL fo (Int32.toNatClampNeg 0) (Int32.toInt64 (-1)))))), (h0, .inr (11, [.ref qc, .int n, .ref fl, .null, .int wp]))] H := hP
    have hD : va_D A [(qo, .inl (aO, 1, .inr (.inl (vp_updL fo (Int32.toNatClampNeg 0) (Int32.toInt64 (-1)))))), (h0, .inr (11, [.ref qc, .int n, .ref fl, .null, .int wp]))] := hD
    refine lv_goto (tgt := 19) hx hb dL_member_12 (by decide) ?_
    refine lv_iconst (v := 0) hx hb dL_member_19 (by decide) ?_
    have hP9 := hP.sub (ws' := [(qo, .inl (aO, 1, .inr (.inl (vp_updL fo (Int32.toNatClampNeg 0) (Int32.toInt64 (-1))))))]) [0] rfl
    have hD9 := hD.sub (ws' := [(qo, .inl (aO, 1, .inr (.inl (vp_updL fo (Int32.toNatClampNeg 0) (Int32.toInt64 (-1))))))]) [0] rfl rfl
    have hK9 := hK.sub (tys' := [(aO, .long)]) [0] rfl
    exact W.iret (v := 0) hx hb hr (fun t ht hW => ⟨⟨0, (vp_updL fo (Int32.toNatClampNeg 0) (Int32.toInt64 (-1))), rfl, Or.inl ⟨hok.1, hok.2, rfl, pk_uLs⟩, by rw [ht]; exact hP9, va_K.moved hW.alike hK9, hD9⟩, hS.F ht⟩) hS.2.2 dL_member_20
  · skip
    have hP : va_P D vwCl [(qo, .inl (aO, 1, .inr (.inl fo))), (h0, .inr (11, [.ref qc, .int n, .ref fl, .null, .int wp]))] H := hP
    have hD : va_D A [(qo, .inl (aO, 1, .inr (.inl fo))), (h0, .inr (11, [.ref qc, .int n, .ref fl, .null, .int wp]))] := hD
    refine W.widen (k := 1) (n := 6) (by decide) (by decide) ?_
    refine lv_astore (lv' := [(5, .ref x9), (0, .ref h0), (1, .int x0), (2, .int x1), (3, .int x2), (4, .ref qo)]) hx hb dL_member_15 hl (by decide) rfl (fun ls hl => ?_)
    refine lv_iconst (v := 1) hx hb dL_member_17 (by decide) ?_
    have hP9 := hP.sub (ws' := [(qo, .inl (aO, 1, .inr (.inl fo)))]) [0] rfl
    have hD9 := hD.sub (ws' := [(qo, .inl (aO, 1, .inr (.inl fo)))]) [0] rfl rfl
    have hK9 := hK.sub (tys' := [(aO, .long)]) [0] rfl
    exact W.iret (v := 1) hx hb hr (fun t ht hW => ⟨⟨1, fo, rfl, Or.inr ⟨hpx, rfl⟩, by rw [ht]; exact hP9, va_K.moved hW.alike hK9, hD9⟩, hS.F ht⟩) hS.2.2 dL_member_18
theorem dL_row_0 : decode cL_row 0 = .ok (.aload 4, 2) := by decide +kernel
theorem dL_row_2 : decode cL_row 2 = .ok (.iconst 0, 1) := by decide +kernel
theorem dL_row_3 : decode cL_row 3 = .ok (.aload_n 0, 1) := by decide +kernel
theorem dL_row_4 : decode cL_row 4 = .ok (.iload_n 1, 1) := by decide +kernel
theorem dL_row_5 : decode cL_row 5 = .ok (.iload_n 2, 1) := by decide +kernel
theorem dL_row_6 : decode cL_row 6 = .ok (.iload_n 3, 1) := by decide +kernel
theorem dL_row_7 : decode cL_row 7 = .ok (.invokevirtual 32, 3) := by decide +kernel
theorem dL_row_10 : decode cL_row 10 = .ok (.i2l, 1) := by decide +kernel
theorem dL_row_11 : decode cL_row 11 = .ok (.lastore, 1) := by decide +kernel
theorem dL_row_12 : decode cL_row 12 = .ok (.goto 7, 3) := by decide +kernel
theorem dL_row_15 : decode cL_row 15 = .ok (.astore 5, 2) := by decide +kernel
theorem dL_row_17 : decode cL_row 17 = .ok (.iconst 1, 1) := by decide +kernel
theorem dL_row_18 : decode cL_row 18 = .ok (.ireturn, 1) := by decide +kernel
theorem dL_row_19 : decode cL_row 19 = .ok (.iconst 0, 1) := by decide +kernel
theorem dL_row_20 : decode cL_row 20 = .ok (.ireturn, 1) := by decide +kernel
set_option maxHeartbeats 4000000 in
set_option maxRecDepth 100000 in
theorem lh_row (l : Launch) (D : va_G) (g : xe_G) (h0 : Nat) (qc : Nat) (n : Int32) (fl : Nat) (wp : Int32) (qo : Nat) (aO : ClassId) (fo : Nat → Int64) (x0 : Int32) (x1 : Int32) (x2 : Int32) (sz : Nat) (hnt : l.stackTraces = false) : Met l yL_row (.codeWith yL_row cL_row 6 (some .int) [(0, 12, 15, 19)] :: bg) ({ frames := 10, cells := 1, slots := 6, locals := 900 } : Room) (xb_Pre (xe_E g) D vwCl [(h0, .inr (11, [.ref qc, .int n, .ref fl, .null, .int wp])), (qo, .inl (aO, 1, .inr (.inl fo)))] [(aO, .long)] sz [.ref h0, .int x0, .int x1, .int x2, .ref qo]) (va_Qi (fun r u => (¬ x2 < 0 ∧ x2 ≤ 3 ∧ r = 0 ∧ u 0 = Int32.toInt64 (-1)) ∨ ((x2 < 0 ∨ ¬ x2 ≤ 3) ∧ r = 1)) (xb_B D vwCl (va_A [(h0, .inr (11, [.ref qc, .int n, .ref fl, .null, .int wp])), (qo, .inl (aO, 1, .inr (.inl fo)))] sz) (fun u : (Nat → Int64) => [(qo, .inl (aO, 1, .inr (.inl u)))]) (fun u : (Nat → Int64) => [(aO, .long)])) (va_A [(h0, .inr (11, [.ref qc, .int n, .ref fl, .null, .int wp])), (qo, .inl (aO, 1, .inr (.inl fo)))] sz)) 1 6 (va_A [(h0, .inr (11, [.ref qc, .int n, .ref fl, .null, .int wp])), (qo, .inl (aO, 1, .inr (.inl fo)))] sz) := by
  refine xt_MetW (cc := cL_row) (maxL := 6) (ret := (some .int)) (hh := [(0, 12, 15, 19)]) (by decide) rfl ?_
  intro p e s m args below meth c s₁ B hml htab hv
  obtain ⟨rfl, hsz, hP, hK, hD0, hE⟩ := hv
  have hx := B.exec
  have hb := B.bytes
  have hr := B.returns
  have hts := atoms_spec (ws := (.codeWith yL_row cL_row 6 (some .int) [(0, 12, 15, 19)] :: bg)) B.pre
  have htb : ∀ w ∈ bg, w.before _ s = true := fun w h => hts w (List.mem_cons_of_mem _ h)
  have hown : s.vm.findClass RL = some m.cls := findClass_of_methodNamed B.named
  have hlocks := B.notSynchronized
  subst hsz
  have hD := hD0.self (sz := s.heap.size)
  generalize hAe : va_A [(h0, .inr (11, [.ref qc, .int n, .ref fl, .null, .int wp])), (qo, .inl (aO, 1, .inr (.inl fo)))] s.heap.size = A at hD hE ⊢
  have hA : ∀ q : Nat, s.heap.size ≤ q → A q := fun q h => by rw [← hAe]; exact Or.inr h
  have hS : va_S A s.heap s.heap [] := va_S.rf
  have hP : va_P D vwCl [(h0, .inr (11, [.ref qc, .int n, .ref fl, .null, .int wp])), (qo, .inl (aO, 1, .inr (.inl fo)))] s.heap := hP
  have hl := lv_entry ([.ref h0, .int x0, .int x1, .int x2, .ref qo]) (n := 6) (Nat.le_of_ble_eq_true rfl)
  rw [lg_entry_eq]
  generalize (lg_sl ([.ref h0, .int x0, .int x1, .int x2, .ref qo]) ++ List.replicate (6 - (lg_sl ([.ref h0, .int x0, .int x1, .int x2, .ref qo])).length) Slot.unset).toArray = ls at hl ⊢
  have hl : lv_has ls 6 [(0, .ref h0), (1, .int x0), (2, .int x1), (3, .int x2), (4, .ref qo)] := hl
  refine lv_aload hx hb dL_row_0 (lv_at hl 4 rfl) ?_
  refine lv_iconst (v := 0) hx hb dL_row_2 (by decide) ?_
  refine lv_aload_n hx hb dL_row_3 rfl (lv_at hl 0 rfl) ?_
  refine lv_iload_n hx hb dL_row_4 rfl (lv_at hl 1 rfl) ?_
  refine lv_iload_n hx hb dL_row_5 rfl (lv_at hl 2 rfl) ?_
  refine lv_iload_n hx hb dL_row_6 rfl (lv_at hl 3 rfl) ?_
  refine xb_gox (wr := [(qo, .inl (aO, 1, .inr (.inl fo)))]) (vx_runV (As := [.int x0, .int x1, .int x2]) (rest := [.int 0, .ref qo]) ⟨hx, hb, hml, hown, htb⟩ (cg_row l D g h0 qc n fl wp x0 x1 x2 (Array.size s.heap)  hnt) (bg_V 3 htb bg_338 bg_339 bg_340 bg_18 bg_75 rfl rfl (by decide +kernel) ⟨Nat.le_of_ble_eq_true rfl, Nat.le_of_ble_eq_true rfl⟩) ⟨xb_blind xe_ok, va_recv hK hP (ci := 11) (q0 := 0) rfl rfl, xb_enter xe_ok hK hP hD hS hA hE [0] rfl rfl rfl [] rfl⟩ rfl rfl hl.1 rfl (lv_room (Nat.le_of_ble_eq_true rfl)) dL_row_7 ⟨Nat.le_of_ble_eq_true rfl, Nat.le_of_ble_eq_true rfl⟩) hK hP hD hS hA [0] [1] rfl rfl rfl (by decide) hown (htb _ bg_614) htab (by decide) (by decide) (fun r_7 u_7 H locs hw_7 hP hD hK hS => ?_) (fun x9 H locs hpx hP hD hS => ?_)
  · skip
    have hP : va_P D vwCl [(qo, .inl (aO, 1, .inr (.inl fo))), (h0, .inr (11, [.ref qc, .int n, .ref fl, .null, .int wp]))] H := hP
    have hD : va_D A [(qo, .inl (aO, 1, .inr (.inl fo))), (h0, .inr (11, [.ref qc, .int n, .ref fl, .null, .int wp]))] := hD
    have hK : va_K D vwCl [(aO, .long)] s := hK
    refine W.widen (k := 1) (n := 6) (by decide) (by decide) ?_
    obtain ⟨hw_7, hok⟩ := hw_7
    have hw_7 : r_7 = (-1) := hw_7
    subst hw_7
    refine lv_i2l (v := Int32.toInt64 (-1)) hx hb dL_row_10 rfl ?_
    refine va_last hx hb hK hP hD hS 0 0 rfl rfl (by unfold vp_in; decide) dL_row_11 (fun H locs hP hD hS => ?_)
    have hP : va_P D vwCl [(qo, .inl (aO, 1, .inr (.inl (vp_updL fo (Int32.toNatClampNeg 0) (Int32.toInt64 (-1)))))), (h0, .inr (11, [.ref qc, .int n, .ref fl, .null, .int wp]))] H := hP
    have hD : va_D A [(qo, .inl (aO, 1, .inr (.inl (vp_updL fo (Int32.toNatClampNeg 0) (Int32.toInt64 (-1)))))), (h0, .inr (11, [.ref qc, .int n, .ref fl, .null, .int wp]))] := hD
    refine lv_goto (tgt := 19) hx hb dL_row_12 (by decide) ?_
    refine lv_iconst (v := 0) hx hb dL_row_19 (by decide) ?_
    have hP9 := hP.sub (ws' := [(qo, .inl (aO, 1, .inr (.inl (vp_updL fo (Int32.toNatClampNeg 0) (Int32.toInt64 (-1))))))]) [0] rfl
    have hD9 := hD.sub (ws' := [(qo, .inl (aO, 1, .inr (.inl (vp_updL fo (Int32.toNatClampNeg 0) (Int32.toInt64 (-1))))))]) [0] rfl rfl
    have hK9 := hK.sub (tys' := [(aO, .long)]) [0] rfl
    exact W.iret (v := 0) hx hb hr (fun t ht hW => ⟨⟨0, (vp_updL fo (Int32.toNatClampNeg 0) (Int32.toInt64 (-1))), rfl, Or.inl ⟨hok.1, hok.2, rfl, pk_uLs⟩, by rw [ht]; exact hP9, va_K.moved hW.alike hK9, hD9⟩, hS.F ht⟩) hS.2.2 dL_row_20
  · skip
    have hP : va_P D vwCl [(qo, .inl (aO, 1, .inr (.inl fo))), (h0, .inr (11, [.ref qc, .int n, .ref fl, .null, .int wp]))] H := hP
    have hD : va_D A [(qo, .inl (aO, 1, .inr (.inl fo))), (h0, .inr (11, [.ref qc, .int n, .ref fl, .null, .int wp]))] := hD
    refine W.widen (k := 1) (n := 6) (by decide) (by decide) ?_
    refine lv_astore (lv' := [(5, .ref x9), (0, .ref h0), (1, .int x0), (2, .int x1), (3, .int x2), (4, .ref qo)]) hx hb dL_row_15 hl (by decide) rfl (fun ls hl => ?_)
    refine lv_iconst (v := 1) hx hb dL_row_17 (by decide) ?_
    have hP9 := hP.sub (ws' := [(qo, .inl (aO, 1, .inr (.inl fo)))]) [0] rfl
    have hD9 := hD.sub (ws' := [(qo, .inl (aO, 1, .inr (.inl fo)))]) [0] rfl rfl
    have hK9 := hK.sub (tys' := [(aO, .long)]) [0] rfl
    exact W.iret (v := 1) hx hb hr (fun t ht hW => ⟨⟨1, fo, rfl, Or.inr ⟨hpx, rfl⟩, by rw [ht]; exact hP9, va_K.moved hW.alike hK9, hD9⟩, hS.F ht⟩) hS.2.2 dL_row_18
theorem dL_instruction_0 : decode cL_instruction 0 = .ok (.aload 4, 2) := by decide +kernel
theorem dL_instruction_2 : decode cL_instruction 2 = .ok (.iconst 0, 1) := by decide +kernel
theorem dL_instruction_3 : decode cL_instruction 3 = .ok (.aload_n 0, 1) := by decide +kernel
theorem dL_instruction_4 : decode cL_instruction 4 = .ok (.iload_n 1, 1) := by decide +kernel
theorem dL_instruction_5 : decode cL_instruction 5 = .ok (.iload_n 2, 1) := by decide +kernel
theorem dL_instruction_6 : decode cL_instruction 6 = .ok (.iload_n 3, 1) := by decide +kernel
theorem dL_instruction_7 : decode cL_instruction 7 = .ok (.invokevirtual 36, 3) := by decide +kernel
theorem dL_instruction_10 : decode cL_instruction 10 = .ok (.i2l, 1) := by decide +kernel
theorem dL_instruction_11 : decode cL_instruction 11 = .ok (.lastore, 1) := by decide +kernel
theorem dL_instruction_12 : decode cL_instruction 12 = .ok (.goto 7, 3) := by decide +kernel
theorem dL_instruction_15 : decode cL_instruction 15 = .ok (.astore 5, 2) := by decide +kernel
theorem dL_instruction_17 : decode cL_instruction 17 = .ok (.iconst 1, 1) := by decide +kernel
theorem dL_instruction_18 : decode cL_instruction 18 = .ok (.ireturn, 1) := by decide +kernel
theorem dL_instruction_19 : decode cL_instruction 19 = .ok (.iconst 0, 1) := by decide +kernel
theorem dL_instruction_20 : decode cL_instruction 20 = .ok (.ireturn, 1) := by decide +kernel
set_option maxHeartbeats 4000000 in
set_option maxRecDepth 100000 in
theorem lh_instruction (l : Launch) (D : va_G) (g : xe_G) (h0 : Nat) (qc : Nat) (n : Int32) (fl : Nat) (wp : Int32) (qo : Nat) (aO : ClassId) (fo : Nat → Int64) (x0 : Int32) (x1 : Int32) (x2 : Int32) (sz : Nat) (hnt : l.stackTraces = false) : Met l yL_instruction (.codeWith yL_instruction cL_instruction 6 (some .int) [(0, 12, 15, 19)] :: bg) ({ frames := 10, cells := 1, slots := 6, locals := 900 } : Room) (xb_Pre (xe_E g) D vwCl [(h0, .inr (11, [.ref qc, .int n, .ref fl, .null, .int wp])), (qo, .inl (aO, 1, .inr (.inl fo)))] [(aO, .long)] sz [.ref h0, .int x0, .int x1, .int x2, .ref qo]) (va_Qi (fun r u => (¬ x2 < 0 ∧ x2 ≤ 4 ∧ r = 0 ∧ u 0 = Int32.toInt64 (-1)) ∨ ((x2 < 0 ∨ ¬ x2 ≤ 4) ∧ r = 1)) (xb_B D vwCl (va_A [(h0, .inr (11, [.ref qc, .int n, .ref fl, .null, .int wp])), (qo, .inl (aO, 1, .inr (.inl fo)))] sz) (fun u : (Nat → Int64) => [(qo, .inl (aO, 1, .inr (.inl u)))]) (fun u : (Nat → Int64) => [(aO, .long)])) (va_A [(h0, .inr (11, [.ref qc, .int n, .ref fl, .null, .int wp])), (qo, .inl (aO, 1, .inr (.inl fo)))] sz)) 1 6 (va_A [(h0, .inr (11, [.ref qc, .int n, .ref fl, .null, .int wp])), (qo, .inl (aO, 1, .inr (.inl fo)))] sz) := by
  refine xt_MetW (cc := cL_instruction) (maxL := 6) (ret := (some .int)) (hh := [(0, 12, 15, 19)]) (by decide) rfl ?_
  intro p e s m args below meth c s₁ B hml htab hv
  obtain ⟨rfl, hsz, hP, hK, hD0, hE⟩ := hv
  have hx := B.exec
  have hb := B.bytes
  have hr := B.returns
  have hts := atoms_spec (ws := (.codeWith yL_instruction cL_instruction 6 (some .int) [(0, 12, 15, 19)] :: bg)) B.pre
  have htb : ∀ w ∈ bg, w.before _ s = true := fun w h => hts w (List.mem_cons_of_mem _ h)
  have hown : s.vm.findClass RL = some m.cls := findClass_of_methodNamed B.named
  have hlocks := B.notSynchronized
  subst hsz
  have hD := hD0.self (sz := s.heap.size)
  generalize hAe : va_A [(h0, .inr (11, [.ref qc, .int n, .ref fl, .null, .int wp])), (qo, .inl (aO, 1, .inr (.inl fo)))] s.heap.size = A at hD hE ⊢
  have hA : ∀ q : Nat, s.heap.size ≤ q → A q := fun q h => by rw [← hAe]; exact Or.inr h
  have hS : va_S A s.heap s.heap [] := va_S.rf
  have hP : va_P D vwCl [(h0, .inr (11, [.ref qc, .int n, .ref fl, .null, .int wp])), (qo, .inl (aO, 1, .inr (.inl fo)))] s.heap := hP
  have hl := lv_entry ([.ref h0, .int x0, .int x1, .int x2, .ref qo]) (n := 6) (Nat.le_of_ble_eq_true rfl)
  rw [lg_entry_eq]
  generalize (lg_sl ([.ref h0, .int x0, .int x1, .int x2, .ref qo]) ++ List.replicate (6 - (lg_sl ([.ref h0, .int x0, .int x1, .int x2, .ref qo])).length) Slot.unset).toArray = ls at hl ⊢
  have hl : lv_has ls 6 [(0, .ref h0), (1, .int x0), (2, .int x1), (3, .int x2), (4, .ref qo)] := hl
  refine lv_aload hx hb dL_instruction_0 (lv_at hl 4 rfl) ?_
  refine lv_iconst (v := 0) hx hb dL_instruction_2 (by decide) ?_
  refine lv_aload_n hx hb dL_instruction_3 rfl (lv_at hl 0 rfl) ?_
  refine lv_iload_n hx hb dL_instruction_4 rfl (lv_at hl 1 rfl) ?_
  refine lv_iload_n hx hb dL_instruction_5 rfl (lv_at hl 2 rfl) ?_
  refine lv_iload_n hx hb dL_instruction_6 rfl (lv_at hl 3 rfl) ?_
  refine xb_gox (wr := [(qo, .inl (aO, 1, .inr (.inl fo)))]) (vx_runV (As := [.int x0, .int x1, .int x2]) (rest := [.int 0, .ref qo]) ⟨hx, hb, hml, hown, htb⟩ (cg_instruction l D g h0 qc n fl wp x0 x1 x2 (Array.size s.heap)  hnt) (bg_V 3 htb bg_342 bg_343 bg_344 bg_18 bg_85 rfl rfl (by decide +kernel) ⟨Nat.le_of_ble_eq_true rfl, Nat.le_of_ble_eq_true rfl⟩) ⟨xb_blind xe_ok, va_recv hK hP (ci := 11) (q0 := 0) rfl rfl, xb_enter xe_ok hK hP hD hS hA hE [0] rfl rfl rfl [] rfl⟩ rfl rfl hl.1 rfl (lv_room (Nat.le_of_ble_eq_true rfl)) dL_instruction_7 ⟨Nat.le_of_ble_eq_true rfl, Nat.le_of_ble_eq_true rfl⟩) hK hP hD hS hA [0] [1] rfl rfl rfl (by decide) hown (htb _ bg_614) htab (by decide) (by decide) (fun r_7 u_7 H locs hw_7 hP hD hK hS => ?_) (fun x9 H locs hpx hP hD hS => ?_)
  · skip
    have hP : va_P D vwCl [(qo, .inl (aO, 1, .inr (.inl fo))), (h0, .inr (11, [.ref qc, .int n, .ref fl, .null, .int wp]))] H := hP
    have hD : va_D A [(qo, .inl (aO, 1, .inr (.inl fo))), (h0, .inr (11, [.ref qc, .int n, .ref fl, .null, .int wp]))] := hD
    have hK : va_K D vwCl [(aO, .long)] s := hK
    refine W.widen (k := 1) (n := 6) (by decide) (by decide) ?_
    obtain ⟨hw_7, hok⟩ := hw_7
    have hw_7 : r_7 = (-1) := hw_7
    subst hw_7
    refine lv_i2l (v := Int32.toInt64 (-1)) hx hb dL_instruction_10 rfl ?_
    refine va_last hx hb hK hP hD hS 0 0 rfl rfl (by unfold vp_in; decide) dL_instruction_11 (fun H locs hP hD hS => ?_)
    have hP : va_P D vwCl [(qo, .inl (aO, 1, .inr (.inl (vp_updL fo (Int32.toNatClampNeg 0) (Int32.toInt64 (-1)))))), (h0, .inr (11, [.ref qc, .int n, .ref fl, .null, .int wp]))] H := hP
    have hD : va_D A [(qo, .inl (aO, 1, .inr (.inl (vp_updL fo (Int32.toNatClampNeg 0) (Int32.toInt64 (-1)))))), (h0, .inr (11, [.ref qc, .int n, .ref fl, .null, .int wp]))] := hD
    refine lv_goto (tgt := 19) hx hb dL_instruction_12 (by decide) ?_
    refine lv_iconst (v := 0) hx hb dL_instruction_19 (by decide) ?_
    have hP9 := hP.sub (ws' := [(qo, .inl (aO, 1, .inr (.inl (vp_updL fo (Int32.toNatClampNeg 0) (Int32.toInt64 (-1))))))]) [0] rfl
    have hD9 := hD.sub (ws' := [(qo, .inl (aO, 1, .inr (.inl (vp_updL fo (Int32.toNatClampNeg 0) (Int32.toInt64 (-1))))))]) [0] rfl rfl
    have hK9 := hK.sub (tys' := [(aO, .long)]) [0] rfl
    exact W.iret (v := 0) hx hb hr (fun t ht hW => ⟨⟨0, (vp_updL fo (Int32.toNatClampNeg 0) (Int32.toInt64 (-1))), rfl, Or.inl ⟨hok.1, hok.2, rfl, pk_uLs⟩, by rw [ht]; exact hP9, va_K.moved hW.alike hK9, hD9⟩, hS.F ht⟩) hS.2.2 dL_instruction_20
  · skip
    have hP : va_P D vwCl [(qo, .inl (aO, 1, .inr (.inl fo))), (h0, .inr (11, [.ref qc, .int n, .ref fl, .null, .int wp]))] H := hP
    have hD : va_D A [(qo, .inl (aO, 1, .inr (.inl fo))), (h0, .inr (11, [.ref qc, .int n, .ref fl, .null, .int wp]))] := hD
    refine W.widen (k := 1) (n := 6) (by decide) (by decide) ?_
    refine lv_astore (lv' := [(5, .ref x9), (0, .ref h0), (1, .int x0), (2, .int x1), (3, .int x2), (4, .ref qo)]) hx hb dL_instruction_15 hl (by decide) rfl (fun ls hl => ?_)
    refine lv_iconst (v := 1) hx hb dL_instruction_17 (by decide) ?_
    have hP9 := hP.sub (ws' := [(qo, .inl (aO, 1, .inr (.inl fo)))]) [0] rfl
    have hD9 := hD.sub (ws' := [(qo, .inl (aO, 1, .inr (.inl fo)))]) [0] rfl rfl
    have hK9 := hK.sub (tys' := [(aO, .long)]) [0] rfl
    exact W.iret (v := 1) hx hb hr (fun t ht hW => ⟨⟨1, fo, rfl, Or.inr ⟨hpx, rfl⟩, by rw [ht]; exact hP9, va_K.moved hW.alike hK9, hD9⟩, hS.F ht⟩) hS.2.2 dL_instruction_18
theorem dL_end_0 : decode cL_end 0 = .ok (.aload_n 2, 1) := by decide +kernel
theorem dL_end_1 : decode cL_end 1 = .ok (.iconst 0, 1) := by decide +kernel
theorem dL_end_2 : decode cL_end 2 = .ok (.aload_n 0, 1) := by decide +kernel
theorem dL_end_3 : decode cL_end 3 = .ok (.iload_n 1, 1) := by decide +kernel
theorem dL_end_4 : decode cL_end 4 = .ok (.invokevirtual 15, 3) := by decide +kernel
theorem dL_end_7 : decode cL_end 7 = .ok (.i2l, 1) := by decide +kernel
theorem dL_end_8 : decode cL_end 8 = .ok (.lastore, 1) := by decide +kernel
theorem dL_end_9 : decode cL_end 9 = .ok (.goto 6, 3) := by decide +kernel
theorem dL_end_12 : decode cL_end 12 = .ok (.astore_n 3, 1) := by decide +kernel
theorem dL_end_13 : decode cL_end 13 = .ok (.iconst 1, 1) := by decide +kernel
theorem dL_end_14 : decode cL_end 14 = .ok (.ireturn, 1) := by decide +kernel
theorem dL_end_15 : decode cL_end 15 = .ok (.iconst 0, 1) := by decide +kernel
theorem dL_end_16 : decode cL_end 16 = .ok (.ireturn, 1) := by decide +kernel
set_option maxHeartbeats 4000000 in
set_option maxRecDepth 100000 in
theorem lh_end (l : Launch) (D : va_G) (g : xe_G) (h0 : Nat) (qc : Nat) (fl : Nat) (wp : Int32) (cB : ClassId) (f : Nat → Int32) (qo : Nat) (aO : ClassId) (fo : Nat → Int64) (x0 : Int32) (sz : Nat) (hnt : l.stackTraces = false) : Met l yL_end (.codeWith yL_end cL_end 4 (some .int) [(0, 9, 12, 19)] :: bg) ({ frames := 10, cells := 1, slots := 6, locals := 900 } : Room) (xb_Pre (xe_E g) D vwCl [(h0, .inr (11, [.ref qc, .int 0, .ref fl, .null, .int wp])), (qc, .inl (cB, 1024, .inl f)), (qo, .inl (aO, 1, .inr (.inl fo)))] [(cB, .byte), (aO, .long)] sz [.ref h0, .int x0, .ref qo]) (va_Qi (fun r u => (¬ x0 < 0 ∧ x0 ≤ 0 ∧ r = 0 ∧ u 0 = Int32.toInt64 0) ∨ ((x0 < 0 ∨ ¬ x0 ≤ 0) ∧ r = 1)) (xb_B D vwCl (va_A [(h0, .inr (11, [.ref qc, .int 0, .ref fl, .null, .int wp])), (qc, .inl (cB, 1024, .inl f)), (qo, .inl (aO, 1, .inr (.inl fo)))] sz) (fun u : (Nat → Int64) => [(qo, .inl (aO, 1, .inr (.inl u)))]) (fun u : (Nat → Int64) => [(aO, .long)])) (va_A [(h0, .inr (11, [.ref qc, .int 0, .ref fl, .null, .int wp])), (qc, .inl (cB, 1024, .inl f)), (qo, .inl (aO, 1, .inr (.inl fo)))] sz)) 1 6 (va_A [(h0, .inr (11, [.ref qc, .int 0, .ref fl, .null, .int wp])), (qc, .inl (cB, 1024, .inl f)), (qo, .inl (aO, 1, .inr (.inl fo)))] sz) := by
  refine xt_MetW (cc := cL_end) (maxL := 4) (ret := (some .int)) (hh := [(0, 9, 12, 19)]) (by decide) rfl ?_
  intro p e s m args below meth c s₁ B hml htab hv
  obtain ⟨rfl, hsz, hP, hK, hD0, hE⟩ := hv
  have hx := B.exec
  have hb := B.bytes
  have hr := B.returns
  have hts := atoms_spec (ws := (.codeWith yL_end cL_end 4 (some .int) [(0, 9, 12, 19)] :: bg)) B.pre
  have htb : ∀ w ∈ bg, w.before _ s = true := fun w h => hts w (List.mem_cons_of_mem _ h)
  have hown : s.vm.findClass RL = some m.cls := findClass_of_methodNamed B.named
  have hlocks := B.notSynchronized
  subst hsz
  have hD := hD0.self (sz := s.heap.size)
  generalize hAe : va_A [(h0, .inr (11, [.ref qc, .int 0, .ref fl, .null, .int wp])), (qc, .inl (cB, 1024, .inl f)), (qo, .inl (aO, 1, .inr (.inl fo)))] s.heap.size = A at hD hE ⊢
  have hA : ∀ q : Nat, s.heap.size ≤ q → A q := fun q h => by rw [← hAe]; exact Or.inr h
  have hS : va_S A s.heap s.heap [] := va_S.rf
  have hP : va_P D vwCl [(h0, .inr (11, [.ref qc, .int 0, .ref fl, .null, .int wp])), (qc, .inl (cB, 1024, .inl f)), (qo, .inl (aO, 1, .inr (.inl fo)))] s.heap := hP
  have hl := lv_entry ([.ref h0, .int x0, .ref qo]) (n := 4) (Nat.le_of_ble_eq_true rfl)
  rw [lg_entry_eq]
  generalize (lg_sl ([.ref h0, .int x0, .ref qo]) ++ List.replicate (4 - (lg_sl ([.ref h0, .int x0, .ref qo])).length) Slot.unset).toArray = ls at hl ⊢
  have hl : lv_has ls 4 [(0, .ref h0), (1, .int x0), (2, .ref qo)] := hl
  refine lv_aload_n hx hb dL_end_0 rfl (lv_at hl 2 rfl) ?_
  refine lv_iconst (v := 0) hx hb dL_end_1 (by decide) ?_
  refine lv_aload_n hx hb dL_end_2 rfl (lv_at hl 0 rfl) ?_
  refine lv_iload_n hx hb dL_end_3 rfl (lv_at hl 1 rfl) ?_
  refine xb_gox (wr := [(qo, .inl (aO, 1, .inr (.inl fo)))]) (vx_runV (As := [.int x0]) (rest := [.int 0, .ref qo]) ⟨hx, hb, hml, hown, htb⟩ (cg_end l D g h0 qc fl wp cB f x0 (Array.size s.heap)  hnt) (bg_V 1 htb bg_322 bg_323 bg_324 bg_18 bg_23 rfl rfl (by decide +kernel) ⟨Nat.le_of_ble_eq_true rfl, Nat.le_of_ble_eq_true rfl⟩) ⟨xb_blind xe_ok, va_recv hK hP (ci := 11) (q0 := 0) rfl rfl, xb_enter xe_ok hK hP hD hS hA hE [0, 1] rfl rfl rfl [0] rfl⟩ rfl rfl hl.1 rfl (lv_room (Nat.le_of_ble_eq_true rfl)) dL_end_4 ⟨Nat.le_of_ble_eq_true rfl, Nat.le_of_ble_eq_true rfl⟩) hK hP hD hS hA [0, 1] [2] rfl rfl rfl (by decide) hown (htb _ bg_614) htab (by decide) (by decide) (fun r_4 u_4 H locs hw_4 hP hD hK hS => ?_) (fun x9 H locs hpx hP hD hS => ?_)
  · skip
    obtain ⟨v1, v2, v3⟩ := u_4
    have hP : va_P D vwCl [(qo, .inl (aO, 1, .inr (.inl fo))), (h0, .inr (11, [.ref qc, .int 0, .ref v1, .null, .int wp])), (qc, .inl (cB, 1024, .inl f)), (v1, .inl (v2, 0, .inl v3))] H := hP
    have hD : va_D A [(qo, .inl (aO, 1, .inr (.inl fo))), (h0, .inr (11, [.ref qc, .int 0, .ref v1, .null, .int wp])), (qc, .inl (cB, 1024, .inl f)), (v1, .inl (v2, 0, .inl v3))] := hD
    have hK : va_K D vwCl [(cB, .byte), (aO, .long), (cB, .byte), (v2, .byte)] s := hK
    refine W.widen (k := 1) (n := 6) (by decide) (by decide) ?_
    obtain ⟨hw_4, hok⟩ := hw_4
    have hw_4 : r_4 = 0 := hw_4
    subst hw_4
    have hK := hK.sub (tys' := [(cB, .byte), (aO, .long), (v2, .byte)]) [0, 1, 3] rfl
    refine lv_i2l (v := Int32.toInt64 0) hx hb dL_end_7 rfl ?_
    refine va_last hx hb hK hP hD hS 0 1 rfl rfl (by unfold vp_in; decide) dL_end_8 (fun H locs hP hD hS => ?_)
    have hP : va_P D vwCl [(qo, .inl (aO, 1, .inr (.inl (vp_updL fo (Int32.toNatClampNeg 0) (Int32.toInt64 0))))), (h0, .inr (11, [.ref qc, .int 0, .ref v1, .null, .int wp])), (qc, .inl (cB, 1024, .inl f)), (v1, .inl (v2, 0, .inl v3))] H := hP
    have hD : va_D A [(qo, .inl (aO, 1, .inr (.inl (vp_updL fo (Int32.toNatClampNeg 0) (Int32.toInt64 0))))), (h0, .inr (11, [.ref qc, .int 0, .ref v1, .null, .int wp])), (qc, .inl (cB, 1024, .inl f)), (v1, .inl (v2, 0, .inl v3))] := hD
    refine lv_goto (tgt := 15) hx hb dL_end_9 (by decide) ?_
    refine lv_iconst (v := 0) hx hb dL_end_15 (by decide) ?_
    have hP9 := hP.sub (ws' := [(qo, .inl (aO, 1, .inr (.inl (vp_updL fo (Int32.toNatClampNeg 0) (Int32.toInt64 0)))))]) [0] rfl
    have hD9 := hD.sub (ws' := [(qo, .inl (aO, 1, .inr (.inl (vp_updL fo (Int32.toNatClampNeg 0) (Int32.toInt64 0)))))]) [0] rfl rfl
    have hK9 := hK.sub (tys' := [(aO, .long)]) [1] rfl
    exact W.iret (v := 0) hx hb hr (fun t ht hW => ⟨⟨0, (vp_updL fo (Int32.toNatClampNeg 0) (Int32.toInt64 0)), rfl, Or.inl ⟨hok.1, hok.2, rfl, pk_uLs⟩, by rw [ht]; exact hP9, va_K.moved hW.alike hK9, hD9⟩, hS.F ht⟩) hS.2.2 dL_end_16
  · skip
    have hP : va_P D vwCl [(qo, .inl (aO, 1, .inr (.inl fo))), (h0, .inr (11, [.ref qc, .int 0, .ref fl, .null, .int wp])), (qc, .inl (cB, 1024, .inl f))] H := hP
    have hD : va_D A [(qo, .inl (aO, 1, .inr (.inl fo))), (h0, .inr (11, [.ref qc, .int 0, .ref fl, .null, .int wp])), (qc, .inl (cB, 1024, .inl f))] := hD
    refine W.widen (k := 1) (n := 6) (by decide) (by decide) ?_
    refine lv_astore_n (lv' := [(3, .ref x9), (0, .ref h0), (1, .int x0), (2, .ref qo)]) hx hb dL_end_12 rfl hl (by decide) rfl (fun ls hl => ?_)
    refine lv_iconst (v := 1) hx hb dL_end_13 (by decide) ?_
    have hP9 := hP.sub (ws' := [(qo, .inl (aO, 1, .inr (.inl fo)))]) [0] rfl
    have hD9 := hD.sub (ws' := [(qo, .inl (aO, 1, .inr (.inl fo)))]) [0] rfl rfl
    have hK9 := hK.sub (tys' := [(aO, .long)]) [1] rfl
    exact W.iret (v := 1) hx hb hr (fun t ht hW => ⟨⟨1, fo, rfl, Or.inr ⟨hpx, rfl⟩, by rw [ht]; exact hP9, va_K.moved hW.alike hK9, hD9⟩, hS.F ht⟩) hS.2.2 dL_end_14
