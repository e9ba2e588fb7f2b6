theorem dX1_init_0 : decode cX1_init 0 = .ok (.aload_n 0, 1) := by decide +kernel
theorem dX1_init_1 : decode cX1_init 1 = .ok (.invokespecial 1, 3) := by decide +kernel
theorem dX1_init_4 : decode cX1_init 4 = .ok (.aload_n 0, 1) := by decide +kernel
theorem dX1_init_5 : decode cX1_init 5 = .ok (.aload_n 1, 1) := by decide +kernel
theorem dX1_init_6 : decode cX1_init 6 = .ok (.putfield 7, 3) := by decide +kernel
theorem dX1_init_9 : decode cX1_init 9 = .ok (.return_, 1) := by decide +kernel
set_option maxHeartbeats 4000000 in
set_option maxRecDepth 100000 in
theorem cb_init (l : Launch) (D : va_G) (g : xe_G) (b0 : Nat) (d0 : Nat) (sz : Nat)  : Met l yX1_init (.code yX1_init cX1_init 2 none :: bg) ({ frames := 2, cells := 0, slots := 0, locals := 240 } : Room) (xb_Pre (xe_E g) D vwCl [(b0, .inr (1, [.null]))] [] sz [.ref b0, .ref d0]) (va_Qv (fun _ => True) (xb_B D vwCl (va_A [(b0, .inr (1, [.null]))] sz) (fun u : Unit => [(b0, .inr (1, [.ref d0]))]) (fun u : Unit => [])) (va_A [(b0, .inr (1, [.null]))] sz)) 0 0 (va_A [(b0, .inr (1, [.null]))] sz) := by
  refine Met.ofW (cc := cX1_init) (maxL := 2) (ret := none) (by decide) rfl ?_
  intro p e s m args below meth c s₁ B hml hv
  obtain ⟨rfl, hsz, hP, hK, hD0, hE⟩ := hv
  have hx := B.exec
  have hb := B.bytes
  have hr := B.returns
  have hts := atoms_spec (ws := (.code yX1_init cX1_init 2 none :: bg)) B.pre
  have htb : ∀ w ∈ bg, w.before _ s = true := fun w h => hts w (List.mem_cons_of_mem _ h)
  have hown : s.vm.findClass RX1 = some m.cls := findClass_of_methodNamed B.named
  have hlocks := B.notSynchronized
  have hin : meth.name = "<init>" := (name_of_methodNamed B.named B.method).1
  subst hsz
  have hD := hD0.self (sz := s.heap.size)
  generalize hAe : va_A [(b0, .inr (1, [.null]))] s.heap.size = A at hD hE ⊢
  have hA : ∀ q : Nat, s.heap.size ≤ q → A q := fun q h => by rw [← hAe]; exact Or.inr h
  have hS : va_S A s.heap s.heap [] := va_S.rf
  have hP : va_P D vwCl [(b0, .inr (1, [.null]))] s.heap := hP
  have hl := lv_entry ([.ref b0, .ref d0]) (n := 2) (Nat.le_of_ble_eq_true rfl)
  rw [lg_entry_eq]
  generalize (lg_sl ([.ref b0, .ref d0]) ++ List.replicate (2 - (lg_sl ([.ref b0, .ref d0])).length) Slot.unset).toArray = ls at hl ⊢
  have hl : lv_has ls 2 [(0, .ref b0), (1, .ref d0)] := hl
  refine lv_aload_n hx hb dX1_init_0 rfl (lv_at hl 0 rfl) ?_
  refine W.objInit hx hb hown (htb _ bg_246) (htb _ bg_3) (htb _ bg_2) rfl (by rw [hml]; exact hl.1) rfl dX1_init_1 (Nat.le_of_ble_eq_true rfl) (Nat.le_of_ble_eq_true rfl) ?_
  refine W.eq (g2 := F0 m 4 ls []) rfl ?_
  refine lv_aload_n hx hb dX1_init_4 rfl (lv_at hl 0 rfl) ?_
  refine lv_aload_n hx hb dX1_init_5 rfl (lv_at hl 1 rfl) ?_
  refine va_putF (D := D) (ci := 1) (v := .ref d0) (ty := tyX1 0) (C := RX1) (T := TX1) (N := 1) hx hb htb bi_X1 tyX1 tyX1_ok nmX1 hown hK hP hD hS 0 rfl rfl 0 (by decide) (htb _ bg_247) (fun _ h9 => h9) rfl hin rfl (tyX1_ok 0 (by decide)) rfl rfl (Nat.le_of_ble_eq_true rfl) dX1_init_6 (fun H locs hP hD hS => ?_)
  have hP : va_P D vwCl [(b0, .inr (1, [.ref d0]))] H := hP
  have hD : va_D A [(b0, .inr (1, [.ref d0]))] := hD
  have hP9 := hP.sub (ws' := [(b0, .inr (1, [.ref d0]))]) [0] rfl
  have hD9 := hD.sub (ws' := [(b0, .inr (1, [.ref d0]))]) [0] rfl rfl
  have hK9 := hK.sub (tys' := []) [] rfl
  exact W.vret hx hb hr (fun t ht hW => ⟨⟨(), rfl, trivial, by rw [ht]; exact hP9, va_K.moved hW.alike hK9, hD9⟩, hS.F ht⟩) hS.2.2 dX1_init_9
theorem dX1_size_0 : decode cX1_size 0 = .ok (.aload_n 0, 1) := by decide +kernel
theorem dX1_size_1 : decode cX1_size 1 = .ok (.getfield 7, 3) := by decide +kernel
theorem dX1_size_4 : decode cX1_size 4 = .ok (.arraylength, 1) := by decide +kernel
theorem dX1_size_5 : decode cX1_size 5 = .ok (.ireturn, 1) := by decide +kernel
set_option maxHeartbeats 4000000 in
set_option maxRecDepth 100000 in
theorem cb_size (l : Launch) (D : va_G) (g : xe_G) (b0 : Nat) (sz : Nat)  : Met l yX1_size (.code yX1_size cX1_size 1 (some .int) :: bg) ({ frames := 1, cells := 0, slots := 0, locals := 120 } : Room) (xb_Pre (xe_E g) D vwCl [(b0, .inr (1, [.ref g.1]))] [] sz [.ref b0]) (va_Qi (fun r _ => r = 0) (xb_B D vwCl (va_A [(b0, .inr (1, [.ref g.1]))] sz) (fun u : Unit => [(b0, .inr (1, [.ref g.1]))]) (fun u : Unit => [])) (va_A [(b0, .inr (1, [.ref g.1]))] sz)) 0 0 (va_A [(b0, .inr (1, [.ref g.1]))] sz) := by
  refine Met.ofW (cc := cX1_size) (maxL := 1) (ret := (some .int)) (by decide) rfl ?_
  intro p e s m args below meth c s₁ B hml hv
  obtain ⟨rfl, hsz, hP, hK, hD0, hE⟩ := hv
  have hx := B.exec
  have hb := B.bytes
  have hr := B.returns
  have hts := atoms_spec (ws := (.code yX1_size cX1_size 1 (some .int) :: bg)) B.pre
  have htb : ∀ w ∈ bg, w.before _ s = true := fun w h => hts w (List.mem_cons_of_mem _ h)
  have hown : s.vm.findClass RX1 = some m.cls := findClass_of_methodNamed B.named
  have hlocks := B.notSynchronized
  subst hsz
  have hD := hD0.self (sz := s.heap.size)
  generalize hAe : va_A [(b0, .inr (1, [.ref g.1]))] s.heap.size = A at hD hE ⊢
  have hA : ∀ q : Nat, s.heap.size ≤ q → A q := fun q h => by rw [← hAe]; exact Or.inr h
  have hS : va_S A s.heap s.heap [] := va_S.rf
  have hP : va_P D vwCl [(b0, .inr (1, [.ref g.1]))] s.heap := hP
  have hl := lv_entry ([.ref b0]) (n := 1) (Nat.le_of_ble_eq_true rfl)
  rw [lg_entry_eq]
  generalize (lg_sl ([.ref b0]) ++ List.replicate (1 - (lg_sl ([.ref b0])).length) Slot.unset).toArray = ls at hl ⊢
  have hl : lv_has ls 1 [(0, .ref b0)] := hl
  refine lv_aload_n hx hb dX1_size_0 rfl (lv_at hl 0 rfl) ?_
  refine va_get (D := D) (ci := 1) (v := .ref g.1) (C := RX1) (T := TX1) (N := 1) hx hb htb bi_X1 hown hK hP 0 rfl rfl 0 (by decide) (htb _ bg_247) (fun _ h9 => h9) rfl dX1_size_1 ?_
  refine va_tlen (v := 0) hx hb hE.2.1 hS rfl dX1_size_4 ?_
  have hP9 := hP.sub (ws' := [(b0, .inr (1, [.ref g.1]))]) [0] rfl
  have hD9 := hD.sub (ws' := [(b0, .inr (1, [.ref g.1]))]) [0] rfl rfl
  have hK9 := hK.sub (tys' := []) [] rfl
  exact W.iret (v := 0) hx hb hr (fun t ht hW => ⟨⟨0, (), rfl, rfl, by rw [ht]; exact hP9, va_K.moved hW.alike hK9, hD9⟩, hS.F ht⟩) hS.2.2 dX1_size_5
theorem dX10_init_0 : decode cX10_init 0 = .ok (.aload_n 0, 1) := by decide +kernel
theorem dX10_init_1 : decode cX10_init 1 = .ok (.invokespecial 1, 3) := by decide +kernel
theorem dX10_init_4 : decode cX10_init 4 = .ok (.aload_n 0, 1) := by decide +kernel
theorem dX10_init_5 : decode cX10_init 5 = .ok (.iconst (-1), 1) := by decide +kernel
theorem dX10_init_6 : decode cX10_init 6 = .ok (.putfield 7, 3) := by decide +kernel
theorem dX10_init_9 : decode cX10_init 9 = .ok (.return_, 1) := by decide +kernel
set_option maxHeartbeats 4000000 in
set_option maxRecDepth 100000 in
theorem cv_init (l : Launch) (D : va_G) (g : xe_G) (v0 : Nat) (sz : Nat)  : Met l yX10_init (.code yX10_init cX10_init 1 none :: bg) ({ frames := 2, cells := 0, slots := 0, locals := 240 } : Room) (xb_Pre (xe_E g) D vwCl [(v0, .inr (10, [.int 0, .int 0]))] [] sz [.ref v0]) (va_Qv (fun _ => True) (xb_B D vwCl (va_A [(v0, .inr (10, [.int 0, .int 0]))] sz) (fun u : Unit => [(v0, .inr (10, [.int 0, .int (-1)]))]) (fun u : Unit => [])) (va_A [(v0, .inr (10, [.int 0, .int 0]))] sz)) 0 0 (va_A [(v0, .inr (10, [.int 0, .int 0]))] sz) := by
  refine Met.ofW (cc := cX10_init) (maxL := 1) (ret := none) (by decide) rfl ?_
  intro p e s m args below meth c s₁ B hml hv
  obtain ⟨rfl, hsz, hP, hK, hD0, hE⟩ := hv
  have hx := B.exec
  have hb := B.bytes
  have hr := B.returns
  have hts := atoms_spec (ws := (.code yX10_init cX10_init 1 none :: bg)) B.pre
  have htb : ∀ w ∈ bg, w.before _ s = true := fun w h => hts w (List.mem_cons_of_mem _ h)
  have hown : s.vm.findClass RX10 = some m.cls := findClass_of_methodNamed B.named
  have hlocks := B.notSynchronized
  have hin : meth.name = "<init>" := (name_of_methodNamed B.named B.method).1
  subst hsz
  have hD := hD0.self (sz := s.heap.size)
  generalize hAe : va_A [(v0, .inr (10, [.int 0, .int 0]))] s.heap.size = A at hD hE ⊢
  have hA : ∀ q : Nat, s.heap.size ≤ q → A q := fun q h => by rw [← hAe]; exact Or.inr h
  have hS : va_S A s.heap s.heap [] := va_S.rf
  have hP : va_P D vwCl [(v0, .inr (10, [.int 0, .int 0]))] s.heap := hP
  have hl := lv_entry ([.ref v0]) (n := 1) (Nat.le_of_ble_eq_true rfl)
  rw [lg_entry_eq]
  generalize (lg_sl ([.ref v0]) ++ List.replicate (1 - (lg_sl ([.ref v0])).length) Slot.unset).toArray = ls at hl ⊢
  have hl : lv_has ls 1 [(0, .ref v0)] := hl
  refine lv_aload_n hx hb dX10_init_0 rfl (lv_at hl 0 rfl) ?_
  refine W.objInit hx hb hown (htb _ bg_291) (htb _ bg_3) (htb _ bg_2) rfl (by rw [hml]; exact hl.1) rfl dX10_init_1 (Nat.le_of_ble_eq_true rfl) (Nat.le_of_ble_eq_true rfl) ?_
  refine W.eq (g2 := F0 m 4 ls []) rfl ?_
  refine lv_aload_n hx hb dX10_init_4 rfl (lv_at hl 0 rfl) ?_
  refine lv_iconst (v := (-1)) hx hb dX10_init_5 (by decide) ?_
  refine va_put (D := D) (ci := 10) (v := .int (-1)) (ty := tyX10 1) (C := RX10) (T := TX10) (N := 2) hx hb htb bi_X10 tyX10 tyX10_ok nmX10 hown hK hP hD hS 0 rfl rfl 1 (by decide) (htb _ bg_292) (fun _ h9 => h9) rfl (tyX10_ok 1 (by decide)) rfl rfl (Nat.le_of_ble_eq_true rfl) dX10_init_6 (fun H locs hP hD hS => ?_)
  have hP : va_P D vwCl [(v0, .inr (10, [.int 0, .int (-1)]))] H := hP
  have hD : va_D A [(v0, .inr (10, [.int 0, .int (-1)]))] := hD
  have hP9 := hP.sub (ws' := [(v0, .inr (10, [.int 0, .int (-1)]))]) [0] rfl
  have hD9 := hD.sub (ws' := [(v0, .inr (10, [.int 0, .int (-1)]))]) [0] rfl rfl
  have hK9 := hK.sub (tys' := []) [] rfl
  exact W.vret hx hb hr (fun t ht hW => ⟨⟨(), rfl, trivial, by rw [ht]; exact hP9, va_K.moved hW.alike hK9, hD9⟩, hS.F ht⟩) hS.2.2 dX10_init_9
theorem dX10_wrong_0 : decode cX10_wrong 0 = .ok (.aload_n 0, 1) := by decide +kernel
theorem dX10_wrong_1 : decode cX10_wrong 1 = .ok (.iload_n 1, 1) := by decide +kernel
theorem dX10_wrong_2 : decode cX10_wrong 2 = .ok (.putfield 13, 3) := by decide +kernel
theorem dX10_wrong_5 : decode cX10_wrong 5 = .ok (.aload_n 0, 1) := by decide +kernel
theorem dX10_wrong_6 : decode cX10_wrong 6 = .ok (.iload_n 2, 1) := by decide +kernel
theorem dX10_wrong_7 : decode cX10_wrong 7 = .ok (.putfield 7, 3) := by decide +kernel
theorem dX10_wrong_10 : decode cX10_wrong 10 = .ok (.iconst 0, 1) := by decide +kernel
theorem dX10_wrong_11 : decode cX10_wrong 11 = .ok (.ireturn, 1) := by decide +kernel
set_option maxHeartbeats 4000000 in
set_option maxRecDepth 100000 in
theorem cv_wrong (l : Launch) (D : va_G) (g : xe_G) (v0 : Nat) (a0 : Int32) (b0 : Int32) (x0 : Int32) (x1 : Int32) (sz : Nat)  : Met l yX10_wrong (.code yX10_wrong cX10_wrong 3 (some .boolean) :: bg) ({ frames := 1, cells := 0, slots := 0, locals := 120 } : Room) (xb_Pre (xe_E g) D vwCl [(v0, .inr (10, [.int a0, .int b0]))] [] sz [.ref v0, .int x0, .int x1]) (va_Qi (fun r _ => r = 0) (xb_B D vwCl (va_A [(v0, .inr (10, [.int a0, .int b0]))] sz) (fun u : Unit => [(v0, .inr (10, [.int x0, .int x1]))]) (fun u : Unit => [])) (va_A [(v0, .inr (10, [.int a0, .int b0]))] sz)) 0 0 (va_A [(v0, .inr (10, [.int a0, .int b0]))] sz) := by
  refine Met.ofW (cc := cX10_wrong) (maxL := 3) (ret := (some .boolean)) (by decide) rfl ?_
  intro p e s m args below meth c s₁ B hml hv
  obtain ⟨rfl, hsz, hP, hK, hD0, hE⟩ := hv
  have hx := B.exec
  have hb := B.bytes
  have hr := B.returns
  have hts := atoms_spec (ws := (.code yX10_wrong cX10_wrong 3 (some .boolean) :: bg)) B.pre
  have htb : ∀ w ∈ bg, w.before _ s = true := fun w h => hts w (List.mem_cons_of_mem _ h)
  have hown : s.vm.findClass RX10 = some m.cls := findClass_of_methodNamed B.named
  have hlocks := B.notSynchronized
  subst hsz
  have hD := hD0.self (sz := s.heap.size)
  generalize hAe : va_A [(v0, .inr (10, [.int a0, .int b0]))] s.heap.size = A at hD hE ⊢
  have hA : ∀ q : Nat, s.heap.size ≤ q → A q := fun q h => by rw [← hAe]; exact Or.inr h
  have hS : va_S A s.heap s.heap [] := va_S.rf
  have hP : va_P D vwCl [(v0, .inr (10, [.int a0, .int b0]))] s.heap := hP
  have hl := lv_entry ([.ref v0, .int x0, .int x1]) (n := 3) (Nat.le_of_ble_eq_true rfl)
  rw [lg_entry_eq]
  generalize (lg_sl ([.ref v0, .int x0, .int x1]) ++ List.replicate (3 - (lg_sl ([.ref v0, .int x0, .int x1])).length) Slot.unset).toArray = ls at hl ⊢
  have hl : lv_has ls 3 [(0, .ref v0), (1, .int x0), (2, .int x1)] := hl
  refine lv_aload_n hx hb dX10_wrong_0 rfl (lv_at hl 0 rfl) ?_
  refine lv_iload_n hx hb dX10_wrong_1 rfl (lv_at hl 1 rfl) ?_
  refine va_put (D := D) (ci := 10) (v := .int x0) (ty := tyX10 0) (C := RX10) (T := TX10) (N := 2) hx hb htb bi_X10 tyX10 tyX10_ok nmX10 hown hK hP hD hS 0 rfl rfl 0 (by decide) (htb _ bg_293) (fun _ h9 => h9) rfl (tyX10_ok 0 (by decide)) rfl rfl (Nat.le_of_ble_eq_true rfl) dX10_wrong_2 (fun H locs hP hD hS => ?_)
  have hP : va_P D vwCl [(v0, .inr (10, [.int x0, .int b0]))] H := hP
  have hD : va_D A [(v0, .inr (10, [.int x0, .int b0]))] := hD
  refine lv_aload_n hx hb dX10_wrong_5 rfl (lv_at hl 0 rfl) ?_
  refine lv_iload_n hx hb dX10_wrong_6 rfl (lv_at hl 2 rfl) ?_
  refine va_put (D := D) (ci := 10) (v := .int x1) (ty := tyX10 1) (C := RX10) (T := TX10) (N := 2) hx hb htb bi_X10 tyX10 tyX10_ok nmX10 hown hK hP hD hS 0 rfl rfl 1 (by decide) (htb _ bg_292) (fun _ h9 => h9) rfl (tyX10_ok 1 (by decide)) rfl rfl (Nat.le_of_ble_eq_true rfl) dX10_wrong_7 (fun H locs hP hD hS => ?_)
  have hP : va_P D vwCl [(v0, .inr (10, [.int x0, .int x1]))] H := hP
  have hD : va_D A [(v0, .inr (10, [.int x0, .int x1]))] := hD
  refine lv_iconst (v := 0) hx hb dX10_wrong_10 (by decide) ?_
  have hP9 := hP.sub (ws' := [(v0, .inr (10, [.int x0, .int x1]))]) [0] rfl
  have hD9 := hD.sub (ws' := [(v0, .inr (10, [.int x0, .int x1]))]) [0] rfl rfl
  have hK9 := hK.sub (tys' := []) [] rfl
  exact W.zret (v := 0) hx hb hr (by decide) (fun t ht hW => ⟨⟨0, (), rfl, rfl, by rw [ht]; exact hP9, va_K.moved hW.alike hK9, hD9⟩, hS.F ht⟩) hS.2.2 dX10_wrong_11
theorem dX7_init_0 : decode cX7_init 0 = .ok (.aload_n 0, 1) := by decide +kernel
theorem dX7_init_1 : decode cX7_init 1 = .ok (.invokespecial 3, 3) := by decide +kernel
theorem dX7_init_4 : decode cX7_init 4 = .ok (.aload_n 0, 1) := by decide +kernel
theorem dX7_init_5 : decode cX7_init 5 = .ok (.iload_n 1, 1) := by decide +kernel
theorem dX7_init_6 : decode cX7_init 6 = .ok (.putfield 9, 3) := by decide +kernel
theorem dX7_init_9 : decode cX7_init 9 = .ok (.iconst 0, 1) := by decide +kernel
theorem dX7_init_10 : decode cX7_init 10 = .ok (.iload_n 1, 1) := by decide +kernel
theorem dX7_init_11 : decode cX7_init 11 = .ok (.iload_n 2, 1) := by decide +kernel
theorem dX7_init_12 : decode cX7_init 12 = .ok (.iconst 3, 1) := by decide +kernel
theorem dX7_init_13 : decode cX7_init 13 = .ok (.idiv, 1) := by decide +kernel
theorem dX7_init_14 : decode cX7_init 14 = .ok (.iconst 1, 1) := by decide +kernel
theorem dX7_init_15 : decode cX7_init 15 = .ok (.iadd, 1) := by decide +kernel
theorem dX7_init_16 : decode cX7_init 16 = .ok (.invokestatic 15, 3) := by decide +kernel
theorem dX7_init_19 : decode cX7_init 19 = .ok (.invokestatic 21, 3) := by decide +kernel
theorem dX7_init_22 : decode cX7_init 22 = .ok (.istore_n 3, 1) := by decide +kernel
theorem dX7_init_23 : decode cX7_init 23 = .ok (.aload_n 0, 1) := by decide +kernel
theorem dX7_init_24 : decode cX7_init 24 = .ok (.iload_n 3, 1) := by decide +kernel
theorem dX7_init_25 : decode cX7_init 25 = .ok (.newarray .int, 2) := by decide +kernel
theorem dX7_init_27 : decode cX7_init 27 = .ok (.putfield 24, 3) := by decide +kernel
theorem dX7_init_30 : decode cX7_init 30 = .ok (.aload_n 0, 1) := by decide +kernel
theorem dX7_init_31 : decode cX7_init 31 = .ok (.iload_n 3, 1) := by decide +kernel
theorem dX7_init_32 : decode cX7_init 32 = .ok (.newarray .int, 2) := by decide +kernel
theorem dX7_init_34 : decode cX7_init 34 = .ok (.putfield 28, 3) := by decide +kernel
theorem dX7_init_37 : decode cX7_init 37 = .ok (.aload_n 0, 1) := by decide +kernel
theorem dX7_init_38 : decode cX7_init 38 = .ok (.iload_n 3, 1) := by decide +kernel
theorem dX7_init_39 : decode cX7_init 39 = .ok (.newarray .int, 2) := by decide +kernel
theorem dX7_init_41 : decode cX7_init 41 = .ok (.putfield 31, 3) := by decide +kernel
theorem dX7_init_44 : decode cX7_init 44 = .ok (.aload_n 0, 1) := by decide +kernel
theorem dX7_init_45 : decode cX7_init 45 = .ok (.iload_n 3, 1) := by decide +kernel
theorem dX7_init_46 : decode cX7_init 46 = .ok (.newarray .int, 2) := by decide +kernel
theorem dX7_init_48 : decode cX7_init 48 = .ok (.putfield 34, 3) := by decide +kernel
theorem dX7_init_51 : decode cX7_init 51 = .ok (.aload_n 0, 1) := by decide +kernel
theorem dX7_init_52 : decode cX7_init 52 = .ok (.iload_n 3, 1) := by decide +kernel
theorem dX7_init_53 : decode cX7_init 53 = .ok (.newarray .int, 2) := by decide +kernel
theorem dX7_init_55 : decode cX7_init 55 = .ok (.putfield 37, 3) := by decide +kernel
theorem dX7_init_58 : decode cX7_init 58 = .ok (.aload_n 0, 1) := by decide +kernel
theorem dX7_init_59 : decode cX7_init 59 = .ok (.iconst 0, 1) := by decide +kernel
theorem dX7_init_60 : decode cX7_init 60 = .ok (.iload_n 2, 1) := by decide +kernel
theorem dX7_init_61 : decode cX7_init 61 = .ok (.invokestatic 21, 3) := by decide +kernel
theorem dX7_init_64 : decode cX7_init 64 = .ok (.newarray .char, 2) := by decide +kernel
theorem dX7_init_66 : decode cX7_init 66 = .ok (.putfield 40, 3) := by decide +kernel
theorem dX7_init_69 : decode cX7_init 69 = .ok (.return_, 1) := by decide +kernel
set_option maxHeartbeats 4000000 in
set_option maxRecDepth 100000 in
theorem cp_init (l : Launch) (D : va_G) (g : xe_G) (p0 : Nat) (sz : Nat)  : Met l yX7_init (.code yX7_init cX7_init 4 none :: bg) ({ frames := 3, cells := 6, slots := 0, locals := 360 } : Room) (xb_Pre (xe_E g) D vwCl [(p0, .inr (7, [.int 0, .null, .null, .null, .null, .null, .null, .int 0]))] [] sz [.ref p0, .int 0, .int 0]) (va_Qv (fun _ => True) (xb_B D vwCl (va_A [(p0, .inr (7, [.int 0, .null, .null, .null, .null, .null, .null, .int 0]))] sz) (fun u : Unit => []) (fun u : Unit => [])) (va_A [(p0, .inr (7, [.int 0, .null, .null, .null, .null, .null, .null, .int 0]))] sz)) 6 0 (va_A [(p0, .inr (7, [.int 0, .null, .null, .null, .null, .null, .null, .int 0]))] sz) := by
  refine Met.ofW (cc := cX7_init) (maxL := 4) (ret := none) (by decide) rfl ?_
  intro p e s m args below meth c s₁ B hml hv
  obtain ⟨rfl, hsz, hP, hK, hD0, hE⟩ := hv
  have hx := B.exec
  have hb := B.bytes
  have hr := B.returns
  have hts := atoms_spec (ws := (.code yX7_init cX7_init 4 none :: bg)) B.pre
  have htb : ∀ w ∈ bg, w.before _ s = true := fun w h => hts w (List.mem_cons_of_mem _ h)
  have hown : s.vm.findClass RX7 = some m.cls := findClass_of_methodNamed B.named
  have hlocks := B.notSynchronized
  have hin : meth.name = "<init>" := (name_of_methodNamed B.named B.method).1
  subst hsz
  have hD := hD0.self (sz := s.heap.size)
  generalize hAe : va_A [(p0, .inr (7, [.int 0, .null, .null, .null, .null, .null, .null, .int 0]))] s.heap.size = A at hD hE ⊢
  have hA : ∀ q : Nat, s.heap.size ≤ q → A q := fun q h => by rw [← hAe]; exact Or.inr h
  have hS : va_S A s.heap s.heap [] := va_S.rf
  have hP : va_P D vwCl [(p0, .inr (7, [.int 0, .null, .null, .null, .null, .null, .null, .int 0]))] s.heap := hP
  have hl := lv_entry ([.ref p0, .int 0, .int 0]) (n := 4) (Nat.le_of_ble_eq_true rfl)
  rw [lg_entry_eq]
  generalize (lg_sl ([.ref p0, .int 0, .int 0]) ++ List.replicate (4 - (lg_sl ([.ref p0, .int 0, .int 0])).length) Slot.unset).toArray = ls at hl ⊢
  have hl : lv_has ls 4 [(0, .ref p0), (1, .int 0), (2, .int 0)] := hl
  refine lv_aload_n hx hb dX7_init_0 rfl (lv_at hl 0 rfl) ?_
  refine W.objInit hx hb hown (htb _ bg_262) (htb _ bg_3) (htb _ bg_2) rfl (by rw [hml]; exact hl.1) rfl dX7_init_1 (Nat.le_of_ble_eq_true rfl) (Nat.le_of_ble_eq_true rfl) ?_
  refine W.eq (g2 := F0 m 4 ls []) rfl ?_
  refine lv_aload_n hx hb dX7_init_4 rfl (lv_at hl 0 rfl) ?_
  refine lv_iload_n hx hb dX7_init_5 rfl (lv_at hl 1 rfl) ?_
  refine va_putF (D := D) (ci := 7) (v := .int 0) (ty := tyX7 0) (C := RX7) (T := TX7) (N := 8) hx hb htb bi_X7 tyX7 tyX7_ok nmX7 hown hK hP hD hS 0 rfl rfl 0 (by decide) (htb _ bg_263) (fun _ h9 => h9) rfl hin rfl (tyX7_ok 0 (by decide)) rfl rfl (Nat.le_of_ble_eq_true rfl) dX7_init_6 (fun H locs hP hD hS => ?_)
  have hP : va_P D vwCl [(p0, .inr (7, [.int 0, .null, .null, .null, .null, .null, .null, .int 0]))] H := hP
  have hD : va_D A [(p0, .inr (7, [.int 0, .null, .null, .null, .null, .null, .null, .int 0]))] := hD
  refine lv_iconst (v := 0) hx hb dX7_init_9 (by decide) ?_
  refine lv_iload_n hx hb dX7_init_10 rfl (lv_at hl 1 rfl) ?_
  refine lv_iload_n hx hb dX7_init_11 rfl (lv_at hl 2 rfl) ?_
  refine lv_iconst (v := 3) hx hb dX7_init_12 (by decide) ?_
  refine lv_idiv hx hb dX7_init_13 (by decide) ?_
  refine lv_iconst (v := 1) hx hb dX7_init_14 (by decide) ?_
  refine lv_iadd hx hb dX7_init_15 ?_
  refine va_mmin hx hb (by rw [hml]; exact hl.1.symm) hown (htb _ bg_618) (htb _ bg_616) (htb _ bg_622) (htb _ bg_617) (Nat.le_of_ble_eq_true rfl) (Nat.le_of_ble_eq_true rfl) (Nat.le_of_ble_eq_true rfl) (Nat.le_of_ble_eq_true rfl) dX7_init_16 ?_
  refine lv_topi (fun x_16 ex_16 => ?_)
  have hx_16 : x_16 = 0 := by rw [ex_16]; decide
  rw [hx_16]
  refine va_mmax hx hb (by rw [hml]; exact hl.1.symm) hown (htb _ bg_619) (htb _ bg_620) (htb _ bg_622) (htb _ bg_621) (Nat.le_of_ble_eq_true rfl) (Nat.le_of_ble_eq_true rfl) (Nat.le_of_ble_eq_true rfl) (Nat.le_of_ble_eq_true rfl) dX7_init_19 ?_
  refine lv_topi (fun x_19 ex_19 => ?_)
  have hx_19 : x_19 = 0 := by rw [ex_19]; decide
  rw [hx_19]
  refine lv_istore_n (lv' := [(3, .int 0), (0, .ref p0), (1, .int 0), (2, .int 0)]) hx hb dX7_init_22 rfl hl (by decide) rfl (fun ls hl => ?_)
  refine lv_aload_n hx hb dX7_init_23 rfl (lv_at hl 1 rfl) ?_
  refine lv_iload_n hx hb dX7_init_24 rfl (lv_at hl 0 rfl) ?_
  refine va_newa (atype := .int) (ty := .int) (a0 := (0, .inl (fun _ => 0))) (N' := 0) hx hb (htb _ bg_95) rfl hK hP hD hS hA (fun _ => rfl) (by decide) (by decide) (by decide) (Nat.le_of_ble_eq_true rfl) (Nat.le_of_ble_eq_true rfl) dX7_init_25 (fun q25 a25 H hK hP hD hS => ?_)
  have hP : va_P D vwCl [(p0, .inr (7, [.int 0, .null, .null, .null, .null, .null, .null, .int 0])), (q25, .inl (a25, 0, .inl (fun _ => 0)))] H := hP
  have hD : va_D A [(p0, .inr (7, [.int 0, .null, .null, .null, .null, .null, .null, .int 0])), (q25, .inl (a25, 0, .inl (fun _ => 0)))] := hD
  have hK : va_K D vwCl [(a25, .int)] s := hK
  refine W.widen (k := 1) (n := 0) (by decide) (by decide) ?_
  refine va_putF (D := D) (ci := 7) (v := .ref q25) (ty := tyX7 1) (C := RX7) (T := TX7) (N := 8) hx hb htb bi_X7 tyX7 tyX7_ok nmX7 hown hK hP hD hS 0 rfl rfl 1 (by decide) (htb _ bg_264) (fun _ h9 => h9) rfl hin rfl (tyX7_ok 1 (by decide)) rfl rfl (Nat.le_of_ble_eq_true rfl) dX7_init_27 (fun H locs hP hD hS => ?_)
  have hP : va_P D vwCl [(p0, .inr (7, [.int 0, .ref q25, .null, .null, .null, .null, .null, .int 0])), (q25, .inl (a25, 0, .inl (fun _ => 0)))] H := hP
  have hD : va_D A [(p0, .inr (7, [.int 0, .ref q25, .null, .null, .null, .null, .null, .int 0])), (q25, .inl (a25, 0, .inl (fun _ => 0)))] := hD
  refine lv_aload_n hx hb dX7_init_30 rfl (lv_at hl 1 rfl) ?_
  refine lv_iload_n hx hb dX7_init_31 rfl (lv_at hl 0 rfl) ?_
  refine va_newa (atype := .int) (ty := .int) (a0 := (0, .inl (fun _ => 0))) (N' := 0) hx hb (htb _ bg_95) rfl hK hP hD hS hA (fun _ => rfl) (by decide) (by decide) (by decide) (Nat.le_of_ble_eq_true rfl) (Nat.le_of_ble_eq_true rfl) dX7_init_32 (fun q32 a32 H hK hP hD hS => ?_)
  have hP : va_P D vwCl [(p0, .inr (7, [.int 0, .ref q25, .null, .null, .null, .null, .null, .int 0])), (q25, .inl (a25, 0, .inl (fun _ => 0))), (q32, .inl (a32, 0, .inl (fun _ => 0)))] H := hP
  have hD : va_D A [(p0, .inr (7, [.int 0, .ref q25, .null, .null, .null, .null, .null, .int 0])), (q25, .inl (a25, 0, .inl (fun _ => 0))), (q32, .inl (a32, 0, .inl (fun _ => 0)))] := hD
  have hK : va_K D vwCl [(a25, .int), (a32, .int)] s := hK
  refine W.widen (k := 2) (n := 0) (by decide) (by decide) ?_
  refine va_putF (D := D) (ci := 7) (v := .ref q32) (ty := tyX7 2) (C := RX7) (T := TX7) (N := 8) hx hb htb bi_X7 tyX7 tyX7_ok nmX7 hown hK hP hD hS 0 rfl rfl 2 (by decide) (htb _ bg_265) (fun _ h9 => h9) rfl hin rfl (tyX7_ok 2 (by decide)) rfl rfl (Nat.le_of_ble_eq_true rfl) dX7_init_34 (fun H locs hP hD hS => ?_)
  have hP : va_P D vwCl [(p0, .inr (7, [.int 0, .ref q25, .ref q32, .null, .null, .null, .null, .int 0])), (q25, .inl (a25, 0, .inl (fun _ => 0))), (q32, .inl (a32, 0, .inl (fun _ => 0)))] H := hP
  have hD : va_D A [(p0, .inr (7, [.int 0, .ref q25, .ref q32, .null, .null, .null, .null, .int 0])), (q25, .inl (a25, 0, .inl (fun _ => 0))), (q32, .inl (a32, 0, .inl (fun _ => 0)))] := hD
  refine lv_aload_n hx hb dX7_init_37 rfl (lv_at hl 1 rfl) ?_
  refine lv_iload_n hx hb dX7_init_38 rfl (lv_at hl 0 rfl) ?_
  refine va_newa (atype := .int) (ty := .int) (a0 := (0, .inl (fun _ => 0))) (N' := 0) hx hb (htb _ bg_95) rfl hK hP hD hS hA (fun _ => rfl) (by decide) (by decide) (by decide) (Nat.le_of_ble_eq_true rfl) (Nat.le_of_ble_eq_true rfl) dX7_init_39 (fun q39 a39 H hK hP hD hS => ?_)
  have hP : va_P D vwCl [(p0, .inr (7, [.int 0, .ref q25, .ref q32, .null, .null, .null, .null, .int 0])), (q25, .inl (a25, 0, .inl (fun _ => 0))), (q32, .inl (a32, 0, .inl (fun _ => 0))), (q39, .inl (a39, 0, .inl (fun _ => 0)))] H := hP
  have hD : va_D A [(p0, .inr (7, [.int 0, .ref q25, .ref q32, .null, .null, .null, .null, .int 0])), (q25, .inl (a25, 0, .inl (fun _ => 0))), (q32, .inl (a32, 0, .inl (fun _ => 0))), (q39, .inl (a39, 0, .inl (fun _ => 0)))] := hD
  have hK : va_K D vwCl [(a25, .int), (a32, .int), (a39, .int)] s := hK
  refine W.widen (k := 3) (n := 0) (by decide) (by decide) ?_
  refine va_putF (D := D) (ci := 7) (v := .ref q39) (ty := tyX7 3) (C := RX7) (T := TX7) (N := 8) hx hb htb bi_X7 tyX7 tyX7_ok nmX7 hown hK hP hD hS 0 rfl rfl 3 (by decide) (htb _ bg_266) (fun _ h9 => h9) rfl hin rfl (tyX7_ok 3 (by decide)) rfl rfl (Nat.le_of_ble_eq_true rfl) dX7_init_41 (fun H locs hP hD hS => ?_)
  have hP : va_P D vwCl [(p0, .inr (7, [.int 0, .ref q25, .ref q32, .ref q39, .null, .null, .null, .int 0])), (q25, .inl (a25, 0, .inl (fun _ => 0))), (q32, .inl (a32, 0, .inl (fun _ => 0))), (q39, .inl (a39, 0, .inl (fun _ => 0)))] H := hP
  have hD : va_D A [(p0, .inr (7, [.int 0, .ref q25, .ref q32, .ref q39, .null, .null, .null, .int 0])), (q25, .inl (a25, 0, .inl (fun _ => 0))), (q32, .inl (a32, 0, .inl (fun _ => 0))), (q39, .inl (a39, 0, .inl (fun _ => 0)))] := hD
  refine lv_aload_n hx hb dX7_init_44 rfl (lv_at hl 1 rfl) ?_
  refine lv_iload_n hx hb dX7_init_45 rfl (lv_at hl 0 rfl) ?_
  refine va_newa (atype := .int) (ty := .int) (a0 := (0, .inl (fun _ => 0))) (N' := 0) hx hb (htb _ bg_95) rfl hK hP hD hS hA (fun _ => rfl) (by decide) (by decide) (by decide) (Nat.le_of_ble_eq_true rfl) (Nat.le_of_ble_eq_true rfl) dX7_init_46 (fun q46 a46 H hK hP hD hS => ?_)
  have hP : va_P D vwCl [(p0, .inr (7, [.int 0, .ref q25, .ref q32, .ref q39, .null, .null, .null, .int 0])), (q25, .inl (a25, 0, .inl (fun _ => 0))), (q32, .inl (a32, 0, .inl (fun _ => 0))), (q39, .inl (a39, 0, .inl (fun _ => 0))), (q46, .inl (a46, 0, .inl (fun _ => 0)))] H := hP
  have hD : va_D A [(p0, .inr (7, [.int 0, .ref q25, .ref q32, .ref q39, .null, .null, .null, .int 0])), (q25, .inl (a25, 0, .inl (fun _ => 0))), (q32, .inl (a32, 0, .inl (fun _ => 0))), (q39, .inl (a39, 0, .inl (fun _ => 0))), (q46, .inl (a46, 0, .inl (fun _ => 0)))] := hD
  have hK : va_K D vwCl [(a25, .int), (a32, .int), (a39, .int), (a46, .int)] s := hK
  refine W.widen (k := 4) (n := 0) (by decide) (by decide) ?_
  refine va_putF (D := D) (ci := 7) (v := .ref q46) (ty := tyX7 4) (C := RX7) (T := TX7) (N := 8) hx hb htb bi_X7 tyX7 tyX7_ok nmX7 hown hK hP hD hS 0 rfl rfl 4 (by decide) (htb _ bg_267) (fun _ h9 => h9) rfl hin rfl (tyX7_ok 4 (by decide)) rfl rfl (Nat.le_of_ble_eq_true rfl) dX7_init_48 (fun H locs hP hD hS => ?_)
  have hP : va_P D vwCl [(p0, .inr (7, [.int 0, .ref q25, .ref q32, .ref q39, .ref q46, .null, .null, .int 0])), (q25, .inl (a25, 0, .inl (fun _ => 0))), (q32, .inl (a32, 0, .inl (fun _ => 0))), (q39, .inl (a39, 0, .inl (fun _ => 0))), (q46, .inl (a46, 0, .inl (fun _ => 0)))] H := hP
  have hD : va_D A [(p0, .inr (7, [.int 0, .ref q25, .ref q32, .ref q39, .ref q46, .null, .null, .int 0])), (q25, .inl (a25, 0, .inl (fun _ => 0))), (q32, .inl (a32, 0, .inl (fun _ => 0))), (q39, .inl (a39, 0, .inl (fun _ => 0))), (q46, .inl (a46, 0, .inl (fun _ => 0)))] := hD
  refine lv_aload_n hx hb dX7_init_51 rfl (lv_at hl 1 rfl) ?_
  refine lv_iload_n hx hb dX7_init_52 rfl (lv_at hl 0 rfl) ?_
  refine va_newa (atype := .int) (ty := .int) (a0 := (0, .inl (fun _ => 0))) (N' := 0) hx hb (htb _ bg_95) rfl hK hP hD hS hA (fun _ => rfl) (by decide) (by decide) (by decide) (Nat.le_of_ble_eq_true rfl) (Nat.le_of_ble_eq_true rfl) dX7_init_53 (fun q53 a53 H hK hP hD hS => ?_)
  have hP : va_P D vwCl [(p0, .inr (7, [.int 0, .ref q25, .ref q32, .ref q39, .ref q46, .null, .null, .int 0])), (q25, .inl (a25, 0, .inl (fun _ => 0))), (q32, .inl (a32, 0, .inl (fun _ => 0))), (q39, .inl (a39, 0, .inl (fun _ => 0))), (q46, .inl (a46, 0, .inl (fun _ => 0))), (q53, .inl (a53, 0, .inl (fun _ => 0)))] H := hP
  have hD : va_D A [(p0, .inr (7, [.int 0, .ref q25, .ref q32, .ref q39, .ref q46, .null, .null, .int 0])), (q25, .inl (a25, 0, .inl (fun _ => 0))), (q32, .inl (a32, 0, .inl (fun _ => 0))), (q39, .inl (a39, 0, .inl (fun _ => 0))), (q46, .inl (a46, 0, .inl (fun _ => 0))), (q53, .inl (a53, 0, .inl (fun _ => 0)))] := hD
  have hK : va_K D vwCl [(a25, .int), (a32, .int), (a39, .int), (a46, .int), (a53, .int)] s := hK
  refine W.widen (k := 5) (n := 0) (by decide) (by decide) ?_
  refine va_putF (D := D) (ci := 7) (v := .ref q53) (ty := tyX7 5) (C := RX7) (T := TX7) (N := 8) hx hb htb bi_X7 tyX7 tyX7_ok nmX7 hown hK hP hD hS 0 rfl rfl 5 (by decide) (htb _ bg_268) (fun _ h9 => h9) rfl hin rfl (tyX7_ok 5 (by decide)) rfl rfl (Nat.le_of_ble_eq_true rfl) dX7_init_55 (fun H locs hP hD hS => ?_)
  have hP : va_P D vwCl [(p0, .inr (7, [.int 0, .ref q25, .ref q32, .ref q39, .ref q46, .ref q53, .null, .int 0])), (q25, .inl (a25, 0, .inl (fun _ => 0))), (q32, .inl (a32, 0, .inl (fun _ => 0))), (q39, .inl (a39, 0, .inl (fun _ => 0))), (q46, .inl (a46, 0, .inl (fun _ => 0))), (q53, .inl (a53, 0, .inl (fun _ => 0)))] H := hP
  have hD : va_D A [(p0, .inr (7, [.int 0, .ref q25, .ref q32, .ref q39, .ref q46, .ref q53, .null, .int 0])), (q25, .inl (a25, 0, .inl (fun _ => 0))), (q32, .inl (a32, 0, .inl (fun _ => 0))), (q39, .inl (a39, 0, .inl (fun _ => 0))), (q46, .inl (a46, 0, .inl (fun _ => 0))), (q53, .inl (a53, 0, .inl (fun _ => 0)))] := hD
  refine lv_aload_n hx hb dX7_init_58 rfl (lv_at hl 1 rfl) ?_
  refine lv_iconst (v := 0) hx hb dX7_init_59 (by decide) ?_
  refine lv_iload_n hx hb dX7_init_60 rfl (lv_at hl 3 rfl) ?_
  refine va_mmax hx hb (by rw [hml]; exact hl.1.symm) hown (htb _ bg_619) (htb _ bg_620) (htb _ bg_622) (htb _ bg_621) (Nat.le_of_ble_eq_true rfl) (Nat.le_of_ble_eq_true rfl) (Nat.le_of_ble_eq_true rfl) (Nat.le_of_ble_eq_true rfl) dX7_init_61 ?_
  refine lv_topi (fun x_61 ex_61 => ?_)
  have hx_61 : x_61 = 0 := by rw [ex_61]; decide
  rw [hx_61]
  refine va_newa (atype := .char) (ty := .char) (a0 := (0, .inl (fun _ => 0))) (N' := 0) hx hb (htb _ bg_92) rfl hK hP hD hS hA (fun _ => rfl) (by decide) (by decide) (by decide) (Nat.le_of_ble_eq_true rfl) (Nat.le_of_ble_eq_true rfl) dX7_init_64 (fun q64 a64 H hK hP hD hS => ?_)
  have hP : va_P D vwCl [(p0, .inr (7, [.int 0, .ref q25, .ref q32, .ref q39, .ref q46, .ref q53, .null, .int 0])), (q25, .inl (a25, 0, .inl (fun _ => 0))), (q32, .inl (a32, 0, .inl (fun _ => 0))), (q39, .inl (a39, 0, .inl (fun _ => 0))), (q46, .inl (a46, 0, .inl (fun _ => 0))), (q53, .inl (a53, 0, .inl (fun _ => 0))), (q64, .inl (a64, 0, .inl (fun _ => 0)))] H := hP
  have hD : va_D A [(p0, .inr (7, [.int 0, .ref q25, .ref q32, .ref q39, .ref q46, .ref q53, .null, .int 0])), (q25, .inl (a25, 0, .inl (fun _ => 0))), (q32, .inl (a32, 0, .inl (fun _ => 0))), (q39, .inl (a39, 0, .inl (fun _ => 0))), (q46, .inl (a46, 0, .inl (fun _ => 0))), (q53, .inl (a53, 0, .inl (fun _ => 0))), (q64, .inl (a64, 0, .inl (fun _ => 0)))] := hD
  have hK : va_K D vwCl [(a25, .int), (a32, .int), (a39, .int), (a46, .int), (a53, .int), (a64, .char)] s := hK
  refine W.widen (k := 6) (n := 0) (by decide) (by decide) ?_
  refine va_putF (D := D) (ci := 7) (v := .ref q64) (ty := tyX7 6) (C := RX7) (T := TX7) (N := 8) hx hb htb bi_X7 tyX7 tyX7_ok nmX7 hown hK hP hD hS 0 rfl rfl 6 (by decide) (htb _ bg_269) (fun _ h9 => h9) rfl hin rfl (tyX7_ok 6 (by decide)) rfl rfl (Nat.le_of_ble_eq_true rfl) dX7_init_66 (fun H locs hP hD hS => ?_)
  have hP : va_P D vwCl [(p0, .inr (7, [.int 0, .ref q25, .ref q32, .ref q39, .ref q46, .ref q53, .ref q64, .int 0])), (q25, .inl (a25, 0, .inl (fun _ => 0))), (q32, .inl (a32, 0, .inl (fun _ => 0))), (q39, .inl (a39, 0, .inl (fun _ => 0))), (q46, .inl (a46, 0, .inl (fun _ => 0))), (q53, .inl (a53, 0, .inl (fun _ => 0))), (q64, .inl (a64, 0, .inl (fun _ => 0)))] H := hP
  have hD : va_D A [(p0, .inr (7, [.int 0, .ref q25, .ref q32, .ref q39, .ref q46, .ref q53, .ref q64, .int 0])), (q25, .inl (a25, 0, .inl (fun _ => 0))), (q32, .inl (a32, 0, .inl (fun _ => 0))), (q39, .inl (a39, 0, .inl (fun _ => 0))), (q46, .inl (a46, 0, .inl (fun _ => 0))), (q53, .inl (a53, 0, .inl (fun _ => 0))), (q64, .inl (a64, 0, .inl (fun _ => 0)))] := hD
  have hP9 := hP.sub (ws' := []) [] rfl
  have hD9 := hD.sub (ws' := []) [] rfl rfl
  have hK9 := hK.sub (tys' := []) [] rfl
  exact W.vret hx hb hr (fun t ht hW => ⟨⟨(), rfl, trivial, by rw [ht]; exact hP9, va_K.moved hW.alike hK9, hD9⟩, hS.F ht⟩) hS.2.2 dX7_init_69
theorem dX3_init_0 : decode cX3_init 0 = .ok (.aload_n 0, 1) := by decide +kernel
theorem dX3_init_1 : decode cX3_init 1 = .ok (.invokespecial 1, 3) := by decide +kernel
theorem dX3_init_4 : decode cX3_init 4 = .ok (.aload_n 0, 1) := by decide +kernel
theorem dX3_init_5 : decode cX3_init 5 = .ok (.aload_n 1, 1) := by decide +kernel
theorem dX3_init_6 : decode cX3_init 6 = .ok (.putfield 7, 3) := by decide +kernel
theorem dX3_init_9 : decode cX3_init 9 = .ok (.aload_n 0, 1) := by decide +kernel
theorem dX3_init_10 : decode cX3_init 10 = .ok (.new 13, 3) := by decide +kernel
theorem dX3_init_13 : decode cX3_init 13 = .ok (.dup, 1) := by decide +kernel
theorem dX3_init_14 : decode cX3_init 14 = .ok (.iconst 0, 1) := by decide +kernel
theorem dX3_init_15 : decode cX3_init 15 = .ok (.iconst 0, 1) := by decide +kernel
theorem dX3_init_16 : decode cX3_init 16 = .ok (.invokespecial 15, 3) := by decide +kernel
theorem dX3_init_19 : decode cX3_init 19 = .ok (.putfield 18, 3) := by decide +kernel
theorem dX3_init_22 : decode cX3_init 22 = .ok (.aload_n 0, 1) := by decide +kernel
theorem dX3_init_23 : decode cX3_init 23 = .ok (.iconst 0, 1) := by decide +kernel
theorem dX3_init_24 : decode cX3_init 24 = .ok (.anewarray 22, 3) := by decide +kernel
theorem dX3_init_27 : decode cX3_init 27 = .ok (.putfield 24, 3) := by decide +kernel
theorem dX3_init_30 : decode cX3_init 30 = .ok (.aload_n 0, 1) := by decide +kernel
theorem dX3_init_31 : decode cX3_init 31 = .ok (.iconst 0, 1) := by decide +kernel
theorem dX3_init_32 : decode cX3_init 32 = .ok (.anewarray 22, 3) := by decide +kernel
theorem dX3_init_35 : decode cX3_init 35 = .ok (.putfield 28, 3) := by decide +kernel
theorem dX3_init_38 : decode cX3_init 38 = .ok (.aload_n 0, 1) := by decide +kernel
theorem dX3_init_39 : decode cX3_init 39 = .ok (.iconst (-1), 1) := by decide +kernel
theorem dX3_init_40 : decode cX3_init 40 = .ok (.putfield 31, 3) := by decide +kernel
theorem dX3_init_43 : decode cX3_init 43 = .ok (.return_, 1) := by decide +kernel
set_option maxHeartbeats 4000000 in
set_option maxRecDepth 100000 in
theorem cc_init (l : Launch) (D : va_G) (g : xe_G) (c0 : Nat) (b0 : Nat) (sz : Nat)  : Met l yX3_init (.code yX3_init cX3_init 2 none :: bg) ({ frames := 4, cells := 9, slots := 8, locals := 480 } : Room) (xb_Pre (xe_E g) D vwCl [(c0, .inr (3, [.null, .null, .int 0, .int 0, .int 0, .int 0, .null, .null, .int 0, .int 0, .int 0, .int 0, .int 0, .int 0, .int 0, .int 0, .int 0]))] [] sz [.ref c0, .ref b0]) (va_Qv (fun _ => True) (xb_B D vwCl (va_A [(c0, .inr (3, [.null, .null, .int 0, .int 0, .int 0, .int 0, .null, .null, .int 0, .int 0, .int 0, .int 0, .int 0, .int 0, .int 0, .int 0, .int 0]))] sz) (fun u : Nat × Nat × Nat => [(c0, .inr (3, [.ref b0, .ref u.1, .int 0, .int 0, .int 0, .int 0, .ref u.2.1, .ref u.2.2, .int 0, .int 0, .int 0, .int 0, .int 0, .int 0, .int 0, .int 0, .int (-1)]))]) (fun u : Nat × Nat × Nat => [])) (va_A [(c0, .inr (3, [.null, .null, .int 0, .int 0, .int 0, .int 0, .null, .null, .int 0, .int 0, .int 0, .int 0, .int 0, .int 0, .int 0, .int 0, .int 0]))] sz)) 9 8 (va_A [(c0, .inr (3, [.null, .null, .int 0, .int 0, .int 0, .int 0, .null, .null, .int 0, .int 0, .int 0, .int 0, .int 0, .int 0, .int 0, .int 0, .int 0]))] sz) := by
  refine Met.ofW (cc := cX3_init) (maxL := 2) (ret := none) (by decide) rfl ?_
  intro p e s m args below meth c s₁ B hml hv
  obtain ⟨rfl, hsz, hP, hK, hD0, hE⟩ := hv
  have hx := B.exec
  have hb := B.bytes
  have hr := B.returns
  have hts := atoms_spec (ws := (.code yX3_init cX3_init 2 none :: bg)) B.pre
  have htb : ∀ w ∈ bg, w.before _ s = true := fun w h => hts w (List.mem_cons_of_mem _ h)
  have hown : s.vm.findClass RX3 = some m.cls := findClass_of_methodNamed B.named
  have hlocks := B.notSynchronized
  have hin : meth.name = "<init>" := (name_of_methodNamed B.named B.method).1
  subst hsz
  have hD := hD0.self (sz := s.heap.size)
  generalize hAe : va_A [(c0, .inr (3, [.null, .null, .int 0, .int 0, .int 0, .int 0, .null, .null, .int 0, .int 0, .int 0, .int 0, .int 0, .int 0, .int 0, .int 0, .int 0]))] s.heap.size = A at hD hE ⊢
  have hA : ∀ q : Nat, s.heap.size ≤ q → A q := fun q h => by rw [← hAe]; exact Or.inr h
  have hS : va_S A s.heap s.heap [] := va_S.rf
  have hP : va_P D vwCl [(c0, .inr (3, [.null, .null, .int 0, .int 0, .int 0, .int 0, .null, .null, .int 0, .int 0, .int 0, .int 0, .int 0, .int 0, .int 0, .int 0, .int 0]))] s.heap := hP
  have hl := lv_entry ([.ref c0, .ref b0]) (n := 2) (Nat.le_of_ble_eq_true rfl)
  rw [lg_entry_eq]
  generalize (lg_sl ([.ref c0, .ref b0]) ++ List.replicate (2 - (lg_sl ([.ref c0, .ref b0])).length) Slot.unset).toArray = ls at hl ⊢
  have hl : lv_has ls 2 [(0, .ref c0), (1, .ref b0)] := hl
  refine lv_aload_n hx hb dX3_init_0 rfl (lv_at hl 0 rfl) ?_
  refine W.objInit hx hb hown (htb _ bg_249) (htb _ bg_3) (htb _ bg_2) rfl (by rw [hml]; exact hl.1) rfl dX3_init_1 (Nat.le_of_ble_eq_true rfl) (Nat.le_of_ble_eq_true rfl) ?_
  refine W.eq (g2 := F0 m 4 ls []) rfl ?_
  refine lv_aload_n hx hb dX3_init_4 rfl (lv_at hl 0 rfl) ?_
  refine lv_aload_n hx hb dX3_init_5 rfl (lv_at hl 1 rfl) ?_
  refine va_putF (D := D) (ci := 3) (v := .ref b0) (ty := tyX3 0) (C := RX3) (T := TX3) (N := 17) hx hb htb bi_X3 tyX3 tyX3_ok nmX3 hown hK hP hD hS 0 rfl rfl 0 (by decide) (htb _ bg_250) (fun _ h9 => h9) rfl hin rfl (tyX3_ok 0 (by decide)) rfl rfl (Nat.le_of_ble_eq_true rfl) dX3_init_6 (fun H locs hP hD hS => ?_)
  have hP : va_P D vwCl [(c0, .inr (3, [.ref b0, .null, .int 0, .int 0, .int 0, .int 0, .null, .null, .int 0, .int 0, .int 0, .int 0, .int 0, .int 0, .int 0, .int 0, .int 0]))] H := hP
  have hD : va_D A [(c0, .inr (3, [.ref b0, .null, .int 0, .int 0, .int 0, .int 0, .null, .null, .int 0, .int 0, .int 0, .int 0, .int 0, .int 0, .int 0, .int 0, .int 0]))] := hD
  refine lv_aload_n hx hb dX3_init_9 rfl (lv_at hl 0 rfl) ?_
  refine va_new (ci := 7) (fs := [.int 0, .null, .null, .null, .null, .null, .null, .int 0]) (C := RX7) (T := TX7) (N := 8) hx hb htb bi_X7 tyX7 tyX7_ok hown (htb _ bg_251) (htb _ bg_253) (htb _ bg_252) hK hP hD hS hA rfl (by decide +kernel) (Nat.le_of_ble_eq_true rfl) (Nat.le_of_ble_eq_true rfl) dX3_init_10 (fun q10 H hP hD hS => ?_)
  have hP : va_P D vwCl [(c0, .inr (3, [.ref b0, .null, .int 0, .int 0, .int 0, .int 0, .null, .null, .int 0, .int 0, .int 0, .int 0, .int 0, .int 0, .int 0, .int 0, .int 0])), (q10, .inr (7, [.int 0, .null, .null, .null, .null, .null, .null, .int 0]))] H := hP
  have hD : va_D A [(c0, .inr (3, [.ref b0, .null, .int 0, .int 0, .int 0, .int 0, .null, .null, .int 0, .int 0, .int 0, .int 0, .int 0, .int 0, .int 0, .int 0, .int 0])), (q10, .inr (7, [.int 0, .null, .null, .null, .null, .null, .null, .int 0]))] := hD
  refine W.widen (k := 1) (n := 8) (by decide) (by decide) ?_
  refine lv_dup hx hb dX3_init_13 rfl ?_
  refine lv_iconst (v := 0) hx hb dX3_init_14 (by decide) ?_
  refine lv_iconst (v := 0) hx hb dX3_init_15 (by decide) ?_
  refine xb_gov (wr := [(c0, .inr (3, [.ref b0, .null, .int 0, .int 0, .int 0, .int 0, .null, .null, .int 0, .int 0, .int 0, .int 0, .int 0, .int 0, .int 0, .int 0, .int 0]))]) (va_runI (As := [.int 0, .int 0]) (rest := [.ref q10, .ref c0]) ⟨hx, hb, hml, hown, htb⟩ (cp_init l D g q10 (Array.size H) ) (bg_I 2 htb bg_254 bg_256 bg_252 bg_255 rfl rfl (by decide +kernel) ⟨Nat.le_of_ble_eq_true rfl, Nat.le_of_ble_eq_true rfl⟩) ⟨xb_blind xe_ok, xb_enter xe_ok hK hP hD hS hA hE [1] rfl rfl rfl [] rfl⟩ rfl rfl hl.1 rfl (lv_room (Nat.le_of_ble_eq_true rfl)) dX3_init_16 ⟨Nat.le_of_ble_eq_true rfl, Nat.le_of_ble_eq_true rfl⟩) hK hP hD hS hA [1] [0] rfl rfl rfl (by decide) (fun u_16 H locs hw_16 hP hD hK hS => ?_)
  have hP : va_P D vwCl [(c0, .inr (3, [.ref b0, .null, .int 0, .int 0, .int 0, .int 0, .null, .null, .int 0, .int 0, .int 0, .int 0, .int 0, .int 0, .int 0, .int 0, .int 0]))] H := hP
  have hD : va_D A [(c0, .inr (3, [.ref b0, .null, .int 0, .int 0, .int 0, .int 0, .null, .null, .int 0, .int 0, .int 0, .int 0, .int 0, .int 0, .int 0, .int 0, .int 0]))] := hD
  have hK : va_K D vwCl [] s := hK
  refine W.widen (k := 7) (n := 8) (by decide) (by decide) ?_
  refine va_put (D := D) (ci := 3) (v := .ref q10) (ty := tyX3 1) (C := RX3) (T := TX3) (N := 17) hx hb htb bi_X3 tyX3 tyX3_ok nmX3 hown hK hP hD hS 0 rfl rfl 1 (by decide) (htb _ bg_257) (fun _ h9 => h9) rfl (tyX3_ok 1 (by decide)) rfl rfl (Nat.le_of_ble_eq_true rfl) dX3_init_19 (fun H locs hP hD hS => ?_)
  have hP : va_P D vwCl [(c0, .inr (3, [.ref b0, .ref q10, .int 0, .int 0, .int 0, .int 0, .null, .null, .int 0, .int 0, .int 0, .int 0, .int 0, .int 0, .int 0, .int 0, .int 0]))] H := hP
  have hD : va_D A [(c0, .inr (3, [.ref b0, .ref q10, .int 0, .int 0, .int 0, .int 0, .null, .null, .int 0, .int 0, .int 0, .int 0, .int 0, .int 0, .int 0, .int 0, .int 0]))] := hD
  refine lv_aload_n hx hb dX3_init_22 rfl (lv_at hl 0 rfl) ?_
  refine lv_iconst (v := 0) hx hb dX3_init_23 (by decide) ?_
  refine va_newq (C := RX6) (N' := 0) hx hb hown (htb _ bg_258) (hE.2.2.2.2.2.2.2.2.2.1) hK hP hD hS hA (by decide) (by decide) (by decide) (Nat.le_of_ble_eq_true rfl) (Nat.le_of_ble_eq_true rfl) dX3_init_24 (fun q24 a24 H hK hP hD hS => ?_)
  have hP : va_P D vwCl [(c0, .inr (3, [.ref b0, .ref q10, .int 0, .int 0, .int 0, .int 0, .null, .null, .int 0, .int 0, .int 0, .int 0, .int 0, .int 0, .int 0, .int 0, .int 0])), (q24, .inl (a24, 0, .inr (.inr (.inr (.inr (fun _ => none))))))] H := hP
  have hD : va_D A [(c0, .inr (3, [.ref b0, .ref q10, .int 0, .int 0, .int 0, .int 0, .null, .null, .int 0, .int 0, .int 0, .int 0, .int 0, .int 0, .int 0, .int 0, .int 0])), (q24, .inl (a24, 0, .inr (.inr (.inr (.inr (fun _ => none))))))] := hD
  have hK : va_K D vwCl [(a24, .object RX6)] s := hK
  refine W.widen (k := 8) (n := 8) (by decide) (by decide) ?_
  refine va_put (D := D) (ci := 3) (v := .ref q24) (ty := tyX3 6) (C := RX3) (T := TX3) (N := 17) hx hb htb bi_X3 tyX3 tyX3_ok nmX3 hown hK hP hD hS 0 rfl rfl 6 (by decide) (htb _ bg_259) (fun _ h9 => h9) rfl (tyX3_ok 6 (by decide)) rfl rfl (Nat.le_of_ble_eq_true rfl) dX3_init_27 (fun H locs hP hD hS => ?_)
  have hP : va_P D vwCl [(c0, .inr (3, [.ref b0, .ref q10, .int 0, .int 0, .int 0, .int 0, .ref q24, .null, .int 0, .int 0, .int 0, .int 0, .int 0, .int 0, .int 0, .int 0, .int 0])), (q24, .inl (a24, 0, .inr (.inr (.inr (.inr (fun _ => none))))))] H := hP
  have hD : va_D A [(c0, .inr (3, [.ref b0, .ref q10, .int 0, .int 0, .int 0, .int 0, .ref q24, .null, .int 0, .int 0, .int 0, .int 0, .int 0, .int 0, .int 0, .int 0, .int 0])), (q24, .inl (a24, 0, .inr (.inr (.inr (.inr (fun _ => none))))))] := hD
  refine lv_aload_n hx hb dX3_init_30 rfl (lv_at hl 0 rfl) ?_
  refine lv_iconst (v := 0) hx hb dX3_init_31 (by decide) ?_
  refine va_newq (C := RX6) (N' := 0) hx hb hown (htb _ bg_258) (hE.2.2.2.2.2.2.2.2.2.1) hK hP hD hS hA (by decide) (by decide) (by decide) (Nat.le_of_ble_eq_true rfl) (Nat.le_of_ble_eq_true rfl) dX3_init_32 (fun q32 a32 H hK hP hD hS => ?_)
  have hP : va_P D vwCl [(c0, .inr (3, [.ref b0, .ref q10, .int 0, .int 0, .int 0, .int 0, .ref q24, .null, .int 0, .int 0, .int 0, .int 0, .int 0, .int 0, .int 0, .int 0, .int 0])), (q24, .inl (a24, 0, .inr (.inr (.inr (.inr (fun _ => none)))))), (q32, .inl (a32, 0, .inr (.inr (.inr (.inr (fun _ => none))))))] H := hP
  have hD : va_D A [(c0, .inr (3, [.ref b0, .ref q10, .int 0, .int 0, .int 0, .int 0, .ref q24, .null, .int 0, .int 0, .int 0, .int 0, .int 0, .int 0, .int 0, .int 0, .int 0])), (q24, .inl (a24, 0, .inr (.inr (.inr (.inr (fun _ => none)))))), (q32, .inl (a32, 0, .inr (.inr (.inr (.inr (fun _ => none))))))] := hD
  have hK : va_K D vwCl [(a24, .object RX6), (a32, .object RX6)] s := hK
  refine W.widen (k := 9) (n := 8) (by decide) (by decide) ?_
  refine va_put (D := D) (ci := 3) (v := .ref q32) (ty := tyX3 7) (C := RX3) (T := TX3) (N := 17) hx hb htb bi_X3 tyX3 tyX3_ok nmX3 hown hK hP hD hS 0 rfl rfl 7 (by decide) (htb _ bg_260) (fun _ h9 => h9) rfl (tyX3_ok 7 (by decide)) rfl rfl (Nat.le_of_ble_eq_true rfl) dX3_init_35 (fun H locs hP hD hS => ?_)
  have hP : va_P D vwCl [(c0, .inr (3, [.ref b0, .ref q10, .int 0, .int 0, .int 0, .int 0, .ref q24, .ref q32, .int 0, .int 0, .int 0, .int 0, .int 0, .int 0, .int 0, .int 0, .int 0])), (q24, .inl (a24, 0, .inr (.inr (.inr (.inr (fun _ => none)))))), (q32, .inl (a32, 0, .inr (.inr (.inr (.inr (fun _ => none))))))] H := hP
  have hD : va_D A [(c0, .inr (3, [.ref b0, .ref q10, .int 0, .int 0, .int 0, .int 0, .ref q24, .ref q32, .int 0, .int 0, .int 0, .int 0, .int 0, .int 0, .int 0, .int 0, .int 0])), (q24, .inl (a24, 0, .inr (.inr (.inr (.inr (fun _ => none)))))), (q32, .inl (a32, 0, .inr (.inr (.inr (.inr (fun _ => none))))))] := hD
  refine lv_aload_n hx hb dX3_init_38 rfl (lv_at hl 0 rfl) ?_
  refine lv_iconst (v := (-1)) hx hb dX3_init_39 (by decide) ?_
  refine va_put (D := D) (ci := 3) (v := .int (-1)) (ty := tyX3 16) (C := RX3) (T := TX3) (N := 17) hx hb htb bi_X3 tyX3 tyX3_ok nmX3 hown hK hP hD hS 0 rfl rfl 16 (by decide) (htb _ bg_261) (fun _ h9 => h9) rfl (tyX3_ok 16 (by decide)) rfl rfl (Nat.le_of_ble_eq_true rfl) dX3_init_40 (fun H locs hP hD hS => ?_)
  have hP : va_P D vwCl [(c0, .inr (3, [.ref b0, .ref q10, .int 0, .int 0, .int 0, .int 0, .ref q24, .ref q32, .int 0, .int 0, .int 0, .int 0, .int 0, .int 0, .int 0, .int 0, .int (-1)])), (q24, .inl (a24, 0, .inr (.inr (.inr (.inr (fun _ => none)))))), (q32, .inl (a32, 0, .inr (.inr (.inr (.inr (fun _ => none))))))] H := hP
  have hD : va_D A [(c0, .inr (3, [.ref b0, .ref q10, .int 0, .int 0, .int 0, .int 0, .ref q24, .ref q32, .int 0, .int 0, .int 0, .int 0, .int 0, .int 0, .int 0, .int 0, .int (-1)])), (q24, .inl (a24, 0, .inr (.inr (.inr (.inr (fun _ => none)))))), (q32, .inl (a32, 0, .inr (.inr (.inr (.inr (fun _ => none))))))] := hD
  have hP9 := hP.sub (ws' := [(c0, .inr (3, [.ref b0, .ref q10, .int 0, .int 0, .int 0, .int 0, .ref q24, .ref q32, .int 0, .int 0, .int 0, .int 0, .int 0, .int 0, .int 0, .int 0, .int (-1)]))]) [0] rfl
  have hD9 := hD.sub (ws' := [(c0, .inr (3, [.ref b0, .ref q10, .int 0, .int 0, .int 0, .int 0, .ref q24, .ref q32, .int 0, .int 0, .int 0, .int 0, .int 0, .int 0, .int 0, .int 0, .int (-1)]))]) [0] rfl rfl
  have hK9 := hK.sub (tys' := []) [] rfl
  exact W.vret hx hb hr (fun t ht hW => ⟨⟨(q10, q24, q32), rfl, trivial, by rw [ht]; exact hP9, va_K.moved hW.alike hK9, hD9⟩, hS.F ht⟩) hS.2.2 dX3_init_43
theorem dX9_init_0 : decode cX9_init 0 = .ok (.aload_n 0, 1) := by decide +kernel
theorem dX9_init_1 : decode cX9_init 1 = .ok (.invokespecial 3, 3) := by decide +kernel
theorem dX9_init_4 : decode cX9_init 4 = .ok (.aload_n 0, 1) := by decide +kernel
theorem dX9_init_5 : decode cX9_init 5 = .ok (.aload_n 1, 1) := by decide +kernel
theorem dX9_init_6 : decode cX9_init 6 = .ok (.putfield 9, 3) := by decide +kernel
theorem dX9_init_9 : decode cX9_init 9 = .ok (.aload_n 0, 1) := by decide +kernel
theorem dX9_init_10 : decode cX9_init 10 = .ok (.aload_n 2, 1) := by decide +kernel
theorem dX9_init_11 : decode cX9_init 11 = .ok (.putfield 15, 3) := by decide +kernel
theorem dX9_init_14 : decode cX9_init 14 = .ok (.aload_n 0, 1) := by decide +kernel
theorem dX9_init_15 : decode cX9_init 15 = .ok (.aload_n 1, 1) := by decide +kernel
theorem dX9_init_16 : decode cX9_init 16 = .ok (.getfield 19, 3) := by decide +kernel
theorem dX9_init_19 : decode cX9_init 19 = .ok (.putfield 25, 3) := by decide +kernel
theorem dX9_init_22 : decode cX9_init 22 = .ok (.return_, 1) := by decide +kernel
set_option maxHeartbeats 4000000 in
set_option maxRecDepth 100000 in
theorem cr_init (l : Launch) (D : va_G) (g : xe_G) (r0 : Nat) (c0 : Nat) (v0 : Nat) (b0 : Nat) (p0 : Nat) (f0 : Nat) (m0 : Nat) (sz : Nat)  : Met l yX9_init (.code yX9_init cX9_init 3 none :: bg) ({ frames := 2, cells := 0, slots := 0, locals := 240 } : Room) (xb_Pre (xe_E g) D vwCl [(r0, .inr (9, [.null, .null, .null, .int 0, .int 0])), (c0, .inr (3, [.ref b0, .ref p0, .int 0, .int 0, .int 0, .int 0, .ref f0, .ref m0, .int 0, .int 0, .int 0, .int 0, .int 0, .int 0, .int 0, .int 0, .int (-1)]))] [] sz [.ref r0, .ref c0, .ref v0]) (va_Qv (fun _ => True) (xb_B D vwCl (va_A [(r0, .inr (9, [.null, .null, .null, .int 0, .int 0])), (c0, .inr (3, [.ref b0, .ref p0, .int 0, .int 0, .int 0, .int 0, .ref f0, .ref m0, .int 0, .int 0, .int 0, .int 0, .int 0, .int 0, .int 0, .int 0, .int (-1)]))] sz) (fun u : Unit => [(r0, .inr (9, [.ref c0, .ref b0, .ref v0, .int 0, .int 0])), (c0, .inr (3, [.ref b0, .ref p0, .int 0, .int 0, .int 0, .int 0, .ref f0, .ref m0, .int 0, .int 0, .int 0, .int 0, .int 0, .int 0, .int 0, .int 0, .int (-1)]))]) (fun u : Unit => [])) (va_A [(r0, .inr (9, [.null, .null, .null, .int 0, .int 0])), (c0, .inr (3, [.ref b0, .ref p0, .int 0, .int 0, .int 0, .int 0, .ref f0, .ref m0, .int 0, .int 0, .int 0, .int 0, .int 0, .int 0, .int 0, .int 0, .int (-1)]))] sz)) 0 0 (va_A [(r0, .inr (9, [.null, .null, .null, .int 0, .int 0])), (c0, .inr (3, [.ref b0, .ref p0, .int 0, .int 0, .int 0, .int 0, .ref f0, .ref m0, .int 0, .int 0, .int 0, .int 0, .int 0, .int 0, .int 0, .int 0, .int (-1)]))] sz) := by
  refine Met.ofW (cc := cX9_init) (maxL := 3) (ret := none) (by decide) rfl ?_
  intro p e s m args below meth c s₁ B hml hv
  obtain ⟨rfl, hsz, hP, hK, hD0, hE⟩ := hv
  have hx := B.exec
  have hb := B.bytes
  have hr := B.returns
  have hts := atoms_spec (ws := (.code yX9_init cX9_init 3 none :: bg)) B.pre
  have htb : ∀ w ∈ bg, w.before _ s = true := fun w h => hts w (List.mem_cons_of_mem _ h)
  have hown : s.vm.findClass RX9 = some m.cls := findClass_of_methodNamed B.named
  have hlocks := B.notSynchronized
  have hin : meth.name = "<init>" := (name_of_methodNamed B.named B.method).1
  subst hsz
  have hD := hD0.self (sz := s.heap.size)
  generalize hAe : va_A [(r0, .inr (9, [.null, .null, .null, .int 0, .int 0])), (c0, .inr (3, [.ref b0, .ref p0, .int 0, .int 0, .int 0, .int 0, .ref f0, .ref m0, .int 0, .int 0, .int 0, .int 0, .int 0, .int 0, .int 0, .int 0, .int (-1)]))] s.heap.size = A at hD hE ⊢
  have hA : ∀ q : Nat, s.heap.size ≤ q → A q := fun q h => by rw [← hAe]; exact Or.inr h
  have hS : va_S A s.heap s.heap [] := va_S.rf
  have hP : va_P D vwCl [(r0, .inr (9, [.null, .null, .null, .int 0, .int 0])), (c0, .inr (3, [.ref b0, .ref p0, .int 0, .int 0, .int 0, .int 0, .ref f0, .ref m0, .int 0, .int 0, .int 0, .int 0, .int 0, .int 0, .int 0, .int 0, .int (-1)]))] s.heap := hP
  have hl := lv_entry ([.ref r0, .ref c0, .ref v0]) (n := 3) (Nat.le_of_ble_eq_true rfl)
  rw [lg_entry_eq]
  generalize (lg_sl ([.ref r0, .ref c0, .ref v0]) ++ List.replicate (3 - (lg_sl ([.ref r0, .ref c0, .ref v0])).length) Slot.unset).toArray = ls at hl ⊢
  have hl : lv_has ls 3 [(0, .ref r0), (1, .ref c0), (2, .ref v0)] := hl
  refine lv_aload_n hx hb dX9_init_0 rfl (lv_at hl 0 rfl) ?_
  refine W.objInit hx hb hown (htb _ bg_270) (htb _ bg_3) (htb _ bg_2) rfl (by rw [hml]; exact hl.1) rfl dX9_init_1 (Nat.le_of_ble_eq_true rfl) (Nat.le_of_ble_eq_true rfl) ?_
  refine W.eq (g2 := F0 m 4 ls []) rfl ?_
  refine lv_aload_n hx hb dX9_init_4 rfl (lv_at hl 0 rfl) ?_
  refine lv_aload_n hx hb dX9_init_5 rfl (lv_at hl 1 rfl) ?_
  refine va_putF (D := D) (ci := 9) (v := .ref c0) (ty := tyX9 0) (C := RX9) (T := TX9) (N := 5) hx hb htb bi_X9 tyX9 tyX9_ok nmX9 hown hK hP hD hS 0 rfl rfl 0 (by decide) (htb _ bg_271) (fun _ h9 => h9) rfl hin rfl (tyX9_ok 0 (by decide)) rfl rfl (Nat.le_of_ble_eq_true rfl) dX9_init_6 (fun H locs hP hD hS => ?_)
  have hP : va_P D vwCl [(r0, .inr (9, [.ref c0, .null, .null, .int 0, .int 0])), (c0, .inr (3, [.ref b0, .ref p0, .int 0, .int 0, .int 0, .int 0, .ref f0, .ref m0, .int 0, .int 0, .int 0, .int 0, .int 0, .int 0, .int 0, .int 0, .int (-1)]))] H := hP
  have hD : va_D A [(r0, .inr (9, [.ref c0, .null, .null, .int 0, .int 0])), (c0, .inr (3, [.ref b0, .ref p0, .int 0, .int 0, .int 0, .int 0, .ref f0, .ref m0, .int 0, .int 0, .int 0, .int 0, .int 0, .int 0, .int 0, .int 0, .int (-1)]))] := hD
  refine lv_aload_n hx hb dX9_init_9 rfl (lv_at hl 0 rfl) ?_
  refine lv_aload_n hx hb dX9_init_10 rfl (lv_at hl 2 rfl) ?_
  refine va_putF (D := D) (ci := 9) (v := .ref v0) (ty := tyX9 2) (C := RX9) (T := TX9) (N := 5) hx hb htb bi_X9 tyX9 tyX9_ok nmX9 hown hK hP hD hS 0 rfl rfl 2 (by decide) (htb _ bg_272) (fun _ h9 => h9) rfl hin rfl (tyX9_ok 2 (by decide)) rfl rfl (Nat.le_of_ble_eq_true rfl) dX9_init_11 (fun H locs hP hD hS => ?_)
  have hP : va_P D vwCl [(r0, .inr (9, [.ref c0, .null, .ref v0, .int 0, .int 0])), (c0, .inr (3, [.ref b0, .ref p0, .int 0, .int 0, .int 0, .int 0, .ref f0, .ref m0, .int 0, .int 0, .int 0, .int 0, .int 0, .int 0, .int 0, .int 0, .int (-1)]))] H := hP
  have hD : va_D A [(r0, .inr (9, [.ref c0, .null, .ref v0, .int 0, .int 0])), (c0, .inr (3, [.ref b0, .ref p0, .int 0, .int 0, .int 0, .int 0, .ref f0, .ref m0, .int 0, .int 0, .int 0, .int 0, .int 0, .int 0, .int 0, .int 0, .int (-1)]))] := hD
  refine lv_aload_n hx hb dX9_init_14 rfl (lv_at hl 0 rfl) ?_
  refine lv_aload_n hx hb dX9_init_15 rfl (lv_at hl 1 rfl) ?_
  refine va_get (D := D) (ci := 3) (v := .ref b0) (C := RX3) (T := TX3) (N := 17) hx hb htb bi_X3 hown hK hP 1 rfl rfl 0 (by decide) (htb _ bg_273) (fun _ h9 => h9) rfl dX9_init_16 ?_
  refine va_putF (D := D) (ci := 9) (v := .ref b0) (ty := tyX9 1) (C := RX9) (T := TX9) (N := 5) hx hb htb bi_X9 tyX9 tyX9_ok nmX9 hown hK hP hD hS 0 rfl rfl 1 (by decide) (htb _ bg_274) (fun _ h9 => h9) rfl hin rfl (tyX9_ok 1 (by decide)) rfl rfl (Nat.le_of_ble_eq_true rfl) dX9_init_19 (fun H locs hP hD hS => ?_)
  have hP : va_P D vwCl [(r0, .inr (9, [.ref c0, .ref b0, .ref v0, .int 0, .int 0])), (c0, .inr (3, [.ref b0, .ref p0, .int 0, .int 0, .int 0, .int 0, .ref f0, .ref m0, .int 0, .int 0, .int 0, .int 0, .int 0, .int 0, .int 0, .int 0, .int (-1)]))] H := hP
  have hD : va_D A [(r0, .inr (9, [.ref c0, .ref b0, .ref v0, .int 0, .int 0])), (c0, .inr (3, [.ref b0, .ref p0, .int 0, .int 0, .int 0, .int 0, .ref f0, .ref m0, .int 0, .int 0, .int 0, .int 0, .int 0, .int 0, .int 0, .int 0, .int (-1)]))] := hD
  have hP9 := hP.sub (ws' := [(r0, .inr (9, [.ref c0, .ref b0, .ref v0, .int 0, .int 0])), (c0, .inr (3, [.ref b0, .ref p0, .int 0, .int 0, .int 0, .int 0, .ref f0, .ref m0, .int 0, .int 0, .int 0, .int 0, .int 0, .int 0, .int 0, .int 0, .int (-1)]))]) [0, 1] rfl
  have hD9 := hD.sub (ws' := [(r0, .inr (9, [.ref c0, .ref b0, .ref v0, .int 0, .int 0])), (c0, .inr (3, [.ref b0, .ref p0, .int 0, .int 0, .int 0, .int 0, .ref f0, .ref m0, .int 0, .int 0, .int 0, .int 0, .int 0, .int 0, .int 0, .int 0, .int (-1)]))]) [0, 1] rfl rfl
  have hK9 := hK.sub (tys' := []) [] rfl
  exact W.vret hx hb hr (fun t ht hW => ⟨⟨(), rfl, trivial, by rw [ht]; exact hP9, va_K.moved hW.alike hK9, hD9⟩, hS.F ht⟩) hS.2.2 dX9_init_22
theorem dX9_takes_0 : decode cX9_takes 0 = .ok (.iload_n 1, 1) := by decide +kernel
theorem dX9_takes_1 : decode cX9_takes 1 = .ok (.aload_n 0, 1) := by decide +kernel
theorem dX9_takes_2 : decode cX9_takes 2 = .ok (.getfield 25, 3) := by decide +kernel
theorem dX9_takes_5 : decode cX9_takes 5 = .ok (.invokevirtual 26, 3) := by decide +kernel
theorem dX9_takes_8 : decode cX9_takes 8 = .ok (.aload_n 0, 1) := by decide +kernel
theorem dX9_takes_9 : decode cX9_takes 9 = .ok (.getfield 32, 3) := by decide +kernel
theorem dX9_takes_12 : decode cX9_takes 12 = .ok (.isub, 1) := by decide +kernel
theorem dX9_takes_13 : decode cX9_takes 13 = .ok (.if_icmp .le 16, 3) := by decide +kernel
theorem dX9_takes_16 : decode cX9_takes 16 = .ok (.aload_n 0, 1) := by decide +kernel
theorem dX9_takes_17 : decode cX9_takes 17 = .ok (.getfield 15, 3) := by decide +kernel
theorem dX9_takes_20 : decode cX9_takes 20 = .ok (.iconst 1, 1) := by decide +kernel
theorem dX9_takes_21 : decode cX9_takes 21 = .ok (.aload_n 0, 1) := by decide +kernel
theorem dX9_takes_22 : decode cX9_takes 22 = .ok (.getfield 32, 3) := by decide +kernel
theorem dX9_takes_25 : decode cX9_takes 25 = .ok (.invokevirtual 36, 3) := by decide +kernel
theorem dX9_takes_28 : decode cX9_takes 28 = .ok (.ireturn, 1) := by decide +kernel
set_option maxHeartbeats 4000000 in
set_option maxRecDepth 100000 in
theorem cr_takes (l : Launch) (D : va_G) (g : xe_G) (r0 : Nat) (c0 : Nat) (v0 : Nat) (b0 : Nat) (sz : Nat)  : Met l yX9_takes (.code yX9_takes cX9_takes 2 (some .boolean) :: bg) ({ frames := 2, cells := 0, slots := 0, locals := 240 } : Room) (xb_Pre (xe_E g) D vwCl [(r0, .inr (9, [.ref c0, .ref b0, .ref v0, .int 0, .int 0])), (b0, .inr (1, [.ref g.1])), (v0, .inr (10, [.int 0, .int (-1)]))] [] sz [.ref r0, .int 4]) (va_Qi (fun r _ => r = 0) (xb_B D vwCl (va_A [(r0, .inr (9, [.ref c0, .ref b0, .ref v0, .int 0, .int 0])), (b0, .inr (1, [.ref g.1])), (v0, .inr (10, [.int 0, .int (-1)]))] sz) (fun u : Unit => [(r0, .inr (9, [.ref c0, .ref b0, .ref v0, .int 0, .int 0])), (b0, .inr (1, [.ref g.1])), (v0, .inr (10, [.int 1, .int 0]))]) (fun u : Unit => [])) (va_A [(r0, .inr (9, [.ref c0, .ref b0, .ref v0, .int 0, .int 0])), (b0, .inr (1, [.ref g.1])), (v0, .inr (10, [.int 0, .int (-1)]))] sz)) 0 0 (va_A [(r0, .inr (9, [.ref c0, .ref b0, .ref v0, .int 0, .int 0])), (b0, .inr (1, [.ref g.1])), (v0, .inr (10, [.int 0, .int (-1)]))] sz) := by
  refine Met.ofW (cc := cX9_takes) (maxL := 2) (ret := (some .boolean)) (by decide) rfl ?_
  intro p e s m args below meth c s₁ B hml hv
  obtain ⟨rfl, hsz, hP, hK, hD0, hE⟩ := hv
  have hx := B.exec
  have hb := B.bytes
  have hr := B.returns
  have hts := atoms_spec (ws := (.code yX9_takes cX9_takes 2 (some .boolean) :: bg)) B.pre
  have htb : ∀ w ∈ bg, w.before _ s = true := fun w h => hts w (List.mem_cons_of_mem _ h)
  have hown : s.vm.findClass RX9 = some m.cls := findClass_of_methodNamed B.named
  have hlocks := B.notSynchronized
  subst hsz
  have hD := hD0.self (sz := s.heap.size)
  generalize hAe : va_A [(r0, .inr (9, [.ref c0, .ref b0, .ref v0, .int 0, .int 0])), (b0, .inr (1, [.ref g.1])), (v0, .inr (10, [.int 0, .int (-1)]))] s.heap.size = A at hD hE ⊢
  have hA : ∀ q : Nat, s.heap.size ≤ q → A q := fun q h => by rw [← hAe]; exact Or.inr h
  have hS : va_S A s.heap s.heap [] := va_S.rf
  have hP : va_P D vwCl [(r0, .inr (9, [.ref c0, .ref b0, .ref v0, .int 0, .int 0])), (b0, .inr (1, [.ref g.1])), (v0, .inr (10, [.int 0, .int (-1)]))] s.heap := hP
  have hl := lv_entry ([.ref r0, .int 4]) (n := 2) (Nat.le_of_ble_eq_true rfl)
  rw [lg_entry_eq]
  generalize (lg_sl ([.ref r0, .int 4]) ++ List.replicate (2 - (lg_sl ([.ref r0, .int 4])).length) Slot.unset).toArray = ls at hl ⊢
  have hl : lv_has ls 2 [(0, .ref r0), (1, .int 4)] := hl
  refine lv_iload_n hx hb dX9_takes_0 rfl (lv_at hl 1 rfl) ?_
  refine lv_aload_n hx hb dX9_takes_1 rfl (lv_at hl 0 rfl) ?_
  refine va_get (D := D) (ci := 9) (v := .ref b0) (C := RX9) (T := TX9) (N := 5) hx hb htb bi_X9 hown hK hP 0 rfl rfl 1 (by decide) (htb _ bg_274) (fun _ h9 => h9) rfl dX9_takes_2 ?_
  refine xb_goi (wr := [(r0, .inr (9, [.ref c0, .ref b0, .ref v0, .int 0, .int 0])), (v0, .inr (10, [.int 0, .int (-1)]))]) (va_runV (As := []) (rest := [.int 4]) ⟨hx, hb, hml, hown, htb⟩ (cb_size l D g b0 (Array.size s.heap) ) (bg_V 0 htb bg_276 bg_277 bg_278 bg_31 bg_248 rfl rfl (by decide +kernel) ⟨Nat.le_of_ble_eq_true rfl, Nat.le_of_ble_eq_true rfl⟩) ⟨xb_blind xe_ok, va_recv hK hP (ci := 1) (q0 := 1) rfl rfl, xb_enter xe_ok hK hP hD hS hA hE [1] rfl rfl rfl [] rfl⟩ rfl rfl hl.1 rfl (lv_room (Nat.le_of_ble_eq_true rfl)) dX9_takes_5 ⟨Nat.le_of_ble_eq_true rfl, Nat.le_of_ble_eq_true rfl⟩) hK hP hD hS hA [1] [0, 2] rfl rfl rfl (by decide) (fun r_5 u_5 H locs hw_5 hP hD hK hS => ?_)
  have hP : va_P D vwCl [(r0, .inr (9, [.ref c0, .ref b0, .ref v0, .int 0, .int 0])), (v0, .inr (10, [.int 0, .int (-1)])), (b0, .inr (1, [.ref g.1]))] H := hP
  have hD : va_D A [(r0, .inr (9, [.ref c0, .ref b0, .ref v0, .int 0, .int 0])), (v0, .inr (10, [.int 0, .int (-1)])), (b0, .inr (1, [.ref g.1]))] := hD
  have hK : va_K D vwCl [] s := hK
  refine W.widen (k := 0) (n := 0) (by decide) (by decide) ?_
  have hw_5 : r_5 = 0 := hw_5
  subst hw_5
  refine lv_aload_n hx hb dX9_takes_8 rfl (lv_at hl 0 rfl) ?_
  refine va_get (D := D) (ci := 9) (v := .int 0) (C := RX9) (T := TX9) (N := 5) hx hb htb bi_X9 hown hK hP 0 rfl rfl 3 (by decide) (htb _ bg_279) (fun _ h9 => h9) rfl dX9_takes_9 ?_
  refine lv_isub hx hb dX9_takes_12 ?_
  refine lv_icmp_le (tgt := 29) hx hb dX9_takes_13 (by decide) (fun c_13 => ?_) (fun c_13 => ?_)
  · exact absurd c_13 (by decide)
  refine lv_aload_n hx hb dX9_takes_16 rfl (lv_at hl 0 rfl) ?_
  refine va_get (D := D) (ci := 9) (v := .ref v0) (C := RX9) (T := TX9) (N := 5) hx hb htb bi_X9 hown hK hP 0 rfl rfl 2 (by decide) (htb _ bg_272) (fun _ h9 => h9) rfl dX9_takes_17 ?_
  refine lv_iconst (v := 1) hx hb dX9_takes_20 (by decide) ?_
  refine lv_aload_n hx hb dX9_takes_21 rfl (lv_at hl 0 rfl) ?_
  refine va_get (D := D) (ci := 9) (v := .int 0) (C := RX9) (T := TX9) (N := 5) hx hb htb bi_X9 hown hK hP 0 rfl rfl 3 (by decide) (htb _ bg_279) (fun _ h9 => h9) rfl dX9_takes_22 ?_
  refine xb_goi (wr := [(r0, .inr (9, [.ref c0, .ref b0, .ref v0, .int 0, .int 0])), (b0, .inr (1, [.ref g.1]))]) (va_runV (As := [.int 1, .int 0]) (rest := []) ⟨hx, hb, hml, hown, htb⟩ (cv_wrong l D g v0 0 (-1) 1 0 (Array.size H) ) (bg_V 2 htb bg_280 bg_282 bg_283 bg_40 bg_281 rfl rfl (by decide +kernel) ⟨Nat.le_of_ble_eq_true rfl, Nat.le_of_ble_eq_true rfl⟩) ⟨xb_blind xe_ok, va_recv hK hP (ci := 10) (q0 := 1) rfl rfl, xb_enter xe_ok hK hP hD hS hA hE [1] rfl rfl rfl [] rfl⟩ rfl rfl hl.1 rfl (lv_room (Nat.le_of_ble_eq_true rfl)) dX9_takes_25 ⟨Nat.le_of_ble_eq_true rfl, Nat.le_of_ble_eq_true rfl⟩) hK hP hD hS hA [1] [0, 2] rfl rfl rfl (by decide) (fun r_25 u_25 H locs hw_25 hP hD hK hS => ?_)
  have hP : va_P D vwCl [(r0, .inr (9, [.ref c0, .ref b0, .ref v0, .int 0, .int 0])), (b0, .inr (1, [.ref g.1])), (v0, .inr (10, [.int 1, .int 0]))] H := hP
  have hD : va_D A [(r0, .inr (9, [.ref c0, .ref b0, .ref v0, .int 0, .int 0])), (b0, .inr (1, [.ref g.1])), (v0, .inr (10, [.int 1, .int 0]))] := hD
  have hK : va_K D vwCl [] s := hK
  refine W.widen (k := 0) (n := 0) (by decide) (by decide) ?_
  have hw_25 : r_25 = 0 := hw_25
  subst hw_25
  have hP9 := hP.sub (ws' := [(r0, .inr (9, [.ref c0, .ref b0, .ref v0, .int 0, .int 0])), (b0, .inr (1, [.ref g.1])), (v0, .inr (10, [.int 1, .int 0]))]) [0, 1, 2] rfl
  have hD9 := hD.sub (ws' := [(r0, .inr (9, [.ref c0, .ref b0, .ref v0, .int 0, .int 0])), (b0, .inr (1, [.ref g.1])), (v0, .inr (10, [.int 1, .int 0]))]) [0, 1, 2] rfl rfl
  have hK9 := hK.sub (tys' := []) [] rfl
  exact W.zret (v := 0) hx hb hr (by decide) (fun t ht hW => ⟨⟨0, (), rfl, rfl, by rw [ht]; exact hP9, va_K.moved hW.alike hK9, hD9⟩, hS.F ht⟩) hS.2.2 dX9_takes_28
theorem dX9_takesHead_0 : decode cX9_takesHead 0 = .ok (.aload_n 0, 1) := by decide +kernel
theorem dX9_takesHead_1 : decode cX9_takesHead 1 = .ok (.iconst 4, 1) := by decide +kernel
theorem dX9_takesHead_2 : decode cX9_takesHead 2 = .ok (.invokevirtual 55, 3) := by decide +kernel
theorem dX9_takesHead_5 : decode cX9_takesHead 5 = .ok (.ifCond .ne 5, 3) := by decide +kernel
theorem dX9_takesHead_8 : decode cX9_takesHead 8 = .ok (.iconst 0, 1) := by decide +kernel
theorem dX9_takesHead_9 : decode cX9_takesHead 9 = .ok (.ireturn, 1) := by decide +kernel
set_option maxHeartbeats 4000000 in
set_option maxRecDepth 100000 in
theorem cr_head (l : Launch) (D : va_G) (g : xe_G) (r0 : Nat) (c0 : Nat) (v0 : Nat) (b0 : Nat) (sz : Nat)  : Met l yX9_takesHead (.code yX9_takesHead cX9_takesHead 1 (some .boolean) :: bg) ({ frames := 3, cells := 0, slots := 0, locals := 360 } : Room) (xb_Pre (xe_E g) D vwCl [(r0, .inr (9, [.ref c0, .ref b0, .ref v0, .int 0, .int 0])), (b0, .inr (1, [.ref g.1])), (v0, .inr (10, [.int 0, .int (-1)]))] [] sz [.ref r0]) (va_Qi (fun r _ => r = 0) (xb_B D vwCl (va_A [(r0, .inr (9, [.ref c0, .ref b0, .ref v0, .int 0, .int 0])), (b0, .inr (1, [.ref g.1])), (v0, .inr (10, [.int 0, .int (-1)]))] sz) (fun u : Unit => [(r0, .inr (9, [.ref c0, .ref b0, .ref v0, .int 0, .int 0])), (b0, .inr (1, [.ref g.1])), (v0, .inr (10, [.int 1, .int 0]))]) (fun u : Unit => [])) (va_A [(r0, .inr (9, [.ref c0, .ref b0, .ref v0, .int 0, .int 0])), (b0, .inr (1, [.ref g.1])), (v0, .inr (10, [.int 0, .int (-1)]))] sz)) 0 0 (va_A [(r0, .inr (9, [.ref c0, .ref b0, .ref v0, .int 0, .int 0])), (b0, .inr (1, [.ref g.1])), (v0, .inr (10, [.int 0, .int (-1)]))] sz) := by
  refine Met.ofW (cc := cX9_takesHead) (maxL := 1) (ret := (some .boolean)) (by decide) rfl ?_
  intro p e s m args below meth c s₁ B hml hv
  obtain ⟨rfl, hsz, hP, hK, hD0, hE⟩ := hv
  have hx := B.exec
  have hb := B.bytes
  have hr := B.returns
  have hts := atoms_spec (ws := (.code yX9_takesHead cX9_takesHead 1 (some .boolean) :: bg)) B.pre
  have htb : ∀ w ∈ bg, w.before _ s = true := fun w h => hts w (List.mem_cons_of_mem _ h)
  have hown : s.vm.findClass RX9 = some m.cls := findClass_of_methodNamed B.named
  have hlocks := B.notSynchronized
  subst hsz
  have hD := hD0.self (sz := s.heap.size)
  generalize hAe : va_A [(r0, .inr (9, [.ref c0, .ref b0, .ref v0, .int 0, .int 0])), (b0, .inr (1, [.ref g.1])), (v0, .inr (10, [.int 0, .int (-1)]))] s.heap.size = A at hD hE ⊢
  have hA : ∀ q : Nat, s.heap.size ≤ q → A q := fun q h => by rw [← hAe]; exact Or.inr h
  have hS : va_S A s.heap s.heap [] := va_S.rf
  have hP : va_P D vwCl [(r0, .inr (9, [.ref c0, .ref b0, .ref v0, .int 0, .int 0])), (b0, .inr (1, [.ref g.1])), (v0, .inr (10, [.int 0, .int (-1)]))] s.heap := hP
  have hl := lv_entry ([.ref r0]) (n := 1) (Nat.le_of_ble_eq_true rfl)
  rw [lg_entry_eq]
  generalize (lg_sl ([.ref r0]) ++ List.replicate (1 - (lg_sl ([.ref r0])).length) Slot.unset).toArray = ls at hl ⊢
  have hl : lv_has ls 1 [(0, .ref r0)] := hl
  refine lv_aload_n hx hb dX9_takesHead_0 rfl (lv_at hl 0 rfl) ?_
  refine lv_iconst (v := 4) hx hb dX9_takesHead_1 (by decide) ?_
  refine xb_goi (wr := []) (va_runV (As := [.int 4]) (rest := []) ⟨hx, hb, hml, hown, htb⟩ (cr_takes l D g r0 c0 v0 b0 (Array.size s.heap) ) (bg_V 1 htb bg_285 bg_286 bg_287 bg_52 bg_275 rfl rfl (by decide +kernel) ⟨Nat.le_of_ble_eq_true rfl, Nat.le_of_ble_eq_true rfl⟩) ⟨xb_blind xe_ok, va_recv hK hP (ci := 9) (q0 := 0) rfl rfl, xb_enter xe_ok hK hP hD hS hA hE [0, 1, 2] rfl rfl rfl [] rfl⟩ rfl rfl hl.1 rfl (lv_room (Nat.le_of_ble_eq_true rfl)) dX9_takesHead_2 ⟨Nat.le_of_ble_eq_true rfl, Nat.le_of_ble_eq_true rfl⟩) hK hP hD hS hA [0, 1, 2] [] rfl rfl rfl (by decide) (fun r_2 u_2 H locs hw_2 hP hD hK hS => ?_)
  have hP : va_P D vwCl [(r0, .inr (9, [.ref c0, .ref b0, .ref v0, .int 0, .int 0])), (b0, .inr (1, [.ref g.1])), (v0, .inr (10, [.int 1, .int 0]))] H := hP
  have hD : va_D A [(r0, .inr (9, [.ref c0, .ref b0, .ref v0, .int 0, .int 0])), (b0, .inr (1, [.ref g.1])), (v0, .inr (10, [.int 1, .int 0]))] := hD
  have hK : va_K D vwCl [] s := hK
  refine W.widen (k := 0) (n := 0) (by decide) (by decide) ?_
  have hw_2 : r_2 = 0 := hw_2
  subst hw_2
  refine lv_if_ne (tgt := 10) hx hb dX9_takesHead_5 (by decide) (fun c_5 => ?_) (fun c_5 => ?_)
  · exact absurd (by decide) c_5
  refine lv_iconst (v := 0) hx hb dX9_takesHead_8 (by decide) ?_
  have hP9 := hP.sub (ws' := [(r0, .inr (9, [.ref c0, .ref b0, .ref v0, .int 0, .int 0])), (b0, .inr (1, [.ref g.1])), (v0, .inr (10, [.int 1, .int 0]))]) [0, 1, 2] rfl
  have hD9 := hD.sub (ws' := [(r0, .inr (9, [.ref c0, .ref b0, .ref v0, .int 0, .int 0])), (b0, .inr (1, [.ref g.1])), (v0, .inr (10, [.int 1, .int 0]))]) [0, 1, 2] rfl rfl
  have hK9 := hK.sub (tys' := []) [] rfl
  exact W.zret (v := 0) hx hb hr (by decide) (fun t ht hW => ⟨⟨0, (), rfl, rfl, by rw [ht]; exact hP9, va_K.moved hW.alike hK9, hD9⟩, hS.F ht⟩) hS.2.2 dX9_takesHead_9
theorem dX11_isWhole_0 : decode cX11_isWhole 0 = .ok (.new 79, 3) := by decide +kernel
theorem dX11_isWhole_3 : decode cX11_isWhole 3 = .ok (.dup, 1) := by decide +kernel
theorem dX11_isWhole_4 : decode cX11_isWhole 4 = .ok (.aload_n 0, 1) := by decide +kernel
theorem dX11_isWhole_5 : decode cX11_isWhole 5 = .ok (.aload_n 1, 1) := by decide +kernel
theorem dX11_isWhole_6 : decode cX11_isWhole 6 = .ok (.invokespecial 81, 3) := by decide +kernel
theorem dX11_isWhole_9 : decode cX11_isWhole 9 = .ok (.astore_n 2, 1) := by decide +kernel
theorem dX11_isWhole_10 : decode cX11_isWhole 10 = .ok (.aload_n 2, 1) := by decide +kernel
theorem dX11_isWhole_11 : decode cX11_isWhole 11 = .ok (.invokevirtual 84, 3) := by decide +kernel
theorem dX11_isWhole_14 : decode cX11_isWhole 14 = .ok (.ifCond .eq 42, 3) := by decide +kernel
theorem dX11_isWhole_56 : decode cX11_isWhole 56 = .ok (.iconst 0, 1) := by decide +kernel
theorem dX11_isWhole_57 : decode cX11_isWhole 57 = .ok (.ireturn, 1) := by decide +kernel
set_option maxHeartbeats 4000000 in
set_option maxRecDepth 100000 in
theorem cg_whole (l : Launch) (D : va_G) (g : xe_G) (c0 : Nat) (v0 : Nat) (b0 : Nat) (p0 : Nat) (f0 : Nat) (m0 : Nat) (sz : Nat)  : Met l yX11_isWhole (.code yX11_isWhole cX11_isWhole 3 (some .boolean) :: bg) ({ frames := 4, cells := 1, slots := 5, locals := 480 } : Room) (xb_Pre (xe_E g) D vwCl [(c0, .inr (3, [.ref b0, .ref p0, .int 0, .int 0, .int 0, .int 0, .ref f0, .ref m0, .int 0, .int 0, .int 0, .int 0, .int 0, .int 0, .int 0, .int 0, .int (-1)])), (b0, .inr (1, [.ref g.1])), (v0, .inr (10, [.int 0, .int (-1)]))] [] sz [.ref c0, .ref v0]) (va_Qi (fun r _ => r = 0) (xb_B D vwCl (va_A [(c0, .inr (3, [.ref b0, .ref p0, .int 0, .int 0, .int 0, .int 0, .ref f0, .ref m0, .int 0, .int 0, .int 0, .int 0, .int 0, .int 0, .int 0, .int 0, .int (-1)])), (b0, .inr (1, [.ref g.1])), (v0, .inr (10, [.int 0, .int (-1)]))] sz) (fun u : Unit => [(c0, .inr (3, [.ref b0, .ref p0, .int 0, .int 0, .int 0, .int 0, .ref f0, .ref m0, .int 0, .int 0, .int 0, .int 0, .int 0, .int 0, .int 0, .int 0, .int (-1)])), (b0, .inr (1, [.ref g.1])), (v0, .inr (10, [.int 1, .int 0]))]) (fun u : Unit => [])) (va_A [(c0, .inr (3, [.ref b0, .ref p0, .int 0, .int 0, .int 0, .int 0, .ref f0, .ref m0, .int 0, .int 0, .int 0, .int 0, .int 0, .int 0, .int 0, .int 0, .int (-1)])), (b0, .inr (1, [.ref g.1])), (v0, .inr (10, [.int 0, .int (-1)]))] sz)) 1 5 (va_A [(c0, .inr (3, [.ref b0, .ref p0, .int 0, .int 0, .int 0, .int 0, .ref f0, .ref m0, .int 0, .int 0, .int 0, .int 0, .int 0, .int 0, .int 0, .int 0, .int (-1)])), (b0, .inr (1, [.ref g.1])), (v0, .inr (10, [.int 0, .int (-1)]))] sz) := by
  refine Met.ofW (cc := cX11_isWhole) (maxL := 3) (ret := (some .boolean)) (by decide) rfl ?_
  intro p e s m args below meth c s₁ B hml hv
  obtain ⟨rfl, hsz, hP, hK, hD0, hE⟩ := hv
  have hx := B.exec
  have hb := B.bytes
  have hr := B.returns
  have hts := atoms_spec (ws := (.code yX11_isWhole cX11_isWhole 3 (some .boolean) :: bg)) B.pre
  have htb : ∀ w ∈ bg, w.before _ s = true := fun w h => hts w (List.mem_cons_of_mem _ h)
  have hown : s.vm.findClass RX11 = some m.cls := findClass_of_methodNamed B.named
  have hlocks := B.notSynchronized
  subst hsz
  have hD := hD0.self (sz := s.heap.size)
  generalize hAe : va_A [(c0, .inr (3, [.ref b0, .ref p0, .int 0, .int 0, .int 0, .int 0, .ref f0, .ref m0, .int 0, .int 0, .int 0, .int 0, .int 0, .int 0, .int 0, .int 0, .int (-1)])), (b0, .inr (1, [.ref g.1])), (v0, .inr (10, [.int 0, .int (-1)]))] s.heap.size = A at hD hE ⊢
  have hA : ∀ q : Nat, s.heap.size ≤ q → A q := fun q h => by rw [← hAe]; exact Or.inr h
  have hS : va_S A s.heap s.heap [] := va_S.rf
  have hP : va_P D vwCl [(c0, .inr (3, [.ref b0, .ref p0, .int 0, .int 0, .int 0, .int 0, .ref f0, .ref m0, .int 0, .int 0, .int 0, .int 0, .int 0, .int 0, .int 0, .int 0, .int (-1)])), (b0, .inr (1, [.ref g.1])), (v0, .inr (10, [.int 0, .int (-1)]))] s.heap := hP
  have hl := lv_entry ([.ref c0, .ref v0]) (n := 3) (Nat.le_of_ble_eq_true rfl)
  rw [lg_entry_eq]
  generalize (lg_sl ([.ref c0, .ref v0]) ++ List.replicate (3 - (lg_sl ([.ref c0, .ref v0])).length) Slot.unset).toArray = ls at hl ⊢
  have hl : lv_has ls 3 [(0, .ref c0), (1, .ref v0)] := hl
  refine va_new (ci := 9) (fs := [.null, .null, .null, .int 0, .int 0]) (C := RX9) (T := TX9) (N := 5) hx hb htb bi_X9 tyX9 tyX9_ok hown (htb _ bg_51) (htb _ bg_53) (htb _ bg_52) hK hP hD hS hA rfl (by decide +kernel) (Nat.le_of_ble_eq_true rfl) (Nat.le_of_ble_eq_true rfl) dX11_isWhole_0 (fun q0 H hP hD hS => ?_)
  have hP : va_P D vwCl [(c0, .inr (3, [.ref b0, .ref p0, .int 0, .int 0, .int 0, .int 0, .ref f0, .ref m0, .int 0, .int 0, .int 0, .int 0, .int 0, .int 0, .int 0, .int 0, .int (-1)])), (b0, .inr (1, [.ref g.1])), (v0, .inr (10, [.int 0, .int (-1)])), (q0, .inr (9, [.null, .null, .null, .int 0, .int 0]))] H := hP
  have hD : va_D A [(c0, .inr (3, [.ref b0, .ref p0, .int 0, .int 0, .int 0, .int 0, .ref f0, .ref m0, .int 0, .int 0, .int 0, .int 0, .int 0, .int 0, .int 0, .int 0, .int (-1)])), (b0, .inr (1, [.ref g.1])), (v0, .inr (10, [.int 0, .int (-1)])), (q0, .inr (9, [.null, .null, .null, .int 0, .int 0]))] := hD
  refine W.widen (k := 1) (n := 5) (by decide) (by decide) ?_
  refine lv_dup hx hb dX11_isWhole_3 rfl ?_
  refine lv_aload_n hx hb dX11_isWhole_4 rfl (lv_at hl 0 rfl) ?_
  refine lv_aload_n hx hb dX11_isWhole_5 rfl (lv_at hl 1 rfl) ?_
  refine xb_gov (wr := [(b0, .inr (1, [.ref g.1])), (v0, .inr (10, [.int 0, .int (-1)]))]) (va_runI (As := [.ref c0, .ref v0]) (rest := [.ref q0]) ⟨hx, hb, hml, hown, htb⟩ (cr_init l D g q0 c0 v0 b0 p0 f0 m0 (Array.size H) ) (bg_I 2 htb bg_54 bg_56 bg_52 bg_55 rfl rfl (by decide +kernel) ⟨Nat.le_of_ble_eq_true rfl, Nat.le_of_ble_eq_true rfl⟩) ⟨xb_blind xe_ok, xb_enter xe_ok hK hP hD hS hA hE [3, 0] rfl rfl rfl [] rfl⟩ rfl rfl hl.1 rfl (lv_room (Nat.le_of_ble_eq_true rfl)) dX11_isWhole_6 ⟨Nat.le_of_ble_eq_true rfl, Nat.le_of_ble_eq_true rfl⟩) hK hP hD hS hA [3, 0] [1, 2] rfl rfl rfl (by decide) (fun u_6 H locs hw_6 hP hD hK hS => ?_)
  have hP : va_P D vwCl [(b0, .inr (1, [.ref g.1])), (v0, .inr (10, [.int 0, .int (-1)])), (q0, .inr (9, [.ref c0, .ref b0, .ref v0, .int 0, .int 0])), (c0, .inr (3, [.ref b0, .ref p0, .int 0, .int 0, .int 0, .int 0, .ref f0, .ref m0, .int 0, .int 0, .int 0, .int 0, .int 0, .int 0, .int 0, .int 0, .int (-1)]))] H := hP
  have hD : va_D A [(b0, .inr (1, [.ref g.1])), (v0, .inr (10, [.int 0, .int (-1)])), (q0, .inr (9, [.ref c0, .ref b0, .ref v0, .int 0, .int 0])), (c0, .inr (3, [.ref b0, .ref p0, .int 0, .int 0, .int 0, .int 0, .ref f0, .ref m0, .int 0, .int 0, .int 0, .int 0, .int 0, .int 0, .int 0, .int 0, .int (-1)]))] := hD
  have hK : va_K D vwCl [] s := hK
  refine W.widen (k := 1) (n := 5) (by decide) (by decide) ?_
  refine lv_astore_n (lv' := [(2, .ref q0), (0, .ref c0), (1, .ref v0)]) hx hb dX11_isWhole_9 rfl hl (by decide) rfl (fun ls hl => ?_)
  refine lv_aload_n hx hb dX11_isWhole_10 rfl (lv_at hl 0 rfl) ?_
  refine xb_goi (wr := [(c0, .inr (3, [.ref b0, .ref p0, .int 0, .int 0, .int 0, .int 0, .ref f0, .ref m0, .int 0, .int 0, .int 0, .int 0, .int 0, .int 0, .int 0, .int 0, .int (-1)]))]) (va_runV (As := []) (rest := []) ⟨hx, hb, hml, hown, htb⟩ (cr_head l D g q0 c0 v0 b0 (Array.size H) ) (bg_V 0 htb bg_57 bg_59 bg_60 bg_52 bg_58 rfl rfl (by decide +kernel) ⟨Nat.le_of_ble_eq_true rfl, Nat.le_of_ble_eq_true rfl⟩) ⟨xb_blind xe_ok, va_recv hK hP (ci := 9) (q0 := 2) rfl rfl, xb_enter xe_ok hK hP hD hS hA hE [2, 0, 1] rfl rfl rfl [] rfl⟩ rfl rfl hl.1 rfl (lv_room (Nat.le_of_ble_eq_true rfl)) dX11_isWhole_11 ⟨Nat.le_of_ble_eq_true rfl, Nat.le_of_ble_eq_true rfl⟩) hK hP hD hS hA [2, 0, 1] [3] rfl rfl rfl (by decide) (fun r_11 u_11 H locs hw_11 hP hD hK hS => ?_)
  have hP : va_P D vwCl [(c0, .inr (3, [.ref b0, .ref p0, .int 0, .int 0, .int 0, .int 0, .ref f0, .ref m0, .int 0, .int 0, .int 0, .int 0, .int 0, .int 0, .int 0, .int 0, .int (-1)])), (q0, .inr (9, [.ref c0, .ref b0, .ref v0, .int 0, .int 0])), (b0, .inr (1, [.ref g.1])), (v0, .inr (10, [.int 1, .int 0]))] H := hP
  have hD : va_D A [(c0, .inr (3, [.ref b0, .ref p0, .int 0, .int 0, .int 0, .int 0, .ref f0, .ref m0, .int 0, .int 0, .int 0, .int 0, .int 0, .int 0, .int 0, .int 0, .int (-1)])), (q0, .inr (9, [.ref c0, .ref b0, .ref v0, .int 0, .int 0])), (b0, .inr (1, [.ref g.1])), (v0, .inr (10, [.int 1, .int 0]))] := hD
  have hK : va_K D vwCl [] s := hK
  refine W.widen (k := 1) (n := 5) (by decide) (by decide) ?_
  have hw_11 : r_11 = 0 := hw_11
  subst hw_11
  refine lv_if_eq (tgt := 56) hx hb dX11_isWhole_14 (by decide) (fun c_14 => ?_) (fun c_14 => ?_)
  rotate_left
  · exact absurd (by decide) c_14
  refine lv_iconst (v := 0) hx hb dX11_isWhole_56 (by decide) ?_
  have hP9 := hP.sub (ws' := [(c0, .inr (3, [.ref b0, .ref p0, .int 0, .int 0, .int 0, .int 0, .ref f0, .ref m0, .int 0, .int 0, .int 0, .int 0, .int 0, .int 0, .int 0, .int 0, .int (-1)])), (b0, .inr (1, [.ref g.1])), (v0, .inr (10, [.int 1, .int 0]))]) [0, 2, 3] rfl
  have hD9 := hD.sub (ws' := [(c0, .inr (3, [.ref b0, .ref p0, .int 0, .int 0, .int 0, .int 0, .ref f0, .ref m0, .int 0, .int 0, .int 0, .int 0, .int 0, .int 0, .int 0, .int 0, .int (-1)])), (b0, .inr (1, [.ref g.1])), (v0, .inr (10, [.int 1, .int 0]))]) [0, 2, 3] rfl rfl
  have hK9 := hK.sub (tys' := []) [] rfl
  exact W.zret (v := 0) hx hb hr (by decide) (fun t ht hW => ⟨⟨0, (), rfl, rfl, by rw [ht]; exact hP9, va_K.moved hW.alike hK9, hD9⟩, hS.F ht⟩) hS.2.2 dX11_isWhole_57
theorem dX11_read_0 : decode cX11_read 0 = .ok (.new 49, 3) := by decide +kernel
theorem dX11_read_3 : decode cX11_read 3 = .ok (.dup, 1) := by decide +kernel
theorem dX11_read_4 : decode cX11_read 4 = .ok (.new 51, 3) := by decide +kernel
theorem dX11_read_7 : decode cX11_read 7 = .ok (.dup, 1) := by decide +kernel
theorem dX11_read_8 : decode cX11_read 8 = .ok (.aload_n 0, 1) := by decide +kernel
theorem dX11_read_9 : decode cX11_read 9 = .ok (.getfield 16, 3) := by decide +kernel
theorem dX11_read_12 : decode cX11_read 12 = .ok (.invokespecial 53, 3) := by decide +kernel
theorem dX11_read_15 : decode cX11_read 15 = .ok (.invokespecial 56, 3) := by decide +kernel
theorem dX11_read_18 : decode cX11_read 18 = .ok (.astore_n 1, 1) := by decide +kernel
theorem dX11_read_19 : decode cX11_read 19 = .ok (.new 59, 3) := by decide +kernel
theorem dX11_read_22 : decode cX11_read 22 = .ok (.dup, 1) := by decide +kernel
theorem dX11_read_23 : decode cX11_read 23 = .ok (.invokespecial 61, 3) := by decide +kernel
theorem dX11_read_26 : decode cX11_read 26 = .ok (.astore_n 2, 1) := by decide +kernel
theorem dX11_read_27 : decode cX11_read 27 = .ok (.aload_n 0, 1) := by decide +kernel
theorem dX11_read_28 : decode cX11_read 28 = .ok (.getstatic 13, 3) := by decide +kernel
theorem dX11_read_31 : decode cX11_read 31 = .ok (.putfield 16, 3) := by decide +kernel
theorem dX11_read_34 : decode cX11_read 34 = .ok (.aload_n 1, 1) := by decide +kernel
theorem dX11_read_35 : decode cX11_read 35 = .ok (.aload_n 2, 1) := by decide +kernel
theorem dX11_read_36 : decode cX11_read 36 = .ok (.invokestatic 62, 3) := by decide +kernel
theorem dX11_read_39 : decode cX11_read 39 = .ok (.ifCond .eq 16, 3) := by decide +kernel
theorem dX11_read_55 : decode cX11_read 55 = .ok (.aload_n 0, 1) := by decide +kernel
theorem dX11_read_56 : decode cX11_read 56 = .ok (.aload_n 2, 1) := by decide +kernel
theorem dX11_read_57 : decode cX11_read 57 = .ok (.getfield 73, 3) := by decide +kernel
theorem dX11_read_60 : decode cX11_read 60 = .ok (.putfield 19, 3) := by decide +kernel
theorem dX11_read_63 : decode cX11_read 63 = .ok (.aload_n 2, 1) := by decide +kernel
theorem dX11_read_64 : decode cX11_read 64 = .ok (.getfield 76, 3) := by decide +kernel
theorem dX11_read_67 : decode cX11_read 67 = .ok (.ireturn, 1) := by decide +kernel
set_option maxHeartbeats 4000000 in
set_option maxRecDepth 100000 in
theorem cg_read (l : Launch) (D : va_G) (g : xe_G) (h0 : Nat) (qc : Nat) (n : Int32) (wp : Int32) (sz : Nat)  : Met l yX11_read (.code yX11_read cX11_read 3 (some .int) :: bg) ({ frames := 6, cells := 13, slots := 33, locals := 720 } : Room) (xb_Pre (xe_E g) D vwCl [(h0, .inr (11, [.ref qc, .int n, .ref g.1, .null, .int wp]))] [] sz [.ref h0]) (va_Qi (fun r _ => r = 1) (xb_B D vwCl (va_A [(h0, .inr (11, [.ref qc, .int n, .ref g.1, .null, .int wp]))] sz) (fun u : Unit => [(h0, .inr (11, [.ref qc, .int n, .ref g.1, .null, .int 0]))]) (fun u : Unit => [])) (va_A [(h0, .inr (11, [.ref qc, .int n, .ref g.1, .null, .int wp]))] sz)) 13 33 (va_A [(h0, .inr (11, [.ref qc, .int n, .ref g.1, .null, .int wp]))] sz) := by
  refine Met.ofW (cc := cX11_read) (maxL := 3) (ret := (some .int)) (by decide) rfl ?_
  intro p e s m args below meth c s₁ B hml hv
  obtain ⟨rfl, hsz, hP, hK, hD0, hE⟩ := hv
  have hx := B.exec
  have hb := B.bytes
  have hr := B.returns
  have hts := atoms_spec (ws := (.code yX11_read cX11_read 3 (some .int) :: bg)) B.pre
  have htb : ∀ w ∈ bg, w.before _ s = true := fun w h => hts w (List.mem_cons_of_mem _ h)
  have hown : s.vm.findClass RX11 = some m.cls := findClass_of_methodNamed B.named
  have hlocks := B.notSynchronized
  subst hsz
  have hD := hD0.self (sz := s.heap.size)
  generalize hAe : va_A [(h0, .inr (11, [.ref qc, .int n, .ref g.1, .null, .int wp]))] s.heap.size = A at hD hE ⊢
  have hA : ∀ q : Nat, s.heap.size ≤ q → A q := fun q h => by rw [← hAe]; exact Or.inr h
  have hS : va_S A s.heap s.heap [] := va_S.rf
  have hP : va_P D vwCl [(h0, .inr (11, [.ref qc, .int n, .ref g.1, .null, .int wp]))] s.heap := hP
  have hl := lv_entry ([.ref h0]) (n := 3) (Nat.le_of_ble_eq_true rfl)
  rw [lg_entry_eq]
  generalize (lg_sl ([.ref h0]) ++ List.replicate (3 - (lg_sl ([.ref h0])).length) Slot.unset).toArray = ls at hl ⊢
  have hl : lv_has ls 3 [(0, .ref h0)] := hl
  refine va_new (ci := 3) (fs := [.null, .null, .int 0, .int 0, .int 0, .int 0, .null, .null, .int 0, .int 0, .int 0, .int 0, .int 0, .int 0, .int 0, .int 0, .int 0]) (C := RX3) (T := TX3) (N := 17) hx hb htb bi_X3 tyX3 tyX3_ok hown (htb _ bg_27) (htb _ bg_29) (htb _ bg_28) hK hP hD hS hA rfl (by decide +kernel) (Nat.le_of_ble_eq_true rfl) (Nat.le_of_ble_eq_true rfl) dX11_read_0 (fun q0 H hP hD hS => ?_)
  have hP : va_P D vwCl [(h0, .inr (11, [.ref qc, .int n, .ref g.1, .null, .int wp])), (q0, .inr (3, [.null, .null, .int 0, .int 0, .int 0, .int 0, .null, .null, .int 0, .int 0, .int 0, .int 0, .int 0, .int 0, .int 0, .int 0, .int 0]))] H := hP
  have hD : va_D A [(h0, .inr (11, [.ref qc, .int n, .ref g.1, .null, .int wp])), (q0, .inr (3, [.null, .null, .int 0, .int 0, .int 0, .int 0, .null, .null, .int 0, .int 0, .int 0, .int 0, .int 0, .int 0, .int 0, .int 0, .int 0]))] := hD
  refine W.widen (k := 1) (n := 17) (by decide) (by decide) ?_
  refine lv_dup hx hb dX11_read_3 rfl ?_
  refine va_new (ci := 1) (fs := [.null]) (C := RX1) (T := TX1) (N := 1) hx hb htb bi_X1 tyX1 tyX1_ok hown (htb _ bg_30) (htb _ bg_32) (htb _ bg_31) hK hP hD hS hA rfl (by decide +kernel) (Nat.le_of_ble_eq_true rfl) (Nat.le_of_ble_eq_true rfl) dX11_read_4 (fun q4 H hP hD hS => ?_)
  have hP : va_P D vwCl [(h0, .inr (11, [.ref qc, .int n, .ref g.1, .null, .int wp])), (q0, .inr (3, [.null, .null, .int 0, .int 0, .int 0, .int 0, .null, .null, .int 0, .int 0, .int 0, .int 0, .int 0, .int 0, .int 0, .int 0, .int 0])), (q4, .inr (1, [.null]))] H := hP
  have hD : va_D A [(h0, .inr (11, [.ref qc, .int n, .ref g.1, .null, .int wp])), (q0, .inr (3, [.null, .null, .int 0, .int 0, .int 0, .int 0, .null, .null, .int 0, .int 0, .int 0, .int 0, .int 0, .int 0, .int 0, .int 0, .int 0])), (q4, .inr (1, [.null]))] := hD
  refine W.widen (k := 2) (n := 18) (by decide) (by decide) ?_
  refine lv_dup hx hb dX11_read_7 rfl ?_
  refine lv_aload_n hx hb dX11_read_8 rfl (lv_at hl 0 rfl) ?_
  refine va_get (D := D) (ci := 11) (v := .ref g.1) (C := RX11) (T := TX11) (N := 5) hx hb htb bi_X11 hown hK hP 0 rfl rfl 2 (by decide) (htb _ bg_7) (fun _ h9 => h9) rfl dX11_read_9 ?_
  refine xb_gov (wr := [(h0, .inr (11, [.ref qc, .int n, .ref g.1, .null, .int wp])), (q0, .inr (3, [.null, .null, .int 0, .int 0, .int 0, .int 0, .null, .null, .int 0, .int 0, .int 0, .int 0, .int 0, .int 0, .int 0, .int 0, .int 0]))]) (va_runI (As := [.ref g.1]) (rest := [.ref q4, .ref q0, .ref q0]) ⟨hx, hb, hml, hown, htb⟩ (cb_init l D g q4 g.1 (Array.size H) ) (bg_I 1 htb bg_33 bg_35 bg_31 bg_34 rfl rfl (by decide +kernel) ⟨Nat.le_of_ble_eq_true rfl, Nat.le_of_ble_eq_true rfl⟩) ⟨xb_blind xe_ok, xb_enter xe_ok hK hP hD hS hA hE [2] rfl rfl rfl [] rfl⟩ rfl rfl hl.1 rfl (lv_room (Nat.le_of_ble_eq_true rfl)) dX11_read_12 ⟨Nat.le_of_ble_eq_true rfl, Nat.le_of_ble_eq_true rfl⟩) hK hP hD hS hA [2] [0, 1] rfl rfl rfl (by decide) (fun u_12 H locs hw_12 hP hD hK hS => ?_)
  have hP : va_P D vwCl [(h0, .inr (11, [.ref qc, .int n, .ref g.1, .null, .int wp])), (q0, .inr (3, [.null, .null, .int 0, .int 0, .int 0, .int 0, .null, .null, .int 0, .int 0, .int 0, .int 0, .int 0, .int 0, .int 0, .int 0, .int 0])), (q4, .inr (1, [.ref g.1]))] H := hP
  have hD : va_D A [(h0, .inr (11, [.ref qc, .int n, .ref g.1, .null, .int wp])), (q0, .inr (3, [.null, .null, .int 0, .int 0, .int 0, .int 0, .null, .null, .int 0, .int 0, .int 0, .int 0, .int 0, .int 0, .int 0, .int 0, .int 0])), (q4, .inr (1, [.ref g.1]))] := hD
  have hK : va_K D vwCl [] s := hK
  refine W.widen (k := 2) (n := 18) (by decide) (by decide) ?_
  refine xb_gov (wr := [(h0, .inr (11, [.ref qc, .int n, .ref g.1, .null, .int wp])), (q4, .inr (1, [.ref g.1]))]) (va_runI (As := [.ref q4]) (rest := [.ref q0]) ⟨hx, hb, hml, hown, htb⟩ (cc_init l D g q0 q4 (Array.size H) ) (bg_I 1 htb bg_36 bg_38 bg_28 bg_37 rfl rfl (by decide +kernel) ⟨Nat.le_of_ble_eq_true rfl, Nat.le_of_ble_eq_true rfl⟩) ⟨xb_blind xe_ok, xb_enter xe_ok hK hP hD hS hA hE [1] rfl rfl rfl [] rfl⟩ rfl rfl hl.1 rfl (lv_room (Nat.le_of_ble_eq_true rfl)) dX11_read_15 ⟨Nat.le_of_ble_eq_true rfl, Nat.le_of_ble_eq_true rfl⟩) hK hP hD hS hA [1] [0, 2] rfl rfl rfl (by decide) (fun u_15 H locs hw_15 hP hD hK hS => ?_)
  obtain ⟨p0, f0, m0⟩ := u_15
  have hP : va_P D vwCl [(h0, .inr (11, [.ref qc, .int n, .ref g.1, .null, .int wp])), (q4, .inr (1, [.ref g.1])), (q0, .inr (3, [.ref q4, .ref p0, .int 0, .int 0, .int 0, .int 0, .ref f0, .ref m0, .int 0, .int 0, .int 0, .int 0, .int 0, .int 0, .int 0, .int 0, .int (-1)]))] H := hP
  have hD : va_D A [(h0, .inr (11, [.ref qc, .int n, .ref g.1, .null, .int wp])), (q4, .inr (1, [.ref g.1])), (q0, .inr (3, [.ref q4, .ref p0, .int 0, .int 0, .int 0, .int 0, .ref f0, .ref m0, .int 0, .int 0, .int 0, .int 0, .int 0, .int 0, .int 0, .int 0, .int (-1)]))] := hD
  have hK : va_K D vwCl [] s := hK
  refine W.widen (k := 11) (n := 26) (by decide) (by decide) ?_
  refine lv_astore_n (lv' := [(1, .ref q0), (0, .ref h0)]) hx hb dX11_read_18 rfl hl (by decide) rfl (fun ls hl => ?_)
  refine va_new (ci := 10) (fs := [.int 0, .int 0]) (C := RX10) (T := TX10) (N := 2) hx hb htb bi_X10 tyX10 tyX10_ok hown (htb _ bg_39) (htb _ bg_41) (htb _ bg_40) hK hP hD hS hA rfl (by decide +kernel) (Nat.le_of_ble_eq_true rfl) (Nat.le_of_ble_eq_true rfl) dX11_read_19 (fun q19 H hP hD hS => ?_)
  have hP : va_P D vwCl [(h0, .inr (11, [.ref qc, .int n, .ref g.1, .null, .int wp])), (q4, .inr (1, [.ref g.1])), (q0, .inr (3, [.ref q4, .ref p0, .int 0, .int 0, .int 0, .int 0, .ref f0, .ref m0, .int 0, .int 0, .int 0, .int 0, .int 0, .int 0, .int 0, .int 0, .int (-1)])), (q19, .inr (10, [.int 0, .int 0]))] H := hP
  have hD : va_D A [(h0, .inr (11, [.ref qc, .int n, .ref g.1, .null, .int wp])), (q4, .inr (1, [.ref g.1])), (q0, .inr (3, [.ref q4, .ref p0, .int 0, .int 0, .int 0, .int 0, .ref f0, .ref m0, .int 0, .int 0, .int 0, .int 0, .int 0, .int 0, .int 0, .int 0, .int (-1)])), (q19, .inr (10, [.int 0, .int 0]))] := hD
  refine W.widen (k := 12) (n := 28) (by decide) (by decide) ?_
  refine lv_dup hx hb dX11_read_22 rfl ?_
  refine xb_gov (wr := [(h0, .inr (11, [.ref qc, .int n, .ref g.1, .null, .int wp])), (q4, .inr (1, [.ref g.1])), (q0, .inr (3, [.ref q4, .ref p0, .int 0, .int 0, .int 0, .int 0, .ref f0, .ref m0, .int 0, .int 0, .int 0, .int 0, .int 0, .int 0, .int 0, .int 0, .int (-1)]))]) (va_runI (As := []) (rest := [.ref q19]) ⟨hx, hb, hml, hown, htb⟩ (cv_init l D g q19 (Array.size H) ) (bg_I 0 htb bg_42 bg_44 bg_40 bg_43 rfl rfl (by decide +kernel) ⟨Nat.le_of_ble_eq_true rfl, Nat.le_of_ble_eq_true rfl⟩) ⟨xb_blind xe_ok, xb_enter xe_ok hK hP hD hS hA hE [3] rfl rfl rfl [] rfl⟩ rfl rfl hl.1 rfl (lv_room (Nat.le_of_ble_eq_true rfl)) dX11_read_23 ⟨Nat.le_of_ble_eq_true rfl, Nat.le_of_ble_eq_true rfl⟩) hK hP hD hS hA [3] [0, 1, 2] rfl rfl rfl (by decide) (fun u_23 H locs hw_23 hP hD hK hS => ?_)
  have hP : va_P D vwCl [(h0, .inr (11, [.ref qc, .int n, .ref g.1, .null, .int wp])), (q4, .inr (1, [.ref g.1])), (q0, .inr (3, [.ref q4, .ref p0, .int 0, .int 0, .int 0, .int 0, .ref f0, .ref m0, .int 0, .int 0, .int 0, .int 0, .int 0, .int 0, .int 0, .int 0, .int (-1)])), (q19, .inr (10, [.int 0, .int (-1)]))] H := hP
  have hD : va_D A [(h0, .inr (11, [.ref qc, .int n, .ref g.1, .null, .int wp])), (q4, .inr (1, [.ref g.1])), (q0, .inr (3, [.ref q4, .ref p0, .int 0, .int 0, .int 0, .int 0, .ref f0, .ref m0, .int 0, .int 0, .int 0, .int 0, .int 0, .int 0, .int 0, .int 0, .int (-1)])), (q19, .inr (10, [.int 0, .int (-1)]))] := hD
  have hK : va_K D vwCl [] s := hK
  refine W.widen (k := 12) (n := 28) (by decide) (by decide) ?_
  refine lv_astore_n (lv' := [(2, .ref q19), (1, .ref q0), (0, .ref h0)]) hx hb dX11_read_26 rfl hl (by decide) rfl (fun ls hl => ?_)
  refine lv_aload_n hx hb dX11_read_27 rfl (lv_at hl 2 rfl) ?_
  refine va_gets hx hb (hE.1) hS hown (htb _ bg_6) (fun _ h9 => h9) dX11_read_28 ?_
  refine va_put (D := D) (ci := 11) (v := .ref g.1) (ty := tyX11 2) (C := RX11) (T := TX11) (N := 5) hx hb htb bi_X11 tyX11 tyX11_ok nmX11 hown hK hP hD hS 0 rfl rfl 2 (by decide) (htb _ bg_7) (fun _ h9 => h9) rfl (tyX11_ok 2 (by decide)) rfl rfl (Nat.le_of_ble_eq_true rfl) dX11_read_31 (fun H locs hP hD hS => ?_)
  have hP : va_P D vwCl [(h0, .inr (11, [.ref qc, .int n, .ref g.1, .null, .int wp])), (q4, .inr (1, [.ref g.1])), (q0, .inr (3, [.ref q4, .ref p0, .int 0, .int 0, .int 0, .int 0, .ref f0, .ref m0, .int 0, .int 0, .int 0, .int 0, .int 0, .int 0, .int 0, .int 0, .int (-1)])), (q19, .inr (10, [.int 0, .int (-1)]))] H := hP
  have hD : va_D A [(h0, .inr (11, [.ref qc, .int n, .ref g.1, .null, .int wp])), (q4, .inr (1, [.ref g.1])), (q0, .inr (3, [.ref q4, .ref p0, .int 0, .int 0, .int 0, .int 0, .ref f0, .ref m0, .int 0, .int 0, .int 0, .int 0, .int 0, .int 0, .int 0, .int 0, .int (-1)])), (q19, .inr (10, [.int 0, .int (-1)]))] := hD
  refine lv_aload_n hx hb dX11_read_34 rfl (lv_at hl 1 rfl) ?_
  refine lv_aload_n hx hb dX11_read_35 rfl (lv_at hl 0 rfl) ?_
  refine xb_goi (wr := [(h0, .inr (11, [.ref qc, .int n, .ref g.1, .null, .int wp]))]) (va_runS (As := [.ref q0, .ref q19]) (rest := []) ⟨hx, hb, hml, hown, htb⟩ (cg_whole l D g q0 q19 q4 p0 f0 m0 (Array.size H) ) (bg_S 2 htb bg_45 bg_47 bg_18 bg_46 rfl rfl (by decide +kernel) ⟨Nat.le_of_ble_eq_true rfl, Nat.le_of_ble_eq_true rfl⟩) ⟨xb_blind xe_ok, xb_enter xe_ok hK hP hD hS hA hE [2, 1, 3] rfl rfl rfl [] rfl⟩ rfl rfl hl.1 rfl (lv_room (Nat.le_of_ble_eq_true rfl)) dX11_read_36 ⟨Nat.le_of_ble_eq_true rfl, Nat.le_of_ble_eq_true rfl⟩) hK hP hD hS hA [2, 1, 3] [0] rfl rfl rfl (by decide) (fun r_36 u_36 H locs hw_36 hP hD hK hS => ?_)
  have hP : va_P D vwCl [(h0, .inr (11, [.ref qc, .int n, .ref g.1, .null, .int wp])), (q0, .inr (3, [.ref q4, .ref p0, .int 0, .int 0, .int 0, .int 0, .ref f0, .ref m0, .int 0, .int 0, .int 0, .int 0, .int 0, .int 0, .int 0, .int 0, .int (-1)])), (q4, .inr (1, [.ref g.1])), (q19, .inr (10, [.int 1, .int 0]))] H := hP
  have hD : va_D A [(h0, .inr (11, [.ref qc, .int n, .ref g.1, .null, .int wp])), (q0, .inr (3, [.ref q4, .ref p0, .int 0, .int 0, .int 0, .int 0, .ref f0, .ref m0, .int 0, .int 0, .int 0, .int 0, .int 0, .int 0, .int 0, .int 0, .int (-1)])), (q4, .inr (1, [.ref g.1])), (q19, .inr (10, [.int 1, .int 0]))] := hD
  have hK : va_K D vwCl [] s := hK
  refine W.widen (k := 13) (n := 33) (by decide) (by decide) ?_
  have hw_36 : r_36 = 0 := hw_36
  subst hw_36
  refine lv_if_eq (tgt := 55) hx hb dX11_read_39 (by decide) (fun c_39 => ?_) (fun c_39 => ?_)
  rotate_left
  · exact absurd (by decide) c_39
  refine lv_aload_n hx hb dX11_read_55 rfl (lv_at hl 2 rfl) ?_
  refine lv_aload_n hx hb dX11_read_56 rfl (lv_at hl 0 rfl) ?_
  refine va_get (D := D) (ci := 10) (v := .int 0) (C := RX10) (T := TX10) (N := 2) hx hb htb bi_X10 hown hK hP 3 rfl rfl 1 (by decide) (htb _ bg_49) (fun _ h9 => h9) rfl dX11_read_57 ?_
  refine va_put (D := D) (ci := 11) (v := .int 0) (ty := tyX11 4) (C := RX11) (T := TX11) (N := 5) hx hb htb bi_X11 tyX11 tyX11_ok nmX11 hown hK hP hD hS 0 rfl rfl 4 (by decide) (htb _ bg_8) (fun _ h9 => h9) rfl (tyX11_ok 4 (by decide)) rfl rfl (Nat.le_of_ble_eq_true rfl) dX11_read_60 (fun H locs hP hD hS => ?_)
  have hP : va_P D vwCl [(h0, .inr (11, [.ref qc, .int n, .ref g.1, .null, .int 0])), (q0, .inr (3, [.ref q4, .ref p0, .int 0, .int 0, .int 0, .int 0, .ref f0, .ref m0, .int 0, .int 0, .int 0, .int 0, .int 0, .int 0, .int 0, .int 0, .int (-1)])), (q4, .inr (1, [.ref g.1])), (q19, .inr (10, [.int 1, .int 0]))] H := hP
  have hD : va_D A [(h0, .inr (11, [.ref qc, .int n, .ref g.1, .null, .int 0])), (q0, .inr (3, [.ref q4, .ref p0, .int 0, .int 0, .int 0, .int 0, .ref f0, .ref m0, .int 0, .int 0, .int 0, .int 0, .int 0, .int 0, .int 0, .int 0, .int (-1)])), (q4, .inr (1, [.ref g.1])), (q19, .inr (10, [.int 1, .int 0]))] := hD
  refine lv_aload_n hx hb dX11_read_63 rfl (lv_at hl 0 rfl) ?_
  refine va_get (D := D) (ci := 10) (v := .int 1) (C := RX10) (T := TX10) (N := 2) hx hb htb bi_X10 hown hK hP 3 rfl rfl 0 (by decide) (htb _ bg_50) (fun _ h9 => h9) rfl dX11_read_64 ?_
  have hP9 := hP.sub (ws' := [(h0, .inr (11, [.ref qc, .int n, .ref g.1, .null, .int 0]))]) [0] rfl
  have hD9 := hD.sub (ws' := [(h0, .inr (11, [.ref qc, .int n, .ref g.1, .null, .int 0]))]) [0] rfl rfl
  have hK9 := hK.sub (tys' := []) [] rfl
  exact W.iret (v := 1) hx hb hr (fun t ht hW => ⟨⟨1, (), rfl, rfl, by rw [ht]; exact hP9, va_K.moved hW.alike hK9, hD9⟩, hS.F ht⟩) hS.2.2 dX11_read_67
