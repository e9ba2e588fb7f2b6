theorem dX11_init_0 : decode cX11_init 0 = .ok (.aload_n 0, 1) := by decide +kernel
theorem dX11_init_1 : decode cX11_init 1 = .ok (.invokespecial 1, 3) := by decide +kernel
theorem dX11_init_4 : decode cX11_init 4 = .ok (.aload_n 0, 1) := by decide +kernel
theorem dX11_init_5 : decode cX11_init 5 = .ok (.sipush 1024, 3) := by decide +kernel
theorem dX11_init_8 : decode cX11_init 8 = .ok (.newarray .byte, 2) := by decide +kernel
theorem dX11_init_10 : decode cX11_init 10 = .ok (.putfield 9, 3) := by decide +kernel
theorem dX11_init_13 : decode cX11_init 13 = .ok (.aload_n 0, 1) := by decide +kernel
theorem dX11_init_14 : decode cX11_init 14 = .ok (.getstatic 13, 3) := by decide +kernel
theorem dX11_init_17 : decode cX11_init 17 = .ok (.putfield 16, 3) := by decide +kernel
theorem dX11_init_20 : decode cX11_init 20 = .ok (.aload_n 0, 1) := by decide +kernel
theorem dX11_init_21 : decode cX11_init 21 = .ok (.iconst (-1), 1) := by decide +kernel
theorem dX11_init_22 : decode cX11_init 22 = .ok (.putfield 19, 3) := by decide +kernel
theorem dX11_init_25 : decode cX11_init 25 = .ok (.return_, 1) := by decide +kernel
set_option maxHeartbeats 4000000 in
set_option maxRecDepth 100000 in
theorem cg_init (l : Launch) (D : va_G) (g : xe_G) (h0 : Nat) (sz : Nat)  : Met l yX11_init (.code yX11_init cX11_init 1 none :: bg) ({ frames := 2, cells := 1, slots := 1024, locals := 240 } : Room) (xb_Pre (xe_E g) D vwCl [(h0, .inr (11, [.null, .int 0, .null, .null, .int 0]))] [] sz [.ref h0]) (va_Qv (fun _ => True) (xb_B D vwCl (va_A [(h0, .inr (11, [.null, .int 0, .null, .null, .int 0]))] sz) (fun u : Nat × ClassId => [(h0, .inr (11, [.ref u.1, .int 0, .ref g.1, .null, .int (-1)])), (u.1, .inl (u.2, 1024, .inl (fun _ => 0)))]) (fun u : Nat × ClassId => [(u.2, .byte)])) (va_A [(h0, .inr (11, [.null, .int 0, .null, .null, .int 0]))] sz)) 1 1024 (va_A [(h0, .inr (11, [.null, .int 0, .null, .null, .int 0]))] sz) := by
  refine Met.ofW (cc := cX11_init) (maxL := 1) (ret := none) (by decide) rfl ?_
  intro p e s m args below meth c s₁ B hml hv
  obtain ⟨rfl, hsz, hP, hK, hD0, hE⟩ := hv
  have hx := B.exec
  have hb := B.bytes
  have hr := B.returns
  have hts := atoms_spec (ws := (.code yX11_init cX11_init 1 none :: bg)) B.pre
  have htb : ∀ w ∈ bg, w.before _ s = true := fun w h => hts w (List.mem_cons_of_mem _ h)
  have hown : s.vm.findClass RX11 = some m.cls := findClass_of_methodNamed B.named
  have hlocks := B.notSynchronized
  have hin : meth.name = "<init>" := (name_of_methodNamed B.named B.method).1
  subst hsz
  have hD := hD0.self (sz := s.heap.size)
  generalize hAe : va_A [(h0, .inr (11, [.null, .int 0, .null, .null, .int 0]))] s.heap.size = A at hD hE ⊢
  have hA : ∀ q : Nat, s.heap.size ≤ q → A q := fun q h => by rw [← hAe]; exact Or.inr h
  have hS : va_S A s.heap s.heap [] := va_S.rf
  have hP : va_P D vwCl [(h0, .inr (11, [.null, .int 0, .null, .null, .int 0]))] s.heap := hP
  have hl := lv_entry ([.ref h0]) (n := 1) (Nat.le_of_ble_eq_true rfl)
  rw [lg_entry_eq]
  generalize (lg_sl ([.ref h0]) ++ List.replicate (1 - (lg_sl ([.ref h0])).length) Slot.unset).toArray = ls at hl ⊢
  have hl : lv_has ls 1 [(0, .ref h0)] := hl
  refine lv_aload_n hx hb dX11_init_0 rfl (lv_at hl 0 rfl) ?_
  refine W.objInit hx hb hown (htb _ bg_1) (htb _ bg_3) (htb _ bg_2) rfl (by rw [hml]; exact hl.1) rfl dX11_init_1 (Nat.le_of_ble_eq_true rfl) (Nat.le_of_ble_eq_true rfl) ?_
  refine W.eq (g2 := F0 m 4 ls []) rfl ?_
  refine lv_aload_n hx hb dX11_init_4 rfl (lv_at hl 0 rfl) ?_
  refine lv_sipush (v := 1024) hx hb dX11_init_5 (by decide) ?_
  refine va_newa (atype := .byte) (ty := .byte) (a0 := (1024, .inl (fun _ => 0))) (N' := 1024) hx hb (htb _ bg_4) rfl hK hP hD hS hA (fun _ => rfl) (by decide) (by decide) (by decide) (Nat.le_of_ble_eq_true rfl) (Nat.le_of_ble_eq_true rfl) dX11_init_8 (fun q8 a8 H hK hP hD hS => ?_)
  have hP : va_P D vwCl [(h0, .inr (11, [.null, .int 0, .null, .null, .int 0])), (q8, .inl (a8, 1024, .inl (fun _ => 0)))] H := hP
  have hD : va_D A [(h0, .inr (11, [.null, .int 0, .null, .null, .int 0])), (q8, .inl (a8, 1024, .inl (fun _ => 0)))] := hD
  have hK : va_K D vwCl [(a8, .byte)] s := hK
  refine W.widen (k := 1) (n := 1024) (by decide) (by decide) ?_
  refine va_put (D := D) (ci := 11) (v := .ref q8) (ty := tyX11 0) (C := RX11) (T := TX11) (N := 5) hx hb htb bi_X11 tyX11 tyX11_ok nmX11 hown hK hP hD hS 0 rfl rfl 0 (by decide) (htb _ bg_5) (fun _ h9 => h9) rfl (tyX11_ok 0 (by decide)) rfl rfl (Nat.le_of_ble_eq_true rfl) dX11_init_10 (fun H locs hP hD hS => ?_)
  have hP : va_P D vwCl [(h0, .inr (11, [.ref q8, .int 0, .null, .null, .int 0])), (q8, .inl (a8, 1024, .inl (fun _ => 0)))] H := hP
  have hD : va_D A [(h0, .inr (11, [.ref q8, .int 0, .null, .null, .int 0])), (q8, .inl (a8, 1024, .inl (fun _ => 0)))] := hD
  refine lv_aload_n hx hb dX11_init_13 rfl (lv_at hl 0 rfl) ?_
  refine va_gets hx hb (hE.1) hS hown (htb _ bg_6) (fun _ h9 => h9) dX11_init_14 ?_
  refine va_put (D := D) (ci := 11) (v := .ref g.1) (ty := tyX11 2) (C := RX11) (T := TX11) (N := 5) hx hb htb bi_X11 tyX11 tyX11_ok nmX11 hown hK hP hD hS 0 rfl rfl 2 (by decide) (htb _ bg_7) (fun _ h9 => h9) rfl (tyX11_ok 2 (by decide)) rfl rfl (Nat.le_of_ble_eq_true rfl) dX11_init_17 (fun H locs hP hD hS => ?_)
  have hP : va_P D vwCl [(h0, .inr (11, [.ref q8, .int 0, .ref g.1, .null, .int 0])), (q8, .inl (a8, 1024, .inl (fun _ => 0)))] H := hP
  have hD : va_D A [(h0, .inr (11, [.ref q8, .int 0, .ref g.1, .null, .int 0])), (q8, .inl (a8, 1024, .inl (fun _ => 0)))] := hD
  refine lv_aload_n hx hb dX11_init_20 rfl (lv_at hl 0 rfl) ?_
  refine lv_iconst (v := (-1)) hx hb dX11_init_21 (by decide) ?_
  refine va_put (D := D) (ci := 11) (v := .int (-1)) (ty := tyX11 4) (C := RX11) (T := TX11) (N := 5) hx hb htb bi_X11 tyX11 tyX11_ok nmX11 hown hK hP hD hS 0 rfl rfl 4 (by decide) (htb _ bg_8) (fun _ h9 => h9) rfl (tyX11_ok 4 (by decide)) rfl rfl (Nat.le_of_ble_eq_true rfl) dX11_init_22 (fun H locs hP hD hS => ?_)
  have hP : va_P D vwCl [(h0, .inr (11, [.ref q8, .int 0, .ref g.1, .null, .int (-1)])), (q8, .inl (a8, 1024, .inl (fun _ => 0)))] H := hP
  have hD : va_D A [(h0, .inr (11, [.ref q8, .int 0, .ref g.1, .null, .int (-1)])), (q8, .inl (a8, 1024, .inl (fun _ => 0)))] := hD
  have hP9 := hP.sub (ws' := [(h0, .inr (11, [.ref q8, .int 0, .ref g.1, .null, .int (-1)])), (q8, .inl (a8, 1024, .inl (fun _ => 0)))]) [0, 1] rfl
  have hD9 := hD.sub (ws' := [(h0, .inr (11, [.ref q8, .int 0, .ref g.1, .null, .int (-1)])), (q8, .inl (a8, 1024, .inl (fun _ => 0)))]) [0, 1] rfl rfl
  have hK9 := hK.sub (tys' := [(a8, .byte)]) [0] rfl
  exact W.vret hx hb hr (fun t ht hW => ⟨⟨(q8, a8), rfl, trivial, by rw [ht]; exact hP9, va_K.moved hW.alike hK9, hD9⟩, hS.F ht⟩) hS.2.2 dX11_init_25
theorem dX11_place_0 : decode cX11_place 0 = .ok (.aload_n 0, 1) := by decide +kernel
theorem dX11_place_1 : decode cX11_place 1 = .ok (.getfield 19, 3) := by decide +kernel
theorem dX11_place_4 : decode cX11_place 4 = .ok (.ireturn, 1) := by decide +kernel
set_option maxHeartbeats 4000000 in
set_option maxRecDepth 100000 in
theorem cg_place (l : Launch) (D : va_G) (g : xe_G) (h0 : Nat) (qc : Nat) (n : Int32) (fl : Nat) (wp : Int32) (sz : Nat)  : Met l yX11_place (.code yX11_place cX11_place 1 (some .int) :: bg) ({ frames := 1, cells := 0, slots := 0, locals := 120 } : Room) (xb_Pre (xe_E g) D vwCl [(h0, .inr (11, [.ref qc, .int n, .ref fl, .null, .int wp]))] [] sz [.ref h0]) (va_Qi (fun r _ => r = wp) (xb_B D vwCl (va_A [(h0, .inr (11, [.ref qc, .int n, .ref fl, .null, .int wp]))] sz) (fun u : Unit => [(h0, .inr (11, [.ref qc, .int n, .ref fl, .null, .int wp]))]) (fun u : Unit => [])) (va_A [(h0, .inr (11, [.ref qc, .int n, .ref fl, .null, .int wp]))] sz)) 0 0 (va_A [(h0, .inr (11, [.ref qc, .int n, .ref fl, .null, .int wp]))] sz) := by
  refine Met.ofW (cc := cX11_place) (maxL := 1) (ret := (some .int)) (by decide) rfl ?_
  intro p e s m args below meth c s₁ B hml hv
  obtain ⟨rfl, hsz, hP, hK, hD0, hE⟩ := hv
  have hx := B.exec
  have hb := B.bytes
  have hr := B.returns
  have hts := atoms_spec (ws := (.code yX11_place cX11_place 1 (some .int) :: bg)) B.pre
  have htb : ∀ w ∈ bg, w.before _ s = true := fun w h => hts w (List.mem_cons_of_mem _ h)
  have hown : s.vm.findClass RX11 = some m.cls := findClass_of_methodNamed B.named
  have hlocks := B.notSynchronized
  subst hsz
  have hD := hD0.self (sz := s.heap.size)
  generalize hAe : va_A [(h0, .inr (11, [.ref qc, .int n, .ref fl, .null, .int wp]))] s.heap.size = A at hD hE ⊢
  have hA : ∀ q : Nat, s.heap.size ≤ q → A q := fun q h => by rw [← hAe]; exact Or.inr h
  have hS : va_S A s.heap s.heap [] := va_S.rf
  have hP : va_P D vwCl [(h0, .inr (11, [.ref qc, .int n, .ref fl, .null, .int wp]))] s.heap := hP
  have hl := lv_entry ([.ref h0]) (n := 1) (Nat.le_of_ble_eq_true rfl)
  rw [lg_entry_eq]
  generalize (lg_sl ([.ref h0]) ++ List.replicate (1 - (lg_sl ([.ref h0])).length) Slot.unset).toArray = ls at hl ⊢
  have hl : lv_has ls 1 [(0, .ref h0)] := hl
  refine lv_aload_n hx hb dX11_place_0 rfl (lv_at hl 0 rfl) ?_
  refine va_get (D := D) (ci := 11) (v := .int wp) (C := RX11) (T := TX11) (N := 5) hx hb htb bi_X11 hown hK hP 0 rfl rfl 4 (by decide) (htb _ bg_8) (fun _ h9 => h9) rfl dX11_place_1 ?_
  have hP9 := hP.sub (ws' := [(h0, .inr (11, [.ref qc, .int n, .ref fl, .null, .int wp]))]) [0] rfl
  have hD9 := hD.sub (ws' := [(h0, .inr (11, [.ref qc, .int n, .ref fl, .null, .int wp]))]) [0] rfl rfl
  have hK9 := hK.sub (tys' := []) [] rfl
  exact W.iret (v := wp) hx hb hr (fun t ht hW => ⟨⟨wp, (), rfl, rfl, by rw [ht]; exact hP9, va_K.moved hW.alike hK9, hD9⟩, hS.F ht⟩) hS.2.2 dX11_place_4
theorem dX11_character_0 : decode cX11_character 0 = .ok (.aload_n 0, 1) := by decide +kernel
theorem dX11_character_1 : decode cX11_character 1 = .ok (.getfield 69, 3) := by decide +kernel
theorem dX11_character_4 : decode cX11_character 4 = .ok (.ifnonnull 7, 3) := by decide +kernel
theorem dX11_character_7 : decode cX11_character 7 = .ok (.iconst (-1), 1) := by decide +kernel
theorem dX11_character_8 : decode cX11_character 8 = .ok (.goto 15, 3) := by decide +kernel
theorem dX11_character_23 : decode cX11_character 23 = .ok (.ireturn, 1) := by decide +kernel
set_option maxHeartbeats 4000000 in
set_option maxRecDepth 100000 in
theorem cg_character (l : Launch) (D : va_G) (g : xe_G) (h0 : Nat) (qc : Nat) (n : Int32) (fl : Nat) (wp : Int32) (x0 : Int32) (x1 : Int32) (sz : Nat)  : Met l yX11_character (.code yX11_character cX11_character 3 (some .int) :: bg) ({ frames := 1, cells := 0, slots := 0, locals := 120 } : Room) (xb_Pre (xe_E g) D vwCl [(h0, .inr (11, [.ref qc, .int n, .ref fl, .null, .int wp]))] [] sz [.ref h0, .int x0, .int x1]) (va_Qi (fun r _ => r = -1) (xb_B D vwCl (va_A [(h0, .inr (11, [.ref qc, .int n, .ref fl, .null, .int wp]))] sz) (fun u : Unit => [(h0, .inr (11, [.ref qc, .int n, .ref fl, .null, .int wp]))]) (fun u : Unit => [])) (va_A [(h0, .inr (11, [.ref qc, .int n, .ref fl, .null, .int wp]))] sz)) 0 0 (va_A [(h0, .inr (11, [.ref qc, .int n, .ref fl, .null, .int wp]))] sz) := by
  refine Met.ofW (cc := cX11_character) (maxL := 3) (ret := (some .int)) (by decide) rfl ?_
  intro p e s m args below meth c s₁ B hml hv
  obtain ⟨rfl, hsz, hP, hK, hD0, hE⟩ := hv
  have hx := B.exec
  have hb := B.bytes
  have hr := B.returns
  have hts := atoms_spec (ws := (.code yX11_character cX11_character 3 (some .int) :: bg)) B.pre
  have htb : ∀ w ∈ bg, w.before _ s = true := fun w h => hts w (List.mem_cons_of_mem _ h)
  have hown : s.vm.findClass RX11 = some m.cls := findClass_of_methodNamed B.named
  have hlocks := B.notSynchronized
  subst hsz
  have hD := hD0.self (sz := s.heap.size)
  generalize hAe : va_A [(h0, .inr (11, [.ref qc, .int n, .ref fl, .null, .int wp]))] s.heap.size = A at hD hE ⊢
  have hA : ∀ q : Nat, s.heap.size ≤ q → A q := fun q h => by rw [← hAe]; exact Or.inr h
  have hS : va_S A s.heap s.heap [] := va_S.rf
  have hP : va_P D vwCl [(h0, .inr (11, [.ref qc, .int n, .ref fl, .null, .int wp]))] s.heap := hP
  have hl := lv_entry ([.ref h0, .int x0, .int x1]) (n := 3) (Nat.le_of_ble_eq_true rfl)
  rw [lg_entry_eq]
  generalize (lg_sl ([.ref h0, .int x0, .int x1]) ++ List.replicate (3 - (lg_sl ([.ref h0, .int x0, .int x1])).length) Slot.unset).toArray = ls at hl ⊢
  have hl : lv_has ls 3 [(0, .ref h0), (1, .int x0), (2, .int x1)] := hl
  refine lv_aload_n hx hb dX11_character_0 rfl (lv_at hl 0 rfl) ?_
  refine va_get (D := D) (ci := 11) (v := .null) (C := RX11) (T := TX11) (N := 5) hx hb htb bi_X11 hown hK hP 0 rfl rfl 3 (by decide) (htb _ bg_48) (fun _ h9 => h9) rfl dX11_character_1 ?_
  refine lv_ifnonnullN hx hb dX11_character_4 ?_
  refine lv_iconst (v := (-1)) hx hb dX11_character_7 (by decide) ?_
  refine lv_goto (tgt := 23) hx hb dX11_character_8 (by decide) ?_
  have hP9 := hP.sub (ws' := [(h0, .inr (11, [.ref qc, .int n, .ref fl, .null, .int wp]))]) [0] rfl
  have hD9 := hD.sub (ws' := [(h0, .inr (11, [.ref qc, .int n, .ref fl, .null, .int wp]))]) [0] rfl rfl
  have hK9 := hK.sub (tys' := []) [] rfl
  exact W.iret (v := (-1)) hx hb hr (fun t ht hW => ⟨⟨(-1), (), rfl, rfl, by rw [ht]; exact hP9, va_K.moved hW.alike hK9, hD9⟩, hS.F ht⟩) hS.2.2 dX11_character_23
theorem dX11_places_0 : decode cX11_places 0 = .ok (.aload_n 0, 1) := by decide +kernel
theorem dX11_places_1 : decode cX11_places 1 = .ok (.getfield 69, 3) := by decide +kernel
theorem dX11_places_4 : decode cX11_places 4 = .ok (.ifnonnull 7, 3) := by decide +kernel
theorem dX11_places_7 : decode cX11_places 7 = .ok (.iconst (-1), 1) := by decide +kernel
theorem dX11_places_8 : decode cX11_places 8 = .ok (.goto 14, 3) := by decide +kernel
theorem dX11_places_22 : decode cX11_places 22 = .ok (.ireturn, 1) := by decide +kernel
set_option maxHeartbeats 4000000 in
set_option maxRecDepth 100000 in
theorem cg_places (l : Launch) (D : va_G) (g : xe_G) (h0 : Nat) (qc : Nat) (n : Int32) (fl : Nat) (wp : Int32) (x0 : Int32) (sz : Nat)  : Met l yX11_places (.code yX11_places cX11_places 2 (some .int) :: bg) ({ frames := 1, cells := 0, slots := 0, locals := 120 } : Room) (xb_Pre (xe_E g) D vwCl [(h0, .inr (11, [.ref qc, .int n, .ref fl, .null, .int wp]))] [] sz [.ref h0, .int x0]) (va_Qi (fun r _ => r = -1) (xb_B D vwCl (va_A [(h0, .inr (11, [.ref qc, .int n, .ref fl, .null, .int wp]))] sz) (fun u : Unit => [(h0, .inr (11, [.ref qc, .int n, .ref fl, .null, .int wp]))]) (fun u : Unit => [])) (va_A [(h0, .inr (11, [.ref qc, .int n, .ref fl, .null, .int wp]))] sz)) 0 0 (va_A [(h0, .inr (11, [.ref qc, .int n, .ref fl, .null, .int wp]))] sz) := by
  refine Met.ofW (cc := cX11_places) (maxL := 2) (ret := (some .int)) (by decide) rfl ?_
  intro p e s m args below meth c s₁ B hml hv
  obtain ⟨rfl, hsz, hP, hK, hD0, hE⟩ := hv
  have hx := B.exec
  have hb := B.bytes
  have hr := B.returns
  have hts := atoms_spec (ws := (.code yX11_places cX11_places 2 (some .int) :: bg)) B.pre
  have htb : ∀ w ∈ bg, w.before _ s = true := fun w h => hts w (List.mem_cons_of_mem _ h)
  have hown : s.vm.findClass RX11 = some m.cls := findClass_of_methodNamed B.named
  have hlocks := B.notSynchronized
  subst hsz
  have hD := hD0.self (sz := s.heap.size)
  generalize hAe : va_A [(h0, .inr (11, [.ref qc, .int n, .ref fl, .null, .int wp]))] s.heap.size = A at hD hE ⊢
  have hA : ∀ q : Nat, s.heap.size ≤ q → A q := fun q h => by rw [← hAe]; exact Or.inr h
  have hS : va_S A s.heap s.heap [] := va_S.rf
  have hP : va_P D vwCl [(h0, .inr (11, [.ref qc, .int n, .ref fl, .null, .int wp]))] s.heap := hP
  have hl := lv_entry ([.ref h0, .int x0]) (n := 2) (Nat.le_of_ble_eq_true rfl)
  rw [lg_entry_eq]
  generalize (lg_sl ([.ref h0, .int x0]) ++ List.replicate (2 - (lg_sl ([.ref h0, .int x0])).length) Slot.unset).toArray = ls at hl ⊢
  have hl : lv_has ls 2 [(0, .ref h0), (1, .int x0)] := hl
  refine lv_aload_n hx hb dX11_places_0 rfl (lv_at hl 0 rfl) ?_
  refine va_get (D := D) (ci := 11) (v := .null) (C := RX11) (T := TX11) (N := 5) hx hb htb bi_X11 hown hK hP 0 rfl rfl 3 (by decide) (htb _ bg_48) (fun _ h9 => h9) rfl dX11_places_1 ?_
  refine lv_ifnonnullN hx hb dX11_places_4 ?_
  refine lv_iconst (v := (-1)) hx hb dX11_places_7 (by decide) ?_
  refine lv_goto (tgt := 22) hx hb dX11_places_8 (by decide) ?_
  have hP9 := hP.sub (ws' := [(h0, .inr (11, [.ref qc, .int n, .ref fl, .null, .int wp]))]) [0] rfl
  have hD9 := hD.sub (ws' := [(h0, .inr (11, [.ref qc, .int n, .ref fl, .null, .int wp]))]) [0] rfl rfl
  have hK9 := hK.sub (tys' := []) [] rfl
  exact W.iret (v := (-1)) hx hb hr (fun t ht hW => ⟨⟨(-1), (), rfl, rfl, by rw [ht]; exact hP9, va_K.moved hW.alike hK9, hD9⟩, hS.F ht⟩) hS.2.2 dX11_places_22
theorem dX11_bootstrap_0 : decode cX11_bootstrap 0 = .ok (.aload_n 0, 1) := by decide +kernel
theorem dX11_bootstrap_1 : decode cX11_bootstrap 1 = .ok (.getfield 69, 3) := by decide +kernel
theorem dX11_bootstrap_4 : decode cX11_bootstrap 4 = .ok (.ifnonnull 7, 3) := by decide +kernel
theorem dX11_bootstrap_7 : decode cX11_bootstrap 7 = .ok (.iconst (-1), 1) := by decide +kernel
theorem dX11_bootstrap_8 : decode cX11_bootstrap 8 = .ok (.goto 12, 3) := by decide +kernel
theorem dX11_bootstrap_20 : decode cX11_bootstrap 20 = .ok (.ireturn, 1) := by decide +kernel
set_option maxHeartbeats 4000000 in
set_option maxRecDepth 100000 in
theorem cg_bootstrap (l : Launch) (D : va_G) (g : xe_G) (h0 : Nat) (qc : Nat) (n : Int32) (fl : Nat) (wp : Int32) (x0 : Int32) (x1 : Int32) (sz : Nat)  : Met l yX11_bootstrap (.code yX11_bootstrap cX11_bootstrap 3 (some .int) :: bg) ({ frames := 1, cells := 0, slots := 0, locals := 120 } : Room) (xb_Pre (xe_E g) D vwCl [(h0, .inr (11, [.ref qc, .int n, .ref fl, .null, .int wp]))] [] sz [.ref h0, .int x0, .int x1]) (va_Qi (fun r _ => r = -1) (xb_B D vwCl (va_A [(h0, .inr (11, [.ref qc, .int n, .ref fl, .null, .int wp]))] sz) (fun u : Unit => [(h0, .inr (11, [.ref qc, .int n, .ref fl, .null, .int wp]))]) (fun u : Unit => [])) (va_A [(h0, .inr (11, [.ref qc, .int n, .ref fl, .null, .int wp]))] sz)) 0 0 (va_A [(h0, .inr (11, [.ref qc, .int n, .ref fl, .null, .int wp]))] sz) := by
  refine Met.ofW (cc := cX11_bootstrap) (maxL := 3) (ret := (some .int)) (by decide) rfl ?_
  intro p e s m args below meth c s₁ B hml hv
  obtain ⟨rfl, hsz, hP, hK, hD0, hE⟩ := hv
  have hx := B.exec
  have hb := B.bytes
  have hr := B.returns
  have hts := atoms_spec (ws := (.code yX11_bootstrap cX11_bootstrap 3 (some .int) :: bg)) B.pre
  have htb : ∀ w ∈ bg, w.before _ s = true := fun w h => hts w (List.mem_cons_of_mem _ h)
  have hown : s.vm.findClass RX11 = some m.cls := findClass_of_methodNamed B.named
  have hlocks := B.notSynchronized
  subst hsz
  have hD := hD0.self (sz := s.heap.size)
  generalize hAe : va_A [(h0, .inr (11, [.ref qc, .int n, .ref fl, .null, .int wp]))] s.heap.size = A at hD hE ⊢
  have hA : ∀ q : Nat, s.heap.size ≤ q → A q := fun q h => by rw [← hAe]; exact Or.inr h
  have hS : va_S A s.heap s.heap [] := va_S.rf
  have hP : va_P D vwCl [(h0, .inr (11, [.ref qc, .int n, .ref fl, .null, .int wp]))] s.heap := hP
  have hl := lv_entry ([.ref h0, .int x0, .int x1]) (n := 3) (Nat.le_of_ble_eq_true rfl)
  rw [lg_entry_eq]
  generalize (lg_sl ([.ref h0, .int x0, .int x1]) ++ List.replicate (3 - (lg_sl ([.ref h0, .int x0, .int x1])).length) Slot.unset).toArray = ls at hl ⊢
  have hl : lv_has ls 3 [(0, .ref h0), (1, .int x0), (2, .int x1)] := hl
  refine lv_aload_n hx hb dX11_bootstrap_0 rfl (lv_at hl 0 rfl) ?_
  refine va_get (D := D) (ci := 11) (v := .null) (C := RX11) (T := TX11) (N := 5) hx hb htb bi_X11 hown hK hP 0 rfl rfl 3 (by decide) (htb _ bg_48) (fun _ h9 => h9) rfl dX11_bootstrap_1 ?_
  refine lv_ifnonnullN hx hb dX11_bootstrap_4 ?_
  refine lv_iconst (v := (-1)) hx hb dX11_bootstrap_7 (by decide) ?_
  refine lv_goto (tgt := 20) hx hb dX11_bootstrap_8 (by decide) ?_
  have hP9 := hP.sub (ws' := [(h0, .inr (11, [.ref qc, .int n, .ref fl, .null, .int wp]))]) [0] rfl
  have hD9 := hD.sub (ws' := [(h0, .inr (11, [.ref qc, .int n, .ref fl, .null, .int wp]))]) [0] rfl rfl
  have hK9 := hK.sub (tys' := []) [] rfl
  exact W.iret (v := (-1)) hx hb hr (fun t ht hW => ⟨⟨(-1), (), rfl, rfl, by rw [ht]; exact hP9, va_K.moved hW.alike hK9, hD9⟩, hS.F ht⟩) hS.2.2 dX11_bootstrap_20
theorem dX11_bits_0 : decode cX11_bits 0 = .ok (.aload_n 0, 1) := by decide +kernel
theorem dX11_bits_1 : decode cX11_bits 1 = .ok (.getfield 69, 3) := by decide +kernel
theorem dX11_bits_4 : decode cX11_bits 4 = .ok (.ifnonnull 5, 3) := by decide +kernel
theorem dX11_bits_7 : decode cX11_bits 7 = .ok (.lconst 0, 1) := by decide +kernel
theorem dX11_bits_8 : decode cX11_bits 8 = .ok (.lreturn, 1) := by decide +kernel
set_option maxHeartbeats 4000000 in
set_option maxRecDepth 100000 in
theorem cg_bits (l : Launch) (D : va_G) (g : xe_G) (h0 : Nat) (qc : Nat) (n : Int32) (fl : Nat) (wp : Int32) (x0 : Int32) (sz : Nat)  : Met l yX11_bits (.code yX11_bits cX11_bits 4 (some .long) :: bg) ({ frames := 1, cells := 0, slots := 0, locals := 120 } : Room) (xb_Pre (xe_E g) D vwCl [(h0, .inr (11, [.ref qc, .int n, .ref fl, .null, .int wp]))] [] sz [.ref h0, .int x0]) (va_Ql (fun r _ => r = 0) (xb_B D vwCl (va_A [(h0, .inr (11, [.ref qc, .int n, .ref fl, .null, .int wp]))] sz) (fun u : Unit => [(h0, .inr (11, [.ref qc, .int n, .ref fl, .null, .int wp]))]) (fun u : Unit => [])) (va_A [(h0, .inr (11, [.ref qc, .int n, .ref fl, .null, .int wp]))] sz)) 0 0 (va_A [(h0, .inr (11, [.ref qc, .int n, .ref fl, .null, .int wp]))] sz) := by
  refine Met.ofW (cc := cX11_bits) (maxL := 4) (ret := (some .long)) (by decide) rfl ?_
  intro p e s m args below meth c s₁ B hml hv
  obtain ⟨rfl, hsz, hP, hK, hD0, hE⟩ := hv
  have hx := B.exec
  have hb := B.bytes
  have hr := B.returns
  have hts := atoms_spec (ws := (.code yX11_bits cX11_bits 4 (some .long) :: bg)) B.pre
  have htb : ∀ w ∈ bg, w.before _ s = true := fun w h => hts w (List.mem_cons_of_mem _ h)
  have hown : s.vm.findClass RX11 = some m.cls := findClass_of_methodNamed B.named
  have hlocks := B.notSynchronized
  subst hsz
  have hD := hD0.self (sz := s.heap.size)
  generalize hAe : va_A [(h0, .inr (11, [.ref qc, .int n, .ref fl, .null, .int wp]))] s.heap.size = A at hD hE ⊢
  have hA : ∀ q : Nat, s.heap.size ≤ q → A q := fun q h => by rw [← hAe]; exact Or.inr h
  have hS : va_S A s.heap s.heap [] := va_S.rf
  have hP : va_P D vwCl [(h0, .inr (11, [.ref qc, .int n, .ref fl, .null, .int wp]))] s.heap := hP
  have hl := lv_entry ([.ref h0, .int x0]) (n := 4) (Nat.le_of_ble_eq_true rfl)
  rw [lg_entry_eq]
  generalize (lg_sl ([.ref h0, .int x0]) ++ List.replicate (4 - (lg_sl ([.ref h0, .int x0])).length) Slot.unset).toArray = ls at hl ⊢
  have hl : lv_has ls 4 [(0, .ref h0), (1, .int x0)] := hl
  refine lv_aload_n hx hb dX11_bits_0 rfl (lv_at hl 0 rfl) ?_
  refine va_get (D := D) (ci := 11) (v := .null) (C := RX11) (T := TX11) (N := 5) hx hb htb bi_X11 hown hK hP 0 rfl rfl 3 (by decide) (htb _ bg_48) (fun _ h9 => h9) rfl dX11_bits_1 ?_
  refine lv_ifnonnullN hx hb dX11_bits_4 ?_
  refine lv_lconst (v := 0) hx hb dX11_bits_7 (by decide) ?_
  have hP9 := hP.sub (ws' := [(h0, .inr (11, [.ref qc, .int n, .ref fl, .null, .int wp]))]) [0] rfl
  have hD9 := hD.sub (ws' := [(h0, .inr (11, [.ref qc, .int n, .ref fl, .null, .int wp]))]) [0] rfl rfl
  have hK9 := hK.sub (tys' := []) [] rfl
  exact W.lret (v := 0) hx hb hr (fun t ht hW => ⟨⟨0, (), rfl, rfl, by rw [ht]; exact hP9, va_K.moved hW.alike hK9, hD9⟩, hS.F ht⟩) hS.2.2 dX11_bits_8
theorem dX11_find_0 : decode cX11_find 0 = .ok (.aload_n 0, 1) := by decide +kernel
theorem dX11_find_1 : decode cX11_find 1 = .ok (.getfield 69, 3) := by decide +kernel
theorem dX11_find_4 : decode cX11_find 4 = .ok (.ifnull 33, 3) := by decide +kernel
theorem dX11_find_37 : decode cX11_find 37 = .ok (.iconst (-1), 1) := by decide +kernel
theorem dX11_find_38 : decode cX11_find 38 = .ok (.ireturn, 1) := by decide +kernel
set_option maxHeartbeats 4000000 in
set_option maxRecDepth 100000 in
theorem cg_find (l : Launch) (D : va_G) (g : xe_G) (h0 : Nat) (qc : Nat) (n : Int32) (fl : Nat) (wp : Int32) (x0 : Int32) (x1 : Int32) (x2 : Int32) (sz : Nat)  : Met l yX11_find (.code yX11_find cX11_find 5 (some .int) :: bg) ({ frames := 1, cells := 0, slots := 0, locals := 120 } : Room) (xb_Pre (xe_E g) D vwCl [(h0, .inr (11, [.ref qc, .int n, .ref fl, .null, .int wp]))] [] sz [.ref h0, .int x0, .int x1, .int x2]) (va_Qi (fun r _ => r = -1) (xb_B D vwCl (va_A [(h0, .inr (11, [.ref qc, .int n, .ref fl, .null, .int wp]))] sz) (fun u : Unit => [(h0, .inr (11, [.ref qc, .int n, .ref fl, .null, .int wp]))]) (fun u : Unit => [])) (va_A [(h0, .inr (11, [.ref qc, .int n, .ref fl, .null, .int wp]))] sz)) 0 0 (va_A [(h0, .inr (11, [.ref qc, .int n, .ref fl, .null, .int wp]))] sz) := by
  refine Met.ofW (cc := cX11_find) (maxL := 5) (ret := (some .int)) (by decide) rfl ?_
  intro p e s m args below meth c s₁ B hml hv
  obtain ⟨rfl, hsz, hP, hK, hD0, hE⟩ := hv
  have hx := B.exec
  have hb := B.bytes
  have hr := B.returns
  have hts := atoms_spec (ws := (.code yX11_find cX11_find 5 (some .int) :: bg)) B.pre
  have htb : ∀ w ∈ bg, w.before _ s = true := fun w h => hts w (List.mem_cons_of_mem _ h)
  have hown : s.vm.findClass RX11 = some m.cls := findClass_of_methodNamed B.named
  have hlocks := B.notSynchronized
  subst hsz
  have hD := hD0.self (sz := s.heap.size)
  generalize hAe : va_A [(h0, .inr (11, [.ref qc, .int n, .ref fl, .null, .int wp]))] s.heap.size = A at hD hE ⊢
  have hA : ∀ q : Nat, s.heap.size ≤ q → A q := fun q h => by rw [← hAe]; exact Or.inr h
  have hS : va_S A s.heap s.heap [] := va_S.rf
  have hP : va_P D vwCl [(h0, .inr (11, [.ref qc, .int n, .ref fl, .null, .int wp]))] s.heap := hP
  have hl := lv_entry ([.ref h0, .int x0, .int x1, .int x2]) (n := 5) (Nat.le_of_ble_eq_true rfl)
  rw [lg_entry_eq]
  generalize (lg_sl ([.ref h0, .int x0, .int x1, .int x2]) ++ List.replicate (5 - (lg_sl ([.ref h0, .int x0, .int x1, .int x2])).length) Slot.unset).toArray = ls at hl ⊢
  have hl : lv_has ls 5 [(0, .ref h0), (1, .int x0), (2, .int x1), (3, .int x2)] := hl
  refine lv_aload_n hx hb dX11_find_0 rfl (lv_at hl 0 rfl) ?_
  refine va_get (D := D) (ci := 11) (v := .null) (C := RX11) (T := TX11) (N := 5) hx hb htb bi_X11 hown hK hP 0 rfl rfl 3 (by decide) (htb _ bg_48) (fun _ h9 => h9) rfl dX11_find_1 ?_
  refine lv_ifnullN (tgt := 37) hx hb dX11_find_4 (by decide) ?_
  refine lv_iconst (v := (-1)) hx hb dX11_find_37 (by decide) ?_
  have hP9 := hP.sub (ws' := [(h0, .inr (11, [.ref qc, .int n, .ref fl, .null, .int wp]))]) [0] rfl
  have hD9 := hD.sub (ws' := [(h0, .inr (11, [.ref qc, .int n, .ref fl, .null, .int wp]))]) [0] rfl rfl
  have hK9 := hK.sub (tys' := []) [] rfl
  exact W.iret (v := (-1)) hx hb hr (fun t ht hW => ⟨⟨(-1), (), rfl, rfl, by rw [ht]; exact hP9, va_K.moved hW.alike hK9, hD9⟩, hS.F ht⟩) hS.2.2 dX11_find_38
theorem dX11_codeOf_0 : decode cX11_codeOf 0 = .ok (.aload_n 0, 1) := by decide +kernel
theorem dX11_codeOf_1 : decode cX11_codeOf 1 = .ok (.getfield 69, 3) := by decide +kernel
theorem dX11_codeOf_4 : decode cX11_codeOf 4 = .ok (.ifnonnull 7, 3) := by decide +kernel
theorem dX11_codeOf_7 : decode cX11_codeOf 7 = .ok (.aconst_null, 1) := by decide +kernel
theorem dX11_codeOf_8 : decode cX11_codeOf 8 = .ok (.goto 12, 3) := by decide +kernel
theorem dX11_codeOf_20 : decode cX11_codeOf 20 = .ok (.astore_n 2, 1) := by decide +kernel
theorem dX11_codeOf_21 : decode cX11_codeOf 21 = .ok (.aload_n 2, 1) := by decide +kernel
theorem dX11_codeOf_22 : decode cX11_codeOf 22 = .ok (.ifnonnull 7, 3) := by decide +kernel
theorem dX11_codeOf_25 : decode cX11_codeOf 25 = .ok (.aconst_null, 1) := by decide +kernel
theorem dX11_codeOf_26 : decode cX11_codeOf 26 = .ok (.goto 7, 3) := by decide +kernel
theorem dX11_codeOf_33 : decode cX11_codeOf 33 = .ok (.areturn, 1) := by decide +kernel
set_option maxHeartbeats 4000000 in
set_option maxRecDepth 100000 in
theorem cg_codeOf (l : Launch) (D : va_G) (g : xe_G) (h0 : Nat) (qc : Nat) (n : Int32) (fl : Nat) (wp : Int32) (x0 : Int32) (sz : Nat)  : Met l yX11_codeOf (.code yX11_codeOf cX11_codeOf 3 (some (.object "ClassGate$Code")) :: bg) ({ frames := 1, cells := 0, slots := 0, locals := 120 } : Room) (xb_Pre (xe_E g) D vwCl [(h0, .inr (11, [.ref qc, .int n, .ref fl, .null, .int wp]))] [] sz [.ref h0, .int x0]) (va_Qq (fun r _ => r = none) (xb_B D vwCl (va_A [(h0, .inr (11, [.ref qc, .int n, .ref fl, .null, .int wp]))] sz) (fun u : Unit => [(h0, .inr (11, [.ref qc, .int n, .ref fl, .null, .int wp]))]) (fun u : Unit => [])) (va_A [(h0, .inr (11, [.ref qc, .int n, .ref fl, .null, .int wp]))] sz)) 0 0 (va_A [(h0, .inr (11, [.ref qc, .int n, .ref fl, .null, .int wp]))] sz) := by
  refine Met.ofW (cc := cX11_codeOf) (maxL := 3) (ret := (some (.object "ClassGate$Code"))) (by decide) rfl ?_
  intro p e s m args below meth c s₁ B hml hv
  obtain ⟨rfl, hsz, hP, hK, hD0, hE⟩ := hv
  have hx := B.exec
  have hb := B.bytes
  have hr := B.returns
  have hts := atoms_spec (ws := (.code yX11_codeOf cX11_codeOf 3 (some (.object "ClassGate$Code")) :: bg)) B.pre
  have htb : ∀ w ∈ bg, w.before _ s = true := fun w h => hts w (List.mem_cons_of_mem _ h)
  have hown : s.vm.findClass RX11 = some m.cls := findClass_of_methodNamed B.named
  have hlocks := B.notSynchronized
  subst hsz
  have hD := hD0.self (sz := s.heap.size)
  generalize hAe : va_A [(h0, .inr (11, [.ref qc, .int n, .ref fl, .null, .int wp]))] s.heap.size = A at hD hE ⊢
  have hA : ∀ q : Nat, s.heap.size ≤ q → A q := fun q h => by rw [← hAe]; exact Or.inr h
  have hS : va_S A s.heap s.heap [] := va_S.rf
  have hP : va_P D vwCl [(h0, .inr (11, [.ref qc, .int n, .ref fl, .null, .int wp]))] s.heap := hP
  have hl := lv_entry ([.ref h0, .int x0]) (n := 3) (Nat.le_of_ble_eq_true rfl)
  rw [lg_entry_eq]
  generalize (lg_sl ([.ref h0, .int x0]) ++ List.replicate (3 - (lg_sl ([.ref h0, .int x0])).length) Slot.unset).toArray = ls at hl ⊢
  have hl : lv_has ls 3 [(0, .ref h0), (1, .int x0)] := hl
  refine lv_aload_n hx hb dX11_codeOf_0 rfl (lv_at hl 0 rfl) ?_
  refine va_get (D := D) (ci := 11) (v := .null) (C := RX11) (T := TX11) (N := 5) hx hb htb bi_X11 hown hK hP 0 rfl rfl 3 (by decide) (htb _ bg_48) (fun _ h9 => h9) rfl dX11_codeOf_1 ?_
  refine lv_ifnonnullN hx hb dX11_codeOf_4 ?_
  refine lv_null hx hb dX11_codeOf_7 ?_
  refine lv_goto (tgt := 20) hx hb dX11_codeOf_8 (by decide) ?_
  refine lv_astore_nN (lv' := [(2, .null), (0, .ref h0), (1, .int x0)]) hx hb dX11_codeOf_20 rfl hl (by decide) rfl (fun ls hl => ?_)
  refine lv_aload_nN hx hb dX11_codeOf_21 rfl (lv_at hl 0 rfl) ?_
  refine lv_ifnonnullN hx hb dX11_codeOf_22 ?_
  refine lv_null hx hb dX11_codeOf_25 ?_
  refine lv_goto (tgt := 33) hx hb dX11_codeOf_26 (by decide) ?_
  have hP9 := hP.sub (ws' := [(h0, .inr (11, [.ref qc, .int n, .ref fl, .null, .int wp]))]) [0] rfl
  have hD9 := hD.sub (ws' := [(h0, .inr (11, [.ref qc, .int n, .ref fl, .null, .int wp]))]) [0] rfl rfl
  have hK9 := hK.sub (tys' := []) [] rfl
  exact W.aret (v := .null) hx hb hr (Or.inl ⟨_, rfl⟩) (Or.inl rfl) (fun t ht hW => ⟨⟨none, (), rfl, rfl, by rw [ht]; exact hP9, va_K.moved hW.alike hK9, hD9⟩, hS.F ht⟩) hS.2.2 dX11_codeOf_33
theorem dX11_cut_0 : decode cX11_cut 0 = .ok (.aload_n 0, 1) := by decide +kernel
theorem dX11_cut_1 : decode cX11_cut 1 = .ok (.iload_n 1, 1) := by decide +kernel
theorem dX11_cut_2 : decode cX11_cut 2 = .ok (.invokevirtual 211, 3) := by decide +kernel
theorem dX11_cut_5 : decode cX11_cut 5 = .ok (.astore_n 2, 1) := by decide +kernel
theorem dX11_cut_6 : decode cX11_cut 6 = .ok (.aload_n 2, 1) := by decide +kernel
theorem dX11_cut_7 : decode cX11_cut 7 = .ok (.ifnonnull 7, 3) := by decide +kernel
theorem dX11_cut_10 : decode cX11_cut 10 = .ok (.iconst (-1), 1) := by decide +kernel
theorem dX11_cut_11 : decode cX11_cut 11 = .ok (.goto 7, 3) := by decide +kernel
theorem dX11_cut_18 : decode cX11_cut 18 = .ok (.ireturn, 1) := by decide +kernel
set_option maxHeartbeats 4000000 in
set_option maxRecDepth 100000 in
theorem cg_cut (l : Launch) (D : va_G) (g : xe_G) (h0 : Nat) (qc : Nat) (n : Int32) (fl : Nat) (wp : Int32) (x0 : Int32) (sz : Nat)  : Met l yX11_cut (.code yX11_cut cX11_cut 3 (some .int) :: bg) ({ frames := 2, cells := 0, slots := 0, locals := 240 } : Room) (xb_Pre (xe_E g) D vwCl [(h0, .inr (11, [.ref qc, .int n, .ref fl, .null, .int wp]))] [] sz [.ref h0, .int x0]) (va_Qi (fun r _ => r = -1) (xb_B D vwCl (va_A [(h0, .inr (11, [.ref qc, .int n, .ref fl, .null, .int wp]))] sz) (fun u : Unit => [(h0, .inr (11, [.ref qc, .int n, .ref fl, .null, .int wp]))]) (fun u : Unit => [])) (va_A [(h0, .inr (11, [.ref qc, .int n, .ref fl, .null, .int wp]))] sz)) 0 0 (va_A [(h0, .inr (11, [.ref qc, .int n, .ref fl, .null, .int wp]))] sz) := by
  refine Met.ofW (cc := cX11_cut) (maxL := 3) (ret := (some .int)) (by decide) rfl ?_
  intro p e s m args below meth c s₁ B hml hv
  obtain ⟨rfl, hsz, hP, hK, hD0, hE⟩ := hv
  have hx := B.exec
  have hb := B.bytes
  have hr := B.returns
  have hts := atoms_spec (ws := (.code yX11_cut cX11_cut 3 (some .int) :: bg)) B.pre
  have htb : ∀ w ∈ bg, w.before _ s = true := fun w h => hts w (List.mem_cons_of_mem _ h)
  have hown : s.vm.findClass RX11 = some m.cls := findClass_of_methodNamed B.named
  have hlocks := B.notSynchronized
  subst hsz
  have hD := hD0.self (sz := s.heap.size)
  generalize hAe : va_A [(h0, .inr (11, [.ref qc, .int n, .ref fl, .null, .int wp]))] s.heap.size = A at hD hE ⊢
  have hA : ∀ q : Nat, s.heap.size ≤ q → A q := fun q h => by rw [← hAe]; exact Or.inr h
  have hS : va_S A s.heap s.heap [] := va_S.rf
  have hP : va_P D vwCl [(h0, .inr (11, [.ref qc, .int n, .ref fl, .null, .int wp]))] s.heap := hP
  have hl := lv_entry ([.ref h0, .int x0]) (n := 3) (Nat.le_of_ble_eq_true rfl)
  rw [lg_entry_eq]
  generalize (lg_sl ([.ref h0, .int x0]) ++ List.replicate (3 - (lg_sl ([.ref h0, .int x0])).length) Slot.unset).toArray = ls at hl ⊢
  have hl : lv_has ls 3 [(0, .ref h0), (1, .int x0)] := hl
  refine lv_aload_n hx hb dX11_cut_0 rfl (lv_at hl 0 rfl) ?_
  refine lv_iload_n hx hb dX11_cut_1 rfl (lv_at hl 1 rfl) ?_
  refine xb_goq (wr := []) (va_runV (As := [.int x0]) (rest := []) ⟨hx, hb, hml, hown, htb⟩ (cg_codeOf l D g h0 qc n fl wp x0 (Array.size s.heap) ) (bg_V 1 htb bg_76 bg_78 bg_79 bg_18 bg_77 rfl rfl (by decide +kernel) ⟨Nat.le_of_ble_eq_true rfl, Nat.le_of_ble_eq_true rfl⟩) ⟨xb_blind xe_ok, va_recv hK hP (ci := 11) (q0 := 0) rfl rfl, xb_enter xe_ok hK hP hD hS hA hE [0] rfl rfl rfl [] rfl⟩ rfl rfl hl.1 rfl (lv_room (Nat.le_of_ble_eq_true rfl)) dX11_cut_2 ⟨Nat.le_of_ble_eq_true rfl, Nat.le_of_ble_eq_true rfl⟩) hK hP hD hS hA [0] [] rfl rfl rfl (by decide) (fun r_2 u_2 H locs hw_2 hP hD hK hS => ?_)
  have hP : va_P D vwCl [(h0, .inr (11, [.ref qc, .int n, .ref fl, .null, .int wp]))] H := hP
  have hD : va_D A [(h0, .inr (11, [.ref qc, .int n, .ref fl, .null, .int wp]))] := hD
  have hK : va_K D vwCl [] s := hK
  refine W.widen (k := 0) (n := 0) (by decide) (by decide) ?_
  have hw_2 : r_2 = none := hw_2
  subst hw_2
  refine lv_astore_nN (lv' := [(2, .null), (0, .ref h0), (1, .int x0)]) hx hb dX11_cut_5 rfl hl (by decide) rfl (fun ls hl => ?_)
  refine lv_aload_nN hx hb dX11_cut_6 rfl (lv_at hl 0 rfl) ?_
  refine lv_ifnonnullN hx hb dX11_cut_7 ?_
  refine lv_iconst (v := (-1)) hx hb dX11_cut_10 (by decide) ?_
  refine lv_goto (tgt := 18) hx hb dX11_cut_11 (by decide) ?_
  have hP9 := hP.sub (ws' := [(h0, .inr (11, [.ref qc, .int n, .ref fl, .null, .int wp]))]) [0] rfl
  have hD9 := hD.sub (ws' := [(h0, .inr (11, [.ref qc, .int n, .ref fl, .null, .int wp]))]) [0] rfl rfl
  have hK9 := hK.sub (tys' := []) [] rfl
  exact W.iret (v := (-1)) hx hb hr (fun t ht hW => ⟨⟨(-1), (), rfl, rfl, by rw [ht]; exact hP9, va_K.moved hW.alike hK9, hD9⟩, hS.F ht⟩) hS.2.2 dX11_cut_18
theorem dX11_jump_0 : decode cX11_jump 0 = .ok (.aload_n 0, 1) := by decide +kernel
theorem dX11_jump_1 : decode cX11_jump 1 = .ok (.iload_n 1, 1) := by decide +kernel
theorem dX11_jump_2 : decode cX11_jump 2 = .ok (.invokevirtual 211, 3) := by decide +kernel
theorem dX11_jump_5 : decode cX11_jump 5 = .ok (.astore 5, 2) := by decide +kernel
theorem dX11_jump_7 : decode cX11_jump 7 = .ok (.aload 5, 2) := by decide +kernel
theorem dX11_jump_9 : decode cX11_jump 9 = .ok (.ifnull 16, 3) := by decide +kernel
theorem dX11_jump_25 : decode cX11_jump 25 = .ok (.iconst (-1), 1) := by decide +kernel
theorem dX11_jump_26 : decode cX11_jump 26 = .ok (.goto 12, 3) := by decide +kernel
theorem dX11_jump_38 : decode cX11_jump 38 = .ok (.ireturn, 1) := by decide +kernel
set_option maxHeartbeats 4000000 in
set_option maxRecDepth 100000 in
theorem cg_jump (l : Launch) (D : va_G) (g : xe_G) (h0 : Nat) (qc : Nat) (n : Int32) (fl : Nat) (wp : Int32) (x0 : Int32) (x1 : Int32) (x2 : Int32) (x3 : Int32) (sz : Nat)  : Met l yX11_jump (.code yX11_jump cX11_jump 6 (some .int) :: bg) ({ frames := 2, cells := 0, slots := 0, locals := 240 } : Room) (xb_Pre (xe_E g) D vwCl [(h0, .inr (11, [.ref qc, .int n, .ref fl, .null, .int wp]))] [] sz [.ref h0, .int x0, .int x1, .int x2, .int x3]) (va_Qi (fun r _ => r = -1) (xb_B D vwCl (va_A [(h0, .inr (11, [.ref qc, .int n, .ref fl, .null, .int wp]))] sz) (fun u : Unit => [(h0, .inr (11, [.ref qc, .int n, .ref fl, .null, .int wp]))]) (fun u : Unit => [])) (va_A [(h0, .inr (11, [.ref qc, .int n, .ref fl, .null, .int wp]))] sz)) 0 0 (va_A [(h0, .inr (11, [.ref qc, .int n, .ref fl, .null, .int wp]))] sz) := by
  refine Met.ofW (cc := cX11_jump) (maxL := 6) (ret := (some .int)) (by decide) rfl ?_
  intro p e s m args below meth c s₁ B hml hv
  obtain ⟨rfl, hsz, hP, hK, hD0, hE⟩ := hv
  have hx := B.exec
  have hb := B.bytes
  have hr := B.returns
  have hts := atoms_spec (ws := (.code yX11_jump cX11_jump 6 (some .int) :: bg)) B.pre
  have htb : ∀ w ∈ bg, w.before _ s = true := fun w h => hts w (List.mem_cons_of_mem _ h)
  have hown : s.vm.findClass RX11 = some m.cls := findClass_of_methodNamed B.named
  have hlocks := B.notSynchronized
  subst hsz
  have hD := hD0.self (sz := s.heap.size)
  generalize hAe : va_A [(h0, .inr (11, [.ref qc, .int n, .ref fl, .null, .int wp]))] s.heap.size = A at hD hE ⊢
  have hA : ∀ q : Nat, s.heap.size ≤ q → A q := fun q h => by rw [← hAe]; exact Or.inr h
  have hS : va_S A s.heap s.heap [] := va_S.rf
  have hP : va_P D vwCl [(h0, .inr (11, [.ref qc, .int n, .ref fl, .null, .int wp]))] s.heap := hP
  have hl := lv_entry ([.ref h0, .int x0, .int x1, .int x2, .int x3]) (n := 6) (Nat.le_of_ble_eq_true rfl)
  rw [lg_entry_eq]
  generalize (lg_sl ([.ref h0, .int x0, .int x1, .int x2, .int x3]) ++ List.replicate (6 - (lg_sl ([.ref h0, .int x0, .int x1, .int x2, .int x3])).length) Slot.unset).toArray = ls at hl ⊢
  have hl : lv_has ls 6 [(0, .ref h0), (1, .int x0), (2, .int x1), (3, .int x2), (4, .int x3)] := hl
  refine lv_aload_n hx hb dX11_jump_0 rfl (lv_at hl 0 rfl) ?_
  refine lv_iload_n hx hb dX11_jump_1 rfl (lv_at hl 1 rfl) ?_
  refine xb_goq (wr := []) (va_runV (As := [.int x0]) (rest := []) ⟨hx, hb, hml, hown, htb⟩ (cg_codeOf l D g h0 qc n fl wp x0 (Array.size s.heap) ) (bg_V 1 htb bg_76 bg_78 bg_79 bg_18 bg_77 rfl rfl (by decide +kernel) ⟨Nat.le_of_ble_eq_true rfl, Nat.le_of_ble_eq_true rfl⟩) ⟨xb_blind xe_ok, va_recv hK hP (ci := 11) (q0 := 0) rfl rfl, xb_enter xe_ok hK hP hD hS hA hE [0] rfl rfl rfl [] rfl⟩ rfl rfl hl.1 rfl (lv_room (Nat.le_of_ble_eq_true rfl)) dX11_jump_2 ⟨Nat.le_of_ble_eq_true rfl, Nat.le_of_ble_eq_true rfl⟩) hK hP hD hS hA [0] [] rfl rfl rfl (by decide) (fun r_2 u_2 H locs hw_2 hP hD hK hS => ?_)
  have hP : va_P D vwCl [(h0, .inr (11, [.ref qc, .int n, .ref fl, .null, .int wp]))] H := hP
  have hD : va_D A [(h0, .inr (11, [.ref qc, .int n, .ref fl, .null, .int wp]))] := hD
  have hK : va_K D vwCl [] s := hK
  refine W.widen (k := 0) (n := 0) (by decide) (by decide) ?_
  have hw_2 : r_2 = none := hw_2
  subst hw_2
  refine lv_astoreN (lv' := [(5, .null), (0, .ref h0), (1, .int x0), (2, .int x1), (3, .int x2), (4, .int x3)]) hx hb dX11_jump_5 hl (by decide) rfl (fun ls hl => ?_)
  refine lv_aloadN hx hb dX11_jump_7 (lv_at hl 0 rfl) ?_
  refine lv_ifnullN (tgt := 25) hx hb dX11_jump_9 (by decide) ?_
  refine lv_iconst (v := (-1)) hx hb dX11_jump_25 (by decide) ?_
  refine lv_goto (tgt := 38) hx hb dX11_jump_26 (by decide) ?_
  have hP9 := hP.sub (ws' := [(h0, .inr (11, [.ref qc, .int n, .ref fl, .null, .int wp]))]) [0] rfl
  have hD9 := hD.sub (ws' := [(h0, .inr (11, [.ref qc, .int n, .ref fl, .null, .int wp]))]) [0] rfl rfl
  have hK9 := hK.sub (tys' := []) [] rfl
  exact W.iret (v := (-1)) hx hb hr (fun t ht hW => ⟨⟨(-1), (), rfl, rfl, by rw [ht]; exact hP9, va_K.moved hW.alike hK9, hD9⟩, hS.F ht⟩) hS.2.2 dX11_jump_38
