theorem dX12_thrown_0 : decode cX12_thrown 0 = .ok (.aload_n 0, 1) := by decide +kernel
theorem dX12_thrown_1 : decode cX12_thrown 1 = .ok (.getfield 1, 3) := by decide +kernel
theorem dX12_thrown_4 : decode cX12_thrown 4 = .ok (.ireturn, 1) := by decide +kernel
set_option maxHeartbeats 4000000 in
set_option maxRecDepth 100000 in
theorem mm_thrown (l : Launch) (D : va_G) (g : xe_G) (m0 : Nat) (fs : List Value) (tv : Int32) (sz : Nat) (hm : md_has fs [(0, .int tv)]) : Met l yX12_thrown (.code yX12_thrown cX12_thrown 1 (some .int) :: bg) ({ frames := 1, cells := 0, slots := 0, locals := 120 } : Room) (xb_Pre (xe_E g) D vwCl [(m0, .inr (12, fs))] [] sz [.ref m0]) (va_Qi (fun r _ => r = tv) (xb_B D vwCl (va_A [(m0, .inr (12, fs))] sz) (fun u : Unit => [(m0, .inr (12, fs))]) (fun u : Unit => [])) (va_A [(m0, .inr (12, fs))] sz)) 0 0 (va_A [(m0, .inr (12, fs))] sz) := by
  refine Met.ofW (cc := cX12_thrown) (maxL := 1) (ret := (some .int)) (by decide) rfl ?_
  intro p e s m args below meth c s₁ B hml hv
  obtain ⟨rfl, hsz, hP, hK, hD0, hE⟩ := hv
  have hx := B.exec
  have hb := B.bytes
  have hr := B.returns
  have hts := atoms_spec (ws := (.code yX12_thrown cX12_thrown 1 (some .int) :: bg)) B.pre
  have htb : ∀ w ∈ bg, w.before _ s = true := fun w h => hts w (List.mem_cons_of_mem _ h)
  have hown : s.vm.findClass RX12 = some m.cls := findClass_of_methodNamed B.named
  have hlocks := B.notSynchronized
  subst hsz
  have hD := hD0.self (sz := s.heap.size)
  generalize hAe : va_A [(m0, .inr (12, fs))] s.heap.size = A at hD hE ⊢
  have hA : ∀ q : Nat, s.heap.size ≤ q → A q := fun q h => by rw [← hAe]; exact Or.inr h
  have hS : va_S A s.heap s.heap [] := va_S.rf
  have hP : va_P D vwCl [(m0, .inr (12, fs))] s.heap := hP
  have hl := lv_entry ([.ref m0]) (n := 1) (Nat.le_of_ble_eq_true rfl)
  rw [lg_entry_eq]
  generalize (lg_sl ([.ref m0]) ++ List.replicate (1 - (lg_sl ([.ref m0])).length) Slot.unset).toArray = ls at hl ⊢
  have hl : lv_has ls 1 [(0, .ref m0)] := hl
  refine lv_aload_n hx hb dX12_thrown_0 rfl (lv_at hl 0 rfl) ?_
  refine va_get (D := D) (ci := 12) (v := .int tv) (C := RX12) (T := TX12) (N := 82) hx hb htb bi_X12 hown hK hP 0 rfl rfl 0 (by decide) (htb _ bg_88) (fun _ h9 => h9) (md_at hm 0 rfl) dX12_thrown_1 ?_
  have hP9 := hP.sub (ws' := [(m0, .inr (12, fs))]) [0] rfl
  have hD9 := hD.sub (ws' := [(m0, .inr (12, fs))]) [0] rfl rfl
  have hK9 := hK.sub (tys' := []) [] rfl
  exact W.iret (v := tv) hx hb hr (fun t ht hW => ⟨⟨tv, (), rfl, rfl, by rw [ht]; exact hP9, va_K.moved hW.alike hK9, hD9⟩, hS.F ht⟩) hS.2.2 dX12_thrown_4
theorem dX12_bad_0 : decode cX12_bad 0 = .ok (.aload_n 0, 1) := by decide +kernel
theorem dX12_bad_1 : decode cX12_bad 1 = .ok (.iconst 1, 1) := by decide +kernel
theorem dX12_bad_2 : decode cX12_bad 2 = .ok (.putfield 1, 3) := by decide +kernel
theorem dX12_bad_5 : decode cX12_bad 5 = .ok (.iconst 0, 1) := by decide +kernel
theorem dX12_bad_6 : decode cX12_bad 6 = .ok (.ireturn, 1) := by decide +kernel
set_option maxHeartbeats 4000000 in
set_option maxRecDepth 100000 in
theorem mm_bad (l : Launch) (D : va_G) (g : xe_G) (m0 : Nat) (fs : List Value) (sz : Nat) (hm : md_has fs []) : Met l yX12_bad (.code yX12_bad cX12_bad 1 (some .int) :: bg) ({ frames := 1, cells := 0, slots := 0, locals := 120 } : Room) (xb_Pre (xe_E g) D vwCl [(m0, .inr (12, fs))] [] sz [.ref m0]) (va_Qi (fun r u => r = 0 ∧ md_has u [(0, .int 1)]) (xb_B D vwCl (va_A [(m0, .inr (12, fs))] sz) (fun u : List Value => [(m0, .inr (12, u))]) (fun u : List Value => [])) (va_A [(m0, .inr (12, fs))] sz)) 0 0 (va_A [(m0, .inr (12, fs))] sz) := by
  refine Met.ofW (cc := cX12_bad) (maxL := 1) (ret := (some .int)) (by decide) rfl ?_
  intro p e s m args below meth c s₁ B hml hv
  obtain ⟨rfl, hsz, hP, hK, hD0, hE⟩ := hv
  have hx := B.exec
  have hb := B.bytes
  have hr := B.returns
  have hts := atoms_spec (ws := (.code yX12_bad cX12_bad 1 (some .int) :: bg)) B.pre
  have htb : ∀ w ∈ bg, w.before _ s = true := fun w h => hts w (List.mem_cons_of_mem _ h)
  have hown : s.vm.findClass RX12 = some m.cls := findClass_of_methodNamed B.named
  have hlocks := B.notSynchronized
  subst hsz
  have hD := hD0.self (sz := s.heap.size)
  generalize hAe : va_A [(m0, .inr (12, fs))] s.heap.size = A at hD hE ⊢
  have hA : ∀ q : Nat, s.heap.size ≤ q → A q := fun q h => by rw [← hAe]; exact Or.inr h
  have hS : va_S A s.heap s.heap [] := va_S.rf
  have hP : va_P D vwCl [(m0, .inr (12, fs))] s.heap := hP
  have hl := lv_entry ([.ref m0]) (n := 1) (Nat.le_of_ble_eq_true rfl)
  rw [lg_entry_eq]
  generalize (lg_sl ([.ref m0]) ++ List.replicate (1 - (lg_sl ([.ref m0])).length) Slot.unset).toArray = ls at hl ⊢
  have hl : lv_has ls 1 [(0, .ref m0)] := hl
  refine lv_aload_n hx hb dX12_bad_0 rfl (lv_at hl 0 rfl) ?_
  refine lv_iconst (v := 1) hx hb dX12_bad_1 (by decide) ?_
  refine va_put (D := D) (ci := 12) (v := .int 1) (ty := tyX12 0) (C := RX12) (T := TX12) (N := 82) hx hb htb bi_X12 tyX12 tyX12_ok nmX12 hown hK hP hD hS 0 rfl rfl 0 (by decide) (htb _ bg_88) (fun _ h9 => h9) rfl (tyX12_ok 0 (by decide)) rfl rfl (by rw [hm.1]; decide) dX12_bad_2 (fun H locs hP hD hS => ?_)
  have hP : va_P D vwCl [(m0, .inr (12, (fs.set 0 (.int 1))))] H := hP
  have hD : va_D A [(m0, .inr (12, (fs.set 0 (.int 1))))] := hD
  have hm : md_has (fs.set 0 (.int 1)) [(0, .int 1)] := md_put hm 0 (.int 1) (by decide) rfl
  generalize (fs.set 0 (.int 1)) = fs at hP hD hm
  refine lv_iconst (v := 0) hx hb dX12_bad_5 (by decide) ?_
  have hP9 := hP.sub (ws' := [(m0, .inr (12, fs))]) [0] rfl
  have hD9 := hD.sub (ws' := [(m0, .inr (12, fs))]) [0] rfl rfl
  have hK9 := hK.sub (tys' := []) [] rfl
  exact W.iret (v := 0) hx hb hr (fun t ht hW => ⟨⟨0, fs, rfl, ⟨rfl, md_sub hm [0] rfl⟩, by rw [ht]; exact hP9, va_K.moved hW.alike hK9, hD9⟩, hS.F ht⟩) hS.2.2 dX12_bad_6
theorem dX12_character_0 : decode cX12_character 0 = .ok (.aload_n 0, 1) := by decide +kernel
theorem dX12_character_1 : decode cX12_character 1 = .ok (.iconst 0, 1) := by decide +kernel
theorem dX12_character_2 : decode cX12_character 2 = .ok (.putfield 1, 3) := by decide +kernel
theorem dX12_character_5 : decode cX12_character 5 = .ok (.aload_n 0, 1) := by decide +kernel
theorem dX12_character_6 : decode cX12_character 6 = .ok (.getfield 49, 3) := by decide +kernel
theorem dX12_character_9 : decode cX12_character 9 = .ok (.ifCond .lt 29, 3) := by decide +kernel
theorem dX12_character_38 : decode cX12_character 38 = .ok (.iconst (-1), 1) := by decide +kernel
theorem dX12_character_39 : decode cX12_character 39 = .ok (.goto 13, 3) := by decide +kernel
theorem dX12_character_52 : decode cX12_character 52 = .ok (.ireturn, 1) := by decide +kernel
set_option maxHeartbeats 4000000 in
set_option maxRecDepth 100000 in
theorem mm_character (l : Launch) (D : va_G) (g : xe_G) (m0 : Nat) (fs : List Value) (x0 : Int32) (x1 : Int32) (sz : Nat) (hm : md_has fs [(18, .int (-1))]) : Met l yX12_character (.code yX12_character cX12_character 3 (some .int) :: bg) ({ frames := 1, cells := 0, slots := 0, locals := 120 } : Room) (xb_Pre (xe_E g) D vwCl [(m0, .inr (12, fs))] [] sz [.ref m0, .int x0, .int x1]) (va_Qi (fun r u => r = -1 ∧ md_has u [(0, .int 0)]) (xb_B D vwCl (va_A [(m0, .inr (12, fs))] sz) (fun u : List Value => [(m0, .inr (12, u))]) (fun u : List Value => [])) (va_A [(m0, .inr (12, fs))] sz)) 0 0 (va_A [(m0, .inr (12, fs))] sz) := by
  refine Met.ofW (cc := cX12_character) (maxL := 3) (ret := (some .int)) (by decide) rfl ?_
  intro p e s m args below meth c s₁ B hml hv
  obtain ⟨rfl, hsz, hP, hK, hD0, hE⟩ := hv
  have hx := B.exec
  have hb := B.bytes
  have hr := B.returns
  have hts := atoms_spec (ws := (.code yX12_character cX12_character 3 (some .int) :: bg)) B.pre
  have htb : ∀ w ∈ bg, w.before _ s = true := fun w h => hts w (List.mem_cons_of_mem _ h)
  have hown : s.vm.findClass RX12 = some m.cls := findClass_of_methodNamed B.named
  have hlocks := B.notSynchronized
  subst hsz
  have hD := hD0.self (sz := s.heap.size)
  generalize hAe : va_A [(m0, .inr (12, fs))] s.heap.size = A at hD hE ⊢
  have hA : ∀ q : Nat, s.heap.size ≤ q → A q := fun q h => by rw [← hAe]; exact Or.inr h
  have hS : va_S A s.heap s.heap [] := va_S.rf
  have hP : va_P D vwCl [(m0, .inr (12, fs))] s.heap := hP
  have hl := lv_entry ([.ref m0, .int x0, .int x1]) (n := 3) (Nat.le_of_ble_eq_true rfl)
  rw [lg_entry_eq]
  generalize (lg_sl ([.ref m0, .int x0, .int x1]) ++ List.replicate (3 - (lg_sl ([.ref m0, .int x0, .int x1])).length) Slot.unset).toArray = ls at hl ⊢
  have hl : lv_has ls 3 [(0, .ref m0), (1, .int x0), (2, .int x1)] := hl
  refine lv_aload_n hx hb dX12_character_0 rfl (lv_at hl 0 rfl) ?_
  refine lv_iconst (v := 0) hx hb dX12_character_1 (by decide) ?_
  refine va_put (D := D) (ci := 12) (v := .int 0) (ty := tyX12 0) (C := RX12) (T := TX12) (N := 82) hx hb htb bi_X12 tyX12 tyX12_ok nmX12 hown hK hP hD hS 0 rfl rfl 0 (by decide) (htb _ bg_88) (fun _ h9 => h9) rfl (tyX12_ok 0 (by decide)) rfl rfl (by rw [hm.1]; decide) dX12_character_2 (fun H locs hP hD hS => ?_)
  have hP : va_P D vwCl [(m0, .inr (12, (fs.set 0 (.int 0))))] H := hP
  have hD : va_D A [(m0, .inr (12, (fs.set 0 (.int 0))))] := hD
  have hm : md_has (fs.set 0 (.int 0)) [(0, .int 0), (18, .int (-1))] := md_put hm 0 (.int 0) (by decide) rfl
  generalize (fs.set 0 (.int 0)) = fs at hP hD hm
  refine lv_aload_n hx hb dX12_character_5 rfl (lv_at hl 0 rfl) ?_
  refine va_get (D := D) (ci := 12) (v := .int (-1)) (C := RX12) (T := TX12) (N := 82) hx hb htb bi_X12 hown hK hP 0 rfl rfl 18 (by decide) (htb _ bg_106) (fun _ h9 => h9) (md_at hm 1 rfl) dX12_character_6 ?_
  refine lv_if_lt (tgt := 38) hx hb dX12_character_9 (by decide) (fun c_9 => ?_) (fun c_9 => ?_)
  rotate_left
  · exact absurd (by decide) c_9
  refine lv_iconst (v := (-1)) hx hb dX12_character_38 (by decide) ?_
  refine lv_goto (tgt := 52) hx hb dX12_character_39 (by decide) ?_
  have hP9 := hP.sub (ws' := [(m0, .inr (12, fs))]) [0] rfl
  have hD9 := hD.sub (ws' := [(m0, .inr (12, fs))]) [0] rfl rfl
  have hK9 := hK.sub (tys' := []) [] rfl
  exact W.iret (v := (-1)) hx hb hr (fun t ht hW => ⟨⟨(-1), fs, rfl, ⟨rfl, md_sub hm [0] rfl⟩, by rw [ht]; exact hP9, va_K.moved hW.alike hK9, hD9⟩, hS.F ht⟩) hS.2.2 dX12_character_52
theorem dX12_places_0 : decode cX12_places 0 = .ok (.aload_n 0, 1) := by decide +kernel
theorem dX12_places_1 : decode cX12_places 1 = .ok (.iconst 0, 1) := by decide +kernel
theorem dX12_places_2 : decode cX12_places 2 = .ok (.putfield 1, 3) := by decide +kernel
theorem dX12_places_5 : decode cX12_places 5 = .ok (.aload_n 0, 1) := by decide +kernel
theorem dX12_places_6 : decode cX12_places 6 = .ok (.getfield 49, 3) := by decide +kernel
theorem dX12_places_9 : decode cX12_places 9 = .ok (.ifCond .lt 12, 3) := by decide +kernel
theorem dX12_places_21 : decode cX12_places 21 = .ok (.iconst (-1), 1) := by decide +kernel
theorem dX12_places_22 : decode cX12_places 22 = .ok (.ireturn, 1) := by decide +kernel
set_option maxHeartbeats 4000000 in
set_option maxRecDepth 100000 in
theorem mm_places (l : Launch) (D : va_G) (g : xe_G) (m0 : Nat) (fs : List Value) (x0 : Int32) (sz : Nat) (hm : md_has fs [(18, .int (-1))]) : Met l yX12_places (.code yX12_places cX12_places 5 (some .int) :: bg) ({ frames := 1, cells := 0, slots := 0, locals := 120 } : Room) (xb_Pre (xe_E g) D vwCl [(m0, .inr (12, fs))] [] sz [.ref m0, .int x0]) (va_Qi (fun r u => r = -1 ∧ md_has u [(0, .int 0)]) (xb_B D vwCl (va_A [(m0, .inr (12, fs))] sz) (fun u : List Value => [(m0, .inr (12, u))]) (fun u : List Value => [])) (va_A [(m0, .inr (12, fs))] sz)) 0 0 (va_A [(m0, .inr (12, fs))] sz) := by
  refine Met.ofW (cc := cX12_places) (maxL := 5) (ret := (some .int)) (by decide) rfl ?_
  intro p e s m args below meth c s₁ B hml hv
  obtain ⟨rfl, hsz, hP, hK, hD0, hE⟩ := hv
  have hx := B.exec
  have hb := B.bytes
  have hr := B.returns
  have hts := atoms_spec (ws := (.code yX12_places cX12_places 5 (some .int) :: bg)) B.pre
  have htb : ∀ w ∈ bg, w.before _ s = true := fun w h => hts w (List.mem_cons_of_mem _ h)
  have hown : s.vm.findClass RX12 = some m.cls := findClass_of_methodNamed B.named
  have hlocks := B.notSynchronized
  subst hsz
  have hD := hD0.self (sz := s.heap.size)
  generalize hAe : va_A [(m0, .inr (12, fs))] s.heap.size = A at hD hE ⊢
  have hA : ∀ q : Nat, s.heap.size ≤ q → A q := fun q h => by rw [← hAe]; exact Or.inr h
  have hS : va_S A s.heap s.heap [] := va_S.rf
  have hP : va_P D vwCl [(m0, .inr (12, fs))] s.heap := hP
  have hl := lv_entry ([.ref m0, .int x0]) (n := 5) (Nat.le_of_ble_eq_true rfl)
  rw [lg_entry_eq]
  generalize (lg_sl ([.ref m0, .int x0]) ++ List.replicate (5 - (lg_sl ([.ref m0, .int x0])).length) Slot.unset).toArray = ls at hl ⊢
  have hl : lv_has ls 5 [(0, .ref m0), (1, .int x0)] := hl
  refine lv_aload_n hx hb dX12_places_0 rfl (lv_at hl 0 rfl) ?_
  refine lv_iconst (v := 0) hx hb dX12_places_1 (by decide) ?_
  refine va_put (D := D) (ci := 12) (v := .int 0) (ty := tyX12 0) (C := RX12) (T := TX12) (N := 82) hx hb htb bi_X12 tyX12 tyX12_ok nmX12 hown hK hP hD hS 0 rfl rfl 0 (by decide) (htb _ bg_88) (fun _ h9 => h9) rfl (tyX12_ok 0 (by decide)) rfl rfl (by rw [hm.1]; decide) dX12_places_2 (fun H locs hP hD hS => ?_)
  have hP : va_P D vwCl [(m0, .inr (12, (fs.set 0 (.int 0))))] H := hP
  have hD : va_D A [(m0, .inr (12, (fs.set 0 (.int 0))))] := hD
  have hm : md_has (fs.set 0 (.int 0)) [(0, .int 0), (18, .int (-1))] := md_put hm 0 (.int 0) (by decide) rfl
  generalize (fs.set 0 (.int 0)) = fs at hP hD hm
  refine lv_aload_n hx hb dX12_places_5 rfl (lv_at hl 0 rfl) ?_
  refine va_get (D := D) (ci := 12) (v := .int (-1)) (C := RX12) (T := TX12) (N := 82) hx hb htb bi_X12 hown hK hP 0 rfl rfl 18 (by decide) (htb _ bg_106) (fun _ h9 => h9) (md_at hm 1 rfl) dX12_places_6 ?_
  refine lv_if_lt (tgt := 21) hx hb dX12_places_9 (by decide) (fun c_9 => ?_) (fun c_9 => ?_)
  rotate_left
  · exact absurd (by decide) c_9
  refine lv_iconst (v := (-1)) hx hb dX12_places_21 (by decide) ?_
  have hP9 := hP.sub (ws' := [(m0, .inr (12, fs))]) [0] rfl
  have hD9 := hD.sub (ws' := [(m0, .inr (12, fs))]) [0] rfl rfl
  have hK9 := hK.sub (tys' := []) [] rfl
  exact W.iret (v := (-1)) hx hb hr (fun t ht hW => ⟨⟨(-1), fs, rfl, ⟨rfl, md_sub hm [0] rfl⟩, by rw [ht]; exact hP9, va_K.moved hW.alike hK9, hD9⟩, hS.F ht⟩) hS.2.2 dX12_places_22
theorem dX12_find_0 : decode cX12_find 0 = .ok (.aload_n 0, 1) := by decide +kernel
theorem dX12_find_1 : decode cX12_find 1 = .ok (.iconst 0, 1) := by decide +kernel
theorem dX12_find_2 : decode cX12_find 2 = .ok (.putfield 1, 3) := by decide +kernel
theorem dX12_find_5 : decode cX12_find 5 = .ok (.aload_n 0, 1) := by decide +kernel
theorem dX12_find_6 : decode cX12_find 6 = .ok (.getfield 49, 3) := by decide +kernel
theorem dX12_find_9 : decode cX12_find 9 = .ok (.ifCond .lt 21, 3) := by decide +kernel
theorem dX12_find_30 : decode cX12_find 30 = .ok (.iconst (-1), 1) := by decide +kernel
theorem dX12_find_31 : decode cX12_find 31 = .ok (.ireturn, 1) := by decide +kernel
set_option maxHeartbeats 4000000 in
set_option maxRecDepth 100000 in
theorem mm_find (l : Launch) (D : va_G) (g : xe_G) (m0 : Nat) (fs : List Value) (x0 : Int32) (x1 : Int32) (x2 : Int32) (sz : Nat) (hm : md_has fs [(18, .int (-1))]) : Met l yX12_find (.code yX12_find cX12_find 7 (some .int) :: bg) ({ frames := 1, cells := 0, slots := 0, locals := 120 } : Room) (xb_Pre (xe_E g) D vwCl [(m0, .inr (12, fs))] [] sz [.ref m0, .int x0, .int x1, .int x2]) (va_Qi (fun r u => r = -1 ∧ md_has u [(0, .int 0)]) (xb_B D vwCl (va_A [(m0, .inr (12, fs))] sz) (fun u : List Value => [(m0, .inr (12, u))]) (fun u : List Value => [])) (va_A [(m0, .inr (12, fs))] sz)) 0 0 (va_A [(m0, .inr (12, fs))] sz) := by
  refine Met.ofW (cc := cX12_find) (maxL := 7) (ret := (some .int)) (by decide) rfl ?_
  intro p e s m args below meth c s₁ B hml hv
  obtain ⟨rfl, hsz, hP, hK, hD0, hE⟩ := hv
  have hx := B.exec
  have hb := B.bytes
  have hr := B.returns
  have hts := atoms_spec (ws := (.code yX12_find cX12_find 7 (some .int) :: bg)) B.pre
  have htb : ∀ w ∈ bg, w.before _ s = true := fun w h => hts w (List.mem_cons_of_mem _ h)
  have hown : s.vm.findClass RX12 = some m.cls := findClass_of_methodNamed B.named
  have hlocks := B.notSynchronized
  subst hsz
  have hD := hD0.self (sz := s.heap.size)
  generalize hAe : va_A [(m0, .inr (12, fs))] s.heap.size = A at hD hE ⊢
  have hA : ∀ q : Nat, s.heap.size ≤ q → A q := fun q h => by rw [← hAe]; exact Or.inr h
  have hS : va_S A s.heap s.heap [] := va_S.rf
  have hP : va_P D vwCl [(m0, .inr (12, fs))] s.heap := hP
  have hl := lv_entry ([.ref m0, .int x0, .int x1, .int x2]) (n := 7) (Nat.le_of_ble_eq_true rfl)
  rw [lg_entry_eq]
  generalize (lg_sl ([.ref m0, .int x0, .int x1, .int x2]) ++ List.replicate (7 - (lg_sl ([.ref m0, .int x0, .int x1, .int x2])).length) Slot.unset).toArray = ls at hl ⊢
  have hl : lv_has ls 7 [(0, .ref m0), (1, .int x0), (2, .int x1), (3, .int x2)] := hl
  refine lv_aload_n hx hb dX12_find_0 rfl (lv_at hl 0 rfl) ?_
  refine lv_iconst (v := 0) hx hb dX12_find_1 (by decide) ?_
  refine va_put (D := D) (ci := 12) (v := .int 0) (ty := tyX12 0) (C := RX12) (T := TX12) (N := 82) hx hb htb bi_X12 tyX12 tyX12_ok nmX12 hown hK hP hD hS 0 rfl rfl 0 (by decide) (htb _ bg_88) (fun _ h9 => h9) rfl (tyX12_ok 0 (by decide)) rfl rfl (by rw [hm.1]; decide) dX12_find_2 (fun H locs hP hD hS => ?_)
  have hP : va_P D vwCl [(m0, .inr (12, (fs.set 0 (.int 0))))] H := hP
  have hD : va_D A [(m0, .inr (12, (fs.set 0 (.int 0))))] := hD
  have hm : md_has (fs.set 0 (.int 0)) [(0, .int 0), (18, .int (-1))] := md_put hm 0 (.int 0) (by decide) rfl
  generalize (fs.set 0 (.int 0)) = fs at hP hD hm
  refine lv_aload_n hx hb dX12_find_5 rfl (lv_at hl 0 rfl) ?_
  refine va_get (D := D) (ci := 12) (v := .int (-1)) (C := RX12) (T := TX12) (N := 82) hx hb htb bi_X12 hown hK hP 0 rfl rfl 18 (by decide) (htb _ bg_106) (fun _ h9 => h9) (md_at hm 1 rfl) dX12_find_6 ?_
  refine lv_if_lt (tgt := 30) hx hb dX12_find_9 (by decide) (fun c_9 => ?_) (fun c_9 => ?_)
  rotate_left
  · exact absurd (by decide) c_9
  refine lv_iconst (v := (-1)) hx hb dX12_find_30 (by decide) ?_
  have hP9 := hP.sub (ws' := [(m0, .inr (12, fs))]) [0] rfl
  have hD9 := hD.sub (ws' := [(m0, .inr (12, fs))]) [0] rfl rfl
  have hK9 := hK.sub (tys' := []) [] rfl
  exact W.iret (v := (-1)) hx hb hr (fun t ht hW => ⟨⟨(-1), fs, rfl, ⟨rfl, md_sub hm [0] rfl⟩, by rw [ht]; exact hP9, va_K.moved hW.alike hK9, hD9⟩, hS.F ht⟩) hS.2.2 dX12_find_31
theorem dX12_bootstrap_0 : decode cX12_bootstrap 0 = .ok (.aload_n 0, 1) := by decide +kernel
theorem dX12_bootstrap_1 : decode cX12_bootstrap 1 = .ok (.iconst 0, 1) := by decide +kernel
theorem dX12_bootstrap_2 : decode cX12_bootstrap 2 = .ok (.putfield 1, 3) := by decide +kernel
theorem dX12_bootstrap_5 : decode cX12_bootstrap 5 = .ok (.aload_n 0, 1) := by decide +kernel
theorem dX12_bootstrap_6 : decode cX12_bootstrap 6 = .ok (.getfield 49, 3) := by decide +kernel
theorem dX12_bootstrap_9 : decode cX12_bootstrap 9 = .ok (.ifCond .lt 19, 3) := by decide +kernel
theorem dX12_bootstrap_28 : decode cX12_bootstrap 28 = .ok (.iconst (-1), 1) := by decide +kernel
theorem dX12_bootstrap_29 : decode cX12_bootstrap 29 = .ok (.ireturn, 1) := by decide +kernel
set_option maxHeartbeats 4000000 in
set_option maxRecDepth 100000 in
theorem mm_bootstrap (l : Launch) (D : va_G) (g : xe_G) (m0 : Nat) (fs : List Value) (x0 : Int32) (x1 : Int32) (sz : Nat) (hm : md_has fs [(18, .int (-1))]) : Met l yX12_bootstrap (.code yX12_bootstrap cX12_bootstrap 5 (some .int) :: bg) ({ frames := 1, cells := 0, slots := 0, locals := 120 } : Room) (xb_Pre (xe_E g) D vwCl [(m0, .inr (12, fs))] [] sz [.ref m0, .int x0, .int x1]) (va_Qi (fun r u => r = -1 ∧ md_has u [(0, .int 0)]) (xb_B D vwCl (va_A [(m0, .inr (12, fs))] sz) (fun u : List Value => [(m0, .inr (12, u))]) (fun u : List Value => [])) (va_A [(m0, .inr (12, fs))] sz)) 0 0 (va_A [(m0, .inr (12, fs))] sz) := by
  refine Met.ofW (cc := cX12_bootstrap) (maxL := 5) (ret := (some .int)) (by decide) rfl ?_
  intro p e s m args below meth c s₁ B hml hv
  obtain ⟨rfl, hsz, hP, hK, hD0, hE⟩ := hv
  have hx := B.exec
  have hb := B.bytes
  have hr := B.returns
  have hts := atoms_spec (ws := (.code yX12_bootstrap cX12_bootstrap 5 (some .int) :: bg)) B.pre
  have htb : ∀ w ∈ bg, w.before _ s = true := fun w h => hts w (List.mem_cons_of_mem _ h)
  have hown : s.vm.findClass RX12 = some m.cls := findClass_of_methodNamed B.named
  have hlocks := B.notSynchronized
  subst hsz
  have hD := hD0.self (sz := s.heap.size)
  generalize hAe : va_A [(m0, .inr (12, fs))] s.heap.size = A at hD hE ⊢
  have hA : ∀ q : Nat, s.heap.size ≤ q → A q := fun q h => by rw [← hAe]; exact Or.inr h
  have hS : va_S A s.heap s.heap [] := va_S.rf
  have hP : va_P D vwCl [(m0, .inr (12, fs))] s.heap := hP
  have hl := lv_entry ([.ref m0, .int x0, .int x1]) (n := 5) (Nat.le_of_ble_eq_true rfl)
  rw [lg_entry_eq]
  generalize (lg_sl ([.ref m0, .int x0, .int x1]) ++ List.replicate (5 - (lg_sl ([.ref m0, .int x0, .int x1])).length) Slot.unset).toArray = ls at hl ⊢
  have hl : lv_has ls 5 [(0, .ref m0), (1, .int x0), (2, .int x1)] := hl
  refine lv_aload_n hx hb dX12_bootstrap_0 rfl (lv_at hl 0 rfl) ?_
  refine lv_iconst (v := 0) hx hb dX12_bootstrap_1 (by decide) ?_
  refine va_put (D := D) (ci := 12) (v := .int 0) (ty := tyX12 0) (C := RX12) (T := TX12) (N := 82) hx hb htb bi_X12 tyX12 tyX12_ok nmX12 hown hK hP hD hS 0 rfl rfl 0 (by decide) (htb _ bg_88) (fun _ h9 => h9) rfl (tyX12_ok 0 (by decide)) rfl rfl (by rw [hm.1]; decide) dX12_bootstrap_2 (fun H locs hP hD hS => ?_)
  have hP : va_P D vwCl [(m0, .inr (12, (fs.set 0 (.int 0))))] H := hP
  have hD : va_D A [(m0, .inr (12, (fs.set 0 (.int 0))))] := hD
  have hm : md_has (fs.set 0 (.int 0)) [(0, .int 0), (18, .int (-1))] := md_put hm 0 (.int 0) (by decide) rfl
  generalize (fs.set 0 (.int 0)) = fs at hP hD hm
  refine lv_aload_n hx hb dX12_bootstrap_5 rfl (lv_at hl 0 rfl) ?_
  refine va_get (D := D) (ci := 12) (v := .int (-1)) (C := RX12) (T := TX12) (N := 82) hx hb htb bi_X12 hown hK hP 0 rfl rfl 18 (by decide) (htb _ bg_106) (fun _ h9 => h9) (md_at hm 1 rfl) dX12_bootstrap_6 ?_
  refine lv_if_lt (tgt := 28) hx hb dX12_bootstrap_9 (by decide) (fun c_9 => ?_) (fun c_9 => ?_)
  rotate_left
  · exact absurd (by decide) c_9
  refine lv_iconst (v := (-1)) hx hb dX12_bootstrap_28 (by decide) ?_
  have hP9 := hP.sub (ws' := [(m0, .inr (12, fs))]) [0] rfl
  have hD9 := hD.sub (ws' := [(m0, .inr (12, fs))]) [0] rfl rfl
  have hK9 := hK.sub (tys' := []) [] rfl
  exact W.iret (v := (-1)) hx hb hr (fun t ht hW => ⟨⟨(-1), fs, rfl, ⟨rfl, md_sub hm [0] rfl⟩, by rw [ht]; exact hP9, va_K.moved hW.alike hK9, hD9⟩, hS.F ht⟩) hS.2.2 dX12_bootstrap_29
theorem dX12_bits_0 : decode cX12_bits 0 = .ok (.aload_n 0, 1) := by decide +kernel
theorem dX12_bits_1 : decode cX12_bits 1 = .ok (.iconst 0, 1) := by decide +kernel
theorem dX12_bits_2 : decode cX12_bits 2 = .ok (.putfield 1, 3) := by decide +kernel
theorem dX12_bits_5 : decode cX12_bits 5 = .ok (.aload_n 0, 1) := by decide +kernel
theorem dX12_bits_6 : decode cX12_bits 6 = .ok (.getfield 49, 3) := by decide +kernel
theorem dX12_bits_9 : decode cX12_bits 9 = .ok (.ifCond .ge 5, 3) := by decide +kernel
theorem dX12_bits_12 : decode cX12_bits 12 = .ok (.lconst 0, 1) := by decide +kernel
theorem dX12_bits_13 : decode cX12_bits 13 = .ok (.lreturn, 1) := by decide +kernel
set_option maxHeartbeats 4000000 in
set_option maxRecDepth 100000 in
theorem mm_bits (l : Launch) (D : va_G) (g : xe_G) (m0 : Nat) (fs : List Value) (x0 : Int32) (sz : Nat) (hm : md_has fs [(18, .int (-1))]) : Met l yX12_bits (.code yX12_bits cX12_bits 3 (some .long) :: bg) ({ frames := 1, cells := 0, slots := 0, locals := 120 } : Room) (xb_Pre (xe_E g) D vwCl [(m0, .inr (12, fs))] [] sz [.ref m0, .int x0]) (va_Ql (fun r u => r = 0 ∧ md_has u [(0, .int 0)]) (xb_B D vwCl (va_A [(m0, .inr (12, fs))] sz) (fun u : List Value => [(m0, .inr (12, u))]) (fun u : List Value => [])) (va_A [(m0, .inr (12, fs))] sz)) 0 0 (va_A [(m0, .inr (12, fs))] sz) := by
  refine Met.ofW (cc := cX12_bits) (maxL := 3) (ret := (some .long)) (by decide) rfl ?_
  intro p e s m args below meth c s₁ B hml hv
  obtain ⟨rfl, hsz, hP, hK, hD0, hE⟩ := hv
  have hx := B.exec
  have hb := B.bytes
  have hr := B.returns
  have hts := atoms_spec (ws := (.code yX12_bits cX12_bits 3 (some .long) :: bg)) B.pre
  have htb : ∀ w ∈ bg, w.before _ s = true := fun w h => hts w (List.mem_cons_of_mem _ h)
  have hown : s.vm.findClass RX12 = some m.cls := findClass_of_methodNamed B.named
  have hlocks := B.notSynchronized
  subst hsz
  have hD := hD0.self (sz := s.heap.size)
  generalize hAe : va_A [(m0, .inr (12, fs))] s.heap.size = A at hD hE ⊢
  have hA : ∀ q : Nat, s.heap.size ≤ q → A q := fun q h => by rw [← hAe]; exact Or.inr h
  have hS : va_S A s.heap s.heap [] := va_S.rf
  have hP : va_P D vwCl [(m0, .inr (12, fs))] s.heap := hP
  have hl := lv_entry ([.ref m0, .int x0]) (n := 3) (Nat.le_of_ble_eq_true rfl)
  rw [lg_entry_eq]
  generalize (lg_sl ([.ref m0, .int x0]) ++ List.replicate (3 - (lg_sl ([.ref m0, .int x0])).length) Slot.unset).toArray = ls at hl ⊢
  have hl : lv_has ls 3 [(0, .ref m0), (1, .int x0)] := hl
  refine lv_aload_n hx hb dX12_bits_0 rfl (lv_at hl 0 rfl) ?_
  refine lv_iconst (v := 0) hx hb dX12_bits_1 (by decide) ?_
  refine va_put (D := D) (ci := 12) (v := .int 0) (ty := tyX12 0) (C := RX12) (T := TX12) (N := 82) hx hb htb bi_X12 tyX12 tyX12_ok nmX12 hown hK hP hD hS 0 rfl rfl 0 (by decide) (htb _ bg_88) (fun _ h9 => h9) rfl (tyX12_ok 0 (by decide)) rfl rfl (by rw [hm.1]; decide) dX12_bits_2 (fun H locs hP hD hS => ?_)
  have hP : va_P D vwCl [(m0, .inr (12, (fs.set 0 (.int 0))))] H := hP
  have hD : va_D A [(m0, .inr (12, (fs.set 0 (.int 0))))] := hD
  have hm : md_has (fs.set 0 (.int 0)) [(0, .int 0), (18, .int (-1))] := md_put hm 0 (.int 0) (by decide) rfl
  generalize (fs.set 0 (.int 0)) = fs at hP hD hm
  refine lv_aload_n hx hb dX12_bits_5 rfl (lv_at hl 0 rfl) ?_
  refine va_get (D := D) (ci := 12) (v := .int (-1)) (C := RX12) (T := TX12) (N := 82) hx hb htb bi_X12 hown hK hP 0 rfl rfl 18 (by decide) (htb _ bg_106) (fun _ h9 => h9) (md_at hm 1 rfl) dX12_bits_6 ?_
  refine lv_if_ge (tgt := 14) hx hb dX12_bits_9 (by decide) (fun c_9 => ?_) (fun c_9 => ?_)
  · exact absurd c_9 (by decide)
  refine lv_lconst (v := 0) hx hb dX12_bits_12 (by decide) ?_
  have hP9 := hP.sub (ws' := [(m0, .inr (12, fs))]) [0] rfl
  have hD9 := hD.sub (ws' := [(m0, .inr (12, fs))]) [0] rfl rfl
  have hK9 := hK.sub (tys' := []) [] rfl
  exact W.lret (v := 0) hx hb hr (fun t ht hW => ⟨⟨0, fs, rfl, ⟨rfl, md_sub hm [0] rfl⟩, by rw [ht]; exact hP9, va_K.moved hW.alike hK9, hD9⟩, hS.F ht⟩) hS.2.2 dX12_bits_13
theorem dX12_place_0 : decode cX12_place 0 = .ok (.aload_n 0, 1) := by decide +kernel
theorem dX12_place_1 : decode cX12_place 1 = .ok (.iconst 0, 1) := by decide +kernel
theorem dX12_place_2 : decode cX12_place 2 = .ok (.putfield 1, 3) := by decide +kernel
theorem dX12_place_5 : decode cX12_place 5 = .ok (.aload_n 0, 1) := by decide +kernel
theorem dX12_place_6 : decode cX12_place 6 = .ok (.getfield 157, 3) := by decide +kernel
theorem dX12_place_9 : decode cX12_place 9 = .ok (.ireturn, 1) := by decide +kernel
set_option maxHeartbeats 4000000 in
set_option maxRecDepth 100000 in
theorem mm_place (l : Launch) (D : va_G) (g : xe_G) (m0 : Nat) (fs : List Value) (sz : Nat) (hm : md_has fs [(73, .int (-1))]) : Met l yX12_place (.code yX12_place cX12_place 1 (some .int) :: bg) ({ frames := 1, cells := 0, slots := 0, locals := 120 } : Room) (xb_Pre (xe_E g) D vwCl [(m0, .inr (12, fs))] [] sz [.ref m0]) (va_Qi (fun r u => r = -1 ∧ md_has u [(0, .int 0)]) (xb_B D vwCl (va_A [(m0, .inr (12, fs))] sz) (fun u : List Value => [(m0, .inr (12, u))]) (fun u : List Value => [])) (va_A [(m0, .inr (12, fs))] sz)) 0 0 (va_A [(m0, .inr (12, fs))] sz) := by
  refine Met.ofW (cc := cX12_place) (maxL := 1) (ret := (some .int)) (by decide) rfl ?_
  intro p e s m args below meth c s₁ B hml hv
  obtain ⟨rfl, hsz, hP, hK, hD0, hE⟩ := hv
  have hx := B.exec
  have hb := B.bytes
  have hr := B.returns
  have hts := atoms_spec (ws := (.code yX12_place cX12_place 1 (some .int) :: bg)) B.pre
  have htb : ∀ w ∈ bg, w.before _ s = true := fun w h => hts w (List.mem_cons_of_mem _ h)
  have hown : s.vm.findClass RX12 = some m.cls := findClass_of_methodNamed B.named
  have hlocks := B.notSynchronized
  subst hsz
  have hD := hD0.self (sz := s.heap.size)
  generalize hAe : va_A [(m0, .inr (12, fs))] s.heap.size = A at hD hE ⊢
  have hA : ∀ q : Nat, s.heap.size ≤ q → A q := fun q h => by rw [← hAe]; exact Or.inr h
  have hS : va_S A s.heap s.heap [] := va_S.rf
  have hP : va_P D vwCl [(m0, .inr (12, fs))] s.heap := hP
  have hl := lv_entry ([.ref m0]) (n := 1) (Nat.le_of_ble_eq_true rfl)
  rw [lg_entry_eq]
  generalize (lg_sl ([.ref m0]) ++ List.replicate (1 - (lg_sl ([.ref m0])).length) Slot.unset).toArray = ls at hl ⊢
  have hl : lv_has ls 1 [(0, .ref m0)] := hl
  refine lv_aload_n hx hb dX12_place_0 rfl (lv_at hl 0 rfl) ?_
  refine lv_iconst (v := 0) hx hb dX12_place_1 (by decide) ?_
  refine va_put (D := D) (ci := 12) (v := .int 0) (ty := tyX12 0) (C := RX12) (T := TX12) (N := 82) hx hb htb bi_X12 tyX12 tyX12_ok nmX12 hown hK hP hD hS 0 rfl rfl 0 (by decide) (htb _ bg_88) (fun _ h9 => h9) rfl (tyX12_ok 0 (by decide)) rfl rfl (by rw [hm.1]; decide) dX12_place_2 (fun H locs hP hD hS => ?_)
  have hP : va_P D vwCl [(m0, .inr (12, (fs.set 0 (.int 0))))] H := hP
  have hD : va_D A [(m0, .inr (12, (fs.set 0 (.int 0))))] := hD
  have hm : md_has (fs.set 0 (.int 0)) [(0, .int 0), (73, .int (-1))] := md_put hm 0 (.int 0) (by decide) rfl
  generalize (fs.set 0 (.int 0)) = fs at hP hD hm
  refine lv_aload_n hx hb dX12_place_5 rfl (lv_at hl 0 rfl) ?_
  refine va_get (D := D) (ci := 12) (v := .int (-1)) (C := RX12) (T := TX12) (N := 82) hx hb htb bi_X12 hown hK hP 0 rfl rfl 73 (by decide) (htb _ bg_136) (fun _ h9 => h9) (md_at hm 1 rfl) dX12_place_6 ?_
  have hP9 := hP.sub (ws' := [(m0, .inr (12, fs))]) [0] rfl
  have hD9 := hD.sub (ws' := [(m0, .inr (12, fs))]) [0] rfl rfl
  have hK9 := hK.sub (tys' := []) [] rfl
  exact W.iret (v := (-1)) hx hb hr (fun t ht hW => ⟨⟨(-1), fs, rfl, ⟨rfl, md_sub hm [0] rfl⟩, by rw [ht]; exact hP9, va_K.moved hW.alike hK9, hD9⟩, hS.F ht⟩) hS.2.2 dX12_place_9
theorem dX12_noCode_0 : decode cX12_noCode 0 = .ok (.aload_n 0, 1) := by decide +kernel
theorem dX12_noCode_1 : decode cX12_noCode 1 = .ok (.getfield 49, 3) := by decide +kernel
theorem dX12_noCode_4 : decode cX12_noCode 4 = .ok (.ifCond .lt 24, 3) := by decide +kernel
theorem dX12_noCode_28 : decode cX12_noCode 28 = .ok (.iconst 1, 1) := by decide +kernel
theorem dX12_noCode_29 : decode cX12_noCode 29 = .ok (.goto 4, 3) := by decide +kernel
theorem dX12_noCode_33 : decode cX12_noCode 33 = .ok (.ireturn, 1) := by decide +kernel
set_option maxHeartbeats 4000000 in
set_option maxRecDepth 100000 in
theorem mm_noCode (l : Launch) (D : va_G) (g : xe_G) (m0 : Nat) (fs : List Value) (x0 : Int32) (sz : Nat) (hm : md_has fs [(18, .int (-1))]) : Met l yX12_noCode (.code yX12_noCode cX12_noCode 2 (some .boolean) :: bg) ({ frames := 1, cells := 0, slots := 0, locals := 120 } : Room) (xb_Pre (xe_E g) D vwCl [(m0, .inr (12, fs))] [] sz [.ref m0, .int x0]) (va_Qi (fun r _ => r = 1) (xb_B D vwCl (va_A [(m0, .inr (12, fs))] sz) (fun u : Unit => [(m0, .inr (12, fs))]) (fun u : Unit => [])) (va_A [(m0, .inr (12, fs))] sz)) 0 0 (va_A [(m0, .inr (12, fs))] sz) := by
  refine Met.ofW (cc := cX12_noCode) (maxL := 2) (ret := (some .boolean)) (by decide) rfl ?_
  intro p e s m args below meth c s₁ B hml hv
  obtain ⟨rfl, hsz, hP, hK, hD0, hE⟩ := hv
  have hx := B.exec
  have hb := B.bytes
  have hr := B.returns
  have hts := atoms_spec (ws := (.code yX12_noCode cX12_noCode 2 (some .boolean) :: bg)) B.pre
  have htb : ∀ w ∈ bg, w.before _ s = true := fun w h => hts w (List.mem_cons_of_mem _ h)
  have hown : s.vm.findClass RX12 = some m.cls := findClass_of_methodNamed B.named
  have hlocks := B.notSynchronized
  subst hsz
  have hD := hD0.self (sz := s.heap.size)
  generalize hAe : va_A [(m0, .inr (12, fs))] s.heap.size = A at hD hE ⊢
  have hA : ∀ q : Nat, s.heap.size ≤ q → A q := fun q h => by rw [← hAe]; exact Or.inr h
  have hS : va_S A s.heap s.heap [] := va_S.rf
  have hP : va_P D vwCl [(m0, .inr (12, fs))] s.heap := hP
  have hl := lv_entry ([.ref m0, .int x0]) (n := 2) (Nat.le_of_ble_eq_true rfl)
  rw [lg_entry_eq]
  generalize (lg_sl ([.ref m0, .int x0]) ++ List.replicate (2 - (lg_sl ([.ref m0, .int x0])).length) Slot.unset).toArray = ls at hl ⊢
  have hl : lv_has ls 2 [(0, .ref m0), (1, .int x0)] := hl
  refine lv_aload_n hx hb dX12_noCode_0 rfl (lv_at hl 0 rfl) ?_
  refine va_get (D := D) (ci := 12) (v := .int (-1)) (C := RX12) (T := TX12) (N := 82) hx hb htb bi_X12 hown hK hP 0 rfl rfl 18 (by decide) (htb _ bg_106) (fun _ h9 => h9) (md_at hm 0 rfl) dX12_noCode_1 ?_
  refine lv_if_lt (tgt := 28) hx hb dX12_noCode_4 (by decide) (fun c_4 => ?_) (fun c_4 => ?_)
  rotate_left
  · exact absurd (by decide) c_4
  refine lv_iconst (v := 1) hx hb dX12_noCode_28 (by decide) ?_
  refine lv_goto (tgt := 33) hx hb dX12_noCode_29 (by decide) ?_
  have hP9 := hP.sub (ws' := [(m0, .inr (12, fs))]) [0] rfl
  have hD9 := hD.sub (ws' := [(m0, .inr (12, fs))]) [0] rfl rfl
  have hK9 := hK.sub (tys' := []) [] rfl
  exact W.zret (v := 1) hx hb hr (by decide) (fun t ht hW => ⟨⟨1, (), rfl, rfl, by rw [ht]; exact hP9, va_K.moved hW.alike hK9, hD9⟩, hS.F ht⟩) hS.2.2 dX12_noCode_33
theorem dX12_cut_0 : decode cX12_cut 0 = .ok (.aload_n 0, 1) := by decide +kernel
theorem dX12_cut_1 : decode cX12_cut 1 = .ok (.iconst 0, 1) := by decide +kernel
theorem dX12_cut_2 : decode cX12_cut 2 = .ok (.putfield 1, 3) := by decide +kernel
theorem dX12_cut_5 : decode cX12_cut 5 = .ok (.aload_n 0, 1) := by decide +kernel
theorem dX12_cut_6 : decode cX12_cut 6 = .ok (.iload_n 1, 1) := by decide +kernel
theorem dX12_cut_7 : decode cX12_cut 7 = .ok (.invokevirtual 519, 3) := by decide +kernel
theorem dX12_cut_10 : decode cX12_cut 10 = .ok (.ifCond .eq 5, 3) := by decide +kernel
theorem dX12_cut_13 : decode cX12_cut 13 = .ok (.iconst (-1), 1) := by decide +kernel
theorem dX12_cut_14 : decode cX12_cut 14 = .ok (.ireturn, 1) := by decide +kernel
set_option maxHeartbeats 4000000 in
set_option maxRecDepth 100000 in
theorem mm_cut (l : Launch) (D : va_G) (g : xe_G) (m0 : Nat) (fs : List Value) (x0 : Int32) (sz : Nat) (hm : md_has fs [(18, .int (-1))]) : Met l yX12_cut (.code yX12_cut cX12_cut 2 (some .int) :: bg) ({ frames := 2, cells := 0, slots := 0, locals := 240 } : Room) (xb_Pre (xe_E g) D vwCl [(m0, .inr (12, fs))] [] sz [.ref m0, .int x0]) (va_Qi (fun r u => r = -1 ∧ md_has u [(0, .int 0)]) (xb_B D vwCl (va_A [(m0, .inr (12, fs))] sz) (fun u : List Value => [(m0, .inr (12, u))]) (fun u : List Value => [])) (va_A [(m0, .inr (12, fs))] sz)) 0 0 (va_A [(m0, .inr (12, fs))] sz) := by
  refine Met.ofW (cc := cX12_cut) (maxL := 2) (ret := (some .int)) (by decide) rfl ?_
  intro p e s m args below meth c s₁ B hml hv
  obtain ⟨rfl, hsz, hP, hK, hD0, hE⟩ := hv
  have hx := B.exec
  have hb := B.bytes
  have hr := B.returns
  have hts := atoms_spec (ws := (.code yX12_cut cX12_cut 2 (some .int) :: bg)) B.pre
  have htb : ∀ w ∈ bg, w.before _ s = true := fun w h => hts w (List.mem_cons_of_mem _ h)
  have hown : s.vm.findClass RX12 = some m.cls := findClass_of_methodNamed B.named
  have hlocks := B.notSynchronized
  subst hsz
  have hD := hD0.self (sz := s.heap.size)
  generalize hAe : va_A [(m0, .inr (12, fs))] s.heap.size = A at hD hE ⊢
  have hA : ∀ q : Nat, s.heap.size ≤ q → A q := fun q h => by rw [← hAe]; exact Or.inr h
  have hS : va_S A s.heap s.heap [] := va_S.rf
  have hP : va_P D vwCl [(m0, .inr (12, fs))] s.heap := hP
  have hl := lv_entry ([.ref m0, .int x0]) (n := 2) (Nat.le_of_ble_eq_true rfl)
  rw [lg_entry_eq]
  generalize (lg_sl ([.ref m0, .int x0]) ++ List.replicate (2 - (lg_sl ([.ref m0, .int x0])).length) Slot.unset).toArray = ls at hl ⊢
  have hl : lv_has ls 2 [(0, .ref m0), (1, .int x0)] := hl
  refine lv_aload_n hx hb dX12_cut_0 rfl (lv_at hl 0 rfl) ?_
  refine lv_iconst (v := 0) hx hb dX12_cut_1 (by decide) ?_
  refine va_put (D := D) (ci := 12) (v := .int 0) (ty := tyX12 0) (C := RX12) (T := TX12) (N := 82) hx hb htb bi_X12 tyX12 tyX12_ok nmX12 hown hK hP hD hS 0 rfl rfl 0 (by decide) (htb _ bg_88) (fun _ h9 => h9) rfl (tyX12_ok 0 (by decide)) rfl rfl (by rw [hm.1]; decide) dX12_cut_2 (fun H locs hP hD hS => ?_)
  have hP : va_P D vwCl [(m0, .inr (12, (fs.set 0 (.int 0))))] H := hP
  have hD : va_D A [(m0, .inr (12, (fs.set 0 (.int 0))))] := hD
  have hm : md_has (fs.set 0 (.int 0)) [(0, .int 0), (18, .int (-1))] := md_put hm 0 (.int 0) (by decide) rfl
  generalize (fs.set 0 (.int 0)) = fs at hP hD hm
  refine lv_aload_n hx hb dX12_cut_5 rfl (lv_at hl 0 rfl) ?_
  refine lv_iload_n hx hb dX12_cut_6 rfl (lv_at hl 1 rfl) ?_
  refine xb_goi (wr := []) (va_runV (As := [.int x0]) (rest := []) ⟨hx, hb, hml, hown, htb⟩ (mm_noCode l D g m0 fs x0 (Array.size H) (md_sub hm [1] rfl)) (bg_V 1 htb bg_239 bg_240 bg_241 bg_144 bg_237 rfl rfl (by decide +kernel) ⟨Nat.le_of_ble_eq_true rfl, Nat.le_of_ble_eq_true rfl⟩) ⟨xb_blind xe_ok, va_recv hK hP (ci := 12) (q0 := 0) rfl rfl, xb_enter xe_ok hK hP hD hS hA hE [0] rfl rfl rfl [] rfl⟩ rfl rfl hl.1 rfl (lv_room (Nat.le_of_ble_eq_true rfl)) dX12_cut_7 ⟨Nat.le_of_ble_eq_true rfl, Nat.le_of_ble_eq_true rfl⟩) hK hP hD hS hA [0] [] rfl rfl rfl (by decide) (fun r_7 u_7 H locs hw_7 hP hD hK hS => ?_)
  have hP : va_P D vwCl [(m0, .inr (12, fs))] H := hP
  have hD : va_D A [(m0, .inr (12, fs))] := hD
  have hK : va_K D vwCl [] s := hK
  refine W.widen (k := 0) (n := 0) (by decide) (by decide) ?_
  have hw_7 : r_7 = 1 := hw_7
  subst hw_7
  refine lv_if_eq (tgt := 15) hx hb dX12_cut_10 (by decide) (fun c_10 => ?_) (fun c_10 => ?_)
  · exact absurd c_10 (by decide)
  refine lv_iconst (v := (-1)) hx hb dX12_cut_13 (by decide) ?_
  have hP9 := hP.sub (ws' := [(m0, .inr (12, fs))]) [0] rfl
  have hD9 := hD.sub (ws' := [(m0, .inr (12, fs))]) [0] rfl rfl
  have hK9 := hK.sub (tys' := []) [] rfl
  exact W.iret (v := (-1)) hx hb hr (fun t ht hW => ⟨⟨(-1), fs, rfl, ⟨rfl, md_sub hm [0] rfl⟩, by rw [ht]; exact hP9, va_K.moved hW.alike hK9, hD9⟩, hS.F ht⟩) hS.2.2 dX12_cut_14
theorem dX12_jump_0 : decode cX12_jump 0 = .ok (.aload_n 0, 1) := by decide +kernel
theorem dX12_jump_1 : decode cX12_jump 1 = .ok (.iconst 0, 1) := by decide +kernel
theorem dX12_jump_2 : decode cX12_jump 2 = .ok (.putfield 1, 3) := by decide +kernel
theorem dX12_jump_5 : decode cX12_jump 5 = .ok (.aload_n 0, 1) := by decide +kernel
theorem dX12_jump_6 : decode cX12_jump 6 = .ok (.iload_n 1, 1) := by decide +kernel
theorem dX12_jump_7 : decode cX12_jump 7 = .ok (.invokevirtual 519, 3) := by decide +kernel
theorem dX12_jump_10 : decode cX12_jump 10 = .ok (.ifCond .ne 23, 3) := by decide +kernel
theorem dX12_jump_33 : decode cX12_jump 33 = .ok (.iconst (-1), 1) := by decide +kernel
theorem dX12_jump_34 : decode cX12_jump 34 = .ok (.ireturn, 1) := by decide +kernel
set_option maxHeartbeats 4000000 in
set_option maxRecDepth 100000 in
theorem mm_jump (l : Launch) (D : va_G) (g : xe_G) (m0 : Nat) (fs : List Value) (x0 : Int32) (x1 : Int32) (x2 : Int32) (x3 : Int32) (sz : Nat) (hm : md_has fs [(18, .int (-1))]) : Met l yX12_jump (.code yX12_jump cX12_jump 7 (some .int) :: bg) ({ frames := 2, cells := 0, slots := 0, locals := 240 } : Room) (xb_Pre (xe_E g) D vwCl [(m0, .inr (12, fs))] [] sz [.ref m0, .int x0, .int x1, .int x2, .int x3]) (va_Qi (fun r u => r = -1 ∧ md_has u [(0, .int 0)]) (xb_B D vwCl (va_A [(m0, .inr (12, fs))] sz) (fun u : List Value => [(m0, .inr (12, u))]) (fun u : List Value => [])) (va_A [(m0, .inr (12, fs))] sz)) 0 0 (va_A [(m0, .inr (12, fs))] sz) := by
  refine Met.ofW (cc := cX12_jump) (maxL := 7) (ret := (some .int)) (by decide) rfl ?_
  intro p e s m args below meth c s₁ B hml hv
  obtain ⟨rfl, hsz, hP, hK, hD0, hE⟩ := hv
  have hx := B.exec
  have hb := B.bytes
  have hr := B.returns
  have hts := atoms_spec (ws := (.code yX12_jump cX12_jump 7 (some .int) :: bg)) B.pre
  have htb : ∀ w ∈ bg, w.before _ s = true := fun w h => hts w (List.mem_cons_of_mem _ h)
  have hown : s.vm.findClass RX12 = some m.cls := findClass_of_methodNamed B.named
  have hlocks := B.notSynchronized
  subst hsz
  have hD := hD0.self (sz := s.heap.size)
  generalize hAe : va_A [(m0, .inr (12, fs))] s.heap.size = A at hD hE ⊢
  have hA : ∀ q : Nat, s.heap.size ≤ q → A q := fun q h => by rw [← hAe]; exact Or.inr h
  have hS : va_S A s.heap s.heap [] := va_S.rf
  have hP : va_P D vwCl [(m0, .inr (12, fs))] s.heap := hP
  have hl := lv_entry ([.ref m0, .int x0, .int x1, .int x2, .int x3]) (n := 7) (Nat.le_of_ble_eq_true rfl)
  rw [lg_entry_eq]
  generalize (lg_sl ([.ref m0, .int x0, .int x1, .int x2, .int x3]) ++ List.replicate (7 - (lg_sl ([.ref m0, .int x0, .int x1, .int x2, .int x3])).length) Slot.unset).toArray = ls at hl ⊢
  have hl : lv_has ls 7 [(0, .ref m0), (1, .int x0), (2, .int x1), (3, .int x2), (4, .int x3)] := hl
  refine lv_aload_n hx hb dX12_jump_0 rfl (lv_at hl 0 rfl) ?_
  refine lv_iconst (v := 0) hx hb dX12_jump_1 (by decide) ?_
  refine va_put (D := D) (ci := 12) (v := .int 0) (ty := tyX12 0) (C := RX12) (T := TX12) (N := 82) hx hb htb bi_X12 tyX12 tyX12_ok nmX12 hown hK hP hD hS 0 rfl rfl 0 (by decide) (htb _ bg_88) (fun _ h9 => h9) rfl (tyX12_ok 0 (by decide)) rfl rfl (by rw [hm.1]; decide) dX12_jump_2 (fun H locs hP hD hS => ?_)
  have hP : va_P D vwCl [(m0, .inr (12, (fs.set 0 (.int 0))))] H := hP
  have hD : va_D A [(m0, .inr (12, (fs.set 0 (.int 0))))] := hD
  have hm : md_has (fs.set 0 (.int 0)) [(0, .int 0), (18, .int (-1))] := md_put hm 0 (.int 0) (by decide) rfl
  generalize (fs.set 0 (.int 0)) = fs at hP hD hm
  refine lv_aload_n hx hb dX12_jump_5 rfl (lv_at hl 0 rfl) ?_
  refine lv_iload_n hx hb dX12_jump_6 rfl (lv_at hl 1 rfl) ?_
  refine xb_goi (wr := []) (va_runV (As := [.int x0]) (rest := []) ⟨hx, hb, hml, hown, htb⟩ (mm_noCode l D g m0 fs x0 (Array.size H) (md_sub hm [1] rfl)) (bg_V 1 htb bg_239 bg_240 bg_241 bg_144 bg_237 rfl rfl (by decide +kernel) ⟨Nat.le_of_ble_eq_true rfl, Nat.le_of_ble_eq_true rfl⟩) ⟨xb_blind xe_ok, va_recv hK hP (ci := 12) (q0 := 0) rfl rfl, xb_enter xe_ok hK hP hD hS hA hE [0] rfl rfl rfl [] rfl⟩ rfl rfl hl.1 rfl (lv_room (Nat.le_of_ble_eq_true rfl)) dX12_jump_7 ⟨Nat.le_of_ble_eq_true rfl, Nat.le_of_ble_eq_true rfl⟩) hK hP hD hS hA [0] [] rfl rfl rfl (by decide) (fun r_7 u_7 H locs hw_7 hP hD hK hS => ?_)
  have hP : va_P D vwCl [(m0, .inr (12, fs))] H := hP
  have hD : va_D A [(m0, .inr (12, fs))] := hD
  have hK : va_K D vwCl [] s := hK
  refine W.widen (k := 0) (n := 0) (by decide) (by decide) ?_
  have hw_7 : r_7 = 1 := hw_7
  subst hw_7
  refine lv_if_ne (tgt := 33) hx hb dX12_jump_10 (by decide) (fun c_10 => ?_) (fun c_10 => ?_)
  rotate_left
  · exact absurd c_10 (by decide)
  refine lv_iconst (v := (-1)) hx hb dX12_jump_33 (by decide) ?_
  have hP9 := hP.sub (ws' := [(m0, .inr (12, fs))]) [0] rfl
  have hD9 := hD.sub (ws' := [(m0, .inr (12, fs))]) [0] rfl rfl
  have hK9 := hK.sub (tys' := []) [] rfl
  exact W.iret (v := (-1)) hx hb hr (fun t ht hW => ⟨⟨(-1), fs, rfl, ⟨rfl, md_sub hm [0] rfl⟩, by rw [ht]; exact hP9, va_K.moved hW.alike hK9, hD9⟩, hS.F ht⟩) hS.2.2 dX12_jump_34
theorem dX12_count_0 : decode cX12_count 0 = .ok (.aload_n 0, 1) := by decide +kernel
theorem dX12_count_1 : decode cX12_count 1 = .ok (.iconst 0, 1) := by decide +kernel
theorem dX12_count_2 : decode cX12_count 2 = .ok (.putfield 1, 3) := by decide +kernel
theorem dX12_count_5 : decode cX12_count 5 = .ok (.iload_n 1, 1) := by decide +kernel
theorem dX12_count_6 : decode cX12_count 6 = .ok (.ifCond .lt 9, 3) := by decide +kernel
theorem dX12_count_9 : decode cX12_count 9 = .ok (.iload_n 1, 1) := by decide +kernel
theorem dX12_count_10 : decode cX12_count 10 = .ok (.bipush 15, 2) := by decide +kernel
theorem dX12_count_12 : decode cX12_count 12 = .ok (.if_icmp .le 8, 3) := by decide +kernel
theorem dX12_count_15 : decode cX12_count 15 = .ok (.aload_n 0, 1) := by decide +kernel
theorem dX12_count_16 : decode cX12_count 16 = .ok (.invokevirtual 440, 3) := by decide +kernel
theorem dX12_count_19 : decode cX12_count 19 = .ok (.ireturn, 1) := by decide +kernel
theorem dX12_count_20 : decode cX12_count 20 = .ok (.aload_n 0, 1) := by decide +kernel
theorem dX12_count_21 : decode cX12_count 21 = .ok (.getfield 49, 3) := by decide +kernel
theorem dX12_count_24 : decode cX12_count 24 = .ok (.ifCond .ge 5, 3) := by decide +kernel
theorem dX12_count_27 : decode cX12_count 27 = .ok (.iconst (-1), 1) := by decide +kernel
theorem dX12_count_28 : decode cX12_count 28 = .ok (.ireturn, 1) := by decide +kernel
set_option maxHeartbeats 4000000 in
set_option maxRecDepth 100000 in
theorem mm_count (l : Launch) (D : va_G) (g : xe_G) (m0 : Nat) (fs : List Value) (x0 : Int32) (sz : Nat) (hm : md_has fs [(18, .int (-1))]) : Met l yX12_count (.code yX12_count cX12_count 4 (some .int) :: bg) ({ frames := 2, cells := 0, slots := 0, locals := 240 } : Room) (xb_Pre (xe_E g) D vwCl [(m0, .inr (12, fs))] [] sz [.ref m0, .int x0]) (va_Qi (fun r u => (¬ x0 < 0 ∧ x0 ≤ 15 ∧ r = -1 ∧ md_has u [(0, .int 0)]) ∨ ((x0 < 0 ∨ ¬ x0 ≤ 15) ∧ md_has u [(0, .int 1)])) (xb_B D vwCl (va_A [(m0, .inr (12, fs))] sz) (fun u : List Value => [(m0, .inr (12, u))]) (fun u : List Value => [])) (va_A [(m0, .inr (12, fs))] sz)) 0 0 (va_A [(m0, .inr (12, fs))] sz) := by
  refine Met.ofW (cc := cX12_count) (maxL := 4) (ret := (some .int)) (by decide) rfl ?_
  intro p e s m args below meth c s₁ B hml hv
  obtain ⟨rfl, hsz, hP, hK, hD0, hE⟩ := hv
  have hx := B.exec
  have hb := B.bytes
  have hr := B.returns
  have hts := atoms_spec (ws := (.code yX12_count cX12_count 4 (some .int) :: bg)) B.pre
  have htb : ∀ w ∈ bg, w.before _ s = true := fun w h => hts w (List.mem_cons_of_mem _ h)
  have hown : s.vm.findClass RX12 = some m.cls := findClass_of_methodNamed B.named
  have hlocks := B.notSynchronized
  subst hsz
  have hD := hD0.self (sz := s.heap.size)
  generalize hAe : va_A [(m0, .inr (12, fs))] s.heap.size = A at hD hE ⊢
  have hA : ∀ q : Nat, s.heap.size ≤ q → A q := fun q h => by rw [← hAe]; exact Or.inr h
  have hS : va_S A s.heap s.heap [] := va_S.rf
  have hP : va_P D vwCl [(m0, .inr (12, fs))] s.heap := hP
  have hl := lv_entry ([.ref m0, .int x0]) (n := 4) (Nat.le_of_ble_eq_true rfl)
  rw [lg_entry_eq]
  generalize (lg_sl ([.ref m0, .int x0]) ++ List.replicate (4 - (lg_sl ([.ref m0, .int x0])).length) Slot.unset).toArray = ls at hl ⊢
  have hl : lv_has ls 4 [(0, .ref m0), (1, .int x0)] := hl
  refine lv_aload_n hx hb dX12_count_0 rfl (lv_at hl 0 rfl) ?_
  refine lv_iconst (v := 0) hx hb dX12_count_1 (by decide) ?_
  refine va_put (D := D) (ci := 12) (v := .int 0) (ty := tyX12 0) (C := RX12) (T := TX12) (N := 82) hx hb htb bi_X12 tyX12 tyX12_ok nmX12 hown hK hP hD hS 0 rfl rfl 0 (by decide) (htb _ bg_88) (fun _ h9 => h9) rfl (tyX12_ok 0 (by decide)) rfl rfl (by rw [hm.1]; decide) dX12_count_2 (fun H locs hP hD hS => ?_)
  have hP : va_P D vwCl [(m0, .inr (12, (fs.set 0 (.int 0))))] H := hP
  have hD : va_D A [(m0, .inr (12, (fs.set 0 (.int 0))))] := hD
  have hm : md_has (fs.set 0 (.int 0)) [(0, .int 0), (18, .int (-1))] := md_put hm 0 (.int 0) (by decide) rfl
  generalize (fs.set 0 (.int 0)) = fs at hP hD hm
  refine lv_iload_n hx hb dX12_count_5 rfl (lv_at hl 1 rfl) ?_
  refine lv_if_lt (tgt := 15) hx hb dX12_count_6 (by decide) (fun c_6 => ?_) (fun c_6 => ?_)
  · skip
    refine lv_aload_n hx hb dX12_count_15 rfl (lv_at hl 0 rfl) ?_
    refine xb_goi (wr := []) (va_runV (As := []) (rest := []) ⟨hx, hb, hml, hown, htb⟩ (mm_bad l D g m0 fs (Array.size H) (md_sub hm [] rfl)) (bg_V 0 htb bg_213 bg_214 bg_215 bg_144 bg_211 rfl rfl (by decide +kernel) ⟨Nat.le_of_ble_eq_true rfl, Nat.le_of_ble_eq_true rfl⟩) ⟨xb_blind xe_ok, va_recv hK hP (ci := 12) (q0 := 0) rfl rfl, xb_enter xe_ok hK hP hD hS hA hE [0] rfl rfl rfl [] rfl⟩ rfl rfl hl.1 rfl (lv_room (Nat.le_of_ble_eq_true rfl)) dX12_count_16 ⟨Nat.le_of_ble_eq_true rfl, Nat.le_of_ble_eq_true rfl⟩) hK hP hD hS hA [0] [] rfl rfl rfl (by decide) (fun r_16 u_16 H locs hw_16 hP hD hK hS => ?_)
    generalize u_16 = fs at hP hD hK hw_16
    have hP : va_P D vwCl [(m0, .inr (12, fs))] H := hP
    have hD : va_D A [(m0, .inr (12, fs))] := hD
    have hK : va_K D vwCl [] s := hK
    refine W.widen (k := 0) (n := 0) (by decide) (by decide) ?_
    obtain ⟨hw_16, hm⟩ := hw_16
    have hw_16 : r_16 = 0 := hw_16
    subst hw_16
    have hP9 := hP.sub (ws' := [(m0, .inr (12, fs))]) [0] rfl
    have hD9 := hD.sub (ws' := [(m0, .inr (12, fs))]) [0] rfl rfl
    have hK9 := hK.sub (tys' := []) [] rfl
    exact W.iret (v := 0) hx hb hr (fun t ht hW => ⟨⟨0, fs, rfl, Or.inr ⟨by first | exact Or.inl c_6 | exact Or.inr c_12, md_sub hm [0] rfl⟩, by rw [ht]; exact hP9, va_K.moved hW.alike hK9, hD9⟩, hS.F ht⟩) hS.2.2 dX12_count_19
  · skip
    refine lv_iload_n hx hb dX12_count_9 rfl (lv_at hl 1 rfl) ?_
    refine lv_bipush (v := 15) hx hb dX12_count_10 (by decide) ?_
    refine lv_icmp_le (tgt := 20) hx hb dX12_count_12 (by decide) (fun c_12 => ?_) (fun c_12 => ?_)
    · skip
      refine lv_aload_n hx hb dX12_count_20 rfl (lv_at hl 0 rfl) ?_
      refine va_get (D := D) (ci := 12) (v := .int (-1)) (C := RX12) (T := TX12) (N := 82) hx hb htb bi_X12 hown hK hP 0 rfl rfl 18 (by decide) (htb _ bg_106) (fun _ h9 => h9) (md_at hm 1 rfl) dX12_count_21 ?_
      refine lv_if_ge (tgt := 29) hx hb dX12_count_24 (by decide) (fun c_24 => ?_) (fun c_24 => ?_)
      · exact absurd c_24 (by decide)
      refine lv_iconst (v := (-1)) hx hb dX12_count_27 (by decide) ?_
      have hP9 := hP.sub (ws' := [(m0, .inr (12, fs))]) [0] rfl
      have hD9 := hD.sub (ws' := [(m0, .inr (12, fs))]) [0] rfl rfl
      have hK9 := hK.sub (tys' := []) [] rfl
      exact W.iret (v := (-1)) hx hb hr (fun t ht hW => ⟨⟨(-1), fs, rfl, Or.inl ⟨c_6, c_12, rfl, md_sub hm [0] rfl⟩, by rw [ht]; exact hP9, va_K.moved hW.alike hK9, hD9⟩, hS.F ht⟩) hS.2.2 dX12_count_28
    · skip
      refine lv_aload_n hx hb dX12_count_15 rfl (lv_at hl 0 rfl) ?_
      refine xb_goi (wr := []) (va_runV (As := []) (rest := []) ⟨hx, hb, hml, hown, htb⟩ (mm_bad l D g m0 fs (Array.size H) (md_sub hm [] rfl)) (bg_V 0 htb bg_213 bg_214 bg_215 bg_144 bg_211 rfl rfl (by decide +kernel) ⟨Nat.le_of_ble_eq_true rfl, Nat.le_of_ble_eq_true rfl⟩) ⟨xb_blind xe_ok, va_recv hK hP (ci := 12) (q0 := 0) rfl rfl, xb_enter xe_ok hK hP hD hS hA hE [0] rfl rfl rfl [] rfl⟩ rfl rfl hl.1 rfl (lv_room (Nat.le_of_ble_eq_true rfl)) dX12_count_16 ⟨Nat.le_of_ble_eq_true rfl, Nat.le_of_ble_eq_true rfl⟩) hK hP hD hS hA [0] [] rfl rfl rfl (by decide) (fun r_16 u_16 H locs hw_16 hP hD hK hS => ?_)
      generalize u_16 = fs at hP hD hK hw_16
      have hP : va_P D vwCl [(m0, .inr (12, fs))] H := hP
      have hD : va_D A [(m0, .inr (12, fs))] := hD
      have hK : va_K D vwCl [] s := hK
      refine W.widen (k := 0) (n := 0) (by decide) (by decide) ?_
      obtain ⟨hw_16, hm⟩ := hw_16
      have hw_16 : r_16 = 0 := hw_16
      subst hw_16
      have hP9 := hP.sub (ws' := [(m0, .inr (12, fs))]) [0] rfl
      have hD9 := hD.sub (ws' := [(m0, .inr (12, fs))]) [0] rfl rfl
      have hK9 := hK.sub (tys' := []) [] rfl
      exact W.iret (v := 0) hx hb hr (fun t ht hW => ⟨⟨0, fs, rfl, Or.inr ⟨by first | exact Or.inl c_6 | exact Or.inr c_12, md_sub hm [0] rfl⟩, by rw [ht]; exact hP9, va_K.moved hW.alike hK9, hD9⟩, hS.F ht⟩) hS.2.2 dX12_count_19
theorem dX12_entry_0 : decode cX12_entry 0 = .ok (.aload_n 0, 1) := by decide +kernel
theorem dX12_entry_1 : decode cX12_entry 1 = .ok (.iconst 0, 1) := by decide +kernel
theorem dX12_entry_2 : decode cX12_entry 2 = .ok (.putfield 1, 3) := by decide +kernel
theorem dX12_entry_5 : decode cX12_entry 5 = .ok (.iload_n 2, 1) := by decide +kernel
theorem dX12_entry_6 : decode cX12_entry 6 = .ok (.ifCond .lt 8, 3) := by decide +kernel
theorem dX12_entry_9 : decode cX12_entry 9 = .ok (.iload_n 2, 1) := by decide +kernel
theorem dX12_entry_10 : decode cX12_entry 10 = .ok (.iconst 2, 1) := by decide +kernel
theorem dX12_entry_11 : decode cX12_entry 11 = .ok (.if_icmp .le 8, 3) := by decide +kernel
theorem dX12_entry_14 : decode cX12_entry 14 = .ok (.aload_n 0, 1) := by decide +kernel
theorem dX12_entry_15 : decode cX12_entry 15 = .ok (.invokevirtual 440, 3) := by decide +kernel
theorem dX12_entry_18 : decode cX12_entry 18 = .ok (.ireturn, 1) := by decide +kernel
theorem dX12_entry_19 : decode cX12_entry 19 = .ok (.aload_n 0, 1) := by decide +kernel
theorem dX12_entry_20 : decode cX12_entry 20 = .ok (.getfield 49, 3) := by decide +kernel
theorem dX12_entry_23 : decode cX12_entry 23 = .ok (.ifCond .lt 15, 3) := by decide +kernel
theorem dX12_entry_38 : decode cX12_entry 38 = .ok (.iconst (-1), 1) := by decide +kernel
theorem dX12_entry_39 : decode cX12_entry 39 = .ok (.ireturn, 1) := by decide +kernel
set_option maxHeartbeats 4000000 in
set_option maxRecDepth 100000 in
theorem mm_entry (l : Launch) (D : va_G) (g : xe_G) (m0 : Nat) (fs : List Value) (x0 : Int32) (x1 : Int32) (sz : Nat) (hm : md_has fs [(18, .int (-1))]) : Met l yX12_entry (.code yX12_entry cX12_entry 4 (some .int) :: bg) ({ frames := 2, cells := 0, slots := 0, locals := 240 } : Room) (xb_Pre (xe_E g) D vwCl [(m0, .inr (12, fs))] [] sz [.ref m0, .int x0, .int x1]) (va_Qi (fun r u => (¬ x1 < 0 ∧ x1 ≤ 2 ∧ r = -1 ∧ md_has u [(0, .int 0)]) ∨ ((x1 < 0 ∨ ¬ x1 ≤ 2) ∧ md_has u [(0, .int 1)])) (xb_B D vwCl (va_A [(m0, .inr (12, fs))] sz) (fun u : List Value => [(m0, .inr (12, u))]) (fun u : List Value => [])) (va_A [(m0, .inr (12, fs))] sz)) 0 0 (va_A [(m0, .inr (12, fs))] sz) := by
  refine Met.ofW (cc := cX12_entry) (maxL := 4) (ret := (some .int)) (by decide) rfl ?_
  intro p e s m args below meth c s₁ B hml hv
  obtain ⟨rfl, hsz, hP, hK, hD0, hE⟩ := hv
  have hx := B.exec
  have hb := B.bytes
  have hr := B.returns
  have hts := atoms_spec (ws := (.code yX12_entry cX12_entry 4 (some .int) :: bg)) B.pre
  have htb : ∀ w ∈ bg, w.before _ s = true := fun w h => hts w (List.mem_cons_of_mem _ h)
  have hown : s.vm.findClass RX12 = some m.cls := findClass_of_methodNamed B.named
  have hlocks := B.notSynchronized
  subst hsz
  have hD := hD0.self (sz := s.heap.size)
  generalize hAe : va_A [(m0, .inr (12, fs))] s.heap.size = A at hD hE ⊢
  have hA : ∀ q : Nat, s.heap.size ≤ q → A q := fun q h => by rw [← hAe]; exact Or.inr h
  have hS : va_S A s.heap s.heap [] := va_S.rf
  have hP : va_P D vwCl [(m0, .inr (12, fs))] s.heap := hP
  have hl := lv_entry ([.ref m0, .int x0, .int x1]) (n := 4) (Nat.le_of_ble_eq_true rfl)
  rw [lg_entry_eq]
  generalize (lg_sl ([.ref m0, .int x0, .int x1]) ++ List.replicate (4 - (lg_sl ([.ref m0, .int x0, .int x1])).length) Slot.unset).toArray = ls at hl ⊢
  have hl : lv_has ls 4 [(0, .ref m0), (1, .int x0), (2, .int x1)] := hl
  refine lv_aload_n hx hb dX12_entry_0 rfl (lv_at hl 0 rfl) ?_
  refine lv_iconst (v := 0) hx hb dX12_entry_1 (by decide) ?_
  refine va_put (D := D) (ci := 12) (v := .int 0) (ty := tyX12 0) (C := RX12) (T := TX12) (N := 82) hx hb htb bi_X12 tyX12 tyX12_ok nmX12 hown hK hP hD hS 0 rfl rfl 0 (by decide) (htb _ bg_88) (fun _ h9 => h9) rfl (tyX12_ok 0 (by decide)) rfl rfl (by rw [hm.1]; decide) dX12_entry_2 (fun H locs hP hD hS => ?_)
  have hP : va_P D vwCl [(m0, .inr (12, (fs.set 0 (.int 0))))] H := hP
  have hD : va_D A [(m0, .inr (12, (fs.set 0 (.int 0))))] := hD
  have hm : md_has (fs.set 0 (.int 0)) [(0, .int 0), (18, .int (-1))] := md_put hm 0 (.int 0) (by decide) rfl
  generalize (fs.set 0 (.int 0)) = fs at hP hD hm
  refine lv_iload_n hx hb dX12_entry_5 rfl (lv_at hl 2 rfl) ?_
  refine lv_if_lt (tgt := 14) hx hb dX12_entry_6 (by decide) (fun c_6 => ?_) (fun c_6 => ?_)
  · skip
    refine lv_aload_n hx hb dX12_entry_14 rfl (lv_at hl 0 rfl) ?_
    refine xb_goi (wr := []) (va_runV (As := []) (rest := []) ⟨hx, hb, hml, hown, htb⟩ (mm_bad l D g m0 fs (Array.size H) (md_sub hm [] rfl)) (bg_V 0 htb bg_213 bg_214 bg_215 bg_144 bg_211 rfl rfl (by decide +kernel) ⟨Nat.le_of_ble_eq_true rfl, Nat.le_of_ble_eq_true rfl⟩) ⟨xb_blind xe_ok, va_recv hK hP (ci := 12) (q0 := 0) rfl rfl, xb_enter xe_ok hK hP hD hS hA hE [0] rfl rfl rfl [] rfl⟩ rfl rfl hl.1 rfl (lv_room (Nat.le_of_ble_eq_true rfl)) dX12_entry_15 ⟨Nat.le_of_ble_eq_true rfl, Nat.le_of_ble_eq_true rfl⟩) hK hP hD hS hA [0] [] rfl rfl rfl (by decide) (fun r_15 u_15 H locs hw_15 hP hD hK hS => ?_)
    generalize u_15 = fs at hP hD hK hw_15
    have hP : va_P D vwCl [(m0, .inr (12, fs))] H := hP
    have hD : va_D A [(m0, .inr (12, fs))] := hD
    have hK : va_K D vwCl [] s := hK
    refine W.widen (k := 0) (n := 0) (by decide) (by decide) ?_
    obtain ⟨hw_15, hm⟩ := hw_15
    have hw_15 : r_15 = 0 := hw_15
    subst hw_15
    have hP9 := hP.sub (ws' := [(m0, .inr (12, fs))]) [0] rfl
    have hD9 := hD.sub (ws' := [(m0, .inr (12, fs))]) [0] rfl rfl
    have hK9 := hK.sub (tys' := []) [] rfl
    exact W.iret (v := 0) hx hb hr (fun t ht hW => ⟨⟨0, fs, rfl, Or.inr ⟨by first | exact Or.inl c_6 | exact Or.inr c_11, md_sub hm [0] rfl⟩, by rw [ht]; exact hP9, va_K.moved hW.alike hK9, hD9⟩, hS.F ht⟩) hS.2.2 dX12_entry_18
  · skip
    refine lv_iload_n hx hb dX12_entry_9 rfl (lv_at hl 2 rfl) ?_
    refine lv_iconst (v := 2) hx hb dX12_entry_10 (by decide) ?_
    refine lv_icmp_le (tgt := 19) hx hb dX12_entry_11 (by decide) (fun c_11 => ?_) (fun c_11 => ?_)
    · skip
      refine lv_aload_n hx hb dX12_entry_19 rfl (lv_at hl 0 rfl) ?_
      refine va_get (D := D) (ci := 12) (v := .int (-1)) (C := RX12) (T := TX12) (N := 82) hx hb htb bi_X12 hown hK hP 0 rfl rfl 18 (by decide) (htb _ bg_106) (fun _ h9 => h9) (md_at hm 1 rfl) dX12_entry_20 ?_
      refine lv_if_lt (tgt := 38) hx hb dX12_entry_23 (by decide) (fun c_23 => ?_) (fun c_23 => ?_)
      rotate_left
      · exact absurd (by decide) c_23
      refine lv_iconst (v := (-1)) hx hb dX12_entry_38 (by decide) ?_
      have hP9 := hP.sub (ws' := [(m0, .inr (12, fs))]) [0] rfl
      have hD9 := hD.sub (ws' := [(m0, .inr (12, fs))]) [0] rfl rfl
      have hK9 := hK.sub (tys' := []) [] rfl
      exact W.iret (v := (-1)) hx hb hr (fun t ht hW => ⟨⟨(-1), fs, rfl, Or.inl ⟨c_6, c_11, rfl, md_sub hm [0] rfl⟩, by rw [ht]; exact hP9, va_K.moved hW.alike hK9, hD9⟩, hS.F ht⟩) hS.2.2 dX12_entry_39
    · skip
      refine lv_aload_n hx hb dX12_entry_14 rfl (lv_at hl 0 rfl) ?_
      refine xb_goi (wr := []) (va_runV (As := []) (rest := []) ⟨hx, hb, hml, hown, htb⟩ (mm_bad l D g m0 fs (Array.size H) (md_sub hm [] rfl)) (bg_V 0 htb bg_213 bg_214 bg_215 bg_144 bg_211 rfl rfl (by decide +kernel) ⟨Nat.le_of_ble_eq_true rfl, Nat.le_of_ble_eq_true rfl⟩) ⟨xb_blind xe_ok, va_recv hK hP (ci := 12) (q0 := 0) rfl rfl, xb_enter xe_ok hK hP hD hS hA hE [0] rfl rfl rfl [] rfl⟩ rfl rfl hl.1 rfl (lv_room (Nat.le_of_ble_eq_true rfl)) dX12_entry_15 ⟨Nat.le_of_ble_eq_true rfl, Nat.le_of_ble_eq_true rfl⟩) hK hP hD hS hA [0] [] rfl rfl rfl (by decide) (fun r_15 u_15 H locs hw_15 hP hD hK hS => ?_)
      generalize u_15 = fs at hP hD hK hw_15
      have hP : va_P D vwCl [(m0, .inr (12, fs))] H := hP
      have hD : va_D A [(m0, .inr (12, fs))] := hD
      have hK : va_K D vwCl [] s := hK
      refine W.widen (k := 0) (n := 0) (by decide) (by decide) ?_
      obtain ⟨hw_15, hm⟩ := hw_15
      have hw_15 : r_15 = 0 := hw_15
      subst hw_15
      have hP9 := hP.sub (ws' := [(m0, .inr (12, fs))]) [0] rfl
      have hD9 := hD.sub (ws' := [(m0, .inr (12, fs))]) [0] rfl rfl
      have hK9 := hK.sub (tys' := []) [] rfl
      exact W.iret (v := 0) hx hb hr (fun t ht hW => ⟨⟨0, fs, rfl, Or.inr ⟨by first | exact Or.inl c_6 | exact Or.inr c_11, md_sub hm [0] rfl⟩, by rw [ht]; exact hP9, va_K.moved hW.alike hK9, hD9⟩, hS.F ht⟩) hS.2.2 dX12_entry_18
theorem dX12_member_0 : decode cX12_member 0 = .ok (.aload_n 0, 1) := by decide +kernel
theorem dX12_member_1 : decode cX12_member 1 = .ok (.iconst 0, 1) := by decide +kernel
theorem dX12_member_2 : decode cX12_member 2 = .ok (.putfield 1, 3) := by decide +kernel
theorem dX12_member_5 : decode cX12_member 5 = .ok (.iload_n 3, 1) := by decide +kernel
theorem dX12_member_6 : decode cX12_member 6 = .ok (.ifCond .lt 9, 3) := by decide +kernel
theorem dX12_member_9 : decode cX12_member 9 = .ok (.iload_n 3, 1) := by decide +kernel
theorem dX12_member_10 : decode cX12_member 10 = .ok (.bipush 9, 2) := by decide +kernel
theorem dX12_member_12 : decode cX12_member 12 = .ok (.if_icmp .le 8, 3) := by decide +kernel
theorem dX12_member_15 : decode cX12_member 15 = .ok (.aload_n 0, 1) := by decide +kernel
theorem dX12_member_16 : decode cX12_member 16 = .ok (.invokevirtual 440, 3) := by decide +kernel
theorem dX12_member_19 : decode cX12_member 19 = .ok (.ireturn, 1) := by decide +kernel
theorem dX12_member_20 : decode cX12_member 20 = .ok (.aload_n 0, 1) := by decide +kernel
theorem dX12_member_21 : decode cX12_member 21 = .ok (.getfield 49, 3) := by decide +kernel
theorem dX12_member_24 : decode cX12_member 24 = .ok (.ifCond .lt 26, 3) := by decide +kernel
theorem dX12_member_50 : decode cX12_member 50 = .ok (.iconst (-1), 1) := by decide +kernel
theorem dX12_member_51 : decode cX12_member 51 = .ok (.ireturn, 1) := by decide +kernel
set_option maxHeartbeats 4000000 in
set_option maxRecDepth 100000 in
theorem mm_member (l : Launch) (D : va_G) (g : xe_G) (m0 : Nat) (fs : List Value) (x0 : Int32) (x1 : Int32) (x2 : Int32) (sz : Nat) (hm : md_has fs [(18, .int (-1))]) : Met l yX12_member (.code yX12_member cX12_member 4 (some .int) :: bg) ({ frames := 2, cells := 0, slots := 0, locals := 240 } : Room) (xb_Pre (xe_E g) D vwCl [(m0, .inr (12, fs))] [] sz [.ref m0, .int x0, .int x1, .int x2]) (va_Qi (fun r u => (¬ x2 < 0 ∧ x2 ≤ 9 ∧ r = -1 ∧ md_has u [(0, .int 0)]) ∨ ((x2 < 0 ∨ ¬ x2 ≤ 9) ∧ md_has u [(0, .int 1)])) (xb_B D vwCl (va_A [(m0, .inr (12, fs))] sz) (fun u : List Value => [(m0, .inr (12, u))]) (fun u : List Value => [])) (va_A [(m0, .inr (12, fs))] sz)) 0 0 (va_A [(m0, .inr (12, fs))] sz) := by
  refine Met.ofW (cc := cX12_member) (maxL := 4) (ret := (some .int)) (by decide) rfl ?_
  intro p e s m args below meth c s₁ B hml hv
  obtain ⟨rfl, hsz, hP, hK, hD0, hE⟩ := hv
  have hx := B.exec
  have hb := B.bytes
  have hr := B.returns
  have hts := atoms_spec (ws := (.code yX12_member cX12_member 4 (some .int) :: bg)) B.pre
  have htb : ∀ w ∈ bg, w.before _ s = true := fun w h => hts w (List.mem_cons_of_mem _ h)
  have hown : s.vm.findClass RX12 = some m.cls := findClass_of_methodNamed B.named
  have hlocks := B.notSynchronized
  subst hsz
  have hD := hD0.self (sz := s.heap.size)
  generalize hAe : va_A [(m0, .inr (12, fs))] s.heap.size = A at hD hE ⊢
  have hA : ∀ q : Nat, s.heap.size ≤ q → A q := fun q h => by rw [← hAe]; exact Or.inr h
  have hS : va_S A s.heap s.heap [] := va_S.rf
  have hP : va_P D vwCl [(m0, .inr (12, fs))] s.heap := hP
  have hl := lv_entry ([.ref m0, .int x0, .int x1, .int x2]) (n := 4) (Nat.le_of_ble_eq_true rfl)
  rw [lg_entry_eq]
  generalize (lg_sl ([.ref m0, .int x0, .int x1, .int x2]) ++ List.replicate (4 - (lg_sl ([.ref m0, .int x0, .int x1, .int x2])).length) Slot.unset).toArray = ls at hl ⊢
  have hl : lv_has ls 4 [(0, .ref m0), (1, .int x0), (2, .int x1), (3, .int x2)] := hl
  refine lv_aload_n hx hb dX12_member_0 rfl (lv_at hl 0 rfl) ?_
  refine lv_iconst (v := 0) hx hb dX12_member_1 (by decide) ?_
  refine va_put (D := D) (ci := 12) (v := .int 0) (ty := tyX12 0) (C := RX12) (T := TX12) (N := 82) hx hb htb bi_X12 tyX12 tyX12_ok nmX12 hown hK hP hD hS 0 rfl rfl 0 (by decide) (htb _ bg_88) (fun _ h9 => h9) rfl (tyX12_ok 0 (by decide)) rfl rfl (by rw [hm.1]; decide) dX12_member_2 (fun H locs hP hD hS => ?_)
  have hP : va_P D vwCl [(m0, .inr (12, (fs.set 0 (.int 0))))] H := hP
  have hD : va_D A [(m0, .inr (12, (fs.set 0 (.int 0))))] := hD
  have hm : md_has (fs.set 0 (.int 0)) [(0, .int 0), (18, .int (-1))] := md_put hm 0 (.int 0) (by decide) rfl
  generalize (fs.set 0 (.int 0)) = fs at hP hD hm
  refine lv_iload_n hx hb dX12_member_5 rfl (lv_at hl 3 rfl) ?_
  refine lv_if_lt (tgt := 15) hx hb dX12_member_6 (by decide) (fun c_6 => ?_) (fun c_6 => ?_)
  · skip
    refine lv_aload_n hx hb dX12_member_15 rfl (lv_at hl 0 rfl) ?_
    refine xb_goi (wr := []) (va_runV (As := []) (rest := []) ⟨hx, hb, hml, hown, htb⟩ (mm_bad l D g m0 fs (Array.size H) (md_sub hm [] rfl)) (bg_V 0 htb bg_213 bg_214 bg_215 bg_144 bg_211 rfl rfl (by decide +kernel) ⟨Nat.le_of_ble_eq_true rfl, Nat.le_of_ble_eq_true rfl⟩) ⟨xb_blind xe_ok, va_recv hK hP (ci := 12) (q0 := 0) rfl rfl, xb_enter xe_ok hK hP hD hS hA hE [0] rfl rfl rfl [] rfl⟩ rfl rfl hl.1 rfl (lv_room (Nat.le_of_ble_eq_true rfl)) dX12_member_16 ⟨Nat.le_of_ble_eq_true rfl, Nat.le_of_ble_eq_true rfl⟩) hK hP hD hS hA [0] [] rfl rfl rfl (by decide) (fun r_16 u_16 H locs hw_16 hP hD hK hS => ?_)
    generalize u_16 = fs at hP hD hK hw_16
    have hP : va_P D vwCl [(m0, .inr (12, fs))] H := hP
    have hD : va_D A [(m0, .inr (12, fs))] := hD
    have hK : va_K D vwCl [] s := hK
    refine W.widen (k := 0) (n := 0) (by decide) (by decide) ?_
    obtain ⟨hw_16, hm⟩ := hw_16
    have hw_16 : r_16 = 0 := hw_16
    subst hw_16
    have hP9 := hP.sub (ws' := [(m0, .inr (12, fs))]) [0] rfl
    have hD9 := hD.sub (ws' := [(m0, .inr (12, fs))]) [0] rfl rfl
    have hK9 := hK.sub (tys' := []) [] rfl
    exact W.iret (v := 0) hx hb hr (fun t ht hW => ⟨⟨0, fs, rfl, Or.inr ⟨by first | exact Or.inl c_6 | exact Or.inr c_12, md_sub hm [0] rfl⟩, by rw [ht]; exact hP9, va_K.moved hW.alike hK9, hD9⟩, hS.F ht⟩) hS.2.2 dX12_member_19
  · skip
    refine lv_iload_n hx hb dX12_member_9 rfl (lv_at hl 3 rfl) ?_
    refine lv_bipush (v := 9) hx hb dX12_member_10 (by decide) ?_
    refine lv_icmp_le (tgt := 20) hx hb dX12_member_12 (by decide) (fun c_12 => ?_) (fun c_12 => ?_)
    · skip
      refine lv_aload_n hx hb dX12_member_20 rfl (lv_at hl 0 rfl) ?_
      refine va_get (D := D) (ci := 12) (v := .int (-1)) (C := RX12) (T := TX12) (N := 82) hx hb htb bi_X12 hown hK hP 0 rfl rfl 18 (by decide) (htb _ bg_106) (fun _ h9 => h9) (md_at hm 1 rfl) dX12_member_21 ?_
      refine lv_if_lt (tgt := 50) hx hb dX12_member_24 (by decide) (fun c_24 => ?_) (fun c_24 => ?_)
      rotate_left
      · exact absurd (by decide) c_24
      refine lv_iconst (v := (-1)) hx hb dX12_member_50 (by decide) ?_
      have hP9 := hP.sub (ws' := [(m0, .inr (12, fs))]) [0] rfl
      have hD9 := hD.sub (ws' := [(m0, .inr (12, fs))]) [0] rfl rfl
      have hK9 := hK.sub (tys' := []) [] rfl
      exact W.iret (v := (-1)) hx hb hr (fun t ht hW => ⟨⟨(-1), fs, rfl, Or.inl ⟨c_6, c_12, rfl, md_sub hm [0] rfl⟩, by rw [ht]; exact hP9, va_K.moved hW.alike hK9, hD9⟩, hS.F ht⟩) hS.2.2 dX12_member_51
    · skip
      refine lv_aload_n hx hb dX12_member_15 rfl (lv_at hl 0 rfl) ?_
      refine xb_goi (wr := []) (va_runV (As := []) (rest := []) ⟨hx, hb, hml, hown, htb⟩ (mm_bad l D g m0 fs (Array.size H) (md_sub hm [] rfl)) (bg_V 0 htb bg_213 bg_214 bg_215 bg_144 bg_211 rfl rfl (by decide +kernel) ⟨Nat.le_of_ble_eq_true rfl, Nat.le_of_ble_eq_true rfl⟩) ⟨xb_blind xe_ok, va_recv hK hP (ci := 12) (q0 := 0) rfl rfl, xb_enter xe_ok hK hP hD hS hA hE [0] rfl rfl rfl [] rfl⟩ rfl rfl hl.1 rfl (lv_room (Nat.le_of_ble_eq_true rfl)) dX12_member_16 ⟨Nat.le_of_ble_eq_true rfl, Nat.le_of_ble_eq_true rfl⟩) hK hP hD hS hA [0] [] rfl rfl rfl (by decide) (fun r_16 u_16 H locs hw_16 hP hD hK hS => ?_)
      generalize u_16 = fs at hP hD hK hw_16
      have hP : va_P D vwCl [(m0, .inr (12, fs))] H := hP
      have hD : va_D A [(m0, .inr (12, fs))] := hD
      have hK : va_K D vwCl [] s := hK
      refine W.widen (k := 0) (n := 0) (by decide) (by decide) ?_
      obtain ⟨hw_16, hm⟩ := hw_16
      have hw_16 : r_16 = 0 := hw_16
      subst hw_16
      have hP9 := hP.sub (ws' := [(m0, .inr (12, fs))]) [0] rfl
      have hD9 := hD.sub (ws' := [(m0, .inr (12, fs))]) [0] rfl rfl
      have hK9 := hK.sub (tys' := []) [] rfl
      exact W.iret (v := 0) hx hb hr (fun t ht hW => ⟨⟨0, fs, rfl, Or.inr ⟨by first | exact Or.inl c_6 | exact Or.inr c_12, md_sub hm [0] rfl⟩, by rw [ht]; exact hP9, va_K.moved hW.alike hK9, hD9⟩, hS.F ht⟩) hS.2.2 dX12_member_19
theorem dX12_row_0 : decode cX12_row 0 = .ok (.aload_n 0, 1) := by decide +kernel
theorem dX12_row_1 : decode cX12_row 1 = .ok (.iconst 0, 1) := by decide +kernel
theorem dX12_row_2 : decode cX12_row 2 = .ok (.putfield 1, 3) := by decide +kernel
theorem dX12_row_5 : decode cX12_row 5 = .ok (.iload_n 3, 1) := by decide +kernel
theorem dX12_row_6 : decode cX12_row 6 = .ok (.ifCond .lt 8, 3) := by decide +kernel
theorem dX12_row_9 : decode cX12_row 9 = .ok (.iload_n 3, 1) := by decide +kernel
theorem dX12_row_10 : decode cX12_row 10 = .ok (.iconst 3, 1) := by decide +kernel
theorem dX12_row_11 : decode cX12_row 11 = .ok (.if_icmp .le 8, 3) := by decide +kernel
theorem dX12_row_14 : decode cX12_row 14 = .ok (.aload_n 0, 1) := by decide +kernel
theorem dX12_row_15 : decode cX12_row 15 = .ok (.invokevirtual 440, 3) := by decide +kernel
theorem dX12_row_18 : decode cX12_row 18 = .ok (.ireturn, 1) := by decide +kernel
theorem dX12_row_19 : decode cX12_row 19 = .ok (.aload_n 0, 1) := by decide +kernel
theorem dX12_row_20 : decode cX12_row 20 = .ok (.getfield 49, 3) := by decide +kernel
theorem dX12_row_23 : decode cX12_row 23 = .ok (.ifCond .lt 38, 3) := by decide +kernel
theorem dX12_row_61 : decode cX12_row 61 = .ok (.iconst (-1), 1) := by decide +kernel
theorem dX12_row_62 : decode cX12_row 62 = .ok (.ireturn, 1) := by decide +kernel
set_option maxHeartbeats 4000000 in
set_option maxRecDepth 100000 in
theorem mm_row (l : Launch) (D : va_G) (g : xe_G) (m0 : Nat) (fs : List Value) (x0 : Int32) (x1 : Int32) (x2 : Int32) (sz : Nat) (hm : md_has fs [(18, .int (-1))]) : Met l yX12_row (.code yX12_row cX12_row 4 (some .int) :: bg) ({ frames := 2, cells := 0, slots := 0, locals := 240 } : Room) (xb_Pre (xe_E g) D vwCl [(m0, .inr (12, fs))] [] sz [.ref m0, .int x0, .int x1, .int x2]) (va_Qi (fun r u => (¬ x2 < 0 ∧ x2 ≤ 3 ∧ r = -1 ∧ md_has u [(0, .int 0)]) ∨ ((x2 < 0 ∨ ¬ x2 ≤ 3) ∧ md_has u [(0, .int 1)])) (xb_B D vwCl (va_A [(m0, .inr (12, fs))] sz) (fun u : List Value => [(m0, .inr (12, u))]) (fun u : List Value => [])) (va_A [(m0, .inr (12, fs))] sz)) 0 0 (va_A [(m0, .inr (12, fs))] sz) := by
  refine Met.ofW (cc := cX12_row) (maxL := 4) (ret := (some .int)) (by decide) rfl ?_
  intro p e s m args below meth c s₁ B hml hv
  obtain ⟨rfl, hsz, hP, hK, hD0, hE⟩ := hv
  have hx := B.exec
  have hb := B.bytes
  have hr := B.returns
  have hts := atoms_spec (ws := (.code yX12_row cX12_row 4 (some .int) :: bg)) B.pre
  have htb : ∀ w ∈ bg, w.before _ s = true := fun w h => hts w (List.mem_cons_of_mem _ h)
  have hown : s.vm.findClass RX12 = some m.cls := findClass_of_methodNamed B.named
  have hlocks := B.notSynchronized
  subst hsz
  have hD := hD0.self (sz := s.heap.size)
  generalize hAe : va_A [(m0, .inr (12, fs))] s.heap.size = A at hD hE ⊢
  have hA : ∀ q : Nat, s.heap.size ≤ q → A q := fun q h => by rw [← hAe]; exact Or.inr h
  have hS : va_S A s.heap s.heap [] := va_S.rf
  have hP : va_P D vwCl [(m0, .inr (12, fs))] s.heap := hP
  have hl := lv_entry ([.ref m0, .int x0, .int x1, .int x2]) (n := 4) (Nat.le_of_ble_eq_true rfl)
  rw [lg_entry_eq]
  generalize (lg_sl ([.ref m0, .int x0, .int x1, .int x2]) ++ List.replicate (4 - (lg_sl ([.ref m0, .int x0, .int x1, .int x2])).length) Slot.unset).toArray = ls at hl ⊢
  have hl : lv_has ls 4 [(0, .ref m0), (1, .int x0), (2, .int x1), (3, .int x2)] := hl
  refine lv_aload_n hx hb dX12_row_0 rfl (lv_at hl 0 rfl) ?_
  refine lv_iconst (v := 0) hx hb dX12_row_1 (by decide) ?_
  refine va_put (D := D) (ci := 12) (v := .int 0) (ty := tyX12 0) (C := RX12) (T := TX12) (N := 82) hx hb htb bi_X12 tyX12 tyX12_ok nmX12 hown hK hP hD hS 0 rfl rfl 0 (by decide) (htb _ bg_88) (fun _ h9 => h9) rfl (tyX12_ok 0 (by decide)) rfl rfl (by rw [hm.1]; decide) dX12_row_2 (fun H locs hP hD hS => ?_)
  have hP : va_P D vwCl [(m0, .inr (12, (fs.set 0 (.int 0))))] H := hP
  have hD : va_D A [(m0, .inr (12, (fs.set 0 (.int 0))))] := hD
  have hm : md_has (fs.set 0 (.int 0)) [(0, .int 0), (18, .int (-1))] := md_put hm 0 (.int 0) (by decide) rfl
  generalize (fs.set 0 (.int 0)) = fs at hP hD hm
  refine lv_iload_n hx hb dX12_row_5 rfl (lv_at hl 3 rfl) ?_
  refine lv_if_lt (tgt := 14) hx hb dX12_row_6 (by decide) (fun c_6 => ?_) (fun c_6 => ?_)
  · skip
    refine lv_aload_n hx hb dX12_row_14 rfl (lv_at hl 0 rfl) ?_
    refine xb_goi (wr := []) (va_runV (As := []) (rest := []) ⟨hx, hb, hml, hown, htb⟩ (mm_bad l D g m0 fs (Array.size H) (md_sub hm [] rfl)) (bg_V 0 htb bg_213 bg_214 bg_215 bg_144 bg_211 rfl rfl (by decide +kernel) ⟨Nat.le_of_ble_eq_true rfl, Nat.le_of_ble_eq_true rfl⟩) ⟨xb_blind xe_ok, va_recv hK hP (ci := 12) (q0 := 0) rfl rfl, xb_enter xe_ok hK hP hD hS hA hE [0] rfl rfl rfl [] rfl⟩ rfl rfl hl.1 rfl (lv_room (Nat.le_of_ble_eq_true rfl)) dX12_row_15 ⟨Nat.le_of_ble_eq_true rfl, Nat.le_of_ble_eq_true rfl⟩) hK hP hD hS hA [0] [] rfl rfl rfl (by decide) (fun r_15 u_15 H locs hw_15 hP hD hK hS => ?_)
    generalize u_15 = fs at hP hD hK hw_15
    have hP : va_P D vwCl [(m0, .inr (12, fs))] H := hP
    have hD : va_D A [(m0, .inr (12, fs))] := hD
    have hK : va_K D vwCl [] s := hK
    refine W.widen (k := 0) (n := 0) (by decide) (by decide) ?_
    obtain ⟨hw_15, hm⟩ := hw_15
    have hw_15 : r_15 = 0 := hw_15
    subst hw_15
    have hP9 := hP.sub (ws' := [(m0, .inr (12, fs))]) [0] rfl
    have hD9 := hD.sub (ws' := [(m0, .inr (12, fs))]) [0] rfl rfl
    have hK9 := hK.sub (tys' := []) [] rfl
    exact W.iret (v := 0) hx hb hr (fun t ht hW => ⟨⟨0, fs, rfl, Or.inr ⟨by first | exact Or.inl c_6 | exact Or.inr c_11, md_sub hm [0] rfl⟩, by rw [ht]; exact hP9, va_K.moved hW.alike hK9, hD9⟩, hS.F ht⟩) hS.2.2 dX12_row_18
  · skip
    refine lv_iload_n hx hb dX12_row_9 rfl (lv_at hl 3 rfl) ?_
    refine lv_iconst (v := 3) hx hb dX12_row_10 (by decide) ?_
    refine lv_icmp_le (tgt := 19) hx hb dX12_row_11 (by decide) (fun c_11 => ?_) (fun c_11 => ?_)
    · skip
      refine lv_aload_n hx hb dX12_row_19 rfl (lv_at hl 0 rfl) ?_
      refine va_get (D := D) (ci := 12) (v := .int (-1)) (C := RX12) (T := TX12) (N := 82) hx hb htb bi_X12 hown hK hP 0 rfl rfl 18 (by decide) (htb _ bg_106) (fun _ h9 => h9) (md_at hm 1 rfl) dX12_row_20 ?_
      refine lv_if_lt (tgt := 61) hx hb dX12_row_23 (by decide) (fun c_23 => ?_) (fun c_23 => ?_)
      rotate_left
      · exact absurd (by decide) c_23
      refine lv_iconst (v := (-1)) hx hb dX12_row_61 (by decide) ?_
      have hP9 := hP.sub (ws' := [(m0, .inr (12, fs))]) [0] rfl
      have hD9 := hD.sub (ws' := [(m0, .inr (12, fs))]) [0] rfl rfl
      have hK9 := hK.sub (tys' := []) [] rfl
      exact W.iret (v := (-1)) hx hb hr (fun t ht hW => ⟨⟨(-1), fs, rfl, Or.inl ⟨c_6, c_11, rfl, md_sub hm [0] rfl⟩, by rw [ht]; exact hP9, va_K.moved hW.alike hK9, hD9⟩, hS.F ht⟩) hS.2.2 dX12_row_62
    · skip
      refine lv_aload_n hx hb dX12_row_14 rfl (lv_at hl 0 rfl) ?_
      refine xb_goi (wr := []) (va_runV (As := []) (rest := []) ⟨hx, hb, hml, hown, htb⟩ (mm_bad l D g m0 fs (Array.size H) (md_sub hm [] rfl)) (bg_V 0 htb bg_213 bg_214 bg_215 bg_144 bg_211 rfl rfl (by decide +kernel) ⟨Nat.le_of_ble_eq_true rfl, Nat.le_of_ble_eq_true rfl⟩) ⟨xb_blind xe_ok, va_recv hK hP (ci := 12) (q0 := 0) rfl rfl, xb_enter xe_ok hK hP hD hS hA hE [0] rfl rfl rfl [] rfl⟩ rfl rfl hl.1 rfl (lv_room (Nat.le_of_ble_eq_true rfl)) dX12_row_15 ⟨Nat.le_of_ble_eq_true rfl, Nat.le_of_ble_eq_true rfl⟩) hK hP hD hS hA [0] [] rfl rfl rfl (by decide) (fun r_15 u_15 H locs hw_15 hP hD hK hS => ?_)
      generalize u_15 = fs at hP hD hK hw_15
      have hP : va_P D vwCl [(m0, .inr (12, fs))] H := hP
      have hD : va_D A [(m0, .inr (12, fs))] := hD
      have hK : va_K D vwCl [] s := hK
      refine W.widen (k := 0) (n := 0) (by decide) (by decide) ?_
      obtain ⟨hw_15, hm⟩ := hw_15
      have hw_15 : r_15 = 0 := hw_15
      subst hw_15
      have hP9 := hP.sub (ws' := [(m0, .inr (12, fs))]) [0] rfl
      have hD9 := hD.sub (ws' := [(m0, .inr (12, fs))]) [0] rfl rfl
      have hK9 := hK.sub (tys' := []) [] rfl
      exact W.iret (v := 0) hx hb hr (fun t ht hW => ⟨⟨0, fs, rfl, Or.inr ⟨by first | exact Or.inl c_6 | exact Or.inr c_11, md_sub hm [0] rfl⟩, by rw [ht]; exact hP9, va_K.moved hW.alike hK9, hD9⟩, hS.F ht⟩) hS.2.2 dX12_row_18
theorem dX12_instruction_0 : decode cX12_instruction 0 = .ok (.aload_n 0, 1) := by decide +kernel
theorem dX12_instruction_1 : decode cX12_instruction 1 = .ok (.iconst 0, 1) := by decide +kernel
theorem dX12_instruction_2 : decode cX12_instruction 2 = .ok (.putfield 1, 3) := by decide +kernel
theorem dX12_instruction_5 : decode cX12_instruction 5 = .ok (.iload_n 3, 1) := by decide +kernel
theorem dX12_instruction_6 : decode cX12_instruction 6 = .ok (.ifCond .lt 8, 3) := by decide +kernel
theorem dX12_instruction_9 : decode cX12_instruction 9 = .ok (.iload_n 3, 1) := by decide +kernel
theorem dX12_instruction_10 : decode cX12_instruction 10 = .ok (.iconst 4, 1) := by decide +kernel
theorem dX12_instruction_11 : decode cX12_instruction 11 = .ok (.if_icmp .le 8, 3) := by decide +kernel
theorem dX12_instruction_14 : decode cX12_instruction 14 = .ok (.aload_n 0, 1) := by decide +kernel
theorem dX12_instruction_15 : decode cX12_instruction 15 = .ok (.invokevirtual 440, 3) := by decide +kernel
theorem dX12_instruction_18 : decode cX12_instruction 18 = .ok (.ireturn, 1) := by decide +kernel
theorem dX12_instruction_19 : decode cX12_instruction 19 = .ok (.aload_n 0, 1) := by decide +kernel
theorem dX12_instruction_20 : decode cX12_instruction 20 = .ok (.iload_n 1, 1) := by decide +kernel
theorem dX12_instruction_21 : decode cX12_instruction 21 = .ok (.invokevirtual 519, 3) := by decide +kernel
theorem dX12_instruction_24 : decode cX12_instruction 24 = .ok (.ifCond .ne 23, 3) := by decide +kernel
theorem dX12_instruction_47 : decode cX12_instruction 47 = .ok (.iconst (-1), 1) := by decide +kernel
theorem dX12_instruction_48 : decode cX12_instruction 48 = .ok (.ireturn, 1) := by decide +kernel
set_option maxHeartbeats 4000000 in
set_option maxRecDepth 100000 in
theorem mm_instruction (l : Launch) (D : va_G) (g : xe_G) (m0 : Nat) (fs : List Value) (x0 : Int32) (x1 : Int32) (x2 : Int32) (sz : Nat) (hm : md_has fs [(18, .int (-1))]) : Met l yX12_instruction (.code yX12_instruction cX12_instruction 6 (some .int) :: bg) ({ frames := 2, cells := 0, slots := 0, locals := 240 } : Room) (xb_Pre (xe_E g) D vwCl [(m0, .inr (12, fs))] [] sz [.ref m0, .int x0, .int x1, .int x2]) (va_Qi (fun r u => (¬ x2 < 0 ∧ x2 ≤ 4 ∧ r = -1 ∧ md_has u [(0, .int 0)]) ∨ ((x2 < 0 ∨ ¬ x2 ≤ 4) ∧ md_has u [(0, .int 1)])) (xb_B D vwCl (va_A [(m0, .inr (12, fs))] sz) (fun u : List Value => [(m0, .inr (12, u))]) (fun u : List Value => [])) (va_A [(m0, .inr (12, fs))] sz)) 0 0 (va_A [(m0, .inr (12, fs))] sz) := by
  refine Met.ofW (cc := cX12_instruction) (maxL := 6) (ret := (some .int)) (by decide) rfl ?_
  intro p e s m args below meth c s₁ B hml hv
  obtain ⟨rfl, hsz, hP, hK, hD0, hE⟩ := hv
  have hx := B.exec
  have hb := B.bytes
  have hr := B.returns
  have hts := atoms_spec (ws := (.code yX12_instruction cX12_instruction 6 (some .int) :: bg)) B.pre
  have htb : ∀ w ∈ bg, w.before _ s = true := fun w h => hts w (List.mem_cons_of_mem _ h)
  have hown : s.vm.findClass RX12 = some m.cls := findClass_of_methodNamed B.named
  have hlocks := B.notSynchronized
  subst hsz
  have hD := hD0.self (sz := s.heap.size)
  generalize hAe : va_A [(m0, .inr (12, fs))] s.heap.size = A at hD hE ⊢
  have hA : ∀ q : Nat, s.heap.size ≤ q → A q := fun q h => by rw [← hAe]; exact Or.inr h
  have hS : va_S A s.heap s.heap [] := va_S.rf
  have hP : va_P D vwCl [(m0, .inr (12, fs))] s.heap := hP
  have hl := lv_entry ([.ref m0, .int x0, .int x1, .int x2]) (n := 6) (Nat.le_of_ble_eq_true rfl)
  rw [lg_entry_eq]
  generalize (lg_sl ([.ref m0, .int x0, .int x1, .int x2]) ++ List.replicate (6 - (lg_sl ([.ref m0, .int x0, .int x1, .int x2])).length) Slot.unset).toArray = ls at hl ⊢
  have hl : lv_has ls 6 [(0, .ref m0), (1, .int x0), (2, .int x1), (3, .int x2)] := hl
  refine lv_aload_n hx hb dX12_instruction_0 rfl (lv_at hl 0 rfl) ?_
  refine lv_iconst (v := 0) hx hb dX12_instruction_1 (by decide) ?_
  refine va_put (D := D) (ci := 12) (v := .int 0) (ty := tyX12 0) (C := RX12) (T := TX12) (N := 82) hx hb htb bi_X12 tyX12 tyX12_ok nmX12 hown hK hP hD hS 0 rfl rfl 0 (by decide) (htb _ bg_88) (fun _ h9 => h9) rfl (tyX12_ok 0 (by decide)) rfl rfl (by rw [hm.1]; decide) dX12_instruction_2 (fun H locs hP hD hS => ?_)
  have hP : va_P D vwCl [(m0, .inr (12, (fs.set 0 (.int 0))))] H := hP
  have hD : va_D A [(m0, .inr (12, (fs.set 0 (.int 0))))] := hD
  have hm : md_has (fs.set 0 (.int 0)) [(0, .int 0), (18, .int (-1))] := md_put hm 0 (.int 0) (by decide) rfl
  generalize (fs.set 0 (.int 0)) = fs at hP hD hm
  refine lv_iload_n hx hb dX12_instruction_5 rfl (lv_at hl 3 rfl) ?_
  refine lv_if_lt (tgt := 14) hx hb dX12_instruction_6 (by decide) (fun c_6 => ?_) (fun c_6 => ?_)
  · skip
    refine lv_aload_n hx hb dX12_instruction_14 rfl (lv_at hl 0 rfl) ?_
    refine xb_goi (wr := []) (va_runV (As := []) (rest := []) ⟨hx, hb, hml, hown, htb⟩ (mm_bad l D g m0 fs (Array.size H) (md_sub hm [] rfl)) (bg_V 0 htb bg_213 bg_214 bg_215 bg_144 bg_211 rfl rfl (by decide +kernel) ⟨Nat.le_of_ble_eq_true rfl, Nat.le_of_ble_eq_true rfl⟩) ⟨xb_blind xe_ok, va_recv hK hP (ci := 12) (q0 := 0) rfl rfl, xb_enter xe_ok hK hP hD hS hA hE [0] rfl rfl rfl [] rfl⟩ rfl rfl hl.1 rfl (lv_room (Nat.le_of_ble_eq_true rfl)) dX12_instruction_15 ⟨Nat.le_of_ble_eq_true rfl, Nat.le_of_ble_eq_true rfl⟩) hK hP hD hS hA [0] [] rfl rfl rfl (by decide) (fun r_15 u_15 H locs hw_15 hP hD hK hS => ?_)
    generalize u_15 = fs at hP hD hK hw_15
    have hP : va_P D vwCl [(m0, .inr (12, fs))] H := hP
    have hD : va_D A [(m0, .inr (12, fs))] := hD
    have hK : va_K D vwCl [] s := hK
    refine W.widen (k := 0) (n := 0) (by decide) (by decide) ?_
    obtain ⟨hw_15, hm⟩ := hw_15
    have hw_15 : r_15 = 0 := hw_15
    subst hw_15
    have hP9 := hP.sub (ws' := [(m0, .inr (12, fs))]) [0] rfl
    have hD9 := hD.sub (ws' := [(m0, .inr (12, fs))]) [0] rfl rfl
    have hK9 := hK.sub (tys' := []) [] rfl
    exact W.iret (v := 0) hx hb hr (fun t ht hW => ⟨⟨0, fs, rfl, Or.inr ⟨by first | exact Or.inl c_6 | exact Or.inr c_11, md_sub hm [0] rfl⟩, by rw [ht]; exact hP9, va_K.moved hW.alike hK9, hD9⟩, hS.F ht⟩) hS.2.2 dX12_instruction_18
  · skip
    refine lv_iload_n hx hb dX12_instruction_9 rfl (lv_at hl 3 rfl) ?_
    refine lv_iconst (v := 4) hx hb dX12_instruction_10 (by decide) ?_
    refine lv_icmp_le (tgt := 19) hx hb dX12_instruction_11 (by decide) (fun c_11 => ?_) (fun c_11 => ?_)
    · skip
      refine lv_aload_n hx hb dX12_instruction_19 rfl (lv_at hl 0 rfl) ?_
      refine lv_iload_n hx hb dX12_instruction_20 rfl (lv_at hl 1 rfl) ?_
      refine xb_goi (wr := []) (va_runV (As := [.int x0]) (rest := []) ⟨hx, hb, hml, hown, htb⟩ (mm_noCode l D g m0 fs x0 (Array.size H) (md_sub hm [1] rfl)) (bg_V 1 htb bg_239 bg_240 bg_241 bg_144 bg_237 rfl rfl (by decide +kernel) ⟨Nat.le_of_ble_eq_true rfl, Nat.le_of_ble_eq_true rfl⟩) ⟨xb_blind xe_ok, va_recv hK hP (ci := 12) (q0 := 0) rfl rfl, xb_enter xe_ok hK hP hD hS hA hE [0] rfl rfl rfl [] rfl⟩ rfl rfl hl.1 rfl (lv_room (Nat.le_of_ble_eq_true rfl)) dX12_instruction_21 ⟨Nat.le_of_ble_eq_true rfl, Nat.le_of_ble_eq_true rfl⟩) hK hP hD hS hA [0] [] rfl rfl rfl (by decide) (fun r_21 u_21 H locs hw_21 hP hD hK hS => ?_)
      have hP : va_P D vwCl [(m0, .inr (12, fs))] H := hP
      have hD : va_D A [(m0, .inr (12, fs))] := hD
      have hK : va_K D vwCl [] s := hK
      refine W.widen (k := 0) (n := 0) (by decide) (by decide) ?_
      have hw_21 : r_21 = 1 := hw_21
      subst hw_21
      refine lv_if_ne (tgt := 47) hx hb dX12_instruction_24 (by decide) (fun c_24 => ?_) (fun c_24 => ?_)
      rotate_left
      · exact absurd c_24 (by decide)
      refine lv_iconst (v := (-1)) hx hb dX12_instruction_47 (by decide) ?_
      have hP9 := hP.sub (ws' := [(m0, .inr (12, fs))]) [0] rfl
      have hD9 := hD.sub (ws' := [(m0, .inr (12, fs))]) [0] rfl rfl
      have hK9 := hK.sub (tys' := []) [] rfl
      exact W.iret (v := (-1)) hx hb hr (fun t ht hW => ⟨⟨(-1), fs, rfl, Or.inl ⟨c_6, c_11, rfl, md_sub hm [0] rfl⟩, by rw [ht]; exact hP9, va_K.moved hW.alike hK9, hD9⟩, hS.F ht⟩) hS.2.2 dX12_instruction_48
    · skip
      refine lv_aload_n hx hb dX12_instruction_14 rfl (lv_at hl 0 rfl) ?_
      refine xb_goi (wr := []) (va_runV (As := []) (rest := []) ⟨hx, hb, hml, hown, htb⟩ (mm_bad l D g m0 fs (Array.size H) (md_sub hm [] rfl)) (bg_V 0 htb bg_213 bg_214 bg_215 bg_144 bg_211 rfl rfl (by decide +kernel) ⟨Nat.le_of_ble_eq_true rfl, Nat.le_of_ble_eq_true rfl⟩) ⟨xb_blind xe_ok, va_recv hK hP (ci := 12) (q0 := 0) rfl rfl, xb_enter xe_ok hK hP hD hS hA hE [0] rfl rfl rfl [] rfl⟩ rfl rfl hl.1 rfl (lv_room (Nat.le_of_ble_eq_true rfl)) dX12_instruction_15 ⟨Nat.le_of_ble_eq_true rfl, Nat.le_of_ble_eq_true rfl⟩) hK hP hD hS hA [0] [] rfl rfl rfl (by decide) (fun r_15 u_15 H locs hw_15 hP hD hK hS => ?_)
      generalize u_15 = fs at hP hD hK hw_15
      have hP : va_P D vwCl [(m0, .inr (12, fs))] H := hP
      have hD : va_D A [(m0, .inr (12, fs))] := hD
      have hK : va_K D vwCl [] s := hK
      refine W.widen (k := 0) (n := 0) (by decide) (by decide) ?_
      obtain ⟨hw_15, hm⟩ := hw_15
      have hw_15 : r_15 = 0 := hw_15
      subst hw_15
      have hP9 := hP.sub (ws' := [(m0, .inr (12, fs))]) [0] rfl
      have hD9 := hD.sub (ws' := [(m0, .inr (12, fs))]) [0] rfl rfl
      have hK9 := hK.sub (tys' := []) [] rfl
      exact W.iret (v := 0) hx hb hr (fun t ht hW => ⟨⟨0, fs, rfl, Or.inr ⟨by first | exact Or.inl c_6 | exact Or.inr c_11, md_sub hm [0] rfl⟩, by rw [ht]; exact hP9, va_K.moved hW.alike hK9, hD9⟩, hS.F ht⟩) hS.2.2 dX12_instruction_18
theorem dX12_end_0 : decode cX12_end 0 = .ok (.aload_n 0, 1) := by decide +kernel
theorem dX12_end_1 : decode cX12_end 1 = .ok (.iconst 0, 1) := by decide +kernel
theorem dX12_end_2 : decode cX12_end 2 = .ok (.putfield 1, 3) := by decide +kernel
theorem dX12_end_5 : decode cX12_end 5 = .ok (.iload_n 1, 1) := by decide +kernel
theorem dX12_end_6 : decode cX12_end 6 = .ok (.ifCond .lt 11, 3) := by decide +kernel
theorem dX12_end_9 : decode cX12_end 9 = .ok (.iload_n 1, 1) := by decide +kernel
theorem dX12_end_10 : decode cX12_end 10 = .ok (.aload_n 0, 1) := by decide +kernel
theorem dX12_end_11 : decode cX12_end 11 = .ok (.getfield 433, 3) := by decide +kernel
theorem dX12_end_14 : decode cX12_end 14 = .ok (.if_icmp .le 8, 3) := by decide +kernel
theorem dX12_end_17 : decode cX12_end 17 = .ok (.aload_n 0, 1) := by decide +kernel
theorem dX12_end_18 : decode cX12_end 18 = .ok (.invokevirtual 440, 3) := by decide +kernel
theorem dX12_end_21 : decode cX12_end 21 = .ok (.ireturn, 1) := by decide +kernel
theorem dX12_end_22 : decode cX12_end 22 = .ok (.iconst 0, 1) := by decide +kernel
theorem dX12_end_23 : decode cX12_end 23 = .ok (.istore_n 2, 1) := by decide +kernel
theorem dX12_end_24 : decode cX12_end 24 = .ok (.iload_n 2, 1) := by decide +kernel
theorem dX12_end_25 : decode cX12_end 25 = .ok (.iload_n 1, 1) := by decide +kernel
theorem dX12_end_26 : decode cX12_end 26 = .ok (.if_icmp .ge 21, 3) := by decide +kernel
theorem dX12_end_47 : decode cX12_end 47 = .ok (.aload_n 0, 1) := by decide +kernel
theorem dX12_end_48 : decode cX12_end 48 = .ok (.iload_n 1, 1) := by decide +kernel
theorem dX12_end_49 : decode cX12_end 49 = .ok (.putfield 443, 3) := by decide +kernel
theorem dX12_end_52 : decode cX12_end 52 = .ok (.aload_n 0, 1) := by decide +kernel
theorem dX12_end_53 : decode cX12_end 53 = .ok (.iconst 0, 1) := by decide +kernel
theorem dX12_end_54 : decode cX12_end 54 = .ok (.putfield 433, 3) := by decide +kernel
theorem dX12_end_57 : decode cX12_end 57 = .ok (.iload_n 1, 1) := by decide +kernel
theorem dX12_end_58 : decode cX12_end 58 = .ok (.ireturn, 1) := by decide +kernel
set_option maxHeartbeats 4000000 in
set_option maxRecDepth 100000 in
theorem mm_end (l : Launch) (D : va_G) (g : xe_G) (m0 : Nat) (fs : List Value) (x0 : Int32) (sz : Nat) (hm : md_has fs [(19, .int 0)]) : Met l yX12_end (.code yX12_end cX12_end 3 (some .int) :: bg) ({ frames := 2, cells := 0, slots := 0, locals := 240 } : Room) (xb_Pre (xe_E g) D vwCl [(m0, .inr (12, fs))] [] sz [.ref m0, .int x0]) (va_Qi (fun r u => (¬ x0 < 0 ∧ x0 ≤ 0 ∧ r = 0 ∧ md_has u [(0, .int 0)]) ∨ ((x0 < 0 ∨ ¬ x0 ≤ 0) ∧ md_has u [(0, .int 1)])) (xb_B D vwCl (va_A [(m0, .inr (12, fs))] sz) (fun u : List Value => [(m0, .inr (12, u))]) (fun u : List Value => [])) (va_A [(m0, .inr (12, fs))] sz)) 0 0 (va_A [(m0, .inr (12, fs))] sz) := by
  refine Met.ofW (cc := cX12_end) (maxL := 3) (ret := (some .int)) (by decide) rfl ?_
  intro p e s m args below meth c s₁ B hml hv
  obtain ⟨rfl, hsz, hP, hK, hD0, hE⟩ := hv
  have hx := B.exec
  have hb := B.bytes
  have hr := B.returns
  have hts := atoms_spec (ws := (.code yX12_end cX12_end 3 (some .int) :: bg)) B.pre
  have htb : ∀ w ∈ bg, w.before _ s = true := fun w h => hts w (List.mem_cons_of_mem _ h)
  have hown : s.vm.findClass RX12 = some m.cls := findClass_of_methodNamed B.named
  have hlocks := B.notSynchronized
  subst hsz
  have hD := hD0.self (sz := s.heap.size)
  generalize hAe : va_A [(m0, .inr (12, fs))] s.heap.size = A at hD hE ⊢
  have hA : ∀ q : Nat, s.heap.size ≤ q → A q := fun q h => by rw [← hAe]; exact Or.inr h
  have hS : va_S A s.heap s.heap [] := va_S.rf
  have hP : va_P D vwCl [(m0, .inr (12, fs))] s.heap := hP
  have hl := lv_entry ([.ref m0, .int x0]) (n := 3) (Nat.le_of_ble_eq_true rfl)
  rw [lg_entry_eq]
  generalize (lg_sl ([.ref m0, .int x0]) ++ List.replicate (3 - (lg_sl ([.ref m0, .int x0])).length) Slot.unset).toArray = ls at hl ⊢
  have hl : lv_has ls 3 [(0, .ref m0), (1, .int x0)] := hl
  refine lv_aload_n hx hb dX12_end_0 rfl (lv_at hl 0 rfl) ?_
  refine lv_iconst (v := 0) hx hb dX12_end_1 (by decide) ?_
  refine va_put (D := D) (ci := 12) (v := .int 0) (ty := tyX12 0) (C := RX12) (T := TX12) (N := 82) hx hb htb bi_X12 tyX12 tyX12_ok nmX12 hown hK hP hD hS 0 rfl rfl 0 (by decide) (htb _ bg_88) (fun _ h9 => h9) rfl (tyX12_ok 0 (by decide)) rfl rfl (by rw [hm.1]; decide) dX12_end_2 (fun H locs hP hD hS => ?_)
  have hP : va_P D vwCl [(m0, .inr (12, (fs.set 0 (.int 0))))] H := hP
  have hD : va_D A [(m0, .inr (12, (fs.set 0 (.int 0))))] := hD
  have hm : md_has (fs.set 0 (.int 0)) [(0, .int 0), (19, .int 0)] := md_put hm 0 (.int 0) (by decide) rfl
  generalize (fs.set 0 (.int 0)) = fs at hP hD hm
  refine lv_iload_n hx hb dX12_end_5 rfl (lv_at hl 1 rfl) ?_
  refine lv_if_lt (tgt := 17) hx hb dX12_end_6 (by decide) (fun c_6 => ?_) (fun c_6 => ?_)
  · skip
    refine lv_aload_n hx hb dX12_end_17 rfl (lv_at hl 0 rfl) ?_
    refine xb_goi (wr := []) (va_runV (As := []) (rest := []) ⟨hx, hb, hml, hown, htb⟩ (mm_bad l D g m0 fs (Array.size H) (md_sub hm [] rfl)) (bg_V 0 htb bg_213 bg_214 bg_215 bg_144 bg_211 rfl rfl (by decide +kernel) ⟨Nat.le_of_ble_eq_true rfl, Nat.le_of_ble_eq_true rfl⟩) ⟨xb_blind xe_ok, va_recv hK hP (ci := 12) (q0 := 0) rfl rfl, xb_enter xe_ok hK hP hD hS hA hE [0] rfl rfl rfl [] rfl⟩ rfl rfl hl.1 rfl (lv_room (Nat.le_of_ble_eq_true rfl)) dX12_end_18 ⟨Nat.le_of_ble_eq_true rfl, Nat.le_of_ble_eq_true rfl⟩) hK hP hD hS hA [0] [] rfl rfl rfl (by decide) (fun r_18 u_18 H locs hw_18 hP hD hK hS => ?_)
    generalize u_18 = fs at hP hD hK hw_18
    have hP : va_P D vwCl [(m0, .inr (12, fs))] H := hP
    have hD : va_D A [(m0, .inr (12, fs))] := hD
    have hK : va_K D vwCl [] s := hK
    refine W.widen (k := 0) (n := 0) (by decide) (by decide) ?_
    obtain ⟨hw_18, hm⟩ := hw_18
    have hw_18 : r_18 = 0 := hw_18
    subst hw_18
    have hP9 := hP.sub (ws' := [(m0, .inr (12, fs))]) [0] rfl
    have hD9 := hD.sub (ws' := [(m0, .inr (12, fs))]) [0] rfl rfl
    have hK9 := hK.sub (tys' := []) [] rfl
    exact W.iret (v := 0) hx hb hr (fun t ht hW => ⟨⟨0, fs, rfl, Or.inr ⟨by first | exact Or.inl c_6 | exact Or.inr c_14, md_sub hm [0] rfl⟩, by rw [ht]; exact hP9, va_K.moved hW.alike hK9, hD9⟩, hS.F ht⟩) hS.2.2 dX12_end_21
  · skip
    refine lv_iload_n hx hb dX12_end_9 rfl (lv_at hl 1 rfl) ?_
    refine lv_aload_n hx hb dX12_end_10 rfl (lv_at hl 0 rfl) ?_
    refine va_get (D := D) (ci := 12) (v := .int 0) (C := RX12) (T := TX12) (N := 82) hx hb htb bi_X12 hown hK hP 0 rfl rfl 19 (by decide) (htb _ bg_206) (fun _ h9 => h9) (md_at hm 1 rfl) dX12_end_11 ?_
    refine lv_icmp_le (tgt := 22) hx hb dX12_end_14 (by decide) (fun c_14 => ?_) (fun c_14 => ?_)
    · skip
      have hx0 : x0 = 0 := Int32.le_antisymm c_14 (Int32.not_lt.mp c_6)
      subst hx0
      refine lv_iconst (v := 0) hx hb dX12_end_22 (by decide) ?_
      refine lv_istore_n (lv' := [(2, .int 0), (0, .ref m0), (1, .int 0)]) hx hb dX12_end_23 rfl hl (by decide) rfl (fun ls hl => ?_)
      refine lv_iload_n hx hb dX12_end_24 rfl (lv_at hl 0 rfl) ?_
      refine lv_iload_n hx hb dX12_end_25 rfl (lv_at hl 2 rfl) ?_
      refine lv_icmp_ge (tgt := 47) hx hb dX12_end_26 (by decide) (fun c_26 => ?_) (fun c_26 => ?_)
      rotate_left
      · exact absurd (by decide) c_26
      refine lv_aload_n hx hb dX12_end_47 rfl (lv_at hl 1 rfl) ?_
      refine lv_iload_n hx hb dX12_end_48 rfl (lv_at hl 2 rfl) ?_
      refine va_put (D := D) (ci := 12) (v := .int 0) (ty := tyX12 17) (C := RX12) (T := TX12) (N := 82) hx hb htb bi_X12 tyX12 tyX12_ok nmX12 hown hK hP hD hS 0 rfl rfl 17 (by decide) (htb _ bg_216) (fun _ h9 => h9) rfl (tyX12_ok 17 (by decide)) rfl rfl (by rw [hm.1]; decide) dX12_end_49 (fun H locs hP hD hS => ?_)
      have hP : va_P D vwCl [(m0, .inr (12, (fs.set 17 (.int 0))))] H := hP
      have hD : va_D A [(m0, .inr (12, (fs.set 17 (.int 0))))] := hD
      have hm : md_has (fs.set 17 (.int 0)) [(17, .int 0), (0, .int 0), (19, .int 0)] := md_put hm 17 (.int 0) (by decide) rfl
      generalize (fs.set 17 (.int 0)) = fs at hP hD hm
      refine lv_aload_n hx hb dX12_end_52 rfl (lv_at hl 1 rfl) ?_
      refine lv_iconst (v := 0) hx hb dX12_end_53 (by decide) ?_
      refine va_put (D := D) (ci := 12) (v := .int 0) (ty := tyX12 19) (C := RX12) (T := TX12) (N := 82) hx hb htb bi_X12 tyX12 tyX12_ok nmX12 hown hK hP hD hS 0 rfl rfl 19 (by decide) (htb _ bg_206) (fun _ h9 => h9) rfl (tyX12_ok 19 (by decide)) rfl rfl (by rw [hm.1]; decide) dX12_end_54 (fun H locs hP hD hS => ?_)
      have hP : va_P D vwCl [(m0, .inr (12, (fs.set 19 (.int 0))))] H := hP
      have hD : va_D A [(m0, .inr (12, (fs.set 19 (.int 0))))] := hD
      have hm : md_has (fs.set 19 (.int 0)) [(19, .int 0), (17, .int 0), (0, .int 0)] := md_put hm 19 (.int 0) (by decide) rfl
      generalize (fs.set 19 (.int 0)) = fs at hP hD hm
      refine lv_iload_n hx hb dX12_end_57 rfl (lv_at hl 2 rfl) ?_
      have hP9 := hP.sub (ws' := [(m0, .inr (12, fs))]) [0] rfl
      have hD9 := hD.sub (ws' := [(m0, .inr (12, fs))]) [0] rfl rfl
      have hK9 := hK.sub (tys' := []) [] rfl
      exact W.iret (v := 0) hx hb hr (fun t ht hW => ⟨⟨0, fs, rfl, Or.inl ⟨c_6, c_14, rfl, md_sub hm [2] rfl⟩, by rw [ht]; exact hP9, va_K.moved hW.alike hK9, hD9⟩, hS.F ht⟩) hS.2.2 dX12_end_58
    · skip
      refine lv_aload_n hx hb dX12_end_17 rfl (lv_at hl 0 rfl) ?_
      refine xb_goi (wr := []) (va_runV (As := []) (rest := []) ⟨hx, hb, hml, hown, htb⟩ (mm_bad l D g m0 fs (Array.size H) (md_sub hm [] rfl)) (bg_V 0 htb bg_213 bg_214 bg_215 bg_144 bg_211 rfl rfl (by decide +kernel) ⟨Nat.le_of_ble_eq_true rfl, Nat.le_of_ble_eq_true rfl⟩) ⟨xb_blind xe_ok, va_recv hK hP (ci := 12) (q0 := 0) rfl rfl, xb_enter xe_ok hK hP hD hS hA hE [0] rfl rfl rfl [] rfl⟩ rfl rfl hl.1 rfl (lv_room (Nat.le_of_ble_eq_true rfl)) dX12_end_18 ⟨Nat.le_of_ble_eq_true rfl, Nat.le_of_ble_eq_true rfl⟩) hK hP hD hS hA [0] [] rfl rfl rfl (by decide) (fun r_18 u_18 H locs hw_18 hP hD hK hS => ?_)
      generalize u_18 = fs at hP hD hK hw_18
      have hP : va_P D vwCl [(m0, .inr (12, fs))] H := hP
      have hD : va_D A [(m0, .inr (12, fs))] := hD
      have hK : va_K D vwCl [] s := hK
      refine W.widen (k := 0) (n := 0) (by decide) (by decide) ?_
      obtain ⟨hw_18, hm⟩ := hw_18
      have hw_18 : r_18 = 0 := hw_18
      subst hw_18
      have hP9 := hP.sub (ws' := [(m0, .inr (12, fs))]) [0] rfl
      have hD9 := hD.sub (ws' := [(m0, .inr (12, fs))]) [0] rfl rfl
      have hK9 := hK.sub (tys' := []) [] rfl
      exact W.iret (v := 0) hx hb hr (fun t ht hW => ⟨⟨0, fs, rfl, Or.inr ⟨by first | exact Or.inl c_6 | exact Or.inr c_14, md_sub hm [0] rfl⟩, by rw [ht]; exact hP9, va_K.moved hW.alike hK9, hD9⟩, hS.F ht⟩) hS.2.2 dX12_end_21
theorem dX12_four_0 : decode cX12_four 0 = .ok (.bipush 24, 2) := by decide +kernel
theorem dX12_four_2 : decode cX12_four 2 = .ok (.istore_n 2, 1) := by decide +kernel
theorem dX12_four_3 : decode cX12_four 3 = .ok (.iload_n 2, 1) := by decide +kernel
theorem dX12_four_4 : decode cX12_four 4 = .ok (.ifCond .lt 29, 3) := by decide +kernel
theorem dX12_four_7 : decode cX12_four 7 = .ok (.aload_n 0, 1) := by decide +kernel
theorem dX12_four_8 : decode cX12_four 8 = .ok (.getfield 46, 3) := by decide +kernel
theorem dX12_four_11 : decode cX12_four 11 = .ok (.aload_n 0, 1) := by decide +kernel
theorem dX12_four_12 : decode cX12_four 12 = .ok (.dup, 1) := by decide +kernel
theorem dX12_four_13 : decode cX12_four 13 = .ok (.getfield 433, 3) := by decide +kernel
theorem dX12_four_16 : decode cX12_four 16 = .ok (.dup_x1, 1) := by decide +kernel
theorem dX12_four_17 : decode cX12_four 17 = .ok (.iconst 1, 1) := by decide +kernel
theorem dX12_four_18 : decode cX12_four 18 = .ok (.iadd, 1) := by decide +kernel
theorem dX12_four_19 : decode cX12_four 19 = .ok (.putfield 433, 3) := by decide +kernel
theorem dX12_four_22 : decode cX12_four 22 = .ok (.iload_n 1, 1) := by decide +kernel
theorem dX12_four_23 : decode cX12_four 23 = .ok (.iload_n 2, 1) := by decide +kernel
theorem dX12_four_24 : decode cX12_four 24 = .ok (.iushr, 1) := by decide +kernel
theorem dX12_four_25 : decode cX12_four 25 = .ok (.i2b, 1) := by decide +kernel
theorem dX12_four_26 : decode cX12_four 26 = .ok (.bastore, 1) := by decide +kernel
theorem dX12_four_27 : decode cX12_four 27 = .ok (.iinc 2 (-8), 3) := by decide +kernel
theorem dX12_four_30 : decode cX12_four 30 = .ok (.goto (-27), 3) := by decide +kernel
theorem dX12_four_33 : decode cX12_four 33 = .ok (.return_, 1) := by decide +kernel
set_option maxHeartbeats 4000000 in
set_option maxRecDepth 100000 in
theorem mm_four (l : Launch) (D : va_G) (g : xe_G) (m0 : Nat) (fs : List Value) (tv : Int32) (qm : Nat) (aM : ClassId) (f : Nat → Int32) (n : Int32) (v : Int32) (sz : Nat) (hm : md_has fs [(0, .int tv), (15, .ref qm), (19, .int n)]) (i0 : vp_in n 65560) (i1 : vp_in (n + 1) 65560) (i2 : vp_in ((n + 1) + 1) 65560) (i3 : vp_in (((n + 1) + 1) + 1) 65560) : Met l yX12_four (.code yX12_four cX12_four 3 none :: bg) ({ frames := 1, cells := 0, slots := 0, locals := 120 } : Room) (xb_Pre (xe_E g) D vwCl [(m0, .inr (12, fs)), (qm, .inl (aM, 65560, .inl f))] [(aM, .byte)] sz [.ref m0, .int v]) (va_Qv (fun u => md_has u.1 [(0, .int tv), (15, .ref qm), (19, .int ((((n + 1) + 1) + 1) + 1))]) (xb_B D vwCl (va_A [(m0, .inr (12, fs)), (qm, .inl (aM, 65560, .inl f))] sz) (fun u : List Value × (Nat → Int32) => [(m0, .inr (12, u.1)), (qm, .inl (aM, 65560, .inl u.2))]) (fun u : List Value × (Nat → Int32) => [(aM, .byte)])) (va_A [(m0, .inr (12, fs)), (qm, .inl (aM, 65560, .inl f))] sz)) 0 0 (va_A [(m0, .inr (12, fs)), (qm, .inl (aM, 65560, .inl f))] sz) := by
  refine Met.ofW (cc := cX12_four) (maxL := 3) (ret := none) (by decide) rfl ?_
  intro p e s m args below meth c s₁ B hml hv
  obtain ⟨rfl, hsz, hP, hK, hD0, hE⟩ := hv
  have hx := B.exec
  have hb := B.bytes
  have hr := B.returns
  have hts := atoms_spec (ws := (.code yX12_four cX12_four 3 none :: bg)) B.pre
  have htb : ∀ w ∈ bg, w.before _ s = true := fun w h => hts w (List.mem_cons_of_mem _ h)
  have hown : s.vm.findClass RX12 = some m.cls := findClass_of_methodNamed B.named
  have hlocks := B.notSynchronized
  subst hsz
  have hD := hD0.self (sz := s.heap.size)
  generalize hAe : va_A [(m0, .inr (12, fs)), (qm, .inl (aM, 65560, .inl f))] s.heap.size = A at hD hE ⊢
  have hA : ∀ q : Nat, s.heap.size ≤ q → A q := fun q h => by rw [← hAe]; exact Or.inr h
  have hS : va_S A s.heap s.heap [] := va_S.rf
  have hP : va_P D vwCl [(m0, .inr (12, fs)), (qm, .inl (aM, 65560, .inl f))] s.heap := hP
  have hl := lv_entry ([.ref m0, .int v]) (n := 3) (Nat.le_of_ble_eq_true rfl)
  rw [lg_entry_eq]
  generalize (lg_sl ([.ref m0, .int v]) ++ List.replicate (3 - (lg_sl ([.ref m0, .int v])).length) Slot.unset).toArray = ls at hl ⊢
  have hl : lv_has ls 3 [(0, .ref m0), (1, .int v)] := hl
  refine lv_bipush (v := 24) hx hb dX12_four_0 (by decide) ?_
  refine lv_istore_n (lv' := [(2, .int 24), (0, .ref m0), (1, .int v)]) hx hb dX12_four_2 rfl hl (by decide) rfl (fun ls hl => ?_)
  refine lv_iload_n hx hb dX12_four_3 rfl (lv_at hl 0 rfl) ?_
  refine lv_if_lt (tgt := 33) hx hb dX12_four_4 (by decide) (fun c_4 => ?_) (fun c_4 => ?_)
  · exact absurd c_4 (by decide)
  refine lv_aload_n hx hb dX12_four_7 rfl (lv_at hl 1 rfl) ?_
  refine va_get (D := D) (ci := 12) (v := .ref qm) (C := RX12) (T := TX12) (N := 82) hx hb htb bi_X12 hown hK hP 0 rfl rfl 15 (by decide) (htb _ bg_105) (fun _ h9 => h9) (md_at hm 1 rfl) dX12_four_8 ?_
  refine lv_aload_n hx hb dX12_four_11 rfl (lv_at hl 1 rfl) ?_
  refine lv_dup hx hb dX12_four_12 rfl ?_
  refine va_get (D := D) (ci := 12) (v := .int n) (C := RX12) (T := TX12) (N := 82) hx hb htb bi_X12 hown hK hP 0 rfl rfl 19 (by decide) (htb _ bg_206) (fun _ h9 => h9) (md_at hm 2 rfl) dX12_four_13 ?_
  refine lv_dup_x1 hx hb dX12_four_16 rfl rfl ?_
  refine lv_iconst (v := 1) hx hb dX12_four_17 (by decide) ?_
  refine lv_iadd hx hb dX12_four_18 ?_
  refine va_put (D := D) (ci := 12) (v := .int (n + 1)) (ty := tyX12 19) (C := RX12) (T := TX12) (N := 82) hx hb htb bi_X12 tyX12 tyX12_ok nmX12 hown hK hP hD hS 0 rfl rfl 19 (by decide) (htb _ bg_206) (fun _ h9 => h9) rfl (tyX12_ok 19 (by decide)) rfl rfl (by rw [hm.1]; decide) dX12_four_19 (fun H locs hP hD hS => ?_)
  have hP : va_P D vwCl [(m0, .inr (12, (fs.set 19 (.int (n + 1))))), (qm, .inl (aM, 65560, .inl f))] H := hP
  have hD : va_D A [(m0, .inr (12, (fs.set 19 (.int (n + 1))))), (qm, .inl (aM, 65560, .inl f))] := hD
  have hm : md_has (fs.set 19 (.int (n + 1))) [(19, .int (n + 1)), (0, .int tv), (15, .ref qm)] := md_put hm 19 (.int (n + 1)) (by decide) rfl
  generalize (fs.set 19 (.int (n + 1))) = fs at hP hD hm
  refine lv_iload_n hx hb dX12_four_22 rfl (lv_at hl 2 rfl) ?_
  refine lv_iload_n hx hb dX12_four_23 rfl (lv_at hl 0 rfl) ?_
  refine lv_iushr hx hb dX12_four_24 rfl ?_
  refine lv_topi (fun x24_u ex24_u => ?_)
  refine lv_i2b hx hb dX12_four_25 rfl ?_
  refine lv_topi (fun x25_c ex25_c => ?_)
  refine va_bast hx hb hK hP hD hS 1 0 rfl rfl (i0) dX12_four_26 (fun H locs hP hD hS => ?_)
  have hP : va_P D vwCl [(m0, .inr (12, fs)), (qm, .inl (aM, 65560, .inl (upd f (Int32.toNatClampNeg n) (vp_nar .byte x25_c))))] H := hP
  have hD : va_D A [(m0, .inr (12, fs)), (qm, .inl (aM, 65560, .inl (upd f (Int32.toNatClampNeg n) (vp_nar .byte x25_c))))] := hD
  generalize (upd f (Int32.toNatClampNeg n) (vp_nar .byte x25_c)) = f at hP hD
  refine lv_iinc (v := 16) (lv' := [(2, .int 16), (0, .ref m0), (1, .int v)]) hx hb dX12_four_27 hl (k := 0) rfl (by decide) (by decide) rfl (fun ls hl => ?_)
  refine lv_goto (tgt := 3) hx hb dX12_four_30 (by decide) ?_
  refine lv_iload_n hx hb dX12_four_3 rfl (lv_at hl 0 rfl) ?_
  refine lv_if_lt (tgt := 33) hx hb dX12_four_4 (by decide) (fun c_4 => ?_) (fun c_4 => ?_)
  · exact absurd c_4 (by decide)
  refine lv_aload_n hx hb dX12_four_7 rfl (lv_at hl 1 rfl) ?_
  refine va_get (D := D) (ci := 12) (v := .ref qm) (C := RX12) (T := TX12) (N := 82) hx hb htb bi_X12 hown hK hP 0 rfl rfl 15 (by decide) (htb _ bg_105) (fun _ h9 => h9) (md_at hm 2 rfl) dX12_four_8 ?_
  refine lv_aload_n hx hb dX12_four_11 rfl (lv_at hl 1 rfl) ?_
  refine lv_dup hx hb dX12_four_12 rfl ?_
  refine va_get (D := D) (ci := 12) (v := .int (n + 1)) (C := RX12) (T := TX12) (N := 82) hx hb htb bi_X12 hown hK hP 0 rfl rfl 19 (by decide) (htb _ bg_206) (fun _ h9 => h9) (md_at hm 0 rfl) dX12_four_13 ?_
  refine lv_dup_x1 hx hb dX12_four_16 rfl rfl ?_
  refine lv_iconst (v := 1) hx hb dX12_four_17 (by decide) ?_
  refine lv_iadd hx hb dX12_four_18 ?_
  refine va_put (D := D) (ci := 12) (v := .int ((n + 1) + 1)) (ty := tyX12 19) (C := RX12) (T := TX12) (N := 82) hx hb htb bi_X12 tyX12 tyX12_ok nmX12 hown hK hP hD hS 0 rfl rfl 19 (by decide) (htb _ bg_206) (fun _ h9 => h9) rfl (tyX12_ok 19 (by decide)) rfl rfl (by rw [hm.1]; decide) dX12_four_19 (fun H locs hP hD hS => ?_)
  have hP : va_P D vwCl [(m0, .inr (12, (fs.set 19 (.int ((n + 1) + 1))))), (qm, .inl (aM, 65560, .inl f))] H := hP
  have hD : va_D A [(m0, .inr (12, (fs.set 19 (.int ((n + 1) + 1))))), (qm, .inl (aM, 65560, .inl f))] := hD
  have hm : md_has (fs.set 19 (.int ((n + 1) + 1))) [(19, .int ((n + 1) + 1)), (0, .int tv), (15, .ref qm)] := md_put hm 19 (.int ((n + 1) + 1)) (by decide) rfl
  generalize (fs.set 19 (.int ((n + 1) + 1))) = fs at hP hD hm
  refine lv_iload_n hx hb dX12_four_22 rfl (lv_at hl 2 rfl) ?_
  refine lv_iload_n hx hb dX12_four_23 rfl (lv_at hl 0 rfl) ?_
  refine lv_iushr hx hb dX12_four_24 rfl ?_
  refine lv_topi (fun x24_u ex24_u => ?_)
  refine lv_i2b hx hb dX12_four_25 rfl ?_
  refine lv_topi (fun x25_c ex25_c => ?_)
  refine va_bast hx hb hK hP hD hS 1 0 rfl rfl (i1) dX12_four_26 (fun H locs hP hD hS => ?_)
  have hP : va_P D vwCl [(m0, .inr (12, fs)), (qm, .inl (aM, 65560, .inl (upd f (Int32.toNatClampNeg (n + 1)) (vp_nar .byte x25_c))))] H := hP
  have hD : va_D A [(m0, .inr (12, fs)), (qm, .inl (aM, 65560, .inl (upd f (Int32.toNatClampNeg (n + 1)) (vp_nar .byte x25_c))))] := hD
  generalize (upd f (Int32.toNatClampNeg (n + 1)) (vp_nar .byte x25_c)) = f at hP hD
  refine lv_iinc (v := 8) (lv' := [(2, .int 8), (0, .ref m0), (1, .int v)]) hx hb dX12_four_27 hl (k := 0) rfl (by decide) (by decide) rfl (fun ls hl => ?_)
  refine lv_goto (tgt := 3) hx hb dX12_four_30 (by decide) ?_
  refine lv_iload_n hx hb dX12_four_3 rfl (lv_at hl 0 rfl) ?_
  refine lv_if_lt (tgt := 33) hx hb dX12_four_4 (by decide) (fun c_4 => ?_) (fun c_4 => ?_)
  · exact absurd c_4 (by decide)
  refine lv_aload_n hx hb dX12_four_7 rfl (lv_at hl 1 rfl) ?_
  refine va_get (D := D) (ci := 12) (v := .ref qm) (C := RX12) (T := TX12) (N := 82) hx hb htb bi_X12 hown hK hP 0 rfl rfl 15 (by decide) (htb _ bg_105) (fun _ h9 => h9) (md_at hm 2 rfl) dX12_four_8 ?_
  refine lv_aload_n hx hb dX12_four_11 rfl (lv_at hl 1 rfl) ?_
  refine lv_dup hx hb dX12_four_12 rfl ?_
  refine va_get (D := D) (ci := 12) (v := .int ((n + 1) + 1)) (C := RX12) (T := TX12) (N := 82) hx hb htb bi_X12 hown hK hP 0 rfl rfl 19 (by decide) (htb _ bg_206) (fun _ h9 => h9) (md_at hm 0 rfl) dX12_four_13 ?_
  refine lv_dup_x1 hx hb dX12_four_16 rfl rfl ?_
  refine lv_iconst (v := 1) hx hb dX12_four_17 (by decide) ?_
  refine lv_iadd hx hb dX12_four_18 ?_
  refine va_put (D := D) (ci := 12) (v := .int (((n + 1) + 1) + 1)) (ty := tyX12 19) (C := RX12) (T := TX12) (N := 82) hx hb htb bi_X12 tyX12 tyX12_ok nmX12 hown hK hP hD hS 0 rfl rfl 19 (by decide) (htb _ bg_206) (fun _ h9 => h9) rfl (tyX12_ok 19 (by decide)) rfl rfl (by rw [hm.1]; decide) dX12_four_19 (fun H locs hP hD hS => ?_)
  have hP : va_P D vwCl [(m0, .inr (12, (fs.set 19 (.int (((n + 1) + 1) + 1))))), (qm, .inl (aM, 65560, .inl f))] H := hP
  have hD : va_D A [(m0, .inr (12, (fs.set 19 (.int (((n + 1) + 1) + 1))))), (qm, .inl (aM, 65560, .inl f))] := hD
  have hm : md_has (fs.set 19 (.int (((n + 1) + 1) + 1))) [(19, .int (((n + 1) + 1) + 1)), (0, .int tv), (15, .ref qm)] := md_put hm 19 (.int (((n + 1) + 1) + 1)) (by decide) rfl
  generalize (fs.set 19 (.int (((n + 1) + 1) + 1))) = fs at hP hD hm
  refine lv_iload_n hx hb dX12_four_22 rfl (lv_at hl 2 rfl) ?_
  refine lv_iload_n hx hb dX12_four_23 rfl (lv_at hl 0 rfl) ?_
  refine lv_iushr hx hb dX12_four_24 rfl ?_
  refine lv_topi (fun x24_u ex24_u => ?_)
  refine lv_i2b hx hb dX12_four_25 rfl ?_
  refine lv_topi (fun x25_c ex25_c => ?_)
  refine va_bast hx hb hK hP hD hS 1 0 rfl rfl (i2) dX12_four_26 (fun H locs hP hD hS => ?_)
  have hP : va_P D vwCl [(m0, .inr (12, fs)), (qm, .inl (aM, 65560, .inl (upd f (Int32.toNatClampNeg ((n + 1) + 1)) (vp_nar .byte x25_c))))] H := hP
  have hD : va_D A [(m0, .inr (12, fs)), (qm, .inl (aM, 65560, .inl (upd f (Int32.toNatClampNeg ((n + 1) + 1)) (vp_nar .byte x25_c))))] := hD
  generalize (upd f (Int32.toNatClampNeg ((n + 1) + 1)) (vp_nar .byte x25_c)) = f at hP hD
  refine lv_iinc (v := 0) (lv' := [(2, .int 0), (0, .ref m0), (1, .int v)]) hx hb dX12_four_27 hl (k := 0) rfl (by decide) (by decide) rfl (fun ls hl => ?_)
  refine lv_goto (tgt := 3) hx hb dX12_four_30 (by decide) ?_
  refine lv_iload_n hx hb dX12_four_3 rfl (lv_at hl 0 rfl) ?_
  refine lv_if_lt (tgt := 33) hx hb dX12_four_4 (by decide) (fun c_4 => ?_) (fun c_4 => ?_)
  · exact absurd c_4 (by decide)
  refine lv_aload_n hx hb dX12_four_7 rfl (lv_at hl 1 rfl) ?_
  refine va_get (D := D) (ci := 12) (v := .ref qm) (C := RX12) (T := TX12) (N := 82) hx hb htb bi_X12 hown hK hP 0 rfl rfl 15 (by decide) (htb _ bg_105) (fun _ h9 => h9) (md_at hm 2 rfl) dX12_four_8 ?_
  refine lv_aload_n hx hb dX12_four_11 rfl (lv_at hl 1 rfl) ?_
  refine lv_dup hx hb dX12_four_12 rfl ?_
  refine va_get (D := D) (ci := 12) (v := .int (((n + 1) + 1) + 1)) (C := RX12) (T := TX12) (N := 82) hx hb htb bi_X12 hown hK hP 0 rfl rfl 19 (by decide) (htb _ bg_206) (fun _ h9 => h9) (md_at hm 0 rfl) dX12_four_13 ?_
  refine lv_dup_x1 hx hb dX12_four_16 rfl rfl ?_
  refine lv_iconst (v := 1) hx hb dX12_four_17 (by decide) ?_
  refine lv_iadd hx hb dX12_four_18 ?_
  refine va_put (D := D) (ci := 12) (v := .int ((((n + 1) + 1) + 1) + 1)) (ty := tyX12 19) (C := RX12) (T := TX12) (N := 82) hx hb htb bi_X12 tyX12 tyX12_ok nmX12 hown hK hP hD hS 0 rfl rfl 19 (by decide) (htb _ bg_206) (fun _ h9 => h9) rfl (tyX12_ok 19 (by decide)) rfl rfl (by rw [hm.1]; decide) dX12_four_19 (fun H locs hP hD hS => ?_)
  have hP : va_P D vwCl [(m0, .inr (12, (fs.set 19 (.int ((((n + 1) + 1) + 1) + 1))))), (qm, .inl (aM, 65560, .inl f))] H := hP
  have hD : va_D A [(m0, .inr (12, (fs.set 19 (.int ((((n + 1) + 1) + 1) + 1))))), (qm, .inl (aM, 65560, .inl f))] := hD
  have hm : md_has (fs.set 19 (.int ((((n + 1) + 1) + 1) + 1))) [(19, .int ((((n + 1) + 1) + 1) + 1)), (0, .int tv), (15, .ref qm)] := md_put hm 19 (.int ((((n + 1) + 1) + 1) + 1)) (by decide) rfl
  generalize (fs.set 19 (.int ((((n + 1) + 1) + 1) + 1))) = fs at hP hD hm
  refine lv_iload_n hx hb dX12_four_22 rfl (lv_at hl 2 rfl) ?_
  refine lv_iload_n hx hb dX12_four_23 rfl (lv_at hl 0 rfl) ?_
  refine lv_iushr hx hb dX12_four_24 rfl ?_
  refine lv_topi (fun x24_u ex24_u => ?_)
  refine lv_i2b hx hb dX12_four_25 rfl ?_
  refine lv_topi (fun x25_c ex25_c => ?_)
  refine va_bast hx hb hK hP hD hS 1 0 rfl rfl (i3) dX12_four_26 (fun H locs hP hD hS => ?_)
  have hP : va_P D vwCl [(m0, .inr (12, fs)), (qm, .inl (aM, 65560, .inl (upd f (Int32.toNatClampNeg (((n + 1) + 1) + 1)) (vp_nar .byte x25_c))))] H := hP
  have hD : va_D A [(m0, .inr (12, fs)), (qm, .inl (aM, 65560, .inl (upd f (Int32.toNatClampNeg (((n + 1) + 1) + 1)) (vp_nar .byte x25_c))))] := hD
  generalize (upd f (Int32.toNatClampNeg (((n + 1) + 1) + 1)) (vp_nar .byte x25_c)) = f at hP hD
  refine lv_iinc (v := (-8)) (lv' := [(2, .int (-8)), (0, .ref m0), (1, .int v)]) hx hb dX12_four_27 hl (k := 0) rfl (by decide) (by decide) rfl (fun ls hl => ?_)
  refine lv_goto (tgt := 3) hx hb dX12_four_30 (by decide) ?_
  refine lv_iload_n hx hb dX12_four_3 rfl (lv_at hl 0 rfl) ?_
  refine lv_if_lt (tgt := 33) hx hb dX12_four_4 (by decide) (fun c_4 => ?_) (fun c_4 => ?_)
  rotate_left
  · exact absurd (by decide) c_4
  have hP9 := hP.sub (ws' := [(m0, .inr (12, fs)), (qm, .inl (aM, 65560, .inl f))]) [0, 1] rfl
  have hD9 := hD.sub (ws' := [(m0, .inr (12, fs)), (qm, .inl (aM, 65560, .inl f))]) [0, 1] rfl rfl
  have hK9 := hK.sub (tys' := [(aM, .byte)]) [0] rfl
  exact W.vret hx hb hr (fun t ht hW => ⟨⟨(fs, f), rfl, md_sub hm [1, 2, 0] rfl, by rw [ht]; exact hP9, va_K.moved hW.alike hK9, hD9⟩, hS.F ht⟩) hS.2.2 dX12_four_33
theorem dX12_feed_0 : decode cX12_feed 0 = .ok (.aload_n 0, 1) := by decide +kernel
theorem dX12_feed_1 : decode cX12_feed 1 = .ok (.iconst 0, 1) := by decide +kernel
theorem dX12_feed_2 : decode cX12_feed 2 = .ok (.putfield 1, 3) := by decide +kernel
theorem dX12_feed_5 : decode cX12_feed 5 = .ok (.aload_n 0, 1) := by decide +kernel
theorem dX12_feed_6 : decode cX12_feed 6 = .ok (.getfield 433, 3) := by decide +kernel
theorem dX12_feed_9 : decode cX12_feed 9 = .ok (.bipush 20, 2) := by decide +kernel
theorem dX12_feed_11 : decode cX12_feed 11 = .ok (.iadd, 1) := by decide +kernel
theorem dX12_feed_12 : decode cX12_feed 12 = .ok (.ldc 52, 2) := by decide +kernel
theorem dX12_feed_14 : decode cX12_feed 14 = .ok (.if_icmp .le 10, 3) := by decide +kernel
theorem dX12_feed_24 : decode cX12_feed 24 = .ok (.aload_n 0, 1) := by decide +kernel
theorem dX12_feed_25 : decode cX12_feed 25 = .ok (.iload_n 1, 1) := by decide +kernel
theorem dX12_feed_26 : decode cX12_feed 26 = .ok (.invokevirtual 436, 3) := by decide +kernel
theorem dX12_feed_29 : decode cX12_feed 29 = .ok (.aload_n 0, 1) := by decide +kernel
theorem dX12_feed_30 : decode cX12_feed 30 = .ok (.iload_n 2, 1) := by decide +kernel
theorem dX12_feed_31 : decode cX12_feed 31 = .ok (.invokevirtual 436, 3) := by decide +kernel
theorem dX12_feed_34 : decode cX12_feed 34 = .ok (.aload_n 0, 1) := by decide +kernel
theorem dX12_feed_35 : decode cX12_feed 35 = .ok (.iload_n 3, 1) := by decide +kernel
theorem dX12_feed_36 : decode cX12_feed 36 = .ok (.invokevirtual 436, 3) := by decide +kernel
theorem dX12_feed_39 : decode cX12_feed 39 = .ok (.aload_n 0, 1) := by decide +kernel
theorem dX12_feed_40 : decode cX12_feed 40 = .ok (.iload 4, 2) := by decide +kernel
theorem dX12_feed_42 : decode cX12_feed 42 = .ok (.invokevirtual 436, 3) := by decide +kernel
theorem dX12_feed_45 : decode cX12_feed 45 = .ok (.aload_n 0, 1) := by decide +kernel
theorem dX12_feed_46 : decode cX12_feed 46 = .ok (.iload 5, 2) := by decide +kernel
theorem dX12_feed_48 : decode cX12_feed 48 = .ok (.invokevirtual 436, 3) := by decide +kernel
theorem dX12_feed_51 : decode cX12_feed 51 = .ok (.aload_n 0, 1) := by decide +kernel
theorem dX12_feed_52 : decode cX12_feed 52 = .ok (.getfield 433, 3) := by decide +kernel
theorem dX12_feed_55 : decode cX12_feed 55 = .ok (.ireturn, 1) := by decide +kernel
set_option maxHeartbeats 4000000 in
set_option maxRecDepth 100000 in
theorem mm_feed (l : Launch) (D : va_G) (g : xe_G) (m0 : Nat) (fs : List Value) (qm : Nat) (aM : ClassId) (f : Nat → Int32) (x0 : Int32) (x1 : Int32) (x2 : Int32) (x3 : Int32) (x4 : Int32) (sz : Nat) (hm : md_has fs [(15, .ref qm), (19, .int 0)]) : Met l yX12_feed (.code yX12_feed cX12_feed 6 (some .int) :: bg) ({ frames := 2, cells := 0, slots := 0, locals := 240 } : Room) (xb_Pre (xe_E g) D vwCl [(m0, .inr (12, fs)), (qm, .inl (aM, 65560, .inl f))] [(aM, .byte)] sz [.ref m0, .int x0, .int x1, .int x2, .int x3, .int x4]) (va_Qi (fun r u => r = 20 ∧ md_has u.1 [(0, .int 0)]) (xb_B D vwCl (va_A [(m0, .inr (12, fs)), (qm, .inl (aM, 65560, .inl f))] sz) (fun u : List Value × (Nat → Int32) => [(m0, .inr (12, u.1)), (qm, .inl (aM, 65560, .inl u.2))]) (fun u : List Value × (Nat → Int32) => [(aM, .byte)])) (va_A [(m0, .inr (12, fs)), (qm, .inl (aM, 65560, .inl f))] sz)) 0 0 (va_A [(m0, .inr (12, fs)), (qm, .inl (aM, 65560, .inl f))] sz) := by
  refine Met.ofW (cc := cX12_feed) (maxL := 6) (ret := (some .int)) (by decide) rfl ?_
  intro p e s m args below meth c s₁ B hml hv
  obtain ⟨rfl, hsz, hP, hK, hD0, hE⟩ := hv
  have hx := B.exec
  have hb := B.bytes
  have hr := B.returns
  have hts := atoms_spec (ws := (.code yX12_feed cX12_feed 6 (some .int) :: bg)) B.pre
  have htb : ∀ w ∈ bg, w.before _ s = true := fun w h => hts w (List.mem_cons_of_mem _ h)
  have hown : s.vm.findClass RX12 = some m.cls := findClass_of_methodNamed B.named
  have hlocks := B.notSynchronized
  subst hsz
  have hD := hD0.self (sz := s.heap.size)
  generalize hAe : va_A [(m0, .inr (12, fs)), (qm, .inl (aM, 65560, .inl f))] s.heap.size = A at hD hE ⊢
  have hA : ∀ q : Nat, s.heap.size ≤ q → A q := fun q h => by rw [← hAe]; exact Or.inr h
  have hS : va_S A s.heap s.heap [] := va_S.rf
  have hP : va_P D vwCl [(m0, .inr (12, fs)), (qm, .inl (aM, 65560, .inl f))] s.heap := hP
  have hl := lv_entry ([.ref m0, .int x0, .int x1, .int x2, .int x3, .int x4]) (n := 6) (Nat.le_of_ble_eq_true rfl)
  rw [lg_entry_eq]
  generalize (lg_sl ([.ref m0, .int x0, .int x1, .int x2, .int x3, .int x4]) ++ List.replicate (6 - (lg_sl ([.ref m0, .int x0, .int x1, .int x2, .int x3, .int x4])).length) Slot.unset).toArray = ls at hl ⊢
  have hl : lv_has ls 6 [(0, .ref m0), (1, .int x0), (2, .int x1), (3, .int x2), (4, .int x3), (5, .int x4)] := hl
  refine lv_aload_n hx hb dX12_feed_0 rfl (lv_at hl 0 rfl) ?_
  refine lv_iconst (v := 0) hx hb dX12_feed_1 (by decide) ?_
  refine va_put (D := D) (ci := 12) (v := .int 0) (ty := tyX12 0) (C := RX12) (T := TX12) (N := 82) hx hb htb bi_X12 tyX12 tyX12_ok nmX12 hown hK hP hD hS 0 rfl rfl 0 (by decide) (htb _ bg_88) (fun _ h9 => h9) rfl (tyX12_ok 0 (by decide)) rfl rfl (by rw [hm.1]; decide) dX12_feed_2 (fun H locs hP hD hS => ?_)
  have hP : va_P D vwCl [(m0, .inr (12, (fs.set 0 (.int 0)))), (qm, .inl (aM, 65560, .inl f))] H := hP
  have hD : va_D A [(m0, .inr (12, (fs.set 0 (.int 0)))), (qm, .inl (aM, 65560, .inl f))] := hD
  have hm : md_has (fs.set 0 (.int 0)) [(0, .int 0), (15, .ref qm), (19, .int 0)] := md_put hm 0 (.int 0) (by decide) rfl
  generalize (fs.set 0 (.int 0)) = fs at hP hD hm
  refine lv_aload_n hx hb dX12_feed_5 rfl (lv_at hl 0 rfl) ?_
  refine va_get (D := D) (ci := 12) (v := .int 0) (C := RX12) (T := TX12) (N := 82) hx hb htb bi_X12 hown hK hP 0 rfl rfl 19 (by decide) (htb _ bg_206) (fun _ h9 => h9) (md_at hm 2 rfl) dX12_feed_6 ?_
  refine lv_bipush (v := 20) hx hb dX12_feed_9 (by decide) ?_
  refine lv_iadd hx hb dX12_feed_11 ?_
  refine lv_ldc (own := RX12) (v := 65540) hx hb hown (htb _ bg_107) dX12_feed_12 ?_
  refine lv_icmp_le (tgt := 24) hx hb dX12_feed_14 (by decide) (fun c_14 => ?_) (fun c_14 => ?_)
  rotate_left
  · exact absurd (by decide) c_14
  refine lv_aload_n hx hb dX12_feed_24 rfl (lv_at hl 0 rfl) ?_
  refine lv_iload_n hx hb dX12_feed_25 rfl (lv_at hl 1 rfl) ?_
  refine xb_gov (wr := []) (va_runV (As := [.int x0]) (rest := []) ⟨hx, hb, hml, hown, htb⟩ (mm_four l D g m0 fs 0 qm aM f 0 x0 (Array.size H) (md_sub hm [0, 1, 2] rfl) (by unfold vp_in; decide) (by unfold vp_in; decide) (by unfold vp_in; decide) (by unfold vp_in; decide)) (bg_V 1 htb bg_207 bg_209 bg_210 bg_144 bg_208 rfl rfl (by decide +kernel) ⟨Nat.le_of_ble_eq_true rfl, Nat.le_of_ble_eq_true rfl⟩) ⟨xb_blind xe_ok, va_recv hK hP (ci := 12) (q0 := 0) rfl rfl, xb_enter xe_ok hK hP hD hS hA hE [0, 1] rfl rfl rfl [0] rfl⟩ rfl rfl hl.1 rfl (lv_room (Nat.le_of_ble_eq_true rfl)) dX12_feed_26 ⟨Nat.le_of_ble_eq_true rfl, Nat.le_of_ble_eq_true rfl⟩) hK hP hD hS hA [0, 1] [] rfl rfl rfl (by decide) (fun u_26 H locs hw_26 hP hD hK hS => ?_)
  obtain ⟨fs, f⟩ := u_26
  have hP : va_P D vwCl [(m0, .inr (12, fs)), (qm, .inl (aM, 65560, .inl f))] H := hP
  have hD : va_D A [(m0, .inr (12, fs)), (qm, .inl (aM, 65560, .inl f))] := hD
  have hK : va_K D vwCl [(aM, .byte), (aM, .byte)] s := hK
  refine W.widen (k := 0) (n := 0) (by decide) (by decide) ?_
  have hm : md_has fs _ := hw_26
  have hK := hK.sub (tys' := [(aM, .byte)]) [0] rfl
  refine lv_aload_n hx hb dX12_feed_29 rfl (lv_at hl 0 rfl) ?_
  refine lv_iload_n hx hb dX12_feed_30 rfl (lv_at hl 2 rfl) ?_
  refine xb_gov (wr := []) (va_runV (As := [.int x1]) (rest := []) ⟨hx, hb, hml, hown, htb⟩ (mm_four l D g m0 fs 0 qm aM f ((((0 + 1) + 1) + 1) + 1) x1 (Array.size H) (md_sub hm [0, 1, 2] rfl) (by unfold vp_in; decide) (by unfold vp_in; decide) (by unfold vp_in; decide) (by unfold vp_in; decide)) (bg_V 1 htb bg_207 bg_209 bg_210 bg_144 bg_208 rfl rfl (by decide +kernel) ⟨Nat.le_of_ble_eq_true rfl, Nat.le_of_ble_eq_true rfl⟩) ⟨xb_blind xe_ok, va_recv hK hP (ci := 12) (q0 := 0) rfl rfl, xb_enter xe_ok hK hP hD hS hA hE [0, 1] rfl rfl rfl [0] rfl⟩ rfl rfl hl.1 rfl (lv_room (Nat.le_of_ble_eq_true rfl)) dX12_feed_31 ⟨Nat.le_of_ble_eq_true rfl, Nat.le_of_ble_eq_true rfl⟩) hK hP hD hS hA [0, 1] [] rfl rfl rfl (by decide) (fun u_31 H locs hw_31 hP hD hK hS => ?_)
  obtain ⟨fs, f⟩ := u_31
  have hP : va_P D vwCl [(m0, .inr (12, fs)), (qm, .inl (aM, 65560, .inl f))] H := hP
  have hD : va_D A [(m0, .inr (12, fs)), (qm, .inl (aM, 65560, .inl f))] := hD
  have hK : va_K D vwCl [(aM, .byte), (aM, .byte)] s := hK
  refine W.widen (k := 0) (n := 0) (by decide) (by decide) ?_
  have hm : md_has fs _ := hw_31
  have hK := hK.sub (tys' := [(aM, .byte)]) [0] rfl
  refine lv_aload_n hx hb dX12_feed_34 rfl (lv_at hl 0 rfl) ?_
  refine lv_iload_n hx hb dX12_feed_35 rfl (lv_at hl 3 rfl) ?_
  refine xb_gov (wr := []) (va_runV (As := [.int x2]) (rest := []) ⟨hx, hb, hml, hown, htb⟩ (mm_four l D g m0 fs 0 qm aM f ((((((((0 + 1) + 1) + 1) + 1) + 1) + 1) + 1) + 1) x2 (Array.size H) (md_sub hm [0, 1, 2] rfl) (by unfold vp_in; decide) (by unfold vp_in; decide) (by unfold vp_in; decide) (by unfold vp_in; decide)) (bg_V 1 htb bg_207 bg_209 bg_210 bg_144 bg_208 rfl rfl (by decide +kernel) ⟨Nat.le_of_ble_eq_true rfl, Nat.le_of_ble_eq_true rfl⟩) ⟨xb_blind xe_ok, va_recv hK hP (ci := 12) (q0 := 0) rfl rfl, xb_enter xe_ok hK hP hD hS hA hE [0, 1] rfl rfl rfl [0] rfl⟩ rfl rfl hl.1 rfl (lv_room (Nat.le_of_ble_eq_true rfl)) dX12_feed_36 ⟨Nat.le_of_ble_eq_true rfl, Nat.le_of_ble_eq_true rfl⟩) hK hP hD hS hA [0, 1] [] rfl rfl rfl (by decide) (fun u_36 H locs hw_36 hP hD hK hS => ?_)
  obtain ⟨fs, f⟩ := u_36
  have hP : va_P D vwCl [(m0, .inr (12, fs)), (qm, .inl (aM, 65560, .inl f))] H := hP
  have hD : va_D A [(m0, .inr (12, fs)), (qm, .inl (aM, 65560, .inl f))] := hD
  have hK : va_K D vwCl [(aM, .byte), (aM, .byte)] s := hK
  refine W.widen (k := 0) (n := 0) (by decide) (by decide) ?_
  have hm : md_has fs _ := hw_36
  have hK := hK.sub (tys' := [(aM, .byte)]) [0] rfl
  refine lv_aload_n hx hb dX12_feed_39 rfl (lv_at hl 0 rfl) ?_
  refine lv_iload hx hb dX12_feed_40 (lv_at hl 4 rfl) ?_
  refine xb_gov (wr := []) (va_runV (As := [.int x3]) (rest := []) ⟨hx, hb, hml, hown, htb⟩ (mm_four l D g m0 fs 0 qm aM f ((((((((((((0 + 1) + 1) + 1) + 1) + 1) + 1) + 1) + 1) + 1) + 1) + 1) + 1) x3 (Array.size H) (md_sub hm [0, 1, 2] rfl) (by unfold vp_in; decide) (by unfold vp_in; decide) (by unfold vp_in; decide) (by unfold vp_in; decide)) (bg_V 1 htb bg_207 bg_209 bg_210 bg_144 bg_208 rfl rfl (by decide +kernel) ⟨Nat.le_of_ble_eq_true rfl, Nat.le_of_ble_eq_true rfl⟩) ⟨xb_blind xe_ok, va_recv hK hP (ci := 12) (q0 := 0) rfl rfl, xb_enter xe_ok hK hP hD hS hA hE [0, 1] rfl rfl rfl [0] rfl⟩ rfl rfl hl.1 rfl (lv_room (Nat.le_of_ble_eq_true rfl)) dX12_feed_42 ⟨Nat.le_of_ble_eq_true rfl, Nat.le_of_ble_eq_true rfl⟩) hK hP hD hS hA [0, 1] [] rfl rfl rfl (by decide) (fun u_42 H locs hw_42 hP hD hK hS => ?_)
  obtain ⟨fs, f⟩ := u_42
  have hP : va_P D vwCl [(m0, .inr (12, fs)), (qm, .inl (aM, 65560, .inl f))] H := hP
  have hD : va_D A [(m0, .inr (12, fs)), (qm, .inl (aM, 65560, .inl f))] := hD
  have hK : va_K D vwCl [(aM, .byte), (aM, .byte)] s := hK
  refine W.widen (k := 0) (n := 0) (by decide) (by decide) ?_
  have hm : md_has fs _ := hw_42
  have hK := hK.sub (tys' := [(aM, .byte)]) [0] rfl
  refine lv_aload_n hx hb dX12_feed_45 rfl (lv_at hl 0 rfl) ?_
  refine lv_iload hx hb dX12_feed_46 (lv_at hl 5 rfl) ?_
  refine xb_gov (wr := []) (va_runV (As := [.int x4]) (rest := []) ⟨hx, hb, hml, hown, htb⟩ (mm_four l D g m0 fs 0 qm aM f ((((((((((((((((0 + 1) + 1) + 1) + 1) + 1) + 1) + 1) + 1) + 1) + 1) + 1) + 1) + 1) + 1) + 1) + 1) x4 (Array.size H) (md_sub hm [0, 1, 2] rfl) (by unfold vp_in; decide) (by unfold vp_in; decide) (by unfold vp_in; decide) (by unfold vp_in; decide)) (bg_V 1 htb bg_207 bg_209 bg_210 bg_144 bg_208 rfl rfl (by decide +kernel) ⟨Nat.le_of_ble_eq_true rfl, Nat.le_of_ble_eq_true rfl⟩) ⟨xb_blind xe_ok, va_recv hK hP (ci := 12) (q0 := 0) rfl rfl, xb_enter xe_ok hK hP hD hS hA hE [0, 1] rfl rfl rfl [0] rfl⟩ rfl rfl hl.1 rfl (lv_room (Nat.le_of_ble_eq_true rfl)) dX12_feed_48 ⟨Nat.le_of_ble_eq_true rfl, Nat.le_of_ble_eq_true rfl⟩) hK hP hD hS hA [0, 1] [] rfl rfl rfl (by decide) (fun u_48 H locs hw_48 hP hD hK hS => ?_)
  obtain ⟨fs, f⟩ := u_48
  have hP : va_P D vwCl [(m0, .inr (12, fs)), (qm, .inl (aM, 65560, .inl f))] H := hP
  have hD : va_D A [(m0, .inr (12, fs)), (qm, .inl (aM, 65560, .inl f))] := hD
  have hK : va_K D vwCl [(aM, .byte), (aM, .byte)] s := hK
  refine W.widen (k := 0) (n := 0) (by decide) (by decide) ?_
  have hm : md_has fs _ := hw_48
  have hK := hK.sub (tys' := [(aM, .byte)]) [0] rfl
  refine lv_aload_n hx hb dX12_feed_51 rfl (lv_at hl 0 rfl) ?_
  refine va_get (D := D) (ci := 12) (v := .int ((((((((((((((((((((0 + 1) + 1) + 1) + 1) + 1) + 1) + 1) + 1) + 1) + 1) + 1) + 1) + 1) + 1) + 1) + 1) + 1) + 1) + 1) + 1)) (C := RX12) (T := TX12) (N := 82) hx hb htb bi_X12 hown hK hP 0 rfl rfl 19 (by decide) (htb _ bg_206) (fun _ h9 => h9) (md_at hm 2 rfl) dX12_feed_52 ?_
  have hP9 := hP.sub (ws' := [(m0, .inr (12, fs)), (qm, .inl (aM, 65560, .inl f))]) [0, 1] rfl
  have hD9 := hD.sub (ws' := [(m0, .inr (12, fs)), (qm, .inl (aM, 65560, .inl f))]) [0, 1] rfl rfl
  have hK9 := hK.sub (tys' := [(aM, .byte)]) [0] rfl
  exact W.iret (v := ((((((((((((((((((((0 + 1) + 1) + 1) + 1) + 1) + 1) + 1) + 1) + 1) + 1) + 1) + 1) + 1) + 1) + 1) + 1) + 1) + 1) + 1) + 1)) hx hb hr (fun t ht hW => ⟨⟨((((((((((((((((((((0 + 1) + 1) + 1) + 1) + 1) + 1) + 1) + 1) + 1) + 1) + 1) + 1) + 1) + 1) + 1) + 1) + 1) + 1) + 1) + 1), (fs, f), rfl, ⟨by decide, md_sub hm [0] rfl⟩, by rw [ht]; exact hP9, va_K.moved hW.alike hK9, hD9⟩, hS.F ht⟩) hS.2.2 dX12_feed_55
