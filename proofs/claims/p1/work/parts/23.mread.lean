theorem dX12_wrong_0 : decode cX12_wrong 0 = .ok (.aload_n 0, 1) := by decide +kernel
theorem dX12_wrong_1 : decode cX12_wrong 1 = .ok (.iload_n 1, 1) := by decide +kernel
theorem dX12_wrong_2 : decode cX12_wrong 2 = .ok (.putfield 230, 3) := by decide +kernel
theorem dX12_wrong_5 : decode cX12_wrong 5 = .ok (.aload_n 0, 1) := by decide +kernel
theorem dX12_wrong_6 : decode cX12_wrong 6 = .ok (.iload_n 2, 1) := by decide +kernel
theorem dX12_wrong_7 : decode cX12_wrong 7 = .ok (.putfield 233, 3) := by decide +kernel
theorem dX12_wrong_10 : decode cX12_wrong 10 = .ok (.iconst 0, 1) := by decide +kernel
theorem dX12_wrong_11 : decode cX12_wrong 11 = .ok (.ireturn, 1) := by decide +kernel
set_option maxHeartbeats 4000000 in
set_option maxRecDepth 100000 in
theorem mm_wrong (l : Launch) (D : va_G) (g : xe_G) (m0 : Nat) (fs : List Value) (q1 : Nat) (q2 : Nat) (q4 : Nat) (q5 : Nat) (q6 : Nat) (q7 : Nat) (qf : Nat) (qm : Nat) (y17 : Int32) (y18 : Int32) (y19 : Int32) (y73 : Int32) (x0 : Int32) (x1 : Int32) (sz : Nat) (hm : md_has fs [(1, .ref q1), (2, .ref q2), (4, .ref q4), (5, .ref q5), (6, .ref q6), (7, .ref q7), (13, .ref qf), (15, .ref qm), (17, .int y17), (18, .int y18), (19, .int y19), (73, .int y73)]) : Met l yX12_wrong (.code yX12_wrong cX12_wrong 3 (some .boolean) :: bg) ({ frames := 1, cells := 0, slots := 0, locals := 120 } : Room) (xb_Pre (xe_E g) D vwCl [(m0, .inr (12, fs))] [] sz [.ref m0, .int x0, .int x1]) (va_Qi (fun r u => r = 0 ∧ md_has u [(1, .ref q1), (2, .ref q2), (4, .ref q4), (5, .ref q5), (6, .ref q6), (7, .ref q7), (13, .ref qf), (15, .ref qm), (17, .int y17), (18, .int y18), (19, .int y19), (73, .int y73), (47, .int x0), (48, .int x1)]) (xb_B D vwCl (va_A [(m0, .inr (12, fs))] sz) (fun u : List Value => [(m0, .inr (12, u))]) (fun u : List Value => [])) (va_A [(m0, .inr (12, fs))] sz)) 0 0 (va_A [(m0, .inr (12, fs))] sz) := by
  refine Met.ofW (cc := cX12_wrong) (maxL := 3) (ret := (some .boolean)) (by decide) rfl ?_
  intro p e s m args below meth c s₁ B hml hv
  obtain ⟨rfl, hsz, hP, hK, hD0, hE⟩ := hv
  have hx := B.exec
  have hb := B.bytes
  have hr := B.returns
  have hts := atoms_spec (ws := (.code yX12_wrong cX12_wrong 3 (some .boolean) :: bg)) B.pre
  have htb : ∀ w ∈ bg, w.before _ s = true := fun w h => hts w (List.mem_cons_of_mem _ h)
  have hown : s.vm.findClass RX12 = some m.cls := findClass_of_methodNamed B.named
  have hlocks := B.notSynchronized
  subst hsz
  have hD := hD0.self (sz := s.heap.size)
  generalize hAe : va_A [(m0, .inr (12, fs))] s.heap.size = A at hD hE ⊢
  have hA : ∀ q : Nat, s.heap.size ≤ q → A q := fun q h => by rw [← hAe]; exact Or.inr h
  have hS : va_S A s.heap s.heap [] := va_S.rf
  have hP : va_P D vwCl [(m0, .inr (12, fs))] s.heap := hP
  have hl := lv_entry ([.ref m0, .int x0, .int x1]) (n := 3) (Nat.le_of_ble_eq_true rfl)
  rw [lg_entry_eq]
  generalize (lg_sl ([.ref m0, .int x0, .int x1]) ++ List.replicate (3 - (lg_sl ([.ref m0, .int x0, .int x1])).length) Slot.unset).toArray = ls at hl ⊢
  have hl : lv_has ls 3 [(0, .ref m0), (1, .int x0), (2, .int x1)] := hl
  refine lv_aload_n hx hb dX12_wrong_0 rfl (lv_at hl 0 rfl) ?_
  refine lv_iload_n hx hb dX12_wrong_1 rfl (lv_at hl 1 rfl) ?_
  refine va_put (D := D) (ci := 12) (v := .int x0) (ty := tyX12 47) (C := RX12) (T := TX12) (N := 82) hx hb htb bi_X12 tyX12 tyX12_ok nmX12 hown hK hP hD hS 0 rfl rfl 47 (by decide) (htb _ bg_171) (fun _ h9 => h9) rfl (tyX12_ok 47 (by decide)) rfl rfl (by rw [hm.1]; decide) dX12_wrong_2 (fun H locs hP hD hS => ?_)
  have hP : va_P D vwCl [(m0, .inr (12, (fs.set 47 (.int x0))))] H := hP
  have hD : va_D A [(m0, .inr (12, (fs.set 47 (.int x0))))] := hD
  have hm : md_has (fs.set 47 (.int x0)) [(47, .int x0), (1, .ref q1), (2, .ref q2), (4, .ref q4), (5, .ref q5), (6, .ref q6), (7, .ref q7), (13, .ref qf), (15, .ref qm), (17, .int y17), (18, .int y18), (19, .int y19), (73, .int y73)] := md_put hm 47 (.int x0) (by decide) rfl
  generalize (fs.set 47 (.int x0)) = fs at hP hD hm
  refine lv_aload_n hx hb dX12_wrong_5 rfl (lv_at hl 0 rfl) ?_
  refine lv_iload_n hx hb dX12_wrong_6 rfl (lv_at hl 2 rfl) ?_
  refine va_put (D := D) (ci := 12) (v := .int x1) (ty := tyX12 48) (C := RX12) (T := TX12) (N := 82) hx hb htb bi_X12 tyX12 tyX12_ok nmX12 hown hK hP hD hS 0 rfl rfl 48 (by decide) (htb _ bg_172) (fun _ h9 => h9) rfl (tyX12_ok 48 (by decide)) rfl rfl (by rw [hm.1]; decide) dX12_wrong_7 (fun H locs hP hD hS => ?_)
  have hP : va_P D vwCl [(m0, .inr (12, (fs.set 48 (.int x1))))] H := hP
  have hD : va_D A [(m0, .inr (12, (fs.set 48 (.int x1))))] := hD
  have hm : md_has (fs.set 48 (.int x1)) [(48, .int x1), (47, .int x0), (1, .ref q1), (2, .ref q2), (4, .ref q4), (5, .ref q5), (6, .ref q6), (7, .ref q7), (13, .ref qf), (15, .ref qm), (17, .int y17), (18, .int y18), (19, .int y19), (73, .int y73)] := md_put hm 48 (.int x1) (by decide) rfl
  generalize (fs.set 48 (.int x1)) = fs at hP hD hm
  refine lv_iconst (v := 0) hx hb dX12_wrong_10 (by decide) ?_
  have hP9 := hP.sub (ws' := [(m0, .inr (12, fs))]) [0] rfl
  have hD9 := hD.sub (ws' := [(m0, .inr (12, fs))]) [0] rfl rfl
  have hK9 := hK.sub (tys' := []) [] rfl
  exact W.zret (v := 0) hx hb hr (by decide) (fun t ht hW => ⟨⟨0, fs, rfl, ⟨rfl, md_sub hm [2, 3, 4, 5, 6, 7, 8, 9, 10, 11, 12, 13, 1, 0] rfl⟩, by rw [ht]; exact hP9, va_K.moved hW.alike hK9, hD9⟩, hS.F ht⟩) hS.2.2 dX12_wrong_11
theorem dX12_item_0 : decode cX12_item 0 = .ok (.aload_n 0, 1) := by decide +kernel
theorem dX12_item_1 : decode cX12_item 1 = .ok (.getfield 236, 3) := by decide +kernel
theorem dX12_item_4 : decode cX12_item 4 = .ok (.i2l, 1) := by decide +kernel
theorem dX12_item_5 : decode cX12_item 5 = .ok (.lload_n 1, 1) := by decide +kernel
theorem dX12_item_6 : decode cX12_item 6 = .ok (.ladd, 1) := by decide +kernel
theorem dX12_item_7 : decode cX12_item 7 = .ok (.aload_n 0, 1) := by decide +kernel
theorem dX12_item_8 : decode cX12_item 8 = .ok (.getfield 239, 3) := by decide +kernel
theorem dX12_item_11 : decode cX12_item 11 = .ok (.i2l, 1) := by decide +kernel
theorem dX12_item_12 : decode cX12_item 12 = .ok (.lcmp, 1) := by decide +kernel
theorem dX12_item_13 : decode cX12_item 13 = .ok (.ifCond .le 15, 3) := by decide +kernel
theorem dX12_item_16 : decode cX12_item 16 = .ok (.aload_n 0, 1) := by decide +kernel
theorem dX12_item_17 : decode cX12_item 17 = .ok (.iconst 1, 1) := by decide +kernel
theorem dX12_item_18 : decode cX12_item 18 = .ok (.aload_n 0, 1) := by decide +kernel
theorem dX12_item_19 : decode cX12_item 19 = .ok (.getfield 236, 3) := by decide +kernel
theorem dX12_item_22 : decode cX12_item 22 = .ok (.invokevirtual 242, 3) := by decide +kernel
theorem dX12_item_25 : decode cX12_item 25 = .ok (.ifCond .eq 7, 3) := by decide +kernel
theorem dX12_item_32 : decode cX12_item 32 = .ok (.iconst 0, 1) := by decide +kernel
theorem dX12_item_33 : decode cX12_item 33 = .ok (.ireturn, 1) := by decide +kernel
set_option maxHeartbeats 4000000 in
set_option maxRecDepth 100000 in
theorem mm_item (l : Launch) (D : va_G) (g : xe_G) (m0 : Nat) (fs : List Value) (q1 : Nat) (q2 : Nat) (q4 : Nat) (q5 : Nat) (q6 : Nat) (q7 : Nat) (qf : Nat) (qm : Nat) (y17 : Int32) (y18 : Int32) (y19 : Int32) (y73 : Int32) (sz : Nat) (hm : md_has fs [(1, .ref q1), (2, .ref q2), (4, .ref q4), (5, .ref q5), (6, .ref q6), (7, .ref q7), (13, .ref qf), (15, .ref qm), (17, .int y17), (18, .int y18), (19, .int y19), (73, .int y73), (50, .int 0), (16, .int 0)]) : Met l yX12_item (.code yX12_item cX12_item 3 (some .boolean) :: bg) ({ frames := 2, cells := 0, slots := 0, locals := 240 } : Room) (xb_Pre (xe_E g) D vwCl [(m0, .inr (12, fs))] [] sz [.ref m0, .long 4]) (va_Qi (fun r u => r = 0 ∧ md_has u [(1, .ref q1), (2, .ref q2), (4, .ref q4), (5, .ref q5), (6, .ref q6), (7, .ref q7), (13, .ref qf), (15, .ref qm), (17, .int y17), (18, .int y18), (19, .int y19), (73, .int y73), (47, .int 1), (48, .int 0)]) (xb_B D vwCl (va_A [(m0, .inr (12, fs))] sz) (fun u : List Value => [(m0, .inr (12, u))]) (fun u : List Value => [])) (va_A [(m0, .inr (12, fs))] sz)) 0 0 (va_A [(m0, .inr (12, fs))] sz) := by
  refine Met.ofW (cc := cX12_item) (maxL := 3) (ret := (some .boolean)) (by decide) rfl ?_
  intro p e s m args below meth c s₁ B hml hv
  obtain ⟨rfl, hsz, hP, hK, hD0, hE⟩ := hv
  have hx := B.exec
  have hb := B.bytes
  have hr := B.returns
  have hts := atoms_spec (ws := (.code yX12_item cX12_item 3 (some .boolean) :: bg)) B.pre
  have htb : ∀ w ∈ bg, w.before _ s = true := fun w h => hts w (List.mem_cons_of_mem _ h)
  have hown : s.vm.findClass RX12 = some m.cls := findClass_of_methodNamed B.named
  have hlocks := B.notSynchronized
  subst hsz
  have hD := hD0.self (sz := s.heap.size)
  generalize hAe : va_A [(m0, .inr (12, fs))] s.heap.size = A at hD hE ⊢
  have hA : ∀ q : Nat, s.heap.size ≤ q → A q := fun q h => by rw [← hAe]; exact Or.inr h
  have hS : va_S A s.heap s.heap [] := va_S.rf
  have hP : va_P D vwCl [(m0, .inr (12, fs))] s.heap := hP
  have hl := lv_entry ([.ref m0, .long 4]) (n := 3) (Nat.le_of_ble_eq_true rfl)
  rw [lg_entry_eq]
  generalize (lg_sl ([.ref m0, .long 4]) ++ List.replicate (3 - (lg_sl ([.ref m0, .long 4])).length) Slot.unset).toArray = ls at hl ⊢
  have hl : lv_has ls 3 [(0, .ref m0), (1, .long 4)] := hl
  refine lv_aload_n hx hb dX12_item_0 rfl (lv_at hl 0 rfl) ?_
  refine va_get (D := D) (ci := 12) (v := .int 0) (C := RX12) (T := TX12) (N := 82) hx hb htb bi_X12 hown hK hP 0 rfl rfl 50 (by decide) (htb _ bg_174) (fun _ h9 => h9) (md_at hm 12 rfl) dX12_item_1 ?_
  refine lv_i2l (v := Int32.toInt64 0) hx hb dX12_item_4 rfl ?_
  refine lv_lload_n hx hb dX12_item_5 rfl (lv_at hl 1 rfl) ?_
  refine lv_ladd hx hb dX12_item_6 ?_
  refine lv_aload_n hx hb dX12_item_7 rfl (lv_at hl 0 rfl) ?_
  refine va_get (D := D) (ci := 12) (v := .int 0) (C := RX12) (T := TX12) (N := 82) hx hb htb bi_X12 hown hK hP 0 rfl rfl 16 (by decide) (htb _ bg_175) (fun _ h9 => h9) (md_at hm 13 rfl) dX12_item_8 ?_
  refine lv_i2l (v := Int32.toInt64 0) hx hb dX12_item_11 rfl ?_
  refine W.lcmp hx hb dX12_item_12 ?_
  refine lv_if_le (tgt := 28) hx hb dX12_item_13 (by decide) (fun c_13 => ?_) (fun c_13 => ?_)
  · exact absurd c_13 (by decide)
  refine lv_aload_n hx hb dX12_item_16 rfl (lv_at hl 0 rfl) ?_
  refine lv_iconst (v := 1) hx hb dX12_item_17 (by decide) ?_
  refine lv_aload_n hx hb dX12_item_18 rfl (lv_at hl 0 rfl) ?_
  refine va_get (D := D) (ci := 12) (v := .int 0) (C := RX12) (T := TX12) (N := 82) hx hb htb bi_X12 hown hK hP 0 rfl rfl 50 (by decide) (htb _ bg_174) (fun _ h9 => h9) (md_at hm 12 rfl) dX12_item_19 ?_
  refine xb_goi (wr := []) (va_runV (As := [.int 1, .int 0]) (rest := []) ⟨hx, hb, hml, hown, htb⟩ (mm_wrong l D g m0 fs q1 q2 q4 q5 q6 q7 qf qm y17 y18 y19 y73 1 0 (Array.size s.heap) (md_sub hm [0, 1, 2, 3, 4, 5, 6, 7, 8, 9, 10, 11] rfl)) (bg_V 2 htb bg_176 bg_177 bg_178 bg_144 bg_170 rfl rfl (by decide +kernel) ⟨Nat.le_of_ble_eq_true rfl, Nat.le_of_ble_eq_true rfl⟩) ⟨xb_blind xe_ok, va_recv hK hP (ci := 12) (q0 := 0) rfl rfl, xb_enter xe_ok hK hP hD hS hA hE [0] rfl rfl rfl [] rfl⟩ rfl rfl hl.1 rfl (lv_room (Nat.le_of_ble_eq_true rfl)) dX12_item_22 ⟨Nat.le_of_ble_eq_true rfl, Nat.le_of_ble_eq_true rfl⟩) hK hP hD hS hA [0] [] rfl rfl rfl (by decide) (fun r_22 u_22 H locs hw_22 hP hD hK hS => ?_)
  generalize u_22 = fs at hP hD hK hw_22
  have hP : va_P D vwCl [(m0, .inr (12, fs))] H := hP
  have hD : va_D A [(m0, .inr (12, fs))] := hD
  have hK : va_K D vwCl [] s := hK
  refine W.widen (k := 0) (n := 0) (by decide) (by decide) ?_
  obtain ⟨hw_22, hm⟩ := hw_22
  have hw_22 : r_22 = 0 := hw_22
  subst hw_22
  refine lv_if_eq (tgt := 32) hx hb dX12_item_25 (by decide) (fun c_25 => ?_) (fun c_25 => ?_)
  rotate_left
  · exact absurd (by decide) c_25
  refine lv_iconst (v := 0) hx hb dX12_item_32 (by decide) ?_
  have hP9 := hP.sub (ws' := [(m0, .inr (12, fs))]) [0] rfl
  have hD9 := hD.sub (ws' := [(m0, .inr (12, fs))]) [0] rfl rfl
  have hK9 := hK.sub (tys' := []) [] rfl
  exact W.zret (v := 0) hx hb hr (by decide) (fun t ht hW => ⟨⟨0, fs, rfl, ⟨rfl, md_sub hm [0, 1, 2, 3, 4, 5, 6, 7, 8, 9, 10, 11, 12, 13] rfl⟩, by rw [ht]; exact hP9, va_K.moved hW.alike hK9, hD9⟩, hS.F ht⟩) hS.2.2 dX12_item_33
theorem dX12_readFile_0 : decode cX12_readFile 0 = .ok (.aload_n 0, 1) := by decide +kernel
theorem dX12_readFile_1 : decode cX12_readFile 1 = .ok (.iconst 0, 1) := by decide +kernel
theorem dX12_readFile_2 : decode cX12_readFile 2 = .ok (.putfield 236, 3) := by decide +kernel
theorem dX12_readFile_5 : decode cX12_readFile 5 = .ok (.aload_n 0, 1) := by decide +kernel
theorem dX12_readFile_6 : decode cX12_readFile 6 = .ok (.ldc2_w 252, 3) := by decide +kernel
theorem dX12_readFile_9 : decode cX12_readFile 9 = .ok (.invokevirtual 254, 3) := by decide +kernel
theorem dX12_readFile_12 : decode cX12_readFile 12 = .ok (.ifCond .ne 5, 3) := by decide +kernel
theorem dX12_readFile_15 : decode cX12_readFile 15 = .ok (.iconst 0, 1) := by decide +kernel
theorem dX12_readFile_16 : decode cX12_readFile 16 = .ok (.ireturn, 1) := by decide +kernel
set_option maxHeartbeats 4000000 in
set_option maxRecDepth 100000 in
theorem mm_readFile (l : Launch) (D : va_G) (g : xe_G) (m0 : Nat) (fs : List Value) (q1 : Nat) (q2 : Nat) (q4 : Nat) (q5 : Nat) (q6 : Nat) (q7 : Nat) (qf : Nat) (qm : Nat) (y17 : Int32) (y18 : Int32) (y19 : Int32) (y73 : Int32) (sz : Nat) (hm : md_has fs [(1, .ref q1), (2, .ref q2), (4, .ref q4), (5, .ref q5), (6, .ref q6), (7, .ref q7), (13, .ref qf), (15, .ref qm), (17, .int y17), (18, .int y18), (19, .int y19), (73, .int y73), (16, .int 0)]) : Met l yX12_readFile (.code yX12_readFile cX12_readFile 3 (some .boolean) :: bg) ({ frames := 3, cells := 0, slots := 0, locals := 360 } : Room) (xb_Pre (xe_E g) D vwCl [(m0, .inr (12, fs))] [] sz [.ref m0]) (va_Qi (fun r u => r = 0 ∧ md_has u [(1, .ref q1), (2, .ref q2), (4, .ref q4), (5, .ref q5), (6, .ref q6), (7, .ref q7), (13, .ref qf), (15, .ref qm), (17, .int y17), (18, .int y18), (19, .int y19), (73, .int y73), (47, .int 1), (48, .int 0)]) (xb_B D vwCl (va_A [(m0, .inr (12, fs))] sz) (fun u : List Value => [(m0, .inr (12, u))]) (fun u : List Value => [])) (va_A [(m0, .inr (12, fs))] sz)) 0 0 (va_A [(m0, .inr (12, fs))] sz) := by
  refine Met.ofW (cc := cX12_readFile) (maxL := 3) (ret := (some .boolean)) (by decide) rfl ?_
  intro p e s m args below meth c s₁ B hml hv
  obtain ⟨rfl, hsz, hP, hK, hD0, hE⟩ := hv
  have hx := B.exec
  have hb := B.bytes
  have hr := B.returns
  have hts := atoms_spec (ws := (.code yX12_readFile cX12_readFile 3 (some .boolean) :: bg)) B.pre
  have htb : ∀ w ∈ bg, w.before _ s = true := fun w h => hts w (List.mem_cons_of_mem _ h)
  have hown : s.vm.findClass RX12 = some m.cls := findClass_of_methodNamed B.named
  have hlocks := B.notSynchronized
  subst hsz
  have hD := hD0.self (sz := s.heap.size)
  generalize hAe : va_A [(m0, .inr (12, fs))] s.heap.size = A at hD hE ⊢
  have hA : ∀ q : Nat, s.heap.size ≤ q → A q := fun q h => by rw [← hAe]; exact Or.inr h
  have hS : va_S A s.heap s.heap [] := va_S.rf
  have hP : va_P D vwCl [(m0, .inr (12, fs))] s.heap := hP
  have hl := lv_entry ([.ref m0]) (n := 3) (Nat.le_of_ble_eq_true rfl)
  rw [lg_entry_eq]
  generalize (lg_sl ([.ref m0]) ++ List.replicate (3 - (lg_sl ([.ref m0])).length) Slot.unset).toArray = ls at hl ⊢
  have hl : lv_has ls 3 [(0, .ref m0)] := hl
  refine lv_aload_n hx hb dX12_readFile_0 rfl (lv_at hl 0 rfl) ?_
  refine lv_iconst (v := 0) hx hb dX12_readFile_1 (by decide) ?_
  refine va_put (D := D) (ci := 12) (v := .int 0) (ty := tyX12 50) (C := RX12) (T := TX12) (N := 82) hx hb htb bi_X12 tyX12 tyX12_ok nmX12 hown hK hP hD hS 0 rfl rfl 50 (by decide) (htb _ bg_174) (fun _ h9 => h9) rfl (tyX12_ok 50 (by decide)) rfl rfl (by rw [hm.1]; decide) dX12_readFile_2 (fun H locs hP hD hS => ?_)
  have hP : va_P D vwCl [(m0, .inr (12, (fs.set 50 (.int 0))))] H := hP
  have hD : va_D A [(m0, .inr (12, (fs.set 50 (.int 0))))] := hD
  have hm : md_has (fs.set 50 (.int 0)) [(50, .int 0), (1, .ref q1), (2, .ref q2), (4, .ref q4), (5, .ref q5), (6, .ref q6), (7, .ref q7), (13, .ref qf), (15, .ref qm), (17, .int y17), (18, .int y18), (19, .int y19), (73, .int y73), (16, .int 0)] := md_put hm 50 (.int 0) (by decide) rfl
  generalize (fs.set 50 (.int 0)) = fs at hP hD hm
  refine lv_aload_n hx hb dX12_readFile_5 rfl (lv_at hl 0 rfl) ?_
  refine lv_ldc2 (own := RX12) (v := 4) hx hb hown (htb _ bg_180) dX12_readFile_6 ?_
  refine xb_goi (wr := []) (va_runV (As := [.long 4]) (rest := []) ⟨hx, hb, hml, hown, htb⟩ (mm_item l D g m0 fs q1 q2 q4 q5 q6 q7 qf qm y17 y18 y19 y73 (Array.size H) (md_sub hm [1, 2, 3, 4, 5, 6, 7, 8, 9, 10, 11, 12, 0, 13] rfl)) (bg_V 1 htb bg_181 bg_182 bg_183 bg_144 bg_173 rfl rfl (by decide +kernel) ⟨Nat.le_of_ble_eq_true rfl, Nat.le_of_ble_eq_true rfl⟩) ⟨xb_blind xe_ok, va_recv hK hP (ci := 12) (q0 := 0) rfl rfl, xb_enter xe_ok hK hP hD hS hA hE [0] rfl rfl rfl [] rfl⟩ rfl rfl hl.1 rfl (lv_room (Nat.le_of_ble_eq_true rfl)) dX12_readFile_9 ⟨Nat.le_of_ble_eq_true rfl, Nat.le_of_ble_eq_true rfl⟩) hK hP hD hS hA [0] [] rfl rfl rfl (by decide) (fun r_9 u_9 H locs hw_9 hP hD hK hS => ?_)
  generalize u_9 = fs at hP hD hK hw_9
  have hP : va_P D vwCl [(m0, .inr (12, fs))] H := hP
  have hD : va_D A [(m0, .inr (12, fs))] := hD
  have hK : va_K D vwCl [] s := hK
  refine W.widen (k := 0) (n := 0) (by decide) (by decide) ?_
  obtain ⟨hw_9, hm⟩ := hw_9
  have hw_9 : r_9 = 0 := hw_9
  subst hw_9
  refine lv_if_ne (tgt := 17) hx hb dX12_readFile_12 (by decide) (fun c_12 => ?_) (fun c_12 => ?_)
  · exact absurd (by decide) c_12
  refine lv_iconst (v := 0) hx hb dX12_readFile_15 (by decide) ?_
  have hP9 := hP.sub (ws' := [(m0, .inr (12, fs))]) [0] rfl
  have hD9 := hD.sub (ws' := [(m0, .inr (12, fs))]) [0] rfl rfl
  have hK9 := hK.sub (tys' := []) [] rfl
  exact W.zret (v := 0) hx hb hr (by decide) (fun t ht hW => ⟨⟨0, fs, rfl, ⟨rfl, md_sub hm [0, 1, 2, 3, 4, 5, 6, 7, 8, 9, 10, 11, 12, 13] rfl⟩, by rw [ht]; exact hP9, va_K.moved hW.alike hK9, hD9⟩, hS.F ht⟩) hS.2.2 dX12_readFile_16
theorem dX12_checkFile_0 : decode cX12_checkFile 0 = .ok (.aload_n 0, 1) := by decide +kernel
theorem dX12_checkFile_1 : decode cX12_checkFile 1 = .ok (.iconst (-1), 1) := by decide +kernel
theorem dX12_checkFile_2 : decode cX12_checkFile 2 = .ok (.putfield 401, 3) := by decide +kernel
theorem dX12_checkFile_5 : decode cX12_checkFile 5 = .ok (.aload_n 0, 1) := by decide +kernel
theorem dX12_checkFile_6 : decode cX12_checkFile 6 = .ok (.iconst 0, 1) := by decide +kernel
theorem dX12_checkFile_7 : decode cX12_checkFile 7 = .ok (.putfield 389, 3) := by decide +kernel
theorem dX12_checkFile_10 : decode cX12_checkFile 10 = .ok (.aload_n 0, 1) := by decide +kernel
theorem dX12_checkFile_11 : decode cX12_checkFile 11 = .ok (.iconst 0, 1) := by decide +kernel
theorem dX12_checkFile_12 : decode cX12_checkFile 12 = .ok (.putfield 392, 3) := by decide +kernel
theorem dX12_checkFile_15 : decode cX12_checkFile 15 = .ok (.aload_n 0, 1) := by decide +kernel
theorem dX12_checkFile_16 : decode cX12_checkFile 16 = .ok (.iconst 0, 1) := by decide +kernel
theorem dX12_checkFile_17 : decode cX12_checkFile 17 = .ok (.putfield 395, 3) := by decide +kernel
theorem dX12_checkFile_20 : decode cX12_checkFile 20 = .ok (.aload_n 0, 1) := by decide +kernel
theorem dX12_checkFile_21 : decode cX12_checkFile 21 = .ok (.iconst 0, 1) := by decide +kernel
theorem dX12_checkFile_22 : decode cX12_checkFile 22 = .ok (.putfield 376, 3) := by decide +kernel
theorem dX12_checkFile_25 : decode cX12_checkFile 25 = .ok (.aload_n 0, 1) := by decide +kernel
theorem dX12_checkFile_26 : decode cX12_checkFile 26 = .ok (.iconst (-1), 1) := by decide +kernel
theorem dX12_checkFile_27 : decode cX12_checkFile 27 = .ok (.putfield 407, 3) := by decide +kernel
theorem dX12_checkFile_30 : decode cX12_checkFile 30 = .ok (.aload_n 0, 1) := by decide +kernel
theorem dX12_checkFile_31 : decode cX12_checkFile 31 = .ok (.iconst 0, 1) := by decide +kernel
theorem dX12_checkFile_32 : decode cX12_checkFile 32 = .ok (.putfield 410, 3) := by decide +kernel
theorem dX12_checkFile_35 : decode cX12_checkFile 35 = .ok (.aload_n 0, 1) := by decide +kernel
theorem dX12_checkFile_36 : decode cX12_checkFile 36 = .ok (.iconst (-1), 1) := by decide +kernel
theorem dX12_checkFile_37 : decode cX12_checkFile 37 = .ok (.putfield 413, 3) := by decide +kernel
theorem dX12_checkFile_40 : decode cX12_checkFile 40 = .ok (.aload_n 0, 1) := by decide +kernel
theorem dX12_checkFile_41 : decode cX12_checkFile 41 = .ok (.invokevirtual 418, 3) := by decide +kernel
theorem dX12_checkFile_44 : decode cX12_checkFile 44 = .ok (.ifCond .eq 31, 3) := by decide +kernel
theorem dX12_checkFile_75 : decode cX12_checkFile 75 = .ok (.iconst 0, 1) := by decide +kernel
theorem dX12_checkFile_76 : decode cX12_checkFile 76 = .ok (.ireturn, 1) := by decide +kernel
set_option maxHeartbeats 4000000 in
set_option maxRecDepth 100000 in
theorem mm_checkFile (l : Launch) (D : va_G) (g : xe_G) (m0 : Nat) (fs : List Value) (q1 : Nat) (q2 : Nat) (q4 : Nat) (q5 : Nat) (q6 : Nat) (q7 : Nat) (qf : Nat) (qm : Nat) (y17 : Int32) (y18 : Int32) (y19 : Int32) (y73 : Int32) (sz : Nat) (hm : md_has fs [(1, .ref q1), (2, .ref q2), (4, .ref q4), (5, .ref q5), (6, .ref q6), (7, .ref q7), (13, .ref qf), (15, .ref qm), (17, .int y17), (18, .int y18), (19, .int y19), (73, .int y73), (16, .int 0)]) : Met l yX12_checkFile (.code yX12_checkFile cX12_checkFile 3 (some .boolean) :: bg) ({ frames := 4, cells := 0, slots := 0, locals := 480 } : Room) (xb_Pre (xe_E g) D vwCl [(m0, .inr (12, fs))] [] sz [.ref m0]) (va_Qi (fun r u => r = 0 ∧ md_has u [(1, .ref q1), (2, .ref q2), (4, .ref q4), (5, .ref q5), (6, .ref q6), (7, .ref q7), (13, .ref qf), (15, .ref qm), (17, .int y17), (18, .int y18), (19, .int y19), (73, .int y73), (47, .int 1), (48, .int 0)]) (xb_B D vwCl (va_A [(m0, .inr (12, fs))] sz) (fun u : List Value => [(m0, .inr (12, u))]) (fun u : List Value => [])) (va_A [(m0, .inr (12, fs))] sz)) 0 0 (va_A [(m0, .inr (12, fs))] sz) := by
  refine Met.ofW (cc := cX12_checkFile) (maxL := 3) (ret := (some .boolean)) (by decide) rfl ?_
  intro p e s m args below meth c s₁ B hml hv
  obtain ⟨rfl, hsz, hP, hK, hD0, hE⟩ := hv
  have hx := B.exec
  have hb := B.bytes
  have hr := B.returns
  have hts := atoms_spec (ws := (.code yX12_checkFile cX12_checkFile 3 (some .boolean) :: bg)) B.pre
  have htb : ∀ w ∈ bg, w.before _ s = true := fun w h => hts w (List.mem_cons_of_mem _ h)
  have hown : s.vm.findClass RX12 = some m.cls := findClass_of_methodNamed B.named
  have hlocks := B.notSynchronized
  subst hsz
  have hD := hD0.self (sz := s.heap.size)
  generalize hAe : va_A [(m0, .inr (12, fs))] s.heap.size = A at hD hE ⊢
  have hA : ∀ q : Nat, s.heap.size ≤ q → A q := fun q h => by rw [← hAe]; exact Or.inr h
  have hS : va_S A s.heap s.heap [] := va_S.rf
  have hP : va_P D vwCl [(m0, .inr (12, fs))] s.heap := hP
  have hl := lv_entry ([.ref m0]) (n := 3) (Nat.le_of_ble_eq_true rfl)
  rw [lg_entry_eq]
  generalize (lg_sl ([.ref m0]) ++ List.replicate (3 - (lg_sl ([.ref m0])).length) Slot.unset).toArray = ls at hl ⊢
  have hl : lv_has ls 3 [(0, .ref m0)] := hl
  refine lv_aload_n hx hb dX12_checkFile_0 rfl (lv_at hl 0 rfl) ?_
  refine lv_iconst (v := (-1)) hx hb dX12_checkFile_1 (by decide) ?_
  refine va_put (D := D) (ci := 12) (v := .int (-1)) (ty := tyX12 67) (C := RX12) (T := TX12) (N := 82) hx hb htb bi_X12 tyX12 tyX12_ok nmX12 hown hK hP hD hS 0 rfl rfl 67 (by decide) (htb _ bg_193) (fun _ h9 => h9) rfl (tyX12_ok 67 (by decide)) rfl rfl (by rw [hm.1]; decide) dX12_checkFile_2 (fun H locs hP hD hS => ?_)
  have hP : va_P D vwCl [(m0, .inr (12, (fs.set 67 (.int (-1)))))] H := hP
  have hD : va_D A [(m0, .inr (12, (fs.set 67 (.int (-1)))))] := hD
  have hm : md_has (fs.set 67 (.int (-1))) [(1, .ref q1), (2, .ref q2), (4, .ref q4), (5, .ref q5), (6, .ref q6), (7, .ref q7), (13, .ref qf), (15, .ref qm), (17, .int y17), (18, .int y18), (19, .int y19), (73, .int y73), (16, .int 0)] := md_putD hm 67 (.int (-1)) (by decide) rfl
  generalize (fs.set 67 (.int (-1))) = fs at hP hD hm
  refine lv_aload_n hx hb dX12_checkFile_5 rfl (lv_at hl 0 rfl) ?_
  refine lv_iconst (v := 0) hx hb dX12_checkFile_6 (by decide) ?_
  refine va_put (D := D) (ci := 12) (v := .int 0) (ty := tyX12 68) (C := RX12) (T := TX12) (N := 82) hx hb htb bi_X12 tyX12 tyX12_ok nmX12 hown hK hP hD hS 0 rfl rfl 68 (by decide) (htb _ bg_194) (fun _ h9 => h9) rfl (tyX12_ok 68 (by decide)) rfl rfl (by rw [hm.1]; decide) dX12_checkFile_7 (fun H locs hP hD hS => ?_)
  have hP : va_P D vwCl [(m0, .inr (12, (fs.set 68 (.int 0))))] H := hP
  have hD : va_D A [(m0, .inr (12, (fs.set 68 (.int 0))))] := hD
  have hm : md_has (fs.set 68 (.int 0)) [(1, .ref q1), (2, .ref q2), (4, .ref q4), (5, .ref q5), (6, .ref q6), (7, .ref q7), (13, .ref qf), (15, .ref qm), (17, .int y17), (18, .int y18), (19, .int y19), (73, .int y73), (16, .int 0)] := md_putD hm 68 (.int 0) (by decide) rfl
  generalize (fs.set 68 (.int 0)) = fs at hP hD hm
  refine lv_aload_n hx hb dX12_checkFile_10 rfl (lv_at hl 0 rfl) ?_
  refine lv_iconst (v := 0) hx hb dX12_checkFile_11 (by decide) ?_
  refine va_put (D := D) (ci := 12) (v := .int 0) (ty := tyX12 69) (C := RX12) (T := TX12) (N := 82) hx hb htb bi_X12 tyX12 tyX12_ok nmX12 hown hK hP hD hS 0 rfl rfl 69 (by decide) (htb _ bg_195) (fun _ h9 => h9) rfl (tyX12_ok 69 (by decide)) rfl rfl (by rw [hm.1]; decide) dX12_checkFile_12 (fun H locs hP hD hS => ?_)
  have hP : va_P D vwCl [(m0, .inr (12, (fs.set 69 (.int 0))))] H := hP
  have hD : va_D A [(m0, .inr (12, (fs.set 69 (.int 0))))] := hD
  have hm : md_has (fs.set 69 (.int 0)) [(1, .ref q1), (2, .ref q2), (4, .ref q4), (5, .ref q5), (6, .ref q6), (7, .ref q7), (13, .ref qf), (15, .ref qm), (17, .int y17), (18, .int y18), (19, .int y19), (73, .int y73), (16, .int 0)] := md_putD hm 69 (.int 0) (by decide) rfl
  generalize (fs.set 69 (.int 0)) = fs at hP hD hm
  refine lv_aload_n hx hb dX12_checkFile_15 rfl (lv_at hl 0 rfl) ?_
  refine lv_iconst (v := 0) hx hb dX12_checkFile_16 (by decide) ?_
  refine va_put (D := D) (ci := 12) (v := .int 0) (ty := tyX12 65) (C := RX12) (T := TX12) (N := 82) hx hb htb bi_X12 tyX12 tyX12_ok nmX12 hown hK hP hD hS 0 rfl rfl 65 (by decide) (htb _ bg_196) (fun _ h9 => h9) rfl (tyX12_ok 65 (by decide)) rfl rfl (by rw [hm.1]; decide) dX12_checkFile_17 (fun H locs hP hD hS => ?_)
  have hP : va_P D vwCl [(m0, .inr (12, (fs.set 65 (.int 0))))] H := hP
  have hD : va_D A [(m0, .inr (12, (fs.set 65 (.int 0))))] := hD
  have hm : md_has (fs.set 65 (.int 0)) [(1, .ref q1), (2, .ref q2), (4, .ref q4), (5, .ref q5), (6, .ref q6), (7, .ref q7), (13, .ref qf), (15, .ref qm), (17, .int y17), (18, .int y18), (19, .int y19), (73, .int y73), (16, .int 0)] := md_putD hm 65 (.int 0) (by decide) rfl
  generalize (fs.set 65 (.int 0)) = fs at hP hD hm
  refine lv_aload_n hx hb dX12_checkFile_20 rfl (lv_at hl 0 rfl) ?_
  refine lv_iconst (v := 0) hx hb dX12_checkFile_21 (by decide) ?_
  refine va_put (D := D) (ci := 12) (v := .int 0) (ty := tyX12 66) (C := RX12) (T := TX12) (N := 82) hx hb htb bi_X12 tyX12 tyX12_ok nmX12 hown hK hP hD hS 0 rfl rfl 66 (by decide) (htb _ bg_197) (fun _ h9 => h9) rfl (tyX12_ok 66 (by decide)) rfl rfl (by rw [hm.1]; decide) dX12_checkFile_22 (fun H locs hP hD hS => ?_)
  have hP : va_P D vwCl [(m0, .inr (12, (fs.set 66 (.int 0))))] H := hP
  have hD : va_D A [(m0, .inr (12, (fs.set 66 (.int 0))))] := hD
  have hm : md_has (fs.set 66 (.int 0)) [(1, .ref q1), (2, .ref q2), (4, .ref q4), (5, .ref q5), (6, .ref q6), (7, .ref q7), (13, .ref qf), (15, .ref qm), (17, .int y17), (18, .int y18), (19, .int y19), (73, .int y73), (16, .int 0)] := md_putD hm 66 (.int 0) (by decide) rfl
  generalize (fs.set 66 (.int 0)) = fs at hP hD hm
  refine lv_aload_n hx hb dX12_checkFile_25 rfl (lv_at hl 0 rfl) ?_
  refine lv_iconst (v := (-1)) hx hb dX12_checkFile_26 (by decide) ?_
  refine va_put (D := D) (ci := 12) (v := .int (-1)) (ty := tyX12 70) (C := RX12) (T := TX12) (N := 82) hx hb htb bi_X12 tyX12 tyX12_ok nmX12 hown hK hP hD hS 0 rfl rfl 70 (by decide) (htb _ bg_198) (fun _ h9 => h9) rfl (tyX12_ok 70 (by decide)) rfl rfl (by rw [hm.1]; decide) dX12_checkFile_27 (fun H locs hP hD hS => ?_)
  have hP : va_P D vwCl [(m0, .inr (12, (fs.set 70 (.int (-1)))))] H := hP
  have hD : va_D A [(m0, .inr (12, (fs.set 70 (.int (-1)))))] := hD
  have hm : md_has (fs.set 70 (.int (-1))) [(1, .ref q1), (2, .ref q2), (4, .ref q4), (5, .ref q5), (6, .ref q6), (7, .ref q7), (13, .ref qf), (15, .ref qm), (17, .int y17), (18, .int y18), (19, .int y19), (73, .int y73), (16, .int 0)] := md_putD hm 70 (.int (-1)) (by decide) rfl
  generalize (fs.set 70 (.int (-1))) = fs at hP hD hm
  refine lv_aload_n hx hb dX12_checkFile_30 rfl (lv_at hl 0 rfl) ?_
  refine lv_iconst (v := 0) hx hb dX12_checkFile_31 (by decide) ?_
  refine va_put (D := D) (ci := 12) (v := .int 0) (ty := tyX12 71) (C := RX12) (T := TX12) (N := 82) hx hb htb bi_X12 tyX12 tyX12_ok nmX12 hown hK hP hD hS 0 rfl rfl 71 (by decide) (htb _ bg_199) (fun _ h9 => h9) rfl (tyX12_ok 71 (by decide)) rfl rfl (by rw [hm.1]; decide) dX12_checkFile_32 (fun H locs hP hD hS => ?_)
  have hP : va_P D vwCl [(m0, .inr (12, (fs.set 71 (.int 0))))] H := hP
  have hD : va_D A [(m0, .inr (12, (fs.set 71 (.int 0))))] := hD
  have hm : md_has (fs.set 71 (.int 0)) [(1, .ref q1), (2, .ref q2), (4, .ref q4), (5, .ref q5), (6, .ref q6), (7, .ref q7), (13, .ref qf), (15, .ref qm), (17, .int y17), (18, .int y18), (19, .int y19), (73, .int y73), (16, .int 0)] := md_putD hm 71 (.int 0) (by decide) rfl
  generalize (fs.set 71 (.int 0)) = fs at hP hD hm
  refine lv_aload_n hx hb dX12_checkFile_35 rfl (lv_at hl 0 rfl) ?_
  refine lv_iconst (v := (-1)) hx hb dX12_checkFile_36 (by decide) ?_
  refine va_put (D := D) (ci := 12) (v := .int (-1)) (ty := tyX12 72) (C := RX12) (T := TX12) (N := 82) hx hb htb bi_X12 tyX12 tyX12_ok nmX12 hown hK hP hD hS 0 rfl rfl 72 (by decide) (htb _ bg_200) (fun _ h9 => h9) rfl (tyX12_ok 72 (by decide)) rfl rfl (by rw [hm.1]; decide) dX12_checkFile_37 (fun H locs hP hD hS => ?_)
  have hP : va_P D vwCl [(m0, .inr (12, (fs.set 72 (.int (-1)))))] H := hP
  have hD : va_D A [(m0, .inr (12, (fs.set 72 (.int (-1)))))] := hD
  have hm : md_has (fs.set 72 (.int (-1))) [(1, .ref q1), (2, .ref q2), (4, .ref q4), (5, .ref q5), (6, .ref q6), (7, .ref q7), (13, .ref qf), (15, .ref qm), (17, .int y17), (18, .int y18), (19, .int y19), (73, .int y73), (16, .int 0)] := md_putD hm 72 (.int (-1)) (by decide) rfl
  generalize (fs.set 72 (.int (-1))) = fs at hP hD hm
  refine lv_aload_n hx hb dX12_checkFile_40 rfl (lv_at hl 0 rfl) ?_
  refine xb_goi (wr := []) (va_runV (As := []) (rest := []) ⟨hx, hb, hml, hown, htb⟩ (mm_readFile l D g m0 fs q1 q2 q4 q5 q6 q7 qf qm y17 y18 y19 y73 (Array.size H) (md_sub hm [0, 1, 2, 3, 4, 5, 6, 7, 8, 9, 10, 11, 12] rfl)) (bg_V 0 htb bg_201 bg_202 bg_203 bg_144 bg_179 rfl rfl (by decide +kernel) ⟨Nat.le_of_ble_eq_true rfl, Nat.le_of_ble_eq_true rfl⟩) ⟨xb_blind xe_ok, va_recv hK hP (ci := 12) (q0 := 0) rfl rfl, xb_enter xe_ok hK hP hD hS hA hE [0] rfl rfl rfl [] rfl⟩ rfl rfl hl.1 rfl (lv_room (Nat.le_of_ble_eq_true rfl)) dX12_checkFile_41 ⟨Nat.le_of_ble_eq_true rfl, Nat.le_of_ble_eq_true rfl⟩) hK hP hD hS hA [0] [] rfl rfl rfl (by decide) (fun r_41 u_41 H locs hw_41 hP hD hK hS => ?_)
  generalize u_41 = fs at hP hD hK hw_41
  have hP : va_P D vwCl [(m0, .inr (12, fs))] H := hP
  have hD : va_D A [(m0, .inr (12, fs))] := hD
  have hK : va_K D vwCl [] s := hK
  refine W.widen (k := 0) (n := 0) (by decide) (by decide) ?_
  obtain ⟨hw_41, hm⟩ := hw_41
  have hw_41 : r_41 = 0 := hw_41
  subst hw_41
  refine lv_if_eq (tgt := 75) hx hb dX12_checkFile_44 (by decide) (fun c_44 => ?_) (fun c_44 => ?_)
  rotate_left
  · exact absurd (by decide) c_44
  refine lv_iconst (v := 0) hx hb dX12_checkFile_75 (by decide) ?_
  have hP9 := hP.sub (ws' := [(m0, .inr (12, fs))]) [0] rfl
  have hD9 := hD.sub (ws' := [(m0, .inr (12, fs))]) [0] rfl rfl
  have hK9 := hK.sub (tys' := []) [] rfl
  exact W.zret (v := 0) hx hb hr (by decide) (fun t ht hW => ⟨⟨0, fs, rfl, ⟨rfl, md_sub hm [0, 1, 2, 3, 4, 5, 6, 7, 8, 9, 10, 11, 12, 13] rfl⟩, by rw [ht]; exact hP9, va_K.moved hW.alike hK9, hD9⟩, hS.F ht⟩) hS.2.2 dX12_checkFile_76
theorem dX12_parse_0 : decode cX12_parse 0 = .ok (.aload_n 0, 1) := by decide +kernel
theorem dX12_parse_1 : decode cX12_parse 1 = .ok (.invokevirtual 169, 3) := by decide +kernel
theorem dX12_parse_4 : decode cX12_parse 4 = .ok (.aload_n 0, 1) := by decide +kernel
theorem dX12_parse_5 : decode cX12_parse 5 = .ok (.iload_n 2, 1) := by decide +kernel
theorem dX12_parse_6 : decode cX12_parse 6 = .ok (.putfield 239, 3) := by decide +kernel
theorem dX12_parse_9 : decode cX12_parse 9 = .ok (.iconst 0, 1) := by decide +kernel
theorem dX12_parse_10 : decode cX12_parse 10 = .ok (.istore_n 3, 1) := by decide +kernel
theorem dX12_parse_11 : decode cX12_parse 11 = .ok (.iload_n 3, 1) := by decide +kernel
theorem dX12_parse_12 : decode cX12_parse 12 = .ok (.iload_n 2, 1) := by decide +kernel
theorem dX12_parse_13 : decode cX12_parse 13 = .ok (.if_icmp .ge 18, 3) := by decide +kernel
theorem dX12_parse_31 : decode cX12_parse 31 = .ok (.aload_n 0, 1) := by decide +kernel
theorem dX12_parse_32 : decode cX12_parse 32 = .ok (.invokevirtual 450, 3) := by decide +kernel
theorem dX12_parse_35 : decode cX12_parse 35 = .ok (.ireturn, 1) := by decide +kernel
set_option maxHeartbeats 4000000 in
set_option maxRecDepth 100000 in
theorem mm_parse (l : Launch) (D : va_G) (g : xe_G) (m0 : Nat) (fs : List Value) (q1 : Nat) (q2 : Nat) (q4 : Nat) (q5 : Nat) (q6 : Nat) (q7 : Nat) (a1 : ClassId) (a2 : ClassId) (a4 : ClassId) (a5 : ClassId) (a6 : ClassId) (a7 : ClassId) (f1 : Nat → Int32) (f2 : Nat → Int32) (f4 : Nat → Int32) (f5 : Nat → Int32) (f6 : Nat → Int32) (f7 : Nat → Int32) (qf : Nat) (qm : Nat) (y17 : Int32) (y18 : Int32) (y19 : Int32) (y73 : Int32) (sz : Nat) (hm : md_has fs [(1, .ref q1), (2, .ref q2), (4, .ref q4), (5, .ref q5), (6, .ref q6), (7, .ref q7), (13, .ref qf), (15, .ref qm), (17, .int y17), (18, .int y18), (19, .int y19), (73, .int y73)]) : Met l yX12_parse (.code yX12_parse cX12_parse 4 (some .boolean) :: bg) ({ frames := 7, cells := 0, slots := 0, locals := 1000 } : Room) (xb_Pre (xe_E g) D vwCl [(m0, .inr (12, fs)), (q1, .inl (a1, 66000, .inl f1)), (q2, .inl (a2, 66000, .inl f2)), (q4, .inl (a4, 24000, .inl f4)), (q5, .inl (a5, 24000, .inl f5)), (q6, .inl (a6, 24000, .inl f6)), (q7, .inl (a7, 4096, .inl f7))] [(a1, .char), (a2, .char), (a4, .int), (a5, .int), (a6, .int), (a7, .int)] sz [.ref m0, .ref qf, .int 0]) (va_Qi (fun r u => r = 0 ∧ md_has u.1 [(1, .ref q1), (2, .ref q2), (4, .ref q4), (5, .ref q5), (6, .ref q6), (7, .ref q7), (13, .ref qf), (15, .ref qm), (17, .int y17), (18, .int y18), (19, .int y19), (73, .int y73), (47, .int 1), (48, .int 0)]) (xb_B D vwCl (va_A [(m0, .inr (12, fs)), (q1, .inl (a1, 66000, .inl f1)), (q2, .inl (a2, 66000, .inl f2)), (q4, .inl (a4, 24000, .inl f4)), (q5, .inl (a5, 24000, .inl f5)), (q6, .inl (a6, 24000, .inl f6)), (q7, .inl (a7, 4096, .inl f7))] sz) (fun u : List Value × (Nat → Int32) × (Nat → Int32) × (Nat → Int32) × (Nat → Int32) × (Nat → Int32) × (Nat → Int32) => [(m0, .inr (12, u.1)), (q1, .inl (a1, 66000, .inl u.2.1)), (q2, .inl (a2, 66000, .inl u.2.2.1)), (q4, .inl (a4, 24000, .inl u.2.2.2.1)), (q5, .inl (a5, 24000, .inl u.2.2.2.2.1)), (q6, .inl (a6, 24000, .inl u.2.2.2.2.2.1)), (q7, .inl (a7, 4096, .inl u.2.2.2.2.2.2))]) (fun u : List Value × (Nat → Int32) × (Nat → Int32) × (Nat → Int32) × (Nat → Int32) × (Nat → Int32) × (Nat → Int32) => [(a1, .char), (a2, .char), (a4, .int), (a5, .int), (a6, .int), (a7, .int)])) (va_A [(m0, .inr (12, fs)), (q1, .inl (a1, 66000, .inl f1)), (q2, .inl (a2, 66000, .inl f2)), (q4, .inl (a4, 24000, .inl f4)), (q5, .inl (a5, 24000, .inl f5)), (q6, .inl (a6, 24000, .inl f6)), (q7, .inl (a7, 4096, .inl f7))] sz)) 0 0 (va_A [(m0, .inr (12, fs)), (q1, .inl (a1, 66000, .inl f1)), (q2, .inl (a2, 66000, .inl f2)), (q4, .inl (a4, 24000, .inl f4)), (q5, .inl (a5, 24000, .inl f5)), (q6, .inl (a6, 24000, .inl f6)), (q7, .inl (a7, 4096, .inl f7))] sz) := by
  refine Met.ofW (cc := cX12_parse) (maxL := 4) (ret := (some .boolean)) (by decide) rfl ?_
  intro p e s m args below meth c s₁ B hml hv
  obtain ⟨rfl, hsz, hP, hK, hD0, hE⟩ := hv
  have hx := B.exec
  have hb := B.bytes
  have hr := B.returns
  have hts := atoms_spec (ws := (.code yX12_parse cX12_parse 4 (some .boolean) :: bg)) B.pre
  have htb : ∀ w ∈ bg, w.before _ s = true := fun w h => hts w (List.mem_cons_of_mem _ h)
  have hown : s.vm.findClass RX12 = some m.cls := findClass_of_methodNamed B.named
  have hlocks := B.notSynchronized
  subst hsz
  have hD := hD0.self (sz := s.heap.size)
  generalize hAe : va_A [(m0, .inr (12, fs)), (q1, .inl (a1, 66000, .inl f1)), (q2, .inl (a2, 66000, .inl f2)), (q4, .inl (a4, 24000, .inl f4)), (q5, .inl (a5, 24000, .inl f5)), (q6, .inl (a6, 24000, .inl f6)), (q7, .inl (a7, 4096, .inl f7))] s.heap.size = A at hD hE ⊢
  have hA : ∀ q : Nat, s.heap.size ≤ q → A q := fun q h => by rw [← hAe]; exact Or.inr h
  have hS : va_S A s.heap s.heap [] := va_S.rf
  have hP : va_P D vwCl [(m0, .inr (12, fs)), (q1, .inl (a1, 66000, .inl f1)), (q2, .inl (a2, 66000, .inl f2)), (q4, .inl (a4, 24000, .inl f4)), (q5, .inl (a5, 24000, .inl f5)), (q6, .inl (a6, 24000, .inl f6)), (q7, .inl (a7, 4096, .inl f7))] s.heap := hP
  have hl := lv_entry ([.ref m0, .ref qf, .int 0]) (n := 4) (Nat.le_of_ble_eq_true rfl)
  rw [lg_entry_eq]
  generalize (lg_sl ([.ref m0, .ref qf, .int 0]) ++ List.replicate (4 - (lg_sl ([.ref m0, .ref qf, .int 0])).length) Slot.unset).toArray = ls at hl ⊢
  have hl : lv_has ls 4 [(0, .ref m0), (1, .ref qf), (2, .int 0)] := hl
  refine lv_aload_n hx hb dX12_parse_0 rfl (lv_at hl 0 rfl) ?_
  refine xb_gov (wr := []) (va_runV (As := []) (rest := []) ⟨hx, hb, hml, hown, htb⟩ (mm_clear l D g m0 fs q1 q2 q4 q5 q6 q7 a1 a2 a4 a5 a6 a7 f1 f2 f4 f5 f6 f7 qf qm y17 y18 y19 y73 (Array.size s.heap) (md_sub hm [0, 1, 2, 3, 4, 5, 6, 7, 8, 9, 10, 11] rfl)) (bg_V 0 htb bg_140 bg_142 bg_143 bg_144 bg_141 rfl rfl (by decide +kernel) ⟨Nat.le_of_ble_eq_true rfl, Nat.le_of_ble_eq_true rfl⟩) ⟨xb_blind xe_ok, va_recv hK hP (ci := 12) (q0 := 0) rfl rfl, xb_enter xe_ok hK hP hD hS hA hE [0, 1, 2, 3, 4, 5, 6] rfl rfl rfl [0, 1, 2, 3, 4, 5] rfl⟩ rfl rfl hl.1 rfl (lv_room (Nat.le_of_ble_eq_true rfl)) dX12_parse_1 ⟨Nat.le_of_ble_eq_true rfl, Nat.le_of_ble_eq_true rfl⟩) hK hP hD hS hA [0, 1, 2, 3, 4, 5, 6] [] rfl rfl rfl (by decide) (fun u_1 H locs hw_1 hP hD hK hS => ?_)
  obtain ⟨fs, f1, f2, f4, f5, f6, f7⟩ := u_1
  have hP : va_P D vwCl [(m0, .inr (12, fs)), (q1, .inl (a1, 66000, .inl f1)), (q2, .inl (a2, 66000, .inl f2)), (q4, .inl (a4, 24000, .inl f4)), (q5, .inl (a5, 24000, .inl f5)), (q6, .inl (a6, 24000, .inl f6)), (q7, .inl (a7, 4096, .inl f7))] H := hP
  have hD : va_D A [(m0, .inr (12, fs)), (q1, .inl (a1, 66000, .inl f1)), (q2, .inl (a2, 66000, .inl f2)), (q4, .inl (a4, 24000, .inl f4)), (q5, .inl (a5, 24000, .inl f5)), (q6, .inl (a6, 24000, .inl f6)), (q7, .inl (a7, 4096, .inl f7))] := hD
  have hK : va_K D vwCl [(a1, .char), (a2, .char), (a4, .int), (a5, .int), (a6, .int), (a7, .int), (a1, .char), (a2, .char), (a4, .int), (a5, .int), (a6, .int), (a7, .int)] s := hK
  refine W.widen (k := 0) (n := 0) (by decide) (by decide) ?_
  have hm : md_has fs _ := hw_1
  have hK := hK.sub (tys' := [(a1, .char), (a2, .char), (a4, .int), (a5, .int), (a6, .int), (a7, .int)]) [0, 1, 2, 3, 4, 5] rfl
  refine lv_aload_n hx hb dX12_parse_4 rfl (lv_at hl 0 rfl) ?_
  refine lv_iload_n hx hb dX12_parse_5 rfl (lv_at hl 2 rfl) ?_
  refine va_put (D := D) (ci := 12) (v := .int 0) (ty := tyX12 16) (C := RX12) (T := TX12) (N := 82) hx hb htb bi_X12 tyX12 tyX12_ok nmX12 hown hK hP hD hS 0 rfl rfl 16 (by decide) (htb _ bg_175) (fun _ h9 => h9) rfl (tyX12_ok 16 (by decide)) rfl rfl (by rw [hm.1]; decide) dX12_parse_6 (fun H locs hP hD hS => ?_)
  have hP : va_P D vwCl [(m0, .inr (12, (fs.set 16 (.int 0)))), (q1, .inl (a1, 66000, .inl f1)), (q2, .inl (a2, 66000, .inl f2)), (q4, .inl (a4, 24000, .inl f4)), (q5, .inl (a5, 24000, .inl f5)), (q6, .inl (a6, 24000, .inl f6)), (q7, .inl (a7, 4096, .inl f7))] H := hP
  have hD : va_D A [(m0, .inr (12, (fs.set 16 (.int 0)))), (q1, .inl (a1, 66000, .inl f1)), (q2, .inl (a2, 66000, .inl f2)), (q4, .inl (a4, 24000, .inl f4)), (q5, .inl (a5, 24000, .inl f5)), (q6, .inl (a6, 24000, .inl f6)), (q7, .inl (a7, 4096, .inl f7))] := hD
  have hm : md_has (fs.set 16 (.int 0)) [(16, .int 0), (1, .ref q1), (2, .ref q2), (4, .ref q4), (5, .ref q5), (6, .ref q6), (7, .ref q7), (13, .ref qf), (15, .ref qm), (17, .int y17), (18, .int y18), (19, .int y19), (73, .int y73)] := md_put hm 16 (.int 0) (by decide) rfl
  generalize (fs.set 16 (.int 0)) = fs at hP hD hm
  refine lv_iconst (v := 0) hx hb dX12_parse_9 (by decide) ?_
  refine lv_istore_n (lv' := [(3, .int 0), (0, .ref m0), (1, .ref qf), (2, .int 0)]) hx hb dX12_parse_10 rfl hl (by decide) rfl (fun ls hl => ?_)
  refine lv_iload_n hx hb dX12_parse_11 rfl (lv_at hl 0 rfl) ?_
  refine lv_iload_n hx hb dX12_parse_12 rfl (lv_at hl 3 rfl) ?_
  refine lv_icmp_ge (tgt := 31) hx hb dX12_parse_13 (by decide) (fun c_13 => ?_) (fun c_13 => ?_)
  rotate_left
  · exact absurd (by decide) c_13
  refine lv_aload_n hx hb dX12_parse_31 rfl (lv_at hl 1 rfl) ?_
  refine xb_goi (wr := [(q1, .inl (a1, 66000, .inl f1)), (q2, .inl (a2, 66000, .inl f2)), (q4, .inl (a4, 24000, .inl f4)), (q5, .inl (a5, 24000, .inl f5)), (q6, .inl (a6, 24000, .inl f6)), (q7, .inl (a7, 4096, .inl f7))]) (va_runV (As := []) (rest := []) ⟨hx, hb, hml, hown, htb⟩ (mm_checkFile l D g m0 fs q1 q2 q4 q5 q6 q7 qf qm y17 y18 y19 y73 (Array.size H) (md_sub hm [1, 2, 3, 4, 5, 6, 7, 8, 9, 10, 11, 12, 0] rfl)) (bg_V 0 htb bg_222 bg_223 bg_224 bg_144 bg_192 rfl rfl (by decide +kernel) ⟨Nat.le_of_ble_eq_true rfl, Nat.le_of_ble_eq_true rfl⟩) ⟨xb_blind xe_ok, va_recv hK hP (ci := 12) (q0 := 0) rfl rfl, xb_enter xe_ok hK hP hD hS hA hE [0] rfl rfl rfl [] rfl⟩ rfl rfl hl.1 rfl (lv_room (Nat.le_of_ble_eq_true rfl)) dX12_parse_32 ⟨Nat.le_of_ble_eq_true rfl, Nat.le_of_ble_eq_true rfl⟩) hK hP hD hS hA [0] [1, 2, 3, 4, 5, 6] rfl rfl rfl (by decide) (fun r_32 u_32 H locs hw_32 hP hD hK hS => ?_)
  generalize u_32 = fs at hP hD hK hw_32
  have hP : va_P D vwCl [(q1, .inl (a1, 66000, .inl f1)), (q2, .inl (a2, 66000, .inl f2)), (q4, .inl (a4, 24000, .inl f4)), (q5, .inl (a5, 24000, .inl f5)), (q6, .inl (a6, 24000, .inl f6)), (q7, .inl (a7, 4096, .inl f7)), (m0, .inr (12, fs))] H := hP
  have hD : va_D A [(q1, .inl (a1, 66000, .inl f1)), (q2, .inl (a2, 66000, .inl f2)), (q4, .inl (a4, 24000, .inl f4)), (q5, .inl (a5, 24000, .inl f5)), (q6, .inl (a6, 24000, .inl f6)), (q7, .inl (a7, 4096, .inl f7)), (m0, .inr (12, fs))] := hD
  have hK : va_K D vwCl [(a1, .char), (a2, .char), (a4, .int), (a5, .int), (a6, .int), (a7, .int)] s := hK
  refine W.widen (k := 0) (n := 0) (by decide) (by decide) ?_
  obtain ⟨hw_32, hm⟩ := hw_32
  have hw_32 : r_32 = 0 := hw_32
  subst hw_32
  have hP9 := hP.sub (ws' := [(m0, .inr (12, fs)), (q1, .inl (a1, 66000, .inl f1)), (q2, .inl (a2, 66000, .inl f2)), (q4, .inl (a4, 24000, .inl f4)), (q5, .inl (a5, 24000, .inl f5)), (q6, .inl (a6, 24000, .inl f6)), (q7, .inl (a7, 4096, .inl f7))]) [6, 0, 1, 2, 3, 4, 5] rfl
  have hD9 := hD.sub (ws' := [(m0, .inr (12, fs)), (q1, .inl (a1, 66000, .inl f1)), (q2, .inl (a2, 66000, .inl f2)), (q4, .inl (a4, 24000, .inl f4)), (q5, .inl (a5, 24000, .inl f5)), (q6, .inl (a6, 24000, .inl f6)), (q7, .inl (a7, 4096, .inl f7))]) [6, 0, 1, 2, 3, 4, 5] rfl rfl
  have hK9 := hK.sub (tys' := [(a1, .char), (a2, .char), (a4, .int), (a5, .int), (a6, .int), (a7, .int)]) [0, 1, 2, 3, 4, 5] rfl
  exact W.zret (v := 0) hx hb hr (by decide) (fun t ht hW => ⟨⟨0, (fs, f1, f2, f4, f5, f6, f7), rfl, ⟨rfl, md_sub hm [0, 1, 2, 3, 4, 5, 6, 7, 8, 9, 10, 11, 12, 13] rfl⟩, by rw [ht]; exact hP9, va_K.moved hW.alike hK9, hD9⟩, hS.F ht⟩) hS.2.2 dX12_parse_35
theorem dX12_read_0 : decode cX12_read 0 = .ok (.aload_n 0, 1) := by decide +kernel
theorem dX12_read_1 : decode cX12_read 1 = .ok (.iconst 0, 1) := by decide +kernel
theorem dX12_read_2 : decode cX12_read 2 = .ok (.putfield 1, 3) := by decide +kernel
theorem dX12_read_5 : decode cX12_read 5 = .ok (.aload_n 0, 1) := by decide +kernel
theorem dX12_read_6 : decode cX12_read 6 = .ok (.aload_n 0, 1) := by decide +kernel
theorem dX12_read_7 : decode cX12_read 7 = .ok (.getfield 40, 3) := by decide +kernel
theorem dX12_read_10 : decode cX12_read 10 = .ok (.aload_n 0, 1) := by decide +kernel
theorem dX12_read_11 : decode cX12_read 11 = .ok (.getfield 443, 3) := by decide +kernel
theorem dX12_read_14 : decode cX12_read 14 = .ok (.invokevirtual 446, 3) := by decide +kernel
theorem dX12_read_17 : decode cX12_read 17 = .ok (.istore_n 1, 1) := by decide +kernel
theorem dX12_read_18 : decode cX12_read 18 = .ok (.aload_n 0, 1) := by decide +kernel
theorem dX12_read_19 : decode cX12_read 19 = .ok (.iload_n 1, 1) := by decide +kernel
theorem dX12_read_20 : decode cX12_read 20 = .ok (.ifCond .eq 7, 3) := by decide +kernel
theorem dX12_read_27 : decode cX12_read 27 = .ok (.aload_n 0, 1) := by decide +kernel
theorem dX12_read_28 : decode cX12_read 28 = .ok (.getfield 233, 3) := by decide +kernel
theorem dX12_read_31 : decode cX12_read 31 = .ok (.putfield 157, 3) := by decide +kernel
theorem dX12_read_34 : decode cX12_read 34 = .ok (.iload_n 1, 1) := by decide +kernel
theorem dX12_read_35 : decode cX12_read 35 = .ok (.ifCond .eq 7, 3) := by decide +kernel
theorem dX12_read_42 : decode cX12_read 42 = .ok (.aload_n 0, 1) := by decide +kernel
theorem dX12_read_43 : decode cX12_read 43 = .ok (.getfield 230, 3) := by decide +kernel
theorem dX12_read_46 : decode cX12_read 46 = .ok (.istore_n 2, 1) := by decide +kernel
theorem dX12_read_47 : decode cX12_read 47 = .ok (.iload_n 1, 1) := by decide +kernel
theorem dX12_read_48 : decode cX12_read 48 = .ok (.ifCond .eq 42, 3) := by decide +kernel
theorem dX12_read_90 : decode cX12_read 90 = .ok (.aload_n 0, 1) := by decide +kernel
theorem dX12_read_91 : decode cX12_read 91 = .ok (.getfield 49, 3) := by decide +kernel
theorem dX12_read_94 : decode cX12_read 94 = .ok (.ifCond .lt 16, 3) := by decide +kernel
theorem dX12_read_110 : decode cX12_read 110 = .ok (.aload_n 0, 1) := by decide +kernel
theorem dX12_read_111 : decode cX12_read 111 = .ok (.iconst (-1), 1) := by decide +kernel
theorem dX12_read_112 : decode cX12_read 112 = .ok (.putfield 160, 3) := by decide +kernel
theorem dX12_read_115 : decode cX12_read 115 = .ok (.aload_n 0, 1) := by decide +kernel
theorem dX12_read_116 : decode cX12_read 116 = .ok (.iconst 0, 1) := by decide +kernel
theorem dX12_read_117 : decode cX12_read 117 = .ok (.putfield 443, 3) := by decide +kernel
theorem dX12_read_120 : decode cX12_read 120 = .ok (.iload_n 2, 1) := by decide +kernel
theorem dX12_read_121 : decode cX12_read 121 = .ok (.ireturn, 1) := by decide +kernel
set_option maxHeartbeats 4000000 in
set_option maxRecDepth 100000 in
theorem mm_read (l : Launch) (D : va_G) (g : xe_G) (m0 : Nat) (fs : List Value) (q1 : Nat) (q2 : Nat) (q4 : Nat) (q5 : Nat) (q6 : Nat) (q7 : Nat) (a1 : ClassId) (a2 : ClassId) (a4 : ClassId) (a5 : ClassId) (a6 : ClassId) (a7 : ClassId) (f1 : Nat → Int32) (f2 : Nat → Int32) (f4 : Nat → Int32) (f5 : Nat → Int32) (f6 : Nat → Int32) (f7 : Nat → Int32) (qf : Nat) (qm : Nat) (y19 : Int32) (y73 : Int32) (sz : Nat) (hm : md_has fs [(1, .ref q1), (2, .ref q2), (4, .ref q4), (5, .ref q5), (6, .ref q6), (7, .ref q7), (13, .ref qf), (15, .ref qm), (17, .int 0), (18, .int (-1)), (19, .int y19), (73, .int y73)]) : Met l yX12_read (.code yX12_read cX12_read 4 (some .int) :: bg) ({ frames := 8, cells := 0, slots := 0, locals := 1200 } : Room) (xb_Pre (xe_E g) D vwCl [(m0, .inr (12, fs)), (q1, .inl (a1, 66000, .inl f1)), (q2, .inl (a2, 66000, .inl f2)), (q4, .inl (a4, 24000, .inl f4)), (q5, .inl (a5, 24000, .inl f5)), (q6, .inl (a6, 24000, .inl f6)), (q7, .inl (a7, 4096, .inl f7))] [(a1, .char), (a2, .char), (a4, .int), (a5, .int), (a6, .int), (a7, .int)] sz [.ref m0]) (va_Qi (fun r u => r = 1) (xb_B D vwCl (va_A [(m0, .inr (12, fs)), (q1, .inl (a1, 66000, .inl f1)), (q2, .inl (a2, 66000, .inl f2)), (q4, .inl (a4, 24000, .inl f4)), (q5, .inl (a5, 24000, .inl f5)), (q6, .inl (a6, 24000, .inl f6)), (q7, .inl (a7, 4096, .inl f7))] sz) (fun u : List Value × (Nat → Int32) × (Nat → Int32) × (Nat → Int32) × (Nat → Int32) × (Nat → Int32) × (Nat → Int32) => [(m0, .inr (12, u.1)), (q1, .inl (a1, 66000, .inl u.2.1)), (q2, .inl (a2, 66000, .inl u.2.2.1)), (q4, .inl (a4, 24000, .inl u.2.2.2.1)), (q5, .inl (a5, 24000, .inl u.2.2.2.2.1)), (q6, .inl (a6, 24000, .inl u.2.2.2.2.2.1)), (q7, .inl (a7, 4096, .inl u.2.2.2.2.2.2))]) (fun u : List Value × (Nat → Int32) × (Nat → Int32) × (Nat → Int32) × (Nat → Int32) × (Nat → Int32) × (Nat → Int32) => [(a1, .char), (a2, .char), (a4, .int), (a5, .int), (a6, .int), (a7, .int)])) (va_A [(m0, .inr (12, fs)), (q1, .inl (a1, 66000, .inl f1)), (q2, .inl (a2, 66000, .inl f2)), (q4, .inl (a4, 24000, .inl f4)), (q5, .inl (a5, 24000, .inl f5)), (q6, .inl (a6, 24000, .inl f6)), (q7, .inl (a7, 4096, .inl f7))] sz)) 0 0 (va_A [(m0, .inr (12, fs)), (q1, .inl (a1, 66000, .inl f1)), (q2, .inl (a2, 66000, .inl f2)), (q4, .inl (a4, 24000, .inl f4)), (q5, .inl (a5, 24000, .inl f5)), (q6, .inl (a6, 24000, .inl f6)), (q7, .inl (a7, 4096, .inl f7))] sz) := by
  refine Met.ofW (cc := cX12_read) (maxL := 4) (ret := (some .int)) (by decide) rfl ?_
  intro p e s m args below meth c s₁ B hml hv
  obtain ⟨rfl, hsz, hP, hK, hD0, hE⟩ := hv
  have hx := B.exec
  have hb := B.bytes
  have hr := B.returns
  have hts := atoms_spec (ws := (.code yX12_read cX12_read 4 (some .int) :: bg)) B.pre
  have htb : ∀ w ∈ bg, w.before _ s = true := fun w h => hts w (List.mem_cons_of_mem _ h)
  have hown : s.vm.findClass RX12 = some m.cls := findClass_of_methodNamed B.named
  have hlocks := B.notSynchronized
  subst hsz
  have hD := hD0.self (sz := s.heap.size)
  generalize hAe : va_A [(m0, .inr (12, fs)), (q1, .inl (a1, 66000, .inl f1)), (q2, .inl (a2, 66000, .inl f2)), (q4, .inl (a4, 24000, .inl f4)), (q5, .inl (a5, 24000, .inl f5)), (q6, .inl (a6, 24000, .inl f6)), (q7, .inl (a7, 4096, .inl f7))] s.heap.size = A at hD hE ⊢
  have hA : ∀ q : Nat, s.heap.size ≤ q → A q := fun q h => by rw [← hAe]; exact Or.inr h
  have hS : va_S A s.heap s.heap [] := va_S.rf
  have hP : va_P D vwCl [(m0, .inr (12, fs)), (q1, .inl (a1, 66000, .inl f1)), (q2, .inl (a2, 66000, .inl f2)), (q4, .inl (a4, 24000, .inl f4)), (q5, .inl (a5, 24000, .inl f5)), (q6, .inl (a6, 24000, .inl f6)), (q7, .inl (a7, 4096, .inl f7))] s.heap := hP
  have hl := lv_entry ([.ref m0]) (n := 4) (Nat.le_of_ble_eq_true rfl)
  rw [lg_entry_eq]
  generalize (lg_sl ([.ref m0]) ++ List.replicate (4 - (lg_sl ([.ref m0])).length) Slot.unset).toArray = ls at hl ⊢
  have hl : lv_has ls 4 [(0, .ref m0)] := hl
  refine lv_aload_n hx hb dX12_read_0 rfl (lv_at hl 0 rfl) ?_
  refine lv_iconst (v := 0) hx hb dX12_read_1 (by decide) ?_
  refine va_put (D := D) (ci := 12) (v := .int 0) (ty := tyX12 0) (C := RX12) (T := TX12) (N := 82) hx hb htb bi_X12 tyX12 tyX12_ok nmX12 hown hK hP hD hS 0 rfl rfl 0 (by decide) (htb _ bg_88) (fun _ h9 => h9) rfl (tyX12_ok 0 (by decide)) rfl rfl (by rw [hm.1]; decide) dX12_read_2 (fun H locs hP hD hS => ?_)
  have hP : va_P D vwCl [(m0, .inr (12, (fs.set 0 (.int 0)))), (q1, .inl (a1, 66000, .inl f1)), (q2, .inl (a2, 66000, .inl f2)), (q4, .inl (a4, 24000, .inl f4)), (q5, .inl (a5, 24000, .inl f5)), (q6, .inl (a6, 24000, .inl f6)), (q7, .inl (a7, 4096, .inl f7))] H := hP
  have hD : va_D A [(m0, .inr (12, (fs.set 0 (.int 0)))), (q1, .inl (a1, 66000, .inl f1)), (q2, .inl (a2, 66000, .inl f2)), (q4, .inl (a4, 24000, .inl f4)), (q5, .inl (a5, 24000, .inl f5)), (q6, .inl (a6, 24000, .inl f6)), (q7, .inl (a7, 4096, .inl f7))] := hD
  have hm : md_has (fs.set 0 (.int 0)) [(0, .int 0), (1, .ref q1), (2, .ref q2), (4, .ref q4), (5, .ref q5), (6, .ref q6), (7, .ref q7), (13, .ref qf), (15, .ref qm), (17, .int 0), (18, .int (-1)), (19, .int y19), (73, .int y73)] := md_put hm 0 (.int 0) (by decide) rfl
  generalize (fs.set 0 (.int 0)) = fs at hP hD hm
  refine lv_aload_n hx hb dX12_read_5 rfl (lv_at hl 0 rfl) ?_
  refine lv_aload_n hx hb dX12_read_6 rfl (lv_at hl 0 rfl) ?_
  refine va_get (D := D) (ci := 12) (v := .ref qf) (C := RX12) (T := TX12) (N := 82) hx hb htb bi_X12 hown hK hP 0 rfl rfl 13 (by decide) (htb _ bg_103) (fun _ h9 => h9) (md_at hm 7 rfl) dX12_read_7 ?_
  refine lv_aload_n hx hb dX12_read_10 rfl (lv_at hl 0 rfl) ?_
  refine va_get (D := D) (ci := 12) (v := .int 0) (C := RX12) (T := TX12) (N := 82) hx hb htb bi_X12 hown hK hP 0 rfl rfl 17 (by decide) (htb _ bg_216) (fun _ h9 => h9) (md_at hm 9 rfl) dX12_read_11 ?_
  refine xb_goi (wr := []) (va_runV (As := [.ref qf, .int 0]) (rest := []) ⟨hx, hb, hml, hown, htb⟩ (mm_parse l D g m0 fs q1 q2 q4 q5 q6 q7 a1 a2 a4 a5 a6 a7 f1 f2 f4 f5 f6 f7 qf qm 0 (-1) y19 y73 (Array.size H) (md_sub hm [1, 2, 3, 4, 5, 6, 7, 8, 9, 10, 11, 12] rfl)) (bg_V 2 htb bg_218 bg_220 bg_221 bg_144 bg_219 rfl rfl (by decide +kernel) ⟨Nat.le_of_ble_eq_true rfl, Nat.le_of_ble_eq_true rfl⟩) ⟨xb_blind xe_ok, va_recv hK hP (ci := 12) (q0 := 0) rfl rfl, xb_enter xe_ok hK hP hD hS hA hE [0, 1, 2, 3, 4, 5, 6] rfl rfl rfl [0, 1, 2, 3, 4, 5] rfl⟩ rfl rfl hl.1 rfl (lv_room (Nat.le_of_ble_eq_true rfl)) dX12_read_14 ⟨Nat.le_of_ble_eq_true rfl, Nat.le_of_ble_eq_true rfl⟩) hK hP hD hS hA [0, 1, 2, 3, 4, 5, 6] [] rfl rfl rfl (by decide) (fun r_14 u_14 H locs hw_14 hP hD hK hS => ?_)
  obtain ⟨fs, f1, f2, f4, f5, f6, f7⟩ := u_14
  have hP : va_P D vwCl [(m0, .inr (12, fs)), (q1, .inl (a1, 66000, .inl f1)), (q2, .inl (a2, 66000, .inl f2)), (q4, .inl (a4, 24000, .inl f4)), (q5, .inl (a5, 24000, .inl f5)), (q6, .inl (a6, 24000, .inl f6)), (q7, .inl (a7, 4096, .inl f7))] H := hP
  have hD : va_D A [(m0, .inr (12, fs)), (q1, .inl (a1, 66000, .inl f1)), (q2, .inl (a2, 66000, .inl f2)), (q4, .inl (a4, 24000, .inl f4)), (q5, .inl (a5, 24000, .inl f5)), (q6, .inl (a6, 24000, .inl f6)), (q7, .inl (a7, 4096, .inl f7))] := hD
  have hK : va_K D vwCl [(a1, .char), (a2, .char), (a4, .int), (a5, .int), (a6, .int), (a7, .int), (a1, .char), (a2, .char), (a4, .int), (a5, .int), (a6, .int), (a7, .int)] s := hK
  refine W.widen (k := 0) (n := 0) (by decide) (by decide) ?_
  obtain ⟨hw_14, hm⟩ := hw_14
  have hm : md_has fs _ := hm
  have hw_14 : r_14 = 0 := hw_14
  subst hw_14
  have hK := hK.sub (tys' := [(a1, .char), (a2, .char), (a4, .int), (a5, .int), (a6, .int), (a7, .int)]) [0, 1, 2, 3, 4, 5] rfl
  refine lv_istore_n (lv' := [(1, .int 0), (0, .ref m0)]) hx hb dX12_read_17 rfl hl (by decide) rfl (fun ls hl => ?_)
  refine lv_aload_n hx hb dX12_read_18 rfl (lv_at hl 1 rfl) ?_
  refine lv_iload_n hx hb dX12_read_19 rfl (lv_at hl 0 rfl) ?_
  refine lv_if_eq (tgt := 27) hx hb dX12_read_20 (by decide) (fun c_20 => ?_) (fun c_20 => ?_)
  rotate_left
  · exact absurd (by decide) c_20
  refine lv_aload_n hx hb dX12_read_27 rfl (lv_at hl 1 rfl) ?_
  refine va_get (D := D) (ci := 12) (v := .int 0) (C := RX12) (T := TX12) (N := 82) hx hb htb bi_X12 hown hK hP 0 rfl rfl 48 (by decide) (htb _ bg_172) (fun _ h9 => h9) (md_at hm 13 rfl) dX12_read_28 ?_
  refine va_put (D := D) (ci := 12) (v := .int 0) (ty := tyX12 73) (C := RX12) (T := TX12) (N := 82) hx hb htb bi_X12 tyX12 tyX12_ok nmX12 hown hK hP hD hS 0 rfl rfl 73 (by decide) (htb _ bg_136) (fun _ h9 => h9) rfl (tyX12_ok 73 (by decide)) rfl rfl (by rw [hm.1]; decide) dX12_read_31 (fun H locs hP hD hS => ?_)
  have hP : va_P D vwCl [(m0, .inr (12, (fs.set 73 (.int 0)))), (q1, .inl (a1, 66000, .inl f1)), (q2, .inl (a2, 66000, .inl f2)), (q4, .inl (a4, 24000, .inl f4)), (q5, .inl (a5, 24000, .inl f5)), (q6, .inl (a6, 24000, .inl f6)), (q7, .inl (a7, 4096, .inl f7))] H := hP
  have hD : va_D A [(m0, .inr (12, (fs.set 73 (.int 0)))), (q1, .inl (a1, 66000, .inl f1)), (q2, .inl (a2, 66000, .inl f2)), (q4, .inl (a4, 24000, .inl f4)), (q5, .inl (a5, 24000, .inl f5)), (q6, .inl (a6, 24000, .inl f6)), (q7, .inl (a7, 4096, .inl f7))] := hD
  have hm : md_has (fs.set 73 (.int 0)) [(73, .int 0), (1, .ref q1), (2, .ref q2), (4, .ref q4), (5, .ref q5), (6, .ref q6), (7, .ref q7), (13, .ref qf), (15, .ref qm), (17, .int 0), (18, .int (-1)), (19, .int y19), (47, .int 1), (48, .int 0)] := md_put hm 73 (.int 0) (by decide) rfl
  generalize (fs.set 73 (.int 0)) = fs at hP hD hm
  refine lv_iload_n hx hb dX12_read_34 rfl (lv_at hl 0 rfl) ?_
  refine lv_if_eq (tgt := 42) hx hb dX12_read_35 (by decide) (fun c_35 => ?_) (fun c_35 => ?_)
  rotate_left
  · exact absurd (by decide) c_35
  refine lv_aload_n hx hb dX12_read_42 rfl (lv_at hl 1 rfl) ?_
  refine va_get (D := D) (ci := 12) (v := .int 1) (C := RX12) (T := TX12) (N := 82) hx hb htb bi_X12 hown hK hP 0 rfl rfl 47 (by decide) (htb _ bg_171) (fun _ h9 => h9) (md_at hm 12 rfl) dX12_read_43 ?_
  refine lv_istore_n (lv' := [(2, .int 1), (1, .int 0), (0, .ref m0)]) hx hb dX12_read_46 rfl hl (by decide) rfl (fun ls hl => ?_)
  refine lv_iload_n hx hb dX12_read_47 rfl (lv_at hl 1 rfl) ?_
  refine lv_if_eq (tgt := 90) hx hb dX12_read_48 (by decide) (fun c_48 => ?_) (fun c_48 => ?_)
  rotate_left
  · exact absurd (by decide) c_48
  refine lv_aload_n hx hb dX12_read_90 rfl (lv_at hl 2 rfl) ?_
  refine va_get (D := D) (ci := 12) (v := .int (-1)) (C := RX12) (T := TX12) (N := 82) hx hb htb bi_X12 hown hK hP 0 rfl rfl 18 (by decide) (htb _ bg_106) (fun _ h9 => h9) (md_at hm 10 rfl) dX12_read_91 ?_
  refine lv_if_lt (tgt := 110) hx hb dX12_read_94 (by decide) (fun c_94 => ?_) (fun c_94 => ?_)
  rotate_left
  · exact absurd (by decide) c_94
  refine lv_aload_n hx hb dX12_read_110 rfl (lv_at hl 2 rfl) ?_
  refine lv_iconst (v := (-1)) hx hb dX12_read_111 (by decide) ?_
  refine va_put (D := D) (ci := 12) (v := .int (-1)) (ty := tyX12 74) (C := RX12) (T := TX12) (N := 82) hx hb htb bi_X12 tyX12 tyX12_ok nmX12 hown hK hP hD hS 0 rfl rfl 74 (by decide) (htb _ bg_137) (fun _ h9 => h9) rfl (tyX12_ok 74 (by decide)) rfl rfl (by rw [hm.1]; decide) dX12_read_112 (fun H locs hP hD hS => ?_)
  have hP : va_P D vwCl [(m0, .inr (12, (fs.set 74 (.int (-1))))), (q1, .inl (a1, 66000, .inl f1)), (q2, .inl (a2, 66000, .inl f2)), (q4, .inl (a4, 24000, .inl f4)), (q5, .inl (a5, 24000, .inl f5)), (q6, .inl (a6, 24000, .inl f6)), (q7, .inl (a7, 4096, .inl f7))] H := hP
  have hD : va_D A [(m0, .inr (12, (fs.set 74 (.int (-1))))), (q1, .inl (a1, 66000, .inl f1)), (q2, .inl (a2, 66000, .inl f2)), (q4, .inl (a4, 24000, .inl f4)), (q5, .inl (a5, 24000, .inl f5)), (q6, .inl (a6, 24000, .inl f6)), (q7, .inl (a7, 4096, .inl f7))] := hD
  have hm : md_has (fs.set 74 (.int (-1))) [(73, .int 0), (1, .ref q1), (2, .ref q2), (4, .ref q4), (5, .ref q5), (6, .ref q6), (7, .ref q7), (13, .ref qf), (15, .ref qm), (17, .int 0), (18, .int (-1)), (19, .int y19), (47, .int 1), (48, .int 0)] := md_putD hm 74 (.int (-1)) (by decide) rfl
  generalize (fs.set 74 (.int (-1))) = fs at hP hD hm
  refine lv_aload_n hx hb dX12_read_115 rfl (lv_at hl 2 rfl) ?_
  refine lv_iconst (v := 0) hx hb dX12_read_116 (by decide) ?_
  refine va_put (D := D) (ci := 12) (v := .int 0) (ty := tyX12 17) (C := RX12) (T := TX12) (N := 82) hx hb htb bi_X12 tyX12 tyX12_ok nmX12 hown hK hP hD hS 0 rfl rfl 17 (by decide) (htb _ bg_216) (fun _ h9 => h9) rfl (tyX12_ok 17 (by decide)) rfl rfl (by rw [hm.1]; decide) dX12_read_117 (fun H locs hP hD hS => ?_)
  have hP : va_P D vwCl [(m0, .inr (12, (fs.set 17 (.int 0)))), (q1, .inl (a1, 66000, .inl f1)), (q2, .inl (a2, 66000, .inl f2)), (q4, .inl (a4, 24000, .inl f4)), (q5, .inl (a5, 24000, .inl f5)), (q6, .inl (a6, 24000, .inl f6)), (q7, .inl (a7, 4096, .inl f7))] H := hP
  have hD : va_D A [(m0, .inr (12, (fs.set 17 (.int 0)))), (q1, .inl (a1, 66000, .inl f1)), (q2, .inl (a2, 66000, .inl f2)), (q4, .inl (a4, 24000, .inl f4)), (q5, .inl (a5, 24000, .inl f5)), (q6, .inl (a6, 24000, .inl f6)), (q7, .inl (a7, 4096, .inl f7))] := hD
  have hm : md_has (fs.set 17 (.int 0)) [(17, .int 0), (73, .int 0), (1, .ref q1), (2, .ref q2), (4, .ref q4), (5, .ref q5), (6, .ref q6), (7, .ref q7), (13, .ref qf), (15, .ref qm), (18, .int (-1)), (19, .int y19), (47, .int 1), (48, .int 0)] := md_put hm 17 (.int 0) (by decide) rfl
  generalize (fs.set 17 (.int 0)) = fs at hP hD hm
  refine lv_iload_n hx hb dX12_read_120 rfl (lv_at hl 0 rfl) ?_
  have hP9 := hP.sub (ws' := [(m0, .inr (12, fs)), (q1, .inl (a1, 66000, .inl f1)), (q2, .inl (a2, 66000, .inl f2)), (q4, .inl (a4, 24000, .inl f4)), (q5, .inl (a5, 24000, .inl f5)), (q6, .inl (a6, 24000, .inl f6)), (q7, .inl (a7, 4096, .inl f7))]) [0, 1, 2, 3, 4, 5, 6] rfl
  have hD9 := hD.sub (ws' := [(m0, .inr (12, fs)), (q1, .inl (a1, 66000, .inl f1)), (q2, .inl (a2, 66000, .inl f2)), (q4, .inl (a4, 24000, .inl f4)), (q5, .inl (a5, 24000, .inl f5)), (q6, .inl (a6, 24000, .inl f6)), (q7, .inl (a7, 4096, .inl f7))]) [0, 1, 2, 3, 4, 5, 6] rfl rfl
  have hK9 := hK.sub (tys' := [(a1, .char), (a2, .char), (a4, .int), (a5, .int), (a6, .int), (a7, .int)]) [0, 1, 2, 3, 4, 5] rfl
  exact W.iret (v := 1) hx hb hr (fun t ht hW => ⟨⟨1, (fs, f1, f2, f4, f5, f6, f7), rfl, rfl, by rw [ht]; exact hP9, va_K.moved hW.alike hK9, hD9⟩, hS.F ht⟩) hS.2.2 dX12_read_121
