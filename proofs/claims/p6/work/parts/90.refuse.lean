/-! the class refuses (laid by wip/p2/c90.py) -/
theorem dq_end_0 : decode cX11_end 0 = .ok (.iload_n 1, 1) := by decide +kernel
theorem dq_end_1 : decode cX11_end 1 = .ok (.ifCond .lt 11, 3) := by decide +kernel
theorem dq_end_4 : decode cX11_end 4 = .ok (.iload_n 1, 1) := by decide +kernel
theorem dq_end_5 : decode cX11_end 5 = .ok (.aload_n 0, 1) := by decide +kernel
theorem dq_end_6 : decode cX11_end 6 = .ok (.getfield 23, 3) := by decide +kernel
theorem dq_end_9 : decode cX11_end 9 = .ok (.if_icmp .le 13, 3) := by decide +kernel
theorem dq_end_12 : decode cX11_end 12 = .ok (.new 44, 3) := by decide +kernel
theorem dq_end_15 : decode cX11_end 15 = .ok (.dup, 1) := by decide +kernel
theorem dq_end_16 : decode cX11_end 16 = .ok (.ldc 46, 2) := by decide +kernel
theorem dq_end_18 : decode cX11_end 18 = .ok (.invokespecial 48, 3) := by decide +kernel
theorem dq_end_21 : decode cX11_end 21 = .ok (.athrow, 1) := by decide +kernel
set_option maxHeartbeats 4000000 in
set_option maxRecDepth 100000 in
theorem cx_end (l : Launch) (D : va_G) (g : xe_G) {M : mi_H} {x : Nat} {x1 : Int32} {cc : Nat} {F : Nat → Option Value} (hx0 : M.1 x = some (.inr (11, F))) (hF1 : F 1 = some (.int (nI cc))) (hnt : l.stackTraces = false) (hbad : x1 < 0 ∨ ¬ x1 ≤ nI cc) : vx_Met l yX11_end (.code yX11_end cX11_end 2 (some .int) :: bg) ({ frames := 8, cells := 1, slots := 6, locals := 600 } : Room) (mi_Pre g D M [.ref x, .int x1]) (fun _ _ _ _ => False) (cx_X g D M) 1 6 (mi_A g M) := by
  refine vx_ofW (cc := cX11_end) (maxL := 2) (ret := (some .int)) (by decide) rfl ?_
  intro p e s m args below meth c s₁ B hml hemp hv
  obtain ⟨rfl, ws, tys, hr0, hE⟩ := hv
  have hx := B.exec
  have hb := B.bytes
  have hts := atoms_spec (ws := (.code yX11_end cX11_end 2 (some .int) :: bg)) B.pre
  have htb : ∀ w ∈ bg, w.before _ s = true := fun w h => hts w (List.mem_cons_of_mem _ h)
  have hown : s.vm.findClass RX11 = some m.cls := findClass_of_methodNamed B.named
  have hlocks := B.notSynchronized
  have hr := hr0.self
  have hS : va_S (mi_A g M) s.heap s.heap [] := va_S.rf
  have hl := lv_entry ([.ref x, .int x1]) (n := 2) (Nat.le_of_ble_eq_true rfl)
  rw [lg_entry_eq]
  generalize (lg_sl ([.ref x, .int x1]) ++ List.replicate (2 - (lg_sl ([.ref x, .int x1])).length) Slot.unset).toArray = ls at hl ⊢
  have hl : lv_has ls 2 [(0, .ref x), (1, .int x1)] := hl
  have hT := vx_throwS (e := e) (Qc := fun _ _ _ _ => False) (XC := cx_X g D M) (mc := 1) (ms := 6) (free := mi_A g M) (below := below) (rest := []) (R := ({ frames := 8, cells := 1, slots := 6, locals := 600 } : Room)) (cells := 0) (slots := 0) (args := ([.ref x, .int x1] : List Value).toArray) (A := mi_A g M) hx hb hnt hown (by decide) (by decide) (htb _ bg_780) (htb _ bg_781) (hE.2.2.2.2.2.2.1 31 (by decide)).1 (xe_hat hE htb) xe_ot hE.2.2.2.2.1 hE.2.2.2.2.2.1 hS (by rw [hml]; exact hl.1) dq_end_12 dq_end_15 dq_end_16 dq_end_18 dq_end_21 (fun x hx => (hemp x hx).elim) (Nat.le_of_ble_eq_true rfl) (Nat.le_of_ble_eq_true rfl) (Nat.le_of_ble_eq_true rfl) (Nat.le_of_ble_eq_true rfl) hlocks (fun t hvm hz hk => ⟨⟨rfl, ws, tys, (mi_rel.frame hr (fun a ha => hk a (hr.lt ha).1)).vm hvm⟩, hz, fun q hq _ => hk q hq⟩) hS.2.2 (by decide) (by decide)
  refine lv_iload_n hx hb dq_end_0 rfl (lv_at hl 1 rfl) ?_
  refine lv_if_lt (tgt := 12) hx hb dq_end_1 (by decide) (fun _ => hT) (fun c1 => ?_)
  refine lv_iload_n hx hb dq_end_4 rfl (lv_at hl 1 rfl) ?_
  refine lv_aload_n hx hb dq_end_5 rfl (lv_at hl 0 rfl) ?_
  obtain ⟨q0, fs, hq0, -, hfs, -⟩ := mi_obj hr (show 11 < 100 by decide) hx0
  refine va_get (D := D) (ci := 11) (v := .int (nI cc)) (C := RX11) (T := TX11) (N := 5) hx hb htb bi_X11 hown hr.1 hr.2.1 q0 hq0 rfl 1 (by decide) (htb _ bg_766) (fun _ h9 => h9) (hfs 1 _ hF1) dq_end_6 ?_
  refine lv_icmp_le (tgt := 22) hx hb dq_end_9 (by decide) (fun c2 => ?_) (fun _ => hT)
  exact (hbad.elim c1 (fun h => h c2)).elim
theorem dq_count_0 : decode cX11_count 0 = .ok (.iload_n 1, 1) := by decide +kernel
theorem dq_count_1 : decode cX11_count 1 = .ok (.ifCond .lt 9, 3) := by decide +kernel
theorem dq_count_4 : decode cX11_count 4 = .ok (.iload_n 1, 1) := by decide +kernel
theorem dq_count_5 : decode cX11_count 5 = .ok (.bipush 15, 2) := by decide +kernel
theorem dq_count_7 : decode cX11_count 7 = .ok (.if_icmp .le 13, 3) := by decide +kernel
theorem dq_count_10 : decode cX11_count 10 = .ok (.new 44, 3) := by decide +kernel
theorem dq_count_13 : decode cX11_count 13 = .ok (.dup, 1) := by decide +kernel
theorem dq_count_14 : decode cX11_count 14 = .ok (.ldc 148, 2) := by decide +kernel
theorem dq_count_16 : decode cX11_count 16 = .ok (.invokespecial 48, 3) := by decide +kernel
theorem dq_count_19 : decode cX11_count 19 = .ok (.athrow, 1) := by decide +kernel
set_option maxHeartbeats 4000000 in
set_option maxRecDepth 100000 in
theorem cx_count (l : Launch) (D : va_G) (g : xe_G) {M : mi_H} {x : Nat} {x1 : Int32} (hnt : l.stackTraces = false) (hbad : x1 < 0 ∨ ¬ x1 ≤ 15) : vx_Met l yX11_count (.code yX11_count cX11_count 2 (some .int) :: bg) ({ frames := 8, cells := 1, slots := 6, locals := 600 } : Room) (mi_Pre g D M [.ref x, .int x1]) (fun _ _ _ _ => False) (cx_X g D M) 1 6 (mi_A g M) := by
  refine vx_ofW (cc := cX11_count) (maxL := 2) (ret := (some .int)) (by decide) rfl ?_
  intro p e s m args below meth c s₁ B hml hemp hv
  obtain ⟨rfl, ws, tys, hr0, hE⟩ := hv
  have hx := B.exec
  have hb := B.bytes
  have hts := atoms_spec (ws := (.code yX11_count cX11_count 2 (some .int) :: bg)) B.pre
  have htb : ∀ w ∈ bg, w.before _ s = true := fun w h => hts w (List.mem_cons_of_mem _ h)
  have hown : s.vm.findClass RX11 = some m.cls := findClass_of_methodNamed B.named
  have hlocks := B.notSynchronized
  have hr := hr0.self
  have hS : va_S (mi_A g M) s.heap s.heap [] := va_S.rf
  have hl := lv_entry ([.ref x, .int x1]) (n := 2) (Nat.le_of_ble_eq_true rfl)
  rw [lg_entry_eq]
  generalize (lg_sl ([.ref x, .int x1]) ++ List.replicate (2 - (lg_sl ([.ref x, .int x1])).length) Slot.unset).toArray = ls at hl ⊢
  have hl : lv_has ls 2 [(0, .ref x), (1, .int x1)] := hl
  have hT := vx_throwS (e := e) (Qc := fun _ _ _ _ => False) (XC := cx_X g D M) (mc := 1) (ms := 6) (free := mi_A g M) (below := below) (rest := []) (R := ({ frames := 8, cells := 1, slots := 6, locals := 600 } : Room)) (cells := 0) (slots := 0) (args := ([.ref x, .int x1] : List Value).toArray) (A := mi_A g M) hx hb hnt hown (by decide) (by decide) (htb _ bg_780) (htb _ bg_781) (hE.2.2.2.2.2.2.1 32 (by decide)).1 (xe_hat hE htb) xe_ot hE.2.2.2.2.1 hE.2.2.2.2.2.1 hS (by rw [hml]; exact hl.1) dq_count_10 dq_count_13 dq_count_14 dq_count_16 dq_count_19 (fun x hx => (hemp x hx).elim) (Nat.le_of_ble_eq_true rfl) (Nat.le_of_ble_eq_true rfl) (Nat.le_of_ble_eq_true rfl) (Nat.le_of_ble_eq_true rfl) hlocks (fun t hvm hz hk => ⟨⟨rfl, ws, tys, (mi_rel.frame hr (fun a ha => hk a (hr.lt ha).1)).vm hvm⟩, hz, fun q hq _ => hk q hq⟩) hS.2.2 (by decide) (by decide)
  refine lv_iload_n hx hb dq_count_0 rfl (lv_at hl 1 rfl) ?_
  refine lv_if_lt (tgt := 10) hx hb dq_count_1 (by decide) (fun _ => hT) (fun c1 => ?_)
  refine lv_iload_n hx hb dq_count_4 rfl (lv_at hl 1 rfl) ?_
  refine lv_bipush (v := 15) hx hb dq_count_5 (by decide) ?_
  refine lv_icmp_le (tgt := 20) hx hb dq_count_7 (by decide) (fun c2 => ?_) (fun _ => hT)
  exact (hbad.elim c1 (fun h => h c2)).elim
theorem dq_entry_0 : decode cX11_entry 0 = .ok (.iload_n 2, 1) := by decide +kernel
theorem dq_entry_1 : decode cX11_entry 1 = .ok (.ifCond .lt 8, 3) := by decide +kernel
theorem dq_entry_4 : decode cX11_entry 4 = .ok (.iload_n 2, 1) := by decide +kernel
theorem dq_entry_5 : decode cX11_entry 5 = .ok (.iconst 2, 1) := by decide +kernel
theorem dq_entry_6 : decode cX11_entry 6 = .ok (.if_icmp .le 13, 3) := by decide +kernel
theorem dq_entry_9 : decode cX11_entry 9 = .ok (.new 44, 3) := by decide +kernel
theorem dq_entry_12 : decode cX11_entry 12 = .ok (.dup, 1) := by decide +kernel
theorem dq_entry_13 : decode cX11_entry 13 = .ok (.ldc 154, 2) := by decide +kernel
theorem dq_entry_15 : decode cX11_entry 15 = .ok (.invokespecial 48, 3) := by decide +kernel
theorem dq_entry_18 : decode cX11_entry 18 = .ok (.athrow, 1) := by decide +kernel
set_option maxHeartbeats 4000000 in
set_option maxRecDepth 100000 in
theorem cx_entry (l : Launch) (D : va_G) (g : xe_G) {M : mi_H} {x : Nat} {x1 x2 : Int32} (hnt : l.stackTraces = false) (hbad : x2 < 0 ∨ ¬ x2 ≤ 2) : vx_Met l yX11_entry (.code yX11_entry cX11_entry 3 (some .int) :: bg) ({ frames := 8, cells := 1, slots := 6, locals := 600 } : Room) (mi_Pre g D M [.ref x, .int x1, .int x2]) (fun _ _ _ _ => False) (cx_X g D M) 1 6 (mi_A g M) := by
  refine vx_ofW (cc := cX11_entry) (maxL := 3) (ret := (some .int)) (by decide) rfl ?_
  intro p e s m args below meth c s₁ B hml hemp hv
  obtain ⟨rfl, ws, tys, hr0, hE⟩ := hv
  have hx := B.exec
  have hb := B.bytes
  have hts := atoms_spec (ws := (.code yX11_entry cX11_entry 3 (some .int) :: bg)) B.pre
  have htb : ∀ w ∈ bg, w.before _ s = true := fun w h => hts w (List.mem_cons_of_mem _ h)
  have hown : s.vm.findClass RX11 = some m.cls := findClass_of_methodNamed B.named
  have hlocks := B.notSynchronized
  have hr := hr0.self
  have hS : va_S (mi_A g M) s.heap s.heap [] := va_S.rf
  have hl := lv_entry ([.ref x, .int x1, .int x2]) (n := 3) (Nat.le_of_ble_eq_true rfl)
  rw [lg_entry_eq]
  generalize (lg_sl ([.ref x, .int x1, .int x2]) ++ List.replicate (3 - (lg_sl ([.ref x, .int x1, .int x2])).length) Slot.unset).toArray = ls at hl ⊢
  have hl : lv_has ls 3 [(0, .ref x), (1, .int x1), (2, .int x2)] := hl
  have hT := vx_throwS (e := e) (Qc := fun _ _ _ _ => False) (XC := cx_X g D M) (mc := 1) (ms := 6) (free := mi_A g M) (below := below) (rest := []) (R := ({ frames := 8, cells := 1, slots := 6, locals := 600 } : Room)) (cells := 0) (slots := 0) (args := ([.ref x, .int x1, .int x2] : List Value).toArray) (A := mi_A g M) hx hb hnt hown (by decide) (by decide) (htb _ bg_780) (htb _ bg_781) (hE.2.2.2.2.2.2.1 33 (by decide)).1 (xe_hat hE htb) xe_ot hE.2.2.2.2.1 hE.2.2.2.2.2.1 hS (by rw [hml]; exact hl.1) dq_entry_9 dq_entry_12 dq_entry_13 dq_entry_15 dq_entry_18 (fun x hx => (hemp x hx).elim) (Nat.le_of_ble_eq_true rfl) (Nat.le_of_ble_eq_true rfl) (Nat.le_of_ble_eq_true rfl) (Nat.le_of_ble_eq_true rfl) hlocks (fun t hvm hz hk => ⟨⟨rfl, ws, tys, (mi_rel.frame hr (fun a ha => hk a (hr.lt ha).1)).vm hvm⟩, hz, fun q hq _ => hk q hq⟩) hS.2.2 (by decide) (by decide)
  refine lv_iload_n hx hb dq_entry_0 rfl (lv_at hl 2 rfl) ?_
  refine lv_if_lt (tgt := 9) hx hb dq_entry_1 (by decide) (fun _ => hT) (fun c1 => ?_)
  refine lv_iload_n hx hb dq_entry_4 rfl (lv_at hl 2 rfl) ?_
  refine lv_iconst (v := 2) hx hb dq_entry_5 (by decide) ?_
  refine lv_icmp_le (tgt := 19) hx hb dq_entry_6 (by decide) (fun c2 => ?_) (fun _ => hT)
  exact (hbad.elim c1 (fun h => h c2)).elim
theorem dq_member_0 : decode cX11_member 0 = .ok (.iload_n 3, 1) := by decide +kernel
theorem dq_member_1 : decode cX11_member 1 = .ok (.ifCond .lt 9, 3) := by decide +kernel
theorem dq_member_4 : decode cX11_member 4 = .ok (.iload_n 3, 1) := by decide +kernel
theorem dq_member_5 : decode cX11_member 5 = .ok (.bipush 9, 2) := by decide +kernel
theorem dq_member_7 : decode cX11_member 7 = .ok (.if_icmp .le 13, 3) := by decide +kernel
theorem dq_member_10 : decode cX11_member 10 = .ok (.new 44, 3) := by decide +kernel
theorem dq_member_13 : decode cX11_member 13 = .ok (.dup, 1) := by decide +kernel
theorem dq_member_14 : decode cX11_member 14 = .ok (.ldc 187, 2) := by decide +kernel
theorem dq_member_16 : decode cX11_member 16 = .ok (.invokespecial 48, 3) := by decide +kernel
theorem dq_member_19 : decode cX11_member 19 = .ok (.athrow, 1) := by decide +kernel
set_option maxHeartbeats 4000000 in
set_option maxRecDepth 100000 in
theorem cx_member (l : Launch) (D : va_G) (g : xe_G) {M : mi_H} {x : Nat} {x1 x2 x3 : Int32} (hnt : l.stackTraces = false) (hbad : x3 < 0 ∨ ¬ x3 ≤ 9) : vx_Met l yX11_member (.code yX11_member cX11_member 5 (some .int) :: bg) ({ frames := 8, cells := 1, slots := 6, locals := 600 } : Room) (mi_Pre g D M [.ref x, .int x1, .int x2, .int x3]) (fun _ _ _ _ => False) (cx_X g D M) 1 6 (mi_A g M) := by
  refine vx_ofW (cc := cX11_member) (maxL := 5) (ret := (some .int)) (by decide) rfl ?_
  intro p e s m args below meth c s₁ B hml hemp hv
  obtain ⟨rfl, ws, tys, hr0, hE⟩ := hv
  have hx := B.exec
  have hb := B.bytes
  have hts := atoms_spec (ws := (.code yX11_member cX11_member 5 (some .int) :: bg)) B.pre
  have htb : ∀ w ∈ bg, w.before _ s = true := fun w h => hts w (List.mem_cons_of_mem _ h)
  have hown : s.vm.findClass RX11 = some m.cls := findClass_of_methodNamed B.named
  have hlocks := B.notSynchronized
  have hr := hr0.self
  have hS : va_S (mi_A g M) s.heap s.heap [] := va_S.rf
  have hl := lv_entry ([.ref x, .int x1, .int x2, .int x3]) (n := 5) (Nat.le_of_ble_eq_true rfl)
  rw [lg_entry_eq]
  generalize (lg_sl ([.ref x, .int x1, .int x2, .int x3]) ++ List.replicate (5 - (lg_sl ([.ref x, .int x1, .int x2, .int x3])).length) Slot.unset).toArray = ls at hl ⊢
  have hl : lv_has ls 5 [(0, .ref x), (1, .int x1), (2, .int x2), (3, .int x3)] := hl
  have hT := vx_throwS (e := e) (Qc := fun _ _ _ _ => False) (XC := cx_X g D M) (mc := 1) (ms := 6) (free := mi_A g M) (below := below) (rest := []) (R := ({ frames := 8, cells := 1, slots := 6, locals := 600 } : Room)) (cells := 0) (slots := 0) (args := ([.ref x, .int x1, .int x2, .int x3] : List Value).toArray) (A := mi_A g M) hx hb hnt hown (by decide) (by decide) (htb _ bg_780) (htb _ bg_781) (hE.2.2.2.2.2.2.1 34 (by decide)).1 (xe_hat hE htb) xe_ot hE.2.2.2.2.1 hE.2.2.2.2.2.1 hS (by rw [hml]; exact hl.1) dq_member_10 dq_member_13 dq_member_14 dq_member_16 dq_member_19 (fun x hx => (hemp x hx).elim) (Nat.le_of_ble_eq_true rfl) (Nat.le_of_ble_eq_true rfl) (Nat.le_of_ble_eq_true rfl) (Nat.le_of_ble_eq_true rfl) hlocks (fun t hvm hz hk => ⟨⟨rfl, ws, tys, (mi_rel.frame hr (fun a ha => hk a (hr.lt ha).1)).vm hvm⟩, hz, fun q hq _ => hk q hq⟩) hS.2.2 (by decide) (by decide)
  refine lv_iload_n hx hb dq_member_0 rfl (lv_at hl 3 rfl) ?_
  refine lv_if_lt (tgt := 10) hx hb dq_member_1 (by decide) (fun _ => hT) (fun c1 => ?_)
  refine lv_iload_n hx hb dq_member_4 rfl (lv_at hl 3 rfl) ?_
  refine lv_bipush (v := 9) hx hb dq_member_5 (by decide) ?_
  refine lv_icmp_le (tgt := 20) hx hb dq_member_7 (by decide) (fun c2 => ?_) (fun _ => hT)
  exact (hbad.elim c1 (fun h => h c2)).elim
theorem dq_row_0 : decode cX11_row 0 = .ok (.iload_n 3, 1) := by decide +kernel
theorem dq_row_1 : decode cX11_row 1 = .ok (.ifCond .lt 8, 3) := by decide +kernel
theorem dq_row_4 : decode cX11_row 4 = .ok (.iload_n 3, 1) := by decide +kernel
theorem dq_row_5 : decode cX11_row 5 = .ok (.iconst 3, 1) := by decide +kernel
theorem dq_row_6 : decode cX11_row 6 = .ok (.if_icmp .le 13, 3) := by decide +kernel
theorem dq_row_9 : decode cX11_row 9 = .ok (.new 44, 3) := by decide +kernel
theorem dq_row_12 : decode cX11_row 12 = .ok (.dup, 1) := by decide +kernel
theorem dq_row_13 : decode cX11_row 13 = .ok (.ldc 209, 2) := by decide +kernel
theorem dq_row_15 : decode cX11_row 15 = .ok (.invokespecial 48, 3) := by decide +kernel
theorem dq_row_18 : decode cX11_row 18 = .ok (.athrow, 1) := by decide +kernel
set_option maxHeartbeats 4000000 in
set_option maxRecDepth 100000 in
theorem cx_row (l : Launch) (D : va_G) (g : xe_G) {M : mi_H} {x : Nat} {x1 x2 x3 : Int32} (hnt : l.stackTraces = false) (hbad : x3 < 0 ∨ ¬ x3 ≤ 3) : vx_Met l yX11_row (.code yX11_row cX11_row 5 (some .int) :: bg) ({ frames := 8, cells := 1, slots := 6, locals := 600 } : Room) (mi_Pre g D M [.ref x, .int x1, .int x2, .int x3]) (fun _ _ _ _ => False) (cx_X g D M) 1 6 (mi_A g M) := by
  refine vx_ofW (cc := cX11_row) (maxL := 5) (ret := (some .int)) (by decide) rfl ?_
  intro p e s m args below meth c s₁ B hml hemp hv
  obtain ⟨rfl, ws, tys, hr0, hE⟩ := hv
  have hx := B.exec
  have hb := B.bytes
  have hts := atoms_spec (ws := (.code yX11_row cX11_row 5 (some .int) :: bg)) B.pre
  have htb : ∀ w ∈ bg, w.before _ s = true := fun w h => hts w (List.mem_cons_of_mem _ h)
  have hown : s.vm.findClass RX11 = some m.cls := findClass_of_methodNamed B.named
  have hlocks := B.notSynchronized
  have hr := hr0.self
  have hS : va_S (mi_A g M) s.heap s.heap [] := va_S.rf
  have hl := lv_entry ([.ref x, .int x1, .int x2, .int x3]) (n := 5) (Nat.le_of_ble_eq_true rfl)
  rw [lg_entry_eq]
  generalize (lg_sl ([.ref x, .int x1, .int x2, .int x3]) ++ List.replicate (5 - (lg_sl ([.ref x, .int x1, .int x2, .int x3])).length) Slot.unset).toArray = ls at hl ⊢
  have hl : lv_has ls 5 [(0, .ref x), (1, .int x1), (2, .int x2), (3, .int x3)] := hl
  have hT := vx_throwS (e := e) (Qc := fun _ _ _ _ => False) (XC := cx_X g D M) (mc := 1) (ms := 6) (free := mi_A g M) (below := below) (rest := []) (R := ({ frames := 8, cells := 1, slots := 6, locals := 600 } : Room)) (cells := 0) (slots := 0) (args := ([.ref x, .int x1, .int x2, .int x3] : List Value).toArray) (A := mi_A g M) hx hb hnt hown (by decide) (by decide) (htb _ bg_780) (htb _ bg_781) (hE.2.2.2.2.2.2.1 35 (by decide)).1 (xe_hat hE htb) xe_ot hE.2.2.2.2.1 hE.2.2.2.2.2.1 hS (by rw [hml]; exact hl.1) dq_row_9 dq_row_12 dq_row_13 dq_row_15 dq_row_18 (fun x hx => (hemp x hx).elim) (Nat.le_of_ble_eq_true rfl) (Nat.le_of_ble_eq_true rfl) (Nat.le_of_ble_eq_true rfl) (Nat.le_of_ble_eq_true rfl) hlocks (fun t hvm hz hk => ⟨⟨rfl, ws, tys, (mi_rel.frame hr (fun a ha => hk a (hr.lt ha).1)).vm hvm⟩, hz, fun q hq _ => hk q hq⟩) hS.2.2 (by decide) (by decide)
  refine lv_iload_n hx hb dq_row_0 rfl (lv_at hl 3 rfl) ?_
  refine lv_if_lt (tgt := 9) hx hb dq_row_1 (by decide) (fun _ => hT) (fun c1 => ?_)
  refine lv_iload_n hx hb dq_row_4 rfl (lv_at hl 3 rfl) ?_
  refine lv_iconst (v := 3) hx hb dq_row_5 (by decide) ?_
  refine lv_icmp_le (tgt := 19) hx hb dq_row_6 (by decide) (fun c2 => ?_) (fun _ => hT)
  exact (hbad.elim c1 (fun h => h c2)).elim
theorem dq_instruction_0 : decode cX11_instruction 0 = .ok (.iload_n 3, 1) := by decide +kernel
theorem dq_instruction_1 : decode cX11_instruction 1 = .ok (.ifCond .lt 8, 3) := by decide +kernel
theorem dq_instruction_4 : decode cX11_instruction 4 = .ok (.iload_n 3, 1) := by decide +kernel
theorem dq_instruction_5 : decode cX11_instruction 5 = .ok (.iconst 4, 1) := by decide +kernel
theorem dq_instruction_6 : decode cX11_instruction 6 = .ok (.if_icmp .le 13, 3) := by decide +kernel
theorem dq_instruction_9 : decode cX11_instruction 9 = .ok (.new 44, 3) := by decide +kernel
theorem dq_instruction_12 : decode cX11_instruction 12 = .ok (.dup, 1) := by decide +kernel
theorem dq_instruction_13 : decode cX11_instruction 13 = .ok (.ldc 237, 2) := by decide +kernel
theorem dq_instruction_15 : decode cX11_instruction 15 = .ok (.invokespecial 48, 3) := by decide +kernel
theorem dq_instruction_18 : decode cX11_instruction 18 = .ok (.athrow, 1) := by decide +kernel
set_option maxHeartbeats 4000000 in
set_option maxRecDepth 100000 in
theorem cx_instruction (l : Launch) (D : va_G) (g : xe_G) {M : mi_H} {x : Nat} {x1 x2 x3 : Int32} (hnt : l.stackTraces = false) (hbad : x3 < 0 ∨ ¬ x3 ≤ 4) : vx_Met l yX11_instruction (.code yX11_instruction cX11_instruction 5 (some .int) :: bg) ({ frames := 8, cells := 1, slots := 6, locals := 600 } : Room) (mi_Pre g D M [.ref x, .int x1, .int x2, .int x3]) (fun _ _ _ _ => False) (cx_X g D M) 1 6 (mi_A g M) := by
  refine vx_ofW (cc := cX11_instruction) (maxL := 5) (ret := (some .int)) (by decide) rfl ?_
  intro p e s m args below meth c s₁ B hml hemp hv
  obtain ⟨rfl, ws, tys, hr0, hE⟩ := hv
  have hx := B.exec
  have hb := B.bytes
  have hts := atoms_spec (ws := (.code yX11_instruction cX11_instruction 5 (some .int) :: bg)) B.pre
  have htb : ∀ w ∈ bg, w.before _ s = true := fun w h => hts w (List.mem_cons_of_mem _ h)
  have hown : s.vm.findClass RX11 = some m.cls := findClass_of_methodNamed B.named
  have hlocks := B.notSynchronized
  have hr := hr0.self
  have hS : va_S (mi_A g M) s.heap s.heap [] := va_S.rf
  have hl := lv_entry ([.ref x, .int x1, .int x2, .int x3]) (n := 5) (Nat.le_of_ble_eq_true rfl)
  rw [lg_entry_eq]
  generalize (lg_sl ([.ref x, .int x1, .int x2, .int x3]) ++ List.replicate (5 - (lg_sl ([.ref x, .int x1, .int x2, .int x3])).length) Slot.unset).toArray = ls at hl ⊢
  have hl : lv_has ls 5 [(0, .ref x), (1, .int x1), (2, .int x2), (3, .int x3)] := hl
  have hT := vx_throwS (e := e) (Qc := fun _ _ _ _ => False) (XC := cx_X g D M) (mc := 1) (ms := 6) (free := mi_A g M) (below := below) (rest := []) (R := ({ frames := 8, cells := 1, slots := 6, locals := 600 } : Room)) (cells := 0) (slots := 0) (args := ([.ref x, .int x1, .int x2, .int x3] : List Value).toArray) (A := mi_A g M) hx hb hnt hown (by decide) (by decide) (htb _ bg_780) (htb _ bg_781) (hE.2.2.2.2.2.2.1 36 (by decide)).1 (xe_hat hE htb) xe_ot hE.2.2.2.2.1 hE.2.2.2.2.2.1 hS (by rw [hml]; exact hl.1) dq_instruction_9 dq_instruction_12 dq_instruction_13 dq_instruction_15 dq_instruction_18 (fun x hx => (hemp x hx).elim) (Nat.le_of_ble_eq_true rfl) (Nat.le_of_ble_eq_true rfl) (Nat.le_of_ble_eq_true rfl) (Nat.le_of_ble_eq_true rfl) hlocks (fun t hvm hz hk => ⟨⟨rfl, ws, tys, (mi_rel.frame hr (fun a ha => hk a (hr.lt ha).1)).vm hvm⟩, hz, fun q hq _ => hk q hq⟩) hS.2.2 (by decide) (by decide)
  refine lv_iload_n hx hb dq_instruction_0 rfl (lv_at hl 3 rfl) ?_
  refine lv_if_lt (tgt := 9) hx hb dq_instruction_1 (by decide) (fun _ => hT) (fun c1 => ?_)
  refine lv_iload_n hx hb dq_instruction_4 rfl (lv_at hl 3 rfl) ?_
  refine lv_iconst (v := 4) hx hb dq_instruction_5 (by decide) ?_
  refine lv_icmp_le (tgt := 19) hx hb dq_instruction_6 (by decide) (fun c2 => ?_) (fun _ => hT)
  exact (hbad.elim c1 (fun h => h c2)).elim
