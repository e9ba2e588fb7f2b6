/-! the law's helpers (laid by wip/p2/c90.py) -/
theorem dh_feed_0 : decode cL_feed 0 = .ok (.aload 6, 2) := by decide +kernel
theorem dh_feed_2 : decode cL_feed 2 = .ok (.iconst 0, 1) := by decide +kernel
theorem dh_feed_3 : decode cL_feed 3 = .ok (.aload_n 0, 1) := by decide +kernel
theorem dh_feed_4 : decode cL_feed 4 = .ok (.iload_n 1, 1) := by decide +kernel
theorem dh_feed_5 : decode cL_feed 5 = .ok (.iload_n 2, 1) := by decide +kernel
theorem dh_feed_6 : decode cL_feed 6 = .ok (.iload_n 3, 1) := by decide +kernel
theorem dh_feed_7 : decode cL_feed 7 = .ok (.iload 4, 2) := by decide +kernel
theorem dh_feed_9 : decode cL_feed 9 = .ok (.iload 5, 2) := by decide +kernel
theorem dh_feed_11 : decode cL_feed 11 = .ok (.invokevirtual 7, 3) := by decide +kernel
theorem dh_feed_14 : decode cL_feed 14 = .ok (.i2l, 1) := by decide +kernel
theorem dh_feed_15 : decode cL_feed 15 = .ok (.lastore, 1) := by decide +kernel
theorem dh_feed_16 : decode cL_feed 16 = .ok (.goto 7, 3) := by decide +kernel
theorem dh_feed_23 : decode cL_feed 23 = .ok (.iconst 0, 1) := by decide +kernel
theorem dh_feed_24 : decode cL_feed 24 = .ok (.ireturn, 1) := by decide +kernel
set_option maxHeartbeats 4000000 in
set_option maxRecDepth 100000 in
theorem lh_feed (l : Launch) (D : va_G) (g : xe_G) {M M' : mi_H} {x qo : Nat} {aO : ClassId} {x1 : Int32} {x2 : Int32} {x3 : Int32} {x4 : Int32} {x5 : Int32} {y : Int32} {F : Nat → Option Value} {d : Nat} (hM : mi_met l g (mI 9) d [.ref x, .int x1, .int x2, .int x3, .int x4, .int x5] M (some (.int y)) M') (hx0 : M.1 x = some (.inr (11, F))) : Met l yL_feed (.codeWith yL_feed cL_feed 8 (some .int) [(0, 16, 19, 13)] :: bg) (mi_rm (d + 1) (M'.2.1 - M.2.1) (M'.2.2 - M.2.2)) (lh_Pre g D M qo aO [.ref x, .int x1, .int x2, .int x3, .int x4, .int x5, .ref qo]) (lh_Q g D M qo aO (fun r M1 v => r = 0 ∧ M1 = M' ∧ v = Int32.toInt64 y)) (M'.2.1 - M.2.1) (M'.2.2 - M.2.2) (lh_A g M qo) := by
  refine xt_MetW (cc := cL_feed) (maxL := 8) (ret := (some .int)) (hh := [(0, 16, 19, 13)]) (by decide) rfl ?_
  intro p e s m args below meth c s₁ B hml htab hv
  obtain ⟨rfl, ws, tys, fo, hr0, ho, hKo, hq, hE⟩ := hv
  have hx := B.exec
  have hb := B.bytes
  have hrt := B.returns
  have hts := atoms_spec (ws := (.codeWith yL_feed cL_feed 8 (some .int) [(0, 16, 19, 13)] :: bg)) B.pre
  have htb : ∀ w ∈ bg, w.before _ s = true := fun w h => hts w (List.mem_cons_of_mem _ h)
  have hown : s.vm.findClass RL = some m.cls := findClass_of_methodNamed B.named
  have hlocks := B.notSynchronized
  have hr : mi_rel g D (lh_A g M qo) s M s.heap ws tys := hr0.self.wide (fun q h => Or.inl h)
  have hA : ∀ q : Nat, s.heap.size ≤ q → lh_A g M qo q := fun q h => Or.inl (Or.inr (by rw [← hr.2.2.2.1]; exact h))
  have hS : va_S (lh_A g M qo) s.heap s.heap [] := va_S.rf
  have hqA : ¬ mi_A g M qo := fun h9 => h9.elim hq (fun h8 => by have h7 := oW.lt ho; have h6 := hr.2.2.2.1; omega)
  have hl := lv_entry ([.ref x, .int x1, .int x2, .int x3, .int x4, .int x5, .ref qo]) (n := 8) (Nat.le_of_ble_eq_true rfl)
  rw [lg_entry_eq]
  generalize (lg_sl ([.ref x, .int x1, .int x2, .int x3, .int x4, .int x5, .ref qo]) ++ List.replicate (8 - (lg_sl ([.ref x, .int x1, .int x2, .int x3, .int x4, .int x5, .ref qo])).length) Slot.unset).toArray = ls at hl ⊢
  have hl : lv_has ls 8 [(0, .ref x), (1, .int x1), (2, .int x2), (3, .int x3), (4, .int x4), (5, .int x5), (6, .ref qo)] := hl
  obtain ⟨q0, fs, hq0, -⟩ := mi_obj hr (show 11 < 100 by decide) hx0
  refine lv_aload hx hb dh_feed_0 (lv_at hl 6 rfl) ?_
  refine lv_iconst (v := 0) hx hb dh_feed_2 (by decide) ?_
  refine lv_aload_n hx hb dh_feed_3 rfl (lv_at hl 0 rfl) ?_
  refine lv_iload_n hx hb dh_feed_4 rfl (lv_at hl 1 rfl) ?_
  refine lv_iload_n hx hb dh_feed_5 rfl (lv_at hl 2 rfl) ?_
  refine lv_iload_n hx hb dh_feed_6 rfl (lv_at hl 3 rfl) ?_
  refine lv_iload hx hb dh_feed_7 (lv_at hl 4 rfl) ?_
  refine lv_iload hx hb dh_feed_9 (lv_at hl 5 rfl) ?_
  obtain ⟨m1, m2, hMet⟩ := hM
  have hMet : Met l yX11_feed (.code yX11_feed cX11_feed 6 (some .int) :: bg) (mi_rm d (M'.2.1 - M.2.1) (M'.2.2 - M.2.2)) (mi_Pre g D M [.ref x, .int x1, .int x2, .int x3, .int x4, .int x5]) (mi_Q g D M (some (.int y)) M') (M'.2.1 - M.2.1) (M'.2.2 - M.2.2) (mi_A g M) := hMet D
  refine mi_goF (A := lh_A g M qo) (va_runV (As := [.int x1, .int x2, .int x3, .int x4, .int x5]) (rest := [.int 0, .ref qo]) ⟨hx, hb, hml, hown, htb⟩ hMet (bg_V 5 htb bg_1324 bg_1325 bg_1326 bg_774 bg_765 rfl rfl (by decide +kernel) ⟨by show d + 8 + 1 ≤ d + 1 + 8; omega, by show 8 + (6 + 11) + (40 * d + 1000) ≤ 40 * (d + 1) + 1000; omega⟩) ⟨mi_blind, va_recv hr.1 hr.2.1 (ci := 11) (q0 := q0) rfl hq0, mi_enter hr hS hA hE⟩ rfl rfl hl.1 rfl (lv_room (Nat.le_of_ble_eq_true rfl)) dh_feed_11 ⟨by show 0 + (M'.2.1 - M.2.1) ≤ M'.2.1 - M.2.1; omega, by show 0 + (M'.2.2 - M.2.2) ≤ M'.2.2 - M.2.2; omega⟩) (fun q h => Or.inl h) hS (fun H locs ws1 tys1 hr1 hz hk hS => ?_)
  have ho := oW.kept ho (hk qo (oW.lt ho) hqA)
  refine W.widen (k := M'.2.1 - M.2.1) (n := M'.2.2 - M.2.2) (by omega) (by omega) ?_
  refine lv_i2l (v := Int32.toInt64 y) hx hb dh_feed_14 rfl ?_
  refine lh_last hx hb ho hKo hS (Or.inr rfl) dh_feed_15 (fun H1 locs fo1 ho hfo z1 oq hS => ?_)
  have hr2 := mi_rel.frame (H1 := H1) hr1 (fun a ha => oq a (fun e9 => hqA (e9 ▸ (hr1.lt ha).2)))
  rw [show ((M'.1, H1.size, M'.2.2) : mi_H) = M' from by rw [z1, hr1.2.2.2.1]] at hr2
  refine lv_goto (tgt := 23) hx hb dh_feed_16 (by decide) ?_
  refine lv_iconst (v := 0) hx hb dh_feed_23 (by decide) ?_
  exact W.iret (v := 0) hx hb hrt (fun t ht hW => ⟨⟨0, M', fo1, ws1, tys1, rfl, ⟨rfl, rfl, hfo⟩, by rw [ht]; exact hr2.vm hW.alike, by rw [ht]; exact ho⟩, hS.F ht⟩) hS.2.2 dh_feed_24
theorem dh_end_0 : decode cL_end 0 = .ok (.aload_n 2, 1) := by decide +kernel
theorem dh_end_1 : decode cL_end 1 = .ok (.iconst 0, 1) := by decide +kernel
theorem dh_end_2 : decode cL_end 2 = .ok (.aload_n 0, 1) := by decide +kernel
theorem dh_end_3 : decode cL_end 3 = .ok (.iload_n 1, 1) := by decide +kernel
theorem dh_end_4 : decode cL_end 4 = .ok (.invokevirtual 15, 3) := by decide +kernel
theorem dh_end_7 : decode cL_end 7 = .ok (.i2l, 1) := by decide +kernel
theorem dh_end_8 : decode cL_end 8 = .ok (.lastore, 1) := by decide +kernel
theorem dh_end_9 : decode cL_end 9 = .ok (.goto 6, 3) := by decide +kernel
theorem dh_end_12 : decode cL_end 12 = .ok (.astore_n 3, 1) := by decide +kernel
theorem dh_end_13 : decode cL_end 13 = .ok (.iconst 1, 1) := by decide +kernel
theorem dh_end_14 : decode cL_end 14 = .ok (.ireturn, 1) := by decide +kernel
theorem dh_end_15 : decode cL_end 15 = .ok (.iconst 0, 1) := by decide +kernel
theorem dh_end_16 : decode cL_end 16 = .ok (.ireturn, 1) := by decide +kernel
set_option maxHeartbeats 4000000 in
set_option maxRecDepth 100000 in
theorem lh_end (l : Launch) (D : va_G) (g : xe_G) {M M' : mi_H} {x qo : Nat} {aO : ClassId} {x1 : Int32} {y : Int32} {F : Nat → Option Value} {d : Nat} (hM : mi_met l g (mI 7) d [.ref x, .int x1] M (some (.int y)) M') (hx0 : M.1 x = some (.inr (11, F))) : Met l yL_end (.codeWith yL_end cL_end 4 (some .int) [(0, 9, 12, 19)] :: bg) (mi_rm (d + 1) (M'.2.1 - M.2.1) (M'.2.2 - M.2.2)) (lh_Pre g D M qo aO [.ref x, .int x1, .ref qo]) (lh_Q g D M qo aO (fun r M1 v => r = 0 ∧ M1 = M' ∧ v = Int32.toInt64 y)) (M'.2.1 - M.2.1) (M'.2.2 - M.2.2) (lh_A g M qo) := by
  refine xt_MetW (cc := cL_end) (maxL := 4) (ret := (some .int)) (hh := [(0, 9, 12, 19)]) (by decide) rfl ?_
  intro p e s m args below meth c s₁ B hml htab hv
  obtain ⟨rfl, ws, tys, fo, hr0, ho, hKo, hq, hE⟩ := hv
  have hx := B.exec
  have hb := B.bytes
  have hrt := B.returns
  have hts := atoms_spec (ws := (.codeWith yL_end cL_end 4 (some .int) [(0, 9, 12, 19)] :: bg)) B.pre
  have htb : ∀ w ∈ bg, w.before _ s = true := fun w h => hts w (List.mem_cons_of_mem _ h)
  have hown : s.vm.findClass RL = some m.cls := findClass_of_methodNamed B.named
  have hlocks := B.notSynchronized
  have hr : mi_rel g D (lh_A g M qo) s M s.heap ws tys := hr0.self.wide (fun q h => Or.inl h)
  have hA : ∀ q : Nat, s.heap.size ≤ q → lh_A g M qo q := fun q h => Or.inl (Or.inr (by rw [← hr.2.2.2.1]; exact h))
  have hS : va_S (lh_A g M qo) s.heap s.heap [] := va_S.rf
  have hqA : ¬ mi_A g M qo := fun h9 => h9.elim hq (fun h8 => by have h7 := oW.lt ho; have h6 := hr.2.2.2.1; omega)
  have hl := lv_entry ([.ref x, .int x1, .ref qo]) (n := 4) (Nat.le_of_ble_eq_true rfl)
  rw [lg_entry_eq]
  generalize (lg_sl ([.ref x, .int x1, .ref qo]) ++ List.replicate (4 - (lg_sl ([.ref x, .int x1, .ref qo])).length) Slot.unset).toArray = ls at hl ⊢
  have hl : lv_has ls 4 [(0, .ref x), (1, .int x1), (2, .ref qo)] := hl
  obtain ⟨q0, fs, hq0, -⟩ := mi_obj hr (show 11 < 100 by decide) hx0
  refine lv_aload_n hx hb dh_end_0 rfl (lv_at hl 2 rfl) ?_
  refine lv_iconst (v := 0) hx hb dh_end_1 (by decide) ?_
  refine lv_aload_n hx hb dh_end_2 rfl (lv_at hl 0 rfl) ?_
  refine lv_iload_n hx hb dh_end_3 rfl (lv_at hl 1 rfl) ?_
  obtain ⟨m1, m2, hMet⟩ := hM
  have hMet : Met l yX11_end (.code yX11_end cX11_end 2 (some .int) :: bg) (mi_rm d (M'.2.1 - M.2.1) (M'.2.2 - M.2.2)) (mi_Pre g D M [.ref x, .int x1]) (mi_Q g D M (some (.int y)) M') (M'.2.1 - M.2.1) (M'.2.2 - M.2.2) (mi_A g M) := hMet D
  refine mi_goF (A := lh_A g M qo) (va_runV (As := [.int x1]) (rest := [.int 0, .ref qo]) ⟨hx, hb, hml, hown, htb⟩ hMet (bg_V 1 htb bg_1328 bg_1329 bg_1330 bg_774 bg_779 rfl rfl (by decide +kernel) ⟨by show d + 8 + 1 ≤ d + 1 + 8; omega, by show 8 + (2 + 11) + (40 * d + 1000) ≤ 40 * (d + 1) + 1000; omega⟩) ⟨mi_blind, va_recv hr.1 hr.2.1 (ci := 11) (q0 := q0) rfl hq0, mi_enter hr hS hA hE⟩ rfl rfl hl.1 rfl (lv_room (Nat.le_of_ble_eq_true rfl)) dh_end_4 ⟨by show 0 + (M'.2.1 - M.2.1) ≤ M'.2.1 - M.2.1; omega, by show 0 + (M'.2.2 - M.2.2) ≤ M'.2.2 - M.2.2; omega⟩) (fun q h => Or.inl h) hS (fun H locs ws1 tys1 hr1 hz hk hS => ?_)
  have ho := oW.kept ho (hk qo (oW.lt ho) hqA)
  refine W.widen (k := M'.2.1 - M.2.1) (n := M'.2.2 - M.2.2) (by omega) (by omega) ?_
  refine lv_i2l (v := Int32.toInt64 y) hx hb dh_end_7 rfl ?_
  refine lh_last hx hb ho hKo hS (Or.inr rfl) dh_end_8 (fun H1 locs fo1 ho hfo z1 oq hS => ?_)
  have hr2 := mi_rel.frame (H1 := H1) hr1 (fun a ha => oq a (fun e9 => hqA (e9 ▸ (hr1.lt ha).2)))
  rw [show ((M'.1, H1.size, M'.2.2) : mi_H) = M' from by rw [z1, hr1.2.2.2.1]] at hr2
  refine lv_goto (tgt := 15) hx hb dh_end_9 (by decide) ?_
  refine lv_iconst (v := 0) hx hb dh_end_15 (by decide) ?_
  exact W.iret (v := 0) hx hb hrt (fun t ht hW => ⟨⟨0, M', fo1, ws1, tys1, rfl, ⟨rfl, rfl, hfo⟩, by rw [ht]; exact hr2.vm hW.alike, by rw [ht]; exact ho⟩, hS.F ht⟩) hS.2.2 dh_end_16
set_option maxHeartbeats 4000000 in
set_option maxRecDepth 100000 in
theorem lhx_end (l : Launch) (D : va_G) (g : xe_G) {M : mi_H} {x qo : Nat} {aO : ClassId} {x1 : Int32} {F : Nat → Option Value} (hx0 : M.1 x = some (.inr (11, F))) {cc : Nat} (hF1 : F 1 = some (.int (nI cc))) (hnt : l.stackTraces = false) (hbad : x1 < 0 ∨ ¬ x1 ≤ nI cc) : Met l yL_end (.codeWith yL_end cL_end 4 (some .int) [(0, 9, 12, 19)] :: bg) ({ frames := 10, cells := 1, slots := 6, locals := 900 } : Room) (lh_Pre g D M qo aO [.ref x, .int x1, .ref qo]) (lh_Q g D M qo aO (fun r M1 _ => r = 1 ∧ ∃ z, M.2.1 ≤ z ∧ M1 = (M.1, z, M.2.2))) 1 6 (lh_A g M qo) := by
  refine xt_MetW (cc := cL_end) (maxL := 4) (ret := (some .int)) (hh := [(0, 9, 12, 19)]) (by decide) rfl ?_
  intro p e s m args below meth c s₁ B hml htab hv
  obtain ⟨rfl, ws, tys, fo, hr0, ho, hKo, hq, hE⟩ := hv
  have hx := B.exec
  have hb := B.bytes
  have hrt := B.returns
  have hts := atoms_spec (ws := (.codeWith yL_end cL_end 4 (some .int) [(0, 9, 12, 19)] :: bg)) B.pre
  have htb : ∀ w ∈ bg, w.before _ s = true := fun w h => hts w (List.mem_cons_of_mem _ h)
  have hown : s.vm.findClass RL = some m.cls := findClass_of_methodNamed B.named
  have hlocks := B.notSynchronized
  have hr : mi_rel g D (lh_A g M qo) s M s.heap ws tys := hr0.self.wide (fun q h => Or.inl h)
  have hA : ∀ q : Nat, s.heap.size ≤ q → lh_A g M qo q := fun q h => Or.inl (Or.inr (by rw [← hr.2.2.2.1]; exact h))
  have hS : va_S (lh_A g M qo) s.heap s.heap [] := va_S.rf
  have hqA : ¬ mi_A g M qo := fun h9 => h9.elim hq (fun h8 => by have h7 := oW.lt ho; have h6 := hr.2.2.2.1; omega)
  have hl := lv_entry ([.ref x, .int x1, .ref qo]) (n := 4) (Nat.le_of_ble_eq_true rfl)
  rw [lg_entry_eq]
  generalize (lg_sl ([.ref x, .int x1, .ref qo]) ++ List.replicate (4 - (lg_sl ([.ref x, .int x1, .ref qo])).length) Slot.unset).toArray = ls at hl ⊢
  have hl : lv_has ls 4 [(0, .ref x), (1, .int x1), (2, .ref qo)] := hl
  obtain ⟨q0, fs, hq0, -⟩ := mi_obj hr (show 11 < 100 by decide) hx0
  refine lv_aload_n hx hb dh_end_0 rfl (lv_at hl 2 rfl) ?_
  refine lv_iconst (v := 0) hx hb dh_end_1 (by decide) ?_
  refine lv_aload_n hx hb dh_end_2 rfl (lv_at hl 0 rfl) ?_
  refine lv_iload_n hx hb dh_end_3 rfl (lv_at hl 1 rfl) ?_
  refine cx_goW (A := lh_A g M qo) (vx_runV (As := [.int x1]) (rest := [.int 0, .ref qo]) ⟨hx, hb, hml, hown, htb⟩ (cx_end l D g hx0 hF1 hnt hbad) (bg_V 1 htb bg_1328 bg_1329 bg_1330 bg_774 bg_779 rfl rfl (by decide +kernel) ⟨Nat.le_of_ble_eq_true rfl, Nat.le_of_ble_eq_true rfl⟩) ⟨mi_blind, va_recv hr.1 hr.2.1 (ci := 11) (q0 := q0) rfl hq0, mi_enter hr hS hA hE⟩ rfl rfl hl.1 rfl (lv_room (Nat.le_of_ble_eq_true rfl)) dh_end_4 ⟨Nat.le_of_ble_eq_true rfl, Nat.le_of_ble_eq_true rfl⟩) (fun q h => Or.inl h) hS hown (htb _ bg_1667) htab (by decide) (by decide) (fun x9 H locs ws1 tys1 hr1 hz hk hS => ?_)
  have ho := oW.kept ho (hk qo (oW.lt ho) hqA)
  refine W.widen (k := 1) (n := 6) (by decide) (by decide) ?_
  refine lv_astore_n (lv' := [(3, .ref x9), (0, .ref x), (1, .int x1), (2, .ref qo)]) hx hb dh_end_12 rfl hl (by decide) rfl (fun ls hl => ?_)
  refine lv_iconst (v := 1) hx hb dh_end_13 (by decide) ?_
  exact W.iret (v := 1) hx hb hrt (fun t ht hW => ⟨⟨1, (M.1, H.size, M.2.2), fo, ws1, tys1, rfl, ⟨rfl, H.size, by rw [← hr.2.2.2.1]; exact hz, rfl⟩, by rw [ht]; exact hr1.vm hW.alike, by rw [ht]; exact ho⟩, hS.F ht⟩) hS.2.2 dh_end_14
theorem dh_count_0 : decode cL_count 0 = .ok (.aload_n 2, 1) := by decide +kernel
theorem dh_count_1 : decode cL_count 1 = .ok (.iconst 0, 1) := by decide +kernel
theorem dh_count_2 : decode cL_count 2 = .ok (.aload_n 0, 1) := by decide +kernel
theorem dh_count_3 : decode cL_count 3 = .ok (.iload_n 1, 1) := by decide +kernel
theorem dh_count_4 : decode cL_count 4 = .ok (.invokevirtual 21, 3) := by decide +kernel
theorem dh_count_7 : decode cL_count 7 = .ok (.i2l, 1) := by decide +kernel
theorem dh_count_8 : decode cL_count 8 = .ok (.lastore, 1) := by decide +kernel
theorem dh_count_9 : decode cL_count 9 = .ok (.goto 6, 3) := by decide +kernel
theorem dh_count_12 : decode cL_count 12 = .ok (.astore_n 3, 1) := by decide +kernel
theorem dh_count_13 : decode cL_count 13 = .ok (.iconst 1, 1) := by decide +kernel
theorem dh_count_14 : decode cL_count 14 = .ok (.ireturn, 1) := by decide +kernel
theorem dh_count_15 : decode cL_count 15 = .ok (.iconst 0, 1) := by decide +kernel
theorem dh_count_16 : decode cL_count 16 = .ok (.ireturn, 1) := by decide +kernel
set_option maxHeartbeats 4000000 in
set_option maxRecDepth 100000 in
theorem lh_count (l : Launch) (D : va_G) (g : xe_G) {M M' : mi_H} {x qo : Nat} {aO : ClassId} {x1 : Int32} {y : Int32} {F : Nat → Option Value} {d : Nat} (hM : mi_met l g (mI 5) d [.ref x, .int x1] M (some (.int y)) M') (hx0 : M.1 x = some (.inr (11, F))) : Met l yL_count (.codeWith yL_count cL_count 4 (some .int) [(0, 9, 12, 19)] :: bg) (mi_rm (d + 1) (M'.2.1 - M.2.1) (M'.2.2 - M.2.2)) (lh_Pre g D M qo aO [.ref x, .int x1, .ref qo]) (lh_Q g D M qo aO (fun r M1 v => r = 0 ∧ M1 = M' ∧ v = Int32.toInt64 y)) (M'.2.1 - M.2.1) (M'.2.2 - M.2.2) (lh_A g M qo) := by
  refine xt_MetW (cc := cL_count) (maxL := 4) (ret := (some .int)) (hh := [(0, 9, 12, 19)]) (by decide) rfl ?_
  intro p e s m args below meth c s₁ B hml htab hv
  obtain ⟨rfl, ws, tys, fo, hr0, ho, hKo, hq, hE⟩ := hv
  have hx := B.exec
  have hb := B.bytes
  have hrt := B.returns
  have hts := atoms_spec (ws := (.codeWith yL_count cL_count 4 (some .int) [(0, 9, 12, 19)] :: bg)) B.pre
  have htb : ∀ w ∈ bg, w.before _ s = true := fun w h => hts w (List.mem_cons_of_mem _ h)
  have hown : s.vm.findClass RL = some m.cls := findClass_of_methodNamed B.named
  have hlocks := B.notSynchronized
  have hr : mi_rel g D (lh_A g M qo) s M s.heap ws tys := hr0.self.wide (fun q h => Or.inl h)
  have hA : ∀ q : Nat, s.heap.size ≤ q → lh_A g M qo q := fun q h => Or.inl (Or.inr (by rw [← hr.2.2.2.1]; exact h))
  have hS : va_S (lh_A g M qo) s.heap s.heap [] := va_S.rf
  have hqA : ¬ mi_A g M qo := fun h9 => h9.elim hq (fun h8 => by have h7 := oW.lt ho; have h6 := hr.2.2.2.1; omega)
  have hl := lv_entry ([.ref x, .int x1, .ref qo]) (n := 4) (Nat.le_of_ble_eq_true rfl)
  rw [lg_entry_eq]
  generalize (lg_sl ([.ref x, .int x1, .ref qo]) ++ List.replicate (4 - (lg_sl ([.ref x, .int x1, .ref qo])).length) Slot.unset).toArray = ls at hl ⊢
  have hl : lv_has ls 4 [(0, .ref x), (1, .int x1), (2, .ref qo)] := hl
  obtain ⟨q0, fs, hq0, -⟩ := mi_obj hr (show 11 < 100 by decide) hx0
  refine lv_aload_n hx hb dh_count_0 rfl (lv_at hl 2 rfl) ?_
  refine lv_iconst (v := 0) hx hb dh_count_1 (by decide) ?_
  refine lv_aload_n hx hb dh_count_2 rfl (lv_at hl 0 rfl) ?_
  refine lv_iload_n hx hb dh_count_3 rfl (lv_at hl 1 rfl) ?_
  obtain ⟨m1, m2, hMet⟩ := hM
  have hMet : Met l yX11_count (.code yX11_count cX11_count 2 (some .int) :: bg) (mi_rm d (M'.2.1 - M.2.1) (M'.2.2 - M.2.2)) (mi_Pre g D M [.ref x, .int x1]) (mi_Q g D M (some (.int y)) M') (M'.2.1 - M.2.1) (M'.2.2 - M.2.2) (mi_A g M) := hMet D
  refine mi_goF (A := lh_A g M qo) (va_runV (As := [.int x1]) (rest := [.int 0, .ref qo]) ⟨hx, hb, hml, hown, htb⟩ hMet (bg_V 1 htb bg_1332 bg_1333 bg_1334 bg_774 bg_865 rfl rfl (by decide +kernel) ⟨by show d + 8 + 1 ≤ d + 1 + 8; omega, by show 8 + (2 + 11) + (40 * d + 1000) ≤ 40 * (d + 1) + 1000; omega⟩) ⟨mi_blind, va_recv hr.1 hr.2.1 (ci := 11) (q0 := q0) rfl hq0, mi_enter hr hS hA hE⟩ rfl rfl hl.1 rfl (lv_room (Nat.le_of_ble_eq_true rfl)) dh_count_4 ⟨by show 0 + (M'.2.1 - M.2.1) ≤ M'.2.1 - M.2.1; omega, by show 0 + (M'.2.2 - M.2.2) ≤ M'.2.2 - M.2.2; omega⟩) (fun q h => Or.inl h) hS (fun H locs ws1 tys1 hr1 hz hk hS => ?_)
  have ho := oW.kept ho (hk qo (oW.lt ho) hqA)
  refine W.widen (k := M'.2.1 - M.2.1) (n := M'.2.2 - M.2.2) (by omega) (by omega) ?_
  refine lv_i2l (v := Int32.toInt64 y) hx hb dh_count_7 rfl ?_
  refine lh_last hx hb ho hKo hS (Or.inr rfl) dh_count_8 (fun H1 locs fo1 ho hfo z1 oq hS => ?_)
  have hr2 := mi_rel.frame (H1 := H1) hr1 (fun a ha => oq a (fun e9 => hqA (e9 ▸ (hr1.lt ha).2)))
  rw [show ((M'.1, H1.size, M'.2.2) : mi_H) = M' from by rw [z1, hr1.2.2.2.1]] at hr2
  refine lv_goto (tgt := 15) hx hb dh_count_9 (by decide) ?_
  refine lv_iconst (v := 0) hx hb dh_count_15 (by decide) ?_
  exact W.iret (v := 0) hx hb hrt (fun t ht hW => ⟨⟨0, M', fo1, ws1, tys1, rfl, ⟨rfl, rfl, hfo⟩, by rw [ht]; exact hr2.vm hW.alike, by rw [ht]; exact ho⟩, hS.F ht⟩) hS.2.2 dh_count_16
set_option maxHeartbeats 4000000 in
set_option maxRecDepth 100000 in
theorem lhx_count (l : Launch) (D : va_G) (g : xe_G) {M : mi_H} {x qo : Nat} {aO : ClassId} {x1 : Int32} {F : Nat → Option Value} (hx0 : M.1 x = some (.inr (11, F))) (hnt : l.stackTraces = false) (hbad : x1 < 0 ∨ ¬ x1 ≤ 15) : Met l yL_count (.codeWith yL_count cL_count 4 (some .int) [(0, 9, 12, 19)] :: bg) ({ frames := 10, cells := 1, slots := 6, locals := 900 } : Room) (lh_Pre g D M qo aO [.ref x, .int x1, .ref qo]) (lh_Q g D M qo aO (fun r M1 _ => r = 1 ∧ ∃ z, M.2.1 ≤ z ∧ M1 = (M.1, z, M.2.2))) 1 6 (lh_A g M qo) := by
  refine xt_MetW (cc := cL_count) (maxL := 4) (ret := (some .int)) (hh := [(0, 9, 12, 19)]) (by decide) rfl ?_
  intro p e s m args below meth c s₁ B hml htab hv
  obtain ⟨rfl, ws, tys, fo, hr0, ho, hKo, hq, hE⟩ := hv
  have hx := B.exec
  have hb := B.bytes
  have hrt := B.returns
  have hts := atoms_spec (ws := (.codeWith yL_count cL_count 4 (some .int) [(0, 9, 12, 19)] :: bg)) B.pre
  have htb : ∀ w ∈ bg, w.before _ s = true := fun w h => hts w (List.mem_cons_of_mem _ h)
  have hown : s.vm.findClass RL = some m.cls := findClass_of_methodNamed B.named
  have hlocks := B.notSynchronized
  have hr : mi_rel g D (lh_A g M qo) s M s.heap ws tys := hr0.self.wide (fun q h => Or.inl h)
  have hA : ∀ q : Nat, s.heap.size ≤ q → lh_A g M qo q := fun q h => Or.inl (Or.inr (by rw [← hr.2.2.2.1]; exact h))
  have hS : va_S (lh_A g M qo) s.heap s.heap [] := va_S.rf
  have hqA : ¬ mi_A g M qo := fun h9 => h9.elim hq (fun h8 => by have h7 := oW.lt ho; have h6 := hr.2.2.2.1; omega)
  have hl := lv_entry ([.ref x, .int x1, .ref qo]) (n := 4) (Nat.le_of_ble_eq_true rfl)
  rw [lg_entry_eq]
  generalize (lg_sl ([.ref x, .int x1, .ref qo]) ++ List.replicate (4 - (lg_sl ([.ref x, .int x1, .ref qo])).length) Slot.unset).toArray = ls at hl ⊢
  have hl : lv_has ls 4 [(0, .ref x), (1, .int x1), (2, .ref qo)] := hl
  obtain ⟨q0, fs, hq0, -⟩ := mi_obj hr (show 11 < 100 by decide) hx0
  refine lv_aload_n hx hb dh_count_0 rfl (lv_at hl 2 rfl) ?_
  refine lv_iconst (v := 0) hx hb dh_count_1 (by decide) ?_
  refine lv_aload_n hx hb dh_count_2 rfl (lv_at hl 0 rfl) ?_
  refine lv_iload_n hx hb dh_count_3 rfl (lv_at hl 1 rfl) ?_
  refine cx_goW (A := lh_A g M qo) (vx_runV (As := [.int x1]) (rest := [.int 0, .ref qo]) ⟨hx, hb, hml, hown, htb⟩ (cx_count l D g hnt hbad) (bg_V 1 htb bg_1332 bg_1333 bg_1334 bg_774 bg_865 rfl rfl (by decide +kernel) ⟨Nat.le_of_ble_eq_true rfl, Nat.le_of_ble_eq_true rfl⟩) ⟨mi_blind, va_recv hr.1 hr.2.1 (ci := 11) (q0 := q0) rfl hq0, mi_enter hr hS hA hE⟩ rfl rfl hl.1 rfl (lv_room (Nat.le_of_ble_eq_true rfl)) dh_count_4 ⟨Nat.le_of_ble_eq_true rfl, Nat.le_of_ble_eq_true rfl⟩) (fun q h => Or.inl h) hS hown (htb _ bg_1667) htab (by decide) (by decide) (fun x9 H locs ws1 tys1 hr1 hz hk hS => ?_)
  have ho := oW.kept ho (hk qo (oW.lt ho) hqA)
  refine W.widen (k := 1) (n := 6) (by decide) (by decide) ?_
  refine lv_astore_n (lv' := [(3, .ref x9), (0, .ref x), (1, .int x1), (2, .ref qo)]) hx hb dh_count_12 rfl hl (by decide) rfl (fun ls hl => ?_)
  refine lv_iconst (v := 1) hx hb dh_count_13 (by decide) ?_
  exact W.iret (v := 1) hx hb hrt (fun t ht hW => ⟨⟨1, (M.1, H.size, M.2.2), fo, ws1, tys1, rfl, ⟨rfl, H.size, by rw [← hr.2.2.2.1]; exact hz, rfl⟩, by rw [ht]; exact hr1.vm hW.alike, by rw [ht]; exact ho⟩, hS.F ht⟩) hS.2.2 dh_count_14
theorem dh_entry_0 : decode cL_entry 0 = .ok (.aload_n 3, 1) := by decide +kernel
theorem dh_entry_1 : decode cL_entry 1 = .ok (.iconst 0, 1) := by decide +kernel
theorem dh_entry_2 : decode cL_entry 2 = .ok (.aload_n 0, 1) := by decide +kernel
theorem dh_entry_3 : decode cL_entry 3 = .ok (.iload_n 1, 1) := by decide +kernel
theorem dh_entry_4 : decode cL_entry 4 = .ok (.iload_n 2, 1) := by decide +kernel
theorem dh_entry_5 : decode cL_entry 5 = .ok (.invokevirtual 24, 3) := by decide +kernel
theorem dh_entry_8 : decode cL_entry 8 = .ok (.i2l, 1) := by decide +kernel
theorem dh_entry_9 : decode cL_entry 9 = .ok (.lastore, 1) := by decide +kernel
theorem dh_entry_10 : decode cL_entry 10 = .ok (.goto 7, 3) := by decide +kernel
theorem dh_entry_13 : decode cL_entry 13 = .ok (.astore 4, 2) := by decide +kernel
theorem dh_entry_15 : decode cL_entry 15 = .ok (.iconst 1, 1) := by decide +kernel
theorem dh_entry_16 : decode cL_entry 16 = .ok (.ireturn, 1) := by decide +kernel
theorem dh_entry_17 : decode cL_entry 17 = .ok (.iconst 0, 1) := by decide +kernel
theorem dh_entry_18 : decode cL_entry 18 = .ok (.ireturn, 1) := by decide +kernel
set_option maxHeartbeats 4000000 in
set_option maxRecDepth 100000 in
theorem lh_entry (l : Launch) (D : va_G) (g : xe_G) {M M' : mi_H} {x qo : Nat} {aO : ClassId} {x1 : Int32} {x2 : Int32} {y : Int32} {F : Nat → Option Value} {d : Nat} (hM : mi_met l g (mI 8) d [.ref x, .int x1, .int x2] M (some (.int y)) M') (hx0 : M.1 x = some (.inr (11, F))) : Met l yL_entry (.codeWith yL_entry cL_entry 5 (some .int) [(0, 10, 13, 19)] :: bg) (mi_rm (d + 1) (M'.2.1 - M.2.1) (M'.2.2 - M.2.2)) (lh_Pre g D M qo aO [.ref x, .int x1, .int x2, .ref qo]) (lh_Q g D M qo aO (fun r M1 v => r = 0 ∧ M1 = M' ∧ v = Int32.toInt64 y)) (M'.2.1 - M.2.1) (M'.2.2 - M.2.2) (lh_A g M qo) := by
  refine xt_MetW (cc := cL_entry) (maxL := 5) (ret := (some .int)) (hh := [(0, 10, 13, 19)]) (by decide) rfl ?_
  intro p e s m args below meth c s₁ B hml htab hv
  obtain ⟨rfl, ws, tys, fo, hr0, ho, hKo, hq, hE⟩ := hv
  have hx := B.exec
  have hb := B.bytes
  have hrt := B.returns
  have hts := atoms_spec (ws := (.codeWith yL_entry cL_entry 5 (some .int) [(0, 10, 13, 19)] :: bg)) B.pre
  have htb : ∀ w ∈ bg, w.before _ s = true := fun w h => hts w (List.mem_cons_of_mem _ h)
  have hown : s.vm.findClass RL = some m.cls := findClass_of_methodNamed B.named
  have hlocks := B.notSynchronized
  have hr : mi_rel g D (lh_A g M qo) s M s.heap ws tys := hr0.self.wide (fun q h => Or.inl h)
  have hA : ∀ q : Nat, s.heap.size ≤ q → lh_A g M qo q := fun q h => Or.inl (Or.inr (by rw [← hr.2.2.2.1]; exact h))
  have hS : va_S (lh_A g M qo) s.heap s.heap [] := va_S.rf
  have hqA : ¬ mi_A g M qo := fun h9 => h9.elim hq (fun h8 => by have h7 := oW.lt ho; have h6 := hr.2.2.2.1; omega)
  have hl := lv_entry ([.ref x, .int x1, .int x2, .ref qo]) (n := 5) (Nat.le_of_ble_eq_true rfl)
  rw [lg_entry_eq]
  generalize (lg_sl ([.ref x, .int x1, .int x2, .ref qo]) ++ List.replicate (5 - (lg_sl ([.ref x, .int x1, .int x2, .ref qo])).length) Slot.unset).toArray = ls at hl ⊢
  have hl : lv_has ls 5 [(0, .ref x), (1, .int x1), (2, .int x2), (3, .ref qo)] := hl
  obtain ⟨q0, fs, hq0, -⟩ := mi_obj hr (show 11 < 100 by decide) hx0
  refine lv_aload_n hx hb dh_entry_0 rfl (lv_at hl 3 rfl) ?_
  refine lv_iconst (v := 0) hx hb dh_entry_1 (by decide) ?_
  refine lv_aload_n hx hb dh_entry_2 rfl (lv_at hl 0 rfl) ?_
  refine lv_iload_n hx hb dh_entry_3 rfl (lv_at hl 1 rfl) ?_
  refine lv_iload_n hx hb dh_entry_4 rfl (lv_at hl 2 rfl) ?_
  obtain ⟨m1, m2, hMet⟩ := hM
  have hMet : Met l yX11_entry (.code yX11_entry cX11_entry 3 (some .int) :: bg) (mi_rm d (M'.2.1 - M.2.1) (M'.2.2 - M.2.2)) (mi_Pre g D M [.ref x, .int x1, .int x2]) (mi_Q g D M (some (.int y)) M') (M'.2.1 - M.2.1) (M'.2.2 - M.2.2) (mi_A g M) := hMet D
  refine mi_goF (A := lh_A g M qo) (va_runV (As := [.int x1, .int x2]) (rest := [.int 0, .ref qo]) ⟨hx, hb, hml, hown, htb⟩ hMet (bg_V 2 htb bg_1336 bg_1337 bg_1338 bg_774 bg_869 rfl rfl (by decide +kernel) ⟨by show d + 8 + 1 ≤ d + 1 + 8; omega, by show 8 + (3 + 11) + (40 * d + 1000) ≤ 40 * (d + 1) + 1000; omega⟩) ⟨mi_blind, va_recv hr.1 hr.2.1 (ci := 11) (q0 := q0) rfl hq0, mi_enter hr hS hA hE⟩ rfl rfl hl.1 rfl (lv_room (Nat.le_of_ble_eq_true rfl)) dh_entry_5 ⟨by show 0 + (M'.2.1 - M.2.1) ≤ M'.2.1 - M.2.1; omega, by show 0 + (M'.2.2 - M.2.2) ≤ M'.2.2 - M.2.2; omega⟩) (fun q h => Or.inl h) hS (fun H locs ws1 tys1 hr1 hz hk hS => ?_)
  have ho := oW.kept ho (hk qo (oW.lt ho) hqA)
  refine W.widen (k := M'.2.1 - M.2.1) (n := M'.2.2 - M.2.2) (by omega) (by omega) ?_
  refine lv_i2l (v := Int32.toInt64 y) hx hb dh_entry_8 rfl ?_
  refine lh_last hx hb ho hKo hS (Or.inr rfl) dh_entry_9 (fun H1 locs fo1 ho hfo z1 oq hS => ?_)
  have hr2 := mi_rel.frame (H1 := H1) hr1 (fun a ha => oq a (fun e9 => hqA (e9 ▸ (hr1.lt ha).2)))
  rw [show ((M'.1, H1.size, M'.2.2) : mi_H) = M' from by rw [z1, hr1.2.2.2.1]] at hr2
  refine lv_goto (tgt := 17) hx hb dh_entry_10 (by decide) ?_
  refine lv_iconst (v := 0) hx hb dh_entry_17 (by decide) ?_
  exact W.iret (v := 0) hx hb hrt (fun t ht hW => ⟨⟨0, M', fo1, ws1, tys1, rfl, ⟨rfl, rfl, hfo⟩, by rw [ht]; exact hr2.vm hW.alike, by rw [ht]; exact ho⟩, hS.F ht⟩) hS.2.2 dh_entry_18
set_option maxHeartbeats 4000000 in
set_option maxRecDepth 100000 in
theorem lhx_entry (l : Launch) (D : va_G) (g : xe_G) {M : mi_H} {x qo : Nat} {aO : ClassId} {x1 : Int32} {x2 : Int32} {F : Nat → Option Value} (hx0 : M.1 x = some (.inr (11, F))) (hnt : l.stackTraces = false) (hbad : x2 < 0 ∨ ¬ x2 ≤ 2) : Met l yL_entry (.codeWith yL_entry cL_entry 5 (some .int) [(0, 10, 13, 19)] :: bg) ({ frames := 10, cells := 1, slots := 6, locals := 900 } : Room) (lh_Pre g D M qo aO [.ref x, .int x1, .int x2, .ref qo]) (lh_Q g D M qo aO (fun r M1 _ => r = 1 ∧ ∃ z, M.2.1 ≤ z ∧ M1 = (M.1, z, M.2.2))) 1 6 (lh_A g M qo) := by
  refine xt_MetW (cc := cL_entry) (maxL := 5) (ret := (some .int)) (hh := [(0, 10, 13, 19)]) (by decide) rfl ?_
  intro p e s m args below meth c s₁ B hml htab hv
  obtain ⟨rfl, ws, tys, fo, hr0, ho, hKo, hq, hE⟩ := hv
  have hx := B.exec
  have hb := B.bytes
  have hrt := B.returns
  have hts := atoms_spec (ws := (.codeWith yL_entry cL_entry 5 (some .int) [(0, 10, 13, 19)] :: bg)) B.pre
  have htb : ∀ w ∈ bg, w.before _ s = true := fun w h => hts w (List.mem_cons_of_mem _ h)
  have hown : s.vm.findClass RL = some m.cls := findClass_of_methodNamed B.named
  have hlocks := B.notSynchronized
  have hr : mi_rel g D (lh_A g M qo) s M s.heap ws tys := hr0.self.wide (fun q h => Or.inl h)
  have hA : ∀ q : Nat, s.heap.size ≤ q → lh_A g M qo q := fun q h => Or.inl (Or.inr (by rw [← hr.2.2.2.1]; exact h))
  have hS : va_S (lh_A g M qo) s.heap s.heap [] := va_S.rf
  have hqA : ¬ mi_A g M qo := fun h9 => h9.elim hq (fun h8 => by have h7 := oW.lt ho; have h6 := hr.2.2.2.1; omega)
  have hl := lv_entry ([.ref x, .int x1, .int x2, .ref qo]) (n := 5) (Nat.le_of_ble_eq_true rfl)
  rw [lg_entry_eq]
  generalize (lg_sl ([.ref x, .int x1, .int x2, .ref qo]) ++ List.replicate (5 - (lg_sl ([.ref x, .int x1, .int x2, .ref qo])).length) Slot.unset).toArray = ls at hl ⊢
  have hl : lv_has ls 5 [(0, .ref x), (1, .int x1), (2, .int x2), (3, .ref qo)] := hl
  obtain ⟨q0, fs, hq0, -⟩ := mi_obj hr (show 11 < 100 by decide) hx0
  refine lv_aload_n hx hb dh_entry_0 rfl (lv_at hl 3 rfl) ?_
  refine lv_iconst (v := 0) hx hb dh_entry_1 (by decide) ?_
  refine lv_aload_n hx hb dh_entry_2 rfl (lv_at hl 0 rfl) ?_
  refine lv_iload_n hx hb dh_entry_3 rfl (lv_at hl 1 rfl) ?_
  refine lv_iload_n hx hb dh_entry_4 rfl (lv_at hl 2 rfl) ?_
  refine cx_goW (A := lh_A g M qo) (vx_runV (As := [.int x1, .int x2]) (rest := [.int 0, .ref qo]) ⟨hx, hb, hml, hown, htb⟩ (cx_entry l D g hnt hbad) (bg_V 2 htb bg_1336 bg_1337 bg_1338 bg_774 bg_869 rfl rfl (by decide +kernel) ⟨Nat.le_of_ble_eq_true rfl, Nat.le_of_ble_eq_true rfl⟩) ⟨mi_blind, va_recv hr.1 hr.2.1 (ci := 11) (q0 := q0) rfl hq0, mi_enter hr hS hA hE⟩ rfl rfl hl.1 rfl (lv_room (Nat.le_of_ble_eq_true rfl)) dh_entry_5 ⟨Nat.le_of_ble_eq_true rfl, Nat.le_of_ble_eq_true rfl⟩) (fun q h => Or.inl h) hS hown (htb _ bg_1667) htab (by decide) (by decide) (fun x9 H locs ws1 tys1 hr1 hz hk hS => ?_)
  have ho := oW.kept ho (hk qo (oW.lt ho) hqA)
  refine W.widen (k := 1) (n := 6) (by decide) (by decide) ?_
  refine lv_astore (lv' := [(4, .ref x9), (0, .ref x), (1, .int x1), (2, .int x2), (3, .ref qo)]) hx hb dh_entry_13 hl (by decide) rfl (fun ls hl => ?_)
  refine lv_iconst (v := 1) hx hb dh_entry_15 (by decide) ?_
  exact W.iret (v := 1) hx hb hrt (fun t ht hW => ⟨⟨1, (M.1, H.size, M.2.2), fo, ws1, tys1, rfl, ⟨rfl, H.size, by rw [← hr.2.2.2.1]; exact hz, rfl⟩, by rw [ht]; exact hr1.vm hW.alike, by rw [ht]; exact ho⟩, hS.F ht⟩) hS.2.2 dh_entry_16
theorem dh_member_0 : decode cL_member 0 = .ok (.aload 4, 2) := by decide +kernel
theorem dh_member_2 : decode cL_member 2 = .ok (.iconst 0, 1) := by decide +kernel
theorem dh_member_3 : decode cL_member 3 = .ok (.aload_n 0, 1) := by decide +kernel
theorem dh_member_4 : decode cL_member 4 = .ok (.iload_n 1, 1) := by decide +kernel
theorem dh_member_5 : decode cL_member 5 = .ok (.iload_n 2, 1) := by decide +kernel
theorem dh_member_6 : decode cL_member 6 = .ok (.iload_n 3, 1) := by decide +kernel
theorem dh_member_7 : decode cL_member 7 = .ok (.invokevirtual 28, 3) := by decide +kernel
theorem dh_member_10 : decode cL_member 10 = .ok (.i2l, 1) := by decide +kernel
theorem dh_member_11 : decode cL_member 11 = .ok (.lastore, 1) := by decide +kernel
theorem dh_member_12 : decode cL_member 12 = .ok (.goto 7, 3) := by decide +kernel
theorem dh_member_15 : decode cL_member 15 = .ok (.astore 5, 2) := by decide +kernel
theorem dh_member_17 : decode cL_member 17 = .ok (.iconst 1, 1) := by decide +kernel
theorem dh_member_18 : decode cL_member 18 = .ok (.ireturn, 1) := by decide +kernel
theorem dh_member_19 : decode cL_member 19 = .ok (.iconst 0, 1) := by decide +kernel
theorem dh_member_20 : decode cL_member 20 = .ok (.ireturn, 1) := by decide +kernel
set_option maxHeartbeats 4000000 in
set_option maxRecDepth 100000 in
theorem lh_member (l : Launch) (D : va_G) (g : xe_G) {M M' : mi_H} {x qo : Nat} {aO : ClassId} {x1 : Int32} {x2 : Int32} {x3 : Int32} {y : Int32} {F : Nat → Option Value} {d : Nat} (hM : mi_met l g (mI 15) d [.ref x, .int x1, .int x2, .int x3] M (some (.int y)) M') (hx0 : M.1 x = some (.inr (11, F))) : Met l yL_member (.codeWith yL_member cL_member 6 (some .int) [(0, 12, 15, 19)] :: bg) (mi_rm (d + 1) (M'.2.1 - M.2.1) (M'.2.2 - M.2.2)) (lh_Pre g D M qo aO [.ref x, .int x1, .int x2, .int x3, .ref qo]) (lh_Q g D M qo aO (fun r M1 v => r = 0 ∧ M1 = M' ∧ v = Int32.toInt64 y)) (M'.2.1 - M.2.1) (M'.2.2 - M.2.2) (lh_A g M qo) := by
  refine xt_MetW (cc := cL_member) (maxL := 6) (ret := (some .int)) (hh := [(0, 12, 15, 19)]) (by decide) rfl ?_
  intro p e s m args below meth c s₁ B hml htab hv
  obtain ⟨rfl, ws, tys, fo, hr0, ho, hKo, hq, hE⟩ := hv
  have hx := B.exec
  have hb := B.bytes
  have hrt := B.returns
  have hts := atoms_spec (ws := (.codeWith yL_member cL_member 6 (some .int) [(0, 12, 15, 19)] :: bg)) B.pre
  have htb : ∀ w ∈ bg, w.before _ s = true := fun w h => hts w (List.mem_cons_of_mem _ h)
  have hown : s.vm.findClass RL = some m.cls := findClass_of_methodNamed B.named
  have hlocks := B.notSynchronized
  have hr : mi_rel g D (lh_A g M qo) s M s.heap ws tys := hr0.self.wide (fun q h => Or.inl h)
  have hA : ∀ q : Nat, s.heap.size ≤ q → lh_A g M qo q := fun q h => Or.inl (Or.inr (by rw [← hr.2.2.2.1]; exact h))
  have hS : va_S (lh_A g M qo) s.heap s.heap [] := va_S.rf
  have hqA : ¬ mi_A g M qo := fun h9 => h9.elim hq (fun h8 => by have h7 := oW.lt ho; have h6 := hr.2.2.2.1; omega)
  have hl := lv_entry ([.ref x, .int x1, .int x2, .int x3, .ref qo]) (n := 6) (Nat.le_of_ble_eq_true rfl)
  rw [lg_entry_eq]
  generalize (lg_sl ([.ref x, .int x1, .int x2, .int x3, .ref qo]) ++ List.replicate (6 - (lg_sl ([.ref x, .int x1, .int x2, .int x3, .ref qo])).length) Slot.unset).toArray = ls at hl ⊢
  have hl : lv_has ls 6 [(0, .ref x), (1, .int x1), (2, .int x2), (3, .int x3), (4, .ref qo)] := hl
  obtain ⟨q0, fs, hq0, -⟩ := mi_obj hr (show 11 < 100 by decide) hx0
  refine lv_aload hx hb dh_member_0 (lv_at hl 4 rfl) ?_
  refine lv_iconst (v := 0) hx hb dh_member_2 (by decide) ?_
  refine lv_aload_n hx hb dh_member_3 rfl (lv_at hl 0 rfl) ?_
  refine lv_iload_n hx hb dh_member_4 rfl (lv_at hl 1 rfl) ?_
  refine lv_iload_n hx hb dh_member_5 rfl (lv_at hl 2 rfl) ?_
  refine lv_iload_n hx hb dh_member_6 rfl (lv_at hl 3 rfl) ?_
  obtain ⟨m1, m2, hMet⟩ := hM
  have hMet : Met l yX11_member (.code yX11_member cX11_member 5 (some .int) :: bg) (mi_rm d (M'.2.1 - M.2.1) (M'.2.2 - M.2.2)) (mi_Pre g D M [.ref x, .int x1, .int x2, .int x3]) (mi_Q g D M (some (.int y)) M') (M'.2.1 - M.2.1) (M'.2.2 - M.2.2) (mi_A g M) := hMet D
  refine mi_goF (A := lh_A g M qo) (va_runV (As := [.int x1, .int x2, .int x3]) (rest := [.int 0, .ref qo]) ⟨hx, hb, hml, hown, htb⟩ hMet (bg_V 3 htb bg_1340 bg_1341 bg_1342 bg_774 bg_883 rfl rfl (by decide +kernel) ⟨by show d + 8 + 1 ≤ d + 1 + 8; omega, by show 8 + (5 + 11) + (40 * d + 1000) ≤ 40 * (d + 1) + 1000; omega⟩) ⟨mi_blind, va_recv hr.1 hr.2.1 (ci := 11) (q0 := q0) rfl hq0, mi_enter hr hS hA hE⟩ rfl rfl hl.1 rfl (lv_room (Nat.le_of_ble_eq_true rfl)) dh_member_7 ⟨by show 0 + (M'.2.1 - M.2.1) ≤ M'.2.1 - M.2.1; omega, by show 0 + (M'.2.2 - M.2.2) ≤ M'.2.2 - M.2.2; omega⟩) (fun q h => Or.inl h) hS (fun H locs ws1 tys1 hr1 hz hk hS => ?_)
  have ho := oW.kept ho (hk qo (oW.lt ho) hqA)
  refine W.widen (k := M'.2.1 - M.2.1) (n := M'.2.2 - M.2.2) (by omega) (by omega) ?_
  refine lv_i2l (v := Int32.toInt64 y) hx hb dh_member_10 rfl ?_
  refine lh_last hx hb ho hKo hS (Or.inr rfl) dh_member_11 (fun H1 locs fo1 ho hfo z1 oq hS => ?_)
  have hr2 := mi_rel.frame (H1 := H1) hr1 (fun a ha => oq a (fun e9 => hqA (e9 ▸ (hr1.lt ha).2)))
  rw [show ((M'.1, H1.size, M'.2.2) : mi_H) = M' from by rw [z1, hr1.2.2.2.1]] at hr2
  refine lv_goto (tgt := 19) hx hb dh_member_12 (by decide) ?_
  refine lv_iconst (v := 0) hx hb dh_member_19 (by decide) ?_
  exact W.iret (v := 0) hx hb hrt (fun t ht hW => ⟨⟨0, M', fo1, ws1, tys1, rfl, ⟨rfl, rfl, hfo⟩, by rw [ht]; exact hr2.vm hW.alike, by rw [ht]; exact ho⟩, hS.F ht⟩) hS.2.2 dh_member_20
set_option maxHeartbeats 4000000 in
set_option maxRecDepth 100000 in
theorem lhx_member (l : Launch) (D : va_G) (g : xe_G) {M : mi_H} {x qo : Nat} {aO : ClassId} {x1 : Int32} {x2 : Int32} {x3 : Int32} {F : Nat → Option Value} (hx0 : M.1 x = some (.inr (11, F))) (hnt : l.stackTraces = false) (hbad : x3 < 0 ∨ ¬ x3 ≤ 9) : Met l yL_member (.codeWith yL_member cL_member 6 (some .int) [(0, 12, 15, 19)] :: bg) ({ frames := 10, cells := 1, slots := 6, locals := 900 } : Room) (lh_Pre g D M qo aO [.ref x, .int x1, .int x2, .int x3, .ref qo]) (lh_Q g D M qo aO (fun r M1 _ => r = 1 ∧ ∃ z, M.2.1 ≤ z ∧ M1 = (M.1, z, M.2.2))) 1 6 (lh_A g M qo) := by
  refine xt_MetW (cc := cL_member) (maxL := 6) (ret := (some .int)) (hh := [(0, 12, 15, 19)]) (by decide) rfl ?_
  intro p e s m args below meth c s₁ B hml htab hv
  obtain ⟨rfl, ws, tys, fo, hr0, ho, hKo, hq, hE⟩ := hv
  have hx := B.exec
  have hb := B.bytes
  have hrt := B.returns
  have hts := atoms_spec (ws := (.codeWith yL_member cL_member 6 (some .int) [(0, 12, 15, 19)] :: bg)) B.pre
  have htb : ∀ w ∈ bg, w.before _ s = true := fun w h => hts w (List.mem_cons_of_mem _ h)
  have hown : s.vm.findClass RL = some m.cls := findClass_of_methodNamed B.named
  have hlocks := B.notSynchronized
  have hr : mi_rel g D (lh_A g M qo) s M s.heap ws tys := hr0.self.wide (fun q h => Or.inl h)
  have hA : ∀ q : Nat, s.heap.size ≤ q → lh_A g M qo q := fun q h => Or.inl (Or.inr (by rw [← hr.2.2.2.1]; exact h))
  have hS : va_S (lh_A g M qo) s.heap s.heap [] := va_S.rf
  have hqA : ¬ mi_A g M qo := fun h9 => h9.elim hq (fun h8 => by have h7 := oW.lt ho; have h6 := hr.2.2.2.1; omega)
  have hl := lv_entry ([.ref x, .int x1, .int x2, .int x3, .ref qo]) (n := 6) (Nat.le_of_ble_eq_true rfl)
  rw [lg_entry_eq]
  generalize (lg_sl ([.ref x, .int x1, .int x2, .int x3, .ref qo]) ++ List.replicate (6 - (lg_sl ([.ref x, .int x1, .int x2, .int x3, .ref qo])).length) Slot.unset).toArray = ls at hl ⊢
  have hl : lv_has ls 6 [(0, .ref x), (1, .int x1), (2, .int x2), (3, .int x3), (4, .ref qo)] := hl
  obtain ⟨q0, fs, hq0, -⟩ := mi_obj hr (show 11 < 100 by decide) hx0
  refine lv_aload hx hb dh_member_0 (lv_at hl 4 rfl) ?_
  refine lv_iconst (v := 0) hx hb dh_member_2 (by decide) ?_
  refine lv_aload_n hx hb dh_member_3 rfl (lv_at hl 0 rfl) ?_
  refine lv_iload_n hx hb dh_member_4 rfl (lv_at hl 1 rfl) ?_
  refine lv_iload_n hx hb dh_member_5 rfl (lv_at hl 2 rfl) ?_
  refine lv_iload_n hx hb dh_member_6 rfl (lv_at hl 3 rfl) ?_
  refine cx_goW (A := lh_A g M qo) (vx_runV (As := [.int x1, .int x2, .int x3]) (rest := [.int 0, .ref qo]) ⟨hx, hb, hml, hown, htb⟩ (cx_member l D g hnt hbad) (bg_V 3 htb bg_1340 bg_1341 bg_1342 bg_774 bg_883 rfl rfl (by decide +kernel) ⟨Nat.le_of_ble_eq_true rfl, Nat.le_of_ble_eq_true rfl⟩) ⟨mi_blind, va_recv hr.1 hr.2.1 (ci := 11) (q0 := q0) rfl hq0, mi_enter hr hS hA hE⟩ rfl rfl hl.1 rfl (lv_room (Nat.le_of_ble_eq_true rfl)) dh_member_7 ⟨Nat.le_of_ble_eq_true rfl, Nat.le_of_ble_eq_true rfl⟩) (fun q h => Or.inl h) hS hown (htb _ bg_1667) htab (by decide) (by decide) (fun x9 H locs ws1 tys1 hr1 hz hk hS => ?_)
  have ho := oW.kept ho (hk qo (oW.lt ho) hqA)
  refine W.widen (k := 1) (n := 6) (by decide) (by decide) ?_
  refine lv_astore (lv' := [(5, .ref x9), (0, .ref x), (1, .int x1), (2, .int x2), (3, .int x3), (4, .ref qo)]) hx hb dh_member_15 hl (by decide) rfl (fun ls hl => ?_)
  refine lv_iconst (v := 1) hx hb dh_member_17 (by decide) ?_
  exact W.iret (v := 1) hx hb hrt (fun t ht hW => ⟨⟨1, (M.1, H.size, M.2.2), fo, ws1, tys1, rfl, ⟨rfl, H.size, by rw [← hr.2.2.2.1]; exact hz, rfl⟩, by rw [ht]; exact hr1.vm hW.alike, by rw [ht]; exact ho⟩, hS.F ht⟩) hS.2.2 dh_member_18
theorem dh_row_0 : decode cL_row 0 = .ok (.aload 4, 2) := by decide +kernel
theorem dh_row_2 : decode cL_row 2 = .ok (.iconst 0, 1) := by decide +kernel
theorem dh_row_3 : decode cL_row 3 = .ok (.aload_n 0, 1) := by decide +kernel
theorem dh_row_4 : decode cL_row 4 = .ok (.iload_n 1, 1) := by decide +kernel
theorem dh_row_5 : decode cL_row 5 = .ok (.iload_n 2, 1) := by decide +kernel
theorem dh_row_6 : decode cL_row 6 = .ok (.iload_n 3, 1) := by decide +kernel
theorem dh_row_7 : decode cL_row 7 = .ok (.invokevirtual 32, 3) := by decide +kernel
theorem dh_row_10 : decode cL_row 10 = .ok (.i2l, 1) := by decide +kernel
theorem dh_row_11 : decode cL_row 11 = .ok (.lastore, 1) := by decide +kernel
theorem dh_row_12 : decode cL_row 12 = .ok (.goto 7, 3) := by decide +kernel
theorem dh_row_15 : decode cL_row 15 = .ok (.astore 5, 2) := by decide +kernel
theorem dh_row_17 : decode cL_row 17 = .ok (.iconst 1, 1) := by decide +kernel
theorem dh_row_18 : decode cL_row 18 = .ok (.ireturn, 1) := by decide +kernel
theorem dh_row_19 : decode cL_row 19 = .ok (.iconst 0, 1) := by decide +kernel
theorem dh_row_20 : decode cL_row 20 = .ok (.ireturn, 1) := by decide +kernel
set_option maxHeartbeats 4000000 in
set_option maxRecDepth 100000 in
theorem lh_row (l : Launch) (D : va_G) (g : xe_G) {M M' : mi_H} {x qo : Nat} {aO : ClassId} {x1 : Int32} {x2 : Int32} {x3 : Int32} {y : Int32} {F : Nat → Option Value} {d : Nat} (hM : mi_met l g (mI 19) d [.ref x, .int x1, .int x2, .int x3] M (some (.int y)) M') (hx0 : M.1 x = some (.inr (11, F))) : Met l yL_row (.codeWith yL_row cL_row 6 (some .int) [(0, 12, 15, 19)] :: bg) (mi_rm (d + 1) (M'.2.1 - M.2.1) (M'.2.2 - M.2.2)) (lh_Pre g D M qo aO [.ref x, .int x1, .int x2, .int x3, .ref qo]) (lh_Q g D M qo aO (fun r M1 v => r = 0 ∧ M1 = M' ∧ v = Int32.toInt64 y)) (M'.2.1 - M.2.1) (M'.2.2 - M.2.2) (lh_A g M qo) := by
  refine xt_MetW (cc := cL_row) (maxL := 6) (ret := (some .int)) (hh := [(0, 12, 15, 19)]) (by decide) rfl ?_
  intro p e s m args below meth c s₁ B hml htab hv
  obtain ⟨rfl, ws, tys, fo, hr0, ho, hKo, hq, hE⟩ := hv
  have hx := B.exec
  have hb := B.bytes
  have hrt := B.returns
  have hts := atoms_spec (ws := (.codeWith yL_row cL_row 6 (some .int) [(0, 12, 15, 19)] :: bg)) B.pre
  have htb : ∀ w ∈ bg, w.before _ s = true := fun w h => hts w (List.mem_cons_of_mem _ h)
  have hown : s.vm.findClass RL = some m.cls := findClass_of_methodNamed B.named
  have hlocks := B.notSynchronized
  have hr : mi_rel g D (lh_A g M qo) s M s.heap ws tys := hr0.self.wide (fun q h => Or.inl h)
  have hA : ∀ q : Nat, s.heap.size ≤ q → lh_A g M qo q := fun q h => Or.inl (Or.inr (by rw [← hr.2.2.2.1]; exact h))
  have hS : va_S (lh_A g M qo) s.heap s.heap [] := va_S.rf
  have hqA : ¬ mi_A g M qo := fun h9 => h9.elim hq (fun h8 => by have h7 := oW.lt ho; have h6 := hr.2.2.2.1; omega)
  have hl := lv_entry ([.ref x, .int x1, .int x2, .int x3, .ref qo]) (n := 6) (Nat.le_of_ble_eq_true rfl)
  rw [lg_entry_eq]
  generalize (lg_sl ([.ref x, .int x1, .int x2, .int x3, .ref qo]) ++ List.replicate (6 - (lg_sl ([.ref x, .int x1, .int x2, .int x3, .ref qo])).length) Slot.unset).toArray = ls at hl ⊢
  have hl : lv_has ls 6 [(0, .ref x), (1, .int x1), (2, .int x2), (3, .int x3), (4, .ref qo)] := hl
  obtain ⟨q0, fs, hq0, -⟩ := mi_obj hr (show 11 < 100 by decide) hx0
  refine lv_aload hx hb dh_row_0 (lv_at hl 4 rfl) ?_
  refine lv_iconst (v := 0) hx hb dh_row_2 (by decide) ?_
  refine lv_aload_n hx hb dh_row_3 rfl (lv_at hl 0 rfl) ?_
  refine lv_iload_n hx hb dh_row_4 rfl (lv_at hl 1 rfl) ?_
  refine lv_iload_n hx hb dh_row_5 rfl (lv_at hl 2 rfl) ?_
  refine lv_iload_n hx hb dh_row_6 rfl (lv_at hl 3 rfl) ?_
  obtain ⟨m1, m2, hMet⟩ := hM
  have hMet : Met l yX11_row (.code yX11_row cX11_row 5 (some .int) :: bg) (mi_rm d (M'.2.1 - M.2.1) (M'.2.2 - M.2.2)) (mi_Pre g D M [.ref x, .int x1, .int x2, .int x3]) (mi_Q g D M (some (.int y)) M') (M'.2.1 - M.2.1) (M'.2.2 - M.2.2) (mi_A g M) := hMet D
  refine mi_goF (A := lh_A g M qo) (va_runV (As := [.int x1, .int x2, .int x3]) (rest := [.int 0, .ref qo]) ⟨hx, hb, hml, hown, htb⟩ hMet (bg_V 3 htb bg_1344 bg_1345 bg_1346 bg_774 bg_894 rfl rfl (by decide +kernel) ⟨by show d + 8 + 1 ≤ d + 1 + 8; omega, by show 8 + (5 + 11) + (40 * d + 1000) ≤ 40 * (d + 1) + 1000; omega⟩) ⟨mi_blind, va_recv hr.1 hr.2.1 (ci := 11) (q0 := q0) rfl hq0, mi_enter hr hS hA hE⟩ rfl rfl hl.1 rfl (lv_room (Nat.le_of_ble_eq_true rfl)) dh_row_7 ⟨by show 0 + (M'.2.1 - M.2.1) ≤ M'.2.1 - M.2.1; omega, by show 0 + (M'.2.2 - M.2.2) ≤ M'.2.2 - M.2.2; omega⟩) (fun q h => Or.inl h) hS (fun H locs ws1 tys1 hr1 hz hk hS => ?_)
  have ho := oW.kept ho (hk qo (oW.lt ho) hqA)
  refine W.widen (k := M'.2.1 - M.2.1) (n := M'.2.2 - M.2.2) (by omega) (by omega) ?_
  refine lv_i2l (v := Int32.toInt64 y) hx hb dh_row_10 rfl ?_
  refine lh_last hx hb ho hKo hS (Or.inr rfl) dh_row_11 (fun H1 locs fo1 ho hfo z1 oq hS => ?_)
  have hr2 := mi_rel.frame (H1 := H1) hr1 (fun a ha => oq a (fun e9 => hqA (e9 ▸ (hr1.lt ha).2)))
  rw [show ((M'.1, H1.size, M'.2.2) : mi_H) = M' from by rw [z1, hr1.2.2.2.1]] at hr2
  refine lv_goto (tgt := 19) hx hb dh_row_12 (by decide) ?_
  refine lv_iconst (v := 0) hx hb dh_row_19 (by decide) ?_
  exact W.iret (v := 0) hx hb hrt (fun t ht hW => ⟨⟨0, M', fo1, ws1, tys1, rfl, ⟨rfl, rfl, hfo⟩, by rw [ht]; exact hr2.vm hW.alike, by rw [ht]; exact ho⟩, hS.F ht⟩) hS.2.2 dh_row_20
set_option maxHeartbeats 4000000 in
set_option maxRecDepth 100000 in
theorem lhx_row (l : Launch) (D : va_G) (g : xe_G) {M : mi_H} {x qo : Nat} {aO : ClassId} {x1 : Int32} {x2 : Int32} {x3 : Int32} {F : Nat → Option Value} (hx0 : M.1 x = some (.inr (11, F))) (hnt : l.stackTraces = false) (hbad : x3 < 0 ∨ ¬ x3 ≤ 3) : Met l yL_row (.codeWith yL_row cL_row 6 (some .int) [(0, 12, 15, 19)] :: bg) ({ frames := 10, cells := 1, slots := 6, locals := 900 } : Room) (lh_Pre g D M qo aO [.ref x, .int x1, .int x2, .int x3, .ref qo]) (lh_Q g D M qo aO (fun r M1 _ => r = 1 ∧ ∃ z, M.2.1 ≤ z ∧ M1 = (M.1, z, M.2.2))) 1 6 (lh_A g M qo) := by
  refine xt_MetW (cc := cL_row) (maxL := 6) (ret := (some .int)) (hh := [(0, 12, 15, 19)]) (by decide) rfl ?_
  intro p e s m args below meth c s₁ B hml htab hv
  obtain ⟨rfl, ws, tys, fo, hr0, ho, hKo, hq, hE⟩ := hv
  have hx := B.exec
  have hb := B.bytes
  have hrt := B.returns
  have hts := atoms_spec (ws := (.codeWith yL_row cL_row 6 (some .int) [(0, 12, 15, 19)] :: bg)) B.pre
  have htb : ∀ w ∈ bg, w.before _ s = true := fun w h => hts w (List.mem_cons_of_mem _ h)
  have hown : s.vm.findClass RL = some m.cls := findClass_of_methodNamed B.named
  have hlocks := B.notSynchronized
  have hr : mi_rel g D (lh_A g M qo) s M s.heap ws tys := hr0.self.wide (fun q h => Or.inl h)
  have hA : ∀ q : Nat, s.heap.size ≤ q → lh_A g M qo q := fun q h => Or.inl (Or.inr (by rw [← hr.2.2.2.1]; exact h))
  have hS : va_S (lh_A g M qo) s.heap s.heap [] := va_S.rf
  have hqA : ¬ mi_A g M qo := fun h9 => h9.elim hq (fun h8 => by have h7 := oW.lt ho; have h6 := hr.2.2.2.1; omega)
  have hl := lv_entry ([.ref x, .int x1, .int x2, .int x3, .ref qo]) (n := 6) (Nat.le_of_ble_eq_true rfl)
  rw [lg_entry_eq]
  generalize (lg_sl ([.ref x, .int x1, .int x2, .int x3, .ref qo]) ++ List.replicate (6 - (lg_sl ([.ref x, .int x1, .int x2, .int x3, .ref qo])).length) Slot.unset).toArray = ls at hl ⊢
  have hl : lv_has ls 6 [(0, .ref x), (1, .int x1), (2, .int x2), (3, .int x3), (4, .ref qo)] := hl
  obtain ⟨q0, fs, hq0, -⟩ := mi_obj hr (show 11 < 100 by decide) hx0
  refine lv_aload hx hb dh_row_0 (lv_at hl 4 rfl) ?_
  refine lv_iconst (v := 0) hx hb dh_row_2 (by decide) ?_
  refine lv_aload_n hx hb dh_row_3 rfl (lv_at hl 0 rfl) ?_
  refine lv_iload_n hx hb dh_row_4 rfl (lv_at hl 1 rfl) ?_
  refine lv_iload_n hx hb dh_row_5 rfl (lv_at hl 2 rfl) ?_
  refine lv_iload_n hx hb dh_row_6 rfl (lv_at hl 3 rfl) ?_
  refine cx_goW (A := lh_A g M qo) (vx_runV (As := [.int x1, .int x2, .int x3]) (rest := [.int 0, .ref qo]) ⟨hx, hb, hml, hown, htb⟩ (cx_row l D g hnt hbad) (bg_V 3 htb bg_1344 bg_1345 bg_1346 bg_774 bg_894 rfl rfl (by decide +kernel) ⟨Nat.le_of_ble_eq_true rfl, Nat.le_of_ble_eq_true rfl⟩) ⟨mi_blind, va_recv hr.1 hr.2.1 (ci := 11) (q0 := q0) rfl hq0, mi_enter hr hS hA hE⟩ rfl rfl hl.1 rfl (lv_room (Nat.le_of_ble_eq_true rfl)) dh_row_7 ⟨Nat.le_of_ble_eq_true rfl, Nat.le_of_ble_eq_true rfl⟩) (fun q h => Or.inl h) hS hown (htb _ bg_1667) htab (by decide) (by decide) (fun x9 H locs ws1 tys1 hr1 hz hk hS => ?_)
  have ho := oW.kept ho (hk qo (oW.lt ho) hqA)
  refine W.widen (k := 1) (n := 6) (by decide) (by decide) ?_
  refine lv_astore (lv' := [(5, .ref x9), (0, .ref x), (1, .int x1), (2, .int x2), (3, .int x3), (4, .ref qo)]) hx hb dh_row_15 hl (by decide) rfl (fun ls hl => ?_)
  refine lv_iconst (v := 1) hx hb dh_row_17 (by decide) ?_
  exact W.iret (v := 1) hx hb hrt (fun t ht hW => ⟨⟨1, (M.1, H.size, M.2.2), fo, ws1, tys1, rfl, ⟨rfl, H.size, by rw [← hr.2.2.2.1]; exact hz, rfl⟩, by rw [ht]; exact hr1.vm hW.alike, by rw [ht]; exact ho⟩, hS.F ht⟩) hS.2.2 dh_row_18
theorem dh_instruction_0 : decode cL_instruction 0 = .ok (.aload 4, 2) := by decide +kernel
theorem dh_instruction_2 : decode cL_instruction 2 = .ok (.iconst 0, 1) := by decide +kernel
theorem dh_instruction_3 : decode cL_instruction 3 = .ok (.aload_n 0, 1) := by decide +kernel
theorem dh_instruction_4 : decode cL_instruction 4 = .ok (.iload_n 1, 1) := by decide +kernel
theorem dh_instruction_5 : decode cL_instruction 5 = .ok (.iload_n 2, 1) := by decide +kernel
theorem dh_instruction_6 : decode cL_instruction 6 = .ok (.iload_n 3, 1) := by decide +kernel
theorem dh_instruction_7 : decode cL_instruction 7 = .ok (.invokevirtual 36, 3) := by decide +kernel
theorem dh_instruction_10 : decode cL_instruction 10 = .ok (.i2l, 1) := by decide +kernel
theorem dh_instruction_11 : decode cL_instruction 11 = .ok (.lastore, 1) := by decide +kernel
theorem dh_instruction_12 : decode cL_instruction 12 = .ok (.goto 7, 3) := by decide +kernel
theorem dh_instruction_15 : decode cL_instruction 15 = .ok (.astore 5, 2) := by decide +kernel
theorem dh_instruction_17 : decode cL_instruction 17 = .ok (.iconst 1, 1) := by decide +kernel
theorem dh_instruction_18 : decode cL_instruction 18 = .ok (.ireturn, 1) := by decide +kernel
theorem dh_instruction_19 : decode cL_instruction 19 = .ok (.iconst 0, 1) := by decide +kernel
theorem dh_instruction_20 : decode cL_instruction 20 = .ok (.ireturn, 1) := by decide +kernel
set_option maxHeartbeats 4000000 in
set_option maxRecDepth 100000 in
theorem lh_instruction (l : Launch) (D : va_G) (g : xe_G) {M M' : mi_H} {x qo : Nat} {aO : ClassId} {x1 : Int32} {x2 : Int32} {x3 : Int32} {y : Int32} {F : Nat → Option Value} {d : Nat} (hM : mi_met l g (mI 12) d [.ref x, .int x1, .int x2, .int x3] M (some (.int y)) M') (hx0 : M.1 x = some (.inr (11, F))) : Met l yL_instruction (.codeWith yL_instruction cL_instruction 6 (some .int) [(0, 12, 15, 19)] :: bg) (mi_rm (d + 1) (M'.2.1 - M.2.1) (M'.2.2 - M.2.2)) (lh_Pre g D M qo aO [.ref x, .int x1, .int x2, .int x3, .ref qo]) (lh_Q g D M qo aO (fun r M1 v => r = 0 ∧ M1 = M' ∧ v = Int32.toInt64 y)) (M'.2.1 - M.2.1) (M'.2.2 - M.2.2) (lh_A g M qo) := by
  refine xt_MetW (cc := cL_instruction) (maxL := 6) (ret := (some .int)) (hh := [(0, 12, 15, 19)]) (by decide) rfl ?_
  intro p e s m args below meth c s₁ B hml htab hv
  obtain ⟨rfl, ws, tys, fo, hr0, ho, hKo, hq, hE⟩ := hv
  have hx := B.exec
  have hb := B.bytes
  have hrt := B.returns
  have hts := atoms_spec (ws := (.codeWith yL_instruction cL_instruction 6 (some .int) [(0, 12, 15, 19)] :: bg)) B.pre
  have htb : ∀ w ∈ bg, w.before _ s = true := fun w h => hts w (List.mem_cons_of_mem _ h)
  have hown : s.vm.findClass RL = some m.cls := findClass_of_methodNamed B.named
  have hlocks := B.notSynchronized
  have hr : mi_rel g D (lh_A g M qo) s M s.heap ws tys := hr0.self.wide (fun q h => Or.inl h)
  have hA : ∀ q : Nat, s.heap.size ≤ q → lh_A g M qo q := fun q h => Or.inl (Or.inr (by rw [← hr.2.2.2.1]; exact h))
  have hS : va_S (lh_A g M qo) s.heap s.heap [] := va_S.rf
  have hqA : ¬ mi_A g M qo := fun h9 => h9.elim hq (fun h8 => by have h7 := oW.lt ho; have h6 := hr.2.2.2.1; omega)
  have hl := lv_entry ([.ref x, .int x1, .int x2, .int x3, .ref qo]) (n := 6) (Nat.le_of_ble_eq_true rfl)
  rw [lg_entry_eq]
  generalize (lg_sl ([.ref x, .int x1, .int x2, .int x3, .ref qo]) ++ List.replicate (6 - (lg_sl ([.ref x, .int x1, .int x2, .int x3, .ref qo])).length) Slot.unset).toArray = ls at hl ⊢
  have hl : lv_has ls 6 [(0, .ref x), (1, .int x1), (2, .int x2), (3, .int x3), (4, .ref qo)] := hl
  obtain ⟨q0, fs, hq0, -⟩ := mi_obj hr (show 11 < 100 by decide) hx0
  refine lv_aload hx hb dh_instruction_0 (lv_at hl 4 rfl) ?_
  refine lv_iconst (v := 0) hx hb dh_instruction_2 (by decide) ?_
  refine lv_aload_n hx hb dh_instruction_3 rfl (lv_at hl 0 rfl) ?_
  refine lv_iload_n hx hb dh_instruction_4 rfl (lv_at hl 1 rfl) ?_
  refine lv_iload_n hx hb dh_instruction_5 rfl (lv_at hl 2 rfl) ?_
  refine lv_iload_n hx hb dh_instruction_6 rfl (lv_at hl 3 rfl) ?_
  obtain ⟨m1, m2, hMet⟩ := hM
  have hMet : Met l yX11_instruction (.code yX11_instruction cX11_instruction 5 (some .int) :: bg) (mi_rm d (M'.2.1 - M.2.1) (M'.2.2 - M.2.2)) (mi_Pre g D M [.ref x, .int x1, .int x2, .int x3]) (mi_Q g D M (some (.int y)) M') (M'.2.1 - M.2.1) (M'.2.2 - M.2.2) (mi_A g M) := hMet D
  refine mi_goF (A := lh_A g M qo) (va_runV (As := [.int x1, .int x2, .int x3]) (rest := [.int 0, .ref qo]) ⟨hx, hb, hml, hown, htb⟩ hMet (bg_V 3 htb bg_1348 bg_1349 bg_1350 bg_774 bg_911 rfl rfl (by decide +kernel) ⟨by show d + 8 + 1 ≤ d + 1 + 8; omega, by show 8 + (5 + 11) + (40 * d + 1000) ≤ 40 * (d + 1) + 1000; omega⟩) ⟨mi_blind, va_recv hr.1 hr.2.1 (ci := 11) (q0 := q0) rfl hq0, mi_enter hr hS hA hE⟩ rfl rfl hl.1 rfl (lv_room (Nat.le_of_ble_eq_true rfl)) dh_instruction_7 ⟨by show 0 + (M'.2.1 - M.2.1) ≤ M'.2.1 - M.2.1; omega, by show 0 + (M'.2.2 - M.2.2) ≤ M'.2.2 - M.2.2; omega⟩) (fun q h => Or.inl h) hS (fun H locs ws1 tys1 hr1 hz hk hS => ?_)
  have ho := oW.kept ho (hk qo (oW.lt ho) hqA)
  refine W.widen (k := M'.2.1 - M.2.1) (n := M'.2.2 - M.2.2) (by omega) (by omega) ?_
  refine lv_i2l (v := Int32.toInt64 y) hx hb dh_instruction_10 rfl ?_
  refine lh_last hx hb ho hKo hS (Or.inr rfl) dh_instruction_11 (fun H1 locs fo1 ho hfo z1 oq hS => ?_)
  have hr2 := mi_rel.frame (H1 := H1) hr1 (fun a ha => oq a (fun e9 => hqA (e9 ▸ (hr1.lt ha).2)))
  rw [show ((M'.1, H1.size, M'.2.2) : mi_H) = M' from by rw [z1, hr1.2.2.2.1]] at hr2
  refine lv_goto (tgt := 19) hx hb dh_instruction_12 (by decide) ?_
  refine lv_iconst (v := 0) hx hb dh_instruction_19 (by decide) ?_
  exact W.iret (v := 0) hx hb hrt (fun t ht hW => ⟨⟨0, M', fo1, ws1, tys1, rfl, ⟨rfl, rfl, hfo⟩, by rw [ht]; exact hr2.vm hW.alike, by rw [ht]; exact ho⟩, hS.F ht⟩) hS.2.2 dh_instruction_20
set_option maxHeartbeats 4000000 in
set_option maxRecDepth 100000 in
theorem lhx_instruction (l : Launch) (D : va_G) (g : xe_G) {M : mi_H} {x qo : Nat} {aO : ClassId} {x1 : Int32} {x2 : Int32} {x3 : Int32} {F : Nat → Option Value} (hx0 : M.1 x = some (.inr (11, F))) (hnt : l.stackTraces = false) (hbad : x3 < 0 ∨ ¬ x3 ≤ 4) : Met l yL_instruction (.codeWith yL_instruction cL_instruction 6 (some .int) [(0, 12, 15, 19)] :: bg) ({ frames := 10, cells := 1, slots := 6, locals := 900 } : Room) (lh_Pre g D M qo aO [.ref x, .int x1, .int x2, .int x3, .ref qo]) (lh_Q g D M qo aO (fun r M1 _ => r = 1 ∧ ∃ z, M.2.1 ≤ z ∧ M1 = (M.1, z, M.2.2))) 1 6 (lh_A g M qo) := by
  refine xt_MetW (cc := cL_instruction) (maxL := 6) (ret := (some .int)) (hh := [(0, 12, 15, 19)]) (by decide) rfl ?_
  intro p e s m args below meth c s₁ B hml htab hv
  obtain ⟨rfl, ws, tys, fo, hr0, ho, hKo, hq, hE⟩ := hv
  have hx := B.exec
  have hb := B.bytes
  have hrt := B.returns
  have hts := atoms_spec (ws := (.codeWith yL_instruction cL_instruction 6 (some .int) [(0, 12, 15, 19)] :: bg)) B.pre
  have htb : ∀ w ∈ bg, w.before _ s = true := fun w h => hts w (List.mem_cons_of_mem _ h)
  have hown : s.vm.findClass RL = some m.cls := findClass_of_methodNamed B.named
  have hlocks := B.notSynchronized
  have hr : mi_rel g D (lh_A g M qo) s M s.heap ws tys := hr0.self.wide (fun q h => Or.inl h)
  have hA : ∀ q : Nat, s.heap.size ≤ q → lh_A g M qo q := fun q h => Or.inl (Or.inr (by rw [← hr.2.2.2.1]; exact h))
  have hS : va_S (lh_A g M qo) s.heap s.heap [] := va_S.rf
  have hqA : ¬ mi_A g M qo := fun h9 => h9.elim hq (fun h8 => by have h7 := oW.lt ho; have h6 := hr.2.2.2.1; omega)
  have hl := lv_entry ([.ref x, .int x1, .int x2, .int x3, .ref qo]) (n := 6) (Nat.le_of_ble_eq_true rfl)
  rw [lg_entry_eq]
  generalize (lg_sl ([.ref x, .int x1, .int x2, .int x3, .ref qo]) ++ List.replicate (6 - (lg_sl ([.ref x, .int x1, .int x2, .int x3, .ref qo])).length) Slot.unset).toArray = ls at hl ⊢
  have hl : lv_has ls 6 [(0, .ref x), (1, .int x1), (2, .int x2), (3, .int x3), (4, .ref qo)] := hl
  obtain ⟨q0, fs, hq0, -⟩ := mi_obj hr (show 11 < 100 by decide) hx0
  refine lv_aload hx hb dh_instruction_0 (lv_at hl 4 rfl) ?_
  refine lv_iconst (v := 0) hx hb dh_instruction_2 (by decide) ?_
  refine lv_aload_n hx hb dh_instruction_3 rfl (lv_at hl 0 rfl) ?_
  refine lv_iload_n hx hb dh_instruction_4 rfl (lv_at hl 1 rfl) ?_
  refine lv_iload_n hx hb dh_instruction_5 rfl (lv_at hl 2 rfl) ?_
  refine lv_iload_n hx hb dh_instruction_6 rfl (lv_at hl 3 rfl) ?_
  refine cx_goW (A := lh_A g M qo) (vx_runV (As := [.int x1, .int x2, .int x3]) (rest := [.int 0, .ref qo]) ⟨hx, hb, hml, hown, htb⟩ (cx_instruction l D g hnt hbad) (bg_V 3 htb bg_1348 bg_1349 bg_1350 bg_774 bg_911 rfl rfl (by decide +kernel) ⟨Nat.le_of_ble_eq_true rfl, Nat.le_of_ble_eq_true rfl⟩) ⟨mi_blind, va_recv hr.1 hr.2.1 (ci := 11) (q0 := q0) rfl hq0, mi_enter hr hS hA hE⟩ rfl rfl hl.1 rfl (lv_room (Nat.le_of_ble_eq_true rfl)) dh_instruction_7 ⟨Nat.le_of_ble_eq_true rfl, Nat.le_of_ble_eq_true rfl⟩) (fun q h => Or.inl h) hS hown (htb _ bg_1667) htab (by decide) (by decide) (fun x9 H locs ws1 tys1 hr1 hz hk hS => ?_)
  have ho := oW.kept ho (hk qo (oW.lt ho) hqA)
  refine W.widen (k := 1) (n := 6) (by decide) (by decide) ?_
  refine lv_astore (lv' := [(5, .ref x9), (0, .ref x), (1, .int x1), (2, .int x2), (3, .int x3), (4, .ref qo)]) hx hb dh_instruction_15 hl (by decide) rfl (fun ls hl => ?_)
  refine lv_iconst (v := 1) hx hb dh_instruction_17 (by decide) ?_
  exact W.iret (v := 1) hx hb hrt (fun t ht hW => ⟨⟨1, (M.1, H.size, M.2.2), fo, ws1, tys1, rfl, ⟨rfl, H.size, by rw [← hr.2.2.2.1]; exact hz, rfl⟩, by rw [ht]; exact hr1.vm hW.alike, by rw [ht]; exact ho⟩, hS.F ht⟩) hS.2.2 dh_instruction_18
