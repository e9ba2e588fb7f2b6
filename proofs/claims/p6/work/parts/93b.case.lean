/-! cases of the law (laid by wip/p2/c92.py) -/
theorem dl_196 : decode cL_law 196 = .ok (.aload_n 1, 1) := by decide +kernel
theorem dl_197 : decode cL_law 197 = .ok (.aload_n 0, 1) := by decide +kernel
theorem dl_198 : decode cL_law 198 = .ok (.iload 4, 2) := by decide +kernel
theorem dl_200 : decode cL_law 200 = .ok (.iconst 1, 1) := by decide +kernel
theorem dl_201 : decode cL_law 201 = .ok (.iadd, 1) := by decide +kernel
theorem dl_202 : decode cL_law 202 = .ok (.iaload, 1) := by decide +kernel
theorem dl_203 : decode cL_law 203 = .ok (.aload_n 3, 1) := by decide +kernel
theorem dl_204 : decode cL_law 204 = .ok (.invokestatic 49, 3) := by decide +kernel
theorem dl_207 : decode cL_law 207 = .ok (.istore 5, 2) := by decide +kernel
theorem dl_209 : decode cL_law 209 = .ok (.aload_n 2, 1) := by decide +kernel
theorem dl_210 : decode cL_law 210 = .ok (.aload_n 0, 1) := by decide +kernel
theorem dl_211 : decode cL_law 211 = .ok (.iload 4, 2) := by decide +kernel
theorem dl_213 : decode cL_law 213 = .ok (.iconst 1, 1) := by decide +kernel
theorem dl_214 : decode cL_law 214 = .ok (.iadd, 1) := by decide +kernel
theorem dl_215 : decode cL_law 215 = .ok (.iaload, 1) := by decide +kernel
theorem dl_216 : decode cL_law 216 = .ok (.invokevirtual 52, 3) := by decide +kernel
theorem dl_219 : decode cL_law 219 = .ok (.istore 6, 2) := by decide +kernel
theorem dl_221 : decode cL_law 221 = .ok (.goto 588, 3) := by decide +kernel
theorem dl_224 : decode cL_law 224 = .ok (.aload_n 1, 1) := by decide +kernel
theorem dl_225 : decode cL_law 225 = .ok (.invokevirtual 53, 3) := by decide +kernel
theorem dl_228 : decode cL_law 228 = .ok (.pop, 1) := by decide +kernel
theorem dl_229 : decode cL_law 229 = .ok (.aload_n 2, 1) := by decide +kernel
theorem dl_230 : decode cL_law 230 = .ok (.invokevirtual 57, 3) := by decide +kernel
theorem dl_233 : decode cL_law 233 = .ok (.pop, 1) := by decide +kernel
theorem dl_234 : decode cL_law 234 = .ok (.goto 575, 3) := by decide +kernel
theorem dl_237 : decode cL_law 237 = .ok (.aload_n 1, 1) := by decide +kernel
theorem dl_238 : decode cL_law 238 = .ok (.invokevirtual 58, 3) := by decide +kernel
theorem dl_241 : decode cL_law 241 = .ok (.pop, 1) := by decide +kernel
theorem dl_242 : decode cL_law 242 = .ok (.aload_n 2, 1) := by decide +kernel
theorem dl_243 : decode cL_law 243 = .ok (.invokevirtual 61, 3) := by decide +kernel
theorem dl_246 : decode cL_law 246 = .ok (.pop, 1) := by decide +kernel
theorem dl_247 : decode cL_law 247 = .ok (.goto 562, 3) := by decide +kernel
section LWD
variable {p : Program} {l : Launch} {e : Env} {s : State} {m : MethodId} {below : List Frame} {meth : Method} {c : Code} {A : Nat → Prop} {b L : Nat} {xs : Nat → Int32} {D : va_G} {g : xe_G} {x m0 qo : Nat} {aO : ClassId} {q : Nat → Nat} {kr : rR} {Ic : rI} {Rc : rR}
variable {cc : GH} {fed P cells slots : Nat} {fo : Nat → Int64} {H : Heap} {locs : List Loc} {ls : Array Slot} {Q : State → Prop} {i : Int32}

set_option maxHeartbeats 4000000 in
set_option maxRecDepth 100000 in
theorem law_1ok (hx : p.tables.exec = Jvm.exec) (hb : c.code = cL_law) (hml : c.maxLocals = 7) (hown : s.vm.findClass RL = some m.cls) (htb : ∀ w ∈ bg, w.before #[Value.ref b] s = true) (hA : ∀ q : Nat, s.heap.size ≤ q → A q) (hE : xe_E g A s s.heap) (hnt : l.stackTraces = false) (hX : va_X b L xs s s.heap) (hbl : b < s.heap.size) (hbA : ¬ A b) (hKo : va_K D vwCl [(aO, .long)] s) (hAo : A qo) (hi1 : vp_in (i + 1) L) (hi2 : vp_in (i + 2) L) (hi3 : vp_in (i + 3) L) (hi4 : vp_in (i + 4) L) (hi5 : vp_in (i + 5) L) (h3 : L3 g D A s x m0 q kr Ic Rc qo aO mT1 cc cc fed P fo H) (hq0 : ¬ xs (Int32.toNatClampNeg (i + 1)) < 0) (hq1 : xs (Int32.toNatClampNeg (i + 1)) ≤ nI cc.1) (hS : va_S A s.heap H locs) (hl : lv_has ls 7 [(0, .ref b), (1, .ref x), (2, .ref m0), (3, .ref qo), (4, .int i)]) (hc : cells + 320026 ≤ 601024) (hs : slots + 320064 + 40 * fed ≤ 7293034)
    (kk : ∀ (P1 : Nat) (cc1 : GH) (fo1 : Nat → Int64) (H1 : Heap) (locs1 : List Loc) (ls1 : Array Slot), P ≤ P1 → L3 g D A s x m0 q kr Ic Rc qo aO mT1 cc1 cc1 fed P1 fo1 H1 → va_S A s.heap H1 locs1 → lv_has ls1 7 [(0, .ref b), (1, .ref x), (2, .ref m0), (3, .ref qo), (4, .int i)] → W p l e room_1 s m #[Value.ref b] below meth c H1 locs1 (cells + (P1 - P) + 26) (slots + (P1 - P) + (64 + 40 * fed)) Q (F0 m 809 ls1 [])) :
    W p l e room_1 s m #[Value.ref b] below meth c H locs cells slots Q (F0 m 196 ls []) := by
  have hpt := h3.pot
  refine lv_aload_n hx hb dl_196 rfl (lv_at hl 1 rfl) ?_
  refine lv_aload_n hx hb dl_197 rfl (lv_at hl 0 rfl) ?_
  refine lv_iload hx hb dl_198 (lv_at hl 4 rfl) ?_
  refine lv_iconst (v := 1) hx hb dl_200 (by decide) ?_
  refine lv_iadd hx hb dl_201 ?_
  refine va_sld hx hb hX hbl hbA hS hi1 dl_202 ?_
  refine lv_aload_n hx hb dl_203 rfl (lv_at hl 3 rfl) ?_
  refine lc_hlp (n := 3) (av := [.ref x, .int (xs (Int32.toNatClampNeg (i + 1))), .ref qo]) (yh := yL_end) (bytes := cL_end) (maxL := 4) (hh := [(0, 9, 12, 19)]) (S := 64 + 40 * fed) hx hb hml hown htb hA hE bg_1366 bg_1367 bg_1362 bg_1327 ⟨by decide, by decide, by decide +kernel⟩ (by decide) dl_204 rfl rfl h3 hS hl.1 hKo hAo (fun M hG => hp_end_ok l D g hnt hG hq0 hq1) (by omega) (by omega) (fun r P1 fo1 H locs hV hP1 h3 hS => ?_)
  have hpt := h3.pot
  obtain ⟨rfl, hfo⟩ := hV
  refine lv_istore (lv' := [(5, .int 0), (0, .ref b), (1, .ref x), (2, .ref m0), (3, .ref qo), (4, .int i)]) hx hb dl_207 hl (by decide) rfl (fun ls hl => ?_)
  refine lv_aload_n hx hb dl_209 rfl (lv_at hl 3 rfl) ?_
  refine lv_aload_n hx hb dl_210 rfl (lv_at hl 1 rfl) ?_
  refine lv_iload hx hb dl_211 (lv_at hl 5 rfl) ?_
  refine lv_iconst (v := 1) hx hb dl_213 (by decide) ?_
  refine lv_iadd hx hb dl_214 ?_
  refine va_sld hx hb hX hbl hbA hS hi1 dl_215 ?_
  refine lc_ref (rest := []) (n := 1) (y := 202) (qm := (yX12_end, cX12_end, 3, (some .int))) (As := [.int (xs (Int32.toNatClampNeg (i + 1)))]) (V := fun v => v = some (.int (xs (Int32.toNatClampNeg (i + 1))))) (X' := mT1) (cr' := enG cc (Int32.toNatClampNeg (xs (Int32.toNatClampNeg (i + 1))))) (Nat.le_of_ble_eq_true rfl) hx hb hml hown htb hA hE rfl bg_1368 bg_1369 bg_1370 bg_974 bg_1188 ⟨by decide, by decide, by decide +kernel⟩ (by decide) dl_216 rfl rfl h3 hS hl.1 (fun M hR _ => (rx_endok (x1 := (xs (Int32.toNatClampNeg (i + 1)))) hR (by omega) (ok_in hq0 hq1 (by omega)) (by decide)).imp (fun v M' h => ⟨h.1, h.2.1, trivial⟩)) (by omega) (by omega) (fun v H locs hV h3 hS => ?_)
  subst hV
  refine lv_istore (lv' := [(6, .int (xs (Int32.toNatClampNeg (i + 1)))), (5, .int 0), (0, .ref b), (1, .ref x), (2, .ref m0), (3, .ref qo), (4, .int i)]) hx hb dl_219 hl (by decide) rfl (fun ls hl => ?_)
  refine lv_goto (tgt := 809) hx hb dl_221 (by decide) ?_
  exact kk P1 _ _ H locs ls hP1 h3 hS (lv_sub hl [2, 3, 4, 5, 6] rfl)
set_option maxHeartbeats 4000000 in
set_option maxRecDepth 100000 in
theorem law_1no (hx : p.tables.exec = Jvm.exec) (hb : c.code = cL_law) (hml : c.maxLocals = 7) (hown : s.vm.findClass RL = some m.cls) (htb : ∀ w ∈ bg, w.before #[Value.ref b] s = true) (hA : ∀ q : Nat, s.heap.size ≤ q → A q) (hE : xe_E g A s s.heap) (hnt : l.stackTraces = false) (hX : va_X b L xs s s.heap) (hbl : b < s.heap.size) (hbA : ¬ A b) (hKo : va_K D vwCl [(aO, .long)] s) (hAo : A qo) (hi1 : vp_in (i + 1) L) (hi2 : vp_in (i + 2) L) (hi3 : vp_in (i + 3) L) (hi4 : vp_in (i + 4) L) (hi5 : vp_in (i + 5) L) (h3 : L3 g D A s x m0 q kr Ic Rc qo aO mT1 cc cc fed P fo H) (hbad : xs (Int32.toNatClampNeg (i + 1)) < 0 ∨ ¬ xs (Int32.toNatClampNeg (i + 1)) ≤ nI cc.1) (hS : va_S A s.heap H locs) (hl : lv_has ls 7 [(0, .ref b), (1, .ref x), (2, .ref m0), (3, .ref qo), (4, .int i)]) (hc : cells + 320026 ≤ 601024) (hs : slots + 320064 + 40 * fed ≤ 7293034)
    (kk : ∀ (P1 : Nat) (cc1 : GH) (fo1 : Nat → Int64) (H1 : Heap) (locs1 : List Loc) (ls1 : Array Slot), P ≤ P1 → L3 g D A s x m0 q kr Ic Rc qo aO mT1 cc1 cc1 fed P1 fo1 H1 → va_S A s.heap H1 locs1 → lv_has ls1 7 [(0, .ref b), (1, .ref x), (2, .ref m0), (3, .ref qo), (4, .int i)] → W p l e room_1 s m #[Value.ref b] below meth c H1 locs1 (cells + (P1 - P) + 26) (slots + (P1 - P) + (64 + 40 * fed)) Q (F0 m 809 ls1 [])) :
    W p l e room_1 s m #[Value.ref b] below meth c H locs cells slots Q (F0 m 196 ls []) := by
  have hpt := h3.pot
  refine lv_aload_n hx hb dl_196 rfl (lv_at hl 1 rfl) ?_
  refine lv_aload_n hx hb dl_197 rfl (lv_at hl 0 rfl) ?_
  refine lv_iload hx hb dl_198 (lv_at hl 4 rfl) ?_
  refine lv_iconst (v := 1) hx hb dl_200 (by decide) ?_
  refine lv_iadd hx hb dl_201 ?_
  refine va_sld hx hb hX hbl hbA hS hi1 dl_202 ?_
  refine lv_aload_n hx hb dl_203 rfl (lv_at hl 3 rfl) ?_
  refine lc_hlp (n := 3) (av := [.ref x, .int (xs (Int32.toNatClampNeg (i + 1))), .ref qo]) (yh := yL_end) (bytes := cL_end) (maxL := 4) (hh := [(0, 9, 12, 19)]) (S := 64 + 40 * fed) hx hb hml hown htb hA hE bg_1366 bg_1367 bg_1362 bg_1327 ⟨by decide, by decide, by decide +kernel⟩ (by decide) dl_204 rfl rfl h3 hS hl.1 hKo hAo (fun M hG => hp_end_no l D g hnt hG hbad) (by omega) (by omega) (fun r P1 fo1 H locs hV hP1 h3 hS => ?_)
  have hpt := h3.pot
  subst hV
  refine lv_istore (lv' := [(5, .int 1), (0, .ref b), (1, .ref x), (2, .ref m0), (3, .ref qo), (4, .int i)]) hx hb dl_207 hl (by decide) rfl (fun ls hl => ?_)
  refine lv_aload_n hx hb dl_209 rfl (lv_at hl 3 rfl) ?_
  refine lv_aload_n hx hb dl_210 rfl (lv_at hl 1 rfl) ?_
  refine lv_iload hx hb dl_211 (lv_at hl 5 rfl) ?_
  refine lv_iconst (v := 1) hx hb dl_213 (by decide) ?_
  refine lv_iadd hx hb dl_214 ?_
  refine va_sld hx hb hX hbl hbA hS hi1 dl_215 ?_
  refine lc_ref (rest := []) (n := 1) (y := 202) (qm := (yX12_end, cX12_end, 3, (some .int))) (As := [.int (xs (Int32.toNatClampNeg (i + 1)))]) (V := fun v => ∃ y : Int32, v = some (.int y)) (X' := mT1) (cr' := cc) (Nat.le_of_ble_eq_true rfl) hx hb hml hown htb hA hE rfl bg_1368 bg_1369 bg_1370 bg_974 bg_1188 ⟨by decide, by decide, by decide +kernel⟩ (by decide) dl_216 rfl rfl h3 hS hl.1 (fun M hR _ => (rx_endno (x1 := (xs (Int32.toNatClampNeg (i + 1)))) hR (by omega) hbad (no_in hbad (by omega)) (by decide)).imp (fun v M' h => ⟨h.1, h.2.1, trivial⟩)) (by omega) (by omega) (fun v H locs hV h3 hS => ?_)
  obtain ⟨y2, rfl⟩ := hV
  refine lv_istore (lv' := [(6, .int y2), (5, .int 1), (0, .ref b), (1, .ref x), (2, .ref m0), (3, .ref qo), (4, .int i)]) hx hb dl_219 hl (by decide) rfl (fun ls hl => ?_)
  refine lv_goto (tgt := 809) hx hb dl_221 (by decide) ?_
  exact kk P1 _ _ H locs ls hP1 h3 hS (lv_sub hl [2, 3, 4, 5, 6] rfl)
set_option maxHeartbeats 4000000 in
set_option maxRecDepth 100000 in
theorem law_2 (hx : p.tables.exec = Jvm.exec) (hb : c.code = cL_law) (hml : c.maxLocals = 7) (hown : s.vm.findClass RL = some m.cls) (htb : ∀ w ∈ bg, w.before #[Value.ref b] s = true) (hA : ∀ q : Nat, s.heap.size ≤ q → A q) (hE : xe_E g A s s.heap) (hnt : l.stackTraces = false) (hX : va_X b L xs s s.heap) (hbl : b < s.heap.size) (hbA : ¬ A b) (hKo : va_K D vwCl [(aO, .long)] s) (hAo : A qo) (hi1 : vp_in (i + 1) L) (hi2 : vp_in (i + 2) L) (hi3 : vp_in (i + 3) L) (hi4 : vp_in (i + 4) L) (hi5 : vp_in (i + 5) L) (h3 : L3 g D A s x m0 q kr Ic Rc qo aO mT1 cc cc fed P fo H) (hS : va_S A s.heap H locs) (hl : lv_has ls 7 [(0, .ref b), (1, .ref x), (2, .ref m0), (3, .ref qo), (4, .int i)]) (hc : cells + 320026 ≤ 601024) (hs : slots + 320064 + 40 * fed ≤ 7293034)
    (kk : ∀ (P1 : Nat) (cc1 : GH) (fo1 : Nat → Int64) (H1 : Heap) (locs1 : List Loc) (ls1 : Array Slot), P ≤ P1 → L3 g D A s x m0 q kr Ic Rc qo aO mT1 cc1 cc1 fed P1 fo1 H1 → va_S A s.heap H1 locs1 → lv_has ls1 7 [(0, .ref b), (1, .ref x), (2, .ref m0), (3, .ref qo), (4, .int i)] → W p l e room_1 s m #[Value.ref b] below meth c H1 locs1 (cells + (P1 - P) + 26) (slots + (P1 - P) + (64 + 40 * fed)) Q (F0 m 809 ls1 [])) :
    W p l e room_1 s m #[Value.ref b] below meth c H locs cells slots Q (F0 m 224 ls []) := by
  have hpt := h3.pot
  refine lv_aload_n hx hb dl_224 rfl (lv_at hl 1 rfl) ?_
  refine lc_cls (n := 0) (y := 18) (qm := (yX11_read, cX11_read, 3, (some .int))) (As := []) (S := 64 + 40 * fed) (V := fun v => v = some (.int (rdR (s_read cc.2.2.1 cc.2.2.2.1)))) (cc' := rdG cc) hx hb hml hown htb hA hE rfl bg_1371 bg_1372 bg_1373 bg_774 bg_782 ⟨by decide, by decide, by decide +kernel⟩ (by decide) dl_225 rfl rfl h3 hS hl.1 (fun M hG => gx_read hG (by decide)) (by omega) (by omega) (fun v P1 H locs hV hP1 h3 hS => ?_)
  have hpt := h3.pot
  subst hV
  refine lv_pop (va := .int (rdR (s_read cc.2.2.1 cc.2.2.2.1))) hx hb dl_228 rfl ?_
  refine lv_aload_n hx hb dl_229 rfl (lv_at hl 2 rfl) ?_
  refine lc_ref (rest := []) (n := 0) (y := 236) (qm := (yX12_read, cX12_read, 4, (some .int))) (As := []) (V := fun v => v = some (.int (rdR (s_read cc.2.2.1 cc.2.2.2.1)))) (X' := mT1) (cr' := rdG cc) (Nat.le_of_ble_eq_true rfl) hx hb hml hown htb hA hE rfl bg_1374 bg_1375 bg_1376 bg_974 bg_1193 ⟨by decide, by decide, by decide +kernel⟩ (by decide) dl_230 rfl rfl h3 hS hl.1 (fun M hR _ => (rx_read hR (by decide)).imp (fun v M' h => ⟨h.1, h.2, trivial⟩)) (by omega) (by omega) (fun v H locs hV h3 hS => ?_)
  subst hV
  refine lv_pop (va := .int (rdR (s_read cc.2.2.1 cc.2.2.2.1))) hx hb dl_233 rfl ?_
  refine lv_goto (tgt := 809) hx hb dl_234 (by decide) ?_
  exact kk P1 _ _ H locs ls hP1 h3 hS (lv_sub hl [0, 1, 2, 3, 4] rfl)
set_option maxHeartbeats 4000000 in
set_option maxRecDepth 100000 in
theorem law_3 (hx : p.tables.exec = Jvm.exec) (hb : c.code = cL_law) (hml : c.maxLocals = 7) (hown : s.vm.findClass RL = some m.cls) (htb : ∀ w ∈ bg, w.before #[Value.ref b] s = true) (hA : ∀ q : Nat, s.heap.size ≤ q → A q) (hE : xe_E g A s s.heap) (hnt : l.stackTraces = false) (hX : va_X b L xs s s.heap) (hbl : b < s.heap.size) (hbA : ¬ A b) (hKo : va_K D vwCl [(aO, .long)] s) (hAo : A qo) (hi1 : vp_in (i + 1) L) (hi2 : vp_in (i + 2) L) (hi3 : vp_in (i + 3) L) (hi4 : vp_in (i + 4) L) (hi5 : vp_in (i + 5) L) (h3 : L3 g D A s x m0 q kr Ic Rc qo aO mT1 cc cc fed P fo H) (hS : va_S A s.heap H locs) (hl : lv_has ls 7 [(0, .ref b), (1, .ref x), (2, .ref m0), (3, .ref qo), (4, .int i)]) (hc : cells + 320026 ≤ 601024) (hs : slots + 320064 + 40 * fed ≤ 7293034)
    (kk : ∀ (P1 : Nat) (cc1 : GH) (fo1 : Nat → Int64) (H1 : Heap) (locs1 : List Loc) (ls1 : Array Slot), P ≤ P1 → L3 g D A s x m0 q kr Ic Rc qo aO mT1 cc1 cc1 fed P1 fo1 H1 → va_S A s.heap H1 locs1 → lv_has ls1 7 [(0, .ref b), (1, .ref x), (2, .ref m0), (3, .ref qo), (4, .int i)] → W p l e room_1 s m #[Value.ref b] below meth c H1 locs1 (cells + (P1 - P) + 26) (slots + (P1 - P) + (64 + 40 * fed)) Q (F0 m 809 ls1 [])) :
    W p l e room_1 s m #[Value.ref b] below meth c H locs cells slots Q (F0 m 237 ls []) := by
  have hpt := h3.pot
  refine lv_aload_n hx hb dl_237 rfl (lv_at hl 1 rfl) ?_
  refine lc_cls (n := 0) (y := 16) (qm := (yX11_place, cX11_place, 1, (some .int))) (As := []) (S := 64 + 40 * fed) (V := fun v => v = some (.int cc.2.2.2.2.1)) hx hb hml hown htb hA hE rfl bg_1377 bg_1378 bg_1379 bg_774 bg_864 ⟨by decide, by decide, by decide +kernel⟩ (by decide) dl_238 rfl rfl h3 hS hl.1 (fun M hG => gx_place hG (by decide)) (by omega) (by omega) (fun v P1 H locs hV hP1 h3 hS => ?_)
  have hpt := h3.pot
  subst hV
  refine lv_pop (va := .int cc.2.2.2.2.1) hx hb dl_241 rfl ?_
  refine lv_aload_n hx hb dl_242 rfl (lv_at hl 2 rfl) ?_
  refine lc_ref (rest := []) (n := 0) (y := 231) (qm := (yX12_place, cX12_place, 1, (some .int))) (As := []) (V := fun v => v = some (.int cc.2.2.2.2.1)) (X' := mT1) (cr' := cc) (Nat.le_of_ble_eq_true rfl) hx hb hml hown htb hA hE rfl bg_1380 bg_1381 bg_1382 bg_974 bg_1201 ⟨by decide, by decide, by decide +kernel⟩ (by decide) dl_243 rfl rfl h3 hS hl.1 (fun M hR _ => (rx_place hR (by decide)).imp (fun v M' h => ⟨h.1, h.2, trivial⟩)) (by omega) (by omega) (fun v H locs hV h3 hS => ?_)
  subst hV
  refine lv_pop (va := .int cc.2.2.2.2.1) hx hb dl_246 rfl ?_
  refine lv_goto (tgt := 809) hx hb dl_247 (by decide) ?_
  exact kk P1 _ _ H locs ls hP1 h3 hS (lv_sub hl [0, 1, 2, 3, 4] rfl)
end LWD
