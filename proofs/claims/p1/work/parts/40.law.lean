theorem lg_self (x : Int64) : lg_cmp x x = 0 := by simp [lg_cmp]
theorem dL_law_23 : decode cL_law 23 = .ok (.iload 4, 2) := by decide +kernel
theorem dL_law_25 : decode cL_law 25 = .ok (.aload_n 0, 1) := by decide +kernel
theorem dL_law_26 : decode cL_law 26 = .ok (.arraylength, 1) := by decide +kernel
theorem dL_law_27 : decode cL_law 27 = .ok (.bipush 6, 2) := by decide +kernel
theorem dL_law_29 : decode cL_law 29 = .ok (.isub, 1) := by decide +kernel
theorem dL_law_30 : decode cL_law 30 = .ok (.if_icmp .gt 954, 3) := by decide +kernel
theorem dL_law_978 : decode cL_law 978 = .ok (.iinc 4 6, 3) := by decide +kernel
theorem dL_law_981 : decode cL_law 981 = .ok (.goto (-958), 3) := by decide +kernel
theorem dL_law_984 : decode cL_law 984 = .ok (.iconst 1, 1) := by decide +kernel
theorem dL_law_985 : decode cL_law 985 = .ok (.ireturn, 1) := by decide +kernel
set_option maxHeartbeats 4000000 in
set_option maxRecDepth 100000 in
theorem law_done {p : Program} {l : Launch} {e : Env} {s : State} {m : MethodId} {below : List Frame} {meth : Method} {c : Code} {H : Heap} {locs : List Loc} {A : Nat → Prop} {b : Nat} {xs : Nat → Int32} {ls : Array Slot} {cells slots : Nat} (hx : p.tables.exec = Jvm.exec) (hb : c.code = cL_law) (hr : meth.sig.returnType = ret) (hml : c.maxLocals = 7) (hlocks : meth.locks = false) (hX : va_X b 6 xs s s.heap) (hbl : b < s.heap.size) (hAe : A = fun q : Nat => s.heap.size ≤ q) (hbA : ¬ A b) (hS : va_S A s.heap H locs) (hc : cells ≤ 600002) (hs : slots ≤ 7302232) (hl : lv_has ls 7 [(4, .int 0), (0, .ref b)]) : W p l e room_1 s m #[Value.ref b] below meth c H locs cells slots (lw_Z below #[Value.ref b] s) (F0 m 978 ls []) := by
  refine lv_iinc (v := 6) (lv' := [(4, .int 6), (0, .ref b)]) hx hb dL_law_978 hl (k := 0) rfl (by decide) (by decide) rfl (fun ls hl => ?_)
  refine lv_goto (tgt := 23) hx hb dL_law_981 (by decide) ?_
  refine lv_iload hx hb dL_law_23 (lv_at hl 0 rfl) ?_
  refine lv_aload_n hx hb dL_law_25 rfl (lv_at hl 1 rfl) ?_
  refine va_slen hx hb hX hbl hbA hS dL_law_26 ?_
  refine lv_bipush (v := 6) hx hb dL_law_27 (by decide) ?_
  refine lv_isub hx hb dL_law_29 ?_
  refine lv_icmp_gt (tgt := 984) hx hb dL_law_30 (by decide) (fun c_30 => ?_) (fun c_30 => ?_)
  rotate_left
  · exact absurd (by decide) c_30
  refine lv_iconst (v := 1) hx hb dL_law_984 (by decide) ?_
  refine va_forget (fun q hq => by have h := hS.2.2 q hq; rw [hAe] at h; exact h) ?_
  refine W.widen (k := 600002) (n := 7302232) hc hs ?_
  exact lw_ret hx hb hr hlocks dL_law_985
theorem dL_law_120 : decode cL_law 120 = .ok (.aload_n 1, 1) := by decide +kernel
theorem dL_law_121 : decode cL_law 121 = .ok (.aload_n 0, 1) := by decide +kernel
theorem dL_law_122 : decode cL_law 122 = .ok (.iload 4, 2) := by decide +kernel
theorem dL_law_124 : decode cL_law 124 = .ok (.iconst 1, 1) := by decide +kernel
theorem dL_law_125 : decode cL_law 125 = .ok (.iadd, 1) := by decide +kernel
theorem dL_law_126 : decode cL_law 126 = .ok (.iaload, 1) := by decide +kernel
theorem dL_law_127 : decode cL_law 127 = .ok (.aload_n 0, 1) := by decide +kernel
theorem dL_law_128 : decode cL_law 128 = .ok (.iload 4, 2) := by decide +kernel
theorem dL_law_130 : decode cL_law 130 = .ok (.iconst 2, 1) := by decide +kernel
theorem dL_law_131 : decode cL_law 131 = .ok (.iadd, 1) := by decide +kernel
theorem dL_law_132 : decode cL_law 132 = .ok (.iaload, 1) := by decide +kernel
theorem dL_law_133 : decode cL_law 133 = .ok (.aload_n 0, 1) := by decide +kernel
theorem dL_law_134 : decode cL_law 134 = .ok (.iload 4, 2) := by decide +kernel
theorem dL_law_136 : decode cL_law 136 = .ok (.iconst 3, 1) := by decide +kernel
theorem dL_law_137 : decode cL_law 137 = .ok (.iadd, 1) := by decide +kernel
theorem dL_law_138 : decode cL_law 138 = .ok (.iaload, 1) := by decide +kernel
theorem dL_law_139 : decode cL_law 139 = .ok (.aload_n 0, 1) := by decide +kernel
theorem dL_law_140 : decode cL_law 140 = .ok (.iload 4, 2) := by decide +kernel
theorem dL_law_142 : decode cL_law 142 = .ok (.iconst 4, 1) := by decide +kernel
theorem dL_law_143 : decode cL_law 143 = .ok (.iadd, 1) := by decide +kernel
theorem dL_law_144 : decode cL_law 144 = .ok (.iaload, 1) := by decide +kernel
theorem dL_law_145 : decode cL_law 145 = .ok (.aload_n 0, 1) := by decide +kernel
theorem dL_law_146 : decode cL_law 146 = .ok (.iload 4, 2) := by decide +kernel
theorem dL_law_148 : decode cL_law 148 = .ok (.iconst 5, 1) := by decide +kernel
theorem dL_law_149 : decode cL_law 149 = .ok (.iadd, 1) := by decide +kernel
theorem dL_law_150 : decode cL_law 150 = .ok (.iaload, 1) := by decide +kernel
theorem dL_law_151 : decode cL_law 151 = .ok (.aload_n 3, 1) := by decide +kernel
theorem dL_law_152 : decode cL_law 152 = .ok (.invokestatic 43, 3) := by decide +kernel
theorem dL_law_155 : decode cL_law 155 = .ok (.istore 5, 2) := by decide +kernel
theorem dL_law_157 : decode cL_law 157 = .ok (.aload_n 2, 1) := by decide +kernel
theorem dL_law_158 : decode cL_law 158 = .ok (.aload_n 0, 1) := by decide +kernel
theorem dL_law_159 : decode cL_law 159 = .ok (.iload 4, 2) := by decide +kernel
theorem dL_law_161 : decode cL_law 161 = .ok (.iconst 1, 1) := by decide +kernel
theorem dL_law_162 : decode cL_law 162 = .ok (.iadd, 1) := by decide +kernel
theorem dL_law_163 : decode cL_law 163 = .ok (.iaload, 1) := by decide +kernel
theorem dL_law_164 : decode cL_law 164 = .ok (.aload_n 0, 1) := by decide +kernel
theorem dL_law_165 : decode cL_law 165 = .ok (.iload 4, 2) := by decide +kernel
theorem dL_law_167 : decode cL_law 167 = .ok (.iconst 2, 1) := by decide +kernel
theorem dL_law_168 : decode cL_law 168 = .ok (.iadd, 1) := by decide +kernel
theorem dL_law_169 : decode cL_law 169 = .ok (.iaload, 1) := by decide +kernel
theorem dL_law_170 : decode cL_law 170 = .ok (.aload_n 0, 1) := by decide +kernel
theorem dL_law_171 : decode cL_law 171 = .ok (.iload 4, 2) := by decide +kernel
theorem dL_law_173 : decode cL_law 173 = .ok (.iconst 3, 1) := by decide +kernel
theorem dL_law_174 : decode cL_law 174 = .ok (.iadd, 1) := by decide +kernel
theorem dL_law_175 : decode cL_law 175 = .ok (.iaload, 1) := by decide +kernel
theorem dL_law_176 : decode cL_law 176 = .ok (.aload_n 0, 1) := by decide +kernel
theorem dL_law_177 : decode cL_law 177 = .ok (.iload 4, 2) := by decide +kernel
theorem dL_law_179 : decode cL_law 179 = .ok (.iconst 4, 1) := by decide +kernel
theorem dL_law_180 : decode cL_law 180 = .ok (.iadd, 1) := by decide +kernel
theorem dL_law_181 : decode cL_law 181 = .ok (.iaload, 1) := by decide +kernel
theorem dL_law_182 : decode cL_law 182 = .ok (.aload_n 0, 1) := by decide +kernel
theorem dL_law_183 : decode cL_law 183 = .ok (.iload 4, 2) := by decide +kernel
theorem dL_law_185 : decode cL_law 185 = .ok (.iconst 5, 1) := by decide +kernel
theorem dL_law_186 : decode cL_law 186 = .ok (.iadd, 1) := by decide +kernel
theorem dL_law_187 : decode cL_law 187 = .ok (.iaload, 1) := by decide +kernel
theorem dL_law_188 : decode cL_law 188 = .ok (.invokevirtual 48, 3) := by decide +kernel
theorem dL_law_191 : decode cL_law 191 = .ok (.istore 6, 2) := by decide +kernel
theorem dL_law_193 : decode cL_law 193 = .ok (.aload_n 2, 1) := by decide +kernel
theorem dL_law_194 : decode cL_law 194 = .ok (.invokevirtual 49, 3) := by decide +kernel
theorem dL_law_197 : decode cL_law 197 = .ok (.iload 5, 2) := by decide +kernel
theorem dL_law_199 : decode cL_law 199 = .ok (.if_icmp .eq 5, 3) := by decide +kernel
theorem dL_law_204 : decode cL_law 204 = .ok (.iload 5, 2) := by decide +kernel
theorem dL_law_206 : decode cL_law 206 = .ok (.ifCond .ne 15, 3) := by decide +kernel
theorem dL_law_209 : decode cL_law 209 = .ok (.aload_n 3, 1) := by decide +kernel
theorem dL_law_210 : decode cL_law 210 = .ok (.iconst 0, 1) := by decide +kernel
theorem dL_law_211 : decode cL_law 211 = .ok (.laload, 1) := by decide +kernel
theorem dL_law_212 : decode cL_law 212 = .ok (.iload 6, 2) := by decide +kernel
theorem dL_law_214 : decode cL_law 214 = .ok (.i2l, 1) := by decide +kernel
theorem dL_law_215 : decode cL_law 215 = .ok (.lcmp, 1) := by decide +kernel
theorem dL_law_216 : decode cL_law 216 = .ok (.ifCond .eq 5, 3) := by decide +kernel
theorem dL_law_221 : decode cL_law 221 = .ok (.goto 757, 3) := by decide +kernel
set_option maxHeartbeats 8000000 in
set_option maxRecDepth 100000 in
theorem law_0 {p : Program} {l : Launch} {e : Env} {s : State} {m : MethodId} {below : List Frame} {meth : Method} {c : Code} {H : Heap} {locs : List Loc} {A : Nat → Prop} {b : Nat} {xs : Nat → Int32} {ls : Array Slot} {D : va_G} {g : xe_G} {h0 : Nat} {qc : Nat} {cB : ClassId} {m0 : Nat} {fs : List Value} {q1 : Nat} {q2 : Nat} {q4 : Nat} {q5 : Nat} {q6 : Nat} {q7 : Nat} {a1 : ClassId} {a2 : ClassId} {a4 : ClassId} {a5 : ClassId} {a6 : ClassId} {a7 : ClassId} {f1 : Nat → Int32} {f2 : Nat → Int32} {f4 : Nat → Int32} {f5 : Nat → Int32} {f6 : Nat → Int32} {f7 : Nat → Int32} {qf : Nat} {qm : Nat} {aM : ClassId} {fM : Nat → Int32} {qo : Nat} {aO : ClassId} (hx : p.tables.exec = Jvm.exec) (hb : c.code = cL_law) (hr : meth.sig.returnType = ret) (hml : c.maxLocals = 7) (hlocks : meth.locks = false) (hown : s.vm.findClass RL = some m.cls) (htb : ∀ w ∈ bg, w.before #[Value.ref b] s = true) (hX : va_X b 6 xs s s.heap) (hbl : b < s.heap.size) (hAe : A = fun q : Nat => s.heap.size ≤ q) (hbA : ¬ A b) (hA : ∀ q : Nat, s.heap.size ≤ q → A q) (hE : xe_E g A s s.heap) (hnt : l.stackTraces = false) (hm : md_has fs [(1, .ref q1), (2, .ref q2), (4, .ref q4), (5, .ref q5), (6, .ref q6), (7, .ref q7), (13, .ref qf), (15, .ref qm), (17, .int 0), (18, .int (-1)), (19, .int 0), (73, .int (-1))]) (hK : va_K D vwCl [(cB, .byte), (a1, .char), (a2, .char), (a4, .int), (a5, .int), (a6, .int), (a7, .int), (aM, .byte), (aO, .long)] s) (hP : va_P D vwCl [(h0, .inr (11, [.ref qc, .int 0, .ref g.1, .null, .int (-1)])), (qc, .inl (cB, 1024, .inl (fun _ => 0))), (m0, .inr (12, fs)), (q1, .inl (a1, 66000, .inl f1)), (q2, .inl (a2, 66000, .inl f2)), (q4, .inl (a4, 24000, .inl f4)), (q5, .inl (a5, 24000, .inl f5)), (q6, .inl (a6, 24000, .inl f6)), (q7, .inl (a7, 4096, .inl f7)), (qm, .inl (aM, 65560, .inl fM)), (qo, .inl (aO, 1, .inr (.inl (fun _ => 0))))] H) (hD : va_D A [(h0, .inr (11, [.ref qc, .int 0, .ref g.1, .null, .int (-1)])), (qc, .inl (cB, 1024, .inl (fun _ => 0))), (m0, .inr (12, fs)), (q1, .inl (a1, 66000, .inl f1)), (q2, .inl (a2, 66000, .inl f2)), (q4, .inl (a4, 24000, .inl f4)), (q5, .inl (a5, 24000, .inl f5)), (q6, .inl (a6, 24000, .inl f6)), (q7, .inl (a7, 4096, .inl f7)), (qm, .inl (aM, 65560, .inl fM)), (qo, .inl (aO, 1, .inr (.inl (fun _ => 0))))]) (hS : va_S A s.heap H locs) (hl : lv_has ls 7 [(0, .ref b), (1, .ref h0), (2, .ref m0), (3, .ref qo), (4, .int 0)]) : W p l e room_1 s m #[Value.ref b] below meth c H locs 43 899680 (lw_Z below #[Value.ref b] s) (F0 m 120 ls []) := by
  refine lv_aload_n hx hb dL_law_120 rfl (lv_at hl 1 rfl) ?_
  refine lv_aload_n hx hb dL_law_121 rfl (lv_at hl 0 rfl) ?_
  refine lv_iload hx hb dL_law_122 (lv_at hl 4 rfl) ?_
  refine lv_iconst (v := 1) hx hb dL_law_124 (by decide) ?_
  refine lv_iadd hx hb dL_law_125 ?_
  refine va_sld hx hb hX hbl hbA hS (by unfold vp_in; decide) dL_law_126 ?_
  refine lv_aload_n hx hb dL_law_127 rfl (lv_at hl 0 rfl) ?_
  refine lv_iload hx hb dL_law_128 (lv_at hl 4 rfl) ?_
  refine lv_iconst (v := 2) hx hb dL_law_130 (by decide) ?_
  refine lv_iadd hx hb dL_law_131 ?_
  refine va_sld hx hb hX hbl hbA hS (by unfold vp_in; decide) dL_law_132 ?_
  refine lv_aload_n hx hb dL_law_133 rfl (lv_at hl 0 rfl) ?_
  refine lv_iload hx hb dL_law_134 (lv_at hl 4 rfl) ?_
  refine lv_iconst (v := 3) hx hb dL_law_136 (by decide) ?_
  refine lv_iadd hx hb dL_law_137 ?_
  refine va_sld hx hb hX hbl hbA hS (by unfold vp_in; decide) dL_law_138 ?_
  refine lv_aload_n hx hb dL_law_139 rfl (lv_at hl 0 rfl) ?_
  refine lv_iload hx hb dL_law_140 (lv_at hl 4 rfl) ?_
  refine lv_iconst (v := 4) hx hb dL_law_142 (by decide) ?_
  refine lv_iadd hx hb dL_law_143 ?_
  refine va_sld hx hb hX hbl hbA hS (by unfold vp_in; decide) dL_law_144 ?_
  refine lv_aload_n hx hb dL_law_145 rfl (lv_at hl 0 rfl) ?_
  refine lv_iload hx hb dL_law_146 (lv_at hl 4 rfl) ?_
  refine lv_iconst (v := 5) hx hb dL_law_148 (by decide) ?_
  refine lv_iadd hx hb dL_law_149 ?_
  refine va_sld hx hb hX hbl hbA hS (by unfold vp_in; decide) dL_law_150 ?_
  refine lv_aload_n hx hb dL_law_151 rfl (lv_at hl 3 rfl) ?_
  refine xb_goi (wr := [(m0, .inr (12, fs)), (q1, .inl (a1, 66000, .inl f1)), (q2, .inl (a2, 66000, .inl f2)), (q4, .inl (a4, 24000, .inl f4)), (q5, .inl (a5, 24000, .inl f5)), (q6, .inl (a6, 24000, .inl f6)), (q7, .inl (a7, 4096, .inl f7)), (qm, .inl (aM, 65560, .inl fM))]) (vx_runSW (As := [.ref h0, .int (xs (Int32.toNatClampNeg (0 + 1))), .int (xs (Int32.toNatClampNeg (0 + 2))), .int (xs (Int32.toNatClampNeg (0 + 3))), .int (xs (Int32.toNatClampNeg (0 + 4))), .int (xs (Int32.toNatClampNeg (0 + 5))), .ref qo]) (rest := []) ⟨hx, hb, hml, hown, htb⟩ (lh_feed l D g h0 qc g.1 (-1) cB (fun _ => 0) qo aO (fun _ => 0) (xs (Int32.toNatClampNeg (0 + 1))) (xs (Int32.toNatClampNeg (0 + 2))) (xs (Int32.toNatClampNeg (0 + 3))) (xs (Int32.toNatClampNeg (0 + 4))) (xs (Int32.toNatClampNeg (0 + 5))) (Array.size H) ) (bg_SW 7 htb bg_354 bg_355 bg_356 bg_317 rfl rfl (by decide +kernel) ⟨Nat.le_of_ble_eq_true rfl, Nat.le_of_ble_eq_true rfl⟩) ⟨xb_blind xe_ok, xb_enter xe_ok hK hP hD hS hA hE [0, 1, 10] rfl rfl rfl [0, 8] rfl⟩ rfl rfl hl.1 rfl (lv_room (Nat.le_of_ble_eq_true rfl)) dL_law_152 ⟨Nat.le_of_ble_eq_true rfl, Nat.le_of_ble_eq_true rfl⟩) hK hP hD hS hA [0, 1, 10] [2, 3, 4, 5, 6, 7, 8, 9] rfl rfl rfl (by decide) (fun r_152 u_152 H locs hw_152 hP hD hK hS => ?_)
  generalize u_152 = fo2 at hP hD hK hw_152
  have hP : va_P D vwCl [(m0, .inr (12, fs)), (q1, .inl (a1, 66000, .inl f1)), (q2, .inl (a2, 66000, .inl f2)), (q4, .inl (a4, 24000, .inl f4)), (q5, .inl (a5, 24000, .inl f5)), (q6, .inl (a6, 24000, .inl f6)), (q7, .inl (a7, 4096, .inl f7)), (qm, .inl (aM, 65560, .inl fM)), (qo, .inl (aO, 1, .inr (.inl fo2)))] H := hP
  have hD : va_D A [(m0, .inr (12, fs)), (q1, .inl (a1, 66000, .inl f1)), (q2, .inl (a2, 66000, .inl f2)), (q4, .inl (a4, 24000, .inl f4)), (q5, .inl (a5, 24000, .inl f5)), (q6, .inl (a6, 24000, .inl f6)), (q7, .inl (a7, 4096, .inl f7)), (qm, .inl (aM, 65560, .inl fM)), (qo, .inl (aO, 1, .inr (.inl fo2)))] := hD
  have hK : va_K D vwCl [(cB, .byte), (a1, .char), (a2, .char), (a4, .int), (a5, .int), (a6, .int), (a7, .int), (aM, .byte), (aO, .long), (aO, .long)] s := hK
  refine W.widen (k := 43) (n := 899680) (by decide) (by decide) ?_
  obtain ⟨hw_152, ho⟩ := hw_152
  have hw_152 : r_152 = 0 := hw_152
  subst hw_152
  have hK := hK.sub (tys' := [(cB, .byte), (a1, .char), (a2, .char), (a4, .int), (a5, .int), (a6, .int), (a7, .int), (aM, .byte), (aO, .long)]) [0, 1, 2, 3, 4, 5, 6, 7, 8] rfl
  refine lv_istore (lv' := [(5, .int 0), (0, .ref b), (1, .ref h0), (2, .ref m0), (3, .ref qo), (4, .int 0)]) hx hb dL_law_155 hl (by decide) rfl (fun ls hl => ?_)
  refine lv_aload_n hx hb dL_law_157 rfl (lv_at hl 3 rfl) ?_
  refine lv_aload_n hx hb dL_law_158 rfl (lv_at hl 1 rfl) ?_
  refine lv_iload hx hb dL_law_159 (lv_at hl 5 rfl) ?_
  refine lv_iconst (v := 1) hx hb dL_law_161 (by decide) ?_
  refine lv_iadd hx hb dL_law_162 ?_
  refine va_sld hx hb hX hbl hbA hS (by unfold vp_in; decide) dL_law_163 ?_
  refine lv_aload_n hx hb dL_law_164 rfl (lv_at hl 1 rfl) ?_
  refine lv_iload hx hb dL_law_165 (lv_at hl 5 rfl) ?_
  refine lv_iconst (v := 2) hx hb dL_law_167 (by decide) ?_
  refine lv_iadd hx hb dL_law_168 ?_
  refine va_sld hx hb hX hbl hbA hS (by unfold vp_in; decide) dL_law_169 ?_
  refine lv_aload_n hx hb dL_law_170 rfl (lv_at hl 1 rfl) ?_
  refine lv_iload hx hb dL_law_171 (lv_at hl 5 rfl) ?_
  refine lv_iconst (v := 3) hx hb dL_law_173 (by decide) ?_
  refine lv_iadd hx hb dL_law_174 ?_
  refine va_sld hx hb hX hbl hbA hS (by unfold vp_in; decide) dL_law_175 ?_
  refine lv_aload_n hx hb dL_law_176 rfl (lv_at hl 1 rfl) ?_
  refine lv_iload hx hb dL_law_177 (lv_at hl 5 rfl) ?_
  refine lv_iconst (v := 4) hx hb dL_law_179 (by decide) ?_
  refine lv_iadd hx hb dL_law_180 ?_
  refine va_sld hx hb hX hbl hbA hS (by unfold vp_in; decide) dL_law_181 ?_
  refine lv_aload_n hx hb dL_law_182 rfl (lv_at hl 1 rfl) ?_
  refine lv_iload hx hb dL_law_183 (lv_at hl 5 rfl) ?_
  refine lv_iconst (v := 5) hx hb dL_law_185 (by decide) ?_
  refine lv_iadd hx hb dL_law_186 ?_
  refine va_sld hx hb hX hbl hbA hS (by unfold vp_in; decide) dL_law_187 ?_
  refine xb_goi (wr := [(q1, .inl (a1, 66000, .inl f1)), (q2, .inl (a2, 66000, .inl f2)), (q4, .inl (a4, 24000, .inl f4)), (q5, .inl (a5, 24000, .inl f5)), (q6, .inl (a6, 24000, .inl f6)), (q7, .inl (a7, 4096, .inl f7)), (qo, .inl (aO, 1, .inr (.inl fo2)))]) (va_runV (As := [.int (xs (Int32.toNatClampNeg (0 + 1))), .int (xs (Int32.toNatClampNeg (0 + 2))), .int (xs (Int32.toNatClampNeg (0 + 3))), .int (xs (Int32.toNatClampNeg (0 + 4))), .int (xs (Int32.toNatClampNeg (0 + 5)))]) (rest := []) ⟨hx, hb, hml, hown, htb⟩ (mm_feed l D g m0 fs qm aM fM (xs (Int32.toNatClampNeg (0 + 1))) (xs (Int32.toNatClampNeg (0 + 2))) (xs (Int32.toNatClampNeg (0 + 3))) (xs (Int32.toNatClampNeg (0 + 4))) (xs (Int32.toNatClampNeg (0 + 5))) (Array.size H) (md_sub hm [7, 10] rfl)) (bg_V 5 htb bg_357 bg_358 bg_359 bg_144 bg_205 rfl rfl (by decide +kernel) ⟨Nat.le_of_ble_eq_true rfl, Nat.le_of_ble_eq_true rfl⟩) ⟨xb_blind xe_ok, va_recv hK hP (ci := 12) (q0 := 0) rfl rfl, xb_enter xe_ok hK hP hD hS hA hE [0, 7] rfl rfl rfl [7] rfl⟩ rfl rfl hl.1 rfl (lv_room (Nat.le_of_ble_eq_true rfl)) dL_law_188 ⟨Nat.le_of_ble_eq_true rfl, Nat.le_of_ble_eq_true rfl⟩) hK hP hD hS hA [0, 7] [1, 2, 3, 4, 5, 6, 8] rfl rfl rfl (by decide) (fun r_188 u_188 H locs hw_188 hP hD hK hS => ?_)
  obtain ⟨fs, fM2⟩ := u_188
  have hP : va_P D vwCl [(q1, .inl (a1, 66000, .inl f1)), (q2, .inl (a2, 66000, .inl f2)), (q4, .inl (a4, 24000, .inl f4)), (q5, .inl (a5, 24000, .inl f5)), (q6, .inl (a6, 24000, .inl f6)), (q7, .inl (a7, 4096, .inl f7)), (qo, .inl (aO, 1, .inr (.inl fo2))), (m0, .inr (12, fs)), (qm, .inl (aM, 65560, .inl fM2))] H := hP
  have hD : va_D A [(q1, .inl (a1, 66000, .inl f1)), (q2, .inl (a2, 66000, .inl f2)), (q4, .inl (a4, 24000, .inl f4)), (q5, .inl (a5, 24000, .inl f5)), (q6, .inl (a6, 24000, .inl f6)), (q7, .inl (a7, 4096, .inl f7)), (qo, .inl (aO, 1, .inr (.inl fo2))), (m0, .inr (12, fs)), (qm, .inl (aM, 65560, .inl fM2))] := hD
  have hK : va_K D vwCl [(cB, .byte), (a1, .char), (a2, .char), (a4, .int), (a5, .int), (a6, .int), (a7, .int), (aM, .byte), (aO, .long), (aM, .byte)] s := hK
  refine W.widen (k := 43) (n := 899680) (by decide) (by decide) ?_
  obtain ⟨hw_188, hm⟩ := hw_188
  have hm : md_has fs _ := hm
  have hw_188 : r_188 = 20 := hw_188
  subst hw_188
  have hK := hK.sub (tys' := [(cB, .byte), (a1, .char), (a2, .char), (a4, .int), (a5, .int), (a6, .int), (a7, .int), (aM, .byte), (aO, .long)]) [0, 1, 2, 3, 4, 5, 6, 7, 8] rfl
  refine lv_istore (lv' := [(6, .int 20), (5, .int 0), (0, .ref b), (1, .ref h0), (2, .ref m0), (3, .ref qo), (4, .int 0)]) hx hb dL_law_191 hl (by decide) rfl (fun ls hl => ?_)
  refine lv_aload_n hx hb dL_law_193 rfl (lv_at hl 4 rfl) ?_
  refine xb_goi (wr := [(q1, .inl (a1, 66000, .inl f1)), (q2, .inl (a2, 66000, .inl f2)), (q4, .inl (a4, 24000, .inl f4)), (q5, .inl (a5, 24000, .inl f5)), (q6, .inl (a6, 24000, .inl f6)), (q7, .inl (a7, 4096, .inl f7)), (qo, .inl (aO, 1, .inr (.inl fo2))), (qm, .inl (aM, 65560, .inl fM2))]) (va_runV (As := []) (rest := []) ⟨hx, hb, hml, hown, htb⟩ (mm_thrown l D g m0 fs 0 (Array.size H) (md_sub hm [0] rfl)) (bg_V 0 htb bg_360 bg_361 bg_362 bg_144 bg_87 rfl rfl (by decide +kernel) ⟨Nat.le_of_ble_eq_true rfl, Nat.le_of_ble_eq_true rfl⟩) ⟨xb_blind xe_ok, va_recv hK hP (ci := 12) (q0 := 7) rfl rfl, xb_enter xe_ok hK hP hD hS hA hE [7] rfl rfl rfl [] rfl⟩ rfl rfl hl.1 rfl (lv_room (Nat.le_of_ble_eq_true rfl)) dL_law_194 ⟨Nat.le_of_ble_eq_true rfl, Nat.le_of_ble_eq_true rfl⟩) hK hP hD hS hA [7] [0, 1, 2, 3, 4, 5, 6, 8] rfl rfl rfl (by decide) (fun r_194 u_194 H locs hw_194 hP hD hK hS => ?_)
  have hP : va_P D vwCl [(q1, .inl (a1, 66000, .inl f1)), (q2, .inl (a2, 66000, .inl f2)), (q4, .inl (a4, 24000, .inl f4)), (q5, .inl (a5, 24000, .inl f5)), (q6, .inl (a6, 24000, .inl f6)), (q7, .inl (a7, 4096, .inl f7)), (qo, .inl (aO, 1, .inr (.inl fo2))), (qm, .inl (aM, 65560, .inl fM2)), (m0, .inr (12, fs))] H := hP
  have hD : va_D A [(q1, .inl (a1, 66000, .inl f1)), (q2, .inl (a2, 66000, .inl f2)), (q4, .inl (a4, 24000, .inl f4)), (q5, .inl (a5, 24000, .inl f5)), (q6, .inl (a6, 24000, .inl f6)), (q7, .inl (a7, 4096, .inl f7)), (qo, .inl (aO, 1, .inr (.inl fo2))), (qm, .inl (aM, 65560, .inl fM2)), (m0, .inr (12, fs))] := hD
  have hK : va_K D vwCl [(cB, .byte), (a1, .char), (a2, .char), (a4, .int), (a5, .int), (a6, .int), (a7, .int), (aM, .byte), (aO, .long)] s := hK
  refine W.widen (k := 43) (n := 899680) (by decide) (by decide) ?_
  have hw_194 : r_194 = 0 := hw_194
  subst hw_194
  refine lv_iload hx hb dL_law_197 (lv_at hl 1 rfl) ?_
  refine lv_icmp_eq (tgt := 204) hx hb dL_law_199 (by decide) (fun c_199 => ?_) (fun c_199 => ?_)
  rotate_left
  · exact absurd (by decide) c_199
  refine lv_iload hx hb dL_law_204 (lv_at hl 1 rfl) ?_
  refine lv_if_ne (tgt := 221) hx hb dL_law_206 (by decide) (fun c_206 => ?_) (fun c_206 => ?_)
  · exact absurd (by decide) c_206
  refine lv_aload_n hx hb dL_law_209 rfl (lv_at hl 5 rfl) ?_
  refine lv_iconst (v := 0) hx hb dL_law_210 (by decide) ?_
  refine va_lald hx hb hK hP 6 8 rfl rfl (by unfold vp_in; decide) dL_law_211 ?_
  refine lv_iload hx hb dL_law_212 (lv_at hl 0 rfl) ?_
  refine lv_i2l (v := Int32.toInt64 20) hx hb dL_law_214 rfl ?_
  refine W.lcmp hx hb dL_law_215 ?_
  refine lv_if_eq (tgt := 221) hx hb dL_law_216 (by decide) (fun c_216 => ?_) (fun c_216 => ?_)
  rotate_left
  · exact absurd (by rw [show fo2 (Int32.toNatClampNeg 0) = Int32.toInt64 20 from ho]; exact lg_self _) c_216
  refine lv_goto (tgt := 978) hx hb dL_law_221 (by decide) ?_
  exact law_done hx hb hr hml hlocks hX hbl hAe hbA hS (by decide) (by decide) (lv_sub hl [6, 2] rfl)
theorem dL_law_224 : decode cL_law 224 = .ok (.aload_n 1, 1) := by decide +kernel
theorem dL_law_225 : decode cL_law 225 = .ok (.aload_n 0, 1) := by decide +kernel
theorem dL_law_226 : decode cL_law 226 = .ok (.iload 4, 2) := by decide +kernel
theorem dL_law_228 : decode cL_law 228 = .ok (.iconst 1, 1) := by decide +kernel
theorem dL_law_229 : decode cL_law 229 = .ok (.iadd, 1) := by decide +kernel
theorem dL_law_230 : decode cL_law 230 = .ok (.iaload, 1) := by decide +kernel
theorem dL_law_231 : decode cL_law 231 = .ok (.aload_n 3, 1) := by decide +kernel
theorem dL_law_232 : decode cL_law 232 = .ok (.invokestatic 53, 3) := by decide +kernel
theorem dL_law_235 : decode cL_law 235 = .ok (.istore 5, 2) := by decide +kernel
theorem dL_law_237 : decode cL_law 237 = .ok (.aload_n 2, 1) := by decide +kernel
theorem dL_law_238 : decode cL_law 238 = .ok (.aload_n 0, 1) := by decide +kernel
theorem dL_law_239 : decode cL_law 239 = .ok (.iload 4, 2) := by decide +kernel
theorem dL_law_241 : decode cL_law 241 = .ok (.iconst 1, 1) := by decide +kernel
theorem dL_law_242 : decode cL_law 242 = .ok (.iadd, 1) := by decide +kernel
theorem dL_law_243 : decode cL_law 243 = .ok (.iaload, 1) := by decide +kernel
theorem dL_law_244 : decode cL_law 244 = .ok (.invokevirtual 56, 3) := by decide +kernel
theorem dL_law_247 : decode cL_law 247 = .ok (.istore 6, 2) := by decide +kernel
theorem dL_law_249 : decode cL_law 249 = .ok (.aload_n 2, 1) := by decide +kernel
theorem dL_law_250 : decode cL_law 250 = .ok (.invokevirtual 49, 3) := by decide +kernel
theorem dL_law_253 : decode cL_law 253 = .ok (.iload 5, 2) := by decide +kernel
theorem dL_law_255 : decode cL_law 255 = .ok (.if_icmp .eq 5, 3) := by decide +kernel
theorem dL_law_260 : decode cL_law 260 = .ok (.iload 5, 2) := by decide +kernel
theorem dL_law_262 : decode cL_law 262 = .ok (.ifCond .ne 15, 3) := by decide +kernel
theorem dL_law_265 : decode cL_law 265 = .ok (.aload_n 3, 1) := by decide +kernel
theorem dL_law_266 : decode cL_law 266 = .ok (.iconst 0, 1) := by decide +kernel
theorem dL_law_267 : decode cL_law 267 = .ok (.laload, 1) := by decide +kernel
theorem dL_law_268 : decode cL_law 268 = .ok (.iload 6, 2) := by decide +kernel
theorem dL_law_270 : decode cL_law 270 = .ok (.i2l, 1) := by decide +kernel
theorem dL_law_271 : decode cL_law 271 = .ok (.lcmp, 1) := by decide +kernel
theorem dL_law_272 : decode cL_law 272 = .ok (.ifCond .eq 5, 3) := by decide +kernel
theorem dL_law_277 : decode cL_law 277 = .ok (.goto 701, 3) := by decide +kernel
set_option maxHeartbeats 8000000 in
set_option maxRecDepth 100000 in
theorem law_1 {p : Program} {l : Launch} {e : Env} {s : State} {m : MethodId} {below : List Frame} {meth : Method} {c : Code} {H : Heap} {locs : List Loc} {A : Nat → Prop} {b : Nat} {xs : Nat → Int32} {ls : Array Slot} {D : va_G} {g : xe_G} {h0 : Nat} {qc : Nat} {cB : ClassId} {m0 : Nat} {fs : List Value} {q1 : Nat} {q2 : Nat} {q4 : Nat} {q5 : Nat} {q6 : Nat} {q7 : Nat} {a1 : ClassId} {a2 : ClassId} {a4 : ClassId} {a5 : ClassId} {a6 : ClassId} {a7 : ClassId} {f1 : Nat → Int32} {f2 : Nat → Int32} {f4 : Nat → Int32} {f5 : Nat → Int32} {f6 : Nat → Int32} {f7 : Nat → Int32} {qf : Nat} {qm : Nat} {aM : ClassId} {fM : Nat → Int32} {qo : Nat} {aO : ClassId} (hx : p.tables.exec = Jvm.exec) (hb : c.code = cL_law) (hr : meth.sig.returnType = ret) (hml : c.maxLocals = 7) (hlocks : meth.locks = false) (hown : s.vm.findClass RL = some m.cls) (htb : ∀ w ∈ bg, w.before #[Value.ref b] s = true) (hX : va_X b 6 xs s s.heap) (hbl : b < s.heap.size) (hAe : A = fun q : Nat => s.heap.size ≤ q) (hbA : ¬ A b) (hA : ∀ q : Nat, s.heap.size ≤ q → A q) (hE : xe_E g A s s.heap) (hnt : l.stackTraces = false) (hm : md_has fs [(1, .ref q1), (2, .ref q2), (4, .ref q4), (5, .ref q5), (6, .ref q6), (7, .ref q7), (13, .ref qf), (15, .ref qm), (17, .int 0), (18, .int (-1)), (19, .int 0), (73, .int (-1))]) (hK : va_K D vwCl [(cB, .byte), (a1, .char), (a2, .char), (a4, .int), (a5, .int), (a6, .int), (a7, .int), (aM, .byte), (aO, .long)] s) (hP : va_P D vwCl [(h0, .inr (11, [.ref qc, .int 0, .ref g.1, .null, .int (-1)])), (qc, .inl (cB, 1024, .inl (fun _ => 0))), (m0, .inr (12, fs)), (q1, .inl (a1, 66000, .inl f1)), (q2, .inl (a2, 66000, .inl f2)), (q4, .inl (a4, 24000, .inl f4)), (q5, .inl (a5, 24000, .inl f5)), (q6, .inl (a6, 24000, .inl f6)), (q7, .inl (a7, 4096, .inl f7)), (qm, .inl (aM, 65560, .inl fM)), (qo, .inl (aO, 1, .inr (.inl (fun _ => 0))))] H) (hD : va_D A [(h0, .inr (11, [.ref qc, .int 0, .ref g.1, .null, .int (-1)])), (qc, .inl (cB, 1024, .inl (fun _ => 0))), (m0, .inr (12, fs)), (q1, .inl (a1, 66000, .inl f1)), (q2, .inl (a2, 66000, .inl f2)), (q4, .inl (a4, 24000, .inl f4)), (q5, .inl (a5, 24000, .inl f5)), (q6, .inl (a6, 24000, .inl f6)), (q7, .inl (a7, 4096, .inl f7)), (qm, .inl (aM, 65560, .inl fM)), (qo, .inl (aO, 1, .inr (.inl (fun _ => 0))))]) (hS : va_S A s.heap H locs) (hl : lv_has ls 7 [(0, .ref b), (1, .ref h0), (2, .ref m0), (3, .ref qo), (4, .int 0)]) : W p l e room_1 s m #[Value.ref b] below meth c H locs 43 899680 (lw_Z below #[Value.ref b] s) (F0 m 224 ls []) := by
  refine lv_aload_n hx hb dL_law_224 rfl (lv_at hl 1 rfl) ?_
  refine lv_aload_n hx hb dL_law_225 rfl (lv_at hl 0 rfl) ?_
  refine lv_iload hx hb dL_law_226 (lv_at hl 4 rfl) ?_
  refine lv_iconst (v := 1) hx hb dL_law_228 (by decide) ?_
  refine lv_iadd hx hb dL_law_229 ?_
  refine va_sld hx hb hX hbl hbA hS (by unfold vp_in; decide) dL_law_230 ?_
  refine lv_aload_n hx hb dL_law_231 rfl (lv_at hl 3 rfl) ?_
  refine xb_goi (wr := [(m0, .inr (12, fs)), (q1, .inl (a1, 66000, .inl f1)), (q2, .inl (a2, 66000, .inl f2)), (q4, .inl (a4, 24000, .inl f4)), (q5, .inl (a5, 24000, .inl f5)), (q6, .inl (a6, 24000, .inl f6)), (q7, .inl (a7, 4096, .inl f7)), (qm, .inl (aM, 65560, .inl fM))]) (vx_runSW (As := [.ref h0, .int (xs (Int32.toNatClampNeg (0 + 1))), .ref qo]) (rest := []) ⟨hx, hb, hml, hown, htb⟩ (lh_end l D g h0 qc g.1 (-1) cB (fun _ => 0) qo aO (fun _ => 0) (xs (Int32.toNatClampNeg (0 + 1))) (Array.size H) (hnt)) (bg_SW 3 htb bg_363 bg_364 bg_356 bg_321 rfl rfl (by decide +kernel) ⟨Nat.le_of_ble_eq_true rfl, Nat.le_of_ble_eq_true rfl⟩) ⟨xb_blind xe_ok, xb_enter xe_ok hK hP hD hS hA hE [0, 1, 10] rfl rfl rfl [0, 8] rfl⟩ rfl rfl hl.1 rfl (lv_room (Nat.le_of_ble_eq_true rfl)) dL_law_232 ⟨Nat.le_of_ble_eq_true rfl, Nat.le_of_ble_eq_true rfl⟩) hK hP hD hS hA [0, 1, 10] [2, 3, 4, 5, 6, 7, 8, 9] rfl rfl rfl (by decide) (fun r_232 u_232 H locs hw_232 hP hD hK hS => ?_)
  generalize u_232 = fo2 at hP hD hK hw_232
  have hP : va_P D vwCl [(m0, .inr (12, fs)), (q1, .inl (a1, 66000, .inl f1)), (q2, .inl (a2, 66000, .inl f2)), (q4, .inl (a4, 24000, .inl f4)), (q5, .inl (a5, 24000, .inl f5)), (q6, .inl (a6, 24000, .inl f6)), (q7, .inl (a7, 4096, .inl f7)), (qm, .inl (aM, 65560, .inl fM)), (qo, .inl (aO, 1, .inr (.inl fo2)))] H := hP
  have hD : va_D A [(m0, .inr (12, fs)), (q1, .inl (a1, 66000, .inl f1)), (q2, .inl (a2, 66000, .inl f2)), (q4, .inl (a4, 24000, .inl f4)), (q5, .inl (a5, 24000, .inl f5)), (q6, .inl (a6, 24000, .inl f6)), (q7, .inl (a7, 4096, .inl f7)), (qm, .inl (aM, 65560, .inl fM)), (qo, .inl (aO, 1, .inr (.inl fo2)))] := hD
  have hK : va_K D vwCl [(cB, .byte), (a1, .char), (a2, .char), (a4, .int), (a5, .int), (a6, .int), (a7, .int), (aM, .byte), (aO, .long), (aO, .long)] s := hK
  refine W.widen (k := 44) (n := 899686) (by decide) (by decide) ?_
  rcases hw_232 with ⟨k1, k2, hr0, ho⟩ | ⟨kx, hr0⟩
  · skip
    subst hr0
    have hK := hK.sub (tys' := [(cB, .byte), (a1, .char), (a2, .char), (a4, .int), (a5, .int), (a6, .int), (a7, .int), (aM, .byte), (aO, .long)]) [0, 1, 2, 3, 4, 5, 6, 7, 8] rfl
    refine lv_istore (lv' := [(5, .int 0), (0, .ref b), (1, .ref h0), (2, .ref m0), (3, .ref qo), (4, .int 0)]) hx hb dL_law_235 hl (by decide) rfl (fun ls hl => ?_)
    refine lv_aload_n hx hb dL_law_237 rfl (lv_at hl 3 rfl) ?_
    refine lv_aload_n hx hb dL_law_238 rfl (lv_at hl 1 rfl) ?_
    refine lv_iload hx hb dL_law_239 (lv_at hl 5 rfl) ?_
    refine lv_iconst (v := 1) hx hb dL_law_241 (by decide) ?_
    refine lv_iadd hx hb dL_law_242 ?_
    refine va_sld hx hb hX hbl hbA hS (by unfold vp_in; decide) dL_law_243 ?_
    refine xb_goi (wr := [(q1, .inl (a1, 66000, .inl f1)), (q2, .inl (a2, 66000, .inl f2)), (q4, .inl (a4, 24000, .inl f4)), (q5, .inl (a5, 24000, .inl f5)), (q6, .inl (a6, 24000, .inl f6)), (q7, .inl (a7, 4096, .inl f7)), (qm, .inl (aM, 65560, .inl fM)), (qo, .inl (aO, 1, .inr (.inl fo2)))]) (va_runV (As := [.int (xs (Int32.toNatClampNeg (0 + 1)))]) (rest := []) ⟨hx, hb, hml, hown, htb⟩ (mm_end l D g m0 fs (xs (Int32.toNatClampNeg (0 + 1))) (Array.size H) (md_sub hm [10] rfl)) (bg_V 1 htb bg_365 bg_366 bg_367 bg_144 bg_212 rfl rfl (by decide +kernel) ⟨Nat.le_of_ble_eq_true rfl, Nat.le_of_ble_eq_true rfl⟩) ⟨xb_blind xe_ok, va_recv hK hP (ci := 12) (q0 := 0) rfl rfl, xb_enter xe_ok hK hP hD hS hA hE [0] rfl rfl rfl [] rfl⟩ rfl rfl hl.1 rfl (lv_room (Nat.le_of_ble_eq_true rfl)) dL_law_244 ⟨Nat.le_of_ble_eq_true rfl, Nat.le_of_ble_eq_true rfl⟩) hK hP hD hS hA [0] [1, 2, 3, 4, 5, 6, 7, 8] rfl rfl rfl (by decide) (fun r_244 u_244 H locs hw_244 hP hD hK hS => ?_)
    generalize u_244 = fs at hP hD hK hw_244
    have hP : va_P D vwCl [(q1, .inl (a1, 66000, .inl f1)), (q2, .inl (a2, 66000, .inl f2)), (q4, .inl (a4, 24000, .inl f4)), (q5, .inl (a5, 24000, .inl f5)), (q6, .inl (a6, 24000, .inl f6)), (q7, .inl (a7, 4096, .inl f7)), (qm, .inl (aM, 65560, .inl fM)), (qo, .inl (aO, 1, .inr (.inl fo2))), (m0, .inr (12, fs))] H := hP
    have hD : va_D A [(q1, .inl (a1, 66000, .inl f1)), (q2, .inl (a2, 66000, .inl f2)), (q4, .inl (a4, 24000, .inl f4)), (q5, .inl (a5, 24000, .inl f5)), (q6, .inl (a6, 24000, .inl f6)), (q7, .inl (a7, 4096, .inl f7)), (qm, .inl (aM, 65560, .inl fM)), (qo, .inl (aO, 1, .inr (.inl fo2))), (m0, .inr (12, fs))] := hD
    have hK : va_K D vwCl [(cB, .byte), (a1, .char), (a2, .char), (a4, .int), (a5, .int), (a6, .int), (a7, .int), (aM, .byte), (aO, .long)] s := hK
    refine W.widen (k := 44) (n := 899686) (by decide) (by decide) ?_
    rcases hw_244 with ⟨_, _, hb0, hm⟩ | ⟨kz, _⟩
    · skip
      subst hb0
      have hm : md_has fs [(0, .int 0)] := hm
      refine lv_istore (lv' := [(6, .int 0), (5, .int 0), (0, .ref b), (1, .ref h0), (2, .ref m0), (3, .ref qo), (4, .int 0)]) hx hb dL_law_247 hl (by decide) rfl (fun ls hl => ?_)
      refine lv_aload_n hx hb dL_law_249 rfl (lv_at hl 4 rfl) ?_
      refine xb_goi (wr := [(q1, .inl (a1, 66000, .inl f1)), (q2, .inl (a2, 66000, .inl f2)), (q4, .inl (a4, 24000, .inl f4)), (q5, .inl (a5, 24000, .inl f5)), (q6, .inl (a6, 24000, .inl f6)), (q7, .inl (a7, 4096, .inl f7)), (qm, .inl (aM, 65560, .inl fM)), (qo, .inl (aO, 1, .inr (.inl fo2)))]) (va_runV (As := []) (rest := []) ⟨hx, hb, hml, hown, htb⟩ (mm_thrown l D g m0 fs 0 (Array.size H) (md_sub hm [0] rfl)) (bg_V 0 htb bg_360 bg_361 bg_362 bg_144 bg_87 rfl rfl (by decide +kernel) ⟨Nat.le_of_ble_eq_true rfl, Nat.le_of_ble_eq_true rfl⟩) ⟨xb_blind xe_ok, va_recv hK hP (ci := 12) (q0 := 8) rfl rfl, xb_enter xe_ok hK hP hD hS hA hE [8] rfl rfl rfl [] rfl⟩ rfl rfl hl.1 rfl (lv_room (Nat.le_of_ble_eq_true rfl)) dL_law_250 ⟨Nat.le_of_ble_eq_true rfl, Nat.le_of_ble_eq_true rfl⟩) hK hP hD hS hA [8] [0, 1, 2, 3, 4, 5, 6, 7] rfl rfl rfl (by decide) (fun r_250 u_250 H locs hw_250 hP hD hK hS => ?_)
      have hP : va_P D vwCl [(q1, .inl (a1, 66000, .inl f1)), (q2, .inl (a2, 66000, .inl f2)), (q4, .inl (a4, 24000, .inl f4)), (q5, .inl (a5, 24000, .inl f5)), (q6, .inl (a6, 24000, .inl f6)), (q7, .inl (a7, 4096, .inl f7)), (qm, .inl (aM, 65560, .inl fM)), (qo, .inl (aO, 1, .inr (.inl fo2))), (m0, .inr (12, fs))] H := hP
      have hD : va_D A [(q1, .inl (a1, 66000, .inl f1)), (q2, .inl (a2, 66000, .inl f2)), (q4, .inl (a4, 24000, .inl f4)), (q5, .inl (a5, 24000, .inl f5)), (q6, .inl (a6, 24000, .inl f6)), (q7, .inl (a7, 4096, .inl f7)), (qm, .inl (aM, 65560, .inl fM)), (qo, .inl (aO, 1, .inr (.inl fo2))), (m0, .inr (12, fs))] := hD
      have hK : va_K D vwCl [(cB, .byte), (a1, .char), (a2, .char), (a4, .int), (a5, .int), (a6, .int), (a7, .int), (aM, .byte), (aO, .long)] s := hK
      refine W.widen (k := 44) (n := 899686) (by decide) (by decide) ?_
      have hw_250 : r_250 = 0 := hw_250
      subst hw_250
      refine lv_iload hx hb dL_law_253 (lv_at hl 1 rfl) ?_
      refine lv_icmp_eq (tgt := 260) hx hb dL_law_255 (by decide) (fun c_255 => ?_) (fun c_255 => ?_)
      rotate_left
      · exact absurd (by decide) c_255
      refine lv_iload hx hb dL_law_260 (lv_at hl 1 rfl) ?_
      refine lv_if_ne (tgt := 277) hx hb dL_law_262 (by decide) (fun c_262 => ?_) (fun c_262 => ?_)
      · exact absurd (by decide) c_262
      refine lv_aload_n hx hb dL_law_265 rfl (lv_at hl 5 rfl) ?_
      refine lv_iconst (v := 0) hx hb dL_law_266 (by decide) ?_
      refine va_lald hx hb hK hP 7 8 rfl rfl (by unfold vp_in; decide) dL_law_267 ?_
      refine lv_iload hx hb dL_law_268 (lv_at hl 0 rfl) ?_
      refine lv_i2l (v := Int32.toInt64 0) hx hb dL_law_270 rfl ?_
      refine W.lcmp hx hb dL_law_271 ?_
      refine lv_if_eq (tgt := 277) hx hb dL_law_272 (by decide) (fun c_272 => ?_) (fun c_272 => ?_)
      rotate_left
      · exact absurd (by rw [show fo2 (Int32.toNatClampNeg 0) = Int32.toInt64 0 from ho]; exact lg_self _) c_272
      refine lv_goto (tgt := 978) hx hb dL_law_277 (by decide) ?_
      exact law_done hx hb hr hml hlocks hX hbl hAe hbA hS (by decide) (by decide) (lv_sub hl [6, 2] rfl)
    · skip
      exact (kz.elim (fun h => k1 h) (fun h => h k2)).elim
  · skip
    subst hr0
    have hK := hK.sub (tys' := [(cB, .byte), (a1, .char), (a2, .char), (a4, .int), (a5, .int), (a6, .int), (a7, .int), (aM, .byte), (aO, .long)]) [0, 1, 2, 3, 4, 5, 6, 7, 8] rfl
    refine lv_istore (lv' := [(5, .int 1), (0, .ref b), (1, .ref h0), (2, .ref m0), (3, .ref qo), (4, .int 0)]) hx hb dL_law_235 hl (by decide) rfl (fun ls hl => ?_)
    refine lv_aload_n hx hb dL_law_237 rfl (lv_at hl 3 rfl) ?_
    refine lv_aload_n hx hb dL_law_238 rfl (lv_at hl 1 rfl) ?_
    refine lv_iload hx hb dL_law_239 (lv_at hl 5 rfl) ?_
    refine lv_iconst (v := 1) hx hb dL_law_241 (by decide) ?_
    refine lv_iadd hx hb dL_law_242 ?_
    refine va_sld hx hb hX hbl hbA hS (by unfold vp_in; decide) dL_law_243 ?_
    refine xb_goi (wr := [(q1, .inl (a1, 66000, .inl f1)), (q2, .inl (a2, 66000, .inl f2)), (q4, .inl (a4, 24000, .inl f4)), (q5, .inl (a5, 24000, .inl f5)), (q6, .inl (a6, 24000, .inl f6)), (q7, .inl (a7, 4096, .inl f7)), (qm, .inl (aM, 65560, .inl fM)), (qo, .inl (aO, 1, .inr (.inl fo2)))]) (va_runV (As := [.int (xs (Int32.toNatClampNeg (0 + 1)))]) (rest := []) ⟨hx, hb, hml, hown, htb⟩ (mm_end l D g m0 fs (xs (Int32.toNatClampNeg (0 + 1))) (Array.size H) (md_sub hm [10] rfl)) (bg_V 1 htb bg_365 bg_366 bg_367 bg_144 bg_212 rfl rfl (by decide +kernel) ⟨Nat.le_of_ble_eq_true rfl, Nat.le_of_ble_eq_true rfl⟩) ⟨xb_blind xe_ok, va_recv hK hP (ci := 12) (q0 := 0) rfl rfl, xb_enter xe_ok hK hP hD hS hA hE [0] rfl rfl rfl [] rfl⟩ rfl rfl hl.1 rfl (lv_room (Nat.le_of_ble_eq_true rfl)) dL_law_244 ⟨Nat.le_of_ble_eq_true rfl, Nat.le_of_ble_eq_true rfl⟩) hK hP hD hS hA [0] [1, 2, 3, 4, 5, 6, 7, 8] rfl rfl rfl (by decide) (fun r_244 u_244 H locs hw_244 hP hD hK hS => ?_)
    generalize u_244 = fs at hP hD hK hw_244
    have hP : va_P D vwCl [(q1, .inl (a1, 66000, .inl f1)), (q2, .inl (a2, 66000, .inl f2)), (q4, .inl (a4, 24000, .inl f4)), (q5, .inl (a5, 24000, .inl f5)), (q6, .inl (a6, 24000, .inl f6)), (q7, .inl (a7, 4096, .inl f7)), (qm, .inl (aM, 65560, .inl fM)), (qo, .inl (aO, 1, .inr (.inl fo2))), (m0, .inr (12, fs))] H := hP
    have hD : va_D A [(q1, .inl (a1, 66000, .inl f1)), (q2, .inl (a2, 66000, .inl f2)), (q4, .inl (a4, 24000, .inl f4)), (q5, .inl (a5, 24000, .inl f5)), (q6, .inl (a6, 24000, .inl f6)), (q7, .inl (a7, 4096, .inl f7)), (qm, .inl (aM, 65560, .inl fM)), (qo, .inl (aO, 1, .inr (.inl fo2))), (m0, .inr (12, fs))] := hD
    have hK : va_K D vwCl [(cB, .byte), (a1, .char), (a2, .char), (a4, .int), (a5, .int), (a6, .int), (a7, .int), (aM, .byte), (aO, .long)] s := hK
    refine W.widen (k := 44) (n := 899686) (by decide) (by decide) ?_
    rcases hw_244 with ⟨j1, j2, _, _⟩ | ⟨_, hm⟩
    · skip
      exact (kx.elim (fun h => j1 h) (fun h => h j2)).elim
    · skip
      have hm : md_has fs [(0, .int 1)] := hm
      refine lv_istore (lv' := [(6, .int r_244), (5, .int 1), (0, .ref b), (1, .ref h0), (2, .ref m0), (3, .ref qo), (4, .int 0)]) hx hb dL_law_247 hl (by decide) rfl (fun ls hl => ?_)
      refine lv_aload_n hx hb dL_law_249 rfl (lv_at hl 4 rfl) ?_
      refine xb_goi (wr := [(q1, .inl (a1, 66000, .inl f1)), (q2, .inl (a2, 66000, .inl f2)), (q4, .inl (a4, 24000, .inl f4)), (q5, .inl (a5, 24000, .inl f5)), (q6, .inl (a6, 24000, .inl f6)), (q7, .inl (a7, 4096, .inl f7)), (qm, .inl (aM, 65560, .inl fM)), (qo, .inl (aO, 1, .inr (.inl fo2)))]) (va_runV (As := []) (rest := []) ⟨hx, hb, hml, hown, htb⟩ (mm_thrown l D g m0 fs 1 (Array.size H) (md_sub hm [0] rfl)) (bg_V 0 htb bg_360 bg_361 bg_362 bg_144 bg_87 rfl rfl (by decide +kernel) ⟨Nat.le_of_ble_eq_true rfl, Nat.le_of_ble_eq_true rfl⟩) ⟨xb_blind xe_ok, va_recv hK hP (ci := 12) (q0 := 8) rfl rfl, xb_enter xe_ok hK hP hD hS hA hE [8] rfl rfl rfl [] rfl⟩ rfl rfl hl.1 rfl (lv_room (Nat.le_of_ble_eq_true rfl)) dL_law_250 ⟨Nat.le_of_ble_eq_true rfl, Nat.le_of_ble_eq_true rfl⟩) hK hP hD hS hA [8] [0, 1, 2, 3, 4, 5, 6, 7] rfl rfl rfl (by decide) (fun r_250 u_250 H locs hw_250 hP hD hK hS => ?_)
      have hP : va_P D vwCl [(q1, .inl (a1, 66000, .inl f1)), (q2, .inl (a2, 66000, .inl f2)), (q4, .inl (a4, 24000, .inl f4)), (q5, .inl (a5, 24000, .inl f5)), (q6, .inl (a6, 24000, .inl f6)), (q7, .inl (a7, 4096, .inl f7)), (qm, .inl (aM, 65560, .inl fM)), (qo, .inl (aO, 1, .inr (.inl fo2))), (m0, .inr (12, fs))] H := hP
      have hD : va_D A [(q1, .inl (a1, 66000, .inl f1)), (q2, .inl (a2, 66000, .inl f2)), (q4, .inl (a4, 24000, .inl f4)), (q5, .inl (a5, 24000, .inl f5)), (q6, .inl (a6, 24000, .inl f6)), (q7, .inl (a7, 4096, .inl f7)), (qm, .inl (aM, 65560, .inl fM)), (qo, .inl (aO, 1, .inr (.inl fo2))), (m0, .inr (12, fs))] := hD
      have hK : va_K D vwCl [(cB, .byte), (a1, .char), (a2, .char), (a4, .int), (a5, .int), (a6, .int), (a7, .int), (aM, .byte), (aO, .long)] s := hK
      refine W.widen (k := 44) (n := 899686) (by decide) (by decide) ?_
      have hw_250 : r_250 = 1 := hw_250
      subst hw_250
      refine lv_iload hx hb dL_law_253 (lv_at hl 1 rfl) ?_
      refine lv_icmp_eq (tgt := 260) hx hb dL_law_255 (by decide) (fun c_255 => ?_) (fun c_255 => ?_)
      rotate_left
      · exact absurd (by decide) c_255
      refine lv_iload hx hb dL_law_260 (lv_at hl 1 rfl) ?_
      refine lv_if_ne (tgt := 277) hx hb dL_law_262 (by decide) (fun c_262 => ?_) (fun c_262 => ?_)
      rotate_left
      · exact absurd c_262 (by decide)
      refine lv_goto (tgt := 978) hx hb dL_law_277 (by decide) ?_
      exact law_done hx hb hr hml hlocks hX hbl hAe hbA hS (by decide) (by decide) (lv_sub hl [6, 2] rfl)
theorem dL_law_306 : decode cL_law 306 = .ok (.aload_n 1, 1) := by decide +kernel
theorem dL_law_307 : decode cL_law 307 = .ok (.aload_n 0, 1) := by decide +kernel
theorem dL_law_308 : decode cL_law 308 = .ok (.iload 4, 2) := by decide +kernel
theorem dL_law_310 : decode cL_law 310 = .ok (.iconst 1, 1) := by decide +kernel
theorem dL_law_311 : decode cL_law 311 = .ok (.iadd, 1) := by decide +kernel
theorem dL_law_312 : decode cL_law 312 = .ok (.iaload, 1) := by decide +kernel
theorem dL_law_313 : decode cL_law 313 = .ok (.aload_n 3, 1) := by decide +kernel
theorem dL_law_314 : decode cL_law 314 = .ok (.invokestatic 65, 3) := by decide +kernel
theorem dL_law_317 : decode cL_law 317 = .ok (.istore 5, 2) := by decide +kernel
theorem dL_law_319 : decode cL_law 319 = .ok (.aload_n 2, 1) := by decide +kernel
theorem dL_law_320 : decode cL_law 320 = .ok (.aload_n 0, 1) := by decide +kernel
theorem dL_law_321 : decode cL_law 321 = .ok (.iload 4, 2) := by decide +kernel
theorem dL_law_323 : decode cL_law 323 = .ok (.iconst 1, 1) := by decide +kernel
theorem dL_law_324 : decode cL_law 324 = .ok (.iadd, 1) := by decide +kernel
theorem dL_law_325 : decode cL_law 325 = .ok (.iaload, 1) := by decide +kernel
theorem dL_law_326 : decode cL_law 326 = .ok (.invokevirtual 67, 3) := by decide +kernel
theorem dL_law_329 : decode cL_law 329 = .ok (.istore 6, 2) := by decide +kernel
theorem dL_law_331 : decode cL_law 331 = .ok (.aload_n 2, 1) := by decide +kernel
theorem dL_law_332 : decode cL_law 332 = .ok (.invokevirtual 49, 3) := by decide +kernel
theorem dL_law_335 : decode cL_law 335 = .ok (.iload 5, 2) := by decide +kernel
theorem dL_law_337 : decode cL_law 337 = .ok (.if_icmp .eq 5, 3) := by decide +kernel
theorem dL_law_342 : decode cL_law 342 = .ok (.iload 5, 2) := by decide +kernel
theorem dL_law_344 : decode cL_law 344 = .ok (.ifCond .ne 15, 3) := by decide +kernel
theorem dL_law_347 : decode cL_law 347 = .ok (.aload_n 3, 1) := by decide +kernel
theorem dL_law_348 : decode cL_law 348 = .ok (.iconst 0, 1) := by decide +kernel
theorem dL_law_349 : decode cL_law 349 = .ok (.laload, 1) := by decide +kernel
theorem dL_law_350 : decode cL_law 350 = .ok (.iload 6, 2) := by decide +kernel
theorem dL_law_352 : decode cL_law 352 = .ok (.i2l, 1) := by decide +kernel
theorem dL_law_353 : decode cL_law 353 = .ok (.lcmp, 1) := by decide +kernel
theorem dL_law_354 : decode cL_law 354 = .ok (.ifCond .eq 5, 3) := by decide +kernel
theorem dL_law_359 : decode cL_law 359 = .ok (.goto 619, 3) := by decide +kernel
set_option maxHeartbeats 8000000 in
set_option maxRecDepth 100000 in
theorem law_4 {p : Program} {l : Launch} {e : Env} {s : State} {m : MethodId} {below : List Frame} {meth : Method} {c : Code} {H : Heap} {locs : List Loc} {A : Nat → Prop} {b : Nat} {xs : Nat → Int32} {ls : Array Slot} {D : va_G} {g : xe_G} {h0 : Nat} {qc : Nat} {cB : ClassId} {m0 : Nat} {fs : List Value} {q1 : Nat} {q2 : Nat} {q4 : Nat} {q5 : Nat} {q6 : Nat} {q7 : Nat} {a1 : ClassId} {a2 : ClassId} {a4 : ClassId} {a5 : ClassId} {a6 : ClassId} {a7 : ClassId} {f1 : Nat → Int32} {f2 : Nat → Int32} {f4 : Nat → Int32} {f5 : Nat → Int32} {f6 : Nat → Int32} {f7 : Nat → Int32} {qf : Nat} {qm : Nat} {aM : ClassId} {fM : Nat → Int32} {qo : Nat} {aO : ClassId} (hx : p.tables.exec = Jvm.exec) (hb : c.code = cL_law) (hr : meth.sig.returnType = ret) (hml : c.maxLocals = 7) (hlocks : meth.locks = false) (hown : s.vm.findClass RL = some m.cls) (htb : ∀ w ∈ bg, w.before #[Value.ref b] s = true) (hX : va_X b 6 xs s s.heap) (hbl : b < s.heap.size) (hAe : A = fun q : Nat => s.heap.size ≤ q) (hbA : ¬ A b) (hA : ∀ q : Nat, s.heap.size ≤ q → A q) (hE : xe_E g A s s.heap) (hnt : l.stackTraces = false) (hm : md_has fs [(1, .ref q1), (2, .ref q2), (4, .ref q4), (5, .ref q5), (6, .ref q6), (7, .ref q7), (13, .ref qf), (15, .ref qm), (17, .int 0), (18, .int (-1)), (19, .int 0), (73, .int (-1))]) (hK : va_K D vwCl [(cB, .byte), (a1, .char), (a2, .char), (a4, .int), (a5, .int), (a6, .int), (a7, .int), (aM, .byte), (aO, .long)] s) (hP : va_P D vwCl [(h0, .inr (11, [.ref qc, .int 0, .ref g.1, .null, .int (-1)])), (qc, .inl (cB, 1024, .inl (fun _ => 0))), (m0, .inr (12, fs)), (q1, .inl (a1, 66000, .inl f1)), (q2, .inl (a2, 66000, .inl f2)), (q4, .inl (a4, 24000, .inl f4)), (q5, .inl (a5, 24000, .inl f5)), (q6, .inl (a6, 24000, .inl f6)), (q7, .inl (a7, 4096, .inl f7)), (qm, .inl (aM, 65560, .inl fM)), (qo, .inl (aO, 1, .inr (.inl (fun _ => 0))))] H) (hD : va_D A [(h0, .inr (11, [.ref qc, .int 0, .ref g.1, .null, .int (-1)])), (qc, .inl (cB, 1024, .inl (fun _ => 0))), (m0, .inr (12, fs)), (q1, .inl (a1, 66000, .inl f1)), (q2, .inl (a2, 66000, .inl f2)), (q4, .inl (a4, 24000, .inl f4)), (q5, .inl (a5, 24000, .inl f5)), (q6, .inl (a6, 24000, .inl f6)), (q7, .inl (a7, 4096, .inl f7)), (qm, .inl (aM, 65560, .inl fM)), (qo, .inl (aO, 1, .inr (.inl (fun _ => 0))))]) (hS : va_S A s.heap H locs) (hl : lv_has ls 7 [(0, .ref b), (1, .ref h0), (2, .ref m0), (3, .ref qo), (4, .int 0)]) : W p l e room_1 s m #[Value.ref b] below meth c H locs 43 899680 (lw_Z below #[Value.ref b] s) (F0 m 306 ls []) := by
  refine lv_aload_n hx hb dL_law_306 rfl (lv_at hl 1 rfl) ?_
  refine lv_aload_n hx hb dL_law_307 rfl (lv_at hl 0 rfl) ?_
  refine lv_iload hx hb dL_law_308 (lv_at hl 4 rfl) ?_
  refine lv_iconst (v := 1) hx hb dL_law_310 (by decide) ?_
  refine lv_iadd hx hb dL_law_311 ?_
  refine va_sld hx hb hX hbl hbA hS (by unfold vp_in; decide) dL_law_312 ?_
  refine lv_aload_n hx hb dL_law_313 rfl (lv_at hl 3 rfl) ?_
  refine xb_goi (wr := [(qc, .inl (cB, 1024, .inl (fun _ => 0))), (m0, .inr (12, fs)), (q1, .inl (a1, 66000, .inl f1)), (q2, .inl (a2, 66000, .inl f2)), (q4, .inl (a4, 24000, .inl f4)), (q5, .inl (a5, 24000, .inl f5)), (q6, .inl (a6, 24000, .inl f6)), (q7, .inl (a7, 4096, .inl f7)), (qm, .inl (aM, 65560, .inl fM))]) (vx_runSW (As := [.ref h0, .int (xs (Int32.toNatClampNeg (0 + 1))), .ref qo]) (rest := []) ⟨hx, hb, hml, hown, htb⟩ (lh_count l D g h0 qc 0 g.1 (-1) qo aO (fun _ => 0) (xs (Int32.toNatClampNeg (0 + 1))) (Array.size H) (hnt)) (bg_SW 3 htb bg_380 bg_381 bg_356 bg_325 rfl rfl (by decide +kernel) ⟨Nat.le_of_ble_eq_true rfl, Nat.le_of_ble_eq_true rfl⟩) ⟨xb_blind xe_ok, xb_enter xe_ok hK hP hD hS hA hE [0, 10] rfl rfl rfl [8] rfl⟩ rfl rfl hl.1 rfl (lv_room (Nat.le_of_ble_eq_true rfl)) dL_law_314 ⟨Nat.le_of_ble_eq_true rfl, Nat.le_of_ble_eq_true rfl⟩) hK hP hD hS hA [0, 10] [1, 2, 3, 4, 5, 6, 7, 8, 9] rfl rfl rfl (by decide) (fun r_314 u_314 H locs hw_314 hP hD hK hS => ?_)
  generalize u_314 = fo2 at hP hD hK hw_314
  have hP : va_P D vwCl [(qc, .inl (cB, 1024, .inl (fun _ => 0))), (m0, .inr (12, fs)), (q1, .inl (a1, 66000, .inl f1)), (q2, .inl (a2, 66000, .inl f2)), (q4, .inl (a4, 24000, .inl f4)), (q5, .inl (a5, 24000, .inl f5)), (q6, .inl (a6, 24000, .inl f6)), (q7, .inl (a7, 4096, .inl f7)), (qm, .inl (aM, 65560, .inl fM)), (qo, .inl (aO, 1, .inr (.inl fo2)))] H := hP
  have hD : va_D A [(qc, .inl (cB, 1024, .inl (fun _ => 0))), (m0, .inr (12, fs)), (q1, .inl (a1, 66000, .inl f1)), (q2, .inl (a2, 66000, .inl f2)), (q4, .inl (a4, 24000, .inl f4)), (q5, .inl (a5, 24000, .inl f5)), (q6, .inl (a6, 24000, .inl f6)), (q7, .inl (a7, 4096, .inl f7)), (qm, .inl (aM, 65560, .inl fM)), (qo, .inl (aO, 1, .inr (.inl fo2)))] := hD
  have hK : va_K D vwCl [(cB, .byte), (a1, .char), (a2, .char), (a4, .int), (a5, .int), (a6, .int), (a7, .int), (aM, .byte), (aO, .long), (aO, .long)] s := hK
  refine W.widen (k := 44) (n := 899686) (by decide) (by decide) ?_
  rcases hw_314 with ⟨k1, k2, hr0, ho⟩ | ⟨kx, hr0⟩
  · skip
    subst hr0
    have hK := hK.sub (tys' := [(cB, .byte), (a1, .char), (a2, .char), (a4, .int), (a5, .int), (a6, .int), (a7, .int), (aM, .byte), (aO, .long)]) [0, 1, 2, 3, 4, 5, 6, 7, 8] rfl
    refine lv_istore (lv' := [(5, .int 0), (0, .ref b), (1, .ref h0), (2, .ref m0), (3, .ref qo), (4, .int 0)]) hx hb dL_law_317 hl (by decide) rfl (fun ls hl => ?_)
    refine lv_aload_n hx hb dL_law_319 rfl (lv_at hl 3 rfl) ?_
    refine lv_aload_n hx hb dL_law_320 rfl (lv_at hl 1 rfl) ?_
    refine lv_iload hx hb dL_law_321 (lv_at hl 5 rfl) ?_
    refine lv_iconst (v := 1) hx hb dL_law_323 (by decide) ?_
    refine lv_iadd hx hb dL_law_324 ?_
    refine va_sld hx hb hX hbl hbA hS (by unfold vp_in; decide) dL_law_325 ?_
    refine xb_goi (wr := [(qc, .inl (cB, 1024, .inl (fun _ => 0))), (q1, .inl (a1, 66000, .inl f1)), (q2, .inl (a2, 66000, .inl f2)), (q4, .inl (a4, 24000, .inl f4)), (q5, .inl (a5, 24000, .inl f5)), (q6, .inl (a6, 24000, .inl f6)), (q7, .inl (a7, 4096, .inl f7)), (qm, .inl (aM, 65560, .inl fM)), (qo, .inl (aO, 1, .inr (.inl fo2)))]) (va_runV (As := [.int (xs (Int32.toNatClampNeg (0 + 1)))]) (rest := []) ⟨hx, hb, hml, hown, htb⟩ (mm_count l D g m0 fs (xs (Int32.toNatClampNeg (0 + 1))) (Array.size H) (md_sub hm [9] rfl)) (bg_V 1 htb bg_382 bg_383 bg_384 bg_144 bg_226 rfl rfl (by decide +kernel) ⟨Nat.le_of_ble_eq_true rfl, Nat.le_of_ble_eq_true rfl⟩) ⟨xb_blind xe_ok, va_recv hK hP (ci := 12) (q0 := 1) rfl rfl, xb_enter xe_ok hK hP hD hS hA hE [1] rfl rfl rfl [] rfl⟩ rfl rfl hl.1 rfl (lv_room (Nat.le_of_ble_eq_true rfl)) dL_law_326 ⟨Nat.le_of_ble_eq_true rfl, Nat.le_of_ble_eq_true rfl⟩) hK hP hD hS hA [1] [0, 2, 3, 4, 5, 6, 7, 8, 9] rfl rfl rfl (by decide) (fun r_326 u_326 H locs hw_326 hP hD hK hS => ?_)
    generalize u_326 = fs at hP hD hK hw_326
    have hP : va_P D vwCl [(qc, .inl (cB, 1024, .inl (fun _ => 0))), (q1, .inl (a1, 66000, .inl f1)), (q2, .inl (a2, 66000, .inl f2)), (q4, .inl (a4, 24000, .inl f4)), (q5, .inl (a5, 24000, .inl f5)), (q6, .inl (a6, 24000, .inl f6)), (q7, .inl (a7, 4096, .inl f7)), (qm, .inl (aM, 65560, .inl fM)), (qo, .inl (aO, 1, .inr (.inl fo2))), (m0, .inr (12, fs))] H := hP
    have hD : va_D A [(qc, .inl (cB, 1024, .inl (fun _ => 0))), (q1, .inl (a1, 66000, .inl f1)), (q2, .inl (a2, 66000, .inl f2)), (q4, .inl (a4, 24000, .inl f4)), (q5, .inl (a5, 24000, .inl f5)), (q6, .inl (a6, 24000, .inl f6)), (q7, .inl (a7, 4096, .inl f7)), (qm, .inl (aM, 65560, .inl fM)), (qo, .inl (aO, 1, .inr (.inl fo2))), (m0, .inr (12, fs))] := hD
    have hK : va_K D vwCl [(cB, .byte), (a1, .char), (a2, .char), (a4, .int), (a5, .int), (a6, .int), (a7, .int), (aM, .byte), (aO, .long)] s := hK
    refine W.widen (k := 44) (n := 899686) (by decide) (by decide) ?_
    rcases hw_326 with ⟨_, _, hb0, hm⟩ | ⟨kz, _⟩
    · skip
      subst hb0
      have hm : md_has fs [(0, .int 0)] := hm
      refine lv_istore (lv' := [(6, .int (-1)), (5, .int 0), (0, .ref b), (1, .ref h0), (2, .ref m0), (3, .ref qo), (4, .int 0)]) hx hb dL_law_329 hl (by decide) rfl (fun ls hl => ?_)
      refine lv_aload_n hx hb dL_law_331 rfl (lv_at hl 4 rfl) ?_
      refine xb_goi (wr := [(qc, .inl (cB, 1024, .inl (fun _ => 0))), (q1, .inl (a1, 66000, .inl f1)), (q2, .inl (a2, 66000, .inl f2)), (q4, .inl (a4, 24000, .inl f4)), (q5, .inl (a5, 24000, .inl f5)), (q6, .inl (a6, 24000, .inl f6)), (q7, .inl (a7, 4096, .inl f7)), (qm, .inl (aM, 65560, .inl fM)), (qo, .inl (aO, 1, .inr (.inl fo2)))]) (va_runV (As := []) (rest := []) ⟨hx, hb, hml, hown, htb⟩ (mm_thrown l D g m0 fs 0 (Array.size H) (md_sub hm [0] rfl)) (bg_V 0 htb bg_360 bg_361 bg_362 bg_144 bg_87 rfl rfl (by decide +kernel) ⟨Nat.le_of_ble_eq_true rfl, Nat.le_of_ble_eq_true rfl⟩) ⟨xb_blind xe_ok, va_recv hK hP (ci := 12) (q0 := 9) rfl rfl, xb_enter xe_ok hK hP hD hS hA hE [9] rfl rfl rfl [] rfl⟩ rfl rfl hl.1 rfl (lv_room (Nat.le_of_ble_eq_true rfl)) dL_law_332 ⟨Nat.le_of_ble_eq_true rfl, Nat.le_of_ble_eq_true rfl⟩) hK hP hD hS hA [9] [0, 1, 2, 3, 4, 5, 6, 7, 8] rfl rfl rfl (by decide) (fun r_332 u_332 H locs hw_332 hP hD hK hS => ?_)
      have hP : va_P D vwCl [(qc, .inl (cB, 1024, .inl (fun _ => 0))), (q1, .inl (a1, 66000, .inl f1)), (q2, .inl (a2, 66000, .inl f2)), (q4, .inl (a4, 24000, .inl f4)), (q5, .inl (a5, 24000, .inl f5)), (q6, .inl (a6, 24000, .inl f6)), (q7, .inl (a7, 4096, .inl f7)), (qm, .inl (aM, 65560, .inl fM)), (qo, .inl (aO, 1, .inr (.inl fo2))), (m0, .inr (12, fs))] H := hP
      have hD : va_D A [(qc, .inl (cB, 1024, .inl (fun _ => 0))), (q1, .inl (a1, 66000, .inl f1)), (q2, .inl (a2, 66000, .inl f2)), (q4, .inl (a4, 24000, .inl f4)), (q5, .inl (a5, 24000, .inl f5)), (q6, .inl (a6, 24000, .inl f6)), (q7, .inl (a7, 4096, .inl f7)), (qm, .inl (aM, 65560, .inl fM)), (qo, .inl (aO, 1, .inr (.inl fo2))), (m0, .inr (12, fs))] := hD
      have hK : va_K D vwCl [(cB, .byte), (a1, .char), (a2, .char), (a4, .int), (a5, .int), (a6, .int), (a7, .int), (aM, .byte), (aO, .long)] s := hK
      refine W.widen (k := 44) (n := 899686) (by decide) (by decide) ?_
      have hw_332 : r_332 = 0 := hw_332
      subst hw_332
      refine lv_iload hx hb dL_law_335 (lv_at hl 1 rfl) ?_
      refine lv_icmp_eq (tgt := 342) hx hb dL_law_337 (by decide) (fun c_337 => ?_) (fun c_337 => ?_)
      rotate_left
      · exact absurd (by decide) c_337
      refine lv_iload hx hb dL_law_342 (lv_at hl 1 rfl) ?_
      refine lv_if_ne (tgt := 359) hx hb dL_law_344 (by decide) (fun c_344 => ?_) (fun c_344 => ?_)
      · exact absurd (by decide) c_344
      refine lv_aload_n hx hb dL_law_347 rfl (lv_at hl 5 rfl) ?_
      refine lv_iconst (v := 0) hx hb dL_law_348 (by decide) ?_
      refine va_lald hx hb hK hP 8 8 rfl rfl (by unfold vp_in; decide) dL_law_349 ?_
      refine lv_iload hx hb dL_law_350 (lv_at hl 0 rfl) ?_
      refine lv_i2l (v := Int32.toInt64 (-1)) hx hb dL_law_352 rfl ?_
      refine W.lcmp hx hb dL_law_353 ?_
      refine lv_if_eq (tgt := 359) hx hb dL_law_354 (by decide) (fun c_354 => ?_) (fun c_354 => ?_)
      rotate_left
      · exact absurd (by rw [show fo2 (Int32.toNatClampNeg 0) = Int32.toInt64 (-1) from ho]; exact lg_self _) c_354
      refine lv_goto (tgt := 978) hx hb dL_law_359 (by decide) ?_
      exact law_done hx hb hr hml hlocks hX hbl hAe hbA hS (by decide) (by decide) (lv_sub hl [6, 2] rfl)
    · skip
      exact (kz.elim (fun h => k1 h) (fun h => h k2)).elim
  · skip
    subst hr0
    have hK := hK.sub (tys' := [(cB, .byte), (a1, .char), (a2, .char), (a4, .int), (a5, .int), (a6, .int), (a7, .int), (aM, .byte), (aO, .long)]) [0, 1, 2, 3, 4, 5, 6, 7, 8] rfl
    refine lv_istore (lv' := [(5, .int 1), (0, .ref b), (1, .ref h0), (2, .ref m0), (3, .ref qo), (4, .int 0)]) hx hb dL_law_317 hl (by decide) rfl (fun ls hl => ?_)
    refine lv_aload_n hx hb dL_law_319 rfl (lv_at hl 3 rfl) ?_
    refine lv_aload_n hx hb dL_law_320 rfl (lv_at hl 1 rfl) ?_
    refine lv_iload hx hb dL_law_321 (lv_at hl 5 rfl) ?_
    refine lv_iconst (v := 1) hx hb dL_law_323 (by decide) ?_
    refine lv_iadd hx hb dL_law_324 ?_
    refine va_sld hx hb hX hbl hbA hS (by unfold vp_in; decide) dL_law_325 ?_
    refine xb_goi (wr := [(qc, .inl (cB, 1024, .inl (fun _ => 0))), (q1, .inl (a1, 66000, .inl f1)), (q2, .inl (a2, 66000, .inl f2)), (q4, .inl (a4, 24000, .inl f4)), (q5, .inl (a5, 24000, .inl f5)), (q6, .inl (a6, 24000, .inl f6)), (q7, .inl (a7, 4096, .inl f7)), (qm, .inl (aM, 65560, .inl fM)), (qo, .inl (aO, 1, .inr (.inl fo2)))]) (va_runV (As := [.int (xs (Int32.toNatClampNeg (0 + 1)))]) (rest := []) ⟨hx, hb, hml, hown, htb⟩ (mm_count l D g m0 fs (xs (Int32.toNatClampNeg (0 + 1))) (Array.size H) (md_sub hm [9] rfl)) (bg_V 1 htb bg_382 bg_383 bg_384 bg_144 bg_226 rfl rfl (by decide +kernel) ⟨Nat.le_of_ble_eq_true rfl, Nat.le_of_ble_eq_true rfl⟩) ⟨xb_blind xe_ok, va_recv hK hP (ci := 12) (q0 := 1) rfl rfl, xb_enter xe_ok hK hP hD hS hA hE [1] rfl rfl rfl [] rfl⟩ rfl rfl hl.1 rfl (lv_room (Nat.le_of_ble_eq_true rfl)) dL_law_326 ⟨Nat.le_of_ble_eq_true rfl, Nat.le_of_ble_eq_true rfl⟩) hK hP hD hS hA [1] [0, 2, 3, 4, 5, 6, 7, 8, 9] rfl rfl rfl (by decide) (fun r_326 u_326 H locs hw_326 hP hD hK hS => ?_)
    generalize u_326 = fs at hP hD hK hw_326
    have hP : va_P D vwCl [(qc, .inl (cB, 1024, .inl (fun _ => 0))), (q1, .inl (a1, 66000, .inl f1)), (q2, .inl (a2, 66000, .inl f2)), (q4, .inl (a4, 24000, .inl f4)), (q5, .inl (a5, 24000, .inl f5)), (q6, .inl (a6, 24000, .inl f6)), (q7, .inl (a7, 4096, .inl f7)), (qm, .inl (aM, 65560, .inl fM)), (qo, .inl (aO, 1, .inr (.inl fo2))), (m0, .inr (12, fs))] H := hP
    have hD : va_D A [(qc, .inl (cB, 1024, .inl (fun _ => 0))), (q1, .inl (a1, 66000, .inl f1)), (q2, .inl (a2, 66000, .inl f2)), (q4, .inl (a4, 24000, .inl f4)), (q5, .inl (a5, 24000, .inl f5)), (q6, .inl (a6, 24000, .inl f6)), (q7, .inl (a7, 4096, .inl f7)), (qm, .inl (aM, 65560, .inl fM)), (qo, .inl (aO, 1, .inr (.inl fo2))), (m0, .inr (12, fs))] := hD
    have hK : va_K D vwCl [(cB, .byte), (a1, .char), (a2, .char), (a4, .int), (a5, .int), (a6, .int), (a7, .int), (aM, .byte), (aO, .long)] s := hK
    refine W.widen (k := 44) (n := 899686) (by decide) (by decide) ?_
    rcases hw_326 with ⟨j1, j2, _, _⟩ | ⟨_, hm⟩
    · skip
      exact (kx.elim (fun h => j1 h) (fun h => h j2)).elim
    · skip
      have hm : md_has fs [(0, .int 1)] := hm
      refine lv_istore (lv' := [(6, .int r_326), (5, .int 1), (0, .ref b), (1, .ref h0), (2, .ref m0), (3, .ref qo), (4, .int 0)]) hx hb dL_law_329 hl (by decide) rfl (fun ls hl => ?_)
      refine lv_aload_n hx hb dL_law_331 rfl (lv_at hl 4 rfl) ?_
      refine xb_goi (wr := [(qc, .inl (cB, 1024, .inl (fun _ => 0))), (q1, .inl (a1, 66000, .inl f1)), (q2, .inl (a2, 66000, .inl f2)), (q4, .inl (a4, 24000, .inl f4)), (q5, .inl (a5, 24000, .inl f5)), (q6, .inl (a6, 24000, .inl f6)), (q7, .inl (a7, 4096, .inl f7)), (qm, .inl (aM, 65560, .inl fM)), (qo, .inl (aO, 1, .inr (.inl fo2)))]) (va_runV (As := []) (rest := []) ⟨hx, hb, hml, hown, htb⟩ (mm_thrown l D g m0 fs 1 (Array.size H) (md_sub hm [0] rfl)) (bg_V 0 htb bg_360 bg_361 bg_362 bg_144 bg_87 rfl rfl (by decide +kernel) ⟨Nat.le_of_ble_eq_true rfl, Nat.le_of_ble_eq_true rfl⟩) ⟨xb_blind xe_ok, va_recv hK hP (ci := 12) (q0 := 9) rfl rfl, xb_enter xe_ok hK hP hD hS hA hE [9] rfl rfl rfl [] rfl⟩ rfl rfl hl.1 rfl (lv_room (Nat.le_of_ble_eq_true rfl)) dL_law_332 ⟨Nat.le_of_ble_eq_true rfl, Nat.le_of_ble_eq_true rfl⟩) hK hP hD hS hA [9] [0, 1, 2, 3, 4, 5, 6, 7, 8] rfl rfl rfl (by decide) (fun r_332 u_332 H locs hw_332 hP hD hK hS => ?_)
      have hP : va_P D vwCl [(qc, .inl (cB, 1024, .inl (fun _ => 0))), (q1, .inl (a1, 66000, .inl f1)), (q2, .inl (a2, 66000, .inl f2)), (q4, .inl (a4, 24000, .inl f4)), (q5, .inl (a5, 24000, .inl f5)), (q6, .inl (a6, 24000, .inl f6)), (q7, .inl (a7, 4096, .inl f7)), (qm, .inl (aM, 65560, .inl fM)), (qo, .inl (aO, 1, .inr (.inl fo2))), (m0, .inr (12, fs))] H := hP
      have hD : va_D A [(qc, .inl (cB, 1024, .inl (fun _ => 0))), (q1, .inl (a1, 66000, .inl f1)), (q2, .inl (a2, 66000, .inl f2)), (q4, .inl (a4, 24000, .inl f4)), (q5, .inl (a5, 24000, .inl f5)), (q6, .inl (a6, 24000, .inl f6)), (q7, .inl (a7, 4096, .inl f7)), (qm, .inl (aM, 65560, .inl fM)), (qo, .inl (aO, 1, .inr (.inl fo2))), (m0, .inr (12, fs))] := hD
      have hK : va_K D vwCl [(cB, .byte), (a1, .char), (a2, .char), (a4, .int), (a5, .int), (a6, .int), (a7, .int), (aM, .byte), (aO, .long)] s := hK
      refine W.widen (k := 44) (n := 899686) (by decide) (by decide) ?_
      have hw_332 : r_332 = 1 := hw_332
      subst hw_332
      refine lv_iload hx hb dL_law_335 (lv_at hl 1 rfl) ?_
      refine lv_icmp_eq (tgt := 342) hx hb dL_law_337 (by decide) (fun c_337 => ?_) (fun c_337 => ?_)
      rotate_left
      · exact absurd (by decide) c_337
      refine lv_iload hx hb dL_law_342 (lv_at hl 1 rfl) ?_
      refine lv_if_ne (tgt := 359) hx hb dL_law_344 (by decide) (fun c_344 => ?_) (fun c_344 => ?_)
      rotate_left
      · exact absurd c_344 (by decide)
      refine lv_goto (tgt := 978) hx hb dL_law_359 (by decide) ?_
      exact law_done hx hb hr hml hlocks hX hbl hAe hbA hS (by decide) (by decide) (lv_sub hl [6, 2] rfl)
theorem dL_law_362 : decode cL_law 362 = .ok (.aload_n 1, 1) := by decide +kernel
theorem dL_law_363 : decode cL_law 363 = .ok (.aload_n 0, 1) := by decide +kernel
theorem dL_law_364 : decode cL_law 364 = .ok (.iload 4, 2) := by decide +kernel
theorem dL_law_366 : decode cL_law 366 = .ok (.iconst 1, 1) := by decide +kernel
theorem dL_law_367 : decode cL_law 367 = .ok (.iadd, 1) := by decide +kernel
theorem dL_law_368 : decode cL_law 368 = .ok (.iaload, 1) := by decide +kernel
theorem dL_law_369 : decode cL_law 369 = .ok (.aload_n 0, 1) := by decide +kernel
theorem dL_law_370 : decode cL_law 370 = .ok (.iload 4, 2) := by decide +kernel
theorem dL_law_372 : decode cL_law 372 = .ok (.iconst 2, 1) := by decide +kernel
theorem dL_law_373 : decode cL_law 373 = .ok (.iadd, 1) := by decide +kernel
theorem dL_law_374 : decode cL_law 374 = .ok (.iaload, 1) := by decide +kernel
theorem dL_law_375 : decode cL_law 375 = .ok (.aload_n 3, 1) := by decide +kernel
theorem dL_law_376 : decode cL_law 376 = .ok (.invokestatic 68, 3) := by decide +kernel
theorem dL_law_379 : decode cL_law 379 = .ok (.istore 5, 2) := by decide +kernel
theorem dL_law_381 : decode cL_law 381 = .ok (.aload_n 2, 1) := by decide +kernel
theorem dL_law_382 : decode cL_law 382 = .ok (.aload_n 0, 1) := by decide +kernel
theorem dL_law_383 : decode cL_law 383 = .ok (.iload 4, 2) := by decide +kernel
theorem dL_law_385 : decode cL_law 385 = .ok (.iconst 1, 1) := by decide +kernel
theorem dL_law_386 : decode cL_law 386 = .ok (.iadd, 1) := by decide +kernel
theorem dL_law_387 : decode cL_law 387 = .ok (.iaload, 1) := by decide +kernel
theorem dL_law_388 : decode cL_law 388 = .ok (.aload_n 0, 1) := by decide +kernel
theorem dL_law_389 : decode cL_law 389 = .ok (.iload 4, 2) := by decide +kernel
theorem dL_law_391 : decode cL_law 391 = .ok (.iconst 2, 1) := by decide +kernel
theorem dL_law_392 : decode cL_law 392 = .ok (.iadd, 1) := by decide +kernel
theorem dL_law_393 : decode cL_law 393 = .ok (.iaload, 1) := by decide +kernel
theorem dL_law_394 : decode cL_law 394 = .ok (.invokevirtual 71, 3) := by decide +kernel
theorem dL_law_397 : decode cL_law 397 = .ok (.istore 6, 2) := by decide +kernel
theorem dL_law_399 : decode cL_law 399 = .ok (.aload_n 2, 1) := by decide +kernel
theorem dL_law_400 : decode cL_law 400 = .ok (.invokevirtual 49, 3) := by decide +kernel
theorem dL_law_403 : decode cL_law 403 = .ok (.iload 5, 2) := by decide +kernel
theorem dL_law_405 : decode cL_law 405 = .ok (.if_icmp .eq 5, 3) := by decide +kernel
theorem dL_law_410 : decode cL_law 410 = .ok (.iload 5, 2) := by decide +kernel
theorem dL_law_412 : decode cL_law 412 = .ok (.ifCond .ne 15, 3) := by decide +kernel
theorem dL_law_415 : decode cL_law 415 = .ok (.aload_n 3, 1) := by decide +kernel
theorem dL_law_416 : decode cL_law 416 = .ok (.iconst 0, 1) := by decide +kernel
theorem dL_law_417 : decode cL_law 417 = .ok (.laload, 1) := by decide +kernel
theorem dL_law_418 : decode cL_law 418 = .ok (.iload 6, 2) := by decide +kernel
theorem dL_law_420 : decode cL_law 420 = .ok (.i2l, 1) := by decide +kernel
theorem dL_law_421 : decode cL_law 421 = .ok (.lcmp, 1) := by decide +kernel
theorem dL_law_422 : decode cL_law 422 = .ok (.ifCond .eq 5, 3) := by decide +kernel
theorem dL_law_427 : decode cL_law 427 = .ok (.goto 551, 3) := by decide +kernel
set_option maxHeartbeats 8000000 in
set_option maxRecDepth 100000 in
theorem law_5 {p : Program} {l : Launch} {e : Env} {s : State} {m : MethodId} {below : List Frame} {meth : Method} {c : Code} {H : Heap} {locs : List Loc} {A : Nat → Prop} {b : Nat} {xs : Nat → Int32} {ls : Array Slot} {D : va_G} {g : xe_G} {h0 : Nat} {qc : Nat} {cB : ClassId} {m0 : Nat} {fs : List Value} {q1 : Nat} {q2 : Nat} {q4 : Nat} {q5 : Nat} {q6 : Nat} {q7 : Nat} {a1 : ClassId} {a2 : ClassId} {a4 : ClassId} {a5 : ClassId} {a6 : ClassId} {a7 : ClassId} {f1 : Nat → Int32} {f2 : Nat → Int32} {f4 : Nat → Int32} {f5 : Nat → Int32} {f6 : Nat → Int32} {f7 : Nat → Int32} {qf : Nat} {qm : Nat} {aM : ClassId} {fM : Nat → Int32} {qo : Nat} {aO : ClassId} (hx : p.tables.exec = Jvm.exec) (hb : c.code = cL_law) (hr : meth.sig.returnType = ret) (hml : c.maxLocals = 7) (hlocks : meth.locks = false) (hown : s.vm.findClass RL = some m.cls) (htb : ∀ w ∈ bg, w.before #[Value.ref b] s = true) (hX : va_X b 6 xs s s.heap) (hbl : b < s.heap.size) (hAe : A = fun q : Nat => s.heap.size ≤ q) (hbA : ¬ A b) (hA : ∀ q : Nat, s.heap.size ≤ q → A q) (hE : xe_E g A s s.heap) (hnt : l.stackTraces = false) (hm : md_has fs [(1, .ref q1), (2, .ref q2), (4, .ref q4), (5, .ref q5), (6, .ref q6), (7, .ref q7), (13, .ref qf), (15, .ref qm), (17, .int 0), (18, .int (-1)), (19, .int 0), (73, .int (-1))]) (hK : va_K D vwCl [(cB, .byte), (a1, .char), (a2, .char), (a4, .int), (a5, .int), (a6, .int), (a7, .int), (aM, .byte), (aO, .long)] s) (hP : va_P D vwCl [(h0, .inr (11, [.ref qc, .int 0, .ref g.1, .null, .int (-1)])), (qc, .inl (cB, 1024, .inl (fun _ => 0))), (m0, .inr (12, fs)), (q1, .inl (a1, 66000, .inl f1)), (q2, .inl (a2, 66000, .inl f2)), (q4, .inl (a4, 24000, .inl f4)), (q5, .inl (a5, 24000, .inl f5)), (q6, .inl (a6, 24000, .inl f6)), (q7, .inl (a7, 4096, .inl f7)), (qm, .inl (aM, 65560, .inl fM)), (qo, .inl (aO, 1, .inr (.inl (fun _ => 0))))] H) (hD : va_D A [(h0, .inr (11, [.ref qc, .int 0, .ref g.1, .null, .int (-1)])), (qc, .inl (cB, 1024, .inl (fun _ => 0))), (m0, .inr (12, fs)), (q1, .inl (a1, 66000, .inl f1)), (q2, .inl (a2, 66000, .inl f2)), (q4, .inl (a4, 24000, .inl f4)), (q5, .inl (a5, 24000, .inl f5)), (q6, .inl (a6, 24000, .inl f6)), (q7, .inl (a7, 4096, .inl f7)), (qm, .inl (aM, 65560, .inl fM)), (qo, .inl (aO, 1, .inr (.inl (fun _ => 0))))]) (hS : va_S A s.heap H locs) (hl : lv_has ls 7 [(0, .ref b), (1, .ref h0), (2, .ref m0), (3, .ref qo), (4, .int 0)]) : W p l e room_1 s m #[Value.ref b] below meth c H locs 43 899680 (lw_Z below #[Value.ref b] s) (F0 m 362 ls []) := by
  refine lv_aload_n hx hb dL_law_362 rfl (lv_at hl 1 rfl) ?_
  refine lv_aload_n hx hb dL_law_363 rfl (lv_at hl 0 rfl) ?_
  refine lv_iload hx hb dL_law_364 (lv_at hl 4 rfl) ?_
  refine lv_iconst (v := 1) hx hb dL_law_366 (by decide) ?_
  refine lv_iadd hx hb dL_law_367 ?_
  refine va_sld hx hb hX hbl hbA hS (by unfold vp_in; decide) dL_law_368 ?_
  refine lv_aload_n hx hb dL_law_369 rfl (lv_at hl 0 rfl) ?_
  refine lv_iload hx hb dL_law_370 (lv_at hl 4 rfl) ?_
  refine lv_iconst (v := 2) hx hb dL_law_372 (by decide) ?_
  refine lv_iadd hx hb dL_law_373 ?_
  refine va_sld hx hb hX hbl hbA hS (by unfold vp_in; decide) dL_law_374 ?_
  refine lv_aload_n hx hb dL_law_375 rfl (lv_at hl 3 rfl) ?_
  refine xb_goi (wr := [(qc, .inl (cB, 1024, .inl (fun _ => 0))), (m0, .inr (12, fs)), (q1, .inl (a1, 66000, .inl f1)), (q2, .inl (a2, 66000, .inl f2)), (q4, .inl (a4, 24000, .inl f4)), (q5, .inl (a5, 24000, .inl f5)), (q6, .inl (a6, 24000, .inl f6)), (q7, .inl (a7, 4096, .inl f7)), (qm, .inl (aM, 65560, .inl fM))]) (vx_runSW (As := [.ref h0, .int (xs (Int32.toNatClampNeg (0 + 1))), .int (xs (Int32.toNatClampNeg (0 + 2))), .ref qo]) (rest := []) ⟨hx, hb, hml, hown, htb⟩ (lh_entry l D g h0 qc 0 g.1 (-1) qo aO (fun _ => 0) (xs (Int32.toNatClampNeg (0 + 1))) (xs (Int32.toNatClampNeg (0 + 2))) (Array.size H) (hnt)) (bg_SW 4 htb bg_385 bg_386 bg_356 bg_329 rfl rfl (by decide +kernel) ⟨Nat.le_of_ble_eq_true rfl, Nat.le_of_ble_eq_true rfl⟩) ⟨xb_blind xe_ok, xb_enter xe_ok hK hP hD hS hA hE [0, 10] rfl rfl rfl [8] rfl⟩ rfl rfl hl.1 rfl (lv_room (Nat.le_of_ble_eq_true rfl)) dL_law_376 ⟨Nat.le_of_ble_eq_true rfl, Nat.le_of_ble_eq_true rfl⟩) hK hP hD hS hA [0, 10] [1, 2, 3, 4, 5, 6, 7, 8, 9] rfl rfl rfl (by decide) (fun r_376 u_376 H locs hw_376 hP hD hK hS => ?_)
  generalize u_376 = fo2 at hP hD hK hw_376
  have hP : va_P D vwCl [(qc, .inl (cB, 1024, .inl (fun _ => 0))), (m0, .inr (12, fs)), (q1, .inl (a1, 66000, .inl f1)), (q2, .inl (a2, 66000, .inl f2)), (q4, .inl (a4, 24000, .inl f4)), (q5, .inl (a5, 24000, .inl f5)), (q6, .inl (a6, 24000, .inl f6)), (q7, .inl (a7, 4096, .inl f7)), (qm, .inl (aM, 65560, .inl fM)), (qo, .inl (aO, 1, .inr (.inl fo2)))] H := hP
  have hD : va_D A [(qc, .inl (cB, 1024, .inl (fun _ => 0))), (m0, .inr (12, fs)), (q1, .inl (a1, 66000, .inl f1)), (q2, .inl (a2, 66000, .inl f2)), (q4, .inl (a4, 24000, .inl f4)), (q5, .inl (a5, 24000, .inl f5)), (q6, .inl (a6, 24000, .inl f6)), (q7, .inl (a7, 4096, .inl f7)), (qm, .inl (aM, 65560, .inl fM)), (qo, .inl (aO, 1, .inr (.inl fo2)))] := hD
  have hK : va_K D vwCl [(cB, .byte), (a1, .char), (a2, .char), (a4, .int), (a5, .int), (a6, .int), (a7, .int), (aM, .byte), (aO, .long), (aO, .long)] s := hK
  refine W.widen (k := 44) (n := 899686) (by decide) (by decide) ?_
  rcases hw_376 with ⟨k1, k2, hr0, ho⟩ | ⟨kx, hr0⟩
  · skip
    subst hr0
    have hK := hK.sub (tys' := [(cB, .byte), (a1, .char), (a2, .char), (a4, .int), (a5, .int), (a6, .int), (a7, .int), (aM, .byte), (aO, .long)]) [0, 1, 2, 3, 4, 5, 6, 7, 8] rfl
    refine lv_istore (lv' := [(5, .int 0), (0, .ref b), (1, .ref h0), (2, .ref m0), (3, .ref qo), (4, .int 0)]) hx hb dL_law_379 hl (by decide) rfl (fun ls hl => ?_)
    refine lv_aload_n hx hb dL_law_381 rfl (lv_at hl 3 rfl) ?_
    refine lv_aload_n hx hb dL_law_382 rfl (lv_at hl 1 rfl) ?_
    refine lv_iload hx hb dL_law_383 (lv_at hl 5 rfl) ?_
    refine lv_iconst (v := 1) hx hb dL_law_385 (by decide) ?_
    refine lv_iadd hx hb dL_law_386 ?_
    refine va_sld hx hb hX hbl hbA hS (by unfold vp_in; decide) dL_law_387 ?_
    refine lv_aload_n hx hb dL_law_388 rfl (lv_at hl 1 rfl) ?_
    refine lv_iload hx hb dL_law_389 (lv_at hl 5 rfl) ?_
    refine lv_iconst (v := 2) hx hb dL_law_391 (by decide) ?_
    refine lv_iadd hx hb dL_law_392 ?_
    refine va_sld hx hb hX hbl hbA hS (by unfold vp_in; decide) dL_law_393 ?_
    refine xb_goi (wr := [(qc, .inl (cB, 1024, .inl (fun _ => 0))), (q1, .inl (a1, 66000, .inl f1)), (q2, .inl (a2, 66000, .inl f2)), (q4, .inl (a4, 24000, .inl f4)), (q5, .inl (a5, 24000, .inl f5)), (q6, .inl (a6, 24000, .inl f6)), (q7, .inl (a7, 4096, .inl f7)), (qm, .inl (aM, 65560, .inl fM)), (qo, .inl (aO, 1, .inr (.inl fo2)))]) (va_runV (As := [.int (xs (Int32.toNatClampNeg (0 + 1))), .int (xs (Int32.toNatClampNeg (0 + 2)))]) (rest := []) ⟨hx, hb, hml, hown, htb⟩ (mm_entry l D g m0 fs (xs (Int32.toNatClampNeg (0 + 1))) (xs (Int32.toNatClampNeg (0 + 2))) (Array.size H) (md_sub hm [9] rfl)) (bg_V 2 htb bg_387 bg_388 bg_389 bg_144 bg_229 rfl rfl (by decide +kernel) ⟨Nat.le_of_ble_eq_true rfl, Nat.le_of_ble_eq_true rfl⟩) ⟨xb_blind xe_ok, va_recv hK hP (ci := 12) (q0 := 1) rfl rfl, xb_enter xe_ok hK hP hD hS hA hE [1] rfl rfl rfl [] rfl⟩ rfl rfl hl.1 rfl (lv_room (Nat.le_of_ble_eq_true rfl)) dL_law_394 ⟨Nat.le_of_ble_eq_true rfl, Nat.le_of_ble_eq_true rfl⟩) hK hP hD hS hA [1] [0, 2, 3, 4, 5, 6, 7, 8, 9] rfl rfl rfl (by decide) (fun r_394 u_394 H locs hw_394 hP hD hK hS => ?_)
    generalize u_394 = fs at hP hD hK hw_394
    have hP : va_P D vwCl [(qc, .inl (cB, 1024, .inl (fun _ => 0))), (q1, .inl (a1, 66000, .inl f1)), (q2, .inl (a2, 66000, .inl f2)), (q4, .inl (a4, 24000, .inl f4)), (q5, .inl (a5, 24000, .inl f5)), (q6, .inl (a6, 24000, .inl f6)), (q7, .inl (a7, 4096, .inl f7)), (qm, .inl (aM, 65560, .inl fM)), (qo, .inl (aO, 1, .inr (.inl fo2))), (m0, .inr (12, fs))] H := hP
    have hD : va_D A [(qc, .inl (cB, 1024, .inl (fun _ => 0))), (q1, .inl (a1, 66000, .inl f1)), (q2, .inl (a2, 66000, .inl f2)), (q4, .inl (a4, 24000, .inl f4)), (q5, .inl (a5, 24000, .inl f5)), (q6, .inl (a6, 24000, .inl f6)), (q7, .inl (a7, 4096, .inl f7)), (qm, .inl (aM, 65560, .inl fM)), (qo, .inl (aO, 1, .inr (.inl fo2))), (m0, .inr (12, fs))] := hD
    have hK : va_K D vwCl [(cB, .byte), (a1, .char), (a2, .char), (a4, .int), (a5, .int), (a6, .int), (a7, .int), (aM, .byte), (aO, .long)] s := hK
    refine W.widen (k := 44) (n := 899686) (by decide) (by decide) ?_
    rcases hw_394 with ⟨_, _, hb0, hm⟩ | ⟨kz, _⟩
    · skip
      subst hb0
      have hm : md_has fs [(0, .int 0)] := hm
      refine lv_istore (lv' := [(6, .int (-1)), (5, .int 0), (0, .ref b), (1, .ref h0), (2, .ref m0), (3, .ref qo), (4, .int 0)]) hx hb dL_law_397 hl (by decide) rfl (fun ls hl => ?_)
      refine lv_aload_n hx hb dL_law_399 rfl (lv_at hl 4 rfl) ?_
      refine xb_goi (wr := [(qc, .inl (cB, 1024, .inl (fun _ => 0))), (q1, .inl (a1, 66000, .inl f1)), (q2, .inl (a2, 66000, .inl f2)), (q4, .inl (a4, 24000, .inl f4)), (q5, .inl (a5, 24000, .inl f5)), (q6, .inl (a6, 24000, .inl f6)), (q7, .inl (a7, 4096, .inl f7)), (qm, .inl (aM, 65560, .inl fM)), (qo, .inl (aO, 1, .inr (.inl fo2)))]) (va_runV (As := []) (rest := []) ⟨hx, hb, hml, hown, htb⟩ (mm_thrown l D g m0 fs 0 (Array.size H) (md_sub hm [0] rfl)) (bg_V 0 htb bg_360 bg_361 bg_362 bg_144 bg_87 rfl rfl (by decide +kernel) ⟨Nat.le_of_ble_eq_true rfl, Nat.le_of_ble_eq_true rfl⟩) ⟨xb_blind xe_ok, va_recv hK hP (ci := 12) (q0 := 9) rfl rfl, xb_enter xe_ok hK hP hD hS hA hE [9] rfl rfl rfl [] rfl⟩ rfl rfl hl.1 rfl (lv_room (Nat.le_of_ble_eq_true rfl)) dL_law_400 ⟨Nat.le_of_ble_eq_true rfl, Nat.le_of_ble_eq_true rfl⟩) hK hP hD hS hA [9] [0, 1, 2, 3, 4, 5, 6, 7, 8] rfl rfl rfl (by decide) (fun r_400 u_400 H locs hw_400 hP hD hK hS => ?_)
      have hP : va_P D vwCl [(qc, .inl (cB, 1024, .inl (fun _ => 0))), (q1, .inl (a1, 66000, .inl f1)), (q2, .inl (a2, 66000, .inl f2)), (q4, .inl (a4, 24000, .inl f4)), (q5, .inl (a5, 24000, .inl f5)), (q6, .inl (a6, 24000, .inl f6)), (q7, .inl (a7, 4096, .inl f7)), (qm, .inl (aM, 65560, .inl fM)), (qo, .inl (aO, 1, .inr (.inl fo2))), (m0, .inr (12, fs))] H := hP
      have hD : va_D A [(qc, .inl (cB, 1024, .inl (fun _ => 0))), (q1, .inl (a1, 66000, .inl f1)), (q2, .inl (a2, 66000, .inl f2)), (q4, .inl (a4, 24000, .inl f4)), (q5, .inl (a5, 24000, .inl f5)), (q6, .inl (a6, 24000, .inl f6)), (q7, .inl (a7, 4096, .inl f7)), (qm, .inl (aM, 65560, .inl fM)), (qo, .inl (aO, 1, .inr (.inl fo2))), (m0, .inr (12, fs))] := hD
      have hK : va_K D vwCl [(cB, .byte), (a1, .char), (a2, .char), (a4, .int), (a5, .int), (a6, .int), (a7, .int), (aM, .byte), (aO, .long)] s := hK
      refine W.widen (k := 44) (n := 899686) (by decide) (by decide) ?_
      have hw_400 : r_400 = 0 := hw_400
      subst hw_400
      refine lv_iload hx hb dL_law_403 (lv_at hl 1 rfl) ?_
      refine lv_icmp_eq (tgt := 410) hx hb dL_law_405 (by decide) (fun c_405 => ?_) (fun c_405 => ?_)
      rotate_left
      · exact absurd (by decide) c_405
      refine lv_iload hx hb dL_law_410 (lv_at hl 1 rfl) ?_
      refine lv_if_ne (tgt := 427) hx hb dL_law_412 (by decide) (fun c_412 => ?_) (fun c_412 => ?_)
      · exact absurd (by decide) c_412
      refine lv_aload_n hx hb dL_law_415 rfl (lv_at hl 5 rfl) ?_
      refine lv_iconst (v := 0) hx hb dL_law_416 (by decide) ?_
      refine va_lald hx hb hK hP 8 8 rfl rfl (by unfold vp_in; decide) dL_law_417 ?_
      refine lv_iload hx hb dL_law_418 (lv_at hl 0 rfl) ?_
      refine lv_i2l (v := Int32.toInt64 (-1)) hx hb dL_law_420 rfl ?_
      refine W.lcmp hx hb dL_law_421 ?_
      refine lv_if_eq (tgt := 427) hx hb dL_law_422 (by decide) (fun c_422 => ?_) (fun c_422 => ?_)
      rotate_left
      · exact absurd (by rw [show fo2 (Int32.toNatClampNeg 0) = Int32.toInt64 (-1) from ho]; exact lg_self _) c_422
      refine lv_goto (tgt := 978) hx hb dL_law_427 (by decide) ?_
      exact law_done hx hb hr hml hlocks hX hbl hAe hbA hS (by decide) (by decide) (lv_sub hl [6, 2] rfl)
    · skip
      exact (kz.elim (fun h => k1 h) (fun h => h k2)).elim
  · skip
    subst hr0
    have hK := hK.sub (tys' := [(cB, .byte), (a1, .char), (a2, .char), (a4, .int), (a5, .int), (a6, .int), (a7, .int), (aM, .byte), (aO, .long)]) [0, 1, 2, 3, 4, 5, 6, 7, 8] rfl
    refine lv_istore (lv' := [(5, .int 1), (0, .ref b), (1, .ref h0), (2, .ref m0), (3, .ref qo), (4, .int 0)]) hx hb dL_law_379 hl (by decide) rfl (fun ls hl => ?_)
    refine lv_aload_n hx hb dL_law_381 rfl (lv_at hl 3 rfl) ?_
    refine lv_aload_n hx hb dL_law_382 rfl (lv_at hl 1 rfl) ?_
    refine lv_iload hx hb dL_law_383 (lv_at hl 5 rfl) ?_
    refine lv_iconst (v := 1) hx hb dL_law_385 (by decide) ?_
    refine lv_iadd hx hb dL_law_386 ?_
    refine va_sld hx hb hX hbl hbA hS (by unfold vp_in; decide) dL_law_387 ?_
    refine lv_aload_n hx hb dL_law_388 rfl (lv_at hl 1 rfl) ?_
    refine lv_iload hx hb dL_law_389 (lv_at hl 5 rfl) ?_
    refine lv_iconst (v := 2) hx hb dL_law_391 (by decide) ?_
    refine lv_iadd hx hb dL_law_392 ?_
    refine va_sld hx hb hX hbl hbA hS (by unfold vp_in; decide) dL_law_393 ?_
    refine xb_goi (wr := [(qc, .inl (cB, 1024, .inl (fun _ => 0))), (q1, .inl (a1, 66000, .inl f1)), (q2, .inl (a2, 66000, .inl f2)), (q4, .inl (a4, 24000, .inl f4)), (q5, .inl (a5, 24000, .inl f5)), (q6, .inl (a6, 24000, .inl f6)), (q7, .inl (a7, 4096, .inl f7)), (qm, .inl (aM, 65560, .inl fM)), (qo, .inl (aO, 1, .inr (.inl fo2)))]) (va_runV (As := [.int (xs (Int32.toNatClampNeg (0 + 1))), .int (xs (Int32.toNatClampNeg (0 + 2)))]) (rest := []) ⟨hx, hb, hml, hown, htb⟩ (mm_entry l D g m0 fs (xs (Int32.toNatClampNeg (0 + 1))) (xs (Int32.toNatClampNeg (0 + 2))) (Array.size H) (md_sub hm [9] rfl)) (bg_V 2 htb bg_387 bg_388 bg_389 bg_144 bg_229 rfl rfl (by decide +kernel) ⟨Nat.le_of_ble_eq_true rfl, Nat.le_of_ble_eq_true rfl⟩) ⟨xb_blind xe_ok, va_recv hK hP (ci := 12) (q0 := 1) rfl rfl, xb_enter xe_ok hK hP hD hS hA hE [1] rfl rfl rfl [] rfl⟩ rfl rfl hl.1 rfl (lv_room (Nat.le_of_ble_eq_true rfl)) dL_law_394 ⟨Nat.le_of_ble_eq_true rfl, Nat.le_of_ble_eq_true rfl⟩) hK hP hD hS hA [1] [0, 2, 3, 4, 5, 6, 7, 8, 9] rfl rfl rfl (by decide) (fun r_394 u_394 H locs hw_394 hP hD hK hS => ?_)
    generalize u_394 = fs at hP hD hK hw_394
    have hP : va_P D vwCl [(qc, .inl (cB, 1024, .inl (fun _ => 0))), (q1, .inl (a1, 66000, .inl f1)), (q2, .inl (a2, 66000, .inl f2)), (q4, .inl (a4, 24000, .inl f4)), (q5, .inl (a5, 24000, .inl f5)), (q6, .inl (a6, 24000, .inl f6)), (q7, .inl (a7, 4096, .inl f7)), (qm, .inl (aM, 65560, .inl fM)), (qo, .inl (aO, 1, .inr (.inl fo2))), (m0, .inr (12, fs))] H := hP
    have hD : va_D A [(qc, .inl (cB, 1024, .inl (fun _ => 0))), (q1, .inl (a1, 66000, .inl f1)), (q2, .inl (a2, 66000, .inl f2)), (q4, .inl (a4, 24000, .inl f4)), (q5, .inl (a5, 24000, .inl f5)), (q6, .inl (a6, 24000, .inl f6)), (q7, .inl (a7, 4096, .inl f7)), (qm, .inl (aM, 65560, .inl fM)), (qo, .inl (aO, 1, .inr (.inl fo2))), (m0, .inr (12, fs))] := hD
    have hK : va_K D vwCl [(cB, .byte), (a1, .char), (a2, .char), (a4, .int), (a5, .int), (a6, .int), (a7, .int), (aM, .byte), (aO, .long)] s := hK
    refine W.widen (k := 44) (n := 899686) (by decide) (by decide) ?_
    rcases hw_394 with ⟨j1, j2, _, _⟩ | ⟨_, hm⟩
    · skip
      exact (kx.elim (fun h => j1 h) (fun h => h j2)).elim
    · skip
      have hm : md_has fs [(0, .int 1)] := hm
      refine lv_istore (lv' := [(6, .int r_394), (5, .int 1), (0, .ref b), (1, .ref h0), (2, .ref m0), (3, .ref qo), (4, .int 0)]) hx hb dL_law_397 hl (by decide) rfl (fun ls hl => ?_)
      refine lv_aload_n hx hb dL_law_399 rfl (lv_at hl 4 rfl) ?_
      refine xb_goi (wr := [(qc, .inl (cB, 1024, .inl (fun _ => 0))), (q1, .inl (a1, 66000, .inl f1)), (q2, .inl (a2, 66000, .inl f2)), (q4, .inl (a4, 24000, .inl f4)), (q5, .inl (a5, 24000, .inl f5)), (q6, .inl (a6, 24000, .inl f6)), (q7, .inl (a7, 4096, .inl f7)), (qm, .inl (aM, 65560, .inl fM)), (qo, .inl (aO, 1, .inr (.inl fo2)))]) (va_runV (As := []) (rest := []) ⟨hx, hb, hml, hown, htb⟩ (mm_thrown l D g m0 fs 1 (Array.size H) (md_sub hm [0] rfl)) (bg_V 0 htb bg_360 bg_361 bg_362 bg_144 bg_87 rfl rfl (by decide +kernel) ⟨Nat.le_of_ble_eq_true rfl, Nat.le_of_ble_eq_true rfl⟩) ⟨xb_blind xe_ok, va_recv hK hP (ci := 12) (q0 := 9) rfl rfl, xb_enter xe_ok hK hP hD hS hA hE [9] rfl rfl rfl [] rfl⟩ rfl rfl hl.1 rfl (lv_room (Nat.le_of_ble_eq_true rfl)) dL_law_400 ⟨Nat.le_of_ble_eq_true rfl, Nat.le_of_ble_eq_true rfl⟩) hK hP hD hS hA [9] [0, 1, 2, 3, 4, 5, 6, 7, 8] rfl rfl rfl (by decide) (fun r_400 u_400 H locs hw_400 hP hD hK hS => ?_)
      have hP : va_P D vwCl [(qc, .inl (cB, 1024, .inl (fun _ => 0))), (q1, .inl (a1, 66000, .inl f1)), (q2, .inl (a2, 66000, .inl f2)), (q4, .inl (a4, 24000, .inl f4)), (q5, .inl (a5, 24000, .inl f5)), (q6, .inl (a6, 24000, .inl f6)), (q7, .inl (a7, 4096, .inl f7)), (qm, .inl (aM, 65560, .inl fM)), (qo, .inl (aO, 1, .inr (.inl fo2))), (m0, .inr (12, fs))] H := hP
      have hD : va_D A [(qc, .inl (cB, 1024, .inl (fun _ => 0))), (q1, .inl (a1, 66000, .inl f1)), (q2, .inl (a2, 66000, .inl f2)), (q4, .inl (a4, 24000, .inl f4)), (q5, .inl (a5, 24000, .inl f5)), (q6, .inl (a6, 24000, .inl f6)), (q7, .inl (a7, 4096, .inl f7)), (qm, .inl (aM, 65560, .inl fM)), (qo, .inl (aO, 1, .inr (.inl fo2))), (m0, .inr (12, fs))] := hD
      have hK : va_K D vwCl [(cB, .byte), (a1, .char), (a2, .char), (a4, .int), (a5, .int), (a6, .int), (a7, .int), (aM, .byte), (aO, .long)] s := hK
      refine W.widen (k := 44) (n := 899686) (by decide) (by decide) ?_
      have hw_400 : r_400 = 1 := hw_400
      subst hw_400
      refine lv_iload hx hb dL_law_403 (lv_at hl 1 rfl) ?_
      refine lv_icmp_eq (tgt := 410) hx hb dL_law_405 (by decide) (fun c_405 => ?_) (fun c_405 => ?_)
      rotate_left
      · exact absurd (by decide) c_405
      refine lv_iload hx hb dL_law_410 (lv_at hl 1 rfl) ?_
      refine lv_if_ne (tgt := 427) hx hb dL_law_412 (by decide) (fun c_412 => ?_) (fun c_412 => ?_)
      rotate_left
      · exact absurd c_412 (by decide)
      refine lv_goto (tgt := 978) hx hb dL_law_427 (by decide) ?_
      exact law_done hx hb hr hml hlocks hX hbl hAe hbA hS (by decide) (by decide) (lv_sub hl [6, 2] rfl)
theorem dL_law_518 : decode cL_law 518 = .ok (.aload_n 1, 1) := by decide +kernel
theorem dL_law_519 : decode cL_law 519 = .ok (.aload_n 0, 1) := by decide +kernel
theorem dL_law_520 : decode cL_law 520 = .ok (.iload 4, 2) := by decide +kernel
theorem dL_law_522 : decode cL_law 522 = .ok (.iconst 1, 1) := by decide +kernel
theorem dL_law_523 : decode cL_law 523 = .ok (.iadd, 1) := by decide +kernel
theorem dL_law_524 : decode cL_law 524 = .ok (.iaload, 1) := by decide +kernel
theorem dL_law_525 : decode cL_law 525 = .ok (.ifCond .eq 7, 3) := by decide +kernel
theorem dL_law_528 : decode cL_law 528 = .ok (.iconst 1, 1) := by decide +kernel
theorem dL_law_529 : decode cL_law 529 = .ok (.goto 4, 3) := by decide +kernel
theorem dL_law_532 : decode cL_law 532 = .ok (.iconst 0, 1) := by decide +kernel
theorem dL_law_533 : decode cL_law 533 = .ok (.aload_n 0, 1) := by decide +kernel
theorem dL_law_534 : decode cL_law 534 = .ok (.iload 4, 2) := by decide +kernel
theorem dL_law_536 : decode cL_law 536 = .ok (.iconst 2, 1) := by decide +kernel
theorem dL_law_537 : decode cL_law 537 = .ok (.iadd, 1) := by decide +kernel
theorem dL_law_538 : decode cL_law 538 = .ok (.iaload, 1) := by decide +kernel
theorem dL_law_539 : decode cL_law 539 = .ok (.aload_n 0, 1) := by decide +kernel
theorem dL_law_540 : decode cL_law 540 = .ok (.iload 4, 2) := by decide +kernel
theorem dL_law_542 : decode cL_law 542 = .ok (.iconst 3, 1) := by decide +kernel
theorem dL_law_543 : decode cL_law 543 = .ok (.iadd, 1) := by decide +kernel
theorem dL_law_544 : decode cL_law 544 = .ok (.iaload, 1) := by decide +kernel
theorem dL_law_545 : decode cL_law 545 = .ok (.aload_n 3, 1) := by decide +kernel
theorem dL_law_546 : decode cL_law 546 = .ok (.invokestatic 85, 3) := by decide +kernel
theorem dL_law_549 : decode cL_law 549 = .ok (.istore 5, 2) := by decide +kernel
theorem dL_law_551 : decode cL_law 551 = .ok (.aload_n 2, 1) := by decide +kernel
theorem dL_law_552 : decode cL_law 552 = .ok (.aload_n 0, 1) := by decide +kernel
theorem dL_law_553 : decode cL_law 553 = .ok (.iload 4, 2) := by decide +kernel
theorem dL_law_555 : decode cL_law 555 = .ok (.iconst 1, 1) := by decide +kernel
theorem dL_law_556 : decode cL_law 556 = .ok (.iadd, 1) := by decide +kernel
theorem dL_law_557 : decode cL_law 557 = .ok (.iaload, 1) := by decide +kernel
theorem dL_law_558 : decode cL_law 558 = .ok (.ifCond .eq 7, 3) := by decide +kernel
theorem dL_law_561 : decode cL_law 561 = .ok (.iconst 1, 1) := by decide +kernel
theorem dL_law_562 : decode cL_law 562 = .ok (.goto 4, 3) := by decide +kernel
theorem dL_law_565 : decode cL_law 565 = .ok (.iconst 0, 1) := by decide +kernel
theorem dL_law_566 : decode cL_law 566 = .ok (.aload_n 0, 1) := by decide +kernel
theorem dL_law_567 : decode cL_law 567 = .ok (.iload 4, 2) := by decide +kernel
theorem dL_law_569 : decode cL_law 569 = .ok (.iconst 2, 1) := by decide +kernel
theorem dL_law_570 : decode cL_law 570 = .ok (.iadd, 1) := by decide +kernel
theorem dL_law_571 : decode cL_law 571 = .ok (.iaload, 1) := by decide +kernel
theorem dL_law_572 : decode cL_law 572 = .ok (.aload_n 0, 1) := by decide +kernel
theorem dL_law_573 : decode cL_law 573 = .ok (.iload 4, 2) := by decide +kernel
theorem dL_law_575 : decode cL_law 575 = .ok (.iconst 3, 1) := by decide +kernel
theorem dL_law_576 : decode cL_law 576 = .ok (.iadd, 1) := by decide +kernel
theorem dL_law_577 : decode cL_law 577 = .ok (.iaload, 1) := by decide +kernel
theorem dL_law_578 : decode cL_law 578 = .ok (.invokevirtual 88, 3) := by decide +kernel
theorem dL_law_581 : decode cL_law 581 = .ok (.istore 6, 2) := by decide +kernel
theorem dL_law_583 : decode cL_law 583 = .ok (.aload_n 2, 1) := by decide +kernel
theorem dL_law_584 : decode cL_law 584 = .ok (.invokevirtual 49, 3) := by decide +kernel
theorem dL_law_587 : decode cL_law 587 = .ok (.iload 5, 2) := by decide +kernel
theorem dL_law_589 : decode cL_law 589 = .ok (.if_icmp .eq 5, 3) := by decide +kernel
theorem dL_law_594 : decode cL_law 594 = .ok (.iload 5, 2) := by decide +kernel
theorem dL_law_596 : decode cL_law 596 = .ok (.ifCond .ne 15, 3) := by decide +kernel
theorem dL_law_599 : decode cL_law 599 = .ok (.aload_n 3, 1) := by decide +kernel
theorem dL_law_600 : decode cL_law 600 = .ok (.iconst 0, 1) := by decide +kernel
theorem dL_law_601 : decode cL_law 601 = .ok (.laload, 1) := by decide +kernel
theorem dL_law_602 : decode cL_law 602 = .ok (.iload 6, 2) := by decide +kernel
theorem dL_law_604 : decode cL_law 604 = .ok (.i2l, 1) := by decide +kernel
theorem dL_law_605 : decode cL_law 605 = .ok (.lcmp, 1) := by decide +kernel
theorem dL_law_606 : decode cL_law 606 = .ok (.ifCond .eq 5, 3) := by decide +kernel
theorem dL_law_611 : decode cL_law 611 = .ok (.goto 367, 3) := by decide +kernel
set_option maxHeartbeats 8000000 in
set_option maxRecDepth 100000 in
theorem law_9 {p : Program} {l : Launch} {e : Env} {s : State} {m : MethodId} {below : List Frame} {meth : Method} {c : Code} {H : Heap} {locs : List Loc} {A : Nat → Prop} {b : Nat} {xs : Nat → Int32} {ls : Array Slot} {D : va_G} {g : xe_G} {h0 : Nat} {qc : Nat} {cB : ClassId} {m0 : Nat} {fs : List Value} {q1 : Nat} {q2 : Nat} {q4 : Nat} {q5 : Nat} {q6 : Nat} {q7 : Nat} {a1 : ClassId} {a2 : ClassId} {a4 : ClassId} {a5 : ClassId} {a6 : ClassId} {a7 : ClassId} {f1 : Nat → Int32} {f2 : Nat → Int32} {f4 : Nat → Int32} {f5 : Nat → Int32} {f6 : Nat → Int32} {f7 : Nat → Int32} {qf : Nat} {qm : Nat} {aM : ClassId} {fM : Nat → Int32} {qo : Nat} {aO : ClassId} (hx : p.tables.exec = Jvm.exec) (hb : c.code = cL_law) (hr : meth.sig.returnType = ret) (hml : c.maxLocals = 7) (hlocks : meth.locks = false) (hown : s.vm.findClass RL = some m.cls) (htb : ∀ w ∈ bg, w.before #[Value.ref b] s = true) (hX : va_X b 6 xs s s.heap) (hbl : b < s.heap.size) (hAe : A = fun q : Nat => s.heap.size ≤ q) (hbA : ¬ A b) (hA : ∀ q : Nat, s.heap.size ≤ q → A q) (hE : xe_E g A s s.heap) (hnt : l.stackTraces = false) (hm : md_has fs [(1, .ref q1), (2, .ref q2), (4, .ref q4), (5, .ref q5), (6, .ref q6), (7, .ref q7), (13, .ref qf), (15, .ref qm), (17, .int 0), (18, .int (-1)), (19, .int 0), (73, .int (-1))]) (hK : va_K D vwCl [(cB, .byte), (a1, .char), (a2, .char), (a4, .int), (a5, .int), (a6, .int), (a7, .int), (aM, .byte), (aO, .long)] s) (hP : va_P D vwCl [(h0, .inr (11, [.ref qc, .int 0, .ref g.1, .null, .int (-1)])), (qc, .inl (cB, 1024, .inl (fun _ => 0))), (m0, .inr (12, fs)), (q1, .inl (a1, 66000, .inl f1)), (q2, .inl (a2, 66000, .inl f2)), (q4, .inl (a4, 24000, .inl f4)), (q5, .inl (a5, 24000, .inl f5)), (q6, .inl (a6, 24000, .inl f6)), (q7, .inl (a7, 4096, .inl f7)), (qm, .inl (aM, 65560, .inl fM)), (qo, .inl (aO, 1, .inr (.inl (fun _ => 0))))] H) (hD : va_D A [(h0, .inr (11, [.ref qc, .int 0, .ref g.1, .null, .int (-1)])), (qc, .inl (cB, 1024, .inl (fun _ => 0))), (m0, .inr (12, fs)), (q1, .inl (a1, 66000, .inl f1)), (q2, .inl (a2, 66000, .inl f2)), (q4, .inl (a4, 24000, .inl f4)), (q5, .inl (a5, 24000, .inl f5)), (q6, .inl (a6, 24000, .inl f6)), (q7, .inl (a7, 4096, .inl f7)), (qm, .inl (aM, 65560, .inl fM)), (qo, .inl (aO, 1, .inr (.inl (fun _ => 0))))]) (hS : va_S A s.heap H locs) (hl : lv_has ls 7 [(0, .ref b), (1, .ref h0), (2, .ref m0), (3, .ref qo), (4, .int 0)]) : W p l e room_1 s m #[Value.ref b] below meth c H locs 43 899680 (lw_Z below #[Value.ref b] s) (F0 m 518 ls []) := by
  refine lv_aload_n hx hb dL_law_518 rfl (lv_at hl 1 rfl) ?_
  refine lv_aload_n hx hb dL_law_519 rfl (lv_at hl 0 rfl) ?_
  refine lv_iload hx hb dL_law_520 (lv_at hl 4 rfl) ?_
  refine lv_iconst (v := 1) hx hb dL_law_522 (by decide) ?_
  refine lv_iadd hx hb dL_law_523 ?_
  refine va_sld hx hb hX hbl hbA hS (by unfold vp_in; decide) dL_law_524 ?_
  refine lv_if_eq (tgt := 532) hx hb dL_law_525 (by decide) (fun c_525 => ?_) (fun c_525 => ?_)
  · skip
    refine lv_iconst (v := 0) hx hb dL_law_532 (by decide) ?_
    refine lv_aload_n hx hb dL_law_533 rfl (lv_at hl 0 rfl) ?_
    refine lv_iload hx hb dL_law_534 (lv_at hl 4 rfl) ?_
    refine lv_iconst (v := 2) hx hb dL_law_536 (by decide) ?_
    refine lv_iadd hx hb dL_law_537 ?_
    refine va_sld hx hb hX hbl hbA hS (by unfold vp_in; decide) dL_law_538 ?_
    refine lv_aload_n hx hb dL_law_539 rfl (lv_at hl 0 rfl) ?_
    refine lv_iload hx hb dL_law_540 (lv_at hl 4 rfl) ?_
    refine lv_iconst (v := 3) hx hb dL_law_542 (by decide) ?_
    refine lv_iadd hx hb dL_law_543 ?_
    refine va_sld hx hb hX hbl hbA hS (by unfold vp_in; decide) dL_law_544 ?_
    refine lv_aload_n hx hb dL_law_545 rfl (lv_at hl 3 rfl) ?_
    refine xb_goi (wr := [(qc, .inl (cB, 1024, .inl (fun _ => 0))), (m0, .inr (12, fs)), (q1, .inl (a1, 66000, .inl f1)), (q2, .inl (a2, 66000, .inl f2)), (q4, .inl (a4, 24000, .inl f4)), (q5, .inl (a5, 24000, .inl f5)), (q6, .inl (a6, 24000, .inl f6)), (q7, .inl (a7, 4096, .inl f7)), (qm, .inl (aM, 65560, .inl fM))]) (vx_runSW (As := [.ref h0, .int 0, .int (xs (Int32.toNatClampNeg (0 + 2))), .int (xs (Int32.toNatClampNeg (0 + 3))), .ref qo]) (rest := []) ⟨hx, hb, hml, hown, htb⟩ (lh_member l D g h0 qc 0 g.1 (-1) qo aO (fun _ => 0) 0 (xs (Int32.toNatClampNeg (0 + 2))) (xs (Int32.toNatClampNeg (0 + 3))) (Array.size H) (hnt)) (bg_SW 5 htb bg_408 bg_409 bg_356 bg_333 rfl rfl (by decide +kernel) ⟨Nat.le_of_ble_eq_true rfl, Nat.le_of_ble_eq_true rfl⟩) ⟨xb_blind xe_ok, xb_enter xe_ok hK hP hD hS hA hE [0, 10] rfl rfl rfl [8] rfl⟩ rfl rfl hl.1 rfl (lv_room (Nat.le_of_ble_eq_true rfl)) dL_law_546 ⟨Nat.le_of_ble_eq_true rfl, Nat.le_of_ble_eq_true rfl⟩) hK hP hD hS hA [0, 10] [1, 2, 3, 4, 5, 6, 7, 8, 9] rfl rfl rfl (by decide) (fun r_546 u_546 H locs hw_546 hP hD hK hS => ?_)
    generalize u_546 = fo2 at hP hD hK hw_546
    have hP : va_P D vwCl [(qc, .inl (cB, 1024, .inl (fun _ => 0))), (m0, .inr (12, fs)), (q1, .inl (a1, 66000, .inl f1)), (q2, .inl (a2, 66000, .inl f2)), (q4, .inl (a4, 24000, .inl f4)), (q5, .inl (a5, 24000, .inl f5)), (q6, .inl (a6, 24000, .inl f6)), (q7, .inl (a7, 4096, .inl f7)), (qm, .inl (aM, 65560, .inl fM)), (qo, .inl (aO, 1, .inr (.inl fo2)))] H := hP
    have hD : va_D A [(qc, .inl (cB, 1024, .inl (fun _ => 0))), (m0, .inr (12, fs)), (q1, .inl (a1, 66000, .inl f1)), (q2, .inl (a2, 66000, .inl f2)), (q4, .inl (a4, 24000, .inl f4)), (q5, .inl (a5, 24000, .inl f5)), (q6, .inl (a6, 24000, .inl f6)), (q7, .inl (a7, 4096, .inl f7)), (qm, .inl (aM, 65560, .inl fM)), (qo, .inl (aO, 1, .inr (.inl fo2)))] := hD
    have hK : va_K D vwCl [(cB, .byte), (a1, .char), (a2, .char), (a4, .int), (a5, .int), (a6, .int), (a7, .int), (aM, .byte), (aO, .long), (aO, .long)] s := hK
    refine W.widen (k := 44) (n := 899686) (by decide) (by decide) ?_
    rcases hw_546 with ⟨k1, k2, hr0, ho⟩ | ⟨kx, hr0⟩
    · skip
      subst hr0
      have hK := hK.sub (tys' := [(cB, .byte), (a1, .char), (a2, .char), (a4, .int), (a5, .int), (a6, .int), (a7, .int), (aM, .byte), (aO, .long)]) [0, 1, 2, 3, 4, 5, 6, 7, 8] rfl
      refine lv_istore (lv' := [(5, .int 0), (0, .ref b), (1, .ref h0), (2, .ref m0), (3, .ref qo), (4, .int 0)]) hx hb dL_law_549 hl (by decide) rfl (fun ls hl => ?_)
      refine lv_aload_n hx hb dL_law_551 rfl (lv_at hl 3 rfl) ?_
      refine lv_aload_n hx hb dL_law_552 rfl (lv_at hl 1 rfl) ?_
      refine lv_iload hx hb dL_law_553 (lv_at hl 5 rfl) ?_
      refine lv_iconst (v := 1) hx hb dL_law_555 (by decide) ?_
      refine lv_iadd hx hb dL_law_556 ?_
      refine va_sld hx hb hX hbl hbA hS (by unfold vp_in; decide) dL_law_557 ?_
      refine lv_if_eq (tgt := 565) hx hb dL_law_558 (by decide) (fun c_558 => ?_) (fun c_558 => ?_)
      rotate_left
      · exact absurd (c_525) c_558
      refine lv_iconst (v := 0) hx hb dL_law_565 (by decide) ?_
      refine lv_aload_n hx hb dL_law_566 rfl (lv_at hl 1 rfl) ?_
      refine lv_iload hx hb dL_law_567 (lv_at hl 5 rfl) ?_
      refine lv_iconst (v := 2) hx hb dL_law_569 (by decide) ?_
      refine lv_iadd hx hb dL_law_570 ?_
      refine va_sld hx hb hX hbl hbA hS (by unfold vp_in; decide) dL_law_571 ?_
      refine lv_aload_n hx hb dL_law_572 rfl (lv_at hl 1 rfl) ?_
      refine lv_iload hx hb dL_law_573 (lv_at hl 5 rfl) ?_
      refine lv_iconst (v := 3) hx hb dL_law_575 (by decide) ?_
      refine lv_iadd hx hb dL_law_576 ?_
      refine va_sld hx hb hX hbl hbA hS (by unfold vp_in; decide) dL_law_577 ?_
      refine xb_goi (wr := [(qc, .inl (cB, 1024, .inl (fun _ => 0))), (q1, .inl (a1, 66000, .inl f1)), (q2, .inl (a2, 66000, .inl f2)), (q4, .inl (a4, 24000, .inl f4)), (q5, .inl (a5, 24000, .inl f5)), (q6, .inl (a6, 24000, .inl f6)), (q7, .inl (a7, 4096, .inl f7)), (qm, .inl (aM, 65560, .inl fM)), (qo, .inl (aO, 1, .inr (.inl fo2)))]) (va_runV (As := [.int 0, .int (xs (Int32.toNatClampNeg (0 + 2))), .int (xs (Int32.toNatClampNeg (0 + 3)))]) (rest := []) ⟨hx, hb, hml, hown, htb⟩ (mm_member l D g m0 fs 0 (xs (Int32.toNatClampNeg (0 + 2))) (xs (Int32.toNatClampNeg (0 + 3))) (Array.size H) (md_sub hm [9] rfl)) (bg_V 3 htb bg_410 bg_411 bg_412 bg_144 bg_232 rfl rfl (by decide +kernel) ⟨Nat.le_of_ble_eq_true rfl, Nat.le_of_ble_eq_true rfl⟩) ⟨xb_blind xe_ok, va_recv hK hP (ci := 12) (q0 := 1) rfl rfl, xb_enter xe_ok hK hP hD hS hA hE [1] rfl rfl rfl [] rfl⟩ rfl rfl hl.1 rfl (lv_room (Nat.le_of_ble_eq_true rfl)) dL_law_578 ⟨Nat.le_of_ble_eq_true rfl, Nat.le_of_ble_eq_true rfl⟩) hK hP hD hS hA [1] [0, 2, 3, 4, 5, 6, 7, 8, 9] rfl rfl rfl (by decide) (fun r_578 u_578 H locs hw_578 hP hD hK hS => ?_)
      generalize u_578 = fs at hP hD hK hw_578
      have hP : va_P D vwCl [(qc, .inl (cB, 1024, .inl (fun _ => 0))), (q1, .inl (a1, 66000, .inl f1)), (q2, .inl (a2, 66000, .inl f2)), (q4, .inl (a4, 24000, .inl f4)), (q5, .inl (a5, 24000, .inl f5)), (q6, .inl (a6, 24000, .inl f6)), (q7, .inl (a7, 4096, .inl f7)), (qm, .inl (aM, 65560, .inl fM)), (qo, .inl (aO, 1, .inr (.inl fo2))), (m0, .inr (12, fs))] H := hP
      have hD : va_D A [(qc, .inl (cB, 1024, .inl (fun _ => 0))), (q1, .inl (a1, 66000, .inl f1)), (q2, .inl (a2, 66000, .inl f2)), (q4, .inl (a4, 24000, .inl f4)), (q5, .inl (a5, 24000, .inl f5)), (q6, .inl (a6, 24000, .inl f6)), (q7, .inl (a7, 4096, .inl f7)), (qm, .inl (aM, 65560, .inl fM)), (qo, .inl (aO, 1, .inr (.inl fo2))), (m0, .inr (12, fs))] := hD
      have hK : va_K D vwCl [(cB, .byte), (a1, .char), (a2, .char), (a4, .int), (a5, .int), (a6, .int), (a7, .int), (aM, .byte), (aO, .long)] s := hK
      refine W.widen (k := 44) (n := 899686) (by decide) (by decide) ?_
      rcases hw_578 with ⟨_, _, hb0, hm⟩ | ⟨kz, _⟩
      · skip
        subst hb0
        have hm : md_has fs [(0, .int 0)] := hm
        refine lv_istore (lv' := [(6, .int (-1)), (5, .int 0), (0, .ref b), (1, .ref h0), (2, .ref m0), (3, .ref qo), (4, .int 0)]) hx hb dL_law_581 hl (by decide) rfl (fun ls hl => ?_)
        refine lv_aload_n hx hb dL_law_583 rfl (lv_at hl 4 rfl) ?_
        refine xb_goi (wr := [(qc, .inl (cB, 1024, .inl (fun _ => 0))), (q1, .inl (a1, 66000, .inl f1)), (q2, .inl (a2, 66000, .inl f2)), (q4, .inl (a4, 24000, .inl f4)), (q5, .inl (a5, 24000, .inl f5)), (q6, .inl (a6, 24000, .inl f6)), (q7, .inl (a7, 4096, .inl f7)), (qm, .inl (aM, 65560, .inl fM)), (qo, .inl (aO, 1, .inr (.inl fo2)))]) (va_runV (As := []) (rest := []) ⟨hx, hb, hml, hown, htb⟩ (mm_thrown l D g m0 fs 0 (Array.size H) (md_sub hm [0] rfl)) (bg_V 0 htb bg_360 bg_361 bg_362 bg_144 bg_87 rfl rfl (by decide +kernel) ⟨Nat.le_of_ble_eq_true rfl, Nat.le_of_ble_eq_true rfl⟩) ⟨xb_blind xe_ok, va_recv hK hP (ci := 12) (q0 := 9) rfl rfl, xb_enter xe_ok hK hP hD hS hA hE [9] rfl rfl rfl [] rfl⟩ rfl rfl hl.1 rfl (lv_room (Nat.le_of_ble_eq_true rfl)) dL_law_584 ⟨Nat.le_of_ble_eq_true rfl, Nat.le_of_ble_eq_true rfl⟩) hK hP hD hS hA [9] [0, 1, 2, 3, 4, 5, 6, 7, 8] rfl rfl rfl (by decide) (fun r_584 u_584 H locs hw_584 hP hD hK hS => ?_)
        have hP : va_P D vwCl [(qc, .inl (cB, 1024, .inl (fun _ => 0))), (q1, .inl (a1, 66000, .inl f1)), (q2, .inl (a2, 66000, .inl f2)), (q4, .inl (a4, 24000, .inl f4)), (q5, .inl (a5, 24000, .inl f5)), (q6, .inl (a6, 24000, .inl f6)), (q7, .inl (a7, 4096, .inl f7)), (qm, .inl (aM, 65560, .inl fM)), (qo, .inl (aO, 1, .inr (.inl fo2))), (m0, .inr (12, fs))] H := hP
        have hD : va_D A [(qc, .inl (cB, 1024, .inl (fun _ => 0))), (q1, .inl (a1, 66000, .inl f1)), (q2, .inl (a2, 66000, .inl f2)), (q4, .inl (a4, 24000, .inl f4)), (q5, .inl (a5, 24000, .inl f5)), (q6, .inl (a6, 24000, .inl f6)), (q7, .inl (a7, 4096, .inl f7)), (qm, .inl (aM, 65560, .inl fM)), (qo, .inl (aO, 1, .inr (.inl fo2))), (m0, .inr (12, fs))] := hD
        have hK : va_K D vwCl [(cB, .byte), (a1, .char), (a2, .char), (a4, .int), (a5, .int), (a6, .int), (a7, .int), (aM, .byte), (aO, .long)] s := hK
        refine W.widen (k := 44) (n := 899686) (by decide) (by decide) ?_
        have hw_584 : r_584 = 0 := hw_584
        subst hw_584
        refine lv_iload hx hb dL_law_587 (lv_at hl 1 rfl) ?_
        refine lv_icmp_eq (tgt := 594) hx hb dL_law_589 (by decide) (fun c_589 => ?_) (fun c_589 => ?_)
        rotate_left
        · exact absurd (by decide) c_589
        refine lv_iload hx hb dL_law_594 (lv_at hl 1 rfl) ?_
        refine lv_if_ne (tgt := 611) hx hb dL_law_596 (by decide) (fun c_596 => ?_) (fun c_596 => ?_)
        · exact absurd (by decide) c_596
        refine lv_aload_n hx hb dL_law_599 rfl (lv_at hl 5 rfl) ?_
        refine lv_iconst (v := 0) hx hb dL_law_600 (by decide) ?_
        refine va_lald hx hb hK hP 8 8 rfl rfl (by unfold vp_in; decide) dL_law_601 ?_
        refine lv_iload hx hb dL_law_602 (lv_at hl 0 rfl) ?_
        refine lv_i2l (v := Int32.toInt64 (-1)) hx hb dL_law_604 rfl ?_
        refine W.lcmp hx hb dL_law_605 ?_
        refine lv_if_eq (tgt := 611) hx hb dL_law_606 (by decide) (fun c_606 => ?_) (fun c_606 => ?_)
        rotate_left
        · exact absurd (by rw [show fo2 (Int32.toNatClampNeg 0) = Int32.toInt64 (-1) from ho]; exact lg_self _) c_606
        refine lv_goto (tgt := 978) hx hb dL_law_611 (by decide) ?_
        exact law_done hx hb hr hml hlocks hX hbl hAe hbA hS (by decide) (by decide) (lv_sub hl [6, 2] rfl)
      · skip
        exact (kz.elim (fun h => k1 h) (fun h => h k2)).elim
    · skip
      subst hr0
      have hK := hK.sub (tys' := [(cB, .byte), (a1, .char), (a2, .char), (a4, .int), (a5, .int), (a6, .int), (a7, .int), (aM, .byte), (aO, .long)]) [0, 1, 2, 3, 4, 5, 6, 7, 8] rfl
      refine lv_istore (lv' := [(5, .int 1), (0, .ref b), (1, .ref h0), (2, .ref m0), (3, .ref qo), (4, .int 0)]) hx hb dL_law_549 hl (by decide) rfl (fun ls hl => ?_)
      refine lv_aload_n hx hb dL_law_551 rfl (lv_at hl 3 rfl) ?_
      refine lv_aload_n hx hb dL_law_552 rfl (lv_at hl 1 rfl) ?_
      refine lv_iload hx hb dL_law_553 (lv_at hl 5 rfl) ?_
      refine lv_iconst (v := 1) hx hb dL_law_555 (by decide) ?_
      refine lv_iadd hx hb dL_law_556 ?_
      refine va_sld hx hb hX hbl hbA hS (by unfold vp_in; decide) dL_law_557 ?_
      refine lv_if_eq (tgt := 565) hx hb dL_law_558 (by decide) (fun c_558 => ?_) (fun c_558 => ?_)
      rotate_left
      · exact absurd (c_525) c_558
      refine lv_iconst (v := 0) hx hb dL_law_565 (by decide) ?_
      refine lv_aload_n hx hb dL_law_566 rfl (lv_at hl 1 rfl) ?_
      refine lv_iload hx hb dL_law_567 (lv_at hl 5 rfl) ?_
      refine lv_iconst (v := 2) hx hb dL_law_569 (by decide) ?_
      refine lv_iadd hx hb dL_law_570 ?_
      refine va_sld hx hb hX hbl hbA hS (by unfold vp_in; decide) dL_law_571 ?_
      refine lv_aload_n hx hb dL_law_572 rfl (lv_at hl 1 rfl) ?_
      refine lv_iload hx hb dL_law_573 (lv_at hl 5 rfl) ?_
      refine lv_iconst (v := 3) hx hb dL_law_575 (by decide) ?_
      refine lv_iadd hx hb dL_law_576 ?_
      refine va_sld hx hb hX hbl hbA hS (by unfold vp_in; decide) dL_law_577 ?_
      refine xb_goi (wr := [(qc, .inl (cB, 1024, .inl (fun _ => 0))), (q1, .inl (a1, 66000, .inl f1)), (q2, .inl (a2, 66000, .inl f2)), (q4, .inl (a4, 24000, .inl f4)), (q5, .inl (a5, 24000, .inl f5)), (q6, .inl (a6, 24000, .inl f6)), (q7, .inl (a7, 4096, .inl f7)), (qm, .inl (aM, 65560, .inl fM)), (qo, .inl (aO, 1, .inr (.inl fo2)))]) (va_runV (As := [.int 0, .int (xs (Int32.toNatClampNeg (0 + 2))), .int (xs (Int32.toNatClampNeg (0 + 3)))]) (rest := []) ⟨hx, hb, hml, hown, htb⟩ (mm_member l D g m0 fs 0 (xs (Int32.toNatClampNeg (0 + 2))) (xs (Int32.toNatClampNeg (0 + 3))) (Array.size H) (md_sub hm [9] rfl)) (bg_V 3 htb bg_410 bg_411 bg_412 bg_144 bg_232 rfl rfl (by decide +kernel) ⟨Nat.le_of_ble_eq_true rfl, Nat.le_of_ble_eq_true rfl⟩) ⟨xb_blind xe_ok, va_recv hK hP (ci := 12) (q0 := 1) rfl rfl, xb_enter xe_ok hK hP hD hS hA hE [1] rfl rfl rfl [] rfl⟩ rfl rfl hl.1 rfl (lv_room (Nat.le_of_ble_eq_true rfl)) dL_law_578 ⟨Nat.le_of_ble_eq_true rfl, Nat.le_of_ble_eq_true rfl⟩) hK hP hD hS hA [1] [0, 2, 3, 4, 5, 6, 7, 8, 9] rfl rfl rfl (by decide) (fun r_578 u_578 H locs hw_578 hP hD hK hS => ?_)
      generalize u_578 = fs at hP hD hK hw_578
      have hP : va_P D vwCl [(qc, .inl (cB, 1024, .inl (fun _ => 0))), (q1, .inl (a1, 66000, .inl f1)), (q2, .inl (a2, 66000, .inl f2)), (q4, .inl (a4, 24000, .inl f4)), (q5, .inl (a5, 24000, .inl f5)), (q6, .inl (a6, 24000, .inl f6)), (q7, .inl (a7, 4096, .inl f7)), (qm, .inl (aM, 65560, .inl fM)), (qo, .inl (aO, 1, .inr (.inl fo2))), (m0, .inr (12, fs))] H := hP
      have hD : va_D A [(qc, .inl (cB, 1024, .inl (fun _ => 0))), (q1, .inl (a1, 66000, .inl f1)), (q2, .inl (a2, 66000, .inl f2)), (q4, .inl (a4, 24000, .inl f4)), (q5, .inl (a5, 24000, .inl f5)), (q6, .inl (a6, 24000, .inl f6)), (q7, .inl (a7, 4096, .inl f7)), (qm, .inl (aM, 65560, .inl fM)), (qo, .inl (aO, 1, .inr (.inl fo2))), (m0, .inr (12, fs))] := hD
      have hK : va_K D vwCl [(cB, .byte), (a1, .char), (a2, .char), (a4, .int), (a5, .int), (a6, .int), (a7, .int), (aM, .byte), (aO, .long)] s := hK
      refine W.widen (k := 44) (n := 899686) (by decide) (by decide) ?_
      rcases hw_578 with ⟨j1, j2, _, _⟩ | ⟨_, hm⟩
      · skip
        exact (kx.elim (fun h => j1 h) (fun h => h j2)).elim
      · skip
        have hm : md_has fs [(0, .int 1)] := hm
        refine lv_istore (lv' := [(6, .int r_578), (5, .int 1), (0, .ref b), (1, .ref h0), (2, .ref m0), (3, .ref qo), (4, .int 0)]) hx hb dL_law_581 hl (by decide) rfl (fun ls hl => ?_)
        refine lv_aload_n hx hb dL_law_583 rfl (lv_at hl 4 rfl) ?_
        refine xb_goi (wr := [(qc, .inl (cB, 1024, .inl (fun _ => 0))), (q1, .inl (a1, 66000, .inl f1)), (q2, .inl (a2, 66000, .inl f2)), (q4, .inl (a4, 24000, .inl f4)), (q5, .inl (a5, 24000, .inl f5)), (q6, .inl (a6, 24000, .inl f6)), (q7, .inl (a7, 4096, .inl f7)), (qm, .inl (aM, 65560, .inl fM)), (qo, .inl (aO, 1, .inr (.inl fo2)))]) (va_runV (As := []) (rest := []) ⟨hx, hb, hml, hown, htb⟩ (mm_thrown l D g m0 fs 1 (Array.size H) (md_sub hm [0] rfl)) (bg_V 0 htb bg_360 bg_361 bg_362 bg_144 bg_87 rfl rfl (by decide +kernel) ⟨Nat.le_of_ble_eq_true rfl, Nat.le_of_ble_eq_true rfl⟩) ⟨xb_blind xe_ok, va_recv hK hP (ci := 12) (q0 := 9) rfl rfl, xb_enter xe_ok hK hP hD hS hA hE [9] rfl rfl rfl [] rfl⟩ rfl rfl hl.1 rfl (lv_room (Nat.le_of_ble_eq_true rfl)) dL_law_584 ⟨Nat.le_of_ble_eq_true rfl, Nat.le_of_ble_eq_true rfl⟩) hK hP hD hS hA [9] [0, 1, 2, 3, 4, 5, 6, 7, 8] rfl rfl rfl (by decide) (fun r_584 u_584 H locs hw_584 hP hD hK hS => ?_)
        have hP : va_P D vwCl [(qc, .inl (cB, 1024, .inl (fun _ => 0))), (q1, .inl (a1, 66000, .inl f1)), (q2, .inl (a2, 66000, .inl f2)), (q4, .inl (a4, 24000, .inl f4)), (q5, .inl (a5, 24000, .inl f5)), (q6, .inl (a6, 24000, .inl f6)), (q7, .inl (a7, 4096, .inl f7)), (qm, .inl (aM, 65560, .inl fM)), (qo, .inl (aO, 1, .inr (.inl fo2))), (m0, .inr (12, fs))] H := hP
        have hD : va_D A [(qc, .inl (cB, 1024, .inl (fun _ => 0))), (q1, .inl (a1, 66000, .inl f1)), (q2, .inl (a2, 66000, .inl f2)), (q4, .inl (a4, 24000, .inl f4)), (q5, .inl (a5, 24000, .inl f5)), (q6, .inl (a6, 24000, .inl f6)), (q7, .inl (a7, 4096, .inl f7)), (qm, .inl (aM, 65560, .inl fM)), (qo, .inl (aO, 1, .inr (.inl fo2))), (m0, .inr (12, fs))] := hD
        have hK : va_K D vwCl [(cB, .byte), (a1, .char), (a2, .char), (a4, .int), (a5, .int), (a6, .int), (a7, .int), (aM, .byte), (aO, .long)] s := hK
        refine W.widen (k := 44) (n := 899686) (by decide) (by decide) ?_
        have hw_584 : r_584 = 1 := hw_584
        subst hw_584
        refine lv_iload hx hb dL_law_587 (lv_at hl 1 rfl) ?_
        refine lv_icmp_eq (tgt := 594) hx hb dL_law_589 (by decide) (fun c_589 => ?_) (fun c_589 => ?_)
        rotate_left
        · exact absurd (by decide) c_589
        refine lv_iload hx hb dL_law_594 (lv_at hl 1 rfl) ?_
        refine lv_if_ne (tgt := 611) hx hb dL_law_596 (by decide) (fun c_596 => ?_) (fun c_596 => ?_)
        rotate_left
        · exact absurd c_596 (by decide)
        refine lv_goto (tgt := 978) hx hb dL_law_611 (by decide) ?_
        exact law_done hx hb hr hml hlocks hX hbl hAe hbA hS (by decide) (by decide) (lv_sub hl [6, 2] rfl)
  · skip
    refine lv_iconst (v := 1) hx hb dL_law_528 (by decide) ?_
    refine lv_goto (tgt := 533) hx hb dL_law_529 (by decide) ?_
    refine lv_aload_n hx hb dL_law_533 rfl (lv_at hl 0 rfl) ?_
    refine lv_iload hx hb dL_law_534 (lv_at hl 4 rfl) ?_
    refine lv_iconst (v := 2) hx hb dL_law_536 (by decide) ?_
    refine lv_iadd hx hb dL_law_537 ?_
    refine va_sld hx hb hX hbl hbA hS (by unfold vp_in; decide) dL_law_538 ?_
    refine lv_aload_n hx hb dL_law_539 rfl (lv_at hl 0 rfl) ?_
    refine lv_iload hx hb dL_law_540 (lv_at hl 4 rfl) ?_
    refine lv_iconst (v := 3) hx hb dL_law_542 (by decide) ?_
    refine lv_iadd hx hb dL_law_543 ?_
    refine va_sld hx hb hX hbl hbA hS (by unfold vp_in; decide) dL_law_544 ?_
    refine lv_aload_n hx hb dL_law_545 rfl (lv_at hl 3 rfl) ?_
    refine xb_goi (wr := [(qc, .inl (cB, 1024, .inl (fun _ => 0))), (m0, .inr (12, fs)), (q1, .inl (a1, 66000, .inl f1)), (q2, .inl (a2, 66000, .inl f2)), (q4, .inl (a4, 24000, .inl f4)), (q5, .inl (a5, 24000, .inl f5)), (q6, .inl (a6, 24000, .inl f6)), (q7, .inl (a7, 4096, .inl f7)), (qm, .inl (aM, 65560, .inl fM))]) (vx_runSW (As := [.ref h0, .int 1, .int (xs (Int32.toNatClampNeg (0 + 2))), .int (xs (Int32.toNatClampNeg (0 + 3))), .ref qo]) (rest := []) ⟨hx, hb, hml, hown, htb⟩ (lh_member l D g h0 qc 0 g.1 (-1) qo aO (fun _ => 0) 1 (xs (Int32.toNatClampNeg (0 + 2))) (xs (Int32.toNatClampNeg (0 + 3))) (Array.size H) (hnt)) (bg_SW 5 htb bg_408 bg_409 bg_356 bg_333 rfl rfl (by decide +kernel) ⟨Nat.le_of_ble_eq_true rfl, Nat.le_of_ble_eq_true rfl⟩) ⟨xb_blind xe_ok, xb_enter xe_ok hK hP hD hS hA hE [0, 10] rfl rfl rfl [8] rfl⟩ rfl rfl hl.1 rfl (lv_room (Nat.le_of_ble_eq_true rfl)) dL_law_546 ⟨Nat.le_of_ble_eq_true rfl, Nat.le_of_ble_eq_true rfl⟩) hK hP hD hS hA [0, 10] [1, 2, 3, 4, 5, 6, 7, 8, 9] rfl rfl rfl (by decide) (fun r_546 u_546 H locs hw_546 hP hD hK hS => ?_)
    generalize u_546 = fo2 at hP hD hK hw_546
    have hP : va_P D vwCl [(qc, .inl (cB, 1024, .inl (fun _ => 0))), (m0, .inr (12, fs)), (q1, .inl (a1, 66000, .inl f1)), (q2, .inl (a2, 66000, .inl f2)), (q4, .inl (a4, 24000, .inl f4)), (q5, .inl (a5, 24000, .inl f5)), (q6, .inl (a6, 24000, .inl f6)), (q7, .inl (a7, 4096, .inl f7)), (qm, .inl (aM, 65560, .inl fM)), (qo, .inl (aO, 1, .inr (.inl fo2)))] H := hP
    have hD : va_D A [(qc, .inl (cB, 1024, .inl (fun _ => 0))), (m0, .inr (12, fs)), (q1, .inl (a1, 66000, .inl f1)), (q2, .inl (a2, 66000, .inl f2)), (q4, .inl (a4, 24000, .inl f4)), (q5, .inl (a5, 24000, .inl f5)), (q6, .inl (a6, 24000, .inl f6)), (q7, .inl (a7, 4096, .inl f7)), (qm, .inl (aM, 65560, .inl fM)), (qo, .inl (aO, 1, .inr (.inl fo2)))] := hD
    have hK : va_K D vwCl [(cB, .byte), (a1, .char), (a2, .char), (a4, .int), (a5, .int), (a6, .int), (a7, .int), (aM, .byte), (aO, .long), (aO, .long)] s := hK
    refine W.widen (k := 44) (n := 899686) (by decide) (by decide) ?_
    rcases hw_546 with ⟨k1, k2, hr0, ho⟩ | ⟨kx, hr0⟩
    · skip
      subst hr0
      have hK := hK.sub (tys' := [(cB, .byte), (a1, .char), (a2, .char), (a4, .int), (a5, .int), (a6, .int), (a7, .int), (aM, .byte), (aO, .long)]) [0, 1, 2, 3, 4, 5, 6, 7, 8] rfl
      refine lv_istore (lv' := [(5, .int 0), (0, .ref b), (1, .ref h0), (2, .ref m0), (3, .ref qo), (4, .int 0)]) hx hb dL_law_549 hl (by decide) rfl (fun ls hl => ?_)
      refine lv_aload_n hx hb dL_law_551 rfl (lv_at hl 3 rfl) ?_
      refine lv_aload_n hx hb dL_law_552 rfl (lv_at hl 1 rfl) ?_
      refine lv_iload hx hb dL_law_553 (lv_at hl 5 rfl) ?_
      refine lv_iconst (v := 1) hx hb dL_law_555 (by decide) ?_
      refine lv_iadd hx hb dL_law_556 ?_
      refine va_sld hx hb hX hbl hbA hS (by unfold vp_in; decide) dL_law_557 ?_
      refine lv_if_eq (tgt := 565) hx hb dL_law_558 (by decide) (fun c_558 => ?_) (fun c_558 => ?_)
      · exact absurd c_558 (c_525)
      refine lv_iconst (v := 1) hx hb dL_law_561 (by decide) ?_
      refine lv_goto (tgt := 566) hx hb dL_law_562 (by decide) ?_
      refine lv_aload_n hx hb dL_law_566 rfl (lv_at hl 1 rfl) ?_
      refine lv_iload hx hb dL_law_567 (lv_at hl 5 rfl) ?_
      refine lv_iconst (v := 2) hx hb dL_law_569 (by decide) ?_
      refine lv_iadd hx hb dL_law_570 ?_
      refine va_sld hx hb hX hbl hbA hS (by unfold vp_in; decide) dL_law_571 ?_
      refine lv_aload_n hx hb dL_law_572 rfl (lv_at hl 1 rfl) ?_
      refine lv_iload hx hb dL_law_573 (lv_at hl 5 rfl) ?_
      refine lv_iconst (v := 3) hx hb dL_law_575 (by decide) ?_
      refine lv_iadd hx hb dL_law_576 ?_
      refine va_sld hx hb hX hbl hbA hS (by unfold vp_in; decide) dL_law_577 ?_
      refine xb_goi (wr := [(qc, .inl (cB, 1024, .inl (fun _ => 0))), (q1, .inl (a1, 66000, .inl f1)), (q2, .inl (a2, 66000, .inl f2)), (q4, .inl (a4, 24000, .inl f4)), (q5, .inl (a5, 24000, .inl f5)), (q6, .inl (a6, 24000, .inl f6)), (q7, .inl (a7, 4096, .inl f7)), (qm, .inl (aM, 65560, .inl fM)), (qo, .inl (aO, 1, .inr (.inl fo2)))]) (va_runV (As := [.int 1, .int (xs (Int32.toNatClampNeg (0 + 2))), .int (xs (Int32.toNatClampNeg (0 + 3)))]) (rest := []) ⟨hx, hb, hml, hown, htb⟩ (mm_member l D g m0 fs 1 (xs (Int32.toNatClampNeg (0 + 2))) (xs (Int32.toNatClampNeg (0 + 3))) (Array.size H) (md_sub hm [9] rfl)) (bg_V 3 htb bg_410 bg_411 bg_412 bg_144 bg_232 rfl rfl (by decide +kernel) ⟨Nat.le_of_ble_eq_true rfl, Nat.le_of_ble_eq_true rfl⟩) ⟨xb_blind xe_ok, va_recv hK hP (ci := 12) (q0 := 1) rfl rfl, xb_enter xe_ok hK hP hD hS hA hE [1] rfl rfl rfl [] rfl⟩ rfl rfl hl.1 rfl (lv_room (Nat.le_of_ble_eq_true rfl)) dL_law_578 ⟨Nat.le_of_ble_eq_true rfl, Nat.le_of_ble_eq_true rfl⟩) hK hP hD hS hA [1] [0, 2, 3, 4, 5, 6, 7, 8, 9] rfl rfl rfl (by decide) (fun r_578 u_578 H locs hw_578 hP hD hK hS => ?_)
      generalize u_578 = fs at hP hD hK hw_578
      have hP : va_P D vwCl [(qc, .inl (cB, 1024, .inl (fun _ => 0))), (q1, .inl (a1, 66000, .inl f1)), (q2, .inl (a2, 66000, .inl f2)), (q4, .inl (a4, 24000, .inl f4)), (q5, .inl (a5, 24000, .inl f5)), (q6, .inl (a6, 24000, .inl f6)), (q7, .inl (a7, 4096, .inl f7)), (qm, .inl (aM, 65560, .inl fM)), (qo, .inl (aO, 1, .inr (.inl fo2))), (m0, .inr (12, fs))] H := hP
      have hD : va_D A [(qc, .inl (cB, 1024, .inl (fun _ => 0))), (q1, .inl (a1, 66000, .inl f1)), (q2, .inl (a2, 66000, .inl f2)), (q4, .inl (a4, 24000, .inl f4)), (q5, .inl (a5, 24000, .inl f5)), (q6, .inl (a6, 24000, .inl f6)), (q7, .inl (a7, 4096, .inl f7)), (qm, .inl (aM, 65560, .inl fM)), (qo, .inl (aO, 1, .inr (.inl fo2))), (m0, .inr (12, fs))] := hD
      have hK : va_K D vwCl [(cB, .byte), (a1, .char), (a2, .char), (a4, .int), (a5, .int), (a6, .int), (a7, .int), (aM, .byte), (aO, .long)] s := hK
      refine W.widen (k := 44) (n := 899686) (by decide) (by decide) ?_
      rcases hw_578 with ⟨_, _, hb0, hm⟩ | ⟨kz, _⟩
      · skip
        subst hb0
        have hm : md_has fs [(0, .int 0)] := hm
        refine lv_istore (lv' := [(6, .int (-1)), (5, .int 0), (0, .ref b), (1, .ref h0), (2, .ref m0), (3, .ref qo), (4, .int 0)]) hx hb dL_law_581 hl (by decide) rfl (fun ls hl => ?_)
        refine lv_aload_n hx hb dL_law_583 rfl (lv_at hl 4 rfl) ?_
        refine xb_goi (wr := [(qc, .inl (cB, 1024, .inl (fun _ => 0))), (q1, .inl (a1, 66000, .inl f1)), (q2, .inl (a2, 66000, .inl f2)), (q4, .inl (a4, 24000, .inl f4)), (q5, .inl (a5, 24000, .inl f5)), (q6, .inl (a6, 24000, .inl f6)), (q7, .inl (a7, 4096, .inl f7)), (qm, .inl (aM, 65560, .inl fM)), (qo, .inl (aO, 1, .inr (.inl fo2)))]) (va_runV (As := []) (rest := []) ⟨hx, hb, hml, hown, htb⟩ (mm_thrown l D g m0 fs 0 (Array.size H) (md_sub hm [0] rfl)) (bg_V 0 htb bg_360 bg_361 bg_362 bg_144 bg_87 rfl rfl (by decide +kernel) ⟨Nat.le_of_ble_eq_true rfl, Nat.le_of_ble_eq_true rfl⟩) ⟨xb_blind xe_ok, va_recv hK hP (ci := 12) (q0 := 9) rfl rfl, xb_enter xe_ok hK hP hD hS hA hE [9] rfl rfl rfl [] rfl⟩ rfl rfl hl.1 rfl (lv_room (Nat.le_of_ble_eq_true rfl)) dL_law_584 ⟨Nat.le_of_ble_eq_true rfl, Nat.le_of_ble_eq_true rfl⟩) hK hP hD hS hA [9] [0, 1, 2, 3, 4, 5, 6, 7, 8] rfl rfl rfl (by decide) (fun r_584 u_584 H locs hw_584 hP hD hK hS => ?_)
        have hP : va_P D vwCl [(qc, .inl (cB, 1024, .inl (fun _ => 0))), (q1, .inl (a1, 66000, .inl f1)), (q2, .inl (a2, 66000, .inl f2)), (q4, .inl (a4, 24000, .inl f4)), (q5, .inl (a5, 24000, .inl f5)), (q6, .inl (a6, 24000, .inl f6)), (q7, .inl (a7, 4096, .inl f7)), (qm, .inl (aM, 65560, .inl fM)), (qo, .inl (aO, 1, .inr (.inl fo2))), (m0, .inr (12, fs))] H := hP
        have hD : va_D A [(qc, .inl (cB, 1024, .inl (fun _ => 0))), (q1, .inl (a1, 66000, .inl f1)), (q2, .inl (a2, 66000, .inl f2)), (q4, .inl (a4, 24000, .inl f4)), (q5, .inl (a5, 24000, .inl f5)), (q6, .inl (a6, 24000, .inl f6)), (q7, .inl (a7, 4096, .inl f7)), (qm, .inl (aM, 65560, .inl fM)), (qo, .inl (aO, 1, .inr (.inl fo2))), (m0, .inr (12, fs))] := hD
        have hK : va_K D vwCl [(cB, .byte), (a1, .char), (a2, .char), (a4, .int), (a5, .int), (a6, .int), (a7, .int), (aM, .byte), (aO, .long)] s := hK
        refine W.widen (k := 44) (n := 899686) (by decide) (by decide) ?_
        have hw_584 : r_584 = 0 := hw_584
        subst hw_584
        refine lv_iload hx hb dL_law_587 (lv_at hl 1 rfl) ?_
        refine lv_icmp_eq (tgt := 594) hx hb dL_law_589 (by decide) (fun c_589 => ?_) (fun c_589 => ?_)
        rotate_left
        · exact absurd (by decide) c_589
        refine lv_iload hx hb dL_law_594 (lv_at hl 1 rfl) ?_
        refine lv_if_ne (tgt := 611) hx hb dL_law_596 (by decide) (fun c_596 => ?_) (fun c_596 => ?_)
        · exact absurd (by decide) c_596
        refine lv_aload_n hx hb dL_law_599 rfl (lv_at hl 5 rfl) ?_
        refine lv_iconst (v := 0) hx hb dL_law_600 (by decide) ?_
        refine va_lald hx hb hK hP 8 8 rfl rfl (by unfold vp_in; decide) dL_law_601 ?_
        refine lv_iload hx hb dL_law_602 (lv_at hl 0 rfl) ?_
        refine lv_i2l (v := Int32.toInt64 (-1)) hx hb dL_law_604 rfl ?_
        refine W.lcmp hx hb dL_law_605 ?_
        refine lv_if_eq (tgt := 611) hx hb dL_law_606 (by decide) (fun c_606 => ?_) (fun c_606 => ?_)
        rotate_left
        · exact absurd (by rw [show fo2 (Int32.toNatClampNeg 0) = Int32.toInt64 (-1) from ho]; exact lg_self _) c_606
        refine lv_goto (tgt := 978) hx hb dL_law_611 (by decide) ?_
        exact law_done hx hb hr hml hlocks hX hbl hAe hbA hS (by decide) (by decide) (lv_sub hl [6, 2] rfl)
      · skip
        exact (kz.elim (fun h => k1 h) (fun h => h k2)).elim
    · skip
      subst hr0
      have hK := hK.sub (tys' := [(cB, .byte), (a1, .char), (a2, .char), (a4, .int), (a5, .int), (a6, .int), (a7, .int), (aM, .byte), (aO, .long)]) [0, 1, 2, 3, 4, 5, 6, 7, 8] rfl
      refine lv_istore (lv' := [(5, .int 1), (0, .ref b), (1, .ref h0), (2, .ref m0), (3, .ref qo), (4, .int 0)]) hx hb dL_law_549 hl (by decide) rfl (fun ls hl => ?_)
      refine lv_aload_n hx hb dL_law_551 rfl (lv_at hl 3 rfl) ?_
      refine lv_aload_n hx hb dL_law_552 rfl (lv_at hl 1 rfl) ?_
      refine lv_iload hx hb dL_law_553 (lv_at hl 5 rfl) ?_
      refine lv_iconst (v := 1) hx hb dL_law_555 (by decide) ?_
      refine lv_iadd hx hb dL_law_556 ?_
      refine va_sld hx hb hX hbl hbA hS (by unfold vp_in; decide) dL_law_557 ?_
      refine lv_if_eq (tgt := 565) hx hb dL_law_558 (by decide) (fun c_558 => ?_) (fun c_558 => ?_)
      · exact absurd c_558 (c_525)
      refine lv_iconst (v := 1) hx hb dL_law_561 (by decide) ?_
      refine lv_goto (tgt := 566) hx hb dL_law_562 (by decide) ?_
      refine lv_aload_n hx hb dL_law_566 rfl (lv_at hl 1 rfl) ?_
      refine lv_iload hx hb dL_law_567 (lv_at hl 5 rfl) ?_
      refine lv_iconst (v := 2) hx hb dL_law_569 (by decide) ?_
      refine lv_iadd hx hb dL_law_570 ?_
      refine va_sld hx hb hX hbl hbA hS (by unfold vp_in; decide) dL_law_571 ?_
      refine lv_aload_n hx hb dL_law_572 rfl (lv_at hl 1 rfl) ?_
      refine lv_iload hx hb dL_law_573 (lv_at hl 5 rfl) ?_
      refine lv_iconst (v := 3) hx hb dL_law_575 (by decide) ?_
      refine lv_iadd hx hb dL_law_576 ?_
      refine va_sld hx hb hX hbl hbA hS (by unfold vp_in; decide) dL_law_577 ?_
      refine xb_goi (wr := [(qc, .inl (cB, 1024, .inl (fun _ => 0))), (q1, .inl (a1, 66000, .inl f1)), (q2, .inl (a2, 66000, .inl f2)), (q4, .inl (a4, 24000, .inl f4)), (q5, .inl (a5, 24000, .inl f5)), (q6, .inl (a6, 24000, .inl f6)), (q7, .inl (a7, 4096, .inl f7)), (qm, .inl (aM, 65560, .inl fM)), (qo, .inl (aO, 1, .inr (.inl fo2)))]) (va_runV (As := [.int 1, .int (xs (Int32.toNatClampNeg (0 + 2))), .int (xs (Int32.toNatClampNeg (0 + 3)))]) (rest := []) ⟨hx, hb, hml, hown, htb⟩ (mm_member l D g m0 fs 1 (xs (Int32.toNatClampNeg (0 + 2))) (xs (Int32.toNatClampNeg (0 + 3))) (Array.size H) (md_sub hm [9] rfl)) (bg_V 3 htb bg_410 bg_411 bg_412 bg_144 bg_232 rfl rfl (by decide +kernel) ⟨Nat.le_of_ble_eq_true rfl, Nat.le_of_ble_eq_true rfl⟩) ⟨xb_blind xe_ok, va_recv hK hP (ci := 12) (q0 := 1) rfl rfl, xb_enter xe_ok hK hP hD hS hA hE [1] rfl rfl rfl [] rfl⟩ rfl rfl hl.1 rfl (lv_room (Nat.le_of_ble_eq_true rfl)) dL_law_578 ⟨Nat.le_of_ble_eq_true rfl, Nat.le_of_ble_eq_true rfl⟩) hK hP hD hS hA [1] [0, 2, 3, 4, 5, 6, 7, 8, 9] rfl rfl rfl (by decide) (fun r_578 u_578 H locs hw_578 hP hD hK hS => ?_)
      generalize u_578 = fs at hP hD hK hw_578
      have hP : va_P D vwCl [(qc, .inl (cB, 1024, .inl (fun _ => 0))), (q1, .inl (a1, 66000, .inl f1)), (q2, .inl (a2, 66000, .inl f2)), (q4, .inl (a4, 24000, .inl f4)), (q5, .inl (a5, 24000, .inl f5)), (q6, .inl (a6, 24000, .inl f6)), (q7, .inl (a7, 4096, .inl f7)), (qm, .inl (aM, 65560, .inl fM)), (qo, .inl (aO, 1, .inr (.inl fo2))), (m0, .inr (12, fs))] H := hP
      have hD : va_D A [(qc, .inl (cB, 1024, .inl (fun _ => 0))), (q1, .inl (a1, 66000, .inl f1)), (q2, .inl (a2, 66000, .inl f2)), (q4, .inl (a4, 24000, .inl f4)), (q5, .inl (a5, 24000, .inl f5)), (q6, .inl (a6, 24000, .inl f6)), (q7, .inl (a7, 4096, .inl f7)), (qm, .inl (aM, 65560, .inl fM)), (qo, .inl (aO, 1, .inr (.inl fo2))), (m0, .inr (12, fs))] := hD
      have hK : va_K D vwCl [(cB, .byte), (a1, .char), (a2, .char), (a4, .int), (a5, .int), (a6, .int), (a7, .int), (aM, .byte), (aO, .long)] s := hK
      refine W.widen (k := 44) (n := 899686) (by decide) (by decide) ?_
      rcases hw_578 with ⟨j1, j2, _, _⟩ | ⟨_, hm⟩
      · skip
        exact (kx.elim (fun h => j1 h) (fun h => h j2)).elim
      · skip
        have hm : md_has fs [(0, .int 1)] := hm
        refine lv_istore (lv' := [(6, .int r_578), (5, .int 1), (0, .ref b), (1, .ref h0), (2, .ref m0), (3, .ref qo), (4, .int 0)]) hx hb dL_law_581 hl (by decide) rfl (fun ls hl => ?_)
        refine lv_aload_n hx hb dL_law_583 rfl (lv_at hl 4 rfl) ?_
        refine xb_goi (wr := [(qc, .inl (cB, 1024, .inl (fun _ => 0))), (q1, .inl (a1, 66000, .inl f1)), (q2, .inl (a2, 66000, .inl f2)), (q4, .inl (a4, 24000, .inl f4)), (q5, .inl (a5, 24000, .inl f5)), (q6, .inl (a6, 24000, .inl f6)), (q7, .inl (a7, 4096, .inl f7)), (qm, .inl (aM, 65560, .inl fM)), (qo, .inl (aO, 1, .inr (.inl fo2)))]) (va_runV (As := []) (rest := []) ⟨hx, hb, hml, hown, htb⟩ (mm_thrown l D g m0 fs 1 (Array.size H) (md_sub hm [0] rfl)) (bg_V 0 htb bg_360 bg_361 bg_362 bg_144 bg_87 rfl rfl (by decide +kernel) ⟨Nat.le_of_ble_eq_true rfl, Nat.le_of_ble_eq_true rfl⟩) ⟨xb_blind xe_ok, va_recv hK hP (ci := 12) (q0 := 9) rfl rfl, xb_enter xe_ok hK hP hD hS hA hE [9] rfl rfl rfl [] rfl⟩ rfl rfl hl.1 rfl (lv_room (Nat.le_of_ble_eq_true rfl)) dL_law_584 ⟨Nat.le_of_ble_eq_true rfl, Nat.le_of_ble_eq_true rfl⟩) hK hP hD hS hA [9] [0, 1, 2, 3, 4, 5, 6, 7, 8] rfl rfl rfl (by decide) (fun r_584 u_584 H locs hw_584 hP hD hK hS => ?_)
        have hP : va_P D vwCl [(qc, .inl (cB, 1024, .inl (fun _ => 0))), (q1, .inl (a1, 66000, .inl f1)), (q2, .inl (a2, 66000, .inl f2)), (q4, .inl (a4, 24000, .inl f4)), (q5, .inl (a5, 24000, .inl f5)), (q6, .inl (a6, 24000, .inl f6)), (q7, .inl (a7, 4096, .inl f7)), (qm, .inl (aM, 65560, .inl fM)), (qo, .inl (aO, 1, .inr (.inl fo2))), (m0, .inr (12, fs))] H := hP
        have hD : va_D A [(qc, .inl (cB, 1024, .inl (fun _ => 0))), (q1, .inl (a1, 66000, .inl f1)), (q2, .inl (a2, 66000, .inl f2)), (q4, .inl (a4, 24000, .inl f4)), (q5, .inl (a5, 24000, .inl f5)), (q6, .inl (a6, 24000, .inl f6)), (q7, .inl (a7, 4096, .inl f7)), (qm, .inl (aM, 65560, .inl fM)), (qo, .inl (aO, 1, .inr (.inl fo2))), (m0, .inr (12, fs))] := hD
        have hK : va_K D vwCl [(cB, .byte), (a1, .char), (a2, .char), (a4, .int), (a5, .int), (a6, .int), (a7, .int), (aM, .byte), (aO, .long)] s := hK
        refine W.widen (k := 44) (n := 899686) (by decide) (by decide) ?_
        have hw_584 : r_584 = 1 := hw_584
        subst hw_584
        refine lv_iload hx hb dL_law_587 (lv_at hl 1 rfl) ?_
        refine lv_icmp_eq (tgt := 594) hx hb dL_law_589 (by decide) (fun c_589 => ?_) (fun c_589 => ?_)
        rotate_left
        · exact absurd (by decide) c_589
        refine lv_iload hx hb dL_law_594 (lv_at hl 1 rfl) ?_
        refine lv_if_ne (tgt := 611) hx hb dL_law_596 (by decide) (fun c_596 => ?_) (fun c_596 => ?_)
        rotate_left
        · exact absurd c_596 (by decide)
        refine lv_goto (tgt := 978) hx hb dL_law_611 (by decide) ?_
        exact law_done hx hb hr hml hlocks hX hbl hAe hbA hS (by decide) (by decide) (lv_sub hl [6, 2] rfl)
theorem dL_law_679 : decode cL_law 679 = .ok (.aload_n 1, 1) := by decide +kernel
theorem dL_law_680 : decode cL_law 680 = .ok (.aload_n 0, 1) := by decide +kernel
theorem dL_law_681 : decode cL_law 681 = .ok (.iload 4, 2) := by decide +kernel
theorem dL_law_683 : decode cL_law 683 = .ok (.iconst 1, 1) := by decide +kernel
theorem dL_law_684 : decode cL_law 684 = .ok (.iadd, 1) := by decide +kernel
theorem dL_law_685 : decode cL_law 685 = .ok (.iaload, 1) := by decide +kernel
theorem dL_law_686 : decode cL_law 686 = .ok (.aload_n 0, 1) := by decide +kernel
theorem dL_law_687 : decode cL_law 687 = .ok (.iload 4, 2) := by decide +kernel
theorem dL_law_689 : decode cL_law 689 = .ok (.iconst 2, 1) := by decide +kernel
theorem dL_law_690 : decode cL_law 690 = .ok (.iadd, 1) := by decide +kernel
theorem dL_law_691 : decode cL_law 691 = .ok (.iaload, 1) := by decide +kernel
theorem dL_law_692 : decode cL_law 692 = .ok (.aload_n 0, 1) := by decide +kernel
theorem dL_law_693 : decode cL_law 693 = .ok (.iload 4, 2) := by decide +kernel
theorem dL_law_695 : decode cL_law 695 = .ok (.iconst 3, 1) := by decide +kernel
theorem dL_law_696 : decode cL_law 696 = .ok (.iadd, 1) := by decide +kernel
theorem dL_law_697 : decode cL_law 697 = .ok (.iaload, 1) := by decide +kernel
theorem dL_law_698 : decode cL_law 698 = .ok (.aload_n 3, 1) := by decide +kernel
theorem dL_law_699 : decode cL_law 699 = .ok (.invokestatic 93, 3) := by decide +kernel
theorem dL_law_702 : decode cL_law 702 = .ok (.istore 5, 2) := by decide +kernel
theorem dL_law_704 : decode cL_law 704 = .ok (.aload_n 2, 1) := by decide +kernel
theorem dL_law_705 : decode cL_law 705 = .ok (.aload_n 0, 1) := by decide +kernel
theorem dL_law_706 : decode cL_law 706 = .ok (.iload 4, 2) := by decide +kernel
theorem dL_law_708 : decode cL_law 708 = .ok (.iconst 1, 1) := by decide +kernel
theorem dL_law_709 : decode cL_law 709 = .ok (.iadd, 1) := by decide +kernel
theorem dL_law_710 : decode cL_law 710 = .ok (.iaload, 1) := by decide +kernel
theorem dL_law_711 : decode cL_law 711 = .ok (.aload_n 0, 1) := by decide +kernel
theorem dL_law_712 : decode cL_law 712 = .ok (.iload 4, 2) := by decide +kernel
theorem dL_law_714 : decode cL_law 714 = .ok (.iconst 2, 1) := by decide +kernel
theorem dL_law_715 : decode cL_law 715 = .ok (.iadd, 1) := by decide +kernel
theorem dL_law_716 : decode cL_law 716 = .ok (.iaload, 1) := by decide +kernel
theorem dL_law_717 : decode cL_law 717 = .ok (.aload_n 0, 1) := by decide +kernel
theorem dL_law_718 : decode cL_law 718 = .ok (.iload 4, 2) := by decide +kernel
theorem dL_law_720 : decode cL_law 720 = .ok (.iconst 3, 1) := by decide +kernel
theorem dL_law_721 : decode cL_law 721 = .ok (.iadd, 1) := by decide +kernel
theorem dL_law_722 : decode cL_law 722 = .ok (.iaload, 1) := by decide +kernel
theorem dL_law_723 : decode cL_law 723 = .ok (.invokevirtual 96, 3) := by decide +kernel
theorem dL_law_726 : decode cL_law 726 = .ok (.istore 6, 2) := by decide +kernel
theorem dL_law_728 : decode cL_law 728 = .ok (.aload_n 2, 1) := by decide +kernel
theorem dL_law_729 : decode cL_law 729 = .ok (.invokevirtual 49, 3) := by decide +kernel
theorem dL_law_732 : decode cL_law 732 = .ok (.iload 5, 2) := by decide +kernel
theorem dL_law_734 : decode cL_law 734 = .ok (.if_icmp .eq 5, 3) := by decide +kernel
theorem dL_law_739 : decode cL_law 739 = .ok (.iload 5, 2) := by decide +kernel
theorem dL_law_741 : decode cL_law 741 = .ok (.ifCond .ne 15, 3) := by decide +kernel
theorem dL_law_744 : decode cL_law 744 = .ok (.aload_n 3, 1) := by decide +kernel
theorem dL_law_745 : decode cL_law 745 = .ok (.iconst 0, 1) := by decide +kernel
theorem dL_law_746 : decode cL_law 746 = .ok (.laload, 1) := by decide +kernel
theorem dL_law_747 : decode cL_law 747 = .ok (.iload 6, 2) := by decide +kernel
theorem dL_law_749 : decode cL_law 749 = .ok (.i2l, 1) := by decide +kernel
theorem dL_law_750 : decode cL_law 750 = .ok (.lcmp, 1) := by decide +kernel
theorem dL_law_751 : decode cL_law 751 = .ok (.ifCond .eq 5, 3) := by decide +kernel
theorem dL_law_756 : decode cL_law 756 = .ok (.goto 222, 3) := by decide +kernel
set_option maxHeartbeats 8000000 in
set_option maxRecDepth 100000 in
theorem law_11 {p : Program} {l : Launch} {e : Env} {s : State} {m : MethodId} {below : List Frame} {meth : Method} {c : Code} {H : Heap} {locs : List Loc} {A : Nat → Prop} {b : Nat} {xs : Nat → Int32} {ls : Array Slot} {D : va_G} {g : xe_G} {h0 : Nat} {qc : Nat} {cB : ClassId} {m0 : Nat} {fs : List Value} {q1 : Nat} {q2 : Nat} {q4 : Nat} {q5 : Nat} {q6 : Nat} {q7 : Nat} {a1 : ClassId} {a2 : ClassId} {a4 : ClassId} {a5 : ClassId} {a6 : ClassId} {a7 : ClassId} {f1 : Nat → Int32} {f2 : Nat → Int32} {f4 : Nat → Int32} {f5 : Nat → Int32} {f6 : Nat → Int32} {f7 : Nat → Int32} {qf : Nat} {qm : Nat} {aM : ClassId} {fM : Nat → Int32} {qo : Nat} {aO : ClassId} (hx : p.tables.exec = Jvm.exec) (hb : c.code = cL_law) (hr : meth.sig.returnType = ret) (hml : c.maxLocals = 7) (hlocks : meth.locks = false) (hown : s.vm.findClass RL = some m.cls) (htb : ∀ w ∈ bg, w.before #[Value.ref b] s = true) (hX : va_X b 6 xs s s.heap) (hbl : b < s.heap.size) (hAe : A = fun q : Nat => s.heap.size ≤ q) (hbA : ¬ A b) (hA : ∀ q : Nat, s.heap.size ≤ q → A q) (hE : xe_E g A s s.heap) (hnt : l.stackTraces = false) (hm : md_has fs [(1, .ref q1), (2, .ref q2), (4, .ref q4), (5, .ref q5), (6, .ref q6), (7, .ref q7), (13, .ref qf), (15, .ref qm), (17, .int 0), (18, .int (-1)), (19, .int 0), (73, .int (-1))]) (hK : va_K D vwCl [(cB, .byte), (a1, .char), (a2, .char), (a4, .int), (a5, .int), (a6, .int), (a7, .int), (aM, .byte), (aO, .long)] s) (hP : va_P D vwCl [(h0, .inr (11, [.ref qc, .int 0, .ref g.1, .null, .int (-1)])), (qc, .inl (cB, 1024, .inl (fun _ => 0))), (m0, .inr (12, fs)), (q1, .inl (a1, 66000, .inl f1)), (q2, .inl (a2, 66000, .inl f2)), (q4, .inl (a4, 24000, .inl f4)), (q5, .inl (a5, 24000, .inl f5)), (q6, .inl (a6, 24000, .inl f6)), (q7, .inl (a7, 4096, .inl f7)), (qm, .inl (aM, 65560, .inl fM)), (qo, .inl (aO, 1, .inr (.inl (fun _ => 0))))] H) (hD : va_D A [(h0, .inr (11, [.ref qc, .int 0, .ref g.1, .null, .int (-1)])), (qc, .inl (cB, 1024, .inl (fun _ => 0))), (m0, .inr (12, fs)), (q1, .inl (a1, 66000, .inl f1)), (q2, .inl (a2, 66000, .inl f2)), (q4, .inl (a4, 24000, .inl f4)), (q5, .inl (a5, 24000, .inl f5)), (q6, .inl (a6, 24000, .inl f6)), (q7, .inl (a7, 4096, .inl f7)), (qm, .inl (aM, 65560, .inl fM)), (qo, .inl (aO, 1, .inr (.inl (fun _ => 0))))]) (hS : va_S A s.heap H locs) (hl : lv_has ls 7 [(0, .ref b), (1, .ref h0), (2, .ref m0), (3, .ref qo), (4, .int 0)]) : W p l e room_1 s m #[Value.ref b] below meth c H locs 43 899680 (lw_Z below #[Value.ref b] s) (F0 m 679 ls []) := by
  refine lv_aload_n hx hb dL_law_679 rfl (lv_at hl 1 rfl) ?_
  refine lv_aload_n hx hb dL_law_680 rfl (lv_at hl 0 rfl) ?_
  refine lv_iload hx hb dL_law_681 (lv_at hl 4 rfl) ?_
  refine lv_iconst (v := 1) hx hb dL_law_683 (by decide) ?_
  refine lv_iadd hx hb dL_law_684 ?_
  refine va_sld hx hb hX hbl hbA hS (by unfold vp_in; decide) dL_law_685 ?_
  refine lv_aload_n hx hb dL_law_686 rfl (lv_at hl 0 rfl) ?_
  refine lv_iload hx hb dL_law_687 (lv_at hl 4 rfl) ?_
  refine lv_iconst (v := 2) hx hb dL_law_689 (by decide) ?_
  refine lv_iadd hx hb dL_law_690 ?_
  refine va_sld hx hb hX hbl hbA hS (by unfold vp_in; decide) dL_law_691 ?_
  refine lv_aload_n hx hb dL_law_692 rfl (lv_at hl 0 rfl) ?_
  refine lv_iload hx hb dL_law_693 (lv_at hl 4 rfl) ?_
  refine lv_iconst (v := 3) hx hb dL_law_695 (by decide) ?_
  refine lv_iadd hx hb dL_law_696 ?_
  refine va_sld hx hb hX hbl hbA hS (by unfold vp_in; decide) dL_law_697 ?_
  refine lv_aload_n hx hb dL_law_698 rfl (lv_at hl 3 rfl) ?_
  refine xb_goi (wr := [(qc, .inl (cB, 1024, .inl (fun _ => 0))), (m0, .inr (12, fs)), (q1, .inl (a1, 66000, .inl f1)), (q2, .inl (a2, 66000, .inl f2)), (q4, .inl (a4, 24000, .inl f4)), (q5, .inl (a5, 24000, .inl f5)), (q6, .inl (a6, 24000, .inl f6)), (q7, .inl (a7, 4096, .inl f7)), (qm, .inl (aM, 65560, .inl fM))]) (vx_runSW (As := [.ref h0, .int (xs (Int32.toNatClampNeg (0 + 1))), .int (xs (Int32.toNatClampNeg (0 + 2))), .int (xs (Int32.toNatClampNeg (0 + 3))), .ref qo]) (rest := []) ⟨hx, hb, hml, hown, htb⟩ (lh_row l D g h0 qc 0 g.1 (-1) qo aO (fun _ => 0) (xs (Int32.toNatClampNeg (0 + 1))) (xs (Int32.toNatClampNeg (0 + 2))) (xs (Int32.toNatClampNeg (0 + 3))) (Array.size H) (hnt)) (bg_SW 5 htb bg_419 bg_420 bg_356 bg_337 rfl rfl (by decide +kernel) ⟨Nat.le_of_ble_eq_true rfl, Nat.le_of_ble_eq_true rfl⟩) ⟨xb_blind xe_ok, xb_enter xe_ok hK hP hD hS hA hE [0, 10] rfl rfl rfl [8] rfl⟩ rfl rfl hl.1 rfl (lv_room (Nat.le_of_ble_eq_true rfl)) dL_law_699 ⟨Nat.le_of_ble_eq_true rfl, Nat.le_of_ble_eq_true rfl⟩) hK hP hD hS hA [0, 10] [1, 2, 3, 4, 5, 6, 7, 8, 9] rfl rfl rfl (by decide) (fun r_699 u_699 H locs hw_699 hP hD hK hS => ?_)
  generalize u_699 = fo2 at hP hD hK hw_699
  have hP : va_P D vwCl [(qc, .inl (cB, 1024, .inl (fun _ => 0))), (m0, .inr (12, fs)), (q1, .inl (a1, 66000, .inl f1)), (q2, .inl (a2, 66000, .inl f2)), (q4, .inl (a4, 24000, .inl f4)), (q5, .inl (a5, 24000, .inl f5)), (q6, .inl (a6, 24000, .inl f6)), (q7, .inl (a7, 4096, .inl f7)), (qm, .inl (aM, 65560, .inl fM)), (qo, .inl (aO, 1, .inr (.inl fo2)))] H := hP
  have hD : va_D A [(qc, .inl (cB, 1024, .inl (fun _ => 0))), (m0, .inr (12, fs)), (q1, .inl (a1, 66000, .inl f1)), (q2, .inl (a2, 66000, .inl f2)), (q4, .inl (a4, 24000, .inl f4)), (q5, .inl (a5, 24000, .inl f5)), (q6, .inl (a6, 24000, .inl f6)), (q7, .inl (a7, 4096, .inl f7)), (qm, .inl (aM, 65560, .inl fM)), (qo, .inl (aO, 1, .inr (.inl fo2)))] := hD
  have hK : va_K D vwCl [(cB, .byte), (a1, .char), (a2, .char), (a4, .int), (a5, .int), (a6, .int), (a7, .int), (aM, .byte), (aO, .long), (aO, .long)] s := hK
  refine W.widen (k := 44) (n := 899686) (by decide) (by decide) ?_
  rcases hw_699 with ⟨k1, k2, hr0, ho⟩ | ⟨kx, hr0⟩
  · skip
    subst hr0
    have hK := hK.sub (tys' := [(cB, .byte), (a1, .char), (a2, .char), (a4, .int), (a5, .int), (a6, .int), (a7, .int), (aM, .byte), (aO, .long)]) [0, 1, 2, 3, 4, 5, 6, 7, 8] rfl
    refine lv_istore (lv' := [(5, .int 0), (0, .ref b), (1, .ref h0), (2, .ref m0), (3, .ref qo), (4, .int 0)]) hx hb dL_law_702 hl (by decide) rfl (fun ls hl => ?_)
    refine lv_aload_n hx hb dL_law_704 rfl (lv_at hl 3 rfl) ?_
    refine lv_aload_n hx hb dL_law_705 rfl (lv_at hl 1 rfl) ?_
    refine lv_iload hx hb dL_law_706 (lv_at hl 5 rfl) ?_
    refine lv_iconst (v := 1) hx hb dL_law_708 (by decide) ?_
    refine lv_iadd hx hb dL_law_709 ?_
    refine va_sld hx hb hX hbl hbA hS (by unfold vp_in; decide) dL_law_710 ?_
    refine lv_aload_n hx hb dL_law_711 rfl (lv_at hl 1 rfl) ?_
    refine lv_iload hx hb dL_law_712 (lv_at hl 5 rfl) ?_
    refine lv_iconst (v := 2) hx hb dL_law_714 (by decide) ?_
    refine lv_iadd hx hb dL_law_715 ?_
    refine va_sld hx hb hX hbl hbA hS (by unfold vp_in; decide) dL_law_716 ?_
    refine lv_aload_n hx hb dL_law_717 rfl (lv_at hl 1 rfl) ?_
    refine lv_iload hx hb dL_law_718 (lv_at hl 5 rfl) ?_
    refine lv_iconst (v := 3) hx hb dL_law_720 (by decide) ?_
    refine lv_iadd hx hb dL_law_721 ?_
    refine va_sld hx hb hX hbl hbA hS (by unfold vp_in; decide) dL_law_722 ?_
    refine xb_goi (wr := [(qc, .inl (cB, 1024, .inl (fun _ => 0))), (q1, .inl (a1, 66000, .inl f1)), (q2, .inl (a2, 66000, .inl f2)), (q4, .inl (a4, 24000, .inl f4)), (q5, .inl (a5, 24000, .inl f5)), (q6, .inl (a6, 24000, .inl f6)), (q7, .inl (a7, 4096, .inl f7)), (qm, .inl (aM, 65560, .inl fM)), (qo, .inl (aO, 1, .inr (.inl fo2)))]) (va_runV (As := [.int (xs (Int32.toNatClampNeg (0 + 1))), .int (xs (Int32.toNatClampNeg (0 + 2))), .int (xs (Int32.toNatClampNeg (0 + 3)))]) (rest := []) ⟨hx, hb, hml, hown, htb⟩ (mm_row l D g m0 fs (xs (Int32.toNatClampNeg (0 + 1))) (xs (Int32.toNatClampNeg (0 + 2))) (xs (Int32.toNatClampNeg (0 + 3))) (Array.size H) (md_sub hm [9] rfl)) (bg_V 3 htb bg_421 bg_422 bg_423 bg_144 bg_234 rfl rfl (by decide +kernel) ⟨Nat.le_of_ble_eq_true rfl, Nat.le_of_ble_eq_true rfl⟩) ⟨xb_blind xe_ok, va_recv hK hP (ci := 12) (q0 := 1) rfl rfl, xb_enter xe_ok hK hP hD hS hA hE [1] rfl rfl rfl [] rfl⟩ rfl rfl hl.1 rfl (lv_room (Nat.le_of_ble_eq_true rfl)) dL_law_723 ⟨Nat.le_of_ble_eq_true rfl, Nat.le_of_ble_eq_true rfl⟩) hK hP hD hS hA [1] [0, 2, 3, 4, 5, 6, 7, 8, 9] rfl rfl rfl (by decide) (fun r_723 u_723 H locs hw_723 hP hD hK hS => ?_)
    generalize u_723 = fs at hP hD hK hw_723
    have hP : va_P D vwCl [(qc, .inl (cB, 1024, .inl (fun _ => 0))), (q1, .inl (a1, 66000, .inl f1)), (q2, .inl (a2, 66000, .inl f2)), (q4, .inl (a4, 24000, .inl f4)), (q5, .inl (a5, 24000, .inl f5)), (q6, .inl (a6, 24000, .inl f6)), (q7, .inl (a7, 4096, .inl f7)), (qm, .inl (aM, 65560, .inl fM)), (qo, .inl (aO, 1, .inr (.inl fo2))), (m0, .inr (12, fs))] H := hP
    have hD : va_D A [(qc, .inl (cB, 1024, .inl (fun _ => 0))), (q1, .inl (a1, 66000, .inl f1)), (q2, .inl (a2, 66000, .inl f2)), (q4, .inl (a4, 24000, .inl f4)), (q5, .inl (a5, 24000, .inl f5)), (q6, .inl (a6, 24000, .inl f6)), (q7, .inl (a7, 4096, .inl f7)), (qm, .inl (aM, 65560, .inl fM)), (qo, .inl (aO, 1, .inr (.inl fo2))), (m0, .inr (12, fs))] := hD
    have hK : va_K D vwCl [(cB, .byte), (a1, .char), (a2, .char), (a4, .int), (a5, .int), (a6, .int), (a7, .int), (aM, .byte), (aO, .long)] s := hK
    refine W.widen (k := 44) (n := 899686) (by decide) (by decide) ?_
    rcases hw_723 with ⟨_, _, hb0, hm⟩ | ⟨kz, _⟩
    · skip
      subst hb0
      have hm : md_has fs [(0, .int 0)] := hm
      refine lv_istore (lv' := [(6, .int (-1)), (5, .int 0), (0, .ref b), (1, .ref h0), (2, .ref m0), (3, .ref qo), (4, .int 0)]) hx hb dL_law_726 hl (by decide) rfl (fun ls hl => ?_)
      refine lv_aload_n hx hb dL_law_728 rfl (lv_at hl 4 rfl) ?_
      refine xb_goi (wr := [(qc, .inl (cB, 1024, .inl (fun _ => 0))), (q1, .inl (a1, 66000, .inl f1)), (q2, .inl (a2, 66000, .inl f2)), (q4, .inl (a4, 24000, .inl f4)), (q5, .inl (a5, 24000, .inl f5)), (q6, .inl (a6, 24000, .inl f6)), (q7, .inl (a7, 4096, .inl f7)), (qm, .inl (aM, 65560, .inl fM)), (qo, .inl (aO, 1, .inr (.inl fo2)))]) (va_runV (As := []) (rest := []) ⟨hx, hb, hml, hown, htb⟩ (mm_thrown l D g m0 fs 0 (Array.size H) (md_sub hm [0] rfl)) (bg_V 0 htb bg_360 bg_361 bg_362 bg_144 bg_87 rfl rfl (by decide +kernel) ⟨Nat.le_of_ble_eq_true rfl, Nat.le_of_ble_eq_true rfl⟩) ⟨xb_blind xe_ok, va_recv hK hP (ci := 12) (q0 := 9) rfl rfl, xb_enter xe_ok hK hP hD hS hA hE [9] rfl rfl rfl [] rfl⟩ rfl rfl hl.1 rfl (lv_room (Nat.le_of_ble_eq_true rfl)) dL_law_729 ⟨Nat.le_of_ble_eq_true rfl, Nat.le_of_ble_eq_true rfl⟩) hK hP hD hS hA [9] [0, 1, 2, 3, 4, 5, 6, 7, 8] rfl rfl rfl (by decide) (fun r_729 u_729 H locs hw_729 hP hD hK hS => ?_)
      have hP : va_P D vwCl [(qc, .inl (cB, 1024, .inl (fun _ => 0))), (q1, .inl (a1, 66000, .inl f1)), (q2, .inl (a2, 66000, .inl f2)), (q4, .inl (a4, 24000, .inl f4)), (q5, .inl (a5, 24000, .inl f5)), (q6, .inl (a6, 24000, .inl f6)), (q7, .inl (a7, 4096, .inl f7)), (qm, .inl (aM, 65560, .inl fM)), (qo, .inl (aO, 1, .inr (.inl fo2))), (m0, .inr (12, fs))] H := hP
      have hD : va_D A [(qc, .inl (cB, 1024, .inl (fun _ => 0))), (q1, .inl (a1, 66000, .inl f1)), (q2, .inl (a2, 66000, .inl f2)), (q4, .inl (a4, 24000, .inl f4)), (q5, .inl (a5, 24000, .inl f5)), (q6, .inl (a6, 24000, .inl f6)), (q7, .inl (a7, 4096, .inl f7)), (qm, .inl (aM, 65560, .inl fM)), (qo, .inl (aO, 1, .inr (.inl fo2))), (m0, .inr (12, fs))] := hD
      have hK : va_K D vwCl [(cB, .byte), (a1, .char), (a2, .char), (a4, .int), (a5, .int), (a6, .int), (a7, .int), (aM, .byte), (aO, .long)] s := hK
      refine W.widen (k := 44) (n := 899686) (by decide) (by decide) ?_
      have hw_729 : r_729 = 0 := hw_729
      subst hw_729
      refine lv_iload hx hb dL_law_732 (lv_at hl 1 rfl) ?_
      refine lv_icmp_eq (tgt := 739) hx hb dL_law_734 (by decide) (fun c_734 => ?_) (fun c_734 => ?_)
      rotate_left
      · exact absurd (by decide) c_734
      refine lv_iload hx hb dL_law_739 (lv_at hl 1 rfl) ?_
      refine lv_if_ne (tgt := 756) hx hb dL_law_741 (by decide) (fun c_741 => ?_) (fun c_741 => ?_)
      · exact absurd (by decide) c_741
      refine lv_aload_n hx hb dL_law_744 rfl (lv_at hl 5 rfl) ?_
      refine lv_iconst (v := 0) hx hb dL_law_745 (by decide) ?_
      refine va_lald hx hb hK hP 8 8 rfl rfl (by unfold vp_in; decide) dL_law_746 ?_
      refine lv_iload hx hb dL_law_747 (lv_at hl 0 rfl) ?_
      refine lv_i2l (v := Int32.toInt64 (-1)) hx hb dL_law_749 rfl ?_
      refine W.lcmp hx hb dL_law_750 ?_
      refine lv_if_eq (tgt := 756) hx hb dL_law_751 (by decide) (fun c_751 => ?_) (fun c_751 => ?_)
      rotate_left
      · exact absurd (by rw [show fo2 (Int32.toNatClampNeg 0) = Int32.toInt64 (-1) from ho]; exact lg_self _) c_751
      refine lv_goto (tgt := 978) hx hb dL_law_756 (by decide) ?_
      exact law_done hx hb hr hml hlocks hX hbl hAe hbA hS (by decide) (by decide) (lv_sub hl [6, 2] rfl)
    · skip
      exact (kz.elim (fun h => k1 h) (fun h => h k2)).elim
  · skip
    subst hr0
    have hK := hK.sub (tys' := [(cB, .byte), (a1, .char), (a2, .char), (a4, .int), (a5, .int), (a6, .int), (a7, .int), (aM, .byte), (aO, .long)]) [0, 1, 2, 3, 4, 5, 6, 7, 8] rfl
    refine lv_istore (lv' := [(5, .int 1), (0, .ref b), (1, .ref h0), (2, .ref m0), (3, .ref qo), (4, .int 0)]) hx hb dL_law_702 hl (by decide) rfl (fun ls hl => ?_)
    refine lv_aload_n hx hb dL_law_704 rfl (lv_at hl 3 rfl) ?_
    refine lv_aload_n hx hb dL_law_705 rfl (lv_at hl 1 rfl) ?_
    refine lv_iload hx hb dL_law_706 (lv_at hl 5 rfl) ?_
    refine lv_iconst (v := 1) hx hb dL_law_708 (by decide) ?_
    refine lv_iadd hx hb dL_law_709 ?_
    refine va_sld hx hb hX hbl hbA hS (by unfold vp_in; decide) dL_law_710 ?_
    refine lv_aload_n hx hb dL_law_711 rfl (lv_at hl 1 rfl) ?_
    refine lv_iload hx hb dL_law_712 (lv_at hl 5 rfl) ?_
    refine lv_iconst (v := 2) hx hb dL_law_714 (by decide) ?_
    refine lv_iadd hx hb dL_law_715 ?_
    refine va_sld hx hb hX hbl hbA hS (by unfold vp_in; decide) dL_law_716 ?_
    refine lv_aload_n hx hb dL_law_717 rfl (lv_at hl 1 rfl) ?_
    refine lv_iload hx hb dL_law_718 (lv_at hl 5 rfl) ?_
    refine lv_iconst (v := 3) hx hb dL_law_720 (by decide) ?_
    refine lv_iadd hx hb dL_law_721 ?_
    refine va_sld hx hb hX hbl hbA hS (by unfold vp_in; decide) dL_law_722 ?_
    refine xb_goi (wr := [(qc, .inl (cB, 1024, .inl (fun _ => 0))), (q1, .inl (a1, 66000, .inl f1)), (q2, .inl (a2, 66000, .inl f2)), (q4, .inl (a4, 24000, .inl f4)), (q5, .inl (a5, 24000, .inl f5)), (q6, .inl (a6, 24000, .inl f6)), (q7, .inl (a7, 4096, .inl f7)), (qm, .inl (aM, 65560, .inl fM)), (qo, .inl (aO, 1, .inr (.inl fo2)))]) (va_runV (As := [.int (xs (Int32.toNatClampNeg (0 + 1))), .int (xs (Int32.toNatClampNeg (0 + 2))), .int (xs (Int32.toNatClampNeg (0 + 3)))]) (rest := []) ⟨hx, hb, hml, hown, htb⟩ (mm_row l D g m0 fs (xs (Int32.toNatClampNeg (0 + 1))) (xs (Int32.toNatClampNeg (0 + 2))) (xs (Int32.toNatClampNeg (0 + 3))) (Array.size H) (md_sub hm [9] rfl)) (bg_V 3 htb bg_421 bg_422 bg_423 bg_144 bg_234 rfl rfl (by decide +kernel) ⟨Nat.le_of_ble_eq_true rfl, Nat.le_of_ble_eq_true rfl⟩) ⟨xb_blind xe_ok, va_recv hK hP (ci := 12) (q0 := 1) rfl rfl, xb_enter xe_ok hK hP hD hS hA hE [1] rfl rfl rfl [] rfl⟩ rfl rfl hl.1 rfl (lv_room (Nat.le_of_ble_eq_true rfl)) dL_law_723 ⟨Nat.le_of_ble_eq_true rfl, Nat.le_of_ble_eq_true rfl⟩) hK hP hD hS hA [1] [0, 2, 3, 4, 5, 6, 7, 8, 9] rfl rfl rfl (by decide) (fun r_723 u_723 H locs hw_723 hP hD hK hS => ?_)
    generalize u_723 = fs at hP hD hK hw_723
    have hP : va_P D vwCl [(qc, .inl (cB, 1024, .inl (fun _ => 0))), (q1, .inl (a1, 66000, .inl f1)), (q2, .inl (a2, 66000, .inl f2)), (q4, .inl (a4, 24000, .inl f4)), (q5, .inl (a5, 24000, .inl f5)), (q6, .inl (a6, 24000, .inl f6)), (q7, .inl (a7, 4096, .inl f7)), (qm, .inl (aM, 65560, .inl fM)), (qo, .inl (aO, 1, .inr (.inl fo2))), (m0, .inr (12, fs))] H := hP
    have hD : va_D A [(qc, .inl (cB, 1024, .inl (fun _ => 0))), (q1, .inl (a1, 66000, .inl f1)), (q2, .inl (a2, 66000, .inl f2)), (q4, .inl (a4, 24000, .inl f4)), (q5, .inl (a5, 24000, .inl f5)), (q6, .inl (a6, 24000, .inl f6)), (q7, .inl (a7, 4096, .inl f7)), (qm, .inl (aM, 65560, .inl fM)), (qo, .inl (aO, 1, .inr (.inl fo2))), (m0, .inr (12, fs))] := hD
    have hK : va_K D vwCl [(cB, .byte), (a1, .char), (a2, .char), (a4, .int), (a5, .int), (a6, .int), (a7, .int), (aM, .byte), (aO, .long)] s := hK
    refine W.widen (k := 44) (n := 899686) (by decide) (by decide) ?_
    rcases hw_723 with ⟨j1, j2, _, _⟩ | ⟨_, hm⟩
    · skip
      exact (kx.elim (fun h => j1 h) (fun h => h j2)).elim
    · skip
      have hm : md_has fs [(0, .int 1)] := hm
      refine lv_istore (lv' := [(6, .int r_723), (5, .int 1), (0, .ref b), (1, .ref h0), (2, .ref m0), (3, .ref qo), (4, .int 0)]) hx hb dL_law_726 hl (by decide) rfl (fun ls hl => ?_)
      refine lv_aload_n hx hb dL_law_728 rfl (lv_at hl 4 rfl) ?_
      refine xb_goi (wr := [(qc, .inl (cB, 1024, .inl (fun _ => 0))), (q1, .inl (a1, 66000, .inl f1)), (q2, .inl (a2, 66000, .inl f2)), (q4, .inl (a4, 24000, .inl f4)), (q5, .inl (a5, 24000, .inl f5)), (q6, .inl (a6, 24000, .inl f6)), (q7, .inl (a7, 4096, .inl f7)), (qm, .inl (aM, 65560, .inl fM)), (qo, .inl (aO, 1, .inr (.inl fo2)))]) (va_runV (As := []) (rest := []) ⟨hx, hb, hml, hown, htb⟩ (mm_thrown l D g m0 fs 1 (Array.size H) (md_sub hm [0] rfl)) (bg_V 0 htb bg_360 bg_361 bg_362 bg_144 bg_87 rfl rfl (by decide +kernel) ⟨Nat.le_of_ble_eq_true rfl, Nat.le_of_ble_eq_true rfl⟩) ⟨xb_blind xe_ok, va_recv hK hP (ci := 12) (q0 := 9) rfl rfl, xb_enter xe_ok hK hP hD hS hA hE [9] rfl rfl rfl [] rfl⟩ rfl rfl hl.1 rfl (lv_room (Nat.le_of_ble_eq_true rfl)) dL_law_729 ⟨Nat.le_of_ble_eq_true rfl, Nat.le_of_ble_eq_true rfl⟩) hK hP hD hS hA [9] [0, 1, 2, 3, 4, 5, 6, 7, 8] rfl rfl rfl (by decide) (fun r_729 u_729 H locs hw_729 hP hD hK hS => ?_)
      have hP : va_P D vwCl [(qc, .inl (cB, 1024, .inl (fun _ => 0))), (q1, .inl (a1, 66000, .inl f1)), (q2, .inl (a2, 66000, .inl f2)), (q4, .inl (a4, 24000, .inl f4)), (q5, .inl (a5, 24000, .inl f5)), (q6, .inl (a6, 24000, .inl f6)), (q7, .inl (a7, 4096, .inl f7)), (qm, .inl (aM, 65560, .inl fM)), (qo, .inl (aO, 1, .inr (.inl fo2))), (m0, .inr (12, fs))] H := hP
      have hD : va_D A [(qc, .inl (cB, 1024, .inl (fun _ => 0))), (q1, .inl (a1, 66000, .inl f1)), (q2, .inl (a2, 66000, .inl f2)), (q4, .inl (a4, 24000, .inl f4)), (q5, .inl (a5, 24000, .inl f5)), (q6, .inl (a6, 24000, .inl f6)), (q7, .inl (a7, 4096, .inl f7)), (qm, .inl (aM, 65560, .inl fM)), (qo, .inl (aO, 1, .inr (.inl fo2))), (m0, .inr (12, fs))] := hD
      have hK : va_K D vwCl [(cB, .byte), (a1, .char), (a2, .char), (a4, .int), (a5, .int), (a6, .int), (a7, .int), (aM, .byte), (aO, .long)] s := hK
      refine W.widen (k := 44) (n := 899686) (by decide) (by decide) ?_
      have hw_729 : r_729 = 1 := hw_729
      subst hw_729
      refine lv_iload hx hb dL_law_732 (lv_at hl 1 rfl) ?_
      refine lv_icmp_eq (tgt := 739) hx hb dL_law_734 (by decide) (fun c_734 => ?_) (fun c_734 => ?_)
      rotate_left
      · exact absurd (by decide) c_734
      refine lv_iload hx hb dL_law_739 (lv_at hl 1 rfl) ?_
      refine lv_if_ne (tgt := 756) hx hb dL_law_741 (by decide) (fun c_741 => ?_) (fun c_741 => ?_)
      rotate_left
      · exact absurd c_741 (by decide)
      refine lv_goto (tgt := 978) hx hb dL_law_756 (by decide) ?_
      exact law_done hx hb hr hml hlocks hX hbl hAe hbA hS (by decide) (by decide) (lv_sub hl [6, 2] rfl)
theorem dL_law_821 : decode cL_law 821 = .ok (.aload_n 1, 1) := by decide +kernel
theorem dL_law_822 : decode cL_law 822 = .ok (.aload_n 0, 1) := by decide +kernel
theorem dL_law_823 : decode cL_law 823 = .ok (.iload 4, 2) := by decide +kernel
theorem dL_law_825 : decode cL_law 825 = .ok (.iconst 1, 1) := by decide +kernel
theorem dL_law_826 : decode cL_law 826 = .ok (.iadd, 1) := by decide +kernel
theorem dL_law_827 : decode cL_law 827 = .ok (.iaload, 1) := by decide +kernel
theorem dL_law_828 : decode cL_law 828 = .ok (.aload_n 0, 1) := by decide +kernel
theorem dL_law_829 : decode cL_law 829 = .ok (.iload 4, 2) := by decide +kernel
theorem dL_law_831 : decode cL_law 831 = .ok (.iconst 2, 1) := by decide +kernel
theorem dL_law_832 : decode cL_law 832 = .ok (.iadd, 1) := by decide +kernel
theorem dL_law_833 : decode cL_law 833 = .ok (.iaload, 1) := by decide +kernel
theorem dL_law_834 : decode cL_law 834 = .ok (.aload_n 0, 1) := by decide +kernel
theorem dL_law_835 : decode cL_law 835 = .ok (.iload 4, 2) := by decide +kernel
theorem dL_law_837 : decode cL_law 837 = .ok (.iconst 3, 1) := by decide +kernel
theorem dL_law_838 : decode cL_law 838 = .ok (.iadd, 1) := by decide +kernel
theorem dL_law_839 : decode cL_law 839 = .ok (.iaload, 1) := by decide +kernel
theorem dL_law_840 : decode cL_law 840 = .ok (.aload_n 3, 1) := by decide +kernel
theorem dL_law_841 : decode cL_law 841 = .ok (.invokestatic 105, 3) := by decide +kernel
theorem dL_law_844 : decode cL_law 844 = .ok (.istore 5, 2) := by decide +kernel
theorem dL_law_846 : decode cL_law 846 = .ok (.aload_n 2, 1) := by decide +kernel
theorem dL_law_847 : decode cL_law 847 = .ok (.aload_n 0, 1) := by decide +kernel
theorem dL_law_848 : decode cL_law 848 = .ok (.iload 4, 2) := by decide +kernel
theorem dL_law_850 : decode cL_law 850 = .ok (.iconst 1, 1) := by decide +kernel
theorem dL_law_851 : decode cL_law 851 = .ok (.iadd, 1) := by decide +kernel
theorem dL_law_852 : decode cL_law 852 = .ok (.iaload, 1) := by decide +kernel
theorem dL_law_853 : decode cL_law 853 = .ok (.aload_n 0, 1) := by decide +kernel
theorem dL_law_854 : decode cL_law 854 = .ok (.iload 4, 2) := by decide +kernel
theorem dL_law_856 : decode cL_law 856 = .ok (.iconst 2, 1) := by decide +kernel
theorem dL_law_857 : decode cL_law 857 = .ok (.iadd, 1) := by decide +kernel
theorem dL_law_858 : decode cL_law 858 = .ok (.iaload, 1) := by decide +kernel
theorem dL_law_859 : decode cL_law 859 = .ok (.aload_n 0, 1) := by decide +kernel
theorem dL_law_860 : decode cL_law 860 = .ok (.iload 4, 2) := by decide +kernel
theorem dL_law_862 : decode cL_law 862 = .ok (.iconst 3, 1) := by decide +kernel
theorem dL_law_863 : decode cL_law 863 = .ok (.iadd, 1) := by decide +kernel
theorem dL_law_864 : decode cL_law 864 = .ok (.iaload, 1) := by decide +kernel
theorem dL_law_865 : decode cL_law 865 = .ok (.invokevirtual 107, 3) := by decide +kernel
theorem dL_law_868 : decode cL_law 868 = .ok (.istore 6, 2) := by decide +kernel
theorem dL_law_870 : decode cL_law 870 = .ok (.aload_n 2, 1) := by decide +kernel
theorem dL_law_871 : decode cL_law 871 = .ok (.invokevirtual 49, 3) := by decide +kernel
theorem dL_law_874 : decode cL_law 874 = .ok (.iload 5, 2) := by decide +kernel
theorem dL_law_876 : decode cL_law 876 = .ok (.if_icmp .eq 5, 3) := by decide +kernel
theorem dL_law_881 : decode cL_law 881 = .ok (.iload 5, 2) := by decide +kernel
theorem dL_law_883 : decode cL_law 883 = .ok (.ifCond .ne 15, 3) := by decide +kernel
theorem dL_law_886 : decode cL_law 886 = .ok (.aload_n 3, 1) := by decide +kernel
theorem dL_law_887 : decode cL_law 887 = .ok (.iconst 0, 1) := by decide +kernel
theorem dL_law_888 : decode cL_law 888 = .ok (.laload, 1) := by decide +kernel
theorem dL_law_889 : decode cL_law 889 = .ok (.iload 6, 2) := by decide +kernel
theorem dL_law_891 : decode cL_law 891 = .ok (.i2l, 1) := by decide +kernel
theorem dL_law_892 : decode cL_law 892 = .ok (.lcmp, 1) := by decide +kernel
theorem dL_law_893 : decode cL_law 893 = .ok (.ifCond .eq 5, 3) := by decide +kernel
theorem dL_law_898 : decode cL_law 898 = .ok (.goto 80, 3) := by decide +kernel
set_option maxHeartbeats 8000000 in
set_option maxRecDepth 100000 in
theorem law_14 {p : Program} {l : Launch} {e : Env} {s : State} {m : MethodId} {below : List Frame} {meth : Method} {c : Code} {H : Heap} {locs : List Loc} {A : Nat → Prop} {b : Nat} {xs : Nat → Int32} {ls : Array Slot} {D : va_G} {g : xe_G} {h0 : Nat} {qc : Nat} {cB : ClassId} {m0 : Nat} {fs : List Value} {q1 : Nat} {q2 : Nat} {q4 : Nat} {q5 : Nat} {q6 : Nat} {q7 : Nat} {a1 : ClassId} {a2 : ClassId} {a4 : ClassId} {a5 : ClassId} {a6 : ClassId} {a7 : ClassId} {f1 : Nat → Int32} {f2 : Nat → Int32} {f4 : Nat → Int32} {f5 : Nat → Int32} {f6 : Nat → Int32} {f7 : Nat → Int32} {qf : Nat} {qm : Nat} {aM : ClassId} {fM : Nat → Int32} {qo : Nat} {aO : ClassId} (hx : p.tables.exec = Jvm.exec) (hb : c.code = cL_law) (hr : meth.sig.returnType = ret) (hml : c.maxLocals = 7) (hlocks : meth.locks = false) (hown : s.vm.findClass RL = some m.cls) (htb : ∀ w ∈ bg, w.before #[Value.ref b] s = true) (hX : va_X b 6 xs s s.heap) (hbl : b < s.heap.size) (hAe : A = fun q : Nat => s.heap.size ≤ q) (hbA : ¬ A b) (hA : ∀ q : Nat, s.heap.size ≤ q → A q) (hE : xe_E g A s s.heap) (hnt : l.stackTraces = false) (hm : md_has fs [(1, .ref q1), (2, .ref q2), (4, .ref q4), (5, .ref q5), (6, .ref q6), (7, .ref q7), (13, .ref qf), (15, .ref qm), (17, .int 0), (18, .int (-1)), (19, .int 0), (73, .int (-1))]) (hK : va_K D vwCl [(cB, .byte), (a1, .char), (a2, .char), (a4, .int), (a5, .int), (a6, .int), (a7, .int), (aM, .byte), (aO, .long)] s) (hP : va_P D vwCl [(h0, .inr (11, [.ref qc, .int 0, .ref g.1, .null, .int (-1)])), (qc, .inl (cB, 1024, .inl (fun _ => 0))), (m0, .inr (12, fs)), (q1, .inl (a1, 66000, .inl f1)), (q2, .inl (a2, 66000, .inl f2)), (q4, .inl (a4, 24000, .inl f4)), (q5, .inl (a5, 24000, .inl f5)), (q6, .inl (a6, 24000, .inl f6)), (q7, .inl (a7, 4096, .inl f7)), (qm, .inl (aM, 65560, .inl fM)), (qo, .inl (aO, 1, .inr (.inl (fun _ => 0))))] H) (hD : va_D A [(h0, .inr (11, [.ref qc, .int 0, .ref g.1, .null, .int (-1)])), (qc, .inl (cB, 1024, .inl (fun _ => 0))), (m0, .inr (12, fs)), (q1, .inl (a1, 66000, .inl f1)), (q2, .inl (a2, 66000, .inl f2)), (q4, .inl (a4, 24000, .inl f4)), (q5, .inl (a5, 24000, .inl f5)), (q6, .inl (a6, 24000, .inl f6)), (q7, .inl (a7, 4096, .inl f7)), (qm, .inl (aM, 65560, .inl fM)), (qo, .inl (aO, 1, .inr (.inl (fun _ => 0))))]) (hS : va_S A s.heap H locs) (hl : lv_has ls 7 [(0, .ref b), (1, .ref h0), (2, .ref m0), (3, .ref qo), (4, .int 0)]) : W p l e room_1 s m #[Value.ref b] below meth c H locs 43 899680 (lw_Z below #[Value.ref b] s) (F0 m 821 ls []) := by
  refine lv_aload_n hx hb dL_law_821 rfl (lv_at hl 1 rfl) ?_
  refine lv_aload_n hx hb dL_law_822 rfl (lv_at hl 0 rfl) ?_
  refine lv_iload hx hb dL_law_823 (lv_at hl 4 rfl) ?_
  refine lv_iconst (v := 1) hx hb dL_law_825 (by decide) ?_
  refine lv_iadd hx hb dL_law_826 ?_
  refine va_sld hx hb hX hbl hbA hS (by unfold vp_in; decide) dL_law_827 ?_
  refine lv_aload_n hx hb dL_law_828 rfl (lv_at hl 0 rfl) ?_
  refine lv_iload hx hb dL_law_829 (lv_at hl 4 rfl) ?_
  refine lv_iconst (v := 2) hx hb dL_law_831 (by decide) ?_
  refine lv_iadd hx hb dL_law_832 ?_
  refine va_sld hx hb hX hbl hbA hS (by unfold vp_in; decide) dL_law_833 ?_
  refine lv_aload_n hx hb dL_law_834 rfl (lv_at hl 0 rfl) ?_
  refine lv_iload hx hb dL_law_835 (lv_at hl 4 rfl) ?_
  refine lv_iconst (v := 3) hx hb dL_law_837 (by decide) ?_
  refine lv_iadd hx hb dL_law_838 ?_
  refine va_sld hx hb hX hbl hbA hS (by unfold vp_in; decide) dL_law_839 ?_
  refine lv_aload_n hx hb dL_law_840 rfl (lv_at hl 3 rfl) ?_
  refine xb_goi (wr := [(qc, .inl (cB, 1024, .inl (fun _ => 0))), (m0, .inr (12, fs)), (q1, .inl (a1, 66000, .inl f1)), (q2, .inl (a2, 66000, .inl f2)), (q4, .inl (a4, 24000, .inl f4)), (q5, .inl (a5, 24000, .inl f5)), (q6, .inl (a6, 24000, .inl f6)), (q7, .inl (a7, 4096, .inl f7)), (qm, .inl (aM, 65560, .inl fM))]) (vx_runSW (As := [.ref h0, .int (xs (Int32.toNatClampNeg (0 + 1))), .int (xs (Int32.toNatClampNeg (0 + 2))), .int (xs (Int32.toNatClampNeg (0 + 3))), .ref qo]) (rest := []) ⟨hx, hb, hml, hown, htb⟩ (lh_instruction l D g h0 qc 0 g.1 (-1) qo aO (fun _ => 0) (xs (Int32.toNatClampNeg (0 + 1))) (xs (Int32.toNatClampNeg (0 + 2))) (xs (Int32.toNatClampNeg (0 + 3))) (Array.size H) (hnt)) (bg_SW 5 htb bg_436 bg_437 bg_356 bg_341 rfl rfl (by decide +kernel) ⟨Nat.le_of_ble_eq_true rfl, Nat.le_of_ble_eq_true rfl⟩) ⟨xb_blind xe_ok, xb_enter xe_ok hK hP hD hS hA hE [0, 10] rfl rfl rfl [8] rfl⟩ rfl rfl hl.1 rfl (lv_room (Nat.le_of_ble_eq_true rfl)) dL_law_841 ⟨Nat.le_of_ble_eq_true rfl, Nat.le_of_ble_eq_true rfl⟩) hK hP hD hS hA [0, 10] [1, 2, 3, 4, 5, 6, 7, 8, 9] rfl rfl rfl (by decide) (fun r_841 u_841 H locs hw_841 hP hD hK hS => ?_)
  generalize u_841 = fo2 at hP hD hK hw_841
  have hP : va_P D vwCl [(qc, .inl (cB, 1024, .inl (fun _ => 0))), (m0, .inr (12, fs)), (q1, .inl (a1, 66000, .inl f1)), (q2, .inl (a2, 66000, .inl f2)), (q4, .inl (a4, 24000, .inl f4)), (q5, .inl (a5, 24000, .inl f5)), (q6, .inl (a6, 24000, .inl f6)), (q7, .inl (a7, 4096, .inl f7)), (qm, .inl (aM, 65560, .inl fM)), (qo, .inl (aO, 1, .inr (.inl fo2)))] H := hP
  have hD : va_D A [(qc, .inl (cB, 1024, .inl (fun _ => 0))), (m0, .inr (12, fs)), (q1, .inl (a1, 66000, .inl f1)), (q2, .inl (a2, 66000, .inl f2)), (q4, .inl (a4, 24000, .inl f4)), (q5, .inl (a5, 24000, .inl f5)), (q6, .inl (a6, 24000, .inl f6)), (q7, .inl (a7, 4096, .inl f7)), (qm, .inl (aM, 65560, .inl fM)), (qo, .inl (aO, 1, .inr (.inl fo2)))] := hD
  have hK : va_K D vwCl [(cB, .byte), (a1, .char), (a2, .char), (a4, .int), (a5, .int), (a6, .int), (a7, .int), (aM, .byte), (aO, .long), (aO, .long)] s := hK
  refine W.widen (k := 44) (n := 899686) (by decide) (by decide) ?_
  rcases hw_841 with ⟨k1, k2, hr0, ho⟩ | ⟨kx, hr0⟩
  · skip
    subst hr0
    have hK := hK.sub (tys' := [(cB, .byte), (a1, .char), (a2, .char), (a4, .int), (a5, .int), (a6, .int), (a7, .int), (aM, .byte), (aO, .long)]) [0, 1, 2, 3, 4, 5, 6, 7, 8] rfl
    refine lv_istore (lv' := [(5, .int 0), (0, .ref b), (1, .ref h0), (2, .ref m0), (3, .ref qo), (4, .int 0)]) hx hb dL_law_844 hl (by decide) rfl (fun ls hl => ?_)
    refine lv_aload_n hx hb dL_law_846 rfl (lv_at hl 3 rfl) ?_
    refine lv_aload_n hx hb dL_law_847 rfl (lv_at hl 1 rfl) ?_
    refine lv_iload hx hb dL_law_848 (lv_at hl 5 rfl) ?_
    refine lv_iconst (v := 1) hx hb dL_law_850 (by decide) ?_
    refine lv_iadd hx hb dL_law_851 ?_
    refine va_sld hx hb hX hbl hbA hS (by unfold vp_in; decide) dL_law_852 ?_
    refine lv_aload_n hx hb dL_law_853 rfl (lv_at hl 1 rfl) ?_
    refine lv_iload hx hb dL_law_854 (lv_at hl 5 rfl) ?_
    refine lv_iconst (v := 2) hx hb dL_law_856 (by decide) ?_
    refine lv_iadd hx hb dL_law_857 ?_
    refine va_sld hx hb hX hbl hbA hS (by unfold vp_in; decide) dL_law_858 ?_
    refine lv_aload_n hx hb dL_law_859 rfl (lv_at hl 1 rfl) ?_
    refine lv_iload hx hb dL_law_860 (lv_at hl 5 rfl) ?_
    refine lv_iconst (v := 3) hx hb dL_law_862 (by decide) ?_
    refine lv_iadd hx hb dL_law_863 ?_
    refine va_sld hx hb hX hbl hbA hS (by unfold vp_in; decide) dL_law_864 ?_
    refine xb_goi (wr := [(qc, .inl (cB, 1024, .inl (fun _ => 0))), (q1, .inl (a1, 66000, .inl f1)), (q2, .inl (a2, 66000, .inl f2)), (q4, .inl (a4, 24000, .inl f4)), (q5, .inl (a5, 24000, .inl f5)), (q6, .inl (a6, 24000, .inl f6)), (q7, .inl (a7, 4096, .inl f7)), (qm, .inl (aM, 65560, .inl fM)), (qo, .inl (aO, 1, .inr (.inl fo2)))]) (va_runV (As := [.int (xs (Int32.toNatClampNeg (0 + 1))), .int (xs (Int32.toNatClampNeg (0 + 2))), .int (xs (Int32.toNatClampNeg (0 + 3)))]) (rest := []) ⟨hx, hb, hml, hown, htb⟩ (mm_instruction l D g m0 fs (xs (Int32.toNatClampNeg (0 + 1))) (xs (Int32.toNatClampNeg (0 + 2))) (xs (Int32.toNatClampNeg (0 + 3))) (Array.size H) (md_sub hm [9] rfl)) (bg_V 3 htb bg_438 bg_439 bg_440 bg_144 bg_244 rfl rfl (by decide +kernel) ⟨Nat.le_of_ble_eq_true rfl, Nat.le_of_ble_eq_true rfl⟩) ⟨xb_blind xe_ok, va_recv hK hP (ci := 12) (q0 := 1) rfl rfl, xb_enter xe_ok hK hP hD hS hA hE [1] rfl rfl rfl [] rfl⟩ rfl rfl hl.1 rfl (lv_room (Nat.le_of_ble_eq_true rfl)) dL_law_865 ⟨Nat.le_of_ble_eq_true rfl, Nat.le_of_ble_eq_true rfl⟩) hK hP hD hS hA [1] [0, 2, 3, 4, 5, 6, 7, 8, 9] rfl rfl rfl (by decide) (fun r_865 u_865 H locs hw_865 hP hD hK hS => ?_)
    generalize u_865 = fs at hP hD hK hw_865
    have hP : va_P D vwCl [(qc, .inl (cB, 1024, .inl (fun _ => 0))), (q1, .inl (a1, 66000, .inl f1)), (q2, .inl (a2, 66000, .inl f2)), (q4, .inl (a4, 24000, .inl f4)), (q5, .inl (a5, 24000, .inl f5)), (q6, .inl (a6, 24000, .inl f6)), (q7, .inl (a7, 4096, .inl f7)), (qm, .inl (aM, 65560, .inl fM)), (qo, .inl (aO, 1, .inr (.inl fo2))), (m0, .inr (12, fs))] H := hP
    have hD : va_D A [(qc, .inl (cB, 1024, .inl (fun _ => 0))), (q1, .inl (a1, 66000, .inl f1)), (q2, .inl (a2, 66000, .inl f2)), (q4, .inl (a4, 24000, .inl f4)), (q5, .inl (a5, 24000, .inl f5)), (q6, .inl (a6, 24000, .inl f6)), (q7, .inl (a7, 4096, .inl f7)), (qm, .inl (aM, 65560, .inl fM)), (qo, .inl (aO, 1, .inr (.inl fo2))), (m0, .inr (12, fs))] := hD
    have hK : va_K D vwCl [(cB, .byte), (a1, .char), (a2, .char), (a4, .int), (a5, .int), (a6, .int), (a7, .int), (aM, .byte), (aO, .long)] s := hK
    refine W.widen (k := 44) (n := 899686) (by decide) (by decide) ?_
    rcases hw_865 with ⟨_, _, hb0, hm⟩ | ⟨kz, _⟩
    · skip
      subst hb0
      have hm : md_has fs [(0, .int 0)] := hm
      refine lv_istore (lv' := [(6, .int (-1)), (5, .int 0), (0, .ref b), (1, .ref h0), (2, .ref m0), (3, .ref qo), (4, .int 0)]) hx hb dL_law_868 hl (by decide) rfl (fun ls hl => ?_)
      refine lv_aload_n hx hb dL_law_870 rfl (lv_at hl 4 rfl) ?_
      refine xb_goi (wr := [(qc, .inl (cB, 1024, .inl (fun _ => 0))), (q1, .inl (a1, 66000, .inl f1)), (q2, .inl (a2, 66000, .inl f2)), (q4, .inl (a4, 24000, .inl f4)), (q5, .inl (a5, 24000, .inl f5)), (q6, .inl (a6, 24000, .inl f6)), (q7, .inl (a7, 4096, .inl f7)), (qm, .inl (aM, 65560, .inl fM)), (qo, .inl (aO, 1, .inr (.inl fo2)))]) (va_runV (As := []) (rest := []) ⟨hx, hb, hml, hown, htb⟩ (mm_thrown l D g m0 fs 0 (Array.size H) (md_sub hm [0] rfl)) (bg_V 0 htb bg_360 bg_361 bg_362 bg_144 bg_87 rfl rfl (by decide +kernel) ⟨Nat.le_of_ble_eq_true rfl, Nat.le_of_ble_eq_true rfl⟩) ⟨xb_blind xe_ok, va_recv hK hP (ci := 12) (q0 := 9) rfl rfl, xb_enter xe_ok hK hP hD hS hA hE [9] rfl rfl rfl [] rfl⟩ rfl rfl hl.1 rfl (lv_room (Nat.le_of_ble_eq_true rfl)) dL_law_871 ⟨Nat.le_of_ble_eq_true rfl, Nat.le_of_ble_eq_true rfl⟩) hK hP hD hS hA [9] [0, 1, 2, 3, 4, 5, 6, 7, 8] rfl rfl rfl (by decide) (fun r_871 u_871 H locs hw_871 hP hD hK hS => ?_)
      have hP : va_P D vwCl [(qc, .inl (cB, 1024, .inl (fun _ => 0))), (q1, .inl (a1, 66000, .inl f1)), (q2, .inl (a2, 66000, .inl f2)), (q4, .inl (a4, 24000, .inl f4)), (q5, .inl (a5, 24000, .inl f5)), (q6, .inl (a6, 24000, .inl f6)), (q7, .inl (a7, 4096, .inl f7)), (qm, .inl (aM, 65560, .inl fM)), (qo, .inl (aO, 1, .inr (.inl fo2))), (m0, .inr (12, fs))] H := hP
      have hD : va_D A [(qc, .inl (cB, 1024, .inl (fun _ => 0))), (q1, .inl (a1, 66000, .inl f1)), (q2, .inl (a2, 66000, .inl f2)), (q4, .inl (a4, 24000, .inl f4)), (q5, .inl (a5, 24000, .inl f5)), (q6, .inl (a6, 24000, .inl f6)), (q7, .inl (a7, 4096, .inl f7)), (qm, .inl (aM, 65560, .inl fM)), (qo, .inl (aO, 1, .inr (.inl fo2))), (m0, .inr (12, fs))] := hD
      have hK : va_K D vwCl [(cB, .byte), (a1, .char), (a2, .char), (a4, .int), (a5, .int), (a6, .int), (a7, .int), (aM, .byte), (aO, .long)] s := hK
      refine W.widen (k := 44) (n := 899686) (by decide) (by decide) ?_
      have hw_871 : r_871 = 0 := hw_871
      subst hw_871
      refine lv_iload hx hb dL_law_874 (lv_at hl 1 rfl) ?_
      refine lv_icmp_eq (tgt := 881) hx hb dL_law_876 (by decide) (fun c_876 => ?_) (fun c_876 => ?_)
      rotate_left
      · exact absurd (by decide) c_876
      refine lv_iload hx hb dL_law_881 (lv_at hl 1 rfl) ?_
      refine lv_if_ne (tgt := 898) hx hb dL_law_883 (by decide) (fun c_883 => ?_) (fun c_883 => ?_)
      · exact absurd (by decide) c_883
      refine lv_aload_n hx hb dL_law_886 rfl (lv_at hl 5 rfl) ?_
      refine lv_iconst (v := 0) hx hb dL_law_887 (by decide) ?_
      refine va_lald hx hb hK hP 8 8 rfl rfl (by unfold vp_in; decide) dL_law_888 ?_
      refine lv_iload hx hb dL_law_889 (lv_at hl 0 rfl) ?_
      refine lv_i2l (v := Int32.toInt64 (-1)) hx hb dL_law_891 rfl ?_
      refine W.lcmp hx hb dL_law_892 ?_
      refine lv_if_eq (tgt := 898) hx hb dL_law_893 (by decide) (fun c_893 => ?_) (fun c_893 => ?_)
      rotate_left
      · exact absurd (by rw [show fo2 (Int32.toNatClampNeg 0) = Int32.toInt64 (-1) from ho]; exact lg_self _) c_893
      refine lv_goto (tgt := 978) hx hb dL_law_898 (by decide) ?_
      exact law_done hx hb hr hml hlocks hX hbl hAe hbA hS (by decide) (by decide) (lv_sub hl [6, 2] rfl)
    · skip
      exact (kz.elim (fun h => k1 h) (fun h => h k2)).elim
  · skip
    subst hr0
    have hK := hK.sub (tys' := [(cB, .byte), (a1, .char), (a2, .char), (a4, .int), (a5, .int), (a6, .int), (a7, .int), (aM, .byte), (aO, .long)]) [0, 1, 2, 3, 4, 5, 6, 7, 8] rfl
    refine lv_istore (lv' := [(5, .int 1), (0, .ref b), (1, .ref h0), (2, .ref m0), (3, .ref qo), (4, .int 0)]) hx hb dL_law_844 hl (by decide) rfl (fun ls hl => ?_)
    refine lv_aload_n hx hb dL_law_846 rfl (lv_at hl 3 rfl) ?_
    refine lv_aload_n hx hb dL_law_847 rfl (lv_at hl 1 rfl) ?_
    refine lv_iload hx hb dL_law_848 (lv_at hl 5 rfl) ?_
    refine lv_iconst (v := 1) hx hb dL_law_850 (by decide) ?_
    refine lv_iadd hx hb dL_law_851 ?_
    refine va_sld hx hb hX hbl hbA hS (by unfold vp_in; decide) dL_law_852 ?_
    refine lv_aload_n hx hb dL_law_853 rfl (lv_at hl 1 rfl) ?_
    refine lv_iload hx hb dL_law_854 (lv_at hl 5 rfl) ?_
    refine lv_iconst (v := 2) hx hb dL_law_856 (by decide) ?_
    refine lv_iadd hx hb dL_law_857 ?_
    refine va_sld hx hb hX hbl hbA hS (by unfold vp_in; decide) dL_law_858 ?_
    refine lv_aload_n hx hb dL_law_859 rfl (lv_at hl 1 rfl) ?_
    refine lv_iload hx hb dL_law_860 (lv_at hl 5 rfl) ?_
    refine lv_iconst (v := 3) hx hb dL_law_862 (by decide) ?_
    refine lv_iadd hx hb dL_law_863 ?_
    refine va_sld hx hb hX hbl hbA hS (by unfold vp_in; decide) dL_law_864 ?_
    refine xb_goi (wr := [(qc, .inl (cB, 1024, .inl (fun _ => 0))), (q1, .inl (a1, 66000, .inl f1)), (q2, .inl (a2, 66000, .inl f2)), (q4, .inl (a4, 24000, .inl f4)), (q5, .inl (a5, 24000, .inl f5)), (q6, .inl (a6, 24000, .inl f6)), (q7, .inl (a7, 4096, .inl f7)), (qm, .inl (aM, 65560, .inl fM)), (qo, .inl (aO, 1, .inr (.inl fo2)))]) (va_runV (As := [.int (xs (Int32.toNatClampNeg (0 + 1))), .int (xs (Int32.toNatClampNeg (0 + 2))), .int (xs (Int32.toNatClampNeg (0 + 3)))]) (rest := []) ⟨hx, hb, hml, hown, htb⟩ (mm_instruction l D g m0 fs (xs (Int32.toNatClampNeg (0 + 1))) (xs (Int32.toNatClampNeg (0 + 2))) (xs (Int32.toNatClampNeg (0 + 3))) (Array.size H) (md_sub hm [9] rfl)) (bg_V 3 htb bg_438 bg_439 bg_440 bg_144 bg_244 rfl rfl (by decide +kernel) ⟨Nat.le_of_ble_eq_true rfl, Nat.le_of_ble_eq_true rfl⟩) ⟨xb_blind xe_ok, va_recv hK hP (ci := 12) (q0 := 1) rfl rfl, xb_enter xe_ok hK hP hD hS hA hE [1] rfl rfl rfl [] rfl⟩ rfl rfl hl.1 rfl (lv_room (Nat.le_of_ble_eq_true rfl)) dL_law_865 ⟨Nat.le_of_ble_eq_true rfl, Nat.le_of_ble_eq_true rfl⟩) hK hP hD hS hA [1] [0, 2, 3, 4, 5, 6, 7, 8, 9] rfl rfl rfl (by decide) (fun r_865 u_865 H locs hw_865 hP hD hK hS => ?_)
    generalize u_865 = fs at hP hD hK hw_865
    have hP : va_P D vwCl [(qc, .inl (cB, 1024, .inl (fun _ => 0))), (q1, .inl (a1, 66000, .inl f1)), (q2, .inl (a2, 66000, .inl f2)), (q4, .inl (a4, 24000, .inl f4)), (q5, .inl (a5, 24000, .inl f5)), (q6, .inl (a6, 24000, .inl f6)), (q7, .inl (a7, 4096, .inl f7)), (qm, .inl (aM, 65560, .inl fM)), (qo, .inl (aO, 1, .inr (.inl fo2))), (m0, .inr (12, fs))] H := hP
    have hD : va_D A [(qc, .inl (cB, 1024, .inl (fun _ => 0))), (q1, .inl (a1, 66000, .inl f1)), (q2, .inl (a2, 66000, .inl f2)), (q4, .inl (a4, 24000, .inl f4)), (q5, .inl (a5, 24000, .inl f5)), (q6, .inl (a6, 24000, .inl f6)), (q7, .inl (a7, 4096, .inl f7)), (qm, .inl (aM, 65560, .inl fM)), (qo, .inl (aO, 1, .inr (.inl fo2))), (m0, .inr (12, fs))] := hD
    have hK : va_K D vwCl [(cB, .byte), (a1, .char), (a2, .char), (a4, .int), (a5, .int), (a6, .int), (a7, .int), (aM, .byte), (aO, .long)] s := hK
    refine W.widen (k := 44) (n := 899686) (by decide) (by decide) ?_
    rcases hw_865 with ⟨j1, j2, _, _⟩ | ⟨_, hm⟩
    · skip
      exact (kx.elim (fun h => j1 h) (fun h => h j2)).elim
    · skip
      have hm : md_has fs [(0, .int 1)] := hm
      refine lv_istore (lv' := [(6, .int r_865), (5, .int 1), (0, .ref b), (1, .ref h0), (2, .ref m0), (3, .ref qo), (4, .int 0)]) hx hb dL_law_868 hl (by decide) rfl (fun ls hl => ?_)
      refine lv_aload_n hx hb dL_law_870 rfl (lv_at hl 4 rfl) ?_
      refine xb_goi (wr := [(qc, .inl (cB, 1024, .inl (fun _ => 0))), (q1, .inl (a1, 66000, .inl f1)), (q2, .inl (a2, 66000, .inl f2)), (q4, .inl (a4, 24000, .inl f4)), (q5, .inl (a5, 24000, .inl f5)), (q6, .inl (a6, 24000, .inl f6)), (q7, .inl (a7, 4096, .inl f7)), (qm, .inl (aM, 65560, .inl fM)), (qo, .inl (aO, 1, .inr (.inl fo2)))]) (va_runV (As := []) (rest := []) ⟨hx, hb, hml, hown, htb⟩ (mm_thrown l D g m0 fs 1 (Array.size H) (md_sub hm [0] rfl)) (bg_V 0 htb bg_360 bg_361 bg_362 bg_144 bg_87 rfl rfl (by decide +kernel) ⟨Nat.le_of_ble_eq_true rfl, Nat.le_of_ble_eq_true rfl⟩) ⟨xb_blind xe_ok, va_recv hK hP (ci := 12) (q0 := 9) rfl rfl, xb_enter xe_ok hK hP hD hS hA hE [9] rfl rfl rfl [] rfl⟩ rfl rfl hl.1 rfl (lv_room (Nat.le_of_ble_eq_true rfl)) dL_law_871 ⟨Nat.le_of_ble_eq_true rfl, Nat.le_of_ble_eq_true rfl⟩) hK hP hD hS hA [9] [0, 1, 2, 3, 4, 5, 6, 7, 8] rfl rfl rfl (by decide) (fun r_871 u_871 H locs hw_871 hP hD hK hS => ?_)
      have hP : va_P D vwCl [(qc, .inl (cB, 1024, .inl (fun _ => 0))), (q1, .inl (a1, 66000, .inl f1)), (q2, .inl (a2, 66000, .inl f2)), (q4, .inl (a4, 24000, .inl f4)), (q5, .inl (a5, 24000, .inl f5)), (q6, .inl (a6, 24000, .inl f6)), (q7, .inl (a7, 4096, .inl f7)), (qm, .inl (aM, 65560, .inl fM)), (qo, .inl (aO, 1, .inr (.inl fo2))), (m0, .inr (12, fs))] H := hP
      have hD : va_D A [(qc, .inl (cB, 1024, .inl (fun _ => 0))), (q1, .inl (a1, 66000, .inl f1)), (q2, .inl (a2, 66000, .inl f2)), (q4, .inl (a4, 24000, .inl f4)), (q5, .inl (a5, 24000, .inl f5)), (q6, .inl (a6, 24000, .inl f6)), (q7, .inl (a7, 4096, .inl f7)), (qm, .inl (aM, 65560, .inl fM)), (qo, .inl (aO, 1, .inr (.inl fo2))), (m0, .inr (12, fs))] := hD
      have hK : va_K D vwCl [(cB, .byte), (a1, .char), (a2, .char), (a4, .int), (a5, .int), (a6, .int), (a7, .int), (aM, .byte), (aO, .long)] s := hK
      refine W.widen (k := 44) (n := 899686) (by decide) (by decide) ?_
      have hw_871 : r_871 = 1 := hw_871
      subst hw_871
      refine lv_iload hx hb dL_law_874 (lv_at hl 1 rfl) ?_
      refine lv_icmp_eq (tgt := 881) hx hb dL_law_876 (by decide) (fun c_876 => ?_) (fun c_876 => ?_)
      rotate_left
      · exact absurd (by decide) c_876
      refine lv_iload hx hb dL_law_881 (lv_at hl 1 rfl) ?_
      refine lv_if_ne (tgt := 898) hx hb dL_law_883 (by decide) (fun c_883 => ?_) (fun c_883 => ?_)
      rotate_left
      · exact absurd c_883 (by decide)
      refine lv_goto (tgt := 978) hx hb dL_law_898 (by decide) ?_
      exact law_done hx hb hr hml hlocks hX hbl hAe hbA hS (by decide) (by decide) (lv_sub hl [6, 2] rfl)
theorem dL_law_280 : decode cL_law 280 = .ok (.aload_n 1, 1) := by decide +kernel
theorem dL_law_281 : decode cL_law 281 = .ok (.invokevirtual 57, 3) := by decide +kernel
theorem dL_law_284 : decode cL_law 284 = .ok (.aload_n 2, 1) := by decide +kernel
theorem dL_law_285 : decode cL_law 285 = .ok (.invokevirtual 60, 3) := by decide +kernel
theorem dL_law_288 : decode cL_law 288 = .ok (.if_icmp .eq 690, 3) := by decide +kernel
set_option maxHeartbeats 8000000 in
set_option maxRecDepth 100000 in
theorem law_2 {p : Program} {l : Launch} {e : Env} {s : State} {m : MethodId} {below : List Frame} {meth : Method} {c : Code} {H : Heap} {locs : List Loc} {A : Nat → Prop} {b : Nat} {xs : Nat → Int32} {ls : Array Slot} {D : va_G} {g : xe_G} {h0 : Nat} {qc : Nat} {cB : ClassId} {m0 : Nat} {fs : List Value} {q1 : Nat} {q2 : Nat} {q4 : Nat} {q5 : Nat} {q6 : Nat} {q7 : Nat} {a1 : ClassId} {a2 : ClassId} {a4 : ClassId} {a5 : ClassId} {a6 : ClassId} {a7 : ClassId} {f1 : Nat → Int32} {f2 : Nat → Int32} {f4 : Nat → Int32} {f5 : Nat → Int32} {f6 : Nat → Int32} {f7 : Nat → Int32} {qf : Nat} {qm : Nat} {aM : ClassId} {fM : Nat → Int32} {qo : Nat} {aO : ClassId} (hx : p.tables.exec = Jvm.exec) (hb : c.code = cL_law) (hr : meth.sig.returnType = ret) (hml : c.maxLocals = 7) (hlocks : meth.locks = false) (hown : s.vm.findClass RL = some m.cls) (htb : ∀ w ∈ bg, w.before #[Value.ref b] s = true) (hX : va_X b 6 xs s s.heap) (hbl : b < s.heap.size) (hAe : A = fun q : Nat => s.heap.size ≤ q) (hbA : ¬ A b) (hA : ∀ q : Nat, s.heap.size ≤ q → A q) (hE : xe_E g A s s.heap) (hnt : l.stackTraces = false) (hm : md_has fs [(1, .ref q1), (2, .ref q2), (4, .ref q4), (5, .ref q5), (6, .ref q6), (7, .ref q7), (13, .ref qf), (15, .ref qm), (17, .int 0), (18, .int (-1)), (19, .int 0), (73, .int (-1))]) (hK : va_K D vwCl [(cB, .byte), (a1, .char), (a2, .char), (a4, .int), (a5, .int), (a6, .int), (a7, .int), (aM, .byte), (aO, .long)] s) (hP : va_P D vwCl [(h0, .inr (11, [.ref qc, .int 0, .ref g.1, .null, .int (-1)])), (qc, .inl (cB, 1024, .inl (fun _ => 0))), (m0, .inr (12, fs)), (q1, .inl (a1, 66000, .inl f1)), (q2, .inl (a2, 66000, .inl f2)), (q4, .inl (a4, 24000, .inl f4)), (q5, .inl (a5, 24000, .inl f5)), (q6, .inl (a6, 24000, .inl f6)), (q7, .inl (a7, 4096, .inl f7)), (qm, .inl (aM, 65560, .inl fM)), (qo, .inl (aO, 1, .inr (.inl (fun _ => 0))))] H) (hD : va_D A [(h0, .inr (11, [.ref qc, .int 0, .ref g.1, .null, .int (-1)])), (qc, .inl (cB, 1024, .inl (fun _ => 0))), (m0, .inr (12, fs)), (q1, .inl (a1, 66000, .inl f1)), (q2, .inl (a2, 66000, .inl f2)), (q4, .inl (a4, 24000, .inl f4)), (q5, .inl (a5, 24000, .inl f5)), (q6, .inl (a6, 24000, .inl f6)), (q7, .inl (a7, 4096, .inl f7)), (qm, .inl (aM, 65560, .inl fM)), (qo, .inl (aO, 1, .inr (.inl (fun _ => 0))))]) (hS : va_S A s.heap H locs) (hl : lv_has ls 7 [(0, .ref b), (1, .ref h0), (2, .ref m0), (3, .ref qo), (4, .int 0)]) : W p l e room_1 s m #[Value.ref b] below meth c H locs 43 899680 (lw_Z below #[Value.ref b] s) (F0 m 280 ls []) := by
  refine lv_aload_n hx hb dL_law_280 rfl (lv_at hl 1 rfl) ?_
  refine xb_goi (wr := [(qc, .inl (cB, 1024, .inl (fun _ => 0))), (m0, .inr (12, fs)), (q1, .inl (a1, 66000, .inl f1)), (q2, .inl (a2, 66000, .inl f2)), (q4, .inl (a4, 24000, .inl f4)), (q5, .inl (a5, 24000, .inl f5)), (q6, .inl (a6, 24000, .inl f6)), (q7, .inl (a7, 4096, .inl f7)), (qm, .inl (aM, 65560, .inl fM)), (qo, .inl (aO, 1, .inr (.inl (fun _ => 0))))]) (va_runV (As := []) (rest := []) ⟨hx, hb, hml, hown, htb⟩ (cg_read l D g h0 qc 0 (-1) (Array.size H) ) (bg_V 0 htb bg_368 bg_369 bg_370 bg_18 bg_26 rfl rfl (by decide +kernel) ⟨Nat.le_of_ble_eq_true rfl, Nat.le_of_ble_eq_true rfl⟩) ⟨xb_blind xe_ok, va_recv hK hP (ci := 11) (q0 := 0) rfl rfl, xb_enter xe_ok hK hP hD hS hA hE [0] rfl rfl rfl [] rfl⟩ rfl rfl hl.1 rfl (lv_room (Nat.le_of_ble_eq_true rfl)) dL_law_281 ⟨Nat.le_of_ble_eq_true rfl, Nat.le_of_ble_eq_true rfl⟩) hK hP hD hS hA [0] [1, 2, 3, 4, 5, 6, 7, 8, 9, 10] rfl rfl rfl (by decide) (fun r_281 u_281 H locs hw_281 hP hD hK hS => ?_)
  have hP : va_P D vwCl [(qc, .inl (cB, 1024, .inl (fun _ => 0))), (m0, .inr (12, fs)), (q1, .inl (a1, 66000, .inl f1)), (q2, .inl (a2, 66000, .inl f2)), (q4, .inl (a4, 24000, .inl f4)), (q5, .inl (a5, 24000, .inl f5)), (q6, .inl (a6, 24000, .inl f6)), (q7, .inl (a7, 4096, .inl f7)), (qm, .inl (aM, 65560, .inl fM)), (qo, .inl (aO, 1, .inr (.inl (fun _ => 0)))), (h0, .inr (11, [.ref qc, .int 0, .ref g.1, .null, .int 0]))] H := hP
  have hD : va_D A [(qc, .inl (cB, 1024, .inl (fun _ => 0))), (m0, .inr (12, fs)), (q1, .inl (a1, 66000, .inl f1)), (q2, .inl (a2, 66000, .inl f2)), (q4, .inl (a4, 24000, .inl f4)), (q5, .inl (a5, 24000, .inl f5)), (q6, .inl (a6, 24000, .inl f6)), (q7, .inl (a7, 4096, .inl f7)), (qm, .inl (aM, 65560, .inl fM)), (qo, .inl (aO, 1, .inr (.inl (fun _ => 0)))), (h0, .inr (11, [.ref qc, .int 0, .ref g.1, .null, .int 0]))] := hD
  have hK : va_K D vwCl [(cB, .byte), (a1, .char), (a2, .char), (a4, .int), (a5, .int), (a6, .int), (a7, .int), (aM, .byte), (aO, .long)] s := hK
  refine W.widen (k := 56) (n := 899713) (by decide) (by decide) ?_
  have hw_281 : r_281 = 1 := hw_281
  subst hw_281
  refine lv_aload_n hx hb dL_law_284 rfl (lv_at hl 2 rfl) ?_
  refine xb_goi (wr := [(qc, .inl (cB, 1024, .inl (fun _ => 0))), (qm, .inl (aM, 65560, .inl fM)), (qo, .inl (aO, 1, .inr (.inl (fun _ => 0)))), (h0, .inr (11, [.ref qc, .int 0, .ref g.1, .null, .int 0]))]) (va_runV (As := []) (rest := [.int 1]) ⟨hx, hb, hml, hown, htb⟩ (mm_read l D g m0 fs q1 q2 q4 q5 q6 q7 a1 a2 a4 a5 a6 a7 f1 f2 f4 f5 f6 f7 qf qm 0 (-1) (Array.size H) (md_sub hm [0, 1, 2, 3, 4, 5, 6, 7, 8, 9, 10, 11] rfl)) (bg_V 0 htb bg_371 bg_372 bg_373 bg_144 bg_217 rfl rfl (by decide +kernel) ⟨Nat.le_of_ble_eq_true rfl, Nat.le_of_ble_eq_true rfl⟩) ⟨xb_blind xe_ok, va_recv hK hP (ci := 12) (q0 := 1) rfl rfl, xb_enter xe_ok hK hP hD hS hA hE [1, 2, 3, 4, 5, 6, 7] rfl rfl rfl [1, 2, 3, 4, 5, 6] rfl⟩ rfl rfl hl.1 rfl (lv_room (Nat.le_of_ble_eq_true rfl)) dL_law_285 ⟨Nat.le_of_ble_eq_true rfl, Nat.le_of_ble_eq_true rfl⟩) hK hP hD hS hA [1, 2, 3, 4, 5, 6, 7] [0, 8, 9, 10] rfl rfl rfl (by decide) (fun r_285 u_285 H locs hw_285 hP hD hK hS => ?_)
  obtain ⟨fs, g1, g2, g4, g5, g6, g7⟩ := u_285
  have hP : va_P D vwCl [(qc, .inl (cB, 1024, .inl (fun _ => 0))), (qm, .inl (aM, 65560, .inl fM)), (qo, .inl (aO, 1, .inr (.inl (fun _ => 0)))), (h0, .inr (11, [.ref qc, .int 0, .ref g.1, .null, .int 0])), (m0, .inr (12, fs)), (q1, .inl (a1, 66000, .inl g1)), (q2, .inl (a2, 66000, .inl g2)), (q4, .inl (a4, 24000, .inl g4)), (q5, .inl (a5, 24000, .inl g5)), (q6, .inl (a6, 24000, .inl g6)), (q7, .inl (a7, 4096, .inl g7))] H := hP
  have hD : va_D A [(qc, .inl (cB, 1024, .inl (fun _ => 0))), (qm, .inl (aM, 65560, .inl fM)), (qo, .inl (aO, 1, .inr (.inl (fun _ => 0)))), (h0, .inr (11, [.ref qc, .int 0, .ref g.1, .null, .int 0])), (m0, .inr (12, fs)), (q1, .inl (a1, 66000, .inl g1)), (q2, .inl (a2, 66000, .inl g2)), (q4, .inl (a4, 24000, .inl g4)), (q5, .inl (a5, 24000, .inl g5)), (q6, .inl (a6, 24000, .inl g6)), (q7, .inl (a7, 4096, .inl g7))] := hD
  have hK : va_K D vwCl [(cB, .byte), (a1, .char), (a2, .char), (a4, .int), (a5, .int), (a6, .int), (a7, .int), (aM, .byte), (aO, .long), (a1, .char), (a2, .char), (a4, .int), (a5, .int), (a6, .int), (a7, .int)] s := hK
  refine W.widen (k := 56) (n := 899713) (by decide) (by decide) ?_
  have hw_285 : r_285 = 1 := hw_285
  subst hw_285
  have hK := hK.sub (tys' := [(cB, .byte), (a1, .char), (a2, .char), (a4, .int), (a5, .int), (a6, .int), (a7, .int), (aM, .byte), (aO, .long)]) [0, 1, 2, 3, 4, 5, 6, 7, 8] rfl
  refine lv_icmp_eq (tgt := 978) hx hb dL_law_288 (by decide) (fun c_288 => ?_) (fun c_288 => ?_)
  rotate_left
  · exact absurd (by decide) c_288
  exact law_done hx hb hr hml hlocks hX hbl hAe hbA hS (by decide) (by decide) (lv_sub hl [4, 0] rfl)
theorem dL_law_293 : decode cL_law 293 = .ok (.aload_n 1, 1) := by decide +kernel
theorem dL_law_294 : decode cL_law 294 = .ok (.invokevirtual 61, 3) := by decide +kernel
theorem dL_law_297 : decode cL_law 297 = .ok (.aload_n 2, 1) := by decide +kernel
theorem dL_law_298 : decode cL_law 298 = .ok (.invokevirtual 64, 3) := by decide +kernel
theorem dL_law_301 : decode cL_law 301 = .ok (.if_icmp .eq 677, 3) := by decide +kernel
set_option maxHeartbeats 8000000 in
set_option maxRecDepth 100000 in
theorem law_3 {p : Program} {l : Launch} {e : Env} {s : State} {m : MethodId} {below : List Frame} {meth : Method} {c : Code} {H : Heap} {locs : List Loc} {A : Nat → Prop} {b : Nat} {xs : Nat → Int32} {ls : Array Slot} {D : va_G} {g : xe_G} {h0 : Nat} {qc : Nat} {cB : ClassId} {m0 : Nat} {fs : List Value} {q1 : Nat} {q2 : Nat} {q4 : Nat} {q5 : Nat} {q6 : Nat} {q7 : Nat} {a1 : ClassId} {a2 : ClassId} {a4 : ClassId} {a5 : ClassId} {a6 : ClassId} {a7 : ClassId} {f1 : Nat → Int32} {f2 : Nat → Int32} {f4 : Nat → Int32} {f5 : Nat → Int32} {f6 : Nat → Int32} {f7 : Nat → Int32} {qf : Nat} {qm : Nat} {aM : ClassId} {fM : Nat → Int32} {qo : Nat} {aO : ClassId} (hx : p.tables.exec = Jvm.exec) (hb : c.code = cL_law) (hr : meth.sig.returnType = ret) (hml : c.maxLocals = 7) (hlocks : meth.locks = false) (hown : s.vm.findClass RL = some m.cls) (htb : ∀ w ∈ bg, w.before #[Value.ref b] s = true) (hX : va_X b 6 xs s s.heap) (hbl : b < s.heap.size) (hAe : A = fun q : Nat => s.heap.size ≤ q) (hbA : ¬ A b) (hA : ∀ q : Nat, s.heap.size ≤ q → A q) (hE : xe_E g A s s.heap) (hnt : l.stackTraces = false) (hm : md_has fs [(1, .ref q1), (2, .ref q2), (4, .ref q4), (5, .ref q5), (6, .ref q6), (7, .ref q7), (13, .ref qf), (15, .ref qm), (17, .int 0), (18, .int (-1)), (19, .int 0), (73, .int (-1))]) (hK : va_K D vwCl [(cB, .byte), (a1, .char), (a2, .char), (a4, .int), (a5, .int), (a6, .int), (a7, .int), (aM, .byte), (aO, .long)] s) (hP : va_P D vwCl [(h0, .inr (11, [.ref qc, .int 0, .ref g.1, .null, .int (-1)])), (qc, .inl (cB, 1024, .inl (fun _ => 0))), (m0, .inr (12, fs)), (q1, .inl (a1, 66000, .inl f1)), (q2, .inl (a2, 66000, .inl f2)), (q4, .inl (a4, 24000, .inl f4)), (q5, .inl (a5, 24000, .inl f5)), (q6, .inl (a6, 24000, .inl f6)), (q7, .inl (a7, 4096, .inl f7)), (qm, .inl (aM, 65560, .inl fM)), (qo, .inl (aO, 1, .inr (.inl (fun _ => 0))))] H) (hD : va_D A [(h0, .inr (11, [.ref qc, .int 0, .ref g.1, .null, .int (-1)])), (qc, .inl (cB, 1024, .inl (fun _ => 0))), (m0, .inr (12, fs)), (q1, .inl (a1, 66000, .inl f1)), (q2, .inl (a2, 66000, .inl f2)), (q4, .inl (a4, 24000, .inl f4)), (q5, .inl (a5, 24000, .inl f5)), (q6, .inl (a6, 24000, .inl f6)), (q7, .inl (a7, 4096, .inl f7)), (qm, .inl (aM, 65560, .inl fM)), (qo, .inl (aO, 1, .inr (.inl (fun _ => 0))))]) (hS : va_S A s.heap H locs) (hl : lv_has ls 7 [(0, .ref b), (1, .ref h0), (2, .ref m0), (3, .ref qo), (4, .int 0)]) : W p l e room_1 s m #[Value.ref b] below meth c H locs 43 899680 (lw_Z below #[Value.ref b] s) (F0 m 293 ls []) := by
  refine lv_aload_n hx hb dL_law_293 rfl (lv_at hl 1 rfl) ?_
  refine xb_goi (wr := [(qc, .inl (cB, 1024, .inl (fun _ => 0))), (m0, .inr (12, fs)), (q1, .inl (a1, 66000, .inl f1)), (q2, .inl (a2, 66000, .inl f2)), (q4, .inl (a4, 24000, .inl f4)), (q5, .inl (a5, 24000, .inl f5)), (q6, .inl (a6, 24000, .inl f6)), (q7, .inl (a7, 4096, .inl f7)), (qm, .inl (aM, 65560, .inl fM)), (qo, .inl (aO, 1, .inr (.inl (fun _ => 0))))]) (va_runV (As := []) (rest := []) ⟨hx, hb, hml, hown, htb⟩ (cg_place l D g h0 qc 0 g.1 (-1) (Array.size H) ) (bg_V 0 htb bg_374 bg_375 bg_376 bg_18 bg_61 rfl rfl (by decide +kernel) ⟨Nat.le_of_ble_eq_true rfl, Nat.le_of_ble_eq_true rfl⟩) ⟨xb_blind xe_ok, va_recv hK hP (ci := 11) (q0 := 0) rfl rfl, xb_enter xe_ok hK hP hD hS hA hE [0] rfl rfl rfl [] rfl⟩ rfl rfl hl.1 rfl (lv_room (Nat.le_of_ble_eq_true rfl)) dL_law_294 ⟨Nat.le_of_ble_eq_true rfl, Nat.le_of_ble_eq_true rfl⟩) hK hP hD hS hA [0] [1, 2, 3, 4, 5, 6, 7, 8, 9, 10] rfl rfl rfl (by decide) (fun r_294 u_294 H locs hw_294 hP hD hK hS => ?_)
  have hP : va_P D vwCl [(qc, .inl (cB, 1024, .inl (fun _ => 0))), (m0, .inr (12, fs)), (q1, .inl (a1, 66000, .inl f1)), (q2, .inl (a2, 66000, .inl f2)), (q4, .inl (a4, 24000, .inl f4)), (q5, .inl (a5, 24000, .inl f5)), (q6, .inl (a6, 24000, .inl f6)), (q7, .inl (a7, 4096, .inl f7)), (qm, .inl (aM, 65560, .inl fM)), (qo, .inl (aO, 1, .inr (.inl (fun _ => 0)))), (h0, .inr (11, [.ref qc, .int 0, .ref g.1, .null, .int (-1)]))] H := hP
  have hD : va_D A [(qc, .inl (cB, 1024, .inl (fun _ => 0))), (m0, .inr (12, fs)), (q1, .inl (a1, 66000, .inl f1)), (q2, .inl (a2, 66000, .inl f2)), (q4, .inl (a4, 24000, .inl f4)), (q5, .inl (a5, 24000, .inl f5)), (q6, .inl (a6, 24000, .inl f6)), (q7, .inl (a7, 4096, .inl f7)), (qm, .inl (aM, 65560, .inl fM)), (qo, .inl (aO, 1, .inr (.inl (fun _ => 0)))), (h0, .inr (11, [.ref qc, .int 0, .ref g.1, .null, .int (-1)]))] := hD
  have hK : va_K D vwCl [(cB, .byte), (a1, .char), (a2, .char), (a4, .int), (a5, .int), (a6, .int), (a7, .int), (aM, .byte), (aO, .long)] s := hK
  refine W.widen (k := 43) (n := 899680) (by decide) (by decide) ?_
  have hw_294 : r_294 = (-1) := hw_294
  subst hw_294
  refine lv_aload_n hx hb dL_law_297 rfl (lv_at hl 2 rfl) ?_
  refine xb_goi (wr := [(qc, .inl (cB, 1024, .inl (fun _ => 0))), (q1, .inl (a1, 66000, .inl f1)), (q2, .inl (a2, 66000, .inl f2)), (q4, .inl (a4, 24000, .inl f4)), (q5, .inl (a5, 24000, .inl f5)), (q6, .inl (a6, 24000, .inl f6)), (q7, .inl (a7, 4096, .inl f7)), (qm, .inl (aM, 65560, .inl fM)), (qo, .inl (aO, 1, .inr (.inl (fun _ => 0)))), (h0, .inr (11, [.ref qc, .int 0, .ref g.1, .null, .int (-1)]))]) (va_runV (As := []) (rest := [.int (-1)]) ⟨hx, hb, hml, hown, htb⟩ (mm_place l D g m0 fs (Array.size H) (md_sub hm [11] rfl)) (bg_V 0 htb bg_377 bg_378 bg_379 bg_144 bg_225 rfl rfl (by decide +kernel) ⟨Nat.le_of_ble_eq_true rfl, Nat.le_of_ble_eq_true rfl⟩) ⟨xb_blind xe_ok, va_recv hK hP (ci := 12) (q0 := 1) rfl rfl, xb_enter xe_ok hK hP hD hS hA hE [1] rfl rfl rfl [] rfl⟩ rfl rfl hl.1 rfl (lv_room (Nat.le_of_ble_eq_true rfl)) dL_law_298 ⟨Nat.le_of_ble_eq_true rfl, Nat.le_of_ble_eq_true rfl⟩) hK hP hD hS hA [1] [0, 2, 3, 4, 5, 6, 7, 8, 9, 10] rfl rfl rfl (by decide) (fun r_298 u_298 H locs hw_298 hP hD hK hS => ?_)
  generalize u_298 = fs at hP hD hK hw_298
  have hP : va_P D vwCl [(qc, .inl (cB, 1024, .inl (fun _ => 0))), (q1, .inl (a1, 66000, .inl f1)), (q2, .inl (a2, 66000, .inl f2)), (q4, .inl (a4, 24000, .inl f4)), (q5, .inl (a5, 24000, .inl f5)), (q6, .inl (a6, 24000, .inl f6)), (q7, .inl (a7, 4096, .inl f7)), (qm, .inl (aM, 65560, .inl fM)), (qo, .inl (aO, 1, .inr (.inl (fun _ => 0)))), (h0, .inr (11, [.ref qc, .int 0, .ref g.1, .null, .int (-1)])), (m0, .inr (12, fs))] H := hP
  have hD : va_D A [(qc, .inl (cB, 1024, .inl (fun _ => 0))), (q1, .inl (a1, 66000, .inl f1)), (q2, .inl (a2, 66000, .inl f2)), (q4, .inl (a4, 24000, .inl f4)), (q5, .inl (a5, 24000, .inl f5)), (q6, .inl (a6, 24000, .inl f6)), (q7, .inl (a7, 4096, .inl f7)), (qm, .inl (aM, 65560, .inl fM)), (qo, .inl (aO, 1, .inr (.inl (fun _ => 0)))), (h0, .inr (11, [.ref qc, .int 0, .ref g.1, .null, .int (-1)])), (m0, .inr (12, fs))] := hD
  have hK : va_K D vwCl [(cB, .byte), (a1, .char), (a2, .char), (a4, .int), (a5, .int), (a6, .int), (a7, .int), (aM, .byte), (aO, .long)] s := hK
  refine W.widen (k := 43) (n := 899680) (by decide) (by decide) ?_
  obtain ⟨hw_298, hm⟩ := hw_298
  have hm : md_has fs [(0, .int 0)] := hm
  have hw_298 : r_298 = (-1) := hw_298
  subst hw_298
  refine lv_icmp_eq (tgt := 978) hx hb dL_law_301 (by decide) (fun c_301 => ?_) (fun c_301 => ?_)
  rotate_left
  · exact absurd (by decide) c_301
  exact law_done hx hb hr hml hlocks hX hbl hAe hbA hS (by decide) (by decide) (lv_sub hl [4, 0] rfl)
theorem dL_law_430 : decode cL_law 430 = .ok (.aload_n 1, 1) := by decide +kernel
theorem dL_law_431 : decode cL_law 431 = .ok (.aload_n 0, 1) := by decide +kernel
theorem dL_law_432 : decode cL_law 432 = .ok (.iload 4, 2) := by decide +kernel
theorem dL_law_434 : decode cL_law 434 = .ok (.iconst 1, 1) := by decide +kernel
theorem dL_law_435 : decode cL_law 435 = .ok (.iadd, 1) := by decide +kernel
theorem dL_law_436 : decode cL_law 436 = .ok (.iaload, 1) := by decide +kernel
theorem dL_law_437 : decode cL_law 437 = .ok (.invokevirtual 72, 3) := by decide +kernel
theorem dL_law_440 : decode cL_law 440 = .ok (.aload_n 2, 1) := by decide +kernel
theorem dL_law_441 : decode cL_law 441 = .ok (.aload_n 0, 1) := by decide +kernel
theorem dL_law_442 : decode cL_law 442 = .ok (.iload 4, 2) := by decide +kernel
theorem dL_law_444 : decode cL_law 444 = .ok (.iconst 1, 1) := by decide +kernel
theorem dL_law_445 : decode cL_law 445 = .ok (.iadd, 1) := by decide +kernel
theorem dL_law_446 : decode cL_law 446 = .ok (.iaload, 1) := by decide +kernel
theorem dL_law_447 : decode cL_law 447 = .ok (.invokevirtual 76, 3) := by decide +kernel
theorem dL_law_450 : decode cL_law 450 = .ok (.lcmp, 1) := by decide +kernel
theorem dL_law_451 : decode cL_law 451 = .ok (.ifCond .eq 527, 3) := by decide +kernel
set_option maxHeartbeats 8000000 in
set_option maxRecDepth 100000 in
theorem law_6 {p : Program} {l : Launch} {e : Env} {s : State} {m : MethodId} {below : List Frame} {meth : Method} {c : Code} {H : Heap} {locs : List Loc} {A : Nat → Prop} {b : Nat} {xs : Nat → Int32} {ls : Array Slot} {D : va_G} {g : xe_G} {h0 : Nat} {qc : Nat} {cB : ClassId} {m0 : Nat} {fs : List Value} {q1 : Nat} {q2 : Nat} {q4 : Nat} {q5 : Nat} {q6 : Nat} {q7 : Nat} {a1 : ClassId} {a2 : ClassId} {a4 : ClassId} {a5 : ClassId} {a6 : ClassId} {a7 : ClassId} {f1 : Nat → Int32} {f2 : Nat → Int32} {f4 : Nat → Int32} {f5 : Nat → Int32} {f6 : Nat → Int32} {f7 : Nat → Int32} {qf : Nat} {qm : Nat} {aM : ClassId} {fM : Nat → Int32} {qo : Nat} {aO : ClassId} (hx : p.tables.exec = Jvm.exec) (hb : c.code = cL_law) (hr : meth.sig.returnType = ret) (hml : c.maxLocals = 7) (hlocks : meth.locks = false) (hown : s.vm.findClass RL = some m.cls) (htb : ∀ w ∈ bg, w.before #[Value.ref b] s = true) (hX : va_X b 6 xs s s.heap) (hbl : b < s.heap.size) (hAe : A = fun q : Nat => s.heap.size ≤ q) (hbA : ¬ A b) (hA : ∀ q : Nat, s.heap.size ≤ q → A q) (hE : xe_E g A s s.heap) (hnt : l.stackTraces = false) (hm : md_has fs [(1, .ref q1), (2, .ref q2), (4, .ref q4), (5, .ref q5), (6, .ref q6), (7, .ref q7), (13, .ref qf), (15, .ref qm), (17, .int 0), (18, .int (-1)), (19, .int 0), (73, .int (-1))]) (hK : va_K D vwCl [(cB, .byte), (a1, .char), (a2, .char), (a4, .int), (a5, .int), (a6, .int), (a7, .int), (aM, .byte), (aO, .long)] s) (hP : va_P D vwCl [(h0, .inr (11, [.ref qc, .int 0, .ref g.1, .null, .int (-1)])), (qc, .inl (cB, 1024, .inl (fun _ => 0))), (m0, .inr (12, fs)), (q1, .inl (a1, 66000, .inl f1)), (q2, .inl (a2, 66000, .inl f2)), (q4, .inl (a4, 24000, .inl f4)), (q5, .inl (a5, 24000, .inl f5)), (q6, .inl (a6, 24000, .inl f6)), (q7, .inl (a7, 4096, .inl f7)), (qm, .inl (aM, 65560, .inl fM)), (qo, .inl (aO, 1, .inr (.inl (fun _ => 0))))] H) (hD : va_D A [(h0, .inr (11, [.ref qc, .int 0, .ref g.1, .null, .int (-1)])), (qc, .inl (cB, 1024, .inl (fun _ => 0))), (m0, .inr (12, fs)), (q1, .inl (a1, 66000, .inl f1)), (q2, .inl (a2, 66000, .inl f2)), (q4, .inl (a4, 24000, .inl f4)), (q5, .inl (a5, 24000, .inl f5)), (q6, .inl (a6, 24000, .inl f6)), (q7, .inl (a7, 4096, .inl f7)), (qm, .inl (aM, 65560, .inl fM)), (qo, .inl (aO, 1, .inr (.inl (fun _ => 0))))]) (hS : va_S A s.heap H locs) (hl : lv_has ls 7 [(0, .ref b), (1, .ref h0), (2, .ref m0), (3, .ref qo), (4, .int 0)]) : W p l e room_1 s m #[Value.ref b] below meth c H locs 43 899680 (lw_Z below #[Value.ref b] s) (F0 m 430 ls []) := by
  refine lv_aload_n hx hb dL_law_430 rfl (lv_at hl 1 rfl) ?_
  refine lv_aload_n hx hb dL_law_431 rfl (lv_at hl 0 rfl) ?_
  refine lv_iload hx hb dL_law_432 (lv_at hl 4 rfl) ?_
  refine lv_iconst (v := 1) hx hb dL_law_434 (by decide) ?_
  refine lv_iadd hx hb dL_law_435 ?_
  refine va_sld hx hb hX hbl hbA hS (by unfold vp_in; decide) dL_law_436 ?_
  refine xb_gol (wr := [(qc, .inl (cB, 1024, .inl (fun _ => 0))), (m0, .inr (12, fs)), (q1, .inl (a1, 66000, .inl f1)), (q2, .inl (a2, 66000, .inl f2)), (q4, .inl (a4, 24000, .inl f4)), (q5, .inl (a5, 24000, .inl f5)), (q6, .inl (a6, 24000, .inl f6)), (q7, .inl (a7, 4096, .inl f7)), (qm, .inl (aM, 65560, .inl fM)), (qo, .inl (aO, 1, .inr (.inl (fun _ => 0))))]) (va_runV (As := [.int (xs (Int32.toNatClampNeg (0 + 1)))]) (rest := []) ⟨hx, hb, hml, hown, htb⟩ (cg_bits l D g h0 qc 0 g.1 (-1) (xs (Int32.toNatClampNeg (0 + 1))) (Array.size H) ) (bg_V 1 htb bg_390 bg_391 bg_392 bg_18 bg_66 rfl rfl (by decide +kernel) ⟨Nat.le_of_ble_eq_true rfl, Nat.le_of_ble_eq_true rfl⟩) ⟨xb_blind xe_ok, va_recv hK hP (ci := 11) (q0 := 0) rfl rfl, xb_enter xe_ok hK hP hD hS hA hE [0] rfl rfl rfl [] rfl⟩ rfl rfl hl.1 rfl (lv_room (Nat.le_of_ble_eq_true rfl)) dL_law_437 ⟨Nat.le_of_ble_eq_true rfl, Nat.le_of_ble_eq_true rfl⟩) hK hP hD hS hA [0] [1, 2, 3, 4, 5, 6, 7, 8, 9, 10] rfl rfl rfl (by decide) (fun r_437 u_437 H locs hw_437 hP hD hK hS => ?_)
  have hP : va_P D vwCl [(qc, .inl (cB, 1024, .inl (fun _ => 0))), (m0, .inr (12, fs)), (q1, .inl (a1, 66000, .inl f1)), (q2, .inl (a2, 66000, .inl f2)), (q4, .inl (a4, 24000, .inl f4)), (q5, .inl (a5, 24000, .inl f5)), (q6, .inl (a6, 24000, .inl f6)), (q7, .inl (a7, 4096, .inl f7)), (qm, .inl (aM, 65560, .inl fM)), (qo, .inl (aO, 1, .inr (.inl (fun _ => 0)))), (h0, .inr (11, [.ref qc, .int 0, .ref g.1, .null, .int (-1)]))] H := hP
  have hD : va_D A [(qc, .inl (cB, 1024, .inl (fun _ => 0))), (m0, .inr (12, fs)), (q1, .inl (a1, 66000, .inl f1)), (q2, .inl (a2, 66000, .inl f2)), (q4, .inl (a4, 24000, .inl f4)), (q5, .inl (a5, 24000, .inl f5)), (q6, .inl (a6, 24000, .inl f6)), (q7, .inl (a7, 4096, .inl f7)), (qm, .inl (aM, 65560, .inl fM)), (qo, .inl (aO, 1, .inr (.inl (fun _ => 0)))), (h0, .inr (11, [.ref qc, .int 0, .ref g.1, .null, .int (-1)]))] := hD
  have hK : va_K D vwCl [(cB, .byte), (a1, .char), (a2, .char), (a4, .int), (a5, .int), (a6, .int), (a7, .int), (aM, .byte), (aO, .long)] s := hK
  refine W.widen (k := 43) (n := 899680) (by decide) (by decide) ?_
  have hw_437 : r_437 = 0 := hw_437
  subst hw_437
  refine lv_aload_n hx hb dL_law_440 rfl (lv_at hl 2 rfl) ?_
  refine lv_aload_n hx hb dL_law_441 rfl (lv_at hl 0 rfl) ?_
  refine lv_iload hx hb dL_law_442 (lv_at hl 4 rfl) ?_
  refine lv_iconst (v := 1) hx hb dL_law_444 (by decide) ?_
  refine lv_iadd hx hb dL_law_445 ?_
  refine va_sld hx hb hX hbl hbA hS (by unfold vp_in; decide) dL_law_446 ?_
  refine xb_gol (wr := [(qc, .inl (cB, 1024, .inl (fun _ => 0))), (q1, .inl (a1, 66000, .inl f1)), (q2, .inl (a2, 66000, .inl f2)), (q4, .inl (a4, 24000, .inl f4)), (q5, .inl (a5, 24000, .inl f5)), (q6, .inl (a6, 24000, .inl f6)), (q7, .inl (a7, 4096, .inl f7)), (qm, .inl (aM, 65560, .inl fM)), (qo, .inl (aO, 1, .inr (.inl (fun _ => 0)))), (h0, .inr (11, [.ref qc, .int 0, .ref g.1, .null, .int (-1)]))]) (va_runV (As := [.int (xs (Int32.toNatClampNeg (0 + 1)))]) (rest := [.long 0]) ⟨hx, hb, hml, hown, htb⟩ (mm_bits l D g m0 fs (xs (Int32.toNatClampNeg (0 + 1))) (Array.size H) (md_sub hm [9] rfl)) (bg_V 1 htb bg_393 bg_394 bg_395 bg_144 bg_230 rfl rfl (by decide +kernel) ⟨Nat.le_of_ble_eq_true rfl, Nat.le_of_ble_eq_true rfl⟩) ⟨xb_blind xe_ok, va_recv hK hP (ci := 12) (q0 := 1) rfl rfl, xb_enter xe_ok hK hP hD hS hA hE [1] rfl rfl rfl [] rfl⟩ rfl rfl hl.1 rfl (lv_room (Nat.le_of_ble_eq_true rfl)) dL_law_447 ⟨Nat.le_of_ble_eq_true rfl, Nat.le_of_ble_eq_true rfl⟩) hK hP hD hS hA [1] [0, 2, 3, 4, 5, 6, 7, 8, 9, 10] rfl rfl rfl (by decide) (fun r_447 u_447 H locs hw_447 hP hD hK hS => ?_)
  generalize u_447 = fs at hP hD hK hw_447
  have hP : va_P D vwCl [(qc, .inl (cB, 1024, .inl (fun _ => 0))), (q1, .inl (a1, 66000, .inl f1)), (q2, .inl (a2, 66000, .inl f2)), (q4, .inl (a4, 24000, .inl f4)), (q5, .inl (a5, 24000, .inl f5)), (q6, .inl (a6, 24000, .inl f6)), (q7, .inl (a7, 4096, .inl f7)), (qm, .inl (aM, 65560, .inl fM)), (qo, .inl (aO, 1, .inr (.inl (fun _ => 0)))), (h0, .inr (11, [.ref qc, .int 0, .ref g.1, .null, .int (-1)])), (m0, .inr (12, fs))] H := hP
  have hD : va_D A [(qc, .inl (cB, 1024, .inl (fun _ => 0))), (q1, .inl (a1, 66000, .inl f1)), (q2, .inl (a2, 66000, .inl f2)), (q4, .inl (a4, 24000, .inl f4)), (q5, .inl (a5, 24000, .inl f5)), (q6, .inl (a6, 24000, .inl f6)), (q7, .inl (a7, 4096, .inl f7)), (qm, .inl (aM, 65560, .inl fM)), (qo, .inl (aO, 1, .inr (.inl (fun _ => 0)))), (h0, .inr (11, [.ref qc, .int 0, .ref g.1, .null, .int (-1)])), (m0, .inr (12, fs))] := hD
  have hK : va_K D vwCl [(cB, .byte), (a1, .char), (a2, .char), (a4, .int), (a5, .int), (a6, .int), (a7, .int), (aM, .byte), (aO, .long)] s := hK
  refine W.widen (k := 43) (n := 899680) (by decide) (by decide) ?_
  obtain ⟨hw_447, hm⟩ := hw_447
  have hm : md_has fs [(0, .int 0)] := hm
  have hw_447 : r_447 = 0 := hw_447
  subst hw_447
  refine W.lcmp hx hb dL_law_450 ?_
  refine lv_if_eq (tgt := 978) hx hb dL_law_451 (by decide) (fun c_451 => ?_) (fun c_451 => ?_)
  rotate_left
  · exact absurd (lg_self _) c_451
  exact law_done hx hb hr hml hlocks hX hbl hAe hbA hS (by decide) (by decide) (lv_sub hl [4, 0] rfl)
theorem dL_law_456 : decode cL_law 456 = .ok (.aload_n 1, 1) := by decide +kernel
theorem dL_law_457 : decode cL_law 457 = .ok (.aload_n 0, 1) := by decide +kernel
theorem dL_law_458 : decode cL_law 458 = .ok (.iload 4, 2) := by decide +kernel
theorem dL_law_460 : decode cL_law 460 = .ok (.iconst 1, 1) := by decide +kernel
theorem dL_law_461 : decode cL_law 461 = .ok (.iadd, 1) := by decide +kernel
theorem dL_law_462 : decode cL_law 462 = .ok (.iaload, 1) := by decide +kernel
theorem dL_law_463 : decode cL_law 463 = .ok (.aload_n 0, 1) := by decide +kernel
theorem dL_law_464 : decode cL_law 464 = .ok (.iload 4, 2) := by decide +kernel
theorem dL_law_466 : decode cL_law 466 = .ok (.iconst 2, 1) := by decide +kernel
theorem dL_law_467 : decode cL_law 467 = .ok (.iadd, 1) := by decide +kernel
theorem dL_law_468 : decode cL_law 468 = .ok (.iaload, 1) := by decide +kernel
theorem dL_law_469 : decode cL_law 469 = .ok (.invokevirtual 77, 3) := by decide +kernel
theorem dL_law_472 : decode cL_law 472 = .ok (.aload_n 2, 1) := by decide +kernel
theorem dL_law_473 : decode cL_law 473 = .ok (.aload_n 0, 1) := by decide +kernel
theorem dL_law_474 : decode cL_law 474 = .ok (.iload 4, 2) := by decide +kernel
theorem dL_law_476 : decode cL_law 476 = .ok (.iconst 1, 1) := by decide +kernel
theorem dL_law_477 : decode cL_law 477 = .ok (.iadd, 1) := by decide +kernel
theorem dL_law_478 : decode cL_law 478 = .ok (.iaload, 1) := by decide +kernel
theorem dL_law_479 : decode cL_law 479 = .ok (.aload_n 0, 1) := by decide +kernel
theorem dL_law_480 : decode cL_law 480 = .ok (.iload 4, 2) := by decide +kernel
theorem dL_law_482 : decode cL_law 482 = .ok (.iconst 2, 1) := by decide +kernel
theorem dL_law_483 : decode cL_law 483 = .ok (.iadd, 1) := by decide +kernel
theorem dL_law_484 : decode cL_law 484 = .ok (.iaload, 1) := by decide +kernel
theorem dL_law_485 : decode cL_law 485 = .ok (.invokevirtual 80, 3) := by decide +kernel
theorem dL_law_488 : decode cL_law 488 = .ok (.if_icmp .eq 490, 3) := by decide +kernel
set_option maxHeartbeats 8000000 in
set_option maxRecDepth 100000 in
theorem law_7 {p : Program} {l : Launch} {e : Env} {s : State} {m : MethodId} {below : List Frame} {meth : Method} {c : Code} {H : Heap} {locs : List Loc} {A : Nat → Prop} {b : Nat} {xs : Nat → Int32} {ls : Array Slot} {D : va_G} {g : xe_G} {h0 : Nat} {qc : Nat} {cB : ClassId} {m0 : Nat} {fs : List Value} {q1 : Nat} {q2 : Nat} {q4 : Nat} {q5 : Nat} {q6 : Nat} {q7 : Nat} {a1 : ClassId} {a2 : ClassId} {a4 : ClassId} {a5 : ClassId} {a6 : ClassId} {a7 : ClassId} {f1 : Nat → Int32} {f2 : Nat → Int32} {f4 : Nat → Int32} {f5 : Nat → Int32} {f6 : Nat → Int32} {f7 : Nat → Int32} {qf : Nat} {qm : Nat} {aM : ClassId} {fM : Nat → Int32} {qo : Nat} {aO : ClassId} (hx : p.tables.exec = Jvm.exec) (hb : c.code = cL_law) (hr : meth.sig.returnType = ret) (hml : c.maxLocals = 7) (hlocks : meth.locks = false) (hown : s.vm.findClass RL = some m.cls) (htb : ∀ w ∈ bg, w.before #[Value.ref b] s = true) (hX : va_X b 6 xs s s.heap) (hbl : b < s.heap.size) (hAe : A = fun q : Nat => s.heap.size ≤ q) (hbA : ¬ A b) (hA : ∀ q : Nat, s.heap.size ≤ q → A q) (hE : xe_E g A s s.heap) (hnt : l.stackTraces = false) (hm : md_has fs [(1, .ref q1), (2, .ref q2), (4, .ref q4), (5, .ref q5), (6, .ref q6), (7, .ref q7), (13, .ref qf), (15, .ref qm), (17, .int 0), (18, .int (-1)), (19, .int 0), (73, .int (-1))]) (hK : va_K D vwCl [(cB, .byte), (a1, .char), (a2, .char), (a4, .int), (a5, .int), (a6, .int), (a7, .int), (aM, .byte), (aO, .long)] s) (hP : va_P D vwCl [(h0, .inr (11, [.ref qc, .int 0, .ref g.1, .null, .int (-1)])), (qc, .inl (cB, 1024, .inl (fun _ => 0))), (m0, .inr (12, fs)), (q1, .inl (a1, 66000, .inl f1)), (q2, .inl (a2, 66000, .inl f2)), (q4, .inl (a4, 24000, .inl f4)), (q5, .inl (a5, 24000, .inl f5)), (q6, .inl (a6, 24000, .inl f6)), (q7, .inl (a7, 4096, .inl f7)), (qm, .inl (aM, 65560, .inl fM)), (qo, .inl (aO, 1, .inr (.inl (fun _ => 0))))] H) (hD : va_D A [(h0, .inr (11, [.ref qc, .int 0, .ref g.1, .null, .int (-1)])), (qc, .inl (cB, 1024, .inl (fun _ => 0))), (m0, .inr (12, fs)), (q1, .inl (a1, 66000, .inl f1)), (q2, .inl (a2, 66000, .inl f2)), (q4, .inl (a4, 24000, .inl f4)), (q5, .inl (a5, 24000, .inl f5)), (q6, .inl (a6, 24000, .inl f6)), (q7, .inl (a7, 4096, .inl f7)), (qm, .inl (aM, 65560, .inl fM)), (qo, .inl (aO, 1, .inr (.inl (fun _ => 0))))]) (hS : va_S A s.heap H locs) (hl : lv_has ls 7 [(0, .ref b), (1, .ref h0), (2, .ref m0), (3, .ref qo), (4, .int 0)]) : W p l e room_1 s m #[Value.ref b] below meth c H locs 43 899680 (lw_Z below #[Value.ref b] s) (F0 m 456 ls []) := by
  refine lv_aload_n hx hb dL_law_456 rfl (lv_at hl 1 rfl) ?_
  refine lv_aload_n hx hb dL_law_457 rfl (lv_at hl 0 rfl) ?_
  refine lv_iload hx hb dL_law_458 (lv_at hl 4 rfl) ?_
  refine lv_iconst (v := 1) hx hb dL_law_460 (by decide) ?_
  refine lv_iadd hx hb dL_law_461 ?_
  refine va_sld hx hb hX hbl hbA hS (by unfold vp_in; decide) dL_law_462 ?_
  refine lv_aload_n hx hb dL_law_463 rfl (lv_at hl 0 rfl) ?_
  refine lv_iload hx hb dL_law_464 (lv_at hl 4 rfl) ?_
  refine lv_iconst (v := 2) hx hb dL_law_466 (by decide) ?_
  refine lv_iadd hx hb dL_law_467 ?_
  refine va_sld hx hb hX hbl hbA hS (by unfold vp_in; decide) dL_law_468 ?_
  refine xb_goi (wr := [(qc, .inl (cB, 1024, .inl (fun _ => 0))), (m0, .inr (12, fs)), (q1, .inl (a1, 66000, .inl f1)), (q2, .inl (a2, 66000, .inl f2)), (q4, .inl (a4, 24000, .inl f4)), (q5, .inl (a5, 24000, .inl f5)), (q6, .inl (a6, 24000, .inl f6)), (q7, .inl (a7, 4096, .inl f7)), (qm, .inl (aM, 65560, .inl fM)), (qo, .inl (aO, 1, .inr (.inl (fun _ => 0))))]) (va_runV (As := [.int (xs (Int32.toNatClampNeg (0 + 1))), .int (xs (Int32.toNatClampNeg (0 + 2)))]) (rest := []) ⟨hx, hb, hml, hown, htb⟩ (cg_character l D g h0 qc 0 g.1 (-1) (xs (Int32.toNatClampNeg (0 + 1))) (xs (Int32.toNatClampNeg (0 + 2))) (Array.size H) ) (bg_V 2 htb bg_396 bg_397 bg_398 bg_18 bg_69 rfl rfl (by decide +kernel) ⟨Nat.le_of_ble_eq_true rfl, Nat.le_of_ble_eq_true rfl⟩) ⟨xb_blind xe_ok, va_recv hK hP (ci := 11) (q0 := 0) rfl rfl, xb_enter xe_ok hK hP hD hS hA hE [0] rfl rfl rfl [] rfl⟩ rfl rfl hl.1 rfl (lv_room (Nat.le_of_ble_eq_true rfl)) dL_law_469 ⟨Nat.le_of_ble_eq_true rfl, Nat.le_of_ble_eq_true rfl⟩) hK hP hD hS hA [0] [1, 2, 3, 4, 5, 6, 7, 8, 9, 10] rfl rfl rfl (by decide) (fun r_469 u_469 H locs hw_469 hP hD hK hS => ?_)
  have hP : va_P D vwCl [(qc, .inl (cB, 1024, .inl (fun _ => 0))), (m0, .inr (12, fs)), (q1, .inl (a1, 66000, .inl f1)), (q2, .inl (a2, 66000, .inl f2)), (q4, .inl (a4, 24000, .inl f4)), (q5, .inl (a5, 24000, .inl f5)), (q6, .inl (a6, 24000, .inl f6)), (q7, .inl (a7, 4096, .inl f7)), (qm, .inl (aM, 65560, .inl fM)), (qo, .inl (aO, 1, .inr (.inl (fun _ => 0)))), (h0, .inr (11, [.ref qc, .int 0, .ref g.1, .null, .int (-1)]))] H := hP
  have hD : va_D A [(qc, .inl (cB, 1024, .inl (fun _ => 0))), (m0, .inr (12, fs)), (q1, .inl (a1, 66000, .inl f1)), (q2, .inl (a2, 66000, .inl f2)), (q4, .inl (a4, 24000, .inl f4)), (q5, .inl (a5, 24000, .inl f5)), (q6, .inl (a6, 24000, .inl f6)), (q7, .inl (a7, 4096, .inl f7)), (qm, .inl (aM, 65560, .inl fM)), (qo, .inl (aO, 1, .inr (.inl (fun _ => 0)))), (h0, .inr (11, [.ref qc, .int 0, .ref g.1, .null, .int (-1)]))] := hD
  have hK : va_K D vwCl [(cB, .byte), (a1, .char), (a2, .char), (a4, .int), (a5, .int), (a6, .int), (a7, .int), (aM, .byte), (aO, .long)] s := hK
  refine W.widen (k := 43) (n := 899680) (by decide) (by decide) ?_
  have hw_469 : r_469 = (-1) := hw_469
  subst hw_469
  refine lv_aload_n hx hb dL_law_472 rfl (lv_at hl 2 rfl) ?_
  refine lv_aload_n hx hb dL_law_473 rfl (lv_at hl 0 rfl) ?_
  refine lv_iload hx hb dL_law_474 (lv_at hl 4 rfl) ?_
  refine lv_iconst (v := 1) hx hb dL_law_476 (by decide) ?_
  refine lv_iadd hx hb dL_law_477 ?_
  refine va_sld hx hb hX hbl hbA hS (by unfold vp_in; decide) dL_law_478 ?_
  refine lv_aload_n hx hb dL_law_479 rfl (lv_at hl 0 rfl) ?_
  refine lv_iload hx hb dL_law_480 (lv_at hl 4 rfl) ?_
  refine lv_iconst (v := 2) hx hb dL_law_482 (by decide) ?_
  refine lv_iadd hx hb dL_law_483 ?_
  refine va_sld hx hb hX hbl hbA hS (by unfold vp_in; decide) dL_law_484 ?_
  refine xb_goi (wr := [(qc, .inl (cB, 1024, .inl (fun _ => 0))), (q1, .inl (a1, 66000, .inl f1)), (q2, .inl (a2, 66000, .inl f2)), (q4, .inl (a4, 24000, .inl f4)), (q5, .inl (a5, 24000, .inl f5)), (q6, .inl (a6, 24000, .inl f6)), (q7, .inl (a7, 4096, .inl f7)), (qm, .inl (aM, 65560, .inl fM)), (qo, .inl (aO, 1, .inr (.inl (fun _ => 0)))), (h0, .inr (11, [.ref qc, .int 0, .ref g.1, .null, .int (-1)]))]) (va_runV (As := [.int (xs (Int32.toNatClampNeg (0 + 1))), .int (xs (Int32.toNatClampNeg (0 + 2)))]) (rest := [.int (-1)]) ⟨hx, hb, hml, hown, htb⟩ (mm_character l D g m0 fs (xs (Int32.toNatClampNeg (0 + 1))) (xs (Int32.toNatClampNeg (0 + 2))) (Array.size H) (md_sub hm [9] rfl)) (bg_V 2 htb bg_399 bg_400 bg_401 bg_144 bg_231 rfl rfl (by decide +kernel) ⟨Nat.le_of_ble_eq_true rfl, Nat.le_of_ble_eq_true rfl⟩) ⟨xb_blind xe_ok, va_recv hK hP (ci := 12) (q0 := 1) rfl rfl, xb_enter xe_ok hK hP hD hS hA hE [1] rfl rfl rfl [] rfl⟩ rfl rfl hl.1 rfl (lv_room (Nat.le_of_ble_eq_true rfl)) dL_law_485 ⟨Nat.le_of_ble_eq_true rfl, Nat.le_of_ble_eq_true rfl⟩) hK hP hD hS hA [1] [0, 2, 3, 4, 5, 6, 7, 8, 9, 10] rfl rfl rfl (by decide) (fun r_485 u_485 H locs hw_485 hP hD hK hS => ?_)
  generalize u_485 = fs at hP hD hK hw_485
  have hP : va_P D vwCl [(qc, .inl (cB, 1024, .inl (fun _ => 0))), (q1, .inl (a1, 66000, .inl f1)), (q2, .inl (a2, 66000, .inl f2)), (q4, .inl (a4, 24000, .inl f4)), (q5, .inl (a5, 24000, .inl f5)), (q6, .inl (a6, 24000, .inl f6)), (q7, .inl (a7, 4096, .inl f7)), (qm, .inl (aM, 65560, .inl fM)), (qo, .inl (aO, 1, .inr (.inl (fun _ => 0)))), (h0, .inr (11, [.ref qc, .int 0, .ref g.1, .null, .int (-1)])), (m0, .inr (12, fs))] H := hP
  have hD : va_D A [(qc, .inl (cB, 1024, .inl (fun _ => 0))), (q1, .inl (a1, 66000, .inl f1)), (q2, .inl (a2, 66000, .inl f2)), (q4, .inl (a4, 24000, .inl f4)), (q5, .inl (a5, 24000, .inl f5)), (q6, .inl (a6, 24000, .inl f6)), (q7, .inl (a7, 4096, .inl f7)), (qm, .inl (aM, 65560, .inl fM)), (qo, .inl (aO, 1, .inr (.inl (fun _ => 0)))), (h0, .inr (11, [.ref qc, .int 0, .ref g.1, .null, .int (-1)])), (m0, .inr (12, fs))] := hD
  have hK : va_K D vwCl [(cB, .byte), (a1, .char), (a2, .char), (a4, .int), (a5, .int), (a6, .int), (a7, .int), (aM, .byte), (aO, .long)] s := hK
  refine W.widen (k := 43) (n := 899680) (by decide) (by decide) ?_
  obtain ⟨hw_485, hm⟩ := hw_485
  have hm : md_has fs [(0, .int 0)] := hm
  have hw_485 : r_485 = (-1) := hw_485
  subst hw_485
  refine lv_icmp_eq (tgt := 978) hx hb dL_law_488 (by decide) (fun c_488 => ?_) (fun c_488 => ?_)
  rotate_left
  · exact absurd (by decide) c_488
  exact law_done hx hb hr hml hlocks hX hbl hAe hbA hS (by decide) (by decide) (lv_sub hl [4, 0] rfl)
theorem dL_law_493 : decode cL_law 493 = .ok (.aload_n 1, 1) := by decide +kernel
theorem dL_law_494 : decode cL_law 494 = .ok (.aload_n 0, 1) := by decide +kernel
theorem dL_law_495 : decode cL_law 495 = .ok (.iload 4, 2) := by decide +kernel
theorem dL_law_497 : decode cL_law 497 = .ok (.iconst 1, 1) := by decide +kernel
theorem dL_law_498 : decode cL_law 498 = .ok (.iadd, 1) := by decide +kernel
theorem dL_law_499 : decode cL_law 499 = .ok (.iaload, 1) := by decide +kernel
theorem dL_law_500 : decode cL_law 500 = .ok (.invokevirtual 81, 3) := by decide +kernel
theorem dL_law_503 : decode cL_law 503 = .ok (.aload_n 2, 1) := by decide +kernel
theorem dL_law_504 : decode cL_law 504 = .ok (.aload_n 0, 1) := by decide +kernel
theorem dL_law_505 : decode cL_law 505 = .ok (.iload 4, 2) := by decide +kernel
theorem dL_law_507 : decode cL_law 507 = .ok (.iconst 1, 1) := by decide +kernel
theorem dL_law_508 : decode cL_law 508 = .ok (.iadd, 1) := by decide +kernel
theorem dL_law_509 : decode cL_law 509 = .ok (.iaload, 1) := by decide +kernel
theorem dL_law_510 : decode cL_law 510 = .ok (.invokevirtual 84, 3) := by decide +kernel
theorem dL_law_513 : decode cL_law 513 = .ok (.if_icmp .eq 465, 3) := by decide +kernel
set_option maxHeartbeats 8000000 in
set_option maxRecDepth 100000 in
theorem law_8 {p : Program} {l : Launch} {e : Env} {s : State} {m : MethodId} {below : List Frame} {meth : Method} {c : Code} {H : Heap} {locs : List Loc} {A : Nat → Prop} {b : Nat} {xs : Nat → Int32} {ls : Array Slot} {D : va_G} {g : xe_G} {h0 : Nat} {qc : Nat} {cB : ClassId} {m0 : Nat} {fs : List Value} {q1 : Nat} {q2 : Nat} {q4 : Nat} {q5 : Nat} {q6 : Nat} {q7 : Nat} {a1 : ClassId} {a2 : ClassId} {a4 : ClassId} {a5 : ClassId} {a6 : ClassId} {a7 : ClassId} {f1 : Nat → Int32} {f2 : Nat → Int32} {f4 : Nat → Int32} {f5 : Nat → Int32} {f6 : Nat → Int32} {f7 : Nat → Int32} {qf : Nat} {qm : Nat} {aM : ClassId} {fM : Nat → Int32} {qo : Nat} {aO : ClassId} (hx : p.tables.exec = Jvm.exec) (hb : c.code = cL_law) (hr : meth.sig.returnType = ret) (hml : c.maxLocals = 7) (hlocks : meth.locks = false) (hown : s.vm.findClass RL = some m.cls) (htb : ∀ w ∈ bg, w.before #[Value.ref b] s = true) (hX : va_X b 6 xs s s.heap) (hbl : b < s.heap.size) (hAe : A = fun q : Nat => s.heap.size ≤ q) (hbA : ¬ A b) (hA : ∀ q : Nat, s.heap.size ≤ q → A q) (hE : xe_E g A s s.heap) (hnt : l.stackTraces = false) (hm : md_has fs [(1, .ref q1), (2, .ref q2), (4, .ref q4), (5, .ref q5), (6, .ref q6), (7, .ref q7), (13, .ref qf), (15, .ref qm), (17, .int 0), (18, .int (-1)), (19, .int 0), (73, .int (-1))]) (hK : va_K D vwCl [(cB, .byte), (a1, .char), (a2, .char), (a4, .int), (a5, .int), (a6, .int), (a7, .int), (aM, .byte), (aO, .long)] s) (hP : va_P D vwCl [(h0, .inr (11, [.ref qc, .int 0, .ref g.1, .null, .int (-1)])), (qc, .inl (cB, 1024, .inl (fun _ => 0))), (m0, .inr (12, fs)), (q1, .inl (a1, 66000, .inl f1)), (q2, .inl (a2, 66000, .inl f2)), (q4, .inl (a4, 24000, .inl f4)), (q5, .inl (a5, 24000, .inl f5)), (q6, .inl (a6, 24000, .inl f6)), (q7, .inl (a7, 4096, .inl f7)), (qm, .inl (aM, 65560, .inl fM)), (qo, .inl (aO, 1, .inr (.inl (fun _ => 0))))] H) (hD : va_D A [(h0, .inr (11, [.ref qc, .int 0, .ref g.1, .null, .int (-1)])), (qc, .inl (cB, 1024, .inl (fun _ => 0))), (m0, .inr (12, fs)), (q1, .inl (a1, 66000, .inl f1)), (q2, .inl (a2, 66000, .inl f2)), (q4, .inl (a4, 24000, .inl f4)), (q5, .inl (a5, 24000, .inl f5)), (q6, .inl (a6, 24000, .inl f6)), (q7, .inl (a7, 4096, .inl f7)), (qm, .inl (aM, 65560, .inl fM)), (qo, .inl (aO, 1, .inr (.inl (fun _ => 0))))]) (hS : va_S A s.heap H locs) (hl : lv_has ls 7 [(0, .ref b), (1, .ref h0), (2, .ref m0), (3, .ref qo), (4, .int 0)]) : W p l e room_1 s m #[Value.ref b] below meth c H locs 43 899680 (lw_Z below #[Value.ref b] s) (F0 m 493 ls []) := by
  refine lv_aload_n hx hb dL_law_493 rfl (lv_at hl 1 rfl) ?_
  refine lv_aload_n hx hb dL_law_494 rfl (lv_at hl 0 rfl) ?_
  refine lv_iload hx hb dL_law_495 (lv_at hl 4 rfl) ?_
  refine lv_iconst (v := 1) hx hb dL_law_497 (by decide) ?_
  refine lv_iadd hx hb dL_law_498 ?_
  refine va_sld hx hb hX hbl hbA hS (by unfold vp_in; decide) dL_law_499 ?_
  refine xb_goi (wr := [(qc, .inl (cB, 1024, .inl (fun _ => 0))), (m0, .inr (12, fs)), (q1, .inl (a1, 66000, .inl f1)), (q2, .inl (a2, 66000, .inl f2)), (q4, .inl (a4, 24000, .inl f4)), (q5, .inl (a5, 24000, .inl f5)), (q6, .inl (a6, 24000, .inl f6)), (q7, .inl (a7, 4096, .inl f7)), (qm, .inl (aM, 65560, .inl fM)), (qo, .inl (aO, 1, .inr (.inl (fun _ => 0))))]) (va_runV (As := [.int (xs (Int32.toNatClampNeg (0 + 1)))]) (rest := []) ⟨hx, hb, hml, hown, htb⟩ (cg_places l D g h0 qc 0 g.1 (-1) (xs (Int32.toNatClampNeg (0 + 1))) (Array.size H) ) (bg_V 1 htb bg_402 bg_403 bg_404 bg_18 bg_70 rfl rfl (by decide +kernel) ⟨Nat.le_of_ble_eq_true rfl, Nat.le_of_ble_eq_true rfl⟩) ⟨xb_blind xe_ok, va_recv hK hP (ci := 11) (q0 := 0) rfl rfl, xb_enter xe_ok hK hP hD hS hA hE [0] rfl rfl rfl [] rfl⟩ rfl rfl hl.1 rfl (lv_room (Nat.le_of_ble_eq_true rfl)) dL_law_500 ⟨Nat.le_of_ble_eq_true rfl, Nat.le_of_ble_eq_true rfl⟩) hK hP hD hS hA [0] [1, 2, 3, 4, 5, 6, 7, 8, 9, 10] rfl rfl rfl (by decide) (fun r_500 u_500 H locs hw_500 hP hD hK hS => ?_)
  have hP : va_P D vwCl [(qc, .inl (cB, 1024, .inl (fun _ => 0))), (m0, .inr (12, fs)), (q1, .inl (a1, 66000, .inl f1)), (q2, .inl (a2, 66000, .inl f2)), (q4, .inl (a4, 24000, .inl f4)), (q5, .inl (a5, 24000, .inl f5)), (q6, .inl (a6, 24000, .inl f6)), (q7, .inl (a7, 4096, .inl f7)), (qm, .inl (aM, 65560, .inl fM)), (qo, .inl (aO, 1, .inr (.inl (fun _ => 0)))), (h0, .inr (11, [.ref qc, .int 0, .ref g.1, .null, .int (-1)]))] H := hP
  have hD : va_D A [(qc, .inl (cB, 1024, .inl (fun _ => 0))), (m0, .inr (12, fs)), (q1, .inl (a1, 66000, .inl f1)), (q2, .inl (a2, 66000, .inl f2)), (q4, .inl (a4, 24000, .inl f4)), (q5, .inl (a5, 24000, .inl f5)), (q6, .inl (a6, 24000, .inl f6)), (q7, .inl (a7, 4096, .inl f7)), (qm, .inl (aM, 65560, .inl fM)), (qo, .inl (aO, 1, .inr (.inl (fun _ => 0)))), (h0, .inr (11, [.ref qc, .int 0, .ref g.1, .null, .int (-1)]))] := hD
  have hK : va_K D vwCl [(cB, .byte), (a1, .char), (a2, .char), (a4, .int), (a5, .int), (a6, .int), (a7, .int), (aM, .byte), (aO, .long)] s := hK
  refine W.widen (k := 43) (n := 899680) (by decide) (by decide) ?_
  have hw_500 : r_500 = (-1) := hw_500
  subst hw_500
  refine lv_aload_n hx hb dL_law_503 rfl (lv_at hl 2 rfl) ?_
  refine lv_aload_n hx hb dL_law_504 rfl (lv_at hl 0 rfl) ?_
  refine lv_iload hx hb dL_law_505 (lv_at hl 4 rfl) ?_
  refine lv_iconst (v := 1) hx hb dL_law_507 (by decide) ?_
  refine lv_iadd hx hb dL_law_508 ?_
  refine va_sld hx hb hX hbl hbA hS (by unfold vp_in; decide) dL_law_509 ?_
  refine xb_goi (wr := [(qc, .inl (cB, 1024, .inl (fun _ => 0))), (q1, .inl (a1, 66000, .inl f1)), (q2, .inl (a2, 66000, .inl f2)), (q4, .inl (a4, 24000, .inl f4)), (q5, .inl (a5, 24000, .inl f5)), (q6, .inl (a6, 24000, .inl f6)), (q7, .inl (a7, 4096, .inl f7)), (qm, .inl (aM, 65560, .inl fM)), (qo, .inl (aO, 1, .inr (.inl (fun _ => 0)))), (h0, .inr (11, [.ref qc, .int 0, .ref g.1, .null, .int (-1)]))]) (va_runV (As := [.int (xs (Int32.toNatClampNeg (0 + 1)))]) (rest := [.int (-1)]) ⟨hx, hb, hml, hown, htb⟩ (mm_places l D g m0 fs (xs (Int32.toNatClampNeg (0 + 1))) (Array.size H) (md_sub hm [9] rfl)) (bg_V 1 htb bg_405 bg_406 bg_407 bg_144 bg_236 rfl rfl (by decide +kernel) ⟨Nat.le_of_ble_eq_true rfl, Nat.le_of_ble_eq_true rfl⟩) ⟨xb_blind xe_ok, va_recv hK hP (ci := 12) (q0 := 1) rfl rfl, xb_enter xe_ok hK hP hD hS hA hE [1] rfl rfl rfl [] rfl⟩ rfl rfl hl.1 rfl (lv_room (Nat.le_of_ble_eq_true rfl)) dL_law_510 ⟨Nat.le_of_ble_eq_true rfl, Nat.le_of_ble_eq_true rfl⟩) hK hP hD hS hA [1] [0, 2, 3, 4, 5, 6, 7, 8, 9, 10] rfl rfl rfl (by decide) (fun r_510 u_510 H locs hw_510 hP hD hK hS => ?_)
  generalize u_510 = fs at hP hD hK hw_510
  have hP : va_P D vwCl [(qc, .inl (cB, 1024, .inl (fun _ => 0))), (q1, .inl (a1, 66000, .inl f1)), (q2, .inl (a2, 66000, .inl f2)), (q4, .inl (a4, 24000, .inl f4)), (q5, .inl (a5, 24000, .inl f5)), (q6, .inl (a6, 24000, .inl f6)), (q7, .inl (a7, 4096, .inl f7)), (qm, .inl (aM, 65560, .inl fM)), (qo, .inl (aO, 1, .inr (.inl (fun _ => 0)))), (h0, .inr (11, [.ref qc, .int 0, .ref g.1, .null, .int (-1)])), (m0, .inr (12, fs))] H := hP
  have hD : va_D A [(qc, .inl (cB, 1024, .inl (fun _ => 0))), (q1, .inl (a1, 66000, .inl f1)), (q2, .inl (a2, 66000, .inl f2)), (q4, .inl (a4, 24000, .inl f4)), (q5, .inl (a5, 24000, .inl f5)), (q6, .inl (a6, 24000, .inl f6)), (q7, .inl (a7, 4096, .inl f7)), (qm, .inl (aM, 65560, .inl fM)), (qo, .inl (aO, 1, .inr (.inl (fun _ => 0)))), (h0, .inr (11, [.ref qc, .int 0, .ref g.1, .null, .int (-1)])), (m0, .inr (12, fs))] := hD
  have hK : va_K D vwCl [(cB, .byte), (a1, .char), (a2, .char), (a4, .int), (a5, .int), (a6, .int), (a7, .int), (aM, .byte), (aO, .long)] s := hK
  refine W.widen (k := 43) (n := 899680) (by decide) (by decide) ?_
  obtain ⟨hw_510, hm⟩ := hw_510
  have hm : md_has fs [(0, .int 0)] := hm
  have hw_510 : r_510 = (-1) := hw_510
  subst hw_510
  refine lv_icmp_eq (tgt := 978) hx hb dL_law_513 (by decide) (fun c_513 => ?_) (fun c_513 => ?_)
  rotate_left
  · exact absurd (by decide) c_513
  exact law_done hx hb hr hml hlocks hX hbl hAe hbA hS (by decide) (by decide) (lv_sub hl [4, 0] rfl)
theorem dL_law_614 : decode cL_law 614 = .ok (.aload_n 1, 1) := by decide +kernel
theorem dL_law_615 : decode cL_law 615 = .ok (.aload_n 0, 1) := by decide +kernel
theorem dL_law_616 : decode cL_law 616 = .ok (.iload 4, 2) := by decide +kernel
theorem dL_law_618 : decode cL_law 618 = .ok (.iconst 1, 1) := by decide +kernel
theorem dL_law_619 : decode cL_law 619 = .ok (.iadd, 1) := by decide +kernel
theorem dL_law_620 : decode cL_law 620 = .ok (.iaload, 1) := by decide +kernel
theorem dL_law_621 : decode cL_law 621 = .ok (.ifCond .eq 7, 3) := by decide +kernel
theorem dL_law_624 : decode cL_law 624 = .ok (.iconst 1, 1) := by decide +kernel
theorem dL_law_625 : decode cL_law 625 = .ok (.goto 4, 3) := by decide +kernel
theorem dL_law_628 : decode cL_law 628 = .ok (.iconst 0, 1) := by decide +kernel
theorem dL_law_629 : decode cL_law 629 = .ok (.aload_n 0, 1) := by decide +kernel
theorem dL_law_630 : decode cL_law 630 = .ok (.iload 4, 2) := by decide +kernel
theorem dL_law_632 : decode cL_law 632 = .ok (.iconst 2, 1) := by decide +kernel
theorem dL_law_633 : decode cL_law 633 = .ok (.iadd, 1) := by decide +kernel
theorem dL_law_634 : decode cL_law 634 = .ok (.iaload, 1) := by decide +kernel
theorem dL_law_635 : decode cL_law 635 = .ok (.aload_n 0, 1) := by decide +kernel
theorem dL_law_636 : decode cL_law 636 = .ok (.iload 4, 2) := by decide +kernel
theorem dL_law_638 : decode cL_law 638 = .ok (.iconst 3, 1) := by decide +kernel
theorem dL_law_639 : decode cL_law 639 = .ok (.iadd, 1) := by decide +kernel
theorem dL_law_640 : decode cL_law 640 = .ok (.iaload, 1) := by decide +kernel
theorem dL_law_641 : decode cL_law 641 = .ok (.invokevirtual 89, 3) := by decide +kernel
theorem dL_law_644 : decode cL_law 644 = .ok (.aload_n 2, 1) := by decide +kernel
theorem dL_law_645 : decode cL_law 645 = .ok (.aload_n 0, 1) := by decide +kernel
theorem dL_law_646 : decode cL_law 646 = .ok (.iload 4, 2) := by decide +kernel
theorem dL_law_648 : decode cL_law 648 = .ok (.iconst 1, 1) := by decide +kernel
theorem dL_law_649 : decode cL_law 649 = .ok (.iadd, 1) := by decide +kernel
theorem dL_law_650 : decode cL_law 650 = .ok (.iaload, 1) := by decide +kernel
theorem dL_law_651 : decode cL_law 651 = .ok (.ifCond .eq 7, 3) := by decide +kernel
theorem dL_law_654 : decode cL_law 654 = .ok (.iconst 1, 1) := by decide +kernel
theorem dL_law_655 : decode cL_law 655 = .ok (.goto 4, 3) := by decide +kernel
theorem dL_law_658 : decode cL_law 658 = .ok (.iconst 0, 1) := by decide +kernel
theorem dL_law_659 : decode cL_law 659 = .ok (.aload_n 0, 1) := by decide +kernel
theorem dL_law_660 : decode cL_law 660 = .ok (.iload 4, 2) := by decide +kernel
theorem dL_law_662 : decode cL_law 662 = .ok (.iconst 2, 1) := by decide +kernel
theorem dL_law_663 : decode cL_law 663 = .ok (.iadd, 1) := by decide +kernel
theorem dL_law_664 : decode cL_law 664 = .ok (.iaload, 1) := by decide +kernel
theorem dL_law_665 : decode cL_law 665 = .ok (.aload_n 0, 1) := by decide +kernel
theorem dL_law_666 : decode cL_law 666 = .ok (.iload 4, 2) := by decide +kernel
theorem dL_law_668 : decode cL_law 668 = .ok (.iconst 3, 1) := by decide +kernel
theorem dL_law_669 : decode cL_law 669 = .ok (.iadd, 1) := by decide +kernel
theorem dL_law_670 : decode cL_law 670 = .ok (.iaload, 1) := by decide +kernel
theorem dL_law_671 : decode cL_law 671 = .ok (.invokevirtual 92, 3) := by decide +kernel
theorem dL_law_674 : decode cL_law 674 = .ok (.if_icmp .eq 304, 3) := by decide +kernel
set_option maxHeartbeats 8000000 in
set_option maxRecDepth 100000 in
theorem law_10 {p : Program} {l : Launch} {e : Env} {s : State} {m : MethodId} {below : List Frame} {meth : Method} {c : Code} {H : Heap} {locs : List Loc} {A : Nat → Prop} {b : Nat} {xs : Nat → Int32} {ls : Array Slot} {D : va_G} {g : xe_G} {h0 : Nat} {qc : Nat} {cB : ClassId} {m0 : Nat} {fs : List Value} {q1 : Nat} {q2 : Nat} {q4 : Nat} {q5 : Nat} {q6 : Nat} {q7 : Nat} {a1 : ClassId} {a2 : ClassId} {a4 : ClassId} {a5 : ClassId} {a6 : ClassId} {a7 : ClassId} {f1 : Nat → Int32} {f2 : Nat → Int32} {f4 : Nat → Int32} {f5 : Nat → Int32} {f6 : Nat → Int32} {f7 : Nat → Int32} {qf : Nat} {qm : Nat} {aM : ClassId} {fM : Nat → Int32} {qo : Nat} {aO : ClassId} (hx : p.tables.exec = Jvm.exec) (hb : c.code = cL_law) (hr : meth.sig.returnType = ret) (hml : c.maxLocals = 7) (hlocks : meth.locks = false) (hown : s.vm.findClass RL = some m.cls) (htb : ∀ w ∈ bg, w.before #[Value.ref b] s = true) (hX : va_X b 6 xs s s.heap) (hbl : b < s.heap.size) (hAe : A = fun q : Nat => s.heap.size ≤ q) (hbA : ¬ A b) (hA : ∀ q : Nat, s.heap.size ≤ q → A q) (hE : xe_E g A s s.heap) (hnt : l.stackTraces = false) (hm : md_has fs [(1, .ref q1), (2, .ref q2), (4, .ref q4), (5, .ref q5), (6, .ref q6), (7, .ref q7), (13, .ref qf), (15, .ref qm), (17, .int 0), (18, .int (-1)), (19, .int 0), (73, .int (-1))]) (hK : va_K D vwCl [(cB, .byte), (a1, .char), (a2, .char), (a4, .int), (a5, .int), (a6, .int), (a7, .int), (aM, .byte), (aO, .long)] s) (hP : va_P D vwCl [(h0, .inr (11, [.ref qc, .int 0, .ref g.1, .null, .int (-1)])), (qc, .inl (cB, 1024, .inl (fun _ => 0))), (m0, .inr (12, fs)), (q1, .inl (a1, 66000, .inl f1)), (q2, .inl (a2, 66000, .inl f2)), (q4, .inl (a4, 24000, .inl f4)), (q5, .inl (a5, 24000, .inl f5)), (q6, .inl (a6, 24000, .inl f6)), (q7, .inl (a7, 4096, .inl f7)), (qm, .inl (aM, 65560, .inl fM)), (qo, .inl (aO, 1, .inr (.inl (fun _ => 0))))] H) (hD : va_D A [(h0, .inr (11, [.ref qc, .int 0, .ref g.1, .null, .int (-1)])), (qc, .inl (cB, 1024, .inl (fun _ => 0))), (m0, .inr (12, fs)), (q1, .inl (a1, 66000, .inl f1)), (q2, .inl (a2, 66000, .inl f2)), (q4, .inl (a4, 24000, .inl f4)), (q5, .inl (a5, 24000, .inl f5)), (q6, .inl (a6, 24000, .inl f6)), (q7, .inl (a7, 4096, .inl f7)), (qm, .inl (aM, 65560, .inl fM)), (qo, .inl (aO, 1, .inr (.inl (fun _ => 0))))]) (hS : va_S A s.heap H locs) (hl : lv_has ls 7 [(0, .ref b), (1, .ref h0), (2, .ref m0), (3, .ref qo), (4, .int 0)]) : W p l e room_1 s m #[Value.ref b] below meth c H locs 43 899680 (lw_Z below #[Value.ref b] s) (F0 m 614 ls []) := by
  refine lv_aload_n hx hb dL_law_614 rfl (lv_at hl 1 rfl) ?_
  refine lv_aload_n hx hb dL_law_615 rfl (lv_at hl 0 rfl) ?_
  refine lv_iload hx hb dL_law_616 (lv_at hl 4 rfl) ?_
  refine lv_iconst (v := 1) hx hb dL_law_618 (by decide) ?_
  refine lv_iadd hx hb dL_law_619 ?_
  refine va_sld hx hb hX hbl hbA hS (by unfold vp_in; decide) dL_law_620 ?_
  refine lv_if_eq (tgt := 628) hx hb dL_law_621 (by decide) (fun c_621 => ?_) (fun c_621 => ?_)
  · skip
    refine lv_iconst (v := 0) hx hb dL_law_628 (by decide) ?_
    refine lv_aload_n hx hb dL_law_629 rfl (lv_at hl 0 rfl) ?_
    refine lv_iload hx hb dL_law_630 (lv_at hl 4 rfl) ?_
    refine lv_iconst (v := 2) hx hb dL_law_632 (by decide) ?_
    refine lv_iadd hx hb dL_law_633 ?_
    refine va_sld hx hb hX hbl hbA hS (by unfold vp_in; decide) dL_law_634 ?_
    refine lv_aload_n hx hb dL_law_635 rfl (lv_at hl 0 rfl) ?_
    refine lv_iload hx hb dL_law_636 (lv_at hl 4 rfl) ?_
    refine lv_iconst (v := 3) hx hb dL_law_638 (by decide) ?_
    refine lv_iadd hx hb dL_law_639 ?_
    refine va_sld hx hb hX hbl hbA hS (by unfold vp_in; decide) dL_law_640 ?_
    refine xb_goi (wr := [(qc, .inl (cB, 1024, .inl (fun _ => 0))), (m0, .inr (12, fs)), (q1, .inl (a1, 66000, .inl f1)), (q2, .inl (a2, 66000, .inl f2)), (q4, .inl (a4, 24000, .inl f4)), (q5, .inl (a5, 24000, .inl f5)), (q6, .inl (a6, 24000, .inl f6)), (q7, .inl (a7, 4096, .inl f7)), (qm, .inl (aM, 65560, .inl fM)), (qo, .inl (aO, 1, .inr (.inl (fun _ => 0))))]) (va_runV (As := [.int 0, .int (xs (Int32.toNatClampNeg (0 + 2))), .int (xs (Int32.toNatClampNeg (0 + 3)))]) (rest := []) ⟨hx, hb, hml, hown, htb⟩ (cg_find l D g h0 qc 0 g.1 (-1) 0 (xs (Int32.toNatClampNeg (0 + 2))) (xs (Int32.toNatClampNeg (0 + 3))) (Array.size H) ) (bg_V 3 htb bg_413 bg_414 bg_415 bg_18 bg_72 rfl rfl (by decide +kernel) ⟨Nat.le_of_ble_eq_true rfl, Nat.le_of_ble_eq_true rfl⟩) ⟨xb_blind xe_ok, va_recv hK hP (ci := 11) (q0 := 0) rfl rfl, xb_enter xe_ok hK hP hD hS hA hE [0] rfl rfl rfl [] rfl⟩ rfl rfl hl.1 rfl (lv_room (Nat.le_of_ble_eq_true rfl)) dL_law_641 ⟨Nat.le_of_ble_eq_true rfl, Nat.le_of_ble_eq_true rfl⟩) hK hP hD hS hA [0] [1, 2, 3, 4, 5, 6, 7, 8, 9, 10] rfl rfl rfl (by decide) (fun r_641 u_641 H locs hw_641 hP hD hK hS => ?_)
    have hP : va_P D vwCl [(qc, .inl (cB, 1024, .inl (fun _ => 0))), (m0, .inr (12, fs)), (q1, .inl (a1, 66000, .inl f1)), (q2, .inl (a2, 66000, .inl f2)), (q4, .inl (a4, 24000, .inl f4)), (q5, .inl (a5, 24000, .inl f5)), (q6, .inl (a6, 24000, .inl f6)), (q7, .inl (a7, 4096, .inl f7)), (qm, .inl (aM, 65560, .inl fM)), (qo, .inl (aO, 1, .inr (.inl (fun _ => 0)))), (h0, .inr (11, [.ref qc, .int 0, .ref g.1, .null, .int (-1)]))] H := hP
    have hD : va_D A [(qc, .inl (cB, 1024, .inl (fun _ => 0))), (m0, .inr (12, fs)), (q1, .inl (a1, 66000, .inl f1)), (q2, .inl (a2, 66000, .inl f2)), (q4, .inl (a4, 24000, .inl f4)), (q5, .inl (a5, 24000, .inl f5)), (q6, .inl (a6, 24000, .inl f6)), (q7, .inl (a7, 4096, .inl f7)), (qm, .inl (aM, 65560, .inl fM)), (qo, .inl (aO, 1, .inr (.inl (fun _ => 0)))), (h0, .inr (11, [.ref qc, .int 0, .ref g.1, .null, .int (-1)]))] := hD
    have hK : va_K D vwCl [(cB, .byte), (a1, .char), (a2, .char), (a4, .int), (a5, .int), (a6, .int), (a7, .int), (aM, .byte), (aO, .long)] s := hK
    refine W.widen (k := 43) (n := 899680) (by decide) (by decide) ?_
    have hw_641 : r_641 = (-1) := hw_641
    subst hw_641
    refine lv_aload_n hx hb dL_law_644 rfl (lv_at hl 2 rfl) ?_
    refine lv_aload_n hx hb dL_law_645 rfl (lv_at hl 0 rfl) ?_
    refine lv_iload hx hb dL_law_646 (lv_at hl 4 rfl) ?_
    refine lv_iconst (v := 1) hx hb dL_law_648 (by decide) ?_
    refine lv_iadd hx hb dL_law_649 ?_
    refine va_sld hx hb hX hbl hbA hS (by unfold vp_in; decide) dL_law_650 ?_
    refine lv_if_eq (tgt := 658) hx hb dL_law_651 (by decide) (fun c_651 => ?_) (fun c_651 => ?_)
    rotate_left
    · exact absurd (c_621) c_651
    refine lv_iconst (v := 0) hx hb dL_law_658 (by decide) ?_
    refine lv_aload_n hx hb dL_law_659 rfl (lv_at hl 0 rfl) ?_
    refine lv_iload hx hb dL_law_660 (lv_at hl 4 rfl) ?_
    refine lv_iconst (v := 2) hx hb dL_law_662 (by decide) ?_
    refine lv_iadd hx hb dL_law_663 ?_
    refine va_sld hx hb hX hbl hbA hS (by unfold vp_in; decide) dL_law_664 ?_
    refine lv_aload_n hx hb dL_law_665 rfl (lv_at hl 0 rfl) ?_
    refine lv_iload hx hb dL_law_666 (lv_at hl 4 rfl) ?_
    refine lv_iconst (v := 3) hx hb dL_law_668 (by decide) ?_
    refine lv_iadd hx hb dL_law_669 ?_
    refine va_sld hx hb hX hbl hbA hS (by unfold vp_in; decide) dL_law_670 ?_
    refine xb_goi (wr := [(qc, .inl (cB, 1024, .inl (fun _ => 0))), (q1, .inl (a1, 66000, .inl f1)), (q2, .inl (a2, 66000, .inl f2)), (q4, .inl (a4, 24000, .inl f4)), (q5, .inl (a5, 24000, .inl f5)), (q6, .inl (a6, 24000, .inl f6)), (q7, .inl (a7, 4096, .inl f7)), (qm, .inl (aM, 65560, .inl fM)), (qo, .inl (aO, 1, .inr (.inl (fun _ => 0)))), (h0, .inr (11, [.ref qc, .int 0, .ref g.1, .null, .int (-1)]))]) (va_runV (As := [.int 0, .int (xs (Int32.toNatClampNeg (0 + 2))), .int (xs (Int32.toNatClampNeg (0 + 3)))]) (rest := [.int (-1)]) ⟨hx, hb, hml, hown, htb⟩ (mm_find l D g m0 fs 0 (xs (Int32.toNatClampNeg (0 + 2))) (xs (Int32.toNatClampNeg (0 + 3))) (Array.size H) (md_sub hm [9] rfl)) (bg_V 3 htb bg_416 bg_417 bg_418 bg_144 bg_233 rfl rfl (by decide +kernel) ⟨Nat.le_of_ble_eq_true rfl, Nat.le_of_ble_eq_true rfl⟩) ⟨xb_blind xe_ok, va_recv hK hP (ci := 12) (q0 := 1) rfl rfl, xb_enter xe_ok hK hP hD hS hA hE [1] rfl rfl rfl [] rfl⟩ rfl rfl hl.1 rfl (lv_room (Nat.le_of_ble_eq_true rfl)) dL_law_671 ⟨Nat.le_of_ble_eq_true rfl, Nat.le_of_ble_eq_true rfl⟩) hK hP hD hS hA [1] [0, 2, 3, 4, 5, 6, 7, 8, 9, 10] rfl rfl rfl (by decide) (fun r_671 u_671 H locs hw_671 hP hD hK hS => ?_)
    generalize u_671 = fs at hP hD hK hw_671
    have hP : va_P D vwCl [(qc, .inl (cB, 1024, .inl (fun _ => 0))), (q1, .inl (a1, 66000, .inl f1)), (q2, .inl (a2, 66000, .inl f2)), (q4, .inl (a4, 24000, .inl f4)), (q5, .inl (a5, 24000, .inl f5)), (q6, .inl (a6, 24000, .inl f6)), (q7, .inl (a7, 4096, .inl f7)), (qm, .inl (aM, 65560, .inl fM)), (qo, .inl (aO, 1, .inr (.inl (fun _ => 0)))), (h0, .inr (11, [.ref qc, .int 0, .ref g.1, .null, .int (-1)])), (m0, .inr (12, fs))] H := hP
    have hD : va_D A [(qc, .inl (cB, 1024, .inl (fun _ => 0))), (q1, .inl (a1, 66000, .inl f1)), (q2, .inl (a2, 66000, .inl f2)), (q4, .inl (a4, 24000, .inl f4)), (q5, .inl (a5, 24000, .inl f5)), (q6, .inl (a6, 24000, .inl f6)), (q7, .inl (a7, 4096, .inl f7)), (qm, .inl (aM, 65560, .inl fM)), (qo, .inl (aO, 1, .inr (.inl (fun _ => 0)))), (h0, .inr (11, [.ref qc, .int 0, .ref g.1, .null, .int (-1)])), (m0, .inr (12, fs))] := hD
    have hK : va_K D vwCl [(cB, .byte), (a1, .char), (a2, .char), (a4, .int), (a5, .int), (a6, .int), (a7, .int), (aM, .byte), (aO, .long)] s := hK
    refine W.widen (k := 43) (n := 899680) (by decide) (by decide) ?_
    obtain ⟨hw_671, hm⟩ := hw_671
    have hm : md_has fs [(0, .int 0)] := hm
    have hw_671 : r_671 = (-1) := hw_671
    subst hw_671
    refine lv_icmp_eq (tgt := 978) hx hb dL_law_674 (by decide) (fun c_674 => ?_) (fun c_674 => ?_)
    rotate_left
    · exact absurd (by decide) c_674
    exact law_done hx hb hr hml hlocks hX hbl hAe hbA hS (by decide) (by decide) (lv_sub hl [4, 0] rfl)
  · skip
    refine lv_iconst (v := 1) hx hb dL_law_624 (by decide) ?_
    refine lv_goto (tgt := 629) hx hb dL_law_625 (by decide) ?_
    refine lv_aload_n hx hb dL_law_629 rfl (lv_at hl 0 rfl) ?_
    refine lv_iload hx hb dL_law_630 (lv_at hl 4 rfl) ?_
    refine lv_iconst (v := 2) hx hb dL_law_632 (by decide) ?_
    refine lv_iadd hx hb dL_law_633 ?_
    refine va_sld hx hb hX hbl hbA hS (by unfold vp_in; decide) dL_law_634 ?_
    refine lv_aload_n hx hb dL_law_635 rfl (lv_at hl 0 rfl) ?_
    refine lv_iload hx hb dL_law_636 (lv_at hl 4 rfl) ?_
    refine lv_iconst (v := 3) hx hb dL_law_638 (by decide) ?_
    refine lv_iadd hx hb dL_law_639 ?_
    refine va_sld hx hb hX hbl hbA hS (by unfold vp_in; decide) dL_law_640 ?_
    refine xb_goi (wr := [(qc, .inl (cB, 1024, .inl (fun _ => 0))), (m0, .inr (12, fs)), (q1, .inl (a1, 66000, .inl f1)), (q2, .inl (a2, 66000, .inl f2)), (q4, .inl (a4, 24000, .inl f4)), (q5, .inl (a5, 24000, .inl f5)), (q6, .inl (a6, 24000, .inl f6)), (q7, .inl (a7, 4096, .inl f7)), (qm, .inl (aM, 65560, .inl fM)), (qo, .inl (aO, 1, .inr (.inl (fun _ => 0))))]) (va_runV (As := [.int 1, .int (xs (Int32.toNatClampNeg (0 + 2))), .int (xs (Int32.toNatClampNeg (0 + 3)))]) (rest := []) ⟨hx, hb, hml, hown, htb⟩ (cg_find l D g h0 qc 0 g.1 (-1) 1 (xs (Int32.toNatClampNeg (0 + 2))) (xs (Int32.toNatClampNeg (0 + 3))) (Array.size H) ) (bg_V 3 htb bg_413 bg_414 bg_415 bg_18 bg_72 rfl rfl (by decide +kernel) ⟨Nat.le_of_ble_eq_true rfl, Nat.le_of_ble_eq_true rfl⟩) ⟨xb_blind xe_ok, va_recv hK hP (ci := 11) (q0 := 0) rfl rfl, xb_enter xe_ok hK hP hD hS hA hE [0] rfl rfl rfl [] rfl⟩ rfl rfl hl.1 rfl (lv_room (Nat.le_of_ble_eq_true rfl)) dL_law_641 ⟨Nat.le_of_ble_eq_true rfl, Nat.le_of_ble_eq_true rfl⟩) hK hP hD hS hA [0] [1, 2, 3, 4, 5, 6, 7, 8, 9, 10] rfl rfl rfl (by decide) (fun r_641 u_641 H locs hw_641 hP hD hK hS => ?_)
    have hP : va_P D vwCl [(qc, .inl (cB, 1024, .inl (fun _ => 0))), (m0, .inr (12, fs)), (q1, .inl (a1, 66000, .inl f1)), (q2, .inl (a2, 66000, .inl f2)), (q4, .inl (a4, 24000, .inl f4)), (q5, .inl (a5, 24000, .inl f5)), (q6, .inl (a6, 24000, .inl f6)), (q7, .inl (a7, 4096, .inl f7)), (qm, .inl (aM, 65560, .inl fM)), (qo, .inl (aO, 1, .inr (.inl (fun _ => 0)))), (h0, .inr (11, [.ref qc, .int 0, .ref g.1, .null, .int (-1)]))] H := hP
    have hD : va_D A [(qc, .inl (cB, 1024, .inl (fun _ => 0))), (m0, .inr (12, fs)), (q1, .inl (a1, 66000, .inl f1)), (q2, .inl (a2, 66000, .inl f2)), (q4, .inl (a4, 24000, .inl f4)), (q5, .inl (a5, 24000, .inl f5)), (q6, .inl (a6, 24000, .inl f6)), (q7, .inl (a7, 4096, .inl f7)), (qm, .inl (aM, 65560, .inl fM)), (qo, .inl (aO, 1, .inr (.inl (fun _ => 0)))), (h0, .inr (11, [.ref qc, .int 0, .ref g.1, .null, .int (-1)]))] := hD
    have hK : va_K D vwCl [(cB, .byte), (a1, .char), (a2, .char), (a4, .int), (a5, .int), (a6, .int), (a7, .int), (aM, .byte), (aO, .long)] s := hK
    refine W.widen (k := 43) (n := 899680) (by decide) (by decide) ?_
    have hw_641 : r_641 = (-1) := hw_641
    subst hw_641
    refine lv_aload_n hx hb dL_law_644 rfl (lv_at hl 2 rfl) ?_
    refine lv_aload_n hx hb dL_law_645 rfl (lv_at hl 0 rfl) ?_
    refine lv_iload hx hb dL_law_646 (lv_at hl 4 rfl) ?_
    refine lv_iconst (v := 1) hx hb dL_law_648 (by decide) ?_
    refine lv_iadd hx hb dL_law_649 ?_
    refine va_sld hx hb hX hbl hbA hS (by unfold vp_in; decide) dL_law_650 ?_
    refine lv_if_eq (tgt := 658) hx hb dL_law_651 (by decide) (fun c_651 => ?_) (fun c_651 => ?_)
    · exact absurd c_651 (c_621)
    refine lv_iconst (v := 1) hx hb dL_law_654 (by decide) ?_
    refine lv_goto (tgt := 659) hx hb dL_law_655 (by decide) ?_
    refine lv_aload_n hx hb dL_law_659 rfl (lv_at hl 0 rfl) ?_
    refine lv_iload hx hb dL_law_660 (lv_at hl 4 rfl) ?_
    refine lv_iconst (v := 2) hx hb dL_law_662 (by decide) ?_
    refine lv_iadd hx hb dL_law_663 ?_
    refine va_sld hx hb hX hbl hbA hS (by unfold vp_in; decide) dL_law_664 ?_
    refine lv_aload_n hx hb dL_law_665 rfl (lv_at hl 0 rfl) ?_
    refine lv_iload hx hb dL_law_666 (lv_at hl 4 rfl) ?_
    refine lv_iconst (v := 3) hx hb dL_law_668 (by decide) ?_
    refine lv_iadd hx hb dL_law_669 ?_
    refine va_sld hx hb hX hbl hbA hS (by unfold vp_in; decide) dL_law_670 ?_
    refine xb_goi (wr := [(qc, .inl (cB, 1024, .inl (fun _ => 0))), (q1, .inl (a1, 66000, .inl f1)), (q2, .inl (a2, 66000, .inl f2)), (q4, .inl (a4, 24000, .inl f4)), (q5, .inl (a5, 24000, .inl f5)), (q6, .inl (a6, 24000, .inl f6)), (q7, .inl (a7, 4096, .inl f7)), (qm, .inl (aM, 65560, .inl fM)), (qo, .inl (aO, 1, .inr (.inl (fun _ => 0)))), (h0, .inr (11, [.ref qc, .int 0, .ref g.1, .null, .int (-1)]))]) (va_runV (As := [.int 1, .int (xs (Int32.toNatClampNeg (0 + 2))), .int (xs (Int32.toNatClampNeg (0 + 3)))]) (rest := [.int (-1)]) ⟨hx, hb, hml, hown, htb⟩ (mm_find l D g m0 fs 1 (xs (Int32.toNatClampNeg (0 + 2))) (xs (Int32.toNatClampNeg (0 + 3))) (Array.size H) (md_sub hm [9] rfl)) (bg_V 3 htb bg_416 bg_417 bg_418 bg_144 bg_233 rfl rfl (by decide +kernel) ⟨Nat.le_of_ble_eq_true rfl, Nat.le_of_ble_eq_true rfl⟩) ⟨xb_blind xe_ok, va_recv hK hP (ci := 12) (q0 := 1) rfl rfl, xb_enter xe_ok hK hP hD hS hA hE [1] rfl rfl rfl [] rfl⟩ rfl rfl hl.1 rfl (lv_room (Nat.le_of_ble_eq_true rfl)) dL_law_671 ⟨Nat.le_of_ble_eq_true rfl, Nat.le_of_ble_eq_true rfl⟩) hK hP hD hS hA [1] [0, 2, 3, 4, 5, 6, 7, 8, 9, 10] rfl rfl rfl (by decide) (fun r_671 u_671 H locs hw_671 hP hD hK hS => ?_)
    generalize u_671 = fs at hP hD hK hw_671
    have hP : va_P D vwCl [(qc, .inl (cB, 1024, .inl (fun _ => 0))), (q1, .inl (a1, 66000, .inl f1)), (q2, .inl (a2, 66000, .inl f2)), (q4, .inl (a4, 24000, .inl f4)), (q5, .inl (a5, 24000, .inl f5)), (q6, .inl (a6, 24000, .inl f6)), (q7, .inl (a7, 4096, .inl f7)), (qm, .inl (aM, 65560, .inl fM)), (qo, .inl (aO, 1, .inr (.inl (fun _ => 0)))), (h0, .inr (11, [.ref qc, .int 0, .ref g.1, .null, .int (-1)])), (m0, .inr (12, fs))] H := hP
    have hD : va_D A [(qc, .inl (cB, 1024, .inl (fun _ => 0))), (q1, .inl (a1, 66000, .inl f1)), (q2, .inl (a2, 66000, .inl f2)), (q4, .inl (a4, 24000, .inl f4)), (q5, .inl (a5, 24000, .inl f5)), (q6, .inl (a6, 24000, .inl f6)), (q7, .inl (a7, 4096, .inl f7)), (qm, .inl (aM, 65560, .inl fM)), (qo, .inl (aO, 1, .inr (.inl (fun _ => 0)))), (h0, .inr (11, [.ref qc, .int 0, .ref g.1, .null, .int (-1)])), (m0, .inr (12, fs))] := hD
    have hK : va_K D vwCl [(cB, .byte), (a1, .char), (a2, .char), (a4, .int), (a5, .int), (a6, .int), (a7, .int), (aM, .byte), (aO, .long)] s := hK
    refine W.widen (k := 43) (n := 899680) (by decide) (by decide) ?_
    obtain ⟨hw_671, hm⟩ := hw_671
    have hm : md_has fs [(0, .int 0)] := hm
    have hw_671 : r_671 = (-1) := hw_671
    subst hw_671
    refine lv_icmp_eq (tgt := 978) hx hb dL_law_674 (by decide) (fun c_674 => ?_) (fun c_674 => ?_)
    rotate_left
    · exact absurd (by decide) c_674
    exact law_done hx hb hr hml hlocks hX hbl hAe hbA hS (by decide) (by decide) (lv_sub hl [4, 0] rfl)
theorem dL_law_759 : decode cL_law 759 = .ok (.aload_n 1, 1) := by decide +kernel
theorem dL_law_760 : decode cL_law 760 = .ok (.aload_n 0, 1) := by decide +kernel
theorem dL_law_761 : decode cL_law 761 = .ok (.iload 4, 2) := by decide +kernel
theorem dL_law_763 : decode cL_law 763 = .ok (.iconst 1, 1) := by decide +kernel
theorem dL_law_764 : decode cL_law 764 = .ok (.iadd, 1) := by decide +kernel
theorem dL_law_765 : decode cL_law 765 = .ok (.iaload, 1) := by decide +kernel
theorem dL_law_766 : decode cL_law 766 = .ok (.aload_n 0, 1) := by decide +kernel
theorem dL_law_767 : decode cL_law 767 = .ok (.iload 4, 2) := by decide +kernel
theorem dL_law_769 : decode cL_law 769 = .ok (.iconst 2, 1) := by decide +kernel
theorem dL_law_770 : decode cL_law 770 = .ok (.iadd, 1) := by decide +kernel
theorem dL_law_771 : decode cL_law 771 = .ok (.iaload, 1) := by decide +kernel
theorem dL_law_772 : decode cL_law 772 = .ok (.invokevirtual 97, 3) := by decide +kernel
theorem dL_law_775 : decode cL_law 775 = .ok (.aload_n 2, 1) := by decide +kernel
theorem dL_law_776 : decode cL_law 776 = .ok (.aload_n 0, 1) := by decide +kernel
theorem dL_law_777 : decode cL_law 777 = .ok (.iload 4, 2) := by decide +kernel
theorem dL_law_779 : decode cL_law 779 = .ok (.iconst 1, 1) := by decide +kernel
theorem dL_law_780 : decode cL_law 780 = .ok (.iadd, 1) := by decide +kernel
theorem dL_law_781 : decode cL_law 781 = .ok (.iaload, 1) := by decide +kernel
theorem dL_law_782 : decode cL_law 782 = .ok (.aload_n 0, 1) := by decide +kernel
theorem dL_law_783 : decode cL_law 783 = .ok (.iload 4, 2) := by decide +kernel
theorem dL_law_785 : decode cL_law 785 = .ok (.iconst 2, 1) := by decide +kernel
theorem dL_law_786 : decode cL_law 786 = .ok (.iadd, 1) := by decide +kernel
theorem dL_law_787 : decode cL_law 787 = .ok (.iaload, 1) := by decide +kernel
theorem dL_law_788 : decode cL_law 788 = .ok (.invokevirtual 100, 3) := by decide +kernel
theorem dL_law_791 : decode cL_law 791 = .ok (.if_icmp .eq 187, 3) := by decide +kernel
set_option maxHeartbeats 8000000 in
set_option maxRecDepth 100000 in
theorem law_12 {p : Program} {l : Launch} {e : Env} {s : State} {m : MethodId} {below : List Frame} {meth : Method} {c : Code} {H : Heap} {locs : List Loc} {A : Nat → Prop} {b : Nat} {xs : Nat → Int32} {ls : Array Slot} {D : va_G} {g : xe_G} {h0 : Nat} {qc : Nat} {cB : ClassId} {m0 : Nat} {fs : List Value} {q1 : Nat} {q2 : Nat} {q4 : Nat} {q5 : Nat} {q6 : Nat} {q7 : Nat} {a1 : ClassId} {a2 : ClassId} {a4 : ClassId} {a5 : ClassId} {a6 : ClassId} {a7 : ClassId} {f1 : Nat → Int32} {f2 : Nat → Int32} {f4 : Nat → Int32} {f5 : Nat → Int32} {f6 : Nat → Int32} {f7 : Nat → Int32} {qf : Nat} {qm : Nat} {aM : ClassId} {fM : Nat → Int32} {qo : Nat} {aO : ClassId} (hx : p.tables.exec = Jvm.exec) (hb : c.code = cL_law) (hr : meth.sig.returnType = ret) (hml : c.maxLocals = 7) (hlocks : meth.locks = false) (hown : s.vm.findClass RL = some m.cls) (htb : ∀ w ∈ bg, w.before #[Value.ref b] s = true) (hX : va_X b 6 xs s s.heap) (hbl : b < s.heap.size) (hAe : A = fun q : Nat => s.heap.size ≤ q) (hbA : ¬ A b) (hA : ∀ q : Nat, s.heap.size ≤ q → A q) (hE : xe_E g A s s.heap) (hnt : l.stackTraces = false) (hm : md_has fs [(1, .ref q1), (2, .ref q2), (4, .ref q4), (5, .ref q5), (6, .ref q6), (7, .ref q7), (13, .ref qf), (15, .ref qm), (17, .int 0), (18, .int (-1)), (19, .int 0), (73, .int (-1))]) (hK : va_K D vwCl [(cB, .byte), (a1, .char), (a2, .char), (a4, .int), (a5, .int), (a6, .int), (a7, .int), (aM, .byte), (aO, .long)] s) (hP : va_P D vwCl [(h0, .inr (11, [.ref qc, .int 0, .ref g.1, .null, .int (-1)])), (qc, .inl (cB, 1024, .inl (fun _ => 0))), (m0, .inr (12, fs)), (q1, .inl (a1, 66000, .inl f1)), (q2, .inl (a2, 66000, .inl f2)), (q4, .inl (a4, 24000, .inl f4)), (q5, .inl (a5, 24000, .inl f5)), (q6, .inl (a6, 24000, .inl f6)), (q7, .inl (a7, 4096, .inl f7)), (qm, .inl (aM, 65560, .inl fM)), (qo, .inl (aO, 1, .inr (.inl (fun _ => 0))))] H) (hD : va_D A [(h0, .inr (11, [.ref qc, .int 0, .ref g.1, .null, .int (-1)])), (qc, .inl (cB, 1024, .inl (fun _ => 0))), (m0, .inr (12, fs)), (q1, .inl (a1, 66000, .inl f1)), (q2, .inl (a2, 66000, .inl f2)), (q4, .inl (a4, 24000, .inl f4)), (q5, .inl (a5, 24000, .inl f5)), (q6, .inl (a6, 24000, .inl f6)), (q7, .inl (a7, 4096, .inl f7)), (qm, .inl (aM, 65560, .inl fM)), (qo, .inl (aO, 1, .inr (.inl (fun _ => 0))))]) (hS : va_S A s.heap H locs) (hl : lv_has ls 7 [(0, .ref b), (1, .ref h0), (2, .ref m0), (3, .ref qo), (4, .int 0)]) : W p l e room_1 s m #[Value.ref b] below meth c H locs 43 899680 (lw_Z below #[Value.ref b] s) (F0 m 759 ls []) := by
  refine lv_aload_n hx hb dL_law_759 rfl (lv_at hl 1 rfl) ?_
  refine lv_aload_n hx hb dL_law_760 rfl (lv_at hl 0 rfl) ?_
  refine lv_iload hx hb dL_law_761 (lv_at hl 4 rfl) ?_
  refine lv_iconst (v := 1) hx hb dL_law_763 (by decide) ?_
  refine lv_iadd hx hb dL_law_764 ?_
  refine va_sld hx hb hX hbl hbA hS (by unfold vp_in; decide) dL_law_765 ?_
  refine lv_aload_n hx hb dL_law_766 rfl (lv_at hl 0 rfl) ?_
  refine lv_iload hx hb dL_law_767 (lv_at hl 4 rfl) ?_
  refine lv_iconst (v := 2) hx hb dL_law_769 (by decide) ?_
  refine lv_iadd hx hb dL_law_770 ?_
  refine va_sld hx hb hX hbl hbA hS (by unfold vp_in; decide) dL_law_771 ?_
  refine xb_goi (wr := [(qc, .inl (cB, 1024, .inl (fun _ => 0))), (m0, .inr (12, fs)), (q1, .inl (a1, 66000, .inl f1)), (q2, .inl (a2, 66000, .inl f2)), (q4, .inl (a4, 24000, .inl f4)), (q5, .inl (a5, 24000, .inl f5)), (q6, .inl (a6, 24000, .inl f6)), (q7, .inl (a7, 4096, .inl f7)), (qm, .inl (aM, 65560, .inl fM)), (qo, .inl (aO, 1, .inr (.inl (fun _ => 0))))]) (va_runV (As := [.int (xs (Int32.toNatClampNeg (0 + 1))), .int (xs (Int32.toNatClampNeg (0 + 2)))]) (rest := []) ⟨hx, hb, hml, hown, htb⟩ (cg_bootstrap l D g h0 qc 0 g.1 (-1) (xs (Int32.toNatClampNeg (0 + 1))) (xs (Int32.toNatClampNeg (0 + 2))) (Array.size H) ) (bg_V 2 htb bg_424 bg_425 bg_426 bg_18 bg_83 rfl rfl (by decide +kernel) ⟨Nat.le_of_ble_eq_true rfl, Nat.le_of_ble_eq_true rfl⟩) ⟨xb_blind xe_ok, va_recv hK hP (ci := 11) (q0 := 0) rfl rfl, xb_enter xe_ok hK hP hD hS hA hE [0] rfl rfl rfl [] rfl⟩ rfl rfl hl.1 rfl (lv_room (Nat.le_of_ble_eq_true rfl)) dL_law_772 ⟨Nat.le_of_ble_eq_true rfl, Nat.le_of_ble_eq_true rfl⟩) hK hP hD hS hA [0] [1, 2, 3, 4, 5, 6, 7, 8, 9, 10] rfl rfl rfl (by decide) (fun r_772 u_772 H locs hw_772 hP hD hK hS => ?_)
  have hP : va_P D vwCl [(qc, .inl (cB, 1024, .inl (fun _ => 0))), (m0, .inr (12, fs)), (q1, .inl (a1, 66000, .inl f1)), (q2, .inl (a2, 66000, .inl f2)), (q4, .inl (a4, 24000, .inl f4)), (q5, .inl (a5, 24000, .inl f5)), (q6, .inl (a6, 24000, .inl f6)), (q7, .inl (a7, 4096, .inl f7)), (qm, .inl (aM, 65560, .inl fM)), (qo, .inl (aO, 1, .inr (.inl (fun _ => 0)))), (h0, .inr (11, [.ref qc, .int 0, .ref g.1, .null, .int (-1)]))] H := hP
  have hD : va_D A [(qc, .inl (cB, 1024, .inl (fun _ => 0))), (m0, .inr (12, fs)), (q1, .inl (a1, 66000, .inl f1)), (q2, .inl (a2, 66000, .inl f2)), (q4, .inl (a4, 24000, .inl f4)), (q5, .inl (a5, 24000, .inl f5)), (q6, .inl (a6, 24000, .inl f6)), (q7, .inl (a7, 4096, .inl f7)), (qm, .inl (aM, 65560, .inl fM)), (qo, .inl (aO, 1, .inr (.inl (fun _ => 0)))), (h0, .inr (11, [.ref qc, .int 0, .ref g.1, .null, .int (-1)]))] := hD
  have hK : va_K D vwCl [(cB, .byte), (a1, .char), (a2, .char), (a4, .int), (a5, .int), (a6, .int), (a7, .int), (aM, .byte), (aO, .long)] s := hK
  refine W.widen (k := 43) (n := 899680) (by decide) (by decide) ?_
  have hw_772 : r_772 = (-1) := hw_772
  subst hw_772
  refine lv_aload_n hx hb dL_law_775 rfl (lv_at hl 2 rfl) ?_
  refine lv_aload_n hx hb dL_law_776 rfl (lv_at hl 0 rfl) ?_
  refine lv_iload hx hb dL_law_777 (lv_at hl 4 rfl) ?_
  refine lv_iconst (v := 1) hx hb dL_law_779 (by decide) ?_
  refine lv_iadd hx hb dL_law_780 ?_
  refine va_sld hx hb hX hbl hbA hS (by unfold vp_in; decide) dL_law_781 ?_
  refine lv_aload_n hx hb dL_law_782 rfl (lv_at hl 0 rfl) ?_
  refine lv_iload hx hb dL_law_783 (lv_at hl 4 rfl) ?_
  refine lv_iconst (v := 2) hx hb dL_law_785 (by decide) ?_
  refine lv_iadd hx hb dL_law_786 ?_
  refine va_sld hx hb hX hbl hbA hS (by unfold vp_in; decide) dL_law_787 ?_
  refine xb_goi (wr := [(qc, .inl (cB, 1024, .inl (fun _ => 0))), (q1, .inl (a1, 66000, .inl f1)), (q2, .inl (a2, 66000, .inl f2)), (q4, .inl (a4, 24000, .inl f4)), (q5, .inl (a5, 24000, .inl f5)), (q6, .inl (a6, 24000, .inl f6)), (q7, .inl (a7, 4096, .inl f7)), (qm, .inl (aM, 65560, .inl fM)), (qo, .inl (aO, 1, .inr (.inl (fun _ => 0)))), (h0, .inr (11, [.ref qc, .int 0, .ref g.1, .null, .int (-1)]))]) (va_runV (As := [.int (xs (Int32.toNatClampNeg (0 + 1))), .int (xs (Int32.toNatClampNeg (0 + 2)))]) (rest := [.int (-1)]) ⟨hx, hb, hml, hown, htb⟩ (mm_bootstrap l D g m0 fs (xs (Int32.toNatClampNeg (0 + 1))) (xs (Int32.toNatClampNeg (0 + 2))) (Array.size H) (md_sub hm [9] rfl)) (bg_V 2 htb bg_427 bg_428 bg_429 bg_144 bg_235 rfl rfl (by decide +kernel) ⟨Nat.le_of_ble_eq_true rfl, Nat.le_of_ble_eq_true rfl⟩) ⟨xb_blind xe_ok, va_recv hK hP (ci := 12) (q0 := 1) rfl rfl, xb_enter xe_ok hK hP hD hS hA hE [1] rfl rfl rfl [] rfl⟩ rfl rfl hl.1 rfl (lv_room (Nat.le_of_ble_eq_true rfl)) dL_law_788 ⟨Nat.le_of_ble_eq_true rfl, Nat.le_of_ble_eq_true rfl⟩) hK hP hD hS hA [1] [0, 2, 3, 4, 5, 6, 7, 8, 9, 10] rfl rfl rfl (by decide) (fun r_788 u_788 H locs hw_788 hP hD hK hS => ?_)
  generalize u_788 = fs at hP hD hK hw_788
  have hP : va_P D vwCl [(qc, .inl (cB, 1024, .inl (fun _ => 0))), (q1, .inl (a1, 66000, .inl f1)), (q2, .inl (a2, 66000, .inl f2)), (q4, .inl (a4, 24000, .inl f4)), (q5, .inl (a5, 24000, .inl f5)), (q6, .inl (a6, 24000, .inl f6)), (q7, .inl (a7, 4096, .inl f7)), (qm, .inl (aM, 65560, .inl fM)), (qo, .inl (aO, 1, .inr (.inl (fun _ => 0)))), (h0, .inr (11, [.ref qc, .int 0, .ref g.1, .null, .int (-1)])), (m0, .inr (12, fs))] H := hP
  have hD : va_D A [(qc, .inl (cB, 1024, .inl (fun _ => 0))), (q1, .inl (a1, 66000, .inl f1)), (q2, .inl (a2, 66000, .inl f2)), (q4, .inl (a4, 24000, .inl f4)), (q5, .inl (a5, 24000, .inl f5)), (q6, .inl (a6, 24000, .inl f6)), (q7, .inl (a7, 4096, .inl f7)), (qm, .inl (aM, 65560, .inl fM)), (qo, .inl (aO, 1, .inr (.inl (fun _ => 0)))), (h0, .inr (11, [.ref qc, .int 0, .ref g.1, .null, .int (-1)])), (m0, .inr (12, fs))] := hD
  have hK : va_K D vwCl [(cB, .byte), (a1, .char), (a2, .char), (a4, .int), (a5, .int), (a6, .int), (a7, .int), (aM, .byte), (aO, .long)] s := hK
  refine W.widen (k := 43) (n := 899680) (by decide) (by decide) ?_
  obtain ⟨hw_788, hm⟩ := hw_788
  have hm : md_has fs [(0, .int 0)] := hm
  have hw_788 : r_788 = (-1) := hw_788
  subst hw_788
  refine lv_icmp_eq (tgt := 978) hx hb dL_law_791 (by decide) (fun c_791 => ?_) (fun c_791 => ?_)
  rotate_left
  · exact absurd (by decide) c_791
  exact law_done hx hb hr hml hlocks hX hbl hAe hbA hS (by decide) (by decide) (lv_sub hl [4, 0] rfl)
theorem dL_law_796 : decode cL_law 796 = .ok (.aload_n 1, 1) := by decide +kernel
theorem dL_law_797 : decode cL_law 797 = .ok (.aload_n 0, 1) := by decide +kernel
theorem dL_law_798 : decode cL_law 798 = .ok (.iload 4, 2) := by decide +kernel
theorem dL_law_800 : decode cL_law 800 = .ok (.iconst 1, 1) := by decide +kernel
theorem dL_law_801 : decode cL_law 801 = .ok (.iadd, 1) := by decide +kernel
theorem dL_law_802 : decode cL_law 802 = .ok (.iaload, 1) := by decide +kernel
theorem dL_law_803 : decode cL_law 803 = .ok (.invokevirtual 101, 3) := by decide +kernel
theorem dL_law_806 : decode cL_law 806 = .ok (.aload_n 2, 1) := by decide +kernel
theorem dL_law_807 : decode cL_law 807 = .ok (.aload_n 0, 1) := by decide +kernel
theorem dL_law_808 : decode cL_law 808 = .ok (.iload 4, 2) := by decide +kernel
theorem dL_law_810 : decode cL_law 810 = .ok (.iconst 1, 1) := by decide +kernel
theorem dL_law_811 : decode cL_law 811 = .ok (.iadd, 1) := by decide +kernel
theorem dL_law_812 : decode cL_law 812 = .ok (.iaload, 1) := by decide +kernel
theorem dL_law_813 : decode cL_law 813 = .ok (.invokevirtual 104, 3) := by decide +kernel
theorem dL_law_816 : decode cL_law 816 = .ok (.if_icmp .eq 162, 3) := by decide +kernel
set_option maxHeartbeats 8000000 in
set_option maxRecDepth 100000 in
theorem law_13 {p : Program} {l : Launch} {e : Env} {s : State} {m : MethodId} {below : List Frame} {meth : Method} {c : Code} {H : Heap} {locs : List Loc} {A : Nat → Prop} {b : Nat} {xs : Nat → Int32} {ls : Array Slot} {D : va_G} {g : xe_G} {h0 : Nat} {qc : Nat} {cB : ClassId} {m0 : Nat} {fs : List Value} {q1 : Nat} {q2 : Nat} {q4 : Nat} {q5 : Nat} {q6 : Nat} {q7 : Nat} {a1 : ClassId} {a2 : ClassId} {a4 : ClassId} {a5 : ClassId} {a6 : ClassId} {a7 : ClassId} {f1 : Nat → Int32} {f2 : Nat → Int32} {f4 : Nat → Int32} {f5 : Nat → Int32} {f6 : Nat → Int32} {f7 : Nat → Int32} {qf : Nat} {qm : Nat} {aM : ClassId} {fM : Nat → Int32} {qo : Nat} {aO : ClassId} (hx : p.tables.exec = Jvm.exec) (hb : c.code = cL_law) (hr : meth.sig.returnType = ret) (hml : c.maxLocals = 7) (hlocks : meth.locks = false) (hown : s.vm.findClass RL = some m.cls) (htb : ∀ w ∈ bg, w.before #[Value.ref b] s = true) (hX : va_X b 6 xs s s.heap) (hbl : b < s.heap.size) (hAe : A = fun q : Nat => s.heap.size ≤ q) (hbA : ¬ A b) (hA : ∀ q : Nat, s.heap.size ≤ q → A q) (hE : xe_E g A s s.heap) (hnt : l.stackTraces = false) (hm : md_has fs [(1, .ref q1), (2, .ref q2), (4, .ref q4), (5, .ref q5), (6, .ref q6), (7, .ref q7), (13, .ref qf), (15, .ref qm), (17, .int 0), (18, .int (-1)), (19, .int 0), (73, .int (-1))]) (hK : va_K D vwCl [(cB, .byte), (a1, .char), (a2, .char), (a4, .int), (a5, .int), (a6, .int), (a7, .int), (aM, .byte), (aO, .long)] s) (hP : va_P D vwCl [(h0, .inr (11, [.ref qc, .int 0, .ref g.1, .null, .int (-1)])), (qc, .inl (cB, 1024, .inl (fun _ => 0))), (m0, .inr (12, fs)), (q1, .inl (a1, 66000, .inl f1)), (q2, .inl (a2, 66000, .inl f2)), (q4, .inl (a4, 24000, .inl f4)), (q5, .inl (a5, 24000, .inl f5)), (q6, .inl (a6, 24000, .inl f6)), (q7, .inl (a7, 4096, .inl f7)), (qm, .inl (aM, 65560, .inl fM)), (qo, .inl (aO, 1, .inr (.inl (fun _ => 0))))] H) (hD : va_D A [(h0, .inr (11, [.ref qc, .int 0, .ref g.1, .null, .int (-1)])), (qc, .inl (cB, 1024, .inl (fun _ => 0))), (m0, .inr (12, fs)), (q1, .inl (a1, 66000, .inl f1)), (q2, .inl (a2, 66000, .inl f2)), (q4, .inl (a4, 24000, .inl f4)), (q5, .inl (a5, 24000, .inl f5)), (q6, .inl (a6, 24000, .inl f6)), (q7, .inl (a7, 4096, .inl f7)), (qm, .inl (aM, 65560, .inl fM)), (qo, .inl (aO, 1, .inr (.inl (fun _ => 0))))]) (hS : va_S A s.heap H locs) (hl : lv_has ls 7 [(0, .ref b), (1, .ref h0), (2, .ref m0), (3, .ref qo), (4, .int 0)]) : W p l e room_1 s m #[Value.ref b] below meth c H locs 43 899680 (lw_Z below #[Value.ref b] s) (F0 m 796 ls []) := by
  refine lv_aload_n hx hb dL_law_796 rfl (lv_at hl 1 rfl) ?_
  refine lv_aload_n hx hb dL_law_797 rfl (lv_at hl 0 rfl) ?_
  refine lv_iload hx hb dL_law_798 (lv_at hl 4 rfl) ?_
  refine lv_iconst (v := 1) hx hb dL_law_800 (by decide) ?_
  refine lv_iadd hx hb dL_law_801 ?_
  refine va_sld hx hb hX hbl hbA hS (by unfold vp_in; decide) dL_law_802 ?_
  refine xb_goi (wr := [(qc, .inl (cB, 1024, .inl (fun _ => 0))), (m0, .inr (12, fs)), (q1, .inl (a1, 66000, .inl f1)), (q2, .inl (a2, 66000, .inl f2)), (q4, .inl (a4, 24000, .inl f4)), (q5, .inl (a5, 24000, .inl f5)), (q6, .inl (a6, 24000, .inl f6)), (q7, .inl (a7, 4096, .inl f7)), (qm, .inl (aM, 65560, .inl fM)), (qo, .inl (aO, 1, .inr (.inl (fun _ => 0))))]) (va_runV (As := [.int (xs (Int32.toNatClampNeg (0 + 1)))]) (rest := []) ⟨hx, hb, hml, hown, htb⟩ (cg_cut l D g h0 qc 0 g.1 (-1) (xs (Int32.toNatClampNeg (0 + 1))) (Array.size H) ) (bg_V 1 htb bg_430 bg_431 bg_432 bg_18 bg_84 rfl rfl (by decide +kernel) ⟨Nat.le_of_ble_eq_true rfl, Nat.le_of_ble_eq_true rfl⟩) ⟨xb_blind xe_ok, va_recv hK hP (ci := 11) (q0 := 0) rfl rfl, xb_enter xe_ok hK hP hD hS hA hE [0] rfl rfl rfl [] rfl⟩ rfl rfl hl.1 rfl (lv_room (Nat.le_of_ble_eq_true rfl)) dL_law_803 ⟨Nat.le_of_ble_eq_true rfl, Nat.le_of_ble_eq_true rfl⟩) hK hP hD hS hA [0] [1, 2, 3, 4, 5, 6, 7, 8, 9, 10] rfl rfl rfl (by decide) (fun r_803 u_803 H locs hw_803 hP hD hK hS => ?_)
  have hP : va_P D vwCl [(qc, .inl (cB, 1024, .inl (fun _ => 0))), (m0, .inr (12, fs)), (q1, .inl (a1, 66000, .inl f1)), (q2, .inl (a2, 66000, .inl f2)), (q4, .inl (a4, 24000, .inl f4)), (q5, .inl (a5, 24000, .inl f5)), (q6, .inl (a6, 24000, .inl f6)), (q7, .inl (a7, 4096, .inl f7)), (qm, .inl (aM, 65560, .inl fM)), (qo, .inl (aO, 1, .inr (.inl (fun _ => 0)))), (h0, .inr (11, [.ref qc, .int 0, .ref g.1, .null, .int (-1)]))] H := hP
  have hD : va_D A [(qc, .inl (cB, 1024, .inl (fun _ => 0))), (m0, .inr (12, fs)), (q1, .inl (a1, 66000, .inl f1)), (q2, .inl (a2, 66000, .inl f2)), (q4, .inl (a4, 24000, .inl f4)), (q5, .inl (a5, 24000, .inl f5)), (q6, .inl (a6, 24000, .inl f6)), (q7, .inl (a7, 4096, .inl f7)), (qm, .inl (aM, 65560, .inl fM)), (qo, .inl (aO, 1, .inr (.inl (fun _ => 0)))), (h0, .inr (11, [.ref qc, .int 0, .ref g.1, .null, .int (-1)]))] := hD
  have hK : va_K D vwCl [(cB, .byte), (a1, .char), (a2, .char), (a4, .int), (a5, .int), (a6, .int), (a7, .int), (aM, .byte), (aO, .long)] s := hK
  refine W.widen (k := 43) (n := 899680) (by decide) (by decide) ?_
  have hw_803 : r_803 = (-1) := hw_803
  subst hw_803
  refine lv_aload_n hx hb dL_law_806 rfl (lv_at hl 2 rfl) ?_
  refine lv_aload_n hx hb dL_law_807 rfl (lv_at hl 0 rfl) ?_
  refine lv_iload hx hb dL_law_808 (lv_at hl 4 rfl) ?_
  refine lv_iconst (v := 1) hx hb dL_law_810 (by decide) ?_
  refine lv_iadd hx hb dL_law_811 ?_
  refine va_sld hx hb hX hbl hbA hS (by unfold vp_in; decide) dL_law_812 ?_
  refine xb_goi (wr := [(qc, .inl (cB, 1024, .inl (fun _ => 0))), (q1, .inl (a1, 66000, .inl f1)), (q2, .inl (a2, 66000, .inl f2)), (q4, .inl (a4, 24000, .inl f4)), (q5, .inl (a5, 24000, .inl f5)), (q6, .inl (a6, 24000, .inl f6)), (q7, .inl (a7, 4096, .inl f7)), (qm, .inl (aM, 65560, .inl fM)), (qo, .inl (aO, 1, .inr (.inl (fun _ => 0)))), (h0, .inr (11, [.ref qc, .int 0, .ref g.1, .null, .int (-1)]))]) (va_runV (As := [.int (xs (Int32.toNatClampNeg (0 + 1)))]) (rest := [.int (-1)]) ⟨hx, hb, hml, hown, htb⟩ (mm_cut l D g m0 fs (xs (Int32.toNatClampNeg (0 + 1))) (Array.size H) (md_sub hm [9] rfl)) (bg_V 1 htb bg_433 bg_434 bg_435 bg_144 bg_238 rfl rfl (by decide +kernel) ⟨Nat.le_of_ble_eq_true rfl, Nat.le_of_ble_eq_true rfl⟩) ⟨xb_blind xe_ok, va_recv hK hP (ci := 12) (q0 := 1) rfl rfl, xb_enter xe_ok hK hP hD hS hA hE [1] rfl rfl rfl [] rfl⟩ rfl rfl hl.1 rfl (lv_room (Nat.le_of_ble_eq_true rfl)) dL_law_813 ⟨Nat.le_of_ble_eq_true rfl, Nat.le_of_ble_eq_true rfl⟩) hK hP hD hS hA [1] [0, 2, 3, 4, 5, 6, 7, 8, 9, 10] rfl rfl rfl (by decide) (fun r_813 u_813 H locs hw_813 hP hD hK hS => ?_)
  generalize u_813 = fs at hP hD hK hw_813
  have hP : va_P D vwCl [(qc, .inl (cB, 1024, .inl (fun _ => 0))), (q1, .inl (a1, 66000, .inl f1)), (q2, .inl (a2, 66000, .inl f2)), (q4, .inl (a4, 24000, .inl f4)), (q5, .inl (a5, 24000, .inl f5)), (q6, .inl (a6, 24000, .inl f6)), (q7, .inl (a7, 4096, .inl f7)), (qm, .inl (aM, 65560, .inl fM)), (qo, .inl (aO, 1, .inr (.inl (fun _ => 0)))), (h0, .inr (11, [.ref qc, .int 0, .ref g.1, .null, .int (-1)])), (m0, .inr (12, fs))] H := hP
  have hD : va_D A [(qc, .inl (cB, 1024, .inl (fun _ => 0))), (q1, .inl (a1, 66000, .inl f1)), (q2, .inl (a2, 66000, .inl f2)), (q4, .inl (a4, 24000, .inl f4)), (q5, .inl (a5, 24000, .inl f5)), (q6, .inl (a6, 24000, .inl f6)), (q7, .inl (a7, 4096, .inl f7)), (qm, .inl (aM, 65560, .inl fM)), (qo, .inl (aO, 1, .inr (.inl (fun _ => 0)))), (h0, .inr (11, [.ref qc, .int 0, .ref g.1, .null, .int (-1)])), (m0, .inr (12, fs))] := hD
  have hK : va_K D vwCl [(cB, .byte), (a1, .char), (a2, .char), (a4, .int), (a5, .int), (a6, .int), (a7, .int), (aM, .byte), (aO, .long)] s := hK
  refine W.widen (k := 43) (n := 899680) (by decide) (by decide) ?_
  obtain ⟨hw_813, hm⟩ := hw_813
  have hm : md_has fs [(0, .int 0)] := hm
  have hw_813 : r_813 = (-1) := hw_813
  subst hw_813
  refine lv_icmp_eq (tgt := 978) hx hb dL_law_816 (by decide) (fun c_816 => ?_) (fun c_816 => ?_)
  rotate_left
  · exact absurd (by decide) c_816
  exact law_done hx hb hr hml hlocks hX hbl hAe hbA hS (by decide) (by decide) (lv_sub hl [4, 0] rfl)
theorem dL_law_901 : decode cL_law 901 = .ok (.aload_n 1, 1) := by decide +kernel
theorem dL_law_902 : decode cL_law 902 = .ok (.aload_n 0, 1) := by decide +kernel
theorem dL_law_903 : decode cL_law 903 = .ok (.iload 4, 2) := by decide +kernel
theorem dL_law_905 : decode cL_law 905 = .ok (.iconst 1, 1) := by decide +kernel
theorem dL_law_906 : decode cL_law 906 = .ok (.iadd, 1) := by decide +kernel
theorem dL_law_907 : decode cL_law 907 = .ok (.iaload, 1) := by decide +kernel
theorem dL_law_908 : decode cL_law 908 = .ok (.aload_n 0, 1) := by decide +kernel
theorem dL_law_909 : decode cL_law 909 = .ok (.iload 4, 2) := by decide +kernel
theorem dL_law_911 : decode cL_law 911 = .ok (.iconst 2, 1) := by decide +kernel
theorem dL_law_912 : decode cL_law 912 = .ok (.iadd, 1) := by decide +kernel
theorem dL_law_913 : decode cL_law 913 = .ok (.iaload, 1) := by decide +kernel
theorem dL_law_914 : decode cL_law 914 = .ok (.aload_n 0, 1) := by decide +kernel
theorem dL_law_915 : decode cL_law 915 = .ok (.iload 4, 2) := by decide +kernel
theorem dL_law_917 : decode cL_law 917 = .ok (.iconst 3, 1) := by decide +kernel
theorem dL_law_918 : decode cL_law 918 = .ok (.iadd, 1) := by decide +kernel
theorem dL_law_919 : decode cL_law 919 = .ok (.iaload, 1) := by decide +kernel
theorem dL_law_920 : decode cL_law 920 = .ok (.aload_n 0, 1) := by decide +kernel
theorem dL_law_921 : decode cL_law 921 = .ok (.iload 4, 2) := by decide +kernel
theorem dL_law_923 : decode cL_law 923 = .ok (.iconst 4, 1) := by decide +kernel
theorem dL_law_924 : decode cL_law 924 = .ok (.iadd, 1) := by decide +kernel
theorem dL_law_925 : decode cL_law 925 = .ok (.iaload, 1) := by decide +kernel
theorem dL_law_926 : decode cL_law 926 = .ok (.ifCond .eq 7, 3) := by decide +kernel
theorem dL_law_929 : decode cL_law 929 = .ok (.iconst 1, 1) := by decide +kernel
theorem dL_law_930 : decode cL_law 930 = .ok (.goto 4, 3) := by decide +kernel
theorem dL_law_933 : decode cL_law 933 = .ok (.iconst 0, 1) := by decide +kernel
theorem dL_law_934 : decode cL_law 934 = .ok (.invokevirtual 108, 3) := by decide +kernel
theorem dL_law_937 : decode cL_law 937 = .ok (.aload_n 2, 1) := by decide +kernel
theorem dL_law_938 : decode cL_law 938 = .ok (.aload_n 0, 1) := by decide +kernel
theorem dL_law_939 : decode cL_law 939 = .ok (.iload 4, 2) := by decide +kernel
theorem dL_law_941 : decode cL_law 941 = .ok (.iconst 1, 1) := by decide +kernel
theorem dL_law_942 : decode cL_law 942 = .ok (.iadd, 1) := by decide +kernel
theorem dL_law_943 : decode cL_law 943 = .ok (.iaload, 1) := by decide +kernel
theorem dL_law_944 : decode cL_law 944 = .ok (.aload_n 0, 1) := by decide +kernel
theorem dL_law_945 : decode cL_law 945 = .ok (.iload 4, 2) := by decide +kernel
theorem dL_law_947 : decode cL_law 947 = .ok (.iconst 2, 1) := by decide +kernel
theorem dL_law_948 : decode cL_law 948 = .ok (.iadd, 1) := by decide +kernel
theorem dL_law_949 : decode cL_law 949 = .ok (.iaload, 1) := by decide +kernel
theorem dL_law_950 : decode cL_law 950 = .ok (.aload_n 0, 1) := by decide +kernel
theorem dL_law_951 : decode cL_law 951 = .ok (.iload 4, 2) := by decide +kernel
theorem dL_law_953 : decode cL_law 953 = .ok (.iconst 3, 1) := by decide +kernel
theorem dL_law_954 : decode cL_law 954 = .ok (.iadd, 1) := by decide +kernel
theorem dL_law_955 : decode cL_law 955 = .ok (.iaload, 1) := by decide +kernel
theorem dL_law_956 : decode cL_law 956 = .ok (.aload_n 0, 1) := by decide +kernel
theorem dL_law_957 : decode cL_law 957 = .ok (.iload 4, 2) := by decide +kernel
theorem dL_law_959 : decode cL_law 959 = .ok (.iconst 4, 1) := by decide +kernel
theorem dL_law_960 : decode cL_law 960 = .ok (.iadd, 1) := by decide +kernel
theorem dL_law_961 : decode cL_law 961 = .ok (.iaload, 1) := by decide +kernel
theorem dL_law_962 : decode cL_law 962 = .ok (.ifCond .eq 7, 3) := by decide +kernel
theorem dL_law_965 : decode cL_law 965 = .ok (.iconst 1, 1) := by decide +kernel
theorem dL_law_966 : decode cL_law 966 = .ok (.goto 4, 3) := by decide +kernel
theorem dL_law_969 : decode cL_law 969 = .ok (.iconst 0, 1) := by decide +kernel
theorem dL_law_970 : decode cL_law 970 = .ok (.invokevirtual 112, 3) := by decide +kernel
theorem dL_law_973 : decode cL_law 973 = .ok (.if_icmp .eq 5, 3) := by decide +kernel
set_option maxHeartbeats 8000000 in
set_option maxRecDepth 100000 in
theorem law_15 {p : Program} {l : Launch} {e : Env} {s : State} {m : MethodId} {below : List Frame} {meth : Method} {c : Code} {H : Heap} {locs : List Loc} {A : Nat → Prop} {b : Nat} {xs : Nat → Int32} {ls : Array Slot} {D : va_G} {g : xe_G} {h0 : Nat} {qc : Nat} {cB : ClassId} {m0 : Nat} {fs : List Value} {q1 : Nat} {q2 : Nat} {q4 : Nat} {q5 : Nat} {q6 : Nat} {q7 : Nat} {a1 : ClassId} {a2 : ClassId} {a4 : ClassId} {a5 : ClassId} {a6 : ClassId} {a7 : ClassId} {f1 : Nat → Int32} {f2 : Nat → Int32} {f4 : Nat → Int32} {f5 : Nat → Int32} {f6 : Nat → Int32} {f7 : Nat → Int32} {qf : Nat} {qm : Nat} {aM : ClassId} {fM : Nat → Int32} {qo : Nat} {aO : ClassId} (hx : p.tables.exec = Jvm.exec) (hb : c.code = cL_law) (hr : meth.sig.returnType = ret) (hml : c.maxLocals = 7) (hlocks : meth.locks = false) (hown : s.vm.findClass RL = some m.cls) (htb : ∀ w ∈ bg, w.before #[Value.ref b] s = true) (hX : va_X b 6 xs s s.heap) (hbl : b < s.heap.size) (hAe : A = fun q : Nat => s.heap.size ≤ q) (hbA : ¬ A b) (hA : ∀ q : Nat, s.heap.size ≤ q → A q) (hE : xe_E g A s s.heap) (hnt : l.stackTraces = false) (hm : md_has fs [(1, .ref q1), (2, .ref q2), (4, .ref q4), (5, .ref q5), (6, .ref q6), (7, .ref q7), (13, .ref qf), (15, .ref qm), (17, .int 0), (18, .int (-1)), (19, .int 0), (73, .int (-1))]) (hK : va_K D vwCl [(cB, .byte), (a1, .char), (a2, .char), (a4, .int), (a5, .int), (a6, .int), (a7, .int), (aM, .byte), (aO, .long)] s) (hP : va_P D vwCl [(h0, .inr (11, [.ref qc, .int 0, .ref g.1, .null, .int (-1)])), (qc, .inl (cB, 1024, .inl (fun _ => 0))), (m0, .inr (12, fs)), (q1, .inl (a1, 66000, .inl f1)), (q2, .inl (a2, 66000, .inl f2)), (q4, .inl (a4, 24000, .inl f4)), (q5, .inl (a5, 24000, .inl f5)), (q6, .inl (a6, 24000, .inl f6)), (q7, .inl (a7, 4096, .inl f7)), (qm, .inl (aM, 65560, .inl fM)), (qo, .inl (aO, 1, .inr (.inl (fun _ => 0))))] H) (hD : va_D A [(h0, .inr (11, [.ref qc, .int 0, .ref g.1, .null, .int (-1)])), (qc, .inl (cB, 1024, .inl (fun _ => 0))), (m0, .inr (12, fs)), (q1, .inl (a1, 66000, .inl f1)), (q2, .inl (a2, 66000, .inl f2)), (q4, .inl (a4, 24000, .inl f4)), (q5, .inl (a5, 24000, .inl f5)), (q6, .inl (a6, 24000, .inl f6)), (q7, .inl (a7, 4096, .inl f7)), (qm, .inl (aM, 65560, .inl fM)), (qo, .inl (aO, 1, .inr (.inl (fun _ => 0))))]) (hS : va_S A s.heap H locs) (hl : lv_has ls 7 [(0, .ref b), (1, .ref h0), (2, .ref m0), (3, .ref qo), (4, .int 0)]) : W p l e room_1 s m #[Value.ref b] below meth c H locs 43 899680 (lw_Z below #[Value.ref b] s) (F0 m 901 ls []) := by
  refine lv_aload_n hx hb dL_law_901 rfl (lv_at hl 1 rfl) ?_
  refine lv_aload_n hx hb dL_law_902 rfl (lv_at hl 0 rfl) ?_
  refine lv_iload hx hb dL_law_903 (lv_at hl 4 rfl) ?_
  refine lv_iconst (v := 1) hx hb dL_law_905 (by decide) ?_
  refine lv_iadd hx hb dL_law_906 ?_
  refine va_sld hx hb hX hbl hbA hS (by unfold vp_in; decide) dL_law_907 ?_
  refine lv_aload_n hx hb dL_law_908 rfl (lv_at hl 0 rfl) ?_
  refine lv_iload hx hb dL_law_909 (lv_at hl 4 rfl) ?_
  refine lv_iconst (v := 2) hx hb dL_law_911 (by decide) ?_
  refine lv_iadd hx hb dL_law_912 ?_
  refine va_sld hx hb hX hbl hbA hS (by unfold vp_in; decide) dL_law_913 ?_
  refine lv_aload_n hx hb dL_law_914 rfl (lv_at hl 0 rfl) ?_
  refine lv_iload hx hb dL_law_915 (lv_at hl 4 rfl) ?_
  refine lv_iconst (v := 3) hx hb dL_law_917 (by decide) ?_
  refine lv_iadd hx hb dL_law_918 ?_
  refine va_sld hx hb hX hbl hbA hS (by unfold vp_in; decide) dL_law_919 ?_
  refine lv_aload_n hx hb dL_law_920 rfl (lv_at hl 0 rfl) ?_
  refine lv_iload hx hb dL_law_921 (lv_at hl 4 rfl) ?_
  refine lv_iconst (v := 4) hx hb dL_law_923 (by decide) ?_
  refine lv_iadd hx hb dL_law_924 ?_
  refine va_sld hx hb hX hbl hbA hS (by unfold vp_in; decide) dL_law_925 ?_
  refine lv_if_eq (tgt := 933) hx hb dL_law_926 (by decide) (fun c_926 => ?_) (fun c_926 => ?_)
  · skip
    refine lv_iconst (v := 0) hx hb dL_law_933 (by decide) ?_
    refine xb_goi (wr := [(qc, .inl (cB, 1024, .inl (fun _ => 0))), (m0, .inr (12, fs)), (q1, .inl (a1, 66000, .inl f1)), (q2, .inl (a2, 66000, .inl f2)), (q4, .inl (a4, 24000, .inl f4)), (q5, .inl (a5, 24000, .inl f5)), (q6, .inl (a6, 24000, .inl f6)), (q7, .inl (a7, 4096, .inl f7)), (qm, .inl (aM, 65560, .inl fM)), (qo, .inl (aO, 1, .inr (.inl (fun _ => 0))))]) (va_runV (As := [.int (xs (Int32.toNatClampNeg (0 + 1))), .int (xs (Int32.toNatClampNeg (0 + 2))), .int (xs (Int32.toNatClampNeg (0 + 3))), .int 0]) (rest := []) ⟨hx, hb, hml, hown, htb⟩ (cg_jump l D g h0 qc 0 g.1 (-1) (xs (Int32.toNatClampNeg (0 + 1))) (xs (Int32.toNatClampNeg (0 + 2))) (xs (Int32.toNatClampNeg (0 + 3))) 0 (Array.size H) ) (bg_V 4 htb bg_441 bg_442 bg_443 bg_18 bg_86 rfl rfl (by decide +kernel) ⟨Nat.le_of_ble_eq_true rfl, Nat.le_of_ble_eq_true rfl⟩) ⟨xb_blind xe_ok, va_recv hK hP (ci := 11) (q0 := 0) rfl rfl, xb_enter xe_ok hK hP hD hS hA hE [0] rfl rfl rfl [] rfl⟩ rfl rfl hl.1 rfl (lv_room (Nat.le_of_ble_eq_true rfl)) dL_law_934 ⟨Nat.le_of_ble_eq_true rfl, Nat.le_of_ble_eq_true rfl⟩) hK hP hD hS hA [0] [1, 2, 3, 4, 5, 6, 7, 8, 9, 10] rfl rfl rfl (by decide) (fun r_934 u_934 H locs hw_934 hP hD hK hS => ?_)
    have hP : va_P D vwCl [(qc, .inl (cB, 1024, .inl (fun _ => 0))), (m0, .inr (12, fs)), (q1, .inl (a1, 66000, .inl f1)), (q2, .inl (a2, 66000, .inl f2)), (q4, .inl (a4, 24000, .inl f4)), (q5, .inl (a5, 24000, .inl f5)), (q6, .inl (a6, 24000, .inl f6)), (q7, .inl (a7, 4096, .inl f7)), (qm, .inl (aM, 65560, .inl fM)), (qo, .inl (aO, 1, .inr (.inl (fun _ => 0)))), (h0, .inr (11, [.ref qc, .int 0, .ref g.1, .null, .int (-1)]))] H := hP
    have hD : va_D A [(qc, .inl (cB, 1024, .inl (fun _ => 0))), (m0, .inr (12, fs)), (q1, .inl (a1, 66000, .inl f1)), (q2, .inl (a2, 66000, .inl f2)), (q4, .inl (a4, 24000, .inl f4)), (q5, .inl (a5, 24000, .inl f5)), (q6, .inl (a6, 24000, .inl f6)), (q7, .inl (a7, 4096, .inl f7)), (qm, .inl (aM, 65560, .inl fM)), (qo, .inl (aO, 1, .inr (.inl (fun _ => 0)))), (h0, .inr (11, [.ref qc, .int 0, .ref g.1, .null, .int (-1)]))] := hD
    have hK : va_K D vwCl [(cB, .byte), (a1, .char), (a2, .char), (a4, .int), (a5, .int), (a6, .int), (a7, .int), (aM, .byte), (aO, .long)] s := hK
    refine W.widen (k := 43) (n := 899680) (by decide) (by decide) ?_
    have hw_934 : r_934 = (-1) := hw_934
    subst hw_934
    refine lv_aload_n hx hb dL_law_937 rfl (lv_at hl 2 rfl) ?_
    refine lv_aload_n hx hb dL_law_938 rfl (lv_at hl 0 rfl) ?_
    refine lv_iload hx hb dL_law_939 (lv_at hl 4 rfl) ?_
    refine lv_iconst (v := 1) hx hb dL_law_941 (by decide) ?_
    refine lv_iadd hx hb dL_law_942 ?_
    refine va_sld hx hb hX hbl hbA hS (by unfold vp_in; decide) dL_law_943 ?_
    refine lv_aload_n hx hb dL_law_944 rfl (lv_at hl 0 rfl) ?_
    refine lv_iload hx hb dL_law_945 (lv_at hl 4 rfl) ?_
    refine lv_iconst (v := 2) hx hb dL_law_947 (by decide) ?_
    refine lv_iadd hx hb dL_law_948 ?_
    refine va_sld hx hb hX hbl hbA hS (by unfold vp_in; decide) dL_law_949 ?_
    refine lv_aload_n hx hb dL_law_950 rfl (lv_at hl 0 rfl) ?_
    refine lv_iload hx hb dL_law_951 (lv_at hl 4 rfl) ?_
    refine lv_iconst (v := 3) hx hb dL_law_953 (by decide) ?_
    refine lv_iadd hx hb dL_law_954 ?_
    refine va_sld hx hb hX hbl hbA hS (by unfold vp_in; decide) dL_law_955 ?_
    refine lv_aload_n hx hb dL_law_956 rfl (lv_at hl 0 rfl) ?_
    refine lv_iload hx hb dL_law_957 (lv_at hl 4 rfl) ?_
    refine lv_iconst (v := 4) hx hb dL_law_959 (by decide) ?_
    refine lv_iadd hx hb dL_law_960 ?_
    refine va_sld hx hb hX hbl hbA hS (by unfold vp_in; decide) dL_law_961 ?_
    refine lv_if_eq (tgt := 969) hx hb dL_law_962 (by decide) (fun c_962 => ?_) (fun c_962 => ?_)
    rotate_left
    · exact absurd (c_926) c_962
    refine lv_iconst (v := 0) hx hb dL_law_969 (by decide) ?_
    refine xb_goi (wr := [(qc, .inl (cB, 1024, .inl (fun _ => 0))), (q1, .inl (a1, 66000, .inl f1)), (q2, .inl (a2, 66000, .inl f2)), (q4, .inl (a4, 24000, .inl f4)), (q5, .inl (a5, 24000, .inl f5)), (q6, .inl (a6, 24000, .inl f6)), (q7, .inl (a7, 4096, .inl f7)), (qm, .inl (aM, 65560, .inl fM)), (qo, .inl (aO, 1, .inr (.inl (fun _ => 0)))), (h0, .inr (11, [.ref qc, .int 0, .ref g.1, .null, .int (-1)]))]) (va_runV (As := [.int (xs (Int32.toNatClampNeg (0 + 1))), .int (xs (Int32.toNatClampNeg (0 + 2))), .int (xs (Int32.toNatClampNeg (0 + 3))), .int 0]) (rest := [.int (-1)]) ⟨hx, hb, hml, hown, htb⟩ (mm_jump l D g m0 fs (xs (Int32.toNatClampNeg (0 + 1))) (xs (Int32.toNatClampNeg (0 + 2))) (xs (Int32.toNatClampNeg (0 + 3))) 0 (Array.size H) (md_sub hm [9] rfl)) (bg_V 4 htb bg_444 bg_445 bg_446 bg_144 bg_245 rfl rfl (by decide +kernel) ⟨Nat.le_of_ble_eq_true rfl, Nat.le_of_ble_eq_true rfl⟩) ⟨xb_blind xe_ok, va_recv hK hP (ci := 12) (q0 := 1) rfl rfl, xb_enter xe_ok hK hP hD hS hA hE [1] rfl rfl rfl [] rfl⟩ rfl rfl hl.1 rfl (lv_room (Nat.le_of_ble_eq_true rfl)) dL_law_970 ⟨Nat.le_of_ble_eq_true rfl, Nat.le_of_ble_eq_true rfl⟩) hK hP hD hS hA [1] [0, 2, 3, 4, 5, 6, 7, 8, 9, 10] rfl rfl rfl (by decide) (fun r_970 u_970 H locs hw_970 hP hD hK hS => ?_)
    generalize u_970 = fs at hP hD hK hw_970
    have hP : va_P D vwCl [(qc, .inl (cB, 1024, .inl (fun _ => 0))), (q1, .inl (a1, 66000, .inl f1)), (q2, .inl (a2, 66000, .inl f2)), (q4, .inl (a4, 24000, .inl f4)), (q5, .inl (a5, 24000, .inl f5)), (q6, .inl (a6, 24000, .inl f6)), (q7, .inl (a7, 4096, .inl f7)), (qm, .inl (aM, 65560, .inl fM)), (qo, .inl (aO, 1, .inr (.inl (fun _ => 0)))), (h0, .inr (11, [.ref qc, .int 0, .ref g.1, .null, .int (-1)])), (m0, .inr (12, fs))] H := hP
    have hD : va_D A [(qc, .inl (cB, 1024, .inl (fun _ => 0))), (q1, .inl (a1, 66000, .inl f1)), (q2, .inl (a2, 66000, .inl f2)), (q4, .inl (a4, 24000, .inl f4)), (q5, .inl (a5, 24000, .inl f5)), (q6, .inl (a6, 24000, .inl f6)), (q7, .inl (a7, 4096, .inl f7)), (qm, .inl (aM, 65560, .inl fM)), (qo, .inl (aO, 1, .inr (.inl (fun _ => 0)))), (h0, .inr (11, [.ref qc, .int 0, .ref g.1, .null, .int (-1)])), (m0, .inr (12, fs))] := hD
    have hK : va_K D vwCl [(cB, .byte), (a1, .char), (a2, .char), (a4, .int), (a5, .int), (a6, .int), (a7, .int), (aM, .byte), (aO, .long)] s := hK
    refine W.widen (k := 43) (n := 899680) (by decide) (by decide) ?_
    obtain ⟨hw_970, hm⟩ := hw_970
    have hm : md_has fs [(0, .int 0)] := hm
    have hw_970 : r_970 = (-1) := hw_970
    subst hw_970
    refine lv_icmp_eq (tgt := 978) hx hb dL_law_973 (by decide) (fun c_973 => ?_) (fun c_973 => ?_)
    rotate_left
    · exact absurd (by decide) c_973
    exact law_done hx hb hr hml hlocks hX hbl hAe hbA hS (by decide) (by decide) (lv_sub hl [4, 0] rfl)
  · skip
    refine lv_iconst (v := 1) hx hb dL_law_929 (by decide) ?_
    refine lv_goto (tgt := 934) hx hb dL_law_930 (by decide) ?_
    refine xb_goi (wr := [(qc, .inl (cB, 1024, .inl (fun _ => 0))), (m0, .inr (12, fs)), (q1, .inl (a1, 66000, .inl f1)), (q2, .inl (a2, 66000, .inl f2)), (q4, .inl (a4, 24000, .inl f4)), (q5, .inl (a5, 24000, .inl f5)), (q6, .inl (a6, 24000, .inl f6)), (q7, .inl (a7, 4096, .inl f7)), (qm, .inl (aM, 65560, .inl fM)), (qo, .inl (aO, 1, .inr (.inl (fun _ => 0))))]) (va_runV (As := [.int (xs (Int32.toNatClampNeg (0 + 1))), .int (xs (Int32.toNatClampNeg (0 + 2))), .int (xs (Int32.toNatClampNeg (0 + 3))), .int 1]) (rest := []) ⟨hx, hb, hml, hown, htb⟩ (cg_jump l D g h0 qc 0 g.1 (-1) (xs (Int32.toNatClampNeg (0 + 1))) (xs (Int32.toNatClampNeg (0 + 2))) (xs (Int32.toNatClampNeg (0 + 3))) 1 (Array.size H) ) (bg_V 4 htb bg_441 bg_442 bg_443 bg_18 bg_86 rfl rfl (by decide +kernel) ⟨Nat.le_of_ble_eq_true rfl, Nat.le_of_ble_eq_true rfl⟩) ⟨xb_blind xe_ok, va_recv hK hP (ci := 11) (q0 := 0) rfl rfl, xb_enter xe_ok hK hP hD hS hA hE [0] rfl rfl rfl [] rfl⟩ rfl rfl hl.1 rfl (lv_room (Nat.le_of_ble_eq_true rfl)) dL_law_934 ⟨Nat.le_of_ble_eq_true rfl, Nat.le_of_ble_eq_true rfl⟩) hK hP hD hS hA [0] [1, 2, 3, 4, 5, 6, 7, 8, 9, 10] rfl rfl rfl (by decide) (fun r_934 u_934 H locs hw_934 hP hD hK hS => ?_)
    have hP : va_P D vwCl [(qc, .inl (cB, 1024, .inl (fun _ => 0))), (m0, .inr (12, fs)), (q1, .inl (a1, 66000, .inl f1)), (q2, .inl (a2, 66000, .inl f2)), (q4, .inl (a4, 24000, .inl f4)), (q5, .inl (a5, 24000, .inl f5)), (q6, .inl (a6, 24000, .inl f6)), (q7, .inl (a7, 4096, .inl f7)), (qm, .inl (aM, 65560, .inl fM)), (qo, .inl (aO, 1, .inr (.inl (fun _ => 0)))), (h0, .inr (11, [.ref qc, .int 0, .ref g.1, .null, .int (-1)]))] H := hP
    have hD : va_D A [(qc, .inl (cB, 1024, .inl (fun _ => 0))), (m0, .inr (12, fs)), (q1, .inl (a1, 66000, .inl f1)), (q2, .inl (a2, 66000, .inl f2)), (q4, .inl (a4, 24000, .inl f4)), (q5, .inl (a5, 24000, .inl f5)), (q6, .inl (a6, 24000, .inl f6)), (q7, .inl (a7, 4096, .inl f7)), (qm, .inl (aM, 65560, .inl fM)), (qo, .inl (aO, 1, .inr (.inl (fun _ => 0)))), (h0, .inr (11, [.ref qc, .int 0, .ref g.1, .null, .int (-1)]))] := hD
    have hK : va_K D vwCl [(cB, .byte), (a1, .char), (a2, .char), (a4, .int), (a5, .int), (a6, .int), (a7, .int), (aM, .byte), (aO, .long)] s := hK
    refine W.widen (k := 43) (n := 899680) (by decide) (by decide) ?_
    have hw_934 : r_934 = (-1) := hw_934
    subst hw_934
    refine lv_aload_n hx hb dL_law_937 rfl (lv_at hl 2 rfl) ?_
    refine lv_aload_n hx hb dL_law_938 rfl (lv_at hl 0 rfl) ?_
    refine lv_iload hx hb dL_law_939 (lv_at hl 4 rfl) ?_
    refine lv_iconst (v := 1) hx hb dL_law_941 (by decide) ?_
    refine lv_iadd hx hb dL_law_942 ?_
    refine va_sld hx hb hX hbl hbA hS (by unfold vp_in; decide) dL_law_943 ?_
    refine lv_aload_n hx hb dL_law_944 rfl (lv_at hl 0 rfl) ?_
    refine lv_iload hx hb dL_law_945 (lv_at hl 4 rfl) ?_
    refine lv_iconst (v := 2) hx hb dL_law_947 (by decide) ?_
    refine lv_iadd hx hb dL_law_948 ?_
    refine va_sld hx hb hX hbl hbA hS (by unfold vp_in; decide) dL_law_949 ?_
    refine lv_aload_n hx hb dL_law_950 rfl (lv_at hl 0 rfl) ?_
    refine lv_iload hx hb dL_law_951 (lv_at hl 4 rfl) ?_
    refine lv_iconst (v := 3) hx hb dL_law_953 (by decide) ?_
    refine lv_iadd hx hb dL_law_954 ?_
    refine va_sld hx hb hX hbl hbA hS (by unfold vp_in; decide) dL_law_955 ?_
    refine lv_aload_n hx hb dL_law_956 rfl (lv_at hl 0 rfl) ?_
    refine lv_iload hx hb dL_law_957 (lv_at hl 4 rfl) ?_
    refine lv_iconst (v := 4) hx hb dL_law_959 (by decide) ?_
    refine lv_iadd hx hb dL_law_960 ?_
    refine va_sld hx hb hX hbl hbA hS (by unfold vp_in; decide) dL_law_961 ?_
    refine lv_if_eq (tgt := 969) hx hb dL_law_962 (by decide) (fun c_962 => ?_) (fun c_962 => ?_)
    · exact absurd c_962 (c_926)
    refine lv_iconst (v := 1) hx hb dL_law_965 (by decide) ?_
    refine lv_goto (tgt := 970) hx hb dL_law_966 (by decide) ?_
    refine xb_goi (wr := [(qc, .inl (cB, 1024, .inl (fun _ => 0))), (q1, .inl (a1, 66000, .inl f1)), (q2, .inl (a2, 66000, .inl f2)), (q4, .inl (a4, 24000, .inl f4)), (q5, .inl (a5, 24000, .inl f5)), (q6, .inl (a6, 24000, .inl f6)), (q7, .inl (a7, 4096, .inl f7)), (qm, .inl (aM, 65560, .inl fM)), (qo, .inl (aO, 1, .inr (.inl (fun _ => 0)))), (h0, .inr (11, [.ref qc, .int 0, .ref g.1, .null, .int (-1)]))]) (va_runV (As := [.int (xs (Int32.toNatClampNeg (0 + 1))), .int (xs (Int32.toNatClampNeg (0 + 2))), .int (xs (Int32.toNatClampNeg (0 + 3))), .int 1]) (rest := [.int (-1)]) ⟨hx, hb, hml, hown, htb⟩ (mm_jump l D g m0 fs (xs (Int32.toNatClampNeg (0 + 1))) (xs (Int32.toNatClampNeg (0 + 2))) (xs (Int32.toNatClampNeg (0 + 3))) 1 (Array.size H) (md_sub hm [9] rfl)) (bg_V 4 htb bg_444 bg_445 bg_446 bg_144 bg_245 rfl rfl (by decide +kernel) ⟨Nat.le_of_ble_eq_true rfl, Nat.le_of_ble_eq_true rfl⟩) ⟨xb_blind xe_ok, va_recv hK hP (ci := 12) (q0 := 1) rfl rfl, xb_enter xe_ok hK hP hD hS hA hE [1] rfl rfl rfl [] rfl⟩ rfl rfl hl.1 rfl (lv_room (Nat.le_of_ble_eq_true rfl)) dL_law_970 ⟨Nat.le_of_ble_eq_true rfl, Nat.le_of_ble_eq_true rfl⟩) hK hP hD hS hA [1] [0, 2, 3, 4, 5, 6, 7, 8, 9, 10] rfl rfl rfl (by decide) (fun r_970 u_970 H locs hw_970 hP hD hK hS => ?_)
    generalize u_970 = fs at hP hD hK hw_970
    have hP : va_P D vwCl [(qc, .inl (cB, 1024, .inl (fun _ => 0))), (q1, .inl (a1, 66000, .inl f1)), (q2, .inl (a2, 66000, .inl f2)), (q4, .inl (a4, 24000, .inl f4)), (q5, .inl (a5, 24000, .inl f5)), (q6, .inl (a6, 24000, .inl f6)), (q7, .inl (a7, 4096, .inl f7)), (qm, .inl (aM, 65560, .inl fM)), (qo, .inl (aO, 1, .inr (.inl (fun _ => 0)))), (h0, .inr (11, [.ref qc, .int 0, .ref g.1, .null, .int (-1)])), (m0, .inr (12, fs))] H := hP
    have hD : va_D A [(qc, .inl (cB, 1024, .inl (fun _ => 0))), (q1, .inl (a1, 66000, .inl f1)), (q2, .inl (a2, 66000, .inl f2)), (q4, .inl (a4, 24000, .inl f4)), (q5, .inl (a5, 24000, .inl f5)), (q6, .inl (a6, 24000, .inl f6)), (q7, .inl (a7, 4096, .inl f7)), (qm, .inl (aM, 65560, .inl fM)), (qo, .inl (aO, 1, .inr (.inl (fun _ => 0)))), (h0, .inr (11, [.ref qc, .int 0, .ref g.1, .null, .int (-1)])), (m0, .inr (12, fs))] := hD
    have hK : va_K D vwCl [(cB, .byte), (a1, .char), (a2, .char), (a4, .int), (a5, .int), (a6, .int), (a7, .int), (aM, .byte), (aO, .long)] s := hK
    refine W.widen (k := 43) (n := 899680) (by decide) (by decide) ?_
    obtain ⟨hw_970, hm⟩ := hw_970
    have hm : md_has fs [(0, .int 0)] := hm
    have hw_970 : r_970 = (-1) := hw_970
    subst hw_970
    refine lv_icmp_eq (tgt := 978) hx hb dL_law_973 (by decide) (fun c_973 => ?_) (fun c_973 => ?_)
    rotate_left
    · exact absurd (by decide) c_973
    exact law_done hx hb hr hml hlocks hX hbl hAe hbA hS (by decide) (by decide) (lv_sub hl [4, 0] rfl)
