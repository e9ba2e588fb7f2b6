/-- the hash of the first n characters, and the bucket -/
def sy_h (f : Nat → Int32) : Nat → Int32
  | 0 => 7
  | n + 1 => 31 * sy_h f n + f n
def sy_i (f : Nat → Int32) (n : Nat) : Int32 := (sy_h f n ^^^ ((sy_h f n).toUInt32 >>> ((12 : Int32).toUInt32 &&& Int32.toUInt32 31)).toInt32) &&& 4095
theorem sy_same {f g : Nat → Int32} : ∀ n : Nat, (∀ j, j < n → f j = g j) → sy_h f n = sy_h g n
  | 0, _ => rfl
  | n + 1, h => by rw [sy_h, sy_h, sy_same n (fun j hj => h j (by omega)), h n (by omega)]
theorem sy_upd {f P : Nat → Int32} {k : Nat} {v : Int32} (hk : (nI k).toNatClampNeg = k) (h : ∀ j, j < k → f j = P j) (hv : v = P k) : ∀ j, j < k + 1 → upd f (nI k).toNatClampNeg v j = P j := by
  intro j hj
  rw [hk]
  by_cases e : j = k
  · rw [e, pk_us, hv]
  · rw [pk_un e]
    exact h j (by omega)
theorem sy_in (f : Nat → Int32) (n : Nat) : vp_in (sy_i f n) 4096 := pk_andIn _ 12 (by decide) (by decide)
theorem dX12_clear_12 : decode cX12_clear 12 = .ok (.iload_n 1, 1) := by decide +kernel
theorem dX12_clear_13 : decode cX12_clear 13 = .ok (.sipush 4096, 3) := by decide +kernel
theorem dX12_clear_16 : decode cX12_clear 16 = .ok (.if_icmp .ge 16, 3) := by decide +kernel
theorem dX12_clear_19 : decode cX12_clear 19 = .ok (.aload_n 0, 1) := by decide +kernel
theorem dX12_clear_20 : decode cX12_clear 20 = .ok (.getfield 31, 3) := by decide +kernel
theorem dX12_clear_23 : decode cX12_clear 23 = .ok (.iload_n 1, 1) := by decide +kernel
theorem dX12_clear_24 : decode cX12_clear 24 = .ok (.iconst (-1), 1) := by decide +kernel
theorem dX12_clear_25 : decode cX12_clear 25 = .ok (.iastore, 1) := by decide +kernel
theorem dX12_clear_26 : decode cX12_clear 26 = .ok (.iinc 1 1, 3) := by decide +kernel
theorem dX12_clear_29 : decode cX12_clear 29 = .ok (.goto (-17), 3) := by decide +kernel
set_option maxHeartbeats 4000000 in
set_option maxRecDepth 100000 in
theorem lp_clear {p : Program} {l : Launch} {e : Env} {R : Room} {s : State} {m : MethodId} {args : Array Value} {below : List Frame} {meth : Method} {c : Code} {Q : State → Prop} {D : va_G} {A : Nat → Prop} {cells slots : Nat} {m0 : Nat} {fs : List Value} {q1 : Nat} {q2 : Nat} {q4 : Nat} {q5 : Nat} {q6 : Nat} {q7 : Nat} {a1 : ClassId} {a2 : ClassId} {a4 : ClassId} {a5 : ClassId} {a6 : ClassId} {a7 : ClassId} {f1 : Nat → Int32} {f2 : Nat → Int32} {f4 : Nat → Int32} {f5 : Nat → Int32} {f6 : Nat → Int32} {qf : Nat} {qm : Nat} {y17 : Int32} {y18 : Int32} {y19 : Int32} {y73 : Int32} (hx : p.tables.exec = Jvm.exec) (hb : c.code = cX12_clear) (htb : ∀ w ∈ bg, w.before args s = true) (hown : s.vm.findClass RX12 = some m.cls) (hml : c.maxLocals = 2) (hA : ∀ q : Nat, s.heap.size ≤ q → A q)  (hm : md_has fs [(1, .ref q1), (2, .ref q2), (4, .ref q4), (5, .ref q5), (6, .ref q6), (7, .ref q7), (13, .ref qf), (15, .ref qm), (17, .int y17), (18, .int y18), (19, .int y19), (73, .int y73)]) (hK : va_K D vwCl [(a1, .char), (a2, .char), (a4, .int), (a5, .int), (a6, .int), (a7, .int)] s)
    (kont : ∀ (f7 : Nat → Int32) (H : Heap) (locs : List Loc) (ls : Array Slot), (∀ j, j < 4096 → f7 j = -1) → va_P D vwCl [(m0, .inr (12, fs)), (q1, .inl (a1, 66000, .inl f1)), (q2, .inl (a2, 66000, .inl f2)), (q4, .inl (a4, 24000, .inl f4)), (q5, .inl (a5, 24000, .inl f5)), (q6, .inl (a6, 24000, .inl f6)), (q7, .inl (a7, 4096, .inl f7))] H → va_D A [(m0, .inr (12, fs)), (q1, .inl (a1, 66000, .inl f1)), (q2, .inl (a2, 66000, .inl f2)), (q4, .inl (a4, 24000, .inl f4)), (q5, .inl (a5, 24000, .inl f5)), (q6, .inl (a6, 24000, .inl f6)), (q7, .inl (a7, 4096, .inl f7))] → va_S A s.heap H locs → lv_has ls 2 [(1, .int (nI 4096)), (0, .ref m0)] → W p l e R s m args below meth c H locs cells slots Q (F0 m 32 ls [])) :
    ∀ (n k : Nat) (f7 : Nat → Int32) (H : Heap) (locs : List Loc) (ls : Array Slot), k + n = 4096 → (∀ j, j < k → f7 j = -1) → va_P D vwCl [(m0, .inr (12, fs)), (q1, .inl (a1, 66000, .inl f1)), (q2, .inl (a2, 66000, .inl f2)), (q4, .inl (a4, 24000, .inl f4)), (q5, .inl (a5, 24000, .inl f5)), (q6, .inl (a6, 24000, .inl f6)), (q7, .inl (a7, 4096, .inl f7))] H → va_D A [(m0, .inr (12, fs)), (q1, .inl (a1, 66000, .inl f1)), (q2, .inl (a2, 66000, .inl f2)), (q4, .inl (a4, 24000, .inl f4)), (q5, .inl (a5, 24000, .inl f5)), (q6, .inl (a6, 24000, .inl f6)), (q7, .inl (a7, 4096, .inl f7))] → va_S A s.heap H locs → lv_has ls 2 [(1, .int (nI k)), (0, .ref m0)] → W p l e R s m args below meth c H locs cells slots Q (F0 m 12 ls []) := by
  intro n
  induction n with
  | zero =>
    intro k f7 H locs ls hkn hi hP hD hS hl
    have hk0 : k = 4096 := by omega
    subst hk0
    refine lv_iload_n hx hb dX12_clear_12 rfl (lv_at hl 0 rfl) ?_
    refine lv_sipush (v := 4096) hx hb dX12_clear_13 (by decide) ?_
    refine lv_icmp_ge (tgt := 32) hx hb dX12_clear_16 (by decide) (fun c_16 => ?_) (fun c_16 => ?_)
    rotate_left
    · exact absurd (by decide) c_16
    exact kont f7 H locs ls hi hP hD hS hl
  | succ n ih =>
    intro k f7 H locs ls hkn hi hP hD hS hl
    refine lv_iload_n hx hb dX12_clear_12 rfl (lv_at hl 0 rfl) ?_
    refine lv_sipush (v := 4096) hx hb dX12_clear_13 (by decide) ?_
    refine lv_icmp_ge (tgt := 32) hx hb dX12_clear_16 (by decide) (fun c_16 => ?_) (fun c_16 => ?_)
    · exact absurd c_16 (nI_ge (a := k) (b := 4096) (by omega) (by omega))
    refine lv_aload_n hx hb dX12_clear_19 rfl (lv_at hl 1 rfl) ?_
    refine va_get (D := D) (ci := 12) (v := .ref q7) (C := RX12) (T := TX12) (N := 82) hx hb htb bi_X12 hown hK hP 0 rfl rfl 7 (by decide) (htb _ bg_99) (fun _ h9 => h9) (md_at hm 5 rfl) dX12_clear_20 ?_
    refine lv_iload_n hx hb dX12_clear_23 rfl (lv_at hl 0 rfl) ?_
    refine lv_iconst (v := (-1)) hx hb dX12_clear_24 (by decide) ?_
    refine va_iast hx hb hK hP hD hS 6 5 rfl rfl (vp_in_nI (by omega) (by omega)) dX12_clear_25 (fun H locs hP hD hS => ?_)
    have hP : va_P D vwCl [(m0, .inr (12, fs)), (q1, .inl (a1, 66000, .inl f1)), (q2, .inl (a2, 66000, .inl f2)), (q4, .inl (a4, 24000, .inl f4)), (q5, .inl (a5, 24000, .inl f5)), (q6, .inl (a6, 24000, .inl f6)), (q7, .inl (a7, 4096, .inl (upd f7 (Int32.toNatClampNeg (nI k)) (-1))))] H := hP
    have hD : va_D A [(m0, .inr (12, fs)), (q1, .inl (a1, 66000, .inl f1)), (q2, .inl (a2, 66000, .inl f2)), (q4, .inl (a4, 24000, .inl f4)), (q5, .inl (a5, 24000, .inl f5)), (q6, .inl (a6, 24000, .inl f6)), (q7, .inl (a7, 4096, .inl (upd f7 (Int32.toNatClampNeg (nI k)) (-1))))] := hD
    refine lv_iinc (v := (nI (k + 1))) (lv' := [(1, .int (nI (k + 1))), (0, .ref m0)]) hx hb dX12_clear_26 hl (k := 0) rfl (nI_1 k) (by decide) rfl (fun ls hl => ?_)
    refine lv_goto (tgt := 12) hx hb dX12_clear_29 (by decide) ?_
    exact ih (k + 1) _ _ _ _ (by omega) (sy_upd (P := fun _ => -1) (nI_clamp (by omega)) hi rfl) hP hD hS hl
theorem dX12_symbol__5 : decode cX12_symbol_ 5 = .ok (.iload_n 3, 1) := by decide +kernel
theorem dX12_symbol__6 : decode cX12_symbol_ 6 = .ok (.iload_n 1, 1) := by decide +kernel
theorem dX12_symbol__7 : decode cX12_symbol_ 7 = .ok (.if_icmp .ge 21, 3) := by decide +kernel
theorem dX12_symbol__10 : decode cX12_symbol_ 10 = .ok (.bipush 31, 2) := by decide +kernel
theorem dX12_symbol__12 : decode cX12_symbol_ 12 = .ok (.iload_n 2, 1) := by decide +kernel
theorem dX12_symbol__13 : decode cX12_symbol_ 13 = .ok (.imul, 1) := by decide +kernel
theorem dX12_symbol__14 : decode cX12_symbol_ 14 = .ok (.aload_n 0, 1) := by decide +kernel
theorem dX12_symbol__15 : decode cX12_symbol_ 15 = .ok (.getfield 18, 3) := by decide +kernel
theorem dX12_symbol__18 : decode cX12_symbol_ 18 = .ok (.iload_n 3, 1) := by decide +kernel
theorem dX12_symbol__19 : decode cX12_symbol_ 19 = .ok (.caload, 1) := by decide +kernel
theorem dX12_symbol__20 : decode cX12_symbol_ 20 = .ok (.iadd, 1) := by decide +kernel
theorem dX12_symbol__21 : decode cX12_symbol_ 21 = .ok (.istore_n 2, 1) := by decide +kernel
theorem dX12_symbol__22 : decode cX12_symbol_ 22 = .ok (.iinc 3 1, 3) := by decide +kernel
theorem dX12_symbol__25 : decode cX12_symbol_ 25 = .ok (.goto (-20), 3) := by decide +kernel
set_option maxHeartbeats 4000000 in
set_option maxRecDepth 100000 in
theorem lp_hash {p : Program} {l : Launch} {e : Env} {R : Room} {s : State} {m : MethodId} {args : Array Value} {below : List Frame} {meth : Method} {c : Code} {Q : State → Prop} {D : va_G} {A : Nat → Prop} {cells slots : Nat} {m0 : Nat} {fs : List Value} {q1 : Nat} {q2 : Nat} {q4 : Nat} {q5 : Nat} {q6 : Nat} {q7 : Nat} {a1 : ClassId} {a2 : ClassId} {a4 : ClassId} {a5 : ClassId} {a6 : ClassId} {a7 : ClassId} {f1 : Nat → Int32} {f2 : Nat → Int32} {f4 : Nat → Int32} {f5 : Nat → Int32} {f6 : Nat → Int32} {f7 : Nat → Int32} {qf : Nat} {qm : Nat} {y17 : Int32} {y18 : Int32} {y19 : Int32} {y73 : Int32} {cn : Nat} {sn : Nat} {N : Nat} (hx : p.tables.exec = Jvm.exec) (hb : c.code = cX12_symbol_) (htb : ∀ w ∈ bg, w.before args s = true) (hown : s.vm.findClass RX12 = some m.cls) (hml : c.maxLocals = 6) (hA : ∀ q : Nat, s.heap.size ≤ q → A q) (hc : cn + N ≤ 66000) (hs2 : sn < 24000) (hm : md_has fs [(1, .ref q1), (2, .ref q2), (4, .ref q4), (5, .ref q5), (6, .ref q6), (7, .ref q7), (13, .ref qf), (15, .ref qm), (17, .int y17), (18, .int y18), (19, .int y19), (73, .int y73), (3, .int (nI cn)), (8, .int (nI sn))]) (hK : va_K D vwCl [(a1, .char), (a2, .char), (a4, .int), (a5, .int), (a6, .int), (a7, .int)] s)
    (kont : ∀  (H : Heap) (locs : List Loc) (ls : Array Slot), True → va_P D vwCl [(m0, .inr (12, fs)), (q1, .inl (a1, 66000, .inl f1)), (q2, .inl (a2, 66000, .inl f2)), (q4, .inl (a4, 24000, .inl f4)), (q5, .inl (a5, 24000, .inl f5)), (q6, .inl (a6, 24000, .inl f6)), (q7, .inl (a7, 4096, .inl f7))] H → va_D A [(m0, .inr (12, fs)), (q1, .inl (a1, 66000, .inl f1)), (q2, .inl (a2, 66000, .inl f2)), (q4, .inl (a4, 24000, .inl f4)), (q5, .inl (a5, 24000, .inl f5)), (q6, .inl (a6, 24000, .inl f6)), (q7, .inl (a7, 4096, .inl f7))] → va_S A s.heap H locs → lv_has ls 6 [(3, .int (nI N)), (2, .int (sy_h f2 N)), (0, .ref m0), (1, .int (nI N))] → W p l e R s m args below meth c H locs cells slots Q (F0 m 28 ls [])) :
    ∀ (n k : Nat)  (H : Heap) (locs : List Loc) (ls : Array Slot), k + n = N → True → va_P D vwCl [(m0, .inr (12, fs)), (q1, .inl (a1, 66000, .inl f1)), (q2, .inl (a2, 66000, .inl f2)), (q4, .inl (a4, 24000, .inl f4)), (q5, .inl (a5, 24000, .inl f5)), (q6, .inl (a6, 24000, .inl f6)), (q7, .inl (a7, 4096, .inl f7))] H → va_D A [(m0, .inr (12, fs)), (q1, .inl (a1, 66000, .inl f1)), (q2, .inl (a2, 66000, .inl f2)), (q4, .inl (a4, 24000, .inl f4)), (q5, .inl (a5, 24000, .inl f5)), (q6, .inl (a6, 24000, .inl f6)), (q7, .inl (a7, 4096, .inl f7))] → va_S A s.heap H locs → lv_has ls 6 [(3, .int (nI k)), (2, .int (sy_h f2 k)), (0, .ref m0), (1, .int (nI N))] → W p l e R s m args below meth c H locs cells slots Q (F0 m 5 ls []) := by
  intro n
  induction n with
  | zero =>
    intro k  H locs ls hkn hi hP hD hS hl
    have hk0 : k = N := by omega
    refine lv_iload_n hx hb dX12_symbol__5 rfl (lv_at hl 0 rfl) ?_
    refine lv_iload_n hx hb dX12_symbol__6 rfl (lv_at hl 3 rfl) ?_
    refine lv_icmp_ge (tgt := 28) hx hb dX12_symbol__7 (by decide) (fun c_7 => ?_) (fun c_7 => ?_)
    rotate_left
    · exact absurd (by rw [hk0]; exact Int32.le_refl _) c_7
    exact kont H locs ls trivial hP hD hS (by rw [hk0] at hl; exact hl)
  | succ n ih =>
    intro k  H locs ls hkn hi hP hD hS hl
    refine lv_iload_n hx hb dX12_symbol__5 rfl (lv_at hl 0 rfl) ?_
    refine lv_iload_n hx hb dX12_symbol__6 rfl (lv_at hl 3 rfl) ?_
    refine lv_icmp_ge (tgt := 28) hx hb dX12_symbol__7 (by decide) (fun c_7 => ?_) (fun c_7 => ?_)
    · exact absurd c_7 (nI_ge (by omega) (by omega))
    refine lv_bipush (v := 31) hx hb dX12_symbol__10 (by decide) ?_
    refine lv_iload_n hx hb dX12_symbol__12 rfl (lv_at hl 1 rfl) ?_
    refine lv_imul hx hb dX12_symbol__13 ?_
    refine lv_aload_n hx hb dX12_symbol__14 rfl (lv_at hl 2 rfl) ?_
    refine va_get (D := D) (ci := 12) (v := .ref q2) (C := RX12) (T := TX12) (N := 82) hx hb htb bi_X12 hown hK hP 0 rfl rfl 2 (by decide) (htb _ bg_94) (fun _ h9 => h9) (md_at hm 1 rfl) dX12_symbol__15 ?_
    refine lv_iload_n hx hb dX12_symbol__18 rfl (lv_at hl 0 rfl) ?_
    refine va_cald hx hb hK hP 2 1 rfl rfl (vp_in_nI (by omega) (by omega)) dX12_symbol__19 ?_
    refine lv_iadd hx hb dX12_symbol__20 ?_
    refine lv_topi (fun x_20 ex_20 => ?_)
    have hx_20 : x_20 = (sy_h f2 (k + 1)) := by rw [ex_20]; rw [nI_clamp (n := k) (by omega)]; rfl
    rw [hx_20]
    refine lv_istore_n (lv' := [(2, .int (sy_h f2 (k + 1))), (3, .int (nI k)), (0, .ref m0), (1, .int (nI N))]) hx hb dX12_symbol__21 rfl hl (by decide) rfl (fun ls hl => ?_)
    refine lv_iinc (v := (nI (k + 1))) (lv' := [(3, .int (nI (k + 1))), (2, .int (sy_h f2 (k + 1))), (0, .ref m0), (1, .int (nI N))]) hx hb dX12_symbol__22 hl (k := 1) rfl (nI_1 k) (by decide) rfl (fun ls hl => ?_)
    refine lv_goto (tgt := 5) hx hb dX12_symbol__25 (by decide) ?_
    exact ih (k + 1) _ _ _ (by omega) trivial hP hD hS hl
theorem dX12_symbol__137 : decode cX12_symbol_ 137 = .ok (.iload_n 3, 1) := by decide +kernel
theorem dX12_symbol__138 : decode cX12_symbol_ 138 = .ok (.iload_n 1, 1) := by decide +kernel
theorem dX12_symbol__139 : decode cX12_symbol_ 139 = .ok (.if_icmp .ge 26, 3) := by decide +kernel
theorem dX12_symbol__142 : decode cX12_symbol_ 142 = .ok (.aload_n 0, 1) := by decide +kernel
theorem dX12_symbol__143 : decode cX12_symbol_ 143 = .ok (.getfield 14, 3) := by decide +kernel
theorem dX12_symbol__146 : decode cX12_symbol_ 146 = .ok (.aload_n 0, 1) := by decide +kernel
theorem dX12_symbol__147 : decode cX12_symbol_ 147 = .ok (.getfield 172, 3) := by decide +kernel
theorem dX12_symbol__150 : decode cX12_symbol_ 150 = .ok (.iload_n 3, 1) := by decide +kernel
theorem dX12_symbol__151 : decode cX12_symbol_ 151 = .ok (.iadd, 1) := by decide +kernel
theorem dX12_symbol__152 : decode cX12_symbol_ 152 = .ok (.aload_n 0, 1) := by decide +kernel
theorem dX12_symbol__153 : decode cX12_symbol_ 153 = .ok (.getfield 18, 3) := by decide +kernel
theorem dX12_symbol__156 : decode cX12_symbol_ 156 = .ok (.iload_n 3, 1) := by decide +kernel
theorem dX12_symbol__157 : decode cX12_symbol_ 157 = .ok (.caload, 1) := by decide +kernel
theorem dX12_symbol__158 : decode cX12_symbol_ 158 = .ok (.castore, 1) := by decide +kernel
theorem dX12_symbol__159 : decode cX12_symbol_ 159 = .ok (.iinc 3 1, 3) := by decide +kernel
theorem dX12_symbol__162 : decode cX12_symbol_ 162 = .ok (.goto (-25), 3) := by decide +kernel
set_option maxHeartbeats 4000000 in
set_option maxRecDepth 100000 in
theorem lp_copy {p : Program} {l : Launch} {e : Env} {R : Room} {s : State} {m : MethodId} {args : Array Value} {below : List Frame} {meth : Method} {c : Code} {Q : State → Prop} {D : va_G} {A : Nat → Prop} {cells slots : Nat} {m0 : Nat} {fs : List Value} {q1 : Nat} {q2 : Nat} {q4 : Nat} {q5 : Nat} {q6 : Nat} {q7 : Nat} {a1 : ClassId} {a2 : ClassId} {a4 : ClassId} {a5 : ClassId} {a6 : ClassId} {a7 : ClassId} {f2 : Nat → Int32} {f4 : Nat → Int32} {f5 : Nat → Int32} {f6 : Nat → Int32} {f7 : Nat → Int32} {qf : Nat} {qm : Nat} {y17 : Int32} {y18 : Int32} {y19 : Int32} {y73 : Int32} {cn : Nat} {sn : Nat} {N : Nat} {z2 : Int32} (hx : p.tables.exec = Jvm.exec) (hb : c.code = cX12_symbol_) (htb : ∀ w ∈ bg, w.before args s = true) (hown : s.vm.findClass RX12 = some m.cls) (hml : c.maxLocals = 6) (hA : ∀ q : Nat, s.heap.size ≤ q → A q) (hc : cn + N ≤ 66000) (hs2 : sn < 24000) (hm : md_has fs [(1, .ref q1), (2, .ref q2), (4, .ref q4), (5, .ref q5), (6, .ref q6), (7, .ref q7), (13, .ref qf), (15, .ref qm), (17, .int y17), (18, .int y18), (19, .int y19), (73, .int y73), (3, .int (nI cn)), (8, .int (nI sn))]) (hK : va_K D vwCl [(a1, .char), (a2, .char), (a4, .int), (a5, .int), (a6, .int), (a7, .int)] s)
    (kont : ∀ (f1 : Nat → Int32) (H : Heap) (locs : List Loc) (ls : Array Slot), True → va_P D vwCl [(m0, .inr (12, fs)), (q1, .inl (a1, 66000, .inl f1)), (q2, .inl (a2, 66000, .inl f2)), (q4, .inl (a4, 24000, .inl f4)), (q5, .inl (a5, 24000, .inl f5)), (q6, .inl (a6, 24000, .inl f6)), (q7, .inl (a7, 4096, .inl f7))] H → va_D A [(m0, .inr (12, fs)), (q1, .inl (a1, 66000, .inl f1)), (q2, .inl (a2, 66000, .inl f2)), (q4, .inl (a4, 24000, .inl f4)), (q5, .inl (a5, 24000, .inl f5)), (q6, .inl (a6, 24000, .inl f6)), (q7, .inl (a7, 4096, .inl f7))] → va_S A s.heap H locs → lv_has ls 6 [(3, .int (nI N)), (2, .int z2), (0, .ref m0), (1, .int (nI N))] → W p l e R s m args below meth c H locs cells slots Q (F0 m 165 ls [])) :
    ∀ (n k : Nat) (f1 : Nat → Int32) (H : Heap) (locs : List Loc) (ls : Array Slot), k + n = N → True → va_P D vwCl [(m0, .inr (12, fs)), (q1, .inl (a1, 66000, .inl f1)), (q2, .inl (a2, 66000, .inl f2)), (q4, .inl (a4, 24000, .inl f4)), (q5, .inl (a5, 24000, .inl f5)), (q6, .inl (a6, 24000, .inl f6)), (q7, .inl (a7, 4096, .inl f7))] H → va_D A [(m0, .inr (12, fs)), (q1, .inl (a1, 66000, .inl f1)), (q2, .inl (a2, 66000, .inl f2)), (q4, .inl (a4, 24000, .inl f4)), (q5, .inl (a5, 24000, .inl f5)), (q6, .inl (a6, 24000, .inl f6)), (q7, .inl (a7, 4096, .inl f7))] → va_S A s.heap H locs → lv_has ls 6 [(3, .int (nI k)), (2, .int z2), (0, .ref m0), (1, .int (nI N))] → W p l e R s m args below meth c H locs cells slots Q (F0 m 137 ls []) := by
  intro n
  induction n with
  | zero =>
    intro k f1 H locs ls hkn hi hP hD hS hl
    have hk0 : k = N := by omega
    refine lv_iload_n hx hb dX12_symbol__137 rfl (lv_at hl 0 rfl) ?_
    refine lv_iload_n hx hb dX12_symbol__138 rfl (lv_at hl 3 rfl) ?_
    refine lv_icmp_ge (tgt := 165) hx hb dX12_symbol__139 (by decide) (fun c_139 => ?_) (fun c_139 => ?_)
    rotate_left
    · exact absurd (by rw [hk0]; exact Int32.le_refl _) c_139
    exact kont f1 H locs ls trivial hP hD hS (by rw [hk0] at hl; exact hl)
  | succ n ih =>
    intro k f1 H locs ls hkn hi hP hD hS hl
    refine lv_iload_n hx hb dX12_symbol__137 rfl (lv_at hl 0 rfl) ?_
    refine lv_iload_n hx hb dX12_symbol__138 rfl (lv_at hl 3 rfl) ?_
    refine lv_icmp_ge (tgt := 165) hx hb dX12_symbol__139 (by decide) (fun c_139 => ?_) (fun c_139 => ?_)
    · exact absurd c_139 (nI_ge (by omega) (by omega))
    refine lv_aload_n hx hb dX12_symbol__142 rfl (lv_at hl 2 rfl) ?_
    refine va_get (D := D) (ci := 12) (v := .ref q1) (C := RX12) (T := TX12) (N := 82) hx hb htb bi_X12 hown hK hP 0 rfl rfl 1 (by decide) (htb _ bg_93) (fun _ h9 => h9) (md_at hm 0 rfl) dX12_symbol__143 ?_
    refine lv_aload_n hx hb dX12_symbol__146 rfl (lv_at hl 2 rfl) ?_
    refine va_get (D := D) (ci := 12) (v := .int (nI cn)) (C := RX12) (T := TX12) (N := 82) hx hb htb bi_X12 hown hK hP 0 rfl rfl 3 (by decide) (htb _ bg_145) (fun _ h9 => h9) (md_at hm 12 rfl) dX12_symbol__147 ?_
    refine lv_iload_n hx hb dX12_symbol__150 rfl (lv_at hl 0 rfl) ?_
    refine lv_iadd hx hb dX12_symbol__151 ?_
    refine lv_topi (fun x_151 ex_151 => ?_)
    have hx_151 : x_151 = (nI (cn + k)) := by rw [ex_151]; exact nI_add cn k
    rw [hx_151]
    refine lv_aload_n hx hb dX12_symbol__152 rfl (lv_at hl 2 rfl) ?_
    refine va_get (D := D) (ci := 12) (v := .ref q2) (C := RX12) (T := TX12) (N := 82) hx hb htb bi_X12 hown hK hP 0 rfl rfl 2 (by decide) (htb _ bg_94) (fun _ h9 => h9) (md_at hm 1 rfl) dX12_symbol__153 ?_
    refine lv_iload_n hx hb dX12_symbol__156 rfl (lv_at hl 0 rfl) ?_
    refine va_cald hx hb hK hP 2 1 rfl rfl (vp_in_nI (by omega) (by omega)) dX12_symbol__157 ?_
    refine va_cast hx hb hK hP hD hS 1 0 rfl rfl (vp_in_nI (by omega) (by omega)) dX12_symbol__158 (fun H locs hP hD hS => ?_)
    have hP : va_P D vwCl [(m0, .inr (12, fs)), (q1, .inl (a1, 66000, .inl (upd f1 (Int32.toNatClampNeg (nI (cn + k))) (vp_nar .char (f2 (Int32.toNatClampNeg (nI k))))))), (q2, .inl (a2, 66000, .inl f2)), (q4, .inl (a4, 24000, .inl f4)), (q5, .inl (a5, 24000, .inl f5)), (q6, .inl (a6, 24000, .inl f6)), (q7, .inl (a7, 4096, .inl f7))] H := hP
    have hD : va_D A [(m0, .inr (12, fs)), (q1, .inl (a1, 66000, .inl (upd f1 (Int32.toNatClampNeg (nI (cn + k))) (vp_nar .char (f2 (Int32.toNatClampNeg (nI k))))))), (q2, .inl (a2, 66000, .inl f2)), (q4, .inl (a4, 24000, .inl f4)), (q5, .inl (a5, 24000, .inl f5)), (q6, .inl (a6, 24000, .inl f6)), (q7, .inl (a7, 4096, .inl f7))] := hD
    refine lv_iinc (v := (nI (k + 1))) (lv' := [(3, .int (nI (k + 1))), (2, .int z2), (0, .ref m0), (1, .int (nI N))]) hx hb dX12_symbol__159 hl (k := 0) rfl (nI_1 k) (by decide) rfl (fun ls hl => ?_)
    refine lv_goto (tgt := 137) hx hb dX12_symbol__162 (by decide) ?_
    exact ih (k + 1) _ _ _ _ (by omega) trivial hP hD hS hl
theorem dX12_symbol__0 : decode cX12_symbol_ 0 = .ok (.bipush 7, 2) := by decide +kernel
theorem dX12_symbol__2 : decode cX12_symbol_ 2 = .ok (.istore_n 2, 1) := by decide +kernel
theorem dX12_symbol__3 : decode cX12_symbol_ 3 = .ok (.iconst 0, 1) := by decide +kernel
theorem dX12_symbol__4 : decode cX12_symbol_ 4 = .ok (.istore_n 3, 1) := by decide +kernel
theorem dX12_symbol__28 : decode cX12_symbol_ 28 = .ok (.iload_n 2, 1) := by decide +kernel
theorem dX12_symbol__29 : decode cX12_symbol_ 29 = .ok (.iload_n 2, 1) := by decide +kernel
theorem dX12_symbol__30 : decode cX12_symbol_ 30 = .ok (.bipush 12, 2) := by decide +kernel
theorem dX12_symbol__32 : decode cX12_symbol_ 32 = .ok (.iushr, 1) := by decide +kernel
theorem dX12_symbol__33 : decode cX12_symbol_ 33 = .ok (.ixor, 1) := by decide +kernel
theorem dX12_symbol__34 : decode cX12_symbol_ 34 = .ok (.sipush 4095, 3) := by decide +kernel
theorem dX12_symbol__37 : decode cX12_symbol_ 37 = .ok (.iand, 1) := by decide +kernel
theorem dX12_symbol__38 : decode cX12_symbol_ 38 = .ok (.istore_n 2, 1) := by decide +kernel
theorem dX12_symbol__39 : decode cX12_symbol_ 39 = .ok (.aload_n 0, 1) := by decide +kernel
theorem dX12_symbol__40 : decode cX12_symbol_ 40 = .ok (.getfield 31, 3) := by decide +kernel
theorem dX12_symbol__43 : decode cX12_symbol_ 43 = .ok (.iload_n 2, 1) := by decide +kernel
theorem dX12_symbol__44 : decode cX12_symbol_ 44 = .ok (.iaload, 1) := by decide +kernel
theorem dX12_symbol__45 : decode cX12_symbol_ 45 = .ok (.istore_n 3, 1) := by decide +kernel
theorem dX12_symbol__46 : decode cX12_symbol_ 46 = .ok (.iload_n 3, 1) := by decide +kernel
theorem dX12_symbol__47 : decode cX12_symbol_ 47 = .ok (.ifCond .lt 88, 3) := by decide +kernel
theorem dX12_symbol__135 : decode cX12_symbol_ 135 = .ok (.iconst 0, 1) := by decide +kernel
theorem dX12_symbol__136 : decode cX12_symbol_ 136 = .ok (.istore_n 3, 1) := by decide +kernel
theorem dX12_symbol__165 : decode cX12_symbol_ 165 = .ok (.aload_n 0, 1) := by decide +kernel
theorem dX12_symbol__166 : decode cX12_symbol_ 166 = .ok (.dup, 1) := by decide +kernel
theorem dX12_symbol__167 : decode cX12_symbol_ 167 = .ok (.getfield 175, 3) := by decide +kernel
theorem dX12_symbol__170 : decode cX12_symbol_ 170 = .ok (.dup_x1, 1) := by decide +kernel
theorem dX12_symbol__171 : decode cX12_symbol_ 171 = .ok (.iconst 1, 1) := by decide +kernel
theorem dX12_symbol__172 : decode cX12_symbol_ 172 = .ok (.iadd, 1) := by decide +kernel
theorem dX12_symbol__173 : decode cX12_symbol_ 173 = .ok (.putfield 175, 3) := by decide +kernel
theorem dX12_symbol__176 : decode cX12_symbol_ 176 = .ok (.istore_n 3, 1) := by decide +kernel
theorem dX12_symbol__177 : decode cX12_symbol_ 177 = .ok (.aload_n 0, 1) := by decide +kernel
theorem dX12_symbol__178 : decode cX12_symbol_ 178 = .ok (.getfield 21, 3) := by decide +kernel
theorem dX12_symbol__181 : decode cX12_symbol_ 181 = .ok (.iload_n 3, 1) := by decide +kernel
theorem dX12_symbol__182 : decode cX12_symbol_ 182 = .ok (.aload_n 0, 1) := by decide +kernel
theorem dX12_symbol__183 : decode cX12_symbol_ 183 = .ok (.getfield 172, 3) := by decide +kernel
theorem dX12_symbol__186 : decode cX12_symbol_ 186 = .ok (.iastore, 1) := by decide +kernel
theorem dX12_symbol__187 : decode cX12_symbol_ 187 = .ok (.aload_n 0, 1) := by decide +kernel
theorem dX12_symbol__188 : decode cX12_symbol_ 188 = .ok (.getfield 25, 3) := by decide +kernel
theorem dX12_symbol__191 : decode cX12_symbol_ 191 = .ok (.iload_n 3, 1) := by decide +kernel
theorem dX12_symbol__192 : decode cX12_symbol_ 192 = .ok (.iload_n 1, 1) := by decide +kernel
theorem dX12_symbol__193 : decode cX12_symbol_ 193 = .ok (.iastore, 1) := by decide +kernel
theorem dX12_symbol__194 : decode cX12_symbol_ 194 = .ok (.aload_n 0, 1) := by decide +kernel
theorem dX12_symbol__195 : decode cX12_symbol_ 195 = .ok (.getfield 28, 3) := by decide +kernel
theorem dX12_symbol__198 : decode cX12_symbol_ 198 = .ok (.iload_n 3, 1) := by decide +kernel
theorem dX12_symbol__199 : decode cX12_symbol_ 199 = .ok (.aload_n 0, 1) := by decide +kernel
theorem dX12_symbol__200 : decode cX12_symbol_ 200 = .ok (.getfield 31, 3) := by decide +kernel
theorem dX12_symbol__203 : decode cX12_symbol_ 203 = .ok (.iload_n 2, 1) := by decide +kernel
theorem dX12_symbol__204 : decode cX12_symbol_ 204 = .ok (.iaload, 1) := by decide +kernel
theorem dX12_symbol__205 : decode cX12_symbol_ 205 = .ok (.iastore, 1) := by decide +kernel
theorem dX12_symbol__206 : decode cX12_symbol_ 206 = .ok (.aload_n 0, 1) := by decide +kernel
theorem dX12_symbol__207 : decode cX12_symbol_ 207 = .ok (.getfield 31, 3) := by decide +kernel
theorem dX12_symbol__210 : decode cX12_symbol_ 210 = .ok (.iload_n 2, 1) := by decide +kernel
theorem dX12_symbol__211 : decode cX12_symbol_ 211 = .ok (.iload_n 3, 1) := by decide +kernel
theorem dX12_symbol__212 : decode cX12_symbol_ 212 = .ok (.iastore, 1) := by decide +kernel
theorem dX12_symbol__213 : decode cX12_symbol_ 213 = .ok (.aload_n 0, 1) := by decide +kernel
theorem dX12_symbol__214 : decode cX12_symbol_ 214 = .ok (.dup, 1) := by decide +kernel
theorem dX12_symbol__215 : decode cX12_symbol_ 215 = .ok (.getfield 172, 3) := by decide +kernel
theorem dX12_symbol__218 : decode cX12_symbol_ 218 = .ok (.iload_n 1, 1) := by decide +kernel
theorem dX12_symbol__219 : decode cX12_symbol_ 219 = .ok (.iadd, 1) := by decide +kernel
theorem dX12_symbol__220 : decode cX12_symbol_ 220 = .ok (.putfield 172, 3) := by decide +kernel
theorem dX12_symbol__223 : decode cX12_symbol_ 223 = .ok (.iload_n 3, 1) := by decide +kernel
theorem dX12_symbol__224 : decode cX12_symbol_ 224 = .ok (.ireturn, 1) := by decide +kernel
set_option maxHeartbeats 4000000 in
set_option maxRecDepth 100000 in
theorem mm_sym (l : Launch) (D : va_G) (g : xe_G) (m0 : Nat) (fs : List Value) (q1 : Nat) (q2 : Nat) (q4 : Nat) (q5 : Nat) (q6 : Nat) (q7 : Nat) (a1 : ClassId) (a2 : ClassId) (a4 : ClassId) (a5 : ClassId) (a6 : ClassId) (a7 : ClassId) (f1 : Nat → Int32) (f2 : Nat → Int32) (f4 : Nat → Int32) (f5 : Nat → Int32) (f6 : Nat → Int32) (f7 : Nat → Int32) (qf : Nat) (qm : Nat) (y17 : Int32) (y18 : Int32) (y19 : Int32) (y73 : Int32) (cn : Nat) (sn : Nat) (N : Nat) (sz : Nat) (hm : md_has fs [(1, .ref q1), (2, .ref q2), (4, .ref q4), (5, .ref q5), (6, .ref q6), (7, .ref q7), (13, .ref qf), (15, .ref qm), (17, .int y17), (18, .int y18), (19, .int y19), (73, .int y73), (3, .int (nI cn)), (8, .int (nI sn))]) (hc : cn + N ≤ 66000) (hs2 : sn < 24000) (hh : f7 (Int32.toNatClampNeg (sy_i f2 N)) = -1) : Met l yX12_symbol_ (.code yX12_symbol_ cX12_symbol_ 6 (some .int) :: bg) ({ frames := 1, cells := 0, slots := 0, locals := 120 } : Room) (xb_Pre (xe_E g) D vwCl [(m0, .inr (12, fs)), (q1, .inl (a1, 66000, .inl f1)), (q2, .inl (a2, 66000, .inl f2)), (q4, .inl (a4, 24000, .inl f4)), (q5, .inl (a5, 24000, .inl f5)), (q6, .inl (a6, 24000, .inl f6)), (q7, .inl (a7, 4096, .inl f7))] [(a1, .char), (a2, .char), (a4, .int), (a5, .int), (a6, .int), (a7, .int)] sz [.ref m0, .int (nI N)]) (va_Qi (fun r u => md_has u.1 [(1, .ref q1), (2, .ref q2), (4, .ref q4), (5, .ref q5), (6, .ref q6), (7, .ref q7), (13, .ref qf), (15, .ref qm), (17, .int y17), (18, .int y18), (19, .int y19), (73, .int y73), (3, .int (nI (cn + N))), (8, .int (nI (sn + 1)))] ∧ ∀ j, j ≠ (Int32.toNatClampNeg (sy_i f2 N)) → u.2.2.2.2.2 j = f7 j) (xb_B D vwCl (va_A [(m0, .inr (12, fs)), (q1, .inl (a1, 66000, .inl f1)), (q2, .inl (a2, 66000, .inl f2)), (q4, .inl (a4, 24000, .inl f4)), (q5, .inl (a5, 24000, .inl f5)), (q6, .inl (a6, 24000, .inl f6)), (q7, .inl (a7, 4096, .inl f7))] sz) (fun u : List Value × (Nat → Int32) × (Nat → Int32) × (Nat → Int32) × (Nat → Int32) × (Nat → Int32) => [(m0, .inr (12, u.1)), (q1, .inl (a1, 66000, .inl u.2.1)), (q2, .inl (a2, 66000, .inl f2)), (q4, .inl (a4, 24000, .inl u.2.2.1)), (q5, .inl (a5, 24000, .inl u.2.2.2.1)), (q6, .inl (a6, 24000, .inl u.2.2.2.2.1)), (q7, .inl (a7, 4096, .inl u.2.2.2.2.2))]) (fun u : List Value × (Nat → Int32) × (Nat → Int32) × (Nat → Int32) × (Nat → Int32) × (Nat → Int32) => [(a1, .char), (a2, .char), (a4, .int), (a5, .int), (a6, .int), (a7, .int)])) (va_A [(m0, .inr (12, fs)), (q1, .inl (a1, 66000, .inl f1)), (q2, .inl (a2, 66000, .inl f2)), (q4, .inl (a4, 24000, .inl f4)), (q5, .inl (a5, 24000, .inl f5)), (q6, .inl (a6, 24000, .inl f6)), (q7, .inl (a7, 4096, .inl f7))] sz)) 0 0 (va_A [(m0, .inr (12, fs)), (q1, .inl (a1, 66000, .inl f1)), (q2, .inl (a2, 66000, .inl f2)), (q4, .inl (a4, 24000, .inl f4)), (q5, .inl (a5, 24000, .inl f5)), (q6, .inl (a6, 24000, .inl f6)), (q7, .inl (a7, 4096, .inl f7))] sz) := by
  refine Met.ofW (cc := cX12_symbol_) (maxL := 6) (ret := (some .int)) (by decide) rfl ?_
  intro p e s m args below meth c s₁ B hml hv
  obtain ⟨rfl, hsz, hP, hK, hD0, hE⟩ := hv
  have hx := B.exec
  have hb := B.bytes
  have hr := B.returns
  have hts := atoms_spec (ws := (.code yX12_symbol_ cX12_symbol_ 6 (some .int) :: bg)) B.pre
  have htb : ∀ w ∈ bg, w.before _ s = true := fun w h => hts w (List.mem_cons_of_mem _ h)
  have hown : s.vm.findClass RX12 = some m.cls := findClass_of_methodNamed B.named
  have hlocks := B.notSynchronized
  subst hsz
  have hD := hD0.self (sz := s.heap.size)
  generalize hAe : va_A [(m0, .inr (12, fs)), (q1, .inl (a1, 66000, .inl f1)), (q2, .inl (a2, 66000, .inl f2)), (q4, .inl (a4, 24000, .inl f4)), (q5, .inl (a5, 24000, .inl f5)), (q6, .inl (a6, 24000, .inl f6)), (q7, .inl (a7, 4096, .inl f7))] s.heap.size = A at hD hE ⊢
  have hA : ∀ q : Nat, s.heap.size ≤ q → A q := fun q h => by rw [← hAe]; exact Or.inr h
  have hS : va_S A s.heap s.heap [] := va_S.rf
  have hP : va_P D vwCl [(m0, .inr (12, fs)), (q1, .inl (a1, 66000, .inl f1)), (q2, .inl (a2, 66000, .inl f2)), (q4, .inl (a4, 24000, .inl f4)), (q5, .inl (a5, 24000, .inl f5)), (q6, .inl (a6, 24000, .inl f6)), (q7, .inl (a7, 4096, .inl f7))] s.heap := hP
  have hl := lv_entry ([.ref m0, .int (nI N)]) (n := 6) (Nat.le_of_ble_eq_true rfl)
  rw [lg_entry_eq]
  generalize (lg_sl ([.ref m0, .int (nI N)]) ++ List.replicate (6 - (lg_sl ([.ref m0, .int (nI N)])).length) Slot.unset).toArray = ls at hl ⊢
  have hl : lv_has ls 6 [(0, .ref m0), (1, .int (nI N))] := hl
  refine lv_bipush (v := 7) hx hb dX12_symbol__0 (by decide) ?_
  refine lv_istore_n (lv' := [(2, .int 7), (0, .ref m0), (1, .int (nI N))]) hx hb dX12_symbol__2 rfl hl (by decide) rfl (fun ls hl => ?_)
  refine lv_iconst (v := 0) hx hb dX12_symbol__3 (by decide) ?_
  refine lv_istore_n (lv' := [(3, .int 0), (2, .int 7), (0, .ref m0), (1, .int (nI N))]) hx hb dX12_symbol__4 rfl hl (by decide) rfl (fun ls hl => ?_)
  have hl : lv_has ls 6 [(3, .int (nI 0)), (2, .int (sy_h f2 0)), (0, .ref m0), (1, .int (nI N))] := hl
  refine lp_hash hx hb htb hown hml hA hc hs2 hm hK (fun H locs ls _ hP hD hS hl => ?_) N 0 _ _ _ (by omega) trivial hP hD hS hl
  refine lv_iload_n hx hb dX12_symbol__28 rfl (lv_at hl 1 rfl) ?_
  refine lv_iload_n hx hb dX12_symbol__29 rfl (lv_at hl 1 rfl) ?_
  refine lv_bipush (v := 12) hx hb dX12_symbol__30 (by decide) ?_
  refine lv_iushr hx hb dX12_symbol__32 rfl ?_
  refine lv_topi (fun x32_u ex32_u => ?_)
  refine lv_ixor hx hb dX12_symbol__33 ?_
  refine lv_sipush (v := 4095) hx hb dX12_symbol__34 (by decide) ?_
  refine lv_iand hx hb dX12_symbol__37 ?_
  refine lv_topi (fun x_37 ex_37 => ?_)
  have hx_37 : x_37 = (sy_i f2 N) := by rw [ex_37]; rw [ex32_u]; rfl
  rw [hx_37]
  refine lv_istore_n (lv' := [(2, .int (sy_i f2 N)), (3, .int (nI N)), (0, .ref m0), (1, .int (nI N))]) hx hb dX12_symbol__38 rfl hl (by decide) rfl (fun ls hl => ?_)
  refine lv_aload_n hx hb dX12_symbol__39 rfl (lv_at hl 2 rfl) ?_
  refine va_get (D := D) (ci := 12) (v := .ref q7) (C := RX12) (T := TX12) (N := 82) hx hb htb bi_X12 hown hK hP 0 rfl rfl 7 (by decide) (htb _ bg_99) (fun _ h9 => h9) (md_at hm 5 rfl) dX12_symbol__40 ?_
  refine lv_iload_n hx hb dX12_symbol__43 rfl (lv_at hl 0 rfl) ?_
  refine va_iald hx hb hK hP 6 5 rfl rfl (sy_in f2 N) dX12_symbol__44 ?_
  refine lv_topi (fun x_44 ex_44 => ?_)
  have hx_44 : x_44 = (-1) := by rw [ex_44]; exact hh
  rw [hx_44]
  refine lv_istore_n (lv' := [(3, .int (-1)), (2, .int (sy_i f2 N)), (0, .ref m0), (1, .int (nI N))]) hx hb dX12_symbol__45 rfl hl (by decide) rfl (fun ls hl => ?_)
  refine lv_iload_n hx hb dX12_symbol__46 rfl (lv_at hl 0 rfl) ?_
  refine lv_if_lt (tgt := 135) hx hb dX12_symbol__47 (by decide) (fun c_47 => ?_) (fun c_47 => ?_)
  rotate_left
  · exact absurd (by decide) c_47
  refine lv_iconst (v := 0) hx hb dX12_symbol__135 (by decide) ?_
  refine lv_istore_n (lv' := [(3, .int 0), (2, .int (sy_i f2 N)), (0, .ref m0), (1, .int (nI N))]) hx hb dX12_symbol__136 rfl hl (by decide) rfl (fun ls hl => ?_)
  have hl := lv_sub hl (l' := [(3, .int (nI 0)), (2, .int (sy_i f2 N)), (0, .ref m0), (1, .int (nI N))]) [0, 1, 2, 3] rfl
  refine lp_copy hx hb htb hown hml hA hc hs2 hm hK (fun f1 H locs ls _ hP hD hS hl => ?_) N 0 f1 _ _ _ (by omega) trivial hP hD hS hl
  refine lv_aload_n hx hb dX12_symbol__165 rfl (lv_at hl 2 rfl) ?_
  refine lv_dup hx hb dX12_symbol__166 rfl ?_
  refine va_get (D := D) (ci := 12) (v := .int (nI sn)) (C := RX12) (T := TX12) (N := 82) hx hb htb bi_X12 hown hK hP 0 rfl rfl 8 (by decide) (htb _ bg_146) (fun _ h9 => h9) (md_at hm 13 rfl) dX12_symbol__167 ?_
  refine lv_dup_x1 hx hb dX12_symbol__170 rfl rfl ?_
  refine lv_iconst (v := 1) hx hb dX12_symbol__171 (by decide) ?_
  refine lv_iadd hx hb dX12_symbol__172 ?_
  refine lv_topi (fun x_172 ex_172 => ?_)
  have hx_172 : x_172 = (nI (sn + 1)) := by rw [ex_172]; exact nI_1 sn
  rw [hx_172]
  refine va_put (D := D) (ci := 12) (v := .int (nI (sn + 1))) (ty := tyX12 8) (C := RX12) (T := TX12) (N := 82) hx hb htb bi_X12 tyX12 tyX12_ok nmX12 hown hK hP hD hS 0 rfl rfl 8 (by decide) (htb _ bg_146) (fun _ h9 => h9) rfl (tyX12_ok 8 (by decide)) rfl rfl (by rw [hm.1]; decide) dX12_symbol__173 (fun H locs hP hD hS => ?_)
  have hP : va_P D vwCl [(m0, .inr (12, (fs.set 8 (.int (nI (sn + 1)))))), (q1, .inl (a1, 66000, .inl f1)), (q2, .inl (a2, 66000, .inl f2)), (q4, .inl (a4, 24000, .inl f4)), (q5, .inl (a5, 24000, .inl f5)), (q6, .inl (a6, 24000, .inl f6)), (q7, .inl (a7, 4096, .inl f7))] H := hP
  have hD : va_D A [(m0, .inr (12, (fs.set 8 (.int (nI (sn + 1)))))), (q1, .inl (a1, 66000, .inl f1)), (q2, .inl (a2, 66000, .inl f2)), (q4, .inl (a4, 24000, .inl f4)), (q5, .inl (a5, 24000, .inl f5)), (q6, .inl (a6, 24000, .inl f6)), (q7, .inl (a7, 4096, .inl f7))] := hD
  have hm : md_has (fs.set 8 (.int (nI (sn + 1)))) [(8, .int (nI (sn + 1))), (1, .ref q1), (2, .ref q2), (4, .ref q4), (5, .ref q5), (6, .ref q6), (7, .ref q7), (13, .ref qf), (15, .ref qm), (17, .int y17), (18, .int y18), (19, .int y19), (73, .int y73), (3, .int (nI cn))] := md_put hm 8 (.int (nI (sn + 1))) (by decide) rfl
  generalize (fs.set 8 (.int (nI (sn + 1)))) = fs at hP hD hm
  refine lv_istore_n (lv' := [(3, .int (nI sn)), (2, .int (sy_i f2 N)), (0, .ref m0), (1, .int (nI N))]) hx hb dX12_symbol__176 rfl hl (by decide) rfl (fun ls hl => ?_)
  refine lv_aload_n hx hb dX12_symbol__177 rfl (lv_at hl 2 rfl) ?_
  refine va_get (D := D) (ci := 12) (v := .ref q4) (C := RX12) (T := TX12) (N := 82) hx hb htb bi_X12 hown hK hP 0 rfl rfl 4 (by decide) (htb _ bg_96) (fun _ h9 => h9) (md_at hm 3 rfl) dX12_symbol__178 ?_
  refine lv_iload_n hx hb dX12_symbol__181 rfl (lv_at hl 0 rfl) ?_
  refine lv_aload_n hx hb dX12_symbol__182 rfl (lv_at hl 2 rfl) ?_
  refine va_get (D := D) (ci := 12) (v := .int (nI cn)) (C := RX12) (T := TX12) (N := 82) hx hb htb bi_X12 hown hK hP 0 rfl rfl 3 (by decide) (htb _ bg_145) (fun _ h9 => h9) (md_at hm 13 rfl) dX12_symbol__183 ?_
  refine va_iast hx hb hK hP hD hS 3 2 rfl rfl (vp_in_nI hs2 (by omega)) dX12_symbol__186 (fun H locs hP hD hS => ?_)
  have hP : va_P D vwCl [(m0, .inr (12, fs)), (q1, .inl (a1, 66000, .inl f1)), (q2, .inl (a2, 66000, .inl f2)), (q4, .inl (a4, 24000, .inl (upd f4 (Int32.toNatClampNeg (nI sn)) (nI cn)))), (q5, .inl (a5, 24000, .inl f5)), (q6, .inl (a6, 24000, .inl f6)), (q7, .inl (a7, 4096, .inl f7))] H := hP
  have hD : va_D A [(m0, .inr (12, fs)), (q1, .inl (a1, 66000, .inl f1)), (q2, .inl (a2, 66000, .inl f2)), (q4, .inl (a4, 24000, .inl (upd f4 (Int32.toNatClampNeg (nI sn)) (nI cn)))), (q5, .inl (a5, 24000, .inl f5)), (q6, .inl (a6, 24000, .inl f6)), (q7, .inl (a7, 4096, .inl f7))] := hD
  generalize (upd f4 (Int32.toNatClampNeg (nI sn)) (nI cn)) = f4 at hP hD
  refine lv_aload_n hx hb dX12_symbol__187 rfl (lv_at hl 2 rfl) ?_
  refine va_get (D := D) (ci := 12) (v := .ref q5) (C := RX12) (T := TX12) (N := 82) hx hb htb bi_X12 hown hK hP 0 rfl rfl 5 (by decide) (htb _ bg_97) (fun _ h9 => h9) (md_at hm 4 rfl) dX12_symbol__188 ?_
  refine lv_iload_n hx hb dX12_symbol__191 rfl (lv_at hl 0 rfl) ?_
  refine lv_iload_n hx hb dX12_symbol__192 rfl (lv_at hl 3 rfl) ?_
  refine va_iast hx hb hK hP hD hS 4 3 rfl rfl (vp_in_nI hs2 (by omega)) dX12_symbol__193 (fun H locs hP hD hS => ?_)
  have hP : va_P D vwCl [(m0, .inr (12, fs)), (q1, .inl (a1, 66000, .inl f1)), (q2, .inl (a2, 66000, .inl f2)), (q4, .inl (a4, 24000, .inl f4)), (q5, .inl (a5, 24000, .inl (upd f5 (Int32.toNatClampNeg (nI sn)) (nI N)))), (q6, .inl (a6, 24000, .inl f6)), (q7, .inl (a7, 4096, .inl f7))] H := hP
  have hD : va_D A [(m0, .inr (12, fs)), (q1, .inl (a1, 66000, .inl f1)), (q2, .inl (a2, 66000, .inl f2)), (q4, .inl (a4, 24000, .inl f4)), (q5, .inl (a5, 24000, .inl (upd f5 (Int32.toNatClampNeg (nI sn)) (nI N)))), (q6, .inl (a6, 24000, .inl f6)), (q7, .inl (a7, 4096, .inl f7))] := hD
  generalize (upd f5 (Int32.toNatClampNeg (nI sn)) (nI N)) = f5 at hP hD
  refine lv_aload_n hx hb dX12_symbol__194 rfl (lv_at hl 2 rfl) ?_
  refine va_get (D := D) (ci := 12) (v := .ref q6) (C := RX12) (T := TX12) (N := 82) hx hb htb bi_X12 hown hK hP 0 rfl rfl 6 (by decide) (htb _ bg_98) (fun _ h9 => h9) (md_at hm 5 rfl) dX12_symbol__195 ?_
  refine lv_iload_n hx hb dX12_symbol__198 rfl (lv_at hl 0 rfl) ?_
  refine lv_aload_n hx hb dX12_symbol__199 rfl (lv_at hl 2 rfl) ?_
  refine va_get (D := D) (ci := 12) (v := .ref q7) (C := RX12) (T := TX12) (N := 82) hx hb htb bi_X12 hown hK hP 0 rfl rfl 7 (by decide) (htb _ bg_99) (fun _ h9 => h9) (md_at hm 6 rfl) dX12_symbol__200 ?_
  refine lv_iload_n hx hb dX12_symbol__203 rfl (lv_at hl 1 rfl) ?_
  refine va_iald hx hb hK hP 6 5 rfl rfl (sy_in f2 N) dX12_symbol__204 ?_
  refine va_iast hx hb hK hP hD hS 5 4 rfl rfl (vp_in_nI hs2 (by omega)) dX12_symbol__205 (fun H locs hP hD hS => ?_)
  have hP : va_P D vwCl [(m0, .inr (12, fs)), (q1, .inl (a1, 66000, .inl f1)), (q2, .inl (a2, 66000, .inl f2)), (q4, .inl (a4, 24000, .inl f4)), (q5, .inl (a5, 24000, .inl f5)), (q6, .inl (a6, 24000, .inl (upd f6 (Int32.toNatClampNeg (nI sn)) (f7 (Int32.toNatClampNeg (sy_i f2 N)))))), (q7, .inl (a7, 4096, .inl f7))] H := hP
  have hD : va_D A [(m0, .inr (12, fs)), (q1, .inl (a1, 66000, .inl f1)), (q2, .inl (a2, 66000, .inl f2)), (q4, .inl (a4, 24000, .inl f4)), (q5, .inl (a5, 24000, .inl f5)), (q6, .inl (a6, 24000, .inl (upd f6 (Int32.toNatClampNeg (nI sn)) (f7 (Int32.toNatClampNeg (sy_i f2 N)))))), (q7, .inl (a7, 4096, .inl f7))] := hD
  generalize (upd f6 (Int32.toNatClampNeg (nI sn)) (f7 (Int32.toNatClampNeg (sy_i f2 N)))) = f6 at hP hD
  refine lv_aload_n hx hb dX12_symbol__206 rfl (lv_at hl 2 rfl) ?_
  refine va_get (D := D) (ci := 12) (v := .ref q7) (C := RX12) (T := TX12) (N := 82) hx hb htb bi_X12 hown hK hP 0 rfl rfl 7 (by decide) (htb _ bg_99) (fun _ h9 => h9) (md_at hm 6 rfl) dX12_symbol__207 ?_
  refine lv_iload_n hx hb dX12_symbol__210 rfl (lv_at hl 1 rfl) ?_
  refine lv_iload_n hx hb dX12_symbol__211 rfl (lv_at hl 0 rfl) ?_
  refine va_iast hx hb hK hP hD hS 6 5 rfl rfl (sy_in f2 N) dX12_symbol__212 (fun H locs hP hD hS => ?_)
  have hP : va_P D vwCl [(m0, .inr (12, fs)), (q1, .inl (a1, 66000, .inl f1)), (q2, .inl (a2, 66000, .inl f2)), (q4, .inl (a4, 24000, .inl f4)), (q5, .inl (a5, 24000, .inl f5)), (q6, .inl (a6, 24000, .inl f6)), (q7, .inl (a7, 4096, .inl (upd f7 (Int32.toNatClampNeg (sy_i f2 N)) (nI sn))))] H := hP
  have hD : va_D A [(m0, .inr (12, fs)), (q1, .inl (a1, 66000, .inl f1)), (q2, .inl (a2, 66000, .inl f2)), (q4, .inl (a4, 24000, .inl f4)), (q5, .inl (a5, 24000, .inl f5)), (q6, .inl (a6, 24000, .inl f6)), (q7, .inl (a7, 4096, .inl (upd f7 (Int32.toNatClampNeg (sy_i f2 N)) (nI sn))))] := hD
  refine lv_aload_n hx hb dX12_symbol__213 rfl (lv_at hl 2 rfl) ?_
  refine lv_dup hx hb dX12_symbol__214 rfl ?_
  refine va_get (D := D) (ci := 12) (v := .int (nI cn)) (C := RX12) (T := TX12) (N := 82) hx hb htb bi_X12 hown hK hP 0 rfl rfl 3 (by decide) (htb _ bg_145) (fun _ h9 => h9) (md_at hm 13 rfl) dX12_symbol__215 ?_
  refine lv_iload_n hx hb dX12_symbol__218 rfl (lv_at hl 3 rfl) ?_
  refine lv_iadd hx hb dX12_symbol__219 ?_
  refine lv_topi (fun x_219 ex_219 => ?_)
  have hx_219 : x_219 = (nI (cn + N)) := by rw [ex_219]; exact nI_add cn N
  rw [hx_219]
  refine va_put (D := D) (ci := 12) (v := .int (nI (cn + N))) (ty := tyX12 3) (C := RX12) (T := TX12) (N := 82) hx hb htb bi_X12 tyX12 tyX12_ok nmX12 hown hK hP hD hS 0 rfl rfl 3 (by decide) (htb _ bg_145) (fun _ h9 => h9) rfl (tyX12_ok 3 (by decide)) rfl rfl (by rw [hm.1]; decide) dX12_symbol__220 (fun H locs hP hD hS => ?_)
  have hP : va_P D vwCl [(m0, .inr (12, (fs.set 3 (.int (nI (cn + N)))))), (q1, .inl (a1, 66000, .inl f1)), (q2, .inl (a2, 66000, .inl f2)), (q4, .inl (a4, 24000, .inl f4)), (q5, .inl (a5, 24000, .inl f5)), (q6, .inl (a6, 24000, .inl f6)), (q7, .inl (a7, 4096, .inl (upd f7 (Int32.toNatClampNeg (sy_i f2 N)) (nI sn))))] H := hP
  have hD : va_D A [(m0, .inr (12, (fs.set 3 (.int (nI (cn + N)))))), (q1, .inl (a1, 66000, .inl f1)), (q2, .inl (a2, 66000, .inl f2)), (q4, .inl (a4, 24000, .inl f4)), (q5, .inl (a5, 24000, .inl f5)), (q6, .inl (a6, 24000, .inl f6)), (q7, .inl (a7, 4096, .inl (upd f7 (Int32.toNatClampNeg (sy_i f2 N)) (nI sn))))] := hD
  have hm : md_has (fs.set 3 (.int (nI (cn + N)))) [(3, .int (nI (cn + N))), (8, .int (nI (sn + 1))), (1, .ref q1), (2, .ref q2), (4, .ref q4), (5, .ref q5), (6, .ref q6), (7, .ref q7), (13, .ref qf), (15, .ref qm), (17, .int y17), (18, .int y18), (19, .int y19), (73, .int y73)] := md_put hm 3 (.int (nI (cn + N))) (by decide) rfl
  generalize (fs.set 3 (.int (nI (cn + N)))) = fs at hP hD hm
  refine lv_iload_n hx hb dX12_symbol__223 rfl (lv_at hl 0 rfl) ?_
  have hP9 := hP.sub (ws' := [(m0, .inr (12, fs)), (q1, .inl (a1, 66000, .inl f1)), (q2, .inl (a2, 66000, .inl f2)), (q4, .inl (a4, 24000, .inl f4)), (q5, .inl (a5, 24000, .inl f5)), (q6, .inl (a6, 24000, .inl f6)), (q7, .inl (a7, 4096, .inl (upd f7 (Int32.toNatClampNeg (sy_i f2 N)) (nI sn))))]) [0, 1, 2, 3, 4, 5, 6] rfl
  have hD9 := hD.sub (ws' := [(m0, .inr (12, fs)), (q1, .inl (a1, 66000, .inl f1)), (q2, .inl (a2, 66000, .inl f2)), (q4, .inl (a4, 24000, .inl f4)), (q5, .inl (a5, 24000, .inl f5)), (q6, .inl (a6, 24000, .inl f6)), (q7, .inl (a7, 4096, .inl (upd f7 (Int32.toNatClampNeg (sy_i f2 N)) (nI sn))))]) [0, 1, 2, 3, 4, 5, 6] rfl rfl
  have hK9 := hK.sub (tys' := [(a1, .char), (a2, .char), (a4, .int), (a5, .int), (a6, .int), (a7, .int)]) [0, 1, 2, 3, 4, 5] rfl
  exact W.iret (v := (nI sn)) hx hb hr (fun t ht hW => ⟨⟨(nI sn), (fs, f1, f4, f5, f6, (upd f7 (Int32.toNatClampNeg (sy_i f2 N)) (nI sn))), rfl, ⟨md_sub hm [2, 3, 4, 5, 6, 7, 8, 9, 10, 11, 12, 13, 0, 1] rfl, fun j hj => pk_un hj⟩, by rw [ht]; exact hP9, va_K.moved hW.alike hK9, hD9⟩, hS.F ht⟩) hS.2.2 dX12_symbol__224
theorem dX12_symbol_2 : decode cX12_symbol 2 = .ok (.iload_n 2, 1) := by decide +kernel
theorem dX12_symbol_3 : decode cX12_symbol 3 = .ok (.aload_n 1, 1) := by decide +kernel
theorem dX12_symbol_4 : decode cX12_symbol 4 = .ok (.invokevirtual 204, 3) := by decide +kernel
theorem dX12_symbol_7 : decode cX12_symbol 7 = .ok (.if_icmp .ge 20, 3) := by decide +kernel
theorem dX12_symbol_10 : decode cX12_symbol 10 = .ok (.aload_n 0, 1) := by decide +kernel
theorem dX12_symbol_11 : decode cX12_symbol 11 = .ok (.getfield 18, 3) := by decide +kernel
theorem dX12_symbol_14 : decode cX12_symbol 14 = .ok (.iload_n 2, 1) := by decide +kernel
theorem dX12_symbol_15 : decode cX12_symbol 15 = .ok (.aload_n 1, 1) := by decide +kernel
theorem dX12_symbol_16 : decode cX12_symbol 16 = .ok (.iload_n 2, 1) := by decide +kernel
theorem dX12_symbol_17 : decode cX12_symbol 17 = .ok (.invokevirtual 208, 3) := by decide +kernel
theorem dX12_symbol_20 : decode cX12_symbol 20 = .ok (.castore, 1) := by decide +kernel
theorem dX12_symbol_21 : decode cX12_symbol 21 = .ok (.iinc 2 1, 3) := by decide +kernel
theorem dX12_symbol_24 : decode cX12_symbol 24 = .ok (.goto (-22), 3) := by decide +kernel
set_option maxHeartbeats 4000000 in
set_option maxRecDepth 100000 in
theorem lp_text {p : Program} {l : Launch} {e : Env} {s : State} {m : MethodId} {args : Array Value} {below : List Frame} {meth : Method} {c : Code} {Q : State → Prop} {D : va_G} {A : Nat → Prop} {m0 : Nat} {fs : List Value} {q1 : Nat} {q2 : Nat} {q4 : Nat} {q5 : Nat} {q6 : Nat} {q7 : Nat} {a1 : ClassId} {a2 : ClassId} {a4 : ClassId} {a5 : ClassId} {a6 : ClassId} {a7 : ClassId} {f1 : Nat → Int32} {f4 : Nat → Int32} {f5 : Nat → Int32} {f6 : Nat → Int32} {f7 : Nat → Int32} {qf : Nat} {qm : Nat} {y17 : Int32} {y18 : Int32} {y19 : Int32} {y73 : Int32} {kk : Nat} {cn : Nat} {sn : Nat} {g : xe_G} (hx : p.tables.exec = Jvm.exec) (hb : c.code = cX12_symbol) (htb : ∀ w ∈ bg, w.before args s = true) (hown : s.vm.findClass RX12 = some m.cls) (hml : c.maxLocals = 3) (hA : ∀ q : Nat, s.heap.size ≤ q → A q) (hE : xe_E g A s s.heap) (hkk : kk < 3) (hc : cn + ((xe_lt kk).2.2.2.length) ≤ 66000) (hs2 : sn < 24000) (hm : md_has fs [(1, .ref q1), (2, .ref q2), (4, .ref q4), (5, .ref q5), (6, .ref q6), (7, .ref q7), (13, .ref qf), (15, .ref qm), (17, .int y17), (18, .int y18), (19, .int y19), (73, .int y73), (3, .int (nI cn)), (8, .int (nI sn))]) (hK : va_K D vwCl [(a1, .char), (a2, .char), (a4, .int), (a5, .int), (a6, .int), (a7, .int)] s)
    (kont : ∀ (f2 : Nat → Int32) (H : Heap) (locs : List Loc) (ls : Array Slot), (∀ j, j < ((xe_lt kk).2.2.2.length) → f2 j = xe_ch kk j) → va_P D vwCl [(m0, .inr (12, fs)), (q1, .inl (a1, 66000, .inl f1)), (q2, .inl (a2, 66000, .inl f2)), (q4, .inl (a4, 24000, .inl f4)), (q5, .inl (a5, 24000, .inl f5)), (q6, .inl (a6, 24000, .inl f6)), (q7, .inl (a7, 4096, .inl f7))] H → va_D A [(m0, .inr (12, fs)), (q1, .inl (a1, 66000, .inl f1)), (q2, .inl (a2, 66000, .inl f2)), (q4, .inl (a4, 24000, .inl f4)), (q5, .inl (a5, 24000, .inl f5)), (q6, .inl (a6, 24000, .inl f6)), (q7, .inl (a7, 4096, .inl f7))] → va_S A s.heap H locs → lv_has ls 3 [(2, .int (nI ((xe_lt kk).2.2.2.length))), (0, .ref m0), (1, .ref (g.2.1 kk))] → W p l e ({ frames := 5, cells := 0, slots := 0, locals := 600 } : Room) s m args below meth c H locs 0 0 Q (F0 m 27 ls [])) :
    ∀ (n k : Nat) (f2 : Nat → Int32) (H : Heap) (locs : List Loc) (ls : Array Slot), k + n = ((xe_lt kk).2.2.2.length) → (∀ j, j < k → f2 j = xe_ch kk j) → va_P D vwCl [(m0, .inr (12, fs)), (q1, .inl (a1, 66000, .inl f1)), (q2, .inl (a2, 66000, .inl f2)), (q4, .inl (a4, 24000, .inl f4)), (q5, .inl (a5, 24000, .inl f5)), (q6, .inl (a6, 24000, .inl f6)), (q7, .inl (a7, 4096, .inl f7))] H → va_D A [(m0, .inr (12, fs)), (q1, .inl (a1, 66000, .inl f1)), (q2, .inl (a2, 66000, .inl f2)), (q4, .inl (a4, 24000, .inl f4)), (q5, .inl (a5, 24000, .inl f5)), (q6, .inl (a6, 24000, .inl f6)), (q7, .inl (a7, 4096, .inl f7))] → va_S A s.heap H locs → lv_has ls 3 [(2, .int (nI k)), (0, .ref m0), (1, .ref (g.2.1 kk))] → W p l e ({ frames := 5, cells := 0, slots := 0, locals := 600 } : Room) s m args below meth c H locs 0 0 Q (F0 m 2 ls []) := by
  intro n
  induction n with
  | zero =>
    intro k f2 H locs ls hkn hi hP hD hS hl
    have hk0 : k = ((xe_lt kk).2.2.2.length) := by omega
    have hle := xe_len kk hkk
    refine lv_iload_n hx hb dX12_symbol_2 rfl (lv_at hl 0 rfl) ?_
    refine lv_aload_n hx hb dX12_symbol_3 rfl (lv_at hl 2 rfl) ?_
    refine xb_goi (wr := [(m0, .inr (12, fs)), (q1, .inl (a1, 66000, .inl f1)), (q2, .inl (a2, 66000, .inl f2)), (q4, .inl (a4, 24000, .inl f4)), (q5, .inl (a5, 24000, .inl f5)), (q6, .inl (a6, 24000, .inl f6)), (q7, .inl (a7, 4096, .inl f7))]) (va_runV (As := []) (rest := [.int (nI k)]) ⟨hx, hb, hml, hown, htb⟩ (cs_length l D g kk (Array.size H) (hkk)) (bg_V 0 htb bg_157 bg_159 bg_160 bg_161 bg_158 rfl rfl (by decide +kernel) ⟨Nat.le_of_ble_eq_true rfl, Nat.le_of_ble_eq_true rfl⟩) ⟨xb_blind xe_ok, xe_recv hE hS kk (by omega), xb_enter xe_ok hK hP hD hS hA hE [] rfl rfl rfl [] rfl⟩ rfl rfl hl.1 rfl (lv_room (Nat.le_of_ble_eq_true rfl)) dX12_symbol_4 ⟨Nat.le_of_ble_eq_true rfl, Nat.le_of_ble_eq_true rfl⟩) hK hP hD hS hA [] [0, 1, 2, 3, 4, 5, 6] rfl rfl rfl (by decide) (fun r_4 u_4 H locs hw_4 hP hD hK hS => ?_)
    have hP : va_P D vwCl [(m0, .inr (12, fs)), (q1, .inl (a1, 66000, .inl f1)), (q2, .inl (a2, 66000, .inl f2)), (q4, .inl (a4, 24000, .inl f4)), (q5, .inl (a5, 24000, .inl f5)), (q6, .inl (a6, 24000, .inl f6)), (q7, .inl (a7, 4096, .inl f7))] H := hP
    have hD : va_D A [(m0, .inr (12, fs)), (q1, .inl (a1, 66000, .inl f1)), (q2, .inl (a2, 66000, .inl f2)), (q4, .inl (a4, 24000, .inl f4)), (q5, .inl (a5, 24000, .inl f5)), (q6, .inl (a6, 24000, .inl f6)), (q7, .inl (a7, 4096, .inl f7))] := hD
    have hK : va_K D vwCl [(a1, .char), (a2, .char), (a4, .int), (a5, .int), (a6, .int), (a7, .int)] s := hK
    have hw_4 : r_4 = (nI ((xe_lt kk).2.2.2.length)) := hw_4
    subst hw_4
    refine lv_icmp_ge (tgt := 27) hx hb dX12_symbol_7 (by decide) (fun c_7 => ?_) (fun c_7 => ?_)
    rotate_left
    · exact absurd (by rw [hk0]; exact Int32.le_refl _) c_7
    exact kont f2 H locs ls (by rw [hk0] at hi; exact hi) hP hD hS (by rw [hk0] at hl; exact hl)
  | succ n ih =>
    intro k f2 H locs ls hkn hi hP hD hS hl
    have hle := xe_len kk hkk
    refine lv_iload_n hx hb dX12_symbol_2 rfl (lv_at hl 0 rfl) ?_
    refine lv_aload_n hx hb dX12_symbol_3 rfl (lv_at hl 2 rfl) ?_
    refine xb_goi (wr := [(m0, .inr (12, fs)), (q1, .inl (a1, 66000, .inl f1)), (q2, .inl (a2, 66000, .inl f2)), (q4, .inl (a4, 24000, .inl f4)), (q5, .inl (a5, 24000, .inl f5)), (q6, .inl (a6, 24000, .inl f6)), (q7, .inl (a7, 4096, .inl f7))]) (va_runV (As := []) (rest := [.int (nI k)]) ⟨hx, hb, hml, hown, htb⟩ (cs_length l D g kk (Array.size H) (hkk)) (bg_V 0 htb bg_157 bg_159 bg_160 bg_161 bg_158 rfl rfl (by decide +kernel) ⟨Nat.le_of_ble_eq_true rfl, Nat.le_of_ble_eq_true rfl⟩) ⟨xb_blind xe_ok, xe_recv hE hS kk (by omega), xb_enter xe_ok hK hP hD hS hA hE [] rfl rfl rfl [] rfl⟩ rfl rfl hl.1 rfl (lv_room (Nat.le_of_ble_eq_true rfl)) dX12_symbol_4 ⟨Nat.le_of_ble_eq_true rfl, Nat.le_of_ble_eq_true rfl⟩) hK hP hD hS hA [] [0, 1, 2, 3, 4, 5, 6] rfl rfl rfl (by decide) (fun r_4 u_4 H locs hw_4 hP hD hK hS => ?_)
    have hP : va_P D vwCl [(m0, .inr (12, fs)), (q1, .inl (a1, 66000, .inl f1)), (q2, .inl (a2, 66000, .inl f2)), (q4, .inl (a4, 24000, .inl f4)), (q5, .inl (a5, 24000, .inl f5)), (q6, .inl (a6, 24000, .inl f6)), (q7, .inl (a7, 4096, .inl f7))] H := hP
    have hD : va_D A [(m0, .inr (12, fs)), (q1, .inl (a1, 66000, .inl f1)), (q2, .inl (a2, 66000, .inl f2)), (q4, .inl (a4, 24000, .inl f4)), (q5, .inl (a5, 24000, .inl f5)), (q6, .inl (a6, 24000, .inl f6)), (q7, .inl (a7, 4096, .inl f7))] := hD
    have hK : va_K D vwCl [(a1, .char), (a2, .char), (a4, .int), (a5, .int), (a6, .int), (a7, .int)] s := hK
    have hw_4 : r_4 = (nI ((xe_lt kk).2.2.2.length)) := hw_4
    subst hw_4
    refine lv_icmp_ge (tgt := 27) hx hb dX12_symbol_7 (by decide) (fun c_7 => ?_) (fun c_7 => ?_)
    · exact absurd c_7 (nI_ge (by omega) (by omega))
    refine lv_aload_n hx hb dX12_symbol_10 rfl (lv_at hl 1 rfl) ?_
    refine va_get (D := D) (ci := 12) (v := .ref q2) (C := RX12) (T := TX12) (N := 82) hx hb htb bi_X12 hown hK hP 0 rfl rfl 2 (by decide) (htb _ bg_94) (fun _ h9 => h9) (md_at hm 1 rfl) dX12_symbol_11 ?_
    refine lv_iload_n hx hb dX12_symbol_14 rfl (lv_at hl 0 rfl) ?_
    refine lv_aload_n hx hb dX12_symbol_15 rfl (lv_at hl 2 rfl) ?_
    refine lv_iload_n hx hb dX12_symbol_16 rfl (lv_at hl 0 rfl) ?_
    refine xb_goi (wr := [(m0, .inr (12, fs)), (q1, .inl (a1, 66000, .inl f1)), (q2, .inl (a2, 66000, .inl f2)), (q4, .inl (a4, 24000, .inl f4)), (q5, .inl (a5, 24000, .inl f5)), (q6, .inl (a6, 24000, .inl f6)), (q7, .inl (a7, 4096, .inl f7))]) (va_runV (As := [.int (nI k)]) (rest := [.int (nI k), .ref q2]) ⟨hx, hb, hml, hown, htb⟩ (cs_charAt l D g kk k (Array.size H) (hkk) (by omega)) (bg_V 1 htb bg_162 bg_164 bg_165 bg_161 bg_163 rfl rfl (by decide +kernel) ⟨Nat.le_of_ble_eq_true rfl, Nat.le_of_ble_eq_true rfl⟩) ⟨xb_blind xe_ok, xe_recv hE hS kk (by omega), xb_enter xe_ok hK hP hD hS hA hE [] rfl rfl rfl [] rfl⟩ rfl rfl hl.1 rfl (lv_room (Nat.le_of_ble_eq_true rfl)) dX12_symbol_17 ⟨Nat.le_of_ble_eq_true rfl, Nat.le_of_ble_eq_true rfl⟩) hK hP hD hS hA [] [0, 1, 2, 3, 4, 5, 6] rfl rfl rfl (by decide) (fun r_17 u_17 H locs hw_17 hP hD hK hS => ?_)
    have hP : va_P D vwCl [(m0, .inr (12, fs)), (q1, .inl (a1, 66000, .inl f1)), (q2, .inl (a2, 66000, .inl f2)), (q4, .inl (a4, 24000, .inl f4)), (q5, .inl (a5, 24000, .inl f5)), (q6, .inl (a6, 24000, .inl f6)), (q7, .inl (a7, 4096, .inl f7))] H := hP
    have hD : va_D A [(m0, .inr (12, fs)), (q1, .inl (a1, 66000, .inl f1)), (q2, .inl (a2, 66000, .inl f2)), (q4, .inl (a4, 24000, .inl f4)), (q5, .inl (a5, 24000, .inl f5)), (q6, .inl (a6, 24000, .inl f6)), (q7, .inl (a7, 4096, .inl f7))] := hD
    have hK : va_K D vwCl [(a1, .char), (a2, .char), (a4, .int), (a5, .int), (a6, .int), (a7, .int)] s := hK
    have hw_17 : r_17 = (xe_ch kk k) := hw_17
    subst hw_17
    refine va_cast hx hb hK hP hD hS 2 1 rfl rfl (vp_in_nI (by omega) (by omega)) dX12_symbol_20 (fun H locs hP hD hS => ?_)
    have hP : va_P D vwCl [(m0, .inr (12, fs)), (q1, .inl (a1, 66000, .inl f1)), (q2, .inl (a2, 66000, .inl (upd f2 (Int32.toNatClampNeg (nI k)) (vp_nar .char (xe_ch kk k))))), (q4, .inl (a4, 24000, .inl f4)), (q5, .inl (a5, 24000, .inl f5)), (q6, .inl (a6, 24000, .inl f6)), (q7, .inl (a7, 4096, .inl f7))] H := hP
    have hD : va_D A [(m0, .inr (12, fs)), (q1, .inl (a1, 66000, .inl f1)), (q2, .inl (a2, 66000, .inl (upd f2 (Int32.toNatClampNeg (nI k)) (vp_nar .char (xe_ch kk k))))), (q4, .inl (a4, 24000, .inl f4)), (q5, .inl (a5, 24000, .inl f5)), (q6, .inl (a6, 24000, .inl f6)), (q7, .inl (a7, 4096, .inl f7))] := hD
    refine lv_iinc (v := (nI (k + 1))) (lv' := [(2, .int (nI (k + 1))), (0, .ref m0), (1, .ref (g.2.1 kk))]) hx hb dX12_symbol_21 hl (k := 0) rfl (nI_1 k) (by decide) rfl (fun ls hl => ?_)
    refine lv_goto (tgt := 2) hx hb dX12_symbol_24 (by decide) ?_
    exact ih (k + 1) _ _ _ _ (by omega) (sy_upd (P := xe_ch kk) (nI_clamp (by omega)) hi (xe_chv kk k)) hP hD hS hl
theorem dX12_symbol_0 : decode cX12_symbol 0 = .ok (.iconst 0, 1) := by decide +kernel
theorem dX12_symbol_1 : decode cX12_symbol 1 = .ok (.istore_n 2, 1) := by decide +kernel
theorem dX12_symbol_27 : decode cX12_symbol 27 = .ok (.aload_n 0, 1) := by decide +kernel
theorem dX12_symbol_28 : decode cX12_symbol 28 = .ok (.aload_n 1, 1) := by decide +kernel
theorem dX12_symbol_29 : decode cX12_symbol 29 = .ok (.invokevirtual 204, 3) := by decide +kernel
theorem dX12_symbol_32 : decode cX12_symbol 32 = .ok (.invokevirtual 212, 3) := by decide +kernel
theorem dX12_symbol_35 : decode cX12_symbol 35 = .ok (.ireturn, 1) := by decide +kernel
set_option maxHeartbeats 4000000 in
set_option maxRecDepth 100000 in
theorem mm_symS (l : Launch) (D : va_G) (g : xe_G) (m0 : Nat) (fs : List Value) (q1 : Nat) (q2 : Nat) (q4 : Nat) (q5 : Nat) (q6 : Nat) (q7 : Nat) (a1 : ClassId) (a2 : ClassId) (a4 : ClassId) (a5 : ClassId) (a6 : ClassId) (a7 : ClassId) (f1 : Nat → Int32) (f2 : Nat → Int32) (f4 : Nat → Int32) (f5 : Nat → Int32) (f6 : Nat → Int32) (f7 : Nat → Int32) (qf : Nat) (qm : Nat) (y17 : Int32) (y18 : Int32) (y19 : Int32) (y73 : Int32) (kk : Nat) (cn : Nat) (sn : Nat) (sz : Nat) (hm : md_has fs [(1, .ref q1), (2, .ref q2), (4, .ref q4), (5, .ref q5), (6, .ref q6), (7, .ref q7), (13, .ref qf), (15, .ref qm), (17, .int y17), (18, .int y18), (19, .int y19), (73, .int y73), (3, .int (nI cn)), (8, .int (nI sn))]) (hkk : kk < 3) (hc : cn + ((xe_lt kk).2.2.2.length) ≤ 66000) (hs2 : sn < 24000) (hh : f7 (Int32.toNatClampNeg (sy_i (xe_ch kk) ((xe_lt kk).2.2.2.length))) = -1) : Met l yX12_symbol (.code yX12_symbol cX12_symbol 3 (some .int) :: bg) ({ frames := 5, cells := 0, slots := 0, locals := 600 } : Room) (xb_Pre (xe_E g) D vwCl [(m0, .inr (12, fs)), (q1, .inl (a1, 66000, .inl f1)), (q2, .inl (a2, 66000, .inl f2)), (q4, .inl (a4, 24000, .inl f4)), (q5, .inl (a5, 24000, .inl f5)), (q6, .inl (a6, 24000, .inl f6)), (q7, .inl (a7, 4096, .inl f7))] [(a1, .char), (a2, .char), (a4, .int), (a5, .int), (a6, .int), (a7, .int)] sz [.ref m0, .ref (g.2.1 kk)]) (va_Qi (fun r u => md_has u.1 [(1, .ref q1), (2, .ref q2), (4, .ref q4), (5, .ref q5), (6, .ref q6), (7, .ref q7), (13, .ref qf), (15, .ref qm), (17, .int y17), (18, .int y18), (19, .int y19), (73, .int y73), (3, .int (nI (cn + ((xe_lt kk).2.2.2.length)))), (8, .int (nI (sn + 1)))] ∧ ∀ j, j ≠ (Int32.toNatClampNeg (sy_i (xe_ch kk) ((xe_lt kk).2.2.2.length))) → u.2.2.2.2.2.2 j = f7 j) (xb_B D vwCl (va_A [(m0, .inr (12, fs)), (q1, .inl (a1, 66000, .inl f1)), (q2, .inl (a2, 66000, .inl f2)), (q4, .inl (a4, 24000, .inl f4)), (q5, .inl (a5, 24000, .inl f5)), (q6, .inl (a6, 24000, .inl f6)), (q7, .inl (a7, 4096, .inl f7))] sz) (fun u : List Value × (Nat → Int32) × (Nat → Int32) × (Nat → Int32) × (Nat → Int32) × (Nat → Int32) × (Nat → Int32) => [(m0, .inr (12, u.1)), (q1, .inl (a1, 66000, .inl u.2.1)), (q2, .inl (a2, 66000, .inl u.2.2.1)), (q4, .inl (a4, 24000, .inl u.2.2.2.1)), (q5, .inl (a5, 24000, .inl u.2.2.2.2.1)), (q6, .inl (a6, 24000, .inl u.2.2.2.2.2.1)), (q7, .inl (a7, 4096, .inl u.2.2.2.2.2.2))]) (fun u : List Value × (Nat → Int32) × (Nat → Int32) × (Nat → Int32) × (Nat → Int32) × (Nat → Int32) × (Nat → Int32) => [(a1, .char), (a2, .char), (a4, .int), (a5, .int), (a6, .int), (a7, .int)])) (va_A [(m0, .inr (12, fs)), (q1, .inl (a1, 66000, .inl f1)), (q2, .inl (a2, 66000, .inl f2)), (q4, .inl (a4, 24000, .inl f4)), (q5, .inl (a5, 24000, .inl f5)), (q6, .inl (a6, 24000, .inl f6)), (q7, .inl (a7, 4096, .inl f7))] sz)) 0 0 (va_A [(m0, .inr (12, fs)), (q1, .inl (a1, 66000, .inl f1)), (q2, .inl (a2, 66000, .inl f2)), (q4, .inl (a4, 24000, .inl f4)), (q5, .inl (a5, 24000, .inl f5)), (q6, .inl (a6, 24000, .inl f6)), (q7, .inl (a7, 4096, .inl f7))] sz) := by
  refine Met.ofW (cc := cX12_symbol) (maxL := 3) (ret := (some .int)) (by decide) rfl ?_
  intro p e s m args below meth c s₁ B hml hv
  obtain ⟨rfl, hsz, hP, hK, hD0, hE⟩ := hv
  have hx := B.exec
  have hb := B.bytes
  have hr := B.returns
  have hts := atoms_spec (ws := (.code yX12_symbol cX12_symbol 3 (some .int) :: bg)) B.pre
  have htb : ∀ w ∈ bg, w.before _ s = true := fun w h => hts w (List.mem_cons_of_mem _ h)
  have hown : s.vm.findClass RX12 = some m.cls := findClass_of_methodNamed B.named
  have hlocks := B.notSynchronized
  subst hsz
  have hD := hD0.self (sz := s.heap.size)
  generalize hAe : va_A [(m0, .inr (12, fs)), (q1, .inl (a1, 66000, .inl f1)), (q2, .inl (a2, 66000, .inl f2)), (q4, .inl (a4, 24000, .inl f4)), (q5, .inl (a5, 24000, .inl f5)), (q6, .inl (a6, 24000, .inl f6)), (q7, .inl (a7, 4096, .inl f7))] s.heap.size = A at hD hE ⊢
  have hA : ∀ q : Nat, s.heap.size ≤ q → A q := fun q h => by rw [← hAe]; exact Or.inr h
  have hS : va_S A s.heap s.heap [] := va_S.rf
  have hP : va_P D vwCl [(m0, .inr (12, fs)), (q1, .inl (a1, 66000, .inl f1)), (q2, .inl (a2, 66000, .inl f2)), (q4, .inl (a4, 24000, .inl f4)), (q5, .inl (a5, 24000, .inl f5)), (q6, .inl (a6, 24000, .inl f6)), (q7, .inl (a7, 4096, .inl f7))] s.heap := hP
  have hl := lv_entry ([.ref m0, .ref (g.2.1 kk)]) (n := 3) (Nat.le_of_ble_eq_true rfl)
  rw [lg_entry_eq]
  generalize (lg_sl ([.ref m0, .ref (g.2.1 kk)]) ++ List.replicate (3 - (lg_sl ([.ref m0, .ref (g.2.1 kk)])).length) Slot.unset).toArray = ls at hl ⊢
  have hl : lv_has ls 3 [(0, .ref m0), (1, .ref (g.2.1 kk))] := hl
  refine lv_iconst (v := 0) hx hb dX12_symbol_0 (by decide) ?_
  refine lv_istore_n (lv' := [(2, .int 0), (0, .ref m0), (1, .ref (g.2.1 kk))]) hx hb dX12_symbol_1 rfl hl (by decide) rfl (fun ls hl => ?_)
  have hl : lv_has ls 3 [(2, .int (nI 0)), (0, .ref m0), (1, .ref (g.2.1 kk))] := hl
  refine lp_text hx hb htb hown hml hA hE hkk hc hs2 hm hK (fun f2 H locs ls hi hP hD hS hl => ?_) ((xe_lt kk).2.2.2.length) 0 f2 _ _ _ (by omega) (fun j hj => absurd hj (Nat.not_lt_zero j)) hP hD hS hl
  have hsy : sy_i f2 ((xe_lt kk).2.2.2.length) = sy_i (xe_ch kk) ((xe_lt kk).2.2.2.length) := by unfold sy_i; rw [sy_same _ hi]
  refine lv_aload_n hx hb dX12_symbol_27 rfl (lv_at hl 1 rfl) ?_
  refine lv_aload_n hx hb dX12_symbol_28 rfl (lv_at hl 2 rfl) ?_
  refine xb_goi (wr := [(m0, .inr (12, fs)), (q1, .inl (a1, 66000, .inl f1)), (q2, .inl (a2, 66000, .inl f2)), (q4, .inl (a4, 24000, .inl f4)), (q5, .inl (a5, 24000, .inl f5)), (q6, .inl (a6, 24000, .inl f6)), (q7, .inl (a7, 4096, .inl f7))]) (va_runV (As := []) (rest := [.ref m0]) ⟨hx, hb, hml, hown, htb⟩ (cs_length l D g kk (Array.size H) (hkk)) (bg_V 0 htb bg_157 bg_159 bg_160 bg_161 bg_158 rfl rfl (by decide +kernel) ⟨Nat.le_of_ble_eq_true rfl, Nat.le_of_ble_eq_true rfl⟩) ⟨xb_blind xe_ok, xe_recv hE hS kk (by omega), xb_enter xe_ok hK hP hD hS hA hE [] rfl rfl rfl [] rfl⟩ rfl rfl hl.1 rfl (lv_room (Nat.le_of_ble_eq_true rfl)) dX12_symbol_29 ⟨Nat.le_of_ble_eq_true rfl, Nat.le_of_ble_eq_true rfl⟩) hK hP hD hS hA [] [0, 1, 2, 3, 4, 5, 6] rfl rfl rfl (by decide) (fun r_29 u_29 H locs hw_29 hP hD hK hS => ?_)
  have hP : va_P D vwCl [(m0, .inr (12, fs)), (q1, .inl (a1, 66000, .inl f1)), (q2, .inl (a2, 66000, .inl f2)), (q4, .inl (a4, 24000, .inl f4)), (q5, .inl (a5, 24000, .inl f5)), (q6, .inl (a6, 24000, .inl f6)), (q7, .inl (a7, 4096, .inl f7))] H := hP
  have hD : va_D A [(m0, .inr (12, fs)), (q1, .inl (a1, 66000, .inl f1)), (q2, .inl (a2, 66000, .inl f2)), (q4, .inl (a4, 24000, .inl f4)), (q5, .inl (a5, 24000, .inl f5)), (q6, .inl (a6, 24000, .inl f6)), (q7, .inl (a7, 4096, .inl f7))] := hD
  have hK : va_K D vwCl [(a1, .char), (a2, .char), (a4, .int), (a5, .int), (a6, .int), (a7, .int)] s := hK
  refine W.widen (k := 0) (n := 0) (by decide) (by decide) ?_
  have hw_29 : r_29 = (nI ((xe_lt kk).2.2.2.length)) := hw_29
  subst hw_29
  refine xb_goi (wr := []) (va_runV (As := [.int (nI ((xe_lt kk).2.2.2.length))]) (rest := []) ⟨hx, hb, hml, hown, htb⟩ (mm_sym l D g m0 fs q1 q2 q4 q5 q6 q7 a1 a2 a4 a5 a6 a7 f1 f2 f4 f5 f6 f7 qf qm y17 y18 y19 y73 cn sn ((xe_lt kk).2.2.2.length) (Array.size H) (md_sub hm [0, 1, 2, 3, 4, 5, 6, 7, 8, 9, 10, 11, 12, 13] rfl) (hc) (hs2) (by rw [hsy]; exact hh)) (bg_V 1 htb bg_166 bg_168 bg_169 bg_144 bg_167 rfl rfl (by decide +kernel) ⟨Nat.le_of_ble_eq_true rfl, Nat.le_of_ble_eq_true rfl⟩) ⟨xb_blind xe_ok, va_recv hK hP (ci := 12) (q0 := 0) rfl rfl, xb_enter xe_ok hK hP hD hS hA hE [0, 1, 2, 3, 4, 5, 6] rfl rfl rfl [0, 1, 2, 3, 4, 5] rfl⟩ rfl rfl hl.1 rfl (lv_room (Nat.le_of_ble_eq_true rfl)) dX12_symbol_32 ⟨Nat.le_of_ble_eq_true rfl, Nat.le_of_ble_eq_true rfl⟩) hK hP hD hS hA [0, 1, 2, 3, 4, 5, 6] [] rfl rfl rfl (by decide) (fun r_32 u_32 H locs hw_32 hP hD hK hS => ?_)
  obtain ⟨fs2, g1, g4, g5, g6, g7⟩ := u_32
  have hP : va_P D vwCl [(m0, .inr (12, fs2)), (q1, .inl (a1, 66000, .inl g1)), (q2, .inl (a2, 66000, .inl f2)), (q4, .inl (a4, 24000, .inl g4)), (q5, .inl (a5, 24000, .inl g5)), (q6, .inl (a6, 24000, .inl g6)), (q7, .inl (a7, 4096, .inl g7))] H := hP
  have hD : va_D A [(m0, .inr (12, fs2)), (q1, .inl (a1, 66000, .inl g1)), (q2, .inl (a2, 66000, .inl f2)), (q4, .inl (a4, 24000, .inl g4)), (q5, .inl (a5, 24000, .inl g5)), (q6, .inl (a6, 24000, .inl g6)), (q7, .inl (a7, 4096, .inl g7))] := hD
  have hK : va_K D vwCl [(a1, .char), (a2, .char), (a4, .int), (a5, .int), (a6, .int), (a7, .int), (a1, .char), (a2, .char), (a4, .int), (a5, .int), (a6, .int), (a7, .int)] s := hK
  refine W.widen (k := 0) (n := 0) (by decide) (by decide) ?_
  obtain ⟨hm, hj⟩ := hw_32
  have hm : md_has fs2 _ := hm
  have hK := hK.sub (tys' := [(a1, .char), (a2, .char), (a4, .int), (a5, .int), (a6, .int), (a7, .int)]) [0, 1, 2, 3, 4, 5] rfl
  have hP9 := hP.sub (ws' := [(m0, .inr (12, fs2)), (q1, .inl (a1, 66000, .inl g1)), (q2, .inl (a2, 66000, .inl f2)), (q4, .inl (a4, 24000, .inl g4)), (q5, .inl (a5, 24000, .inl g5)), (q6, .inl (a6, 24000, .inl g6)), (q7, .inl (a7, 4096, .inl g7))]) [0, 1, 2, 3, 4, 5, 6] rfl
  have hD9 := hD.sub (ws' := [(m0, .inr (12, fs2)), (q1, .inl (a1, 66000, .inl g1)), (q2, .inl (a2, 66000, .inl f2)), (q4, .inl (a4, 24000, .inl g4)), (q5, .inl (a5, 24000, .inl g5)), (q6, .inl (a6, 24000, .inl g6)), (q7, .inl (a7, 4096, .inl g7))]) [0, 1, 2, 3, 4, 5, 6] rfl rfl
  have hK9 := hK.sub (tys' := [(a1, .char), (a2, .char), (a4, .int), (a5, .int), (a6, .int), (a7, .int)]) [0, 1, 2, 3, 4, 5] rfl
  exact W.iret (v := r_32) hx hb hr (fun t ht hW => ⟨⟨r_32, (fs2, g1, f2, g4, g5, g6, g7), rfl, ⟨md_sub hm [0, 1, 2, 3, 4, 5, 6, 7, 8, 9, 10, 11, 12, 13] rfl, fun j h => hj j (by rw [hsy]; exact h)⟩, by rw [ht]; exact hP9, va_K.moved hW.alike hK9, hD9⟩, hS.F ht⟩) hS.2.2 dX12_symbol_35
theorem dX12_clear_0 : decode cX12_clear 0 = .ok (.aload_n 0, 1) := by decide +kernel
theorem dX12_clear_1 : decode cX12_clear 1 = .ok (.iconst 0, 1) := by decide +kernel
theorem dX12_clear_2 : decode cX12_clear 2 = .ok (.putfield 172, 3) := by decide +kernel
theorem dX12_clear_5 : decode cX12_clear 5 = .ok (.aload_n 0, 1) := by decide +kernel
theorem dX12_clear_6 : decode cX12_clear 6 = .ok (.iconst 0, 1) := by decide +kernel
theorem dX12_clear_7 : decode cX12_clear 7 = .ok (.putfield 175, 3) := by decide +kernel
theorem dX12_clear_10 : decode cX12_clear 10 = .ok (.iconst 0, 1) := by decide +kernel
theorem dX12_clear_11 : decode cX12_clear 11 = .ok (.istore_n 1, 1) := by decide +kernel
theorem dX12_clear_32 : decode cX12_clear 32 = .ok (.aload_n 0, 1) := by decide +kernel
theorem dX12_clear_33 : decode cX12_clear 33 = .ok (.aload_n 0, 1) := by decide +kernel
theorem dX12_clear_34 : decode cX12_clear 34 = .ok (.ldc 178, 2) := by decide +kernel
theorem dX12_clear_36 : decode cX12_clear 36 = .ok (.invokevirtual 179, 3) := by decide +kernel
theorem dX12_clear_39 : decode cX12_clear 39 = .ok (.putfield 183, 3) := by decide +kernel
theorem dX12_clear_42 : decode cX12_clear 42 = .ok (.aload_n 0, 1) := by decide +kernel
theorem dX12_clear_43 : decode cX12_clear 43 = .ok (.aload_n 0, 1) := by decide +kernel
theorem dX12_clear_44 : decode cX12_clear 44 = .ok (.ldc 186, 2) := by decide +kernel
theorem dX12_clear_46 : decode cX12_clear 46 = .ok (.invokevirtual 179, 3) := by decide +kernel
theorem dX12_clear_49 : decode cX12_clear 49 = .ok (.putfield 188, 3) := by decide +kernel
theorem dX12_clear_52 : decode cX12_clear 52 = .ok (.aload_n 0, 1) := by decide +kernel
theorem dX12_clear_53 : decode cX12_clear 53 = .ok (.aload_n 0, 1) := by decide +kernel
theorem dX12_clear_54 : decode cX12_clear 54 = .ok (.ldc 191, 2) := by decide +kernel
theorem dX12_clear_56 : decode cX12_clear 56 = .ok (.invokevirtual 179, 3) := by decide +kernel
theorem dX12_clear_59 : decode cX12_clear 59 = .ok (.putfield 192, 3) := by decide +kernel
theorem dX12_clear_62 : decode cX12_clear 62 = .ok (.aload_n 0, 1) := by decide +kernel
theorem dX12_clear_63 : decode cX12_clear 63 = .ok (.iconst 0, 1) := by decide +kernel
theorem dX12_clear_64 : decode cX12_clear 64 = .ok (.putfield 195, 3) := by decide +kernel
theorem dX12_clear_67 : decode cX12_clear 67 = .ok (.aload_n 0, 1) := by decide +kernel
theorem dX12_clear_68 : decode cX12_clear 68 = .ok (.iconst 0, 1) := by decide +kernel
theorem dX12_clear_69 : decode cX12_clear 69 = .ok (.putfield 198, 3) := by decide +kernel
theorem dX12_clear_72 : decode cX12_clear 72 = .ok (.aload_n 0, 1) := by decide +kernel
theorem dX12_clear_73 : decode cX12_clear 73 = .ok (.iconst 0, 1) := by decide +kernel
theorem dX12_clear_74 : decode cX12_clear 74 = .ok (.putfield 201, 3) := by decide +kernel
theorem dX12_clear_77 : decode cX12_clear 77 = .ok (.return_, 1) := by decide +kernel
set_option maxHeartbeats 4000000 in
set_option maxRecDepth 100000 in
theorem mm_clear (l : Launch) (D : va_G) (g : xe_G) (m0 : Nat) (fs : List Value) (q1 : Nat) (q2 : Nat) (q4 : Nat) (q5 : Nat) (q6 : Nat) (q7 : Nat) (a1 : ClassId) (a2 : ClassId) (a4 : ClassId) (a5 : ClassId) (a6 : ClassId) (a7 : ClassId) (f1 : Nat → Int32) (f2 : Nat → Int32) (f4 : Nat → Int32) (f5 : Nat → Int32) (f6 : Nat → Int32) (f7 : Nat → Int32) (qf : Nat) (qm : Nat) (y17 : Int32) (y18 : Int32) (y19 : Int32) (y73 : Int32) (sz : Nat) (hm : md_has fs [(1, .ref q1), (2, .ref q2), (4, .ref q4), (5, .ref q5), (6, .ref q6), (7, .ref q7), (13, .ref qf), (15, .ref qm), (17, .int y17), (18, .int y18), (19, .int y19), (73, .int y73)]) : Met l yX12_clear (.code yX12_clear cX12_clear 2 none :: bg) ({ frames := 6, cells := 0, slots := 0, locals := 800 } : Room) (xb_Pre (xe_E g) D vwCl [(m0, .inr (12, fs)), (q1, .inl (a1, 66000, .inl f1)), (q2, .inl (a2, 66000, .inl f2)), (q4, .inl (a4, 24000, .inl f4)), (q5, .inl (a5, 24000, .inl f5)), (q6, .inl (a6, 24000, .inl f6)), (q7, .inl (a7, 4096, .inl f7))] [(a1, .char), (a2, .char), (a4, .int), (a5, .int), (a6, .int), (a7, .int)] sz [.ref m0]) (va_Qv (fun u => md_has u.1 [(1, .ref q1), (2, .ref q2), (4, .ref q4), (5, .ref q5), (6, .ref q6), (7, .ref q7), (13, .ref qf), (15, .ref qm), (17, .int y17), (18, .int y18), (19, .int y19), (73, .int y73)]) (xb_B D vwCl (va_A [(m0, .inr (12, fs)), (q1, .inl (a1, 66000, .inl f1)), (q2, .inl (a2, 66000, .inl f2)), (q4, .inl (a4, 24000, .inl f4)), (q5, .inl (a5, 24000, .inl f5)), (q6, .inl (a6, 24000, .inl f6)), (q7, .inl (a7, 4096, .inl f7))] sz) (fun u : List Value × (Nat → Int32) × (Nat → Int32) × (Nat → Int32) × (Nat → Int32) × (Nat → Int32) × (Nat → Int32) => [(m0, .inr (12, u.1)), (q1, .inl (a1, 66000, .inl u.2.1)), (q2, .inl (a2, 66000, .inl u.2.2.1)), (q4, .inl (a4, 24000, .inl u.2.2.2.1)), (q5, .inl (a5, 24000, .inl u.2.2.2.2.1)), (q6, .inl (a6, 24000, .inl u.2.2.2.2.2.1)), (q7, .inl (a7, 4096, .inl u.2.2.2.2.2.2))]) (fun u : List Value × (Nat → Int32) × (Nat → Int32) × (Nat → Int32) × (Nat → Int32) × (Nat → Int32) × (Nat → Int32) => [(a1, .char), (a2, .char), (a4, .int), (a5, .int), (a6, .int), (a7, .int)])) (va_A [(m0, .inr (12, fs)), (q1, .inl (a1, 66000, .inl f1)), (q2, .inl (a2, 66000, .inl f2)), (q4, .inl (a4, 24000, .inl f4)), (q5, .inl (a5, 24000, .inl f5)), (q6, .inl (a6, 24000, .inl f6)), (q7, .inl (a7, 4096, .inl f7))] sz)) 0 0 (va_A [(m0, .inr (12, fs)), (q1, .inl (a1, 66000, .inl f1)), (q2, .inl (a2, 66000, .inl f2)), (q4, .inl (a4, 24000, .inl f4)), (q5, .inl (a5, 24000, .inl f5)), (q6, .inl (a6, 24000, .inl f6)), (q7, .inl (a7, 4096, .inl f7))] sz) := by
  refine Met.ofW (cc := cX12_clear) (maxL := 2) (ret := none) (by decide) rfl ?_
  intro p e s m args below meth c s₁ B hml hv
  obtain ⟨rfl, hsz, hP, hK, hD0, hE⟩ := hv
  have hx := B.exec
  have hb := B.bytes
  have hr := B.returns
  have hts := atoms_spec (ws := (.code yX12_clear cX12_clear 2 none :: bg)) B.pre
  have htb : ∀ w ∈ bg, w.before _ s = true := fun w h => hts w (List.mem_cons_of_mem _ h)
  have hown : s.vm.findClass RX12 = some m.cls := findClass_of_methodNamed B.named
  have hlocks := B.notSynchronized
  subst hsz
  have hD := hD0.self (sz := s.heap.size)
  generalize hAe : va_A [(m0, .inr (12, fs)), (q1, .inl (a1, 66000, .inl f1)), (q2, .inl (a2, 66000, .inl f2)), (q4, .inl (a4, 24000, .inl f4)), (q5, .inl (a5, 24000, .inl f5)), (q6, .inl (a6, 24000, .inl f6)), (q7, .inl (a7, 4096, .inl f7))] s.heap.size = A at hD hE ⊢
  have hA : ∀ q : Nat, s.heap.size ≤ q → A q := fun q h => by rw [← hAe]; exact Or.inr h
  have hS : va_S A s.heap s.heap [] := va_S.rf
  have hP : va_P D vwCl [(m0, .inr (12, fs)), (q1, .inl (a1, 66000, .inl f1)), (q2, .inl (a2, 66000, .inl f2)), (q4, .inl (a4, 24000, .inl f4)), (q5, .inl (a5, 24000, .inl f5)), (q6, .inl (a6, 24000, .inl f6)), (q7, .inl (a7, 4096, .inl f7))] s.heap := hP
  have hl := lv_entry ([.ref m0]) (n := 2) (Nat.le_of_ble_eq_true rfl)
  rw [lg_entry_eq]
  generalize (lg_sl ([.ref m0]) ++ List.replicate (2 - (lg_sl ([.ref m0])).length) Slot.unset).toArray = ls at hl ⊢
  have hl : lv_has ls 2 [(0, .ref m0)] := hl
  refine lv_aload_n hx hb dX12_clear_0 rfl (lv_at hl 0 rfl) ?_
  refine lv_iconst (v := 0) hx hb dX12_clear_1 (by decide) ?_
  refine va_put (D := D) (ci := 12) (v := .int 0) (ty := tyX12 3) (C := RX12) (T := TX12) (N := 82) hx hb htb bi_X12 tyX12 tyX12_ok nmX12 hown hK hP hD hS 0 rfl rfl 3 (by decide) (htb _ bg_145) (fun _ h9 => h9) rfl (tyX12_ok 3 (by decide)) rfl rfl (by rw [hm.1]; decide) dX12_clear_2 (fun H locs hP hD hS => ?_)
  have hP : va_P D vwCl [(m0, .inr (12, (fs.set 3 (.int 0)))), (q1, .inl (a1, 66000, .inl f1)), (q2, .inl (a2, 66000, .inl f2)), (q4, .inl (a4, 24000, .inl f4)), (q5, .inl (a5, 24000, .inl f5)), (q6, .inl (a6, 24000, .inl f6)), (q7, .inl (a7, 4096, .inl f7))] H := hP
  have hD : va_D A [(m0, .inr (12, (fs.set 3 (.int 0)))), (q1, .inl (a1, 66000, .inl f1)), (q2, .inl (a2, 66000, .inl f2)), (q4, .inl (a4, 24000, .inl f4)), (q5, .inl (a5, 24000, .inl f5)), (q6, .inl (a6, 24000, .inl f6)), (q7, .inl (a7, 4096, .inl f7))] := hD
  have hm : md_has (fs.set 3 (.int 0)) [(3, .int 0), (1, .ref q1), (2, .ref q2), (4, .ref q4), (5, .ref q5), (6, .ref q6), (7, .ref q7), (13, .ref qf), (15, .ref qm), (17, .int y17), (18, .int y18), (19, .int y19), (73, .int y73)] := md_put hm 3 (.int 0) (by decide) rfl
  generalize (fs.set 3 (.int 0)) = fs at hP hD hm
  refine lv_aload_n hx hb dX12_clear_5 rfl (lv_at hl 0 rfl) ?_
  refine lv_iconst (v := 0) hx hb dX12_clear_6 (by decide) ?_
  refine va_put (D := D) (ci := 12) (v := .int 0) (ty := tyX12 8) (C := RX12) (T := TX12) (N := 82) hx hb htb bi_X12 tyX12 tyX12_ok nmX12 hown hK hP hD hS 0 rfl rfl 8 (by decide) (htb _ bg_146) (fun _ h9 => h9) rfl (tyX12_ok 8 (by decide)) rfl rfl (by rw [hm.1]; decide) dX12_clear_7 (fun H locs hP hD hS => ?_)
  have hP : va_P D vwCl [(m0, .inr (12, (fs.set 8 (.int 0)))), (q1, .inl (a1, 66000, .inl f1)), (q2, .inl (a2, 66000, .inl f2)), (q4, .inl (a4, 24000, .inl f4)), (q5, .inl (a5, 24000, .inl f5)), (q6, .inl (a6, 24000, .inl f6)), (q7, .inl (a7, 4096, .inl f7))] H := hP
  have hD : va_D A [(m0, .inr (12, (fs.set 8 (.int 0)))), (q1, .inl (a1, 66000, .inl f1)), (q2, .inl (a2, 66000, .inl f2)), (q4, .inl (a4, 24000, .inl f4)), (q5, .inl (a5, 24000, .inl f5)), (q6, .inl (a6, 24000, .inl f6)), (q7, .inl (a7, 4096, .inl f7))] := hD
  have hm : md_has (fs.set 8 (.int 0)) [(8, .int 0), (3, .int 0), (1, .ref q1), (2, .ref q2), (4, .ref q4), (5, .ref q5), (6, .ref q6), (7, .ref q7), (13, .ref qf), (15, .ref qm), (17, .int y17), (18, .int y18), (19, .int y19), (73, .int y73)] := md_put hm 8 (.int 0) (by decide) rfl
  generalize (fs.set 8 (.int 0)) = fs at hP hD hm
  refine lv_iconst (v := 0) hx hb dX12_clear_10 (by decide) ?_
  refine lv_istore_n (lv' := [(1, .int 0), (0, .ref m0)]) hx hb dX12_clear_11 rfl hl (by decide) rfl (fun ls hl => ?_)
  have hl : lv_has ls 2 [(1, .int (nI 0)), (0, .ref m0)] := hl
  refine lp_clear hx hb htb hown hml hA (md_sub hm [2, 3, 4, 5, 6, 7, 8, 9, 10, 11, 12, 13] rfl) hK (fun f7 H locs ls hf hP hD hS hl => ?_) 4096 0 f7 _ _ _ (by omega) (fun j hj => absurd hj (Nat.not_lt_zero j)) hP hD hS hl
  have hm : md_has fs [(8, .int (nI 0)), (3, .int (nI 0)), (1, .ref q1), (2, .ref q2), (4, .ref q4), (5, .ref q5), (6, .ref q6), (7, .ref q7), (13, .ref qf), (15, .ref qm), (17, .int y17), (18, .int y18), (19, .int y19), (73, .int y73)] := hm
  refine lv_aload_n hx hb dX12_clear_32 rfl (lv_at hl 1 rfl) ?_
  refine lv_aload_n hx hb dX12_clear_33 rfl (lv_at hl 1 rfl) ?_
  refine va_ldcS hx hb hown (hE.2.2.2.2.2.2.1 0 (by decide)).1 dX12_clear_34 ?_
  refine xb_goi (wr := []) (va_runV (As := [.ref (g.2.1 0)]) (rest := [.ref m0]) ⟨hx, hb, hml, hown, htb⟩ (mm_symS l D g m0 fs q1 q2 q4 q5 q6 q7 a1 a2 a4 a5 a6 a7 f1 f2 f4 f5 f6 f7 qf qm y17 y18 y19 y73 0 0 0 (Array.size H) (md_sub hm [2, 3, 4, 5, 6, 7, 8, 9, 10, 11, 12, 13, 1, 0] rfl) (by decide) (by decide) (by decide) (hf _ (by decide +kernel))) (bg_V 1 htb bg_147 bg_149 bg_150 bg_144 bg_148 rfl rfl (by decide +kernel) ⟨Nat.le_of_ble_eq_true rfl, Nat.le_of_ble_eq_true rfl⟩) ⟨xb_blind xe_ok, va_recv hK hP (ci := 12) (q0 := 0) rfl rfl, xb_enter xe_ok hK hP hD hS hA hE [0, 1, 2, 3, 4, 5, 6] rfl rfl rfl [0, 1, 2, 3, 4, 5] rfl⟩ rfl rfl hl.1 rfl (lv_room (Nat.le_of_ble_eq_true rfl)) dX12_clear_36 ⟨Nat.le_of_ble_eq_true rfl, Nat.le_of_ble_eq_true rfl⟩) hK hP hD hS hA [0, 1, 2, 3, 4, 5, 6] [] rfl rfl rfl (by decide) (fun r_36 u_36 H locs hw_36 hP hD hK hS => ?_)
  obtain ⟨fs, f1, f2, f4, f5, f6, h7⟩ := u_36
  have hP : va_P D vwCl [(m0, .inr (12, fs)), (q1, .inl (a1, 66000, .inl f1)), (q2, .inl (a2, 66000, .inl f2)), (q4, .inl (a4, 24000, .inl f4)), (q5, .inl (a5, 24000, .inl f5)), (q6, .inl (a6, 24000, .inl f6)), (q7, .inl (a7, 4096, .inl h7))] H := hP
  have hD : va_D A [(m0, .inr (12, fs)), (q1, .inl (a1, 66000, .inl f1)), (q2, .inl (a2, 66000, .inl f2)), (q4, .inl (a4, 24000, .inl f4)), (q5, .inl (a5, 24000, .inl f5)), (q6, .inl (a6, 24000, .inl f6)), (q7, .inl (a7, 4096, .inl h7))] := hD
  have hK : va_K D vwCl [(a1, .char), (a2, .char), (a4, .int), (a5, .int), (a6, .int), (a7, .int), (a1, .char), (a2, .char), (a4, .int), (a5, .int), (a6, .int), (a7, .int)] s := hK
  refine W.widen (k := 0) (n := 0) (by decide) (by decide) ?_
  obtain ⟨hm, hj0⟩ := hw_36
  have hm : md_has fs _ := hm
  skip
  have hK := hK.sub (tys' := [(a1, .char), (a2, .char), (a4, .int), (a5, .int), (a6, .int), (a7, .int)]) [0, 1, 2, 3, 4, 5] rfl
  refine va_put (D := D) (ci := 12) (v := .int r_36) (ty := tyX12 9) (C := RX12) (T := TX12) (N := 82) hx hb htb bi_X12 tyX12 tyX12_ok nmX12 hown hK hP hD hS 0 rfl rfl 9 (by decide) (htb _ bg_151) (fun _ h9 => h9) rfl (tyX12_ok 9 (by decide)) rfl rfl (by rw [hm.1]; decide) dX12_clear_39 (fun H locs hP hD hS => ?_)
  have hP : va_P D vwCl [(m0, .inr (12, (fs.set 9 (.int r_36)))), (q1, .inl (a1, 66000, .inl f1)), (q2, .inl (a2, 66000, .inl f2)), (q4, .inl (a4, 24000, .inl f4)), (q5, .inl (a5, 24000, .inl f5)), (q6, .inl (a6, 24000, .inl f6)), (q7, .inl (a7, 4096, .inl h7))] H := hP
  have hD : va_D A [(m0, .inr (12, (fs.set 9 (.int r_36)))), (q1, .inl (a1, 66000, .inl f1)), (q2, .inl (a2, 66000, .inl f2)), (q4, .inl (a4, 24000, .inl f4)), (q5, .inl (a5, 24000, .inl f5)), (q6, .inl (a6, 24000, .inl f6)), (q7, .inl (a7, 4096, .inl h7))] := hD
  have hm : md_has (fs.set 9 (.int r_36)) [(1, .ref q1), (2, .ref q2), (4, .ref q4), (5, .ref q5), (6, .ref q6), (7, .ref q7), (13, .ref qf), (15, .ref qm), (17, .int y17), (18, .int y18), (19, .int y19), (73, .int y73), (3, .int (nI (0 + ((xe_lt 0).2.2.2.length)))), (8, .int (nI (0 + 1)))] := md_putD hm 9 (.int r_36) (by decide) rfl
  generalize (fs.set 9 (.int r_36)) = fs at hP hD hm
  refine lv_aload_n hx hb dX12_clear_42 rfl (lv_at hl 1 rfl) ?_
  refine lv_aload_n hx hb dX12_clear_43 rfl (lv_at hl 1 rfl) ?_
  refine va_ldcS hx hb hown (hE.2.2.2.2.2.2.1 1 (by decide)).1 dX12_clear_44 ?_
  refine xb_goi (wr := []) (va_runV (As := [.ref (g.2.1 1)]) (rest := [.ref m0]) ⟨hx, hb, hml, hown, htb⟩ (mm_symS l D g m0 fs q1 q2 q4 q5 q6 q7 a1 a2 a4 a5 a6 a7 f1 f2 f4 f5 f6 h7 qf qm y17 y18 y19 y73 1 (0 + ((xe_lt 0).2.2.2.length)) (0 + 1) (Array.size H) (md_sub hm [0, 1, 2, 3, 4, 5, 6, 7, 8, 9, 10, 11, 12, 13] rfl) (by decide) (by decide) (by decide) ((hj0 _ (by decide +kernel)).trans (hf _ (by decide +kernel)))) (bg_V 1 htb bg_147 bg_149 bg_150 bg_144 bg_148 rfl rfl (by decide +kernel) ⟨Nat.le_of_ble_eq_true rfl, Nat.le_of_ble_eq_true rfl⟩) ⟨xb_blind xe_ok, va_recv hK hP (ci := 12) (q0 := 0) rfl rfl, xb_enter xe_ok hK hP hD hS hA hE [0, 1, 2, 3, 4, 5, 6] rfl rfl rfl [0, 1, 2, 3, 4, 5] rfl⟩ rfl rfl hl.1 rfl (lv_room (Nat.le_of_ble_eq_true rfl)) dX12_clear_46 ⟨Nat.le_of_ble_eq_true rfl, Nat.le_of_ble_eq_true rfl⟩) hK hP hD hS hA [0, 1, 2, 3, 4, 5, 6] [] rfl rfl rfl (by decide) (fun r_46 u_46 H locs hw_46 hP hD hK hS => ?_)
  obtain ⟨fs, f1, f2, f4, f5, f6, k7⟩ := u_46
  have hP : va_P D vwCl [(m0, .inr (12, fs)), (q1, .inl (a1, 66000, .inl f1)), (q2, .inl (a2, 66000, .inl f2)), (q4, .inl (a4, 24000, .inl f4)), (q5, .inl (a5, 24000, .inl f5)), (q6, .inl (a6, 24000, .inl f6)), (q7, .inl (a7, 4096, .inl k7))] H := hP
  have hD : va_D A [(m0, .inr (12, fs)), (q1, .inl (a1, 66000, .inl f1)), (q2, .inl (a2, 66000, .inl f2)), (q4, .inl (a4, 24000, .inl f4)), (q5, .inl (a5, 24000, .inl f5)), (q6, .inl (a6, 24000, .inl f6)), (q7, .inl (a7, 4096, .inl k7))] := hD
  have hK : va_K D vwCl [(a1, .char), (a2, .char), (a4, .int), (a5, .int), (a6, .int), (a7, .int), (a1, .char), (a2, .char), (a4, .int), (a5, .int), (a6, .int), (a7, .int)] s := hK
  refine W.widen (k := 0) (n := 0) (by decide) (by decide) ?_
  obtain ⟨hm, hj1⟩ := hw_46
  have hm : md_has fs _ := hm
  skip
  have hK := hK.sub (tys' := [(a1, .char), (a2, .char), (a4, .int), (a5, .int), (a6, .int), (a7, .int)]) [0, 1, 2, 3, 4, 5] rfl
  refine va_put (D := D) (ci := 12) (v := .int r_46) (ty := tyX12 10) (C := RX12) (T := TX12) (N := 82) hx hb htb bi_X12 tyX12 tyX12_ok nmX12 hown hK hP hD hS 0 rfl rfl 10 (by decide) (htb _ bg_152) (fun _ h9 => h9) rfl (tyX12_ok 10 (by decide)) rfl rfl (by rw [hm.1]; decide) dX12_clear_49 (fun H locs hP hD hS => ?_)
  have hP : va_P D vwCl [(m0, .inr (12, (fs.set 10 (.int r_46)))), (q1, .inl (a1, 66000, .inl f1)), (q2, .inl (a2, 66000, .inl f2)), (q4, .inl (a4, 24000, .inl f4)), (q5, .inl (a5, 24000, .inl f5)), (q6, .inl (a6, 24000, .inl f6)), (q7, .inl (a7, 4096, .inl k7))] H := hP
  have hD : va_D A [(m0, .inr (12, (fs.set 10 (.int r_46)))), (q1, .inl (a1, 66000, .inl f1)), (q2, .inl (a2, 66000, .inl f2)), (q4, .inl (a4, 24000, .inl f4)), (q5, .inl (a5, 24000, .inl f5)), (q6, .inl (a6, 24000, .inl f6)), (q7, .inl (a7, 4096, .inl k7))] := hD
  have hm : md_has (fs.set 10 (.int r_46)) [(1, .ref q1), (2, .ref q2), (4, .ref q4), (5, .ref q5), (6, .ref q6), (7, .ref q7), (13, .ref qf), (15, .ref qm), (17, .int y17), (18, .int y18), (19, .int y19), (73, .int y73), (3, .int (nI ((0 + ((xe_lt 0).2.2.2.length)) + ((xe_lt 1).2.2.2.length)))), (8, .int (nI ((0 + 1) + 1)))] := md_putD hm 10 (.int r_46) (by decide) rfl
  generalize (fs.set 10 (.int r_46)) = fs at hP hD hm
  refine lv_aload_n hx hb dX12_clear_52 rfl (lv_at hl 1 rfl) ?_
  refine lv_aload_n hx hb dX12_clear_53 rfl (lv_at hl 1 rfl) ?_
  refine va_ldcS hx hb hown (hE.2.2.2.2.2.2.1 2 (by decide)).1 dX12_clear_54 ?_
  refine xb_goi (wr := []) (va_runV (As := [.ref (g.2.1 2)]) (rest := [.ref m0]) ⟨hx, hb, hml, hown, htb⟩ (mm_symS l D g m0 fs q1 q2 q4 q5 q6 q7 a1 a2 a4 a5 a6 a7 f1 f2 f4 f5 f6 k7 qf qm y17 y18 y19 y73 2 ((0 + ((xe_lt 0).2.2.2.length)) + ((xe_lt 1).2.2.2.length)) ((0 + 1) + 1) (Array.size H) (md_sub hm [0, 1, 2, 3, 4, 5, 6, 7, 8, 9, 10, 11, 12, 13] rfl) (by decide) (by decide) (by decide) ((hj1 _ (by decide +kernel)).trans ((hj0 _ (by decide +kernel)).trans (hf _ (by decide +kernel))))) (bg_V 1 htb bg_147 bg_149 bg_150 bg_144 bg_148 rfl rfl (by decide +kernel) ⟨Nat.le_of_ble_eq_true rfl, Nat.le_of_ble_eq_true rfl⟩) ⟨xb_blind xe_ok, va_recv hK hP (ci := 12) (q0 := 0) rfl rfl, xb_enter xe_ok hK hP hD hS hA hE [0, 1, 2, 3, 4, 5, 6] rfl rfl rfl [0, 1, 2, 3, 4, 5] rfl⟩ rfl rfl hl.1 rfl (lv_room (Nat.le_of_ble_eq_true rfl)) dX12_clear_56 ⟨Nat.le_of_ble_eq_true rfl, Nat.le_of_ble_eq_true rfl⟩) hK hP hD hS hA [0, 1, 2, 3, 4, 5, 6] [] rfl rfl rfl (by decide) (fun r_56 u_56 H locs hw_56 hP hD hK hS => ?_)
  obtain ⟨fs, f1, f2, f4, f5, f6, m7⟩ := u_56
  have hP : va_P D vwCl [(m0, .inr (12, fs)), (q1, .inl (a1, 66000, .inl f1)), (q2, .inl (a2, 66000, .inl f2)), (q4, .inl (a4, 24000, .inl f4)), (q5, .inl (a5, 24000, .inl f5)), (q6, .inl (a6, 24000, .inl f6)), (q7, .inl (a7, 4096, .inl m7))] H := hP
  have hD : va_D A [(m0, .inr (12, fs)), (q1, .inl (a1, 66000, .inl f1)), (q2, .inl (a2, 66000, .inl f2)), (q4, .inl (a4, 24000, .inl f4)), (q5, .inl (a5, 24000, .inl f5)), (q6, .inl (a6, 24000, .inl f6)), (q7, .inl (a7, 4096, .inl m7))] := hD
  have hK : va_K D vwCl [(a1, .char), (a2, .char), (a4, .int), (a5, .int), (a6, .int), (a7, .int), (a1, .char), (a2, .char), (a4, .int), (a5, .int), (a6, .int), (a7, .int)] s := hK
  refine W.widen (k := 0) (n := 0) (by decide) (by decide) ?_
  obtain ⟨hm, hj2⟩ := hw_56
  have hm : md_has fs _ := hm
  skip
  have hK := hK.sub (tys' := [(a1, .char), (a2, .char), (a4, .int), (a5, .int), (a6, .int), (a7, .int)]) [0, 1, 2, 3, 4, 5] rfl
  refine va_put (D := D) (ci := 12) (v := .int r_56) (ty := tyX12 11) (C := RX12) (T := TX12) (N := 82) hx hb htb bi_X12 tyX12 tyX12_ok nmX12 hown hK hP hD hS 0 rfl rfl 11 (by decide) (htb _ bg_153) (fun _ h9 => h9) rfl (tyX12_ok 11 (by decide)) rfl rfl (by rw [hm.1]; decide) dX12_clear_59 (fun H locs hP hD hS => ?_)
  have hP : va_P D vwCl [(m0, .inr (12, (fs.set 11 (.int r_56)))), (q1, .inl (a1, 66000, .inl f1)), (q2, .inl (a2, 66000, .inl f2)), (q4, .inl (a4, 24000, .inl f4)), (q5, .inl (a5, 24000, .inl f5)), (q6, .inl (a6, 24000, .inl f6)), (q7, .inl (a7, 4096, .inl m7))] H := hP
  have hD : va_D A [(m0, .inr (12, (fs.set 11 (.int r_56)))), (q1, .inl (a1, 66000, .inl f1)), (q2, .inl (a2, 66000, .inl f2)), (q4, .inl (a4, 24000, .inl f4)), (q5, .inl (a5, 24000, .inl f5)), (q6, .inl (a6, 24000, .inl f6)), (q7, .inl (a7, 4096, .inl m7))] := hD
  have hm : md_has (fs.set 11 (.int r_56)) [(1, .ref q1), (2, .ref q2), (4, .ref q4), (5, .ref q5), (6, .ref q6), (7, .ref q7), (13, .ref qf), (15, .ref qm), (17, .int y17), (18, .int y18), (19, .int y19), (73, .int y73), (3, .int (nI (((0 + ((xe_lt 0).2.2.2.length)) + ((xe_lt 1).2.2.2.length)) + ((xe_lt 2).2.2.2.length)))), (8, .int (nI (((0 + 1) + 1) + 1)))] := md_putD hm 11 (.int r_56) (by decide) rfl
  generalize (fs.set 11 (.int r_56)) = fs at hP hD hm
  refine lv_aload_n hx hb dX12_clear_62 rfl (lv_at hl 1 rfl) ?_
  refine lv_iconst (v := 0) hx hb dX12_clear_63 (by decide) ?_
  refine va_put (D := D) (ci := 12) (v := .int 0) (ty := tyX12 20) (C := RX12) (T := TX12) (N := 82) hx hb htb bi_X12 tyX12 tyX12_ok nmX12 hown hK hP hD hS 0 rfl rfl 20 (by decide) (htb _ bg_154) (fun _ h9 => h9) rfl (tyX12_ok 20 (by decide)) rfl rfl (by rw [hm.1]; decide) dX12_clear_64 (fun H locs hP hD hS => ?_)
  have hP : va_P D vwCl [(m0, .inr (12, (fs.set 20 (.int 0)))), (q1, .inl (a1, 66000, .inl f1)), (q2, .inl (a2, 66000, .inl f2)), (q4, .inl (a4, 24000, .inl f4)), (q5, .inl (a5, 24000, .inl f5)), (q6, .inl (a6, 24000, .inl f6)), (q7, .inl (a7, 4096, .inl m7))] H := hP
  have hD : va_D A [(m0, .inr (12, (fs.set 20 (.int 0)))), (q1, .inl (a1, 66000, .inl f1)), (q2, .inl (a2, 66000, .inl f2)), (q4, .inl (a4, 24000, .inl f4)), (q5, .inl (a5, 24000, .inl f5)), (q6, .inl (a6, 24000, .inl f6)), (q7, .inl (a7, 4096, .inl m7))] := hD
  have hm : md_has (fs.set 20 (.int 0)) [(1, .ref q1), (2, .ref q2), (4, .ref q4), (5, .ref q5), (6, .ref q6), (7, .ref q7), (13, .ref qf), (15, .ref qm), (17, .int y17), (18, .int y18), (19, .int y19), (73, .int y73), (3, .int (nI (((0 + ((xe_lt 0).2.2.2.length)) + ((xe_lt 1).2.2.2.length)) + ((xe_lt 2).2.2.2.length)))), (8, .int (nI (((0 + 1) + 1) + 1)))] := md_putD hm 20 (.int 0) (by decide) rfl
  generalize (fs.set 20 (.int 0)) = fs at hP hD hm
  refine lv_aload_n hx hb dX12_clear_67 rfl (lv_at hl 1 rfl) ?_
  refine lv_iconst (v := 0) hx hb dX12_clear_68 (by decide) ?_
  refine va_put (D := D) (ci := 12) (v := .int 0) (ty := tyX12 25) (C := RX12) (T := TX12) (N := 82) hx hb htb bi_X12 tyX12 tyX12_ok nmX12 hown hK hP hD hS 0 rfl rfl 25 (by decide) (htb _ bg_155) (fun _ h9 => h9) rfl (tyX12_ok 25 (by decide)) rfl rfl (by rw [hm.1]; decide) dX12_clear_69 (fun H locs hP hD hS => ?_)
  have hP : va_P D vwCl [(m0, .inr (12, (fs.set 25 (.int 0)))), (q1, .inl (a1, 66000, .inl f1)), (q2, .inl (a2, 66000, .inl f2)), (q4, .inl (a4, 24000, .inl f4)), (q5, .inl (a5, 24000, .inl f5)), (q6, .inl (a6, 24000, .inl f6)), (q7, .inl (a7, 4096, .inl m7))] H := hP
  have hD : va_D A [(m0, .inr (12, (fs.set 25 (.int 0)))), (q1, .inl (a1, 66000, .inl f1)), (q2, .inl (a2, 66000, .inl f2)), (q4, .inl (a4, 24000, .inl f4)), (q5, .inl (a5, 24000, .inl f5)), (q6, .inl (a6, 24000, .inl f6)), (q7, .inl (a7, 4096, .inl m7))] := hD
  have hm : md_has (fs.set 25 (.int 0)) [(1, .ref q1), (2, .ref q2), (4, .ref q4), (5, .ref q5), (6, .ref q6), (7, .ref q7), (13, .ref qf), (15, .ref qm), (17, .int y17), (18, .int y18), (19, .int y19), (73, .int y73), (3, .int (nI (((0 + ((xe_lt 0).2.2.2.length)) + ((xe_lt 1).2.2.2.length)) + ((xe_lt 2).2.2.2.length)))), (8, .int (nI (((0 + 1) + 1) + 1)))] := md_putD hm 25 (.int 0) (by decide) rfl
  generalize (fs.set 25 (.int 0)) = fs at hP hD hm
  refine lv_aload_n hx hb dX12_clear_72 rfl (lv_at hl 1 rfl) ?_
  refine lv_iconst (v := 0) hx hb dX12_clear_73 (by decide) ?_
  refine va_put (D := D) (ci := 12) (v := .int 0) (ty := tyX12 26) (C := RX12) (T := TX12) (N := 82) hx hb htb bi_X12 tyX12 tyX12_ok nmX12 hown hK hP hD hS 0 rfl rfl 26 (by decide) (htb _ bg_156) (fun _ h9 => h9) rfl (tyX12_ok 26 (by decide)) rfl rfl (by rw [hm.1]; decide) dX12_clear_74 (fun H locs hP hD hS => ?_)
  have hP : va_P D vwCl [(m0, .inr (12, (fs.set 26 (.int 0)))), (q1, .inl (a1, 66000, .inl f1)), (q2, .inl (a2, 66000, .inl f2)), (q4, .inl (a4, 24000, .inl f4)), (q5, .inl (a5, 24000, .inl f5)), (q6, .inl (a6, 24000, .inl f6)), (q7, .inl (a7, 4096, .inl m7))] H := hP
  have hD : va_D A [(m0, .inr (12, (fs.set 26 (.int 0)))), (q1, .inl (a1, 66000, .inl f1)), (q2, .inl (a2, 66000, .inl f2)), (q4, .inl (a4, 24000, .inl f4)), (q5, .inl (a5, 24000, .inl f5)), (q6, .inl (a6, 24000, .inl f6)), (q7, .inl (a7, 4096, .inl m7))] := hD
  have hm : md_has (fs.set 26 (.int 0)) [(1, .ref q1), (2, .ref q2), (4, .ref q4), (5, .ref q5), (6, .ref q6), (7, .ref q7), (13, .ref qf), (15, .ref qm), (17, .int y17), (18, .int y18), (19, .int y19), (73, .int y73), (3, .int (nI (((0 + ((xe_lt 0).2.2.2.length)) + ((xe_lt 1).2.2.2.length)) + ((xe_lt 2).2.2.2.length)))), (8, .int (nI (((0 + 1) + 1) + 1)))] := md_putD hm 26 (.int 0) (by decide) rfl
  generalize (fs.set 26 (.int 0)) = fs at hP hD hm
  have hP9 := hP.sub (ws' := [(m0, .inr (12, fs)), (q1, .inl (a1, 66000, .inl f1)), (q2, .inl (a2, 66000, .inl f2)), (q4, .inl (a4, 24000, .inl f4)), (q5, .inl (a5, 24000, .inl f5)), (q6, .inl (a6, 24000, .inl f6)), (q7, .inl (a7, 4096, .inl m7))]) [0, 1, 2, 3, 4, 5, 6] rfl
  have hD9 := hD.sub (ws' := [(m0, .inr (12, fs)), (q1, .inl (a1, 66000, .inl f1)), (q2, .inl (a2, 66000, .inl f2)), (q4, .inl (a4, 24000, .inl f4)), (q5, .inl (a5, 24000, .inl f5)), (q6, .inl (a6, 24000, .inl f6)), (q7, .inl (a7, 4096, .inl m7))]) [0, 1, 2, 3, 4, 5, 6] rfl rfl
  have hK9 := hK.sub (tys' := [(a1, .char), (a2, .char), (a4, .int), (a5, .int), (a6, .int), (a7, .int)]) [0, 1, 2, 3, 4, 5] rfl
  exact W.vret hx hb hr (fun t ht hW => ⟨⟨(fs, f1, f2, f4, f5, f6, m7), rfl, md_sub hm [0, 1, 2, 3, 4, 5, 6, 7, 8, 9, 10, 11] rfl, by rw [ht]; exact hP9, va_K.moved hW.alike hK9, hD9⟩, hS.F ht⟩) hS.2.2 dX12_clear_77
