/-- the hash of the first n characters, and the bucket -/
def sy_h (f : Nat → Int32) : Nat → Int32
  | 0 => 7
  | n + 1 => 31 * sy_h f n + f n
def sy_i (f : Nat → Int32) (n : Nat) : Int32 := (sy_h f n ^^^ ((sy_h f n).toUInt32 >>> ((12 : Int32).toUInt32 &&& Int32.toUInt32 31)).toInt32) &&& 4095
theorem sy_same {f g : Nat → Int32} : ∀ n : Nat, (∀ j, j < n → f j = g j) → sy_h f n = sy_h g n
  | 0, _ => rfl
  | n + 1, h => by rw [sy_h, sy_h, sy_same n (fun j hj => h j (by omega)), h n (by omega)]
theorem sy_in (f : Nat → Int32) (n : Nat) : vp_in (sy_i f n) 4096 := pk_andIn _ 12 (by decide) (by decide)
theorem dX12_clear_12 : decode cX12_clear 12 = .ok (.iload_n 1, 1) := by decide +kernel
theorem dX12_clear_13 : decode cX12_clear 13 = .ok (.sipush 4096, 3) := by decide +kernel
theorem dX12_clear_16 : decode cX12_clear 16 = .ok (.if_icmp .ge 16, 3) := by decide +kernel
theorem dX12_clear_19 : decode cX12_clear 19 = .ok (.aload_n 0, 1) := by decide +kernel
theorem dX12_clear_20 : decode cX12_clear 20 = .ok (.getfield 31, 3) := by decide +kernel
theorem dX12_clear_23 : decode cX12_clear 23 = .ok (.iload_n 1, 1) := by decide +kernel
theorem dX12_clear_24 : decode cX12_clear 24 = .ok (.iconst (-1), 1) := by decide +kernel
theorem dX12_clear_25 : decode cX12_clear 25 = .ok (.iastore, 1) := by decide +kernel
theorem dX12_clear_26 : decode cX12_clear 26 = .ok (.iinc 1 1, 3) := by decide +kernel
theorem dX12_clear_29 : decode cX12_clear 29 = .ok (.goto (-17), 3) := by decide +kernel
set_option maxHeartbeats 4000000 in
set_option maxRecDepth 100000 in
theorem lp_clear {p : Program} {l : Launch} {e : Env} {R : Room} {s : State} {m : MethodId} {args : Array Value} {below : List Frame} {meth : Method} {c : Code} {Q : State → Prop} {D : va_G} {A : Nat → Prop} {cells slots : Nat} {m0 : Nat} {fs : List Value} {q1 : Nat} {q2 : Nat} {q4 : Nat} {q5 : Nat} {q6 : Nat} {q7 : Nat} {a1 : ClassId} {a2 : ClassId} {a4 : ClassId} {a5 : ClassId} {a6 : ClassId} {a7 : ClassId} {f1 : Nat → Int32} {f2 : Nat → Int32} {f4 : Nat → Int32} {f5 : Nat → Int32} {f6 : Nat → Int32} {qf : Nat} {qm : Nat} {y17 : Int32} {y18 : Int32} {y19 : Int32} {y73 : Int32} (hx : p.tables.exec = Jvm.exec) (hb : c.code = cX12_clear) (htb : ∀ w ∈ bg, w.before args s = true) (hown : s.vm.findClass RX12 = some m.cls) (hml : c.maxLocals = 2) (hA : ∀ q : Nat, s.heap.size ≤ q → A q)  (hm : md_has fs [(1, .ref q1), (2, .ref q2), (4, .ref q4), (5, .ref q5), (6, .ref q6), (7, .ref q7), (13, .ref qf), (15, .ref qm), (17, .int y17), (18, .int y18), (19, .int y19), (73, .int y73)]) (hK : va_K D vwCl [(a1, .char), (a2, .char), (a4, .int), (a5, .int), (a6, .int), (a7, .int)] s)
    (kont : ∀ (f7 : Nat → Int32) (H : Heap) (locs : List Loc) (ls : Array Slot), (∀ j, j < 4096 → f7 j = -1) → va_P D vwCl [(m0, .inr (12, fs)), (q1, .inl (a1, 66000, .inl f1)), (q2, .inl (a2, 66000, .inl f2)), (q4, .inl (a4, 24000, .inl f4)), (q5, .inl (a5, 24000, .inl f5)), (q6, .inl (a6, 24000, .inl f6)), (q7, .inl (a7, 4096, .inl f7))] H → va_D A [(m0, .inr (12, fs)), (q1, .inl (a1, 66000, .inl f1)), (q2, .inl (a2, 66000, .inl f2)), (q4, .inl (a4, 24000, .inl f4)), (q5, .inl (a5, 24000, .inl f5)), (q6, .inl (a6, 24000, .inl f6)), (q7, .inl (a7, 4096, .inl f7))] → va_S A s.heap H locs → lv_has ls 2 [(1, .int (nI 4096)), (0, .ref m0)] → W p l e R s m args below meth c H locs cells slots Q (F0 m 32 ls [])) :
    ∀ (n k : Nat) (f7 : Nat → Int32) (H : Heap) (locs : List Loc) (ls : Array Slot), k + n = 4096 → (∀ j, j < k → f7 j = -1) → va_P D vwCl [(m0, .inr (12, fs)), (q1, .inl (a1, 66000, .inl f1)), (q2, .inl (a2, 66000, .inl f2)), (q4, .inl (a4, 24000, .inl f4)), (q5, .inl (a5, 24000, .inl f5)), (q6, .inl (a6, 24000, .inl f6)), (q7, .inl (a7, 4096, .inl f7))] H → va_D A [(m0, .inr (12, fs)), (q1, .inl (a1, 66000, .inl f1)), (q2, .inl (a2, 66000, .inl f2)), (q4, .inl (a4, 24000, .inl f4)), (q5, .inl (a5, 24000, .inl f5)), (q6, .inl (a6, 24000, .inl f6)), (q7, .inl (a7, 4096, .inl f7))] → va_S A s.heap H locs → lv_has ls 2 [(1, .int (nI k)), (0, .ref m0)] → W p l e R s m args below meth c H locs cells slots Q (F0 m 12 ls []) := by
  intro n
  induction n with
  | zero =>
    intro k f7 H locs ls hkn hi hP hD hS hl
    have hk0 : k = 4096 := by omega
    subst hk0
    refine lv_iload_n hx hb dX12_clear_12 rfl (lv_at hl 0 rfl) ?_
    refine lv_sipush (v := 4096) hx hb dX12_clear_13 (by decide) ?_
    refine lv_icmp_ge (tgt := 32) hx hb dX12_clear_16 (by decide) (fun c_16 => ?_) (fun c_16 => ?_)
    rotate_left
    · exact absurd (by decide) c_16
    exact kont f7 H locs ls hi hP hD hS hl
  | succ n ih =>
    intro k f7 H locs ls hkn hi hP hD hS hl
    refine lv_iload_n hx hb dX12_clear_12 rfl (lv_at hl 0 rfl) ?_
    refine lv_sipush (v := 4096) hx hb dX12_clear_13 (by decide) ?_
    refine lv_icmp_ge (tgt := 32) hx hb dX12_clear_16 (by decide) (fun c_16 => ?_) (fun c_16 => ?_)
    · exact absurd c_16 (nI_ge (a := k) (b := 4096) (by omega) (by omega))
    refine lv_aload_n hx hb dX12_clear_19 rfl (lv_at hl 1 rfl) ?_
    refine va_get (D := D) (ci := 12) (v := .ref q7) (C := RX12) (T := TX12) (N := 82) hx hb htb bi_X12 hown hK hP 0 rfl rfl 7 (by decide) (htb _ bg_99) (fun _ h9 => h9) (md_at hm 5 rfl) dX12_clear_20 ?_
    refine lv_iload_n hx hb dX12_clear_23 rfl (lv_at hl 0 rfl) ?_
    refine lv_iconst (v := (-1)) hx hb dX12_clear_24 (by decide) ?_
    refine va_iast hx hb hK hP hD hS 6 5 rfl rfl (vp_in_nI (by omega) (by omega)) dX12_clear_25 (fun H locs hP hD hS => ?_)
    have hP : va_P D vwCl [(m0, .inr (12, fs)), (q1, .inl (a1, 66000, .inl f1)), (q2, .inl (a2, 66000, .inl f2)), (q4, .inl (a4, 24000, .inl f4)), (q5, .inl (a5, 24000, .inl f5)), (q6, .inl (a6, 24000, .inl f6)), (q7, .inl (a7, 4096, .inl (upd f7 (Int32.toNatClampNeg (nI k)) (-1))))] H := hP
    have hD : va_D A [(m0, .inr (12, fs)), (q1, .inl (a1, 66000, .inl f1)), (q2, .inl (a2, 66000, .inl f2)), (q4, .inl (a4, 24000, .inl f4)), (q5, .inl (a5, 24000, .inl f5)), (q6, .inl (a6, 24000, .inl f6)), (q7, .inl (a7, 4096, .inl (upd f7 (Int32.toNatClampNeg (nI k)) (-1))))] := hD
    refine lv_iinc (v := (nI (k + 1))) (lv' := [(1, .int (nI (k + 1))), (0, .ref m0)]) hx hb dX12_clear_26 hl (k := 0) rfl (nI_1 k) (by decide) rfl (fun ls hl => ?_)
    refine lv_goto (tgt := 12) hx hb dX12_clear_29 (by decide) ?_
    exact ih (k + 1) _ _ _ _ (by omega) (fun j hj => by rw [nI_clamp (n := k) (by omega)]; by_cases e : j = k
      · subst e; exact pk_us
      · rw [pk_un e]; exact hi j (by omega)) hP hD hS hl
