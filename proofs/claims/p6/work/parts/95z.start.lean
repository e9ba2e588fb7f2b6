/-! what holds at the law's entry (laid by wip/p2/c95.py) -/
theorem len_size {t : Term} {args : Array Value} {s : State} {a : Nat} (h : (Term.length t).eval args s none [] s = some (.int 0)) (ht : t.eval args s none [] s = some (.ref a)) : ∃ cell : Cell, s.heap[a]? = some cell ∧ cell.slots.size = 0 := by
  simp only [Term.eval, Option.bind_eq_bind] at h
  simp [ht] at h
  obtain ⟨cell, hcell, h⟩ := Option.bind_eq_some_iff.mp h
  refine ⟨cell, (State.arrayAt?_spec hcell).1, ?_⟩
  by_cases hn : cell.slots.size < 2147483648
  · rw [if_pos hn] at h
    have h2 := Value.int.inj (Option.some.inj h)
    have h3 := congrArg Int32.toInt h2
    rw [show cell.slots.size.toInt32 = Int32.ofNat cell.slots.size from rfl, Int32.toInt_ofNat_of_lt hn] at h3
    have h4 : (0 : Int32).toInt = 0 := rfl
    omega
  · rw [if_neg hn] at h
    cases h
set_option maxHeartbeats 8000000 in
set_option maxRecDepth 200000 in
theorem xe_start {s : State} {b : Nat} {A : Nat → Prop} (hA : ∀ a : Nat, a < s.heap.size → ¬ A a) (hts : ∀ w ∈ lw_tbl, w.before #[Value.ref b] s = true) (hgv : (Jvm.Cond.and given_1 narrow_1).before #[Value.ref b] s = true) : ∃ g : xe_G, xe_E g A s s.heap ∧ ∃ cell : Cell, s.heap[g.1]? = some cell ∧ cell.slots.size = 0 := by
  have n1 : (Cond.arrayOf (Term.static "ClassGate" "NO_BYTES" "[B") .byte).before #[Value.ref b] s = true := fl_at hgv (i := 5) (by decide +kernel)
  have n2 : (Cond.eq (.length (Term.static "ClassGate" "NO_BYTES" "[B")) (.int 0)).before #[Value.ref b] s = true := fl_at hgv (i := 6) (by decide +kernel)
  obtain ⟨nb, hnb, hT⟩ := va_Tof (tm := (Term.static "ClassGate" "NO_BYTES" "[B")) (ty := .byte) (N := 0) (f := fun _ => .null) (A := A) (by decide) n1 (va_eqt n2) (fun j hj => absurd hj (Nat.not_lt_zero j)) hA
  have hsz := len_size (va_eqt n2) hnb
  have hZ : va_Z "ClassGate" "NO_BYTES" "[B" (.ref nb) A s s.heap := va_Zref (hts _ (tb_1 _ (List.mem_of_getElem? (i := 36) (by decide +kernel)))) (hts _ (tb_1 _ (List.mem_of_getElem? (i := 1) (by decide +kernel)))) hnb hA
  have c1 : (Cond.eq (.static "java/lang/String" "COMPACT_STRINGS" "Z") (.int 1)).before #[Value.ref b] s = true := fl_at hgv (i := 7) (by decide +kernel)
  have hC : va_Z "java/lang/String" "COMPACT_STRINGS" "Z" (.int 1) A s s.heap := va_Zof (hts _ (tb_3 _ (List.mem_of_getElem? (i := 126) (by decide +kernel)))) (hts _ (tb_1 _ (List.mem_of_getElem? (i := 3) (by decide +kernel)))) (va_eqt c1) hA
  have s1 : (Cond.isRef (.static "jdk/internal/util/Preconditions" "SIOOBE_FORMATTER" "Ljava/util/function/BiFunction;")).before #[Value.ref b] s = true := fl_at hgv (i := 8) (by decide +kernel)
  have hF : va_Zq "jdk/internal/util/Preconditions" "SIOOBE_FORMATTER" "Ljava/util/function/BiFunction;" A s s.heap := va_Zqof (hts _ (tb_3 _ (List.mem_of_getElem? (i := 142) (by decide +kernel)))) (hts _ (tb_1 _ (List.mem_of_getElem? (i := 5) (by decide +kernel)))) s1 hA
  have tU : (Cond.isRef (.static "java/lang/Throwable" "UNASSIGNED_STACK" "[Ljava/lang/StackTraceElement;")).before #[Value.ref b] s = true := fl_at hgv (i := 12) (by decide +kernel)
  have hU : vx_Zq Bundle.tN "UNASSIGNED_STACK" Bundle.steD A s s.heap := vx_Zqof (hts _ (tb_6 _ (List.mem_of_getElem? (i := 3) (by decide +kernel)))) (hts _ (tb_1 _ (List.mem_of_getElem? (i := 7) (by decide +kernel)))) tU hA
  have tN : (Cond.isRef (.static "java/lang/Throwable" "SUPPRESSED_SENTINEL" "Ljava/util/List;")).before #[Value.ref b] s = true := fl_at hgv (i := 13) (by decide +kernel)
  have hN : vx_Zq Bundle.tN "SUPPRESSED_SENTINEL" Bundle.listD A s s.heap := vx_Zqof (hts _ (tb_6 _ (List.mem_of_getElem? (i := 5) (by decide +kernel)))) (hts _ (tb_1 _ (List.mem_of_getElem? (i := 7) (by decide +kernel)))) tN hA
  obtain ⟨a0, v0, w0⟩ := xs_0 hA hts hgv
  obtain ⟨a1, v1, w1⟩ := xs_1 hA hts hgv
  obtain ⟨a2, v2, w2⟩ := xs_2 hA hts hgv
  obtain ⟨a3, v3, w3⟩ := xs_3 hA hts hgv
  obtain ⟨a4, v4, w4⟩ := xs_4 hA hts hgv
  obtain ⟨a5, v5, w5⟩ := xs_5 hA hts hgv
  obtain ⟨a6, v6, w6⟩ := xs_6 hA hts hgv
  obtain ⟨a7, v7, w7⟩ := xs_7 hA hts hgv
  obtain ⟨a8, v8, w8⟩ := xs_8 hA hts hgv
  obtain ⟨a9, v9, w9⟩ := xs_9 hA hts hgv
  obtain ⟨a10, v10, w10⟩ := xs_10 hA hts hgv
  obtain ⟨a11, v11, w11⟩ := xs_11 hA hts hgv
  obtain ⟨a12, v12, w12⟩ := xs_12 hA hts hgv
  obtain ⟨a13, v13, w13⟩ := xs_13 hA hts hgv
  obtain ⟨a14, v14, w14⟩ := xs_14 hA hts hgv
  obtain ⟨a15, v15, w15⟩ := xs_15 hA hts hgv
  obtain ⟨a16, v16, w16⟩ := xs_16 hA hts hgv
  obtain ⟨a17, v17, w17⟩ := xs_17 hA hts hgv
  obtain ⟨a18, v18, w18⟩ := xs_18 hA hts hgv
  obtain ⟨a19, v19, w19⟩ := xs_19 hA hts hgv
  obtain ⟨a20, v20, w20⟩ := xs_20 hA hts hgv
  obtain ⟨a21, v21, w21⟩ := xs_21 hA hts hgv
  obtain ⟨a22, v22, w22⟩ := xs_22 hA hts hgv
  obtain ⟨a23, v23, w23⟩ := xs_23 hA hts hgv
  obtain ⟨a24, v24, w24⟩ := xs_24 hA hts hgv
  obtain ⟨a25, v25, w25⟩ := xs_25 hA hts hgv
  obtain ⟨a26, v26, w26⟩ := xs_26 hA hts hgv
  obtain ⟨a27, v27, w27⟩ := xs_27 hA hts hgv
  obtain ⟨a28, v28, w28⟩ := xs_28 hA hts hgv
  obtain ⟨a29, v29, w29⟩ := xs_29 hA hts hgv
  obtain ⟨a30, v30, w30⟩ := xs_30 hA hts hgv
  obtain ⟨a31, v31, w31⟩ := xs_31 hA hts hgv
  obtain ⟨a32, v32, w32⟩ := xs_32 hA hts hgv
  obtain ⟨a33, v33, w33⟩ := xs_33 hA hts hgv
  obtain ⟨a34, v34, w34⟩ := xs_34 hA hts hgv
  obtain ⟨a35, v35, w35⟩ := xs_35 hA hts hgv
  obtain ⟨a36, v36, w36⟩ := xs_36 hA hts hgv
  refine ⟨(nb, (fun k => [a0, a1, a2, a3, a4, a5, a6, a7, a8, a9, a10, a11, a12, a13, a14, a15, a16, a17, a18, a19, a20, a21, a22, a23, a24, a25, a26, a27, a28, a29, a30, a31, a32, a33, a34, a35, a36].getD k 0), (fun k => [v0, v1, v2, v3, v4, v5, v6, v7, v8, v9, v10, v11, v12, v13, v14, v15, v16, v17, v18, v19, v20, v21, v22, v23, v24, v25, v26, v27, v28, v29, v30, v31, v32, v33, v34, v35, v36].getD k 0)), ⟨hZ, hT, hC, hF, hU, hN, fun k hk => ?_, fun k hk => ?_, fun w hw => ?_, va_AO.of (hts _ (tb_1 _ (List.mem_of_getElem? (i := 120) (by decide +kernel)))), va_AO.of (hts _ (tb_6 _ (List.mem_of_getElem? (i := 166) (by decide +kernel))))⟩, hsz⟩
  · have hk : k < 37 := hk
    rcases (show k = 0 ∨ k = 1 ∨ k = 2 ∨ k = 3 ∨ k = 4 ∨ k = 5 ∨ k = 6 ∨ k = 7 ∨ k = 8 ∨ k = 9 ∨ k = 10 ∨ k = 11 ∨ k = 12 ∨ k = 13 ∨ k = 14 ∨ k = 15 ∨ k = 16 ∨ k = 17 ∨ k = 18 ∨ k = 19 ∨ k = 20 ∨ k = 21 ∨ k = 22 ∨ k = 23 ∨ k = 24 ∨ k = 25 ∨ k = 26 ∨ k = 27 ∨ k = 28 ∨ k = 29 ∨ k = 30 ∨ k = 31 ∨ k = 32 ∨ k = 33 ∨ k = 34 ∨ k = 35 ∨ k = 36 by omega) with rfl | rfl | rfl | rfl | rfl | rfl | rfl | rfl | rfl | rfl | rfl | rfl | rfl | rfl | rfl | rfl | rfl | rfl | rfl | rfl | rfl | rfl | rfl | rfl | rfl | rfl | rfl | rfl | rfl | rfl | rfl | rfl | rfl | rfl | rfl | rfl | rfl
    · exact w0.1
    · exact w1.1
    · exact w2.1
    · exact w3.1
    · exact w4.1
    · exact w5.1
    · exact w6.1
    · exact w7.1
    · exact w8.1
    · exact w9.1
    · exact w10.1
    · exact w11.1
    · exact w12.1
    · exact w13.1
    · exact w14.1
    · exact w15.1
    · exact w16.1
    · exact w17.1
    · exact w18.1
    · exact w19.1
    · exact w20.1
    · exact w21.1
    · exact w22.1
    · exact w23.1
    · exact w24.1
    · exact w25.1
    · exact w26.1
    · exact w27.1
    · exact w28.1
    · exact w29.1
    · exact w30
    · exact w31
    · exact w32
    · exact w33
    · exact w34
    · exact w35
    · exact w36
  · have hk : k < 30 := hk
    rcases (show k = 0 ∨ k = 1 ∨ k = 2 ∨ k = 3 ∨ k = 4 ∨ k = 5 ∨ k = 6 ∨ k = 7 ∨ k = 8 ∨ k = 9 ∨ k = 10 ∨ k = 11 ∨ k = 12 ∨ k = 13 ∨ k = 14 ∨ k = 15 ∨ k = 16 ∨ k = 17 ∨ k = 18 ∨ k = 19 ∨ k = 20 ∨ k = 21 ∨ k = 22 ∨ k = 23 ∨ k = 24 ∨ k = 25 ∨ k = 26 ∨ k = 27 ∨ k = 28 ∨ k = 29 by omega) with rfl | rfl | rfl | rfl | rfl | rfl | rfl | rfl | rfl | rfl | rfl | rfl | rfl | rfl | rfl | rfl | rfl | rfl | rfl | rfl | rfl | rfl | rfl | rfl | rfl | rfl | rfl | rfl | rfl | rfl
    · exact w0.2
    · exact w1.2
    · exact w2.2
    · exact w3.2
    · exact w4.2
    · exact w5.2
    · exact w6.2
    · exact w7.2
    · exact w8.2
    · exact w9.2
    · exact w10.2
    · exact w11.2
    · exact w12.2
    · exact w13.2
    · exact w14.2
    · exact w15.2
    · exact w16.2
    · exact w17.2
    · exact w18.2
    · exact w19.2
    · exact w20.2
    · exact w21.2
    · exact w22.2
    · exact w23.2
    · exact w24.2
    · exact w25.2
    · exact w26.2
    · exact w27.2
    · exact w28.2
    · exact w29.2
  · have hw2 := hw
    simp only [xe_nw, List.mem_cons, List.not_mem_nil, or_false] at hw2
    rcases hw2 with rfl | rfl | rfl | rfl
    · exact va_Nw.of (xe_on _ hw) (hts _ (tb_5 _ (List.mem_of_getElem? (i := 220) (by decide +kernel))))
    · exact va_Nw.of (xe_on _ hw) (hts _ (tb_5 _ (List.mem_of_getElem? (i := 222) (by decide +kernel))))
    · exact va_Nw.of (xe_on _ hw) (hts _ (tb_5 _ (List.mem_of_getElem? (i := 224) (by decide +kernel))))
    · exact va_Nw.of (xe_on _ hw) (hts _ (tb_6 _ (List.mem_of_getElem? (i := 70) (by decide +kernel))))
theorem iw_0 : ∀ w ∈ u_ws RX0 TX0 5, w ∈ lw_tbl := fun w h => bg_in w (bi_X0 w h)
theorem iw_1 : ∀ w ∈ u_ws RX1 TX1 1, w ∈ lw_tbl := fun w h => bg_in w (bi_X1 w h)
theorem iw_2 : ∀ w ∈ u_ws RX2 TX2 5, w ∈ lw_tbl := fun w h => bg_in w (bi_X2 w h)
theorem iw_3 : ∀ w ∈ u_ws RX3 TX3 17, w ∈ lw_tbl := fun w h => bg_in w (bi_X3 w h)
theorem iw_4 : ∀ w ∈ u_ws RX4 TX4 11, w ∈ lw_tbl := fun w h => bg_in w (bi_X4 w h)
theorem iw_5 : ∀ w ∈ u_ws RX5 TX5 12, w ∈ lw_tbl := fun w h => bg_in w (bi_X5 w h)
theorem iw_6 : ∀ w ∈ u_ws RX6 TX6 11, w ∈ lw_tbl := fun w h => bg_in w (bi_X6 w h)
theorem iw_7 : ∀ w ∈ u_ws RX7 TX7 8, w ∈ lw_tbl := fun w h => bg_in w (bi_X7 w h)
theorem iw_8 : ∀ w ∈ u_ws RX8 TX8 3, w ∈ lw_tbl := fun w h => bg_in w (bi_X8 w h)
theorem iw_9 : ∀ w ∈ u_ws RX9 TX9 5, w ∈ lw_tbl := fun w h => bg_in w (bi_X9 w h)
theorem iw_10 : ∀ w ∈ u_ws RX10 TX10 2, w ∈ lw_tbl := fun w h => bg_in w (bi_X10 w h)
theorem iw_11 : ∀ w ∈ u_ws RX11 TX11 5, w ∈ lw_tbl := fun w h => bg_in w (bi_X11 w h)
theorem iw_12 : ∀ w ∈ u_ws RX12 TX12 82, w ∈ lw_tbl := fun w h => bg_in w (bi_X12 w h)
set_option maxHeartbeats 4000000 in
set_option maxRecDepth 100000 in
theorem xe_classes {s : State} {b : Nat} (hts : ∀ w ∈ lw_tbl, w.before #[Value.ref b] s = true) : ∃ D : va_G, va_K D vwCl [] s := by
  obtain ⟨c0, i0, k0⟩ := u_known (C := RX0) (T := TX0) (N := 5) (n := 5) hts iw_0 (hts _ (tb_2 _ (List.mem_of_getElem? (i := 224) (by decide +kernel))))
  obtain ⟨c1, i1, k1⟩ := u_known (C := RX1) (T := TX1) (N := 1) (n := 1) hts iw_1 (hts _ (tb_1 _ (List.mem_of_getElem? (i := 61) (by decide +kernel))))
  obtain ⟨c2, i2, k2⟩ := u_known (C := RX2) (T := TX2) (N := 5) (n := 5) hts iw_2 (hts _ (tb_3 _ (List.mem_of_getElem? (i := 6) (by decide +kernel))))
  obtain ⟨c3, i3, k3⟩ := u_known (C := RX3) (T := TX3) (N := 17) (n := 17) hts iw_3 (hts _ (tb_1 _ (List.mem_of_getElem? (i := 59) (by decide +kernel))))
  obtain ⟨c4, i4, k4⟩ := u_known (C := RX4) (T := TX4) (N := 11) (n := 11) hts iw_4 (hts _ (tb_4 _ (List.mem_of_getElem? (i := 108) (by decide +kernel))))
  obtain ⟨c5, i5, k5⟩ := u_known (C := RX5) (T := TX5) (N := 12) (n := 12) hts iw_5 (hts _ (tb_4 _ (List.mem_of_getElem? (i := 116) (by decide +kernel))))
  obtain ⟨c6, i6, k6⟩ := u_known (C := RX6) (T := TX6) (N := 11) (n := 11) hts iw_6 (hts _ (tb_2 _ (List.mem_of_getElem? (i := 116) (by decide +kernel))))
  obtain ⟨c7, i7, k7⟩ := u_known (C := RX7) (T := TX7) (N := 8) (n := 8) hts iw_7 (hts _ (tb_1 _ (List.mem_of_getElem? (i := 75) (by decide +kernel))))
  obtain ⟨c8, i8, k8⟩ := u_known (C := RX8) (T := TX8) (N := 3) (n := 3) hts iw_8 (hts _ (tb_2 _ (List.mem_of_getElem? (i := 208) (by decide +kernel))))
  obtain ⟨c9, i9, k9⟩ := u_known (C := RX9) (T := TX9) (N := 5) (n := 5) hts iw_9 (hts _ (tb_1 _ (List.mem_of_getElem? (i := 229) (by decide +kernel))))
  obtain ⟨c10, i10, k10⟩ := u_known (C := RX10) (T := TX10) (N := 2) (n := 2) hts iw_10 (hts _ (tb_1 _ (List.mem_of_getElem? (i := 211) (by decide +kernel))))
  obtain ⟨c11, i11, k11⟩ := u_known (C := RX11) (T := TX11) (N := 5) (n := 5) hts iw_11 (hts _ (tb_1 _ (List.mem_of_getElem? (i := 28) (by decide +kernel))))
  obtain ⟨c12, i12, k12⟩ := u_known (C := RX12) (T := TX12) (N := 82) (n := 82) hts iw_12 (hts _ (tb_6 _ (List.mem_of_getElem? (i := 156) (by decide +kernel))))
  refine ⟨(fun k => match k with | 0 => c0 | 1 => c1 | 2 => c2 | 3 => c3 | 4 => c4 | 5 => c5 | 6 => c6 | 7 => c7 | 8 => c8 | 9 => c9 | 10 => c10 | 11 => c11 | _ => c12, fun k => match k with | 0 => i0 | 1 => i1 | 2 => i2 | 3 => i3 | 4 => i4 | 5 => i5 | 6 => i6 | 7 => i7 | 8 => i8 | 9 => i9 | 10 => i10 | 11 => i11 | _ => i12), ?_, fun k q h => by simp at h⟩
  intro k q hq
  match k, hq with
  | 0, hq => cases hq; exact k0
  | 1, hq => cases hq; exact k1
  | 2, hq => cases hq; exact k2
  | 3, hq => cases hq; exact k3
  | 4, hq => cases hq; exact k4
  | 5, hq => cases hq; exact k5
  | 6, hq => cases hq; exact k6
  | 7, hq => cases hq; exact k7
  | 8, hq => cases hq; exact k8
  | 9, hq => cases hq; exact k9
  | 10, hq => cases hq; exact k10
  | 11, hq => cases hq; exact k11
  | 12, hq => cases hq; exact k12
  | k + 13, hq => simp [vwCl] at hq
