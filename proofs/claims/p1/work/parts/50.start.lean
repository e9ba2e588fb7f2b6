set_option maxHeartbeats 8000000 in
set_option maxRecDepth 200000 in
theorem xe_start {s : State} {b : Nat} {A : Nat → Prop} (hAe : A = fun q : Nat => s.heap.size ≤ q) (hts : ∀ w ∈ lw_tbl, w.before #[Value.ref b] s = true) (hgv : (Jvm.Cond.and given_1 narrow_1).before #[Value.ref b] s = true) : ∃ g : xe_G, xe_E g A s s.heap := by
  have hs := flat_of_before _ hgv
  have hA : ∀ a : Nat, a < s.heap.size → ¬ A a := by intro a h; rw [hAe]; exact Nat.not_le.mpr h
  have n1 : (Cond.arrayOf (Term.static "ClassGate" "NO_BYTES" "[B") .byte).before #[Value.ref b] s = true := hs _ (by decide +kernel)
  have n2 : (Cond.eq (.length (Term.static "ClassGate" "NO_BYTES" "[B")) (.int 0)).before #[Value.ref b] s = true := hs _ (by decide +kernel)
  obtain ⟨nb, hnb, hT⟩ := va_Tof (tm := (Term.static "ClassGate" "NO_BYTES" "[B")) (ty := .byte) (N := 0) (f := fun _ => .null) (A := A) (by decide) n1 (va_eqt n2) (fun j hj => absurd hj (Nat.not_lt_zero j)) hA
  have hZ : va_Z "ClassGate" "NO_BYTES" "[B" (.ref nb) A s s.heap := va_Zref (hts _ (tb_1 _ (List.mem_of_getElem? (i := 36) (by decide +kernel)))) (hts _ (tb_1 _ (List.mem_of_getElem? (i := 1) (by decide +kernel)))) hnb hA
  have c1 : (Cond.eq (.static "java/lang/String" "COMPACT_STRINGS" "Z") (.int 1)).before #[Value.ref b] s = true := hs _ (by decide +kernel)
  have hC : va_Z "java/lang/String" "COMPACT_STRINGS" "Z" (.int 1) A s s.heap := va_Zof (hts _ (tb_3 _ (List.mem_of_getElem? (i := 126) (by decide +kernel)))) (hts _ (tb_1 _ (List.mem_of_getElem? (i := 3) (by decide +kernel)))) (va_eqt c1) hA
  have s1 : (Cond.isRef (.static "jdk/internal/util/Preconditions" "SIOOBE_FORMATTER" "Ljava/util/function/BiFunction;")).before #[Value.ref b] s = true := hs _ (by decide +kernel)
  have hF : va_Zq "jdk/internal/util/Preconditions" "SIOOBE_FORMATTER" "Ljava/util/function/BiFunction;" A s s.heap := va_Zqof (hts _ (tb_3 _ (List.mem_of_getElem? (i := 142) (by decide +kernel)))) (hts _ (tb_1 _ (List.mem_of_getElem? (i := 5) (by decide +kernel)))) s1 hA
  have tU : (Cond.isRef (.static "java/lang/Throwable" "UNASSIGNED_STACK" "[Ljava/lang/StackTraceElement;")).before #[Value.ref b] s = true := hs _ (by decide +kernel)
  have hU : vx_Zq Bundle.tN "UNASSIGNED_STACK" Bundle.steD A s s.heap := vx_Zqof (hts _ (tb_6 _ (List.mem_of_getElem? (i := 3) (by decide +kernel)))) (hts _ (tb_1 _ (List.mem_of_getElem? (i := 7) (by decide +kernel)))) tU hA
  have tN : (Cond.isRef (.static "java/lang/Throwable" "SUPPRESSED_SENTINEL" "Ljava/util/List;")).before #[Value.ref b] s = true := hs _ (by decide +kernel)
  have hN : vx_Zq Bundle.tN "SUPPRESSED_SENTINEL" Bundle.listD A s s.heap := vx_Zqof (hts _ (tb_6 _ (List.mem_of_getElem? (i := 5) (by decide +kernel)))) (hts _ (tb_1 _ (List.mem_of_getElem? (i := 7) (by decide +kernel)))) tN hA
  have e0 : (Cond.exactly (Term.string "ClassGateModel" 178) "java/lang/String").before #[Value.ref b] s = true := hs _ (by decide +kernel)
  obtain ⟨a0, -, -, -, z0, -⟩ := Cond.exactly_spec (args := #[Value.ref b]) (first := s) (o := none) (s := s) (idx := []) (t := (Term.string "ClassGateModel" 178)) (cls := "java/lang/String") e0
  have r0 : vk_R "ClassGateModel" 178 "<init>" a0 s := vk_R.of (hts _ (tb_6 _ (List.mem_of_getElem? (i := 181) (by decide +kernel)))) z0
  have o0 : va_O "java/lang/String" a0 A s s.heap := va_Oof e0 z0 hA
  have p0 : (Cond.eq (.field (Term.string "ClassGateModel" 178) "java/lang/String" "coder" "B") (.int 0)).before #[Value.ref b] s = true := hs _ (by decide +kernel)
  have q0 : (Cond.arrayOf (Term.field (Term.string "ClassGateModel" 178) "java/lang/String" "value" "[B") .byte).before #[Value.ref b] s = true := hs _ (by decide +kernel)
  have l0 : (Cond.eq (.length (Term.field (Term.string "ClassGateModel" 178) "java/lang/String" "value" "[B")) (.int 6)).before #[Value.ref b] s = true := hs _ (by decide +kernel)
  have w0_0 : (Cond.eq (.elem (Term.field (Term.string "ClassGateModel" 178) "java/lang/String" "value" "[B") (.int 0)) (.int 60)).before #[Value.ref b] s = true := hs _ (by decide +kernel)
  have w0_1 : (Cond.eq (.elem (Term.field (Term.string "ClassGateModel" 178) "java/lang/String" "value" "[B") (.int 1)) (.int 105)).before #[Value.ref b] s = true := hs _ (by decide +kernel)
  have w0_2 : (Cond.eq (.elem (Term.field (Term.string "ClassGateModel" 178) "java/lang/String" "value" "[B") (.int 2)) (.int 110)).before #[Value.ref b] s = true := hs _ (by decide +kernel)
  have w0_3 : (Cond.eq (.elem (Term.field (Term.string "ClassGateModel" 178) "java/lang/String" "value" "[B") (.int 3)) (.int 105)).before #[Value.ref b] s = true := hs _ (by decide +kernel)
  have w0_4 : (Cond.eq (.elem (Term.field (Term.string "ClassGateModel" 178) "java/lang/String" "value" "[B") (.int 4)) (.int 116)).before #[Value.ref b] s = true := hs _ (by decide +kernel)
  have w0_5 : (Cond.eq (.elem (Term.field (Term.string "ClassGateModel" 178) "java/lang/String" "value" "[B") (.int 5)) (.int 62)).before #[Value.ref b] s = true := hs _ (by decide +kernel)
  obtain ⟨v0, y0, T0⟩ := va_Tof (tm := (Term.field (Term.string "ClassGateModel" 178) "java/lang/String" "value" "[B")) (ty := .byte) (N := 6) (f := fun j => .int ((xe_lt 0).2.2.2.getD j 0)) (A := A) (by decide) q0 (va_eqt l0) (fun j hj => by
    rcases (show j = 0 ∨ j = 1 ∨ j = 2 ∨ j = 3 ∨ j = 4 ∨ j = 5 by omega) with rfl | rfl | rfl | rfl | rfl | rfl
    · exact va_eqt w0_0
    · exact va_eqt w0_1
    · exact va_eqt w0_2
    · exact va_eqt w0_3
    · exact va_eqt w0_4
    · exact va_eqt w0_5
    ) hA
  have e1 : (Cond.exactly (Term.string "ClassGateModel" 186) "java/lang/String").before #[Value.ref b] s = true := hs _ (by decide +kernel)
  obtain ⟨a1, -, -, -, z1, -⟩ := Cond.exactly_spec (args := #[Value.ref b]) (first := s) (o := none) (s := s) (idx := []) (t := (Term.string "ClassGateModel" 186)) (cls := "java/lang/String") e1
  have r1 : vk_R "ClassGateModel" 186 "<clinit>" a1 s := vk_R.of (hts _ (tb_6 _ (List.mem_of_getElem? (i := 192) (by decide +kernel)))) z1
  have o1 : va_O "java/lang/String" a1 A s s.heap := va_Oof e1 z1 hA
  have p1 : (Cond.eq (.field (Term.string "ClassGateModel" 186) "java/lang/String" "coder" "B") (.int 0)).before #[Value.ref b] s = true := hs _ (by decide +kernel)
  have q1 : (Cond.arrayOf (Term.field (Term.string "ClassGateModel" 186) "java/lang/String" "value" "[B") .byte).before #[Value.ref b] s = true := hs _ (by decide +kernel)
  have l1 : (Cond.eq (.length (Term.field (Term.string "ClassGateModel" 186) "java/lang/String" "value" "[B")) (.int 8)).before #[Value.ref b] s = true := hs _ (by decide +kernel)
  have w1_0 : (Cond.eq (.elem (Term.field (Term.string "ClassGateModel" 186) "java/lang/String" "value" "[B") (.int 0)) (.int 60)).before #[Value.ref b] s = true := hs _ (by decide +kernel)
  have w1_1 : (Cond.eq (.elem (Term.field (Term.string "ClassGateModel" 186) "java/lang/String" "value" "[B") (.int 1)) (.int 99)).before #[Value.ref b] s = true := hs _ (by decide +kernel)
  have w1_2 : (Cond.eq (.elem (Term.field (Term.string "ClassGateModel" 186) "java/lang/String" "value" "[B") (.int 2)) (.int 108)).before #[Value.ref b] s = true := hs _ (by decide +kernel)
  have w1_3 : (Cond.eq (.elem (Term.field (Term.string "ClassGateModel" 186) "java/lang/String" "value" "[B") (.int 3)) (.int 105)).before #[Value.ref b] s = true := hs _ (by decide +kernel)
  have w1_4 : (Cond.eq (.elem (Term.field (Term.string "ClassGateModel" 186) "java/lang/String" "value" "[B") (.int 4)) (.int 110)).before #[Value.ref b] s = true := hs _ (by decide +kernel)
  have w1_5 : (Cond.eq (.elem (Term.field (Term.string "ClassGateModel" 186) "java/lang/String" "value" "[B") (.int 5)) (.int 105)).before #[Value.ref b] s = true := hs _ (by decide +kernel)
  have w1_6 : (Cond.eq (.elem (Term.field (Term.string "ClassGateModel" 186) "java/lang/String" "value" "[B") (.int 6)) (.int 116)).before #[Value.ref b] s = true := hs _ (by decide +kernel)
  have w1_7 : (Cond.eq (.elem (Term.field (Term.string "ClassGateModel" 186) "java/lang/String" "value" "[B") (.int 7)) (.int 62)).before #[Value.ref b] s = true := hs _ (by decide +kernel)
  obtain ⟨v1, y1, T1⟩ := va_Tof (tm := (Term.field (Term.string "ClassGateModel" 186) "java/lang/String" "value" "[B")) (ty := .byte) (N := 8) (f := fun j => .int ((xe_lt 1).2.2.2.getD j 0)) (A := A) (by decide) q1 (va_eqt l1) (fun j hj => by
    rcases (show j = 0 ∨ j = 1 ∨ j = 2 ∨ j = 3 ∨ j = 4 ∨ j = 5 ∨ j = 6 ∨ j = 7 by omega) with rfl | rfl | rfl | rfl | rfl | rfl | rfl | rfl
    · exact va_eqt w1_0
    · exact va_eqt w1_1
    · exact va_eqt w1_2
    · exact va_eqt w1_3
    · exact va_eqt w1_4
    · exact va_eqt w1_5
    · exact va_eqt w1_6
    · exact va_eqt w1_7
    ) hA
  have e2 : (Cond.exactly (Term.string "ClassGateModel" 191) "java/lang/String").before #[Value.ref b] s = true := hs _ (by decide +kernel)
  obtain ⟨a2, -, -, -, z2, -⟩ := Cond.exactly_spec (args := #[Value.ref b]) (first := s) (o := none) (s := s) (idx := []) (t := (Term.string "ClassGateModel" 191)) (cls := "java/lang/String") e2
  have r2 : vk_R "ClassGateModel" 191 "java/lang/Object" a2 s := vk_R.of (hts _ (tb_6 _ (List.mem_of_getElem? (i := 193) (by decide +kernel)))) z2
  have o2 : va_O "java/lang/String" a2 A s s.heap := va_Oof e2 z2 hA
  have p2 : (Cond.eq (.field (Term.string "ClassGateModel" 191) "java/lang/String" "coder" "B") (.int 0)).before #[Value.ref b] s = true := hs _ (by decide +kernel)
  have q2 : (Cond.arrayOf (Term.field (Term.string "ClassGateModel" 191) "java/lang/String" "value" "[B") .byte).before #[Value.ref b] s = true := hs _ (by decide +kernel)
  have l2 : (Cond.eq (.length (Term.field (Term.string "ClassGateModel" 191) "java/lang/String" "value" "[B")) (.int 16)).before #[Value.ref b] s = true := hs _ (by decide +kernel)
  have w2_0 : (Cond.eq (.elem (Term.field (Term.string "ClassGateModel" 191) "java/lang/String" "value" "[B") (.int 0)) (.int 106)).before #[Value.ref b] s = true := hs _ (by decide +kernel)
  have w2_1 : (Cond.eq (.elem (Term.field (Term.string "ClassGateModel" 191) "java/lang/String" "value" "[B") (.int 1)) (.int 97)).before #[Value.ref b] s = true := hs _ (by decide +kernel)
  have w2_2 : (Cond.eq (.elem (Term.field (Term.string "ClassGateModel" 191) "java/lang/String" "value" "[B") (.int 2)) (.int 118)).before #[Value.ref b] s = true := hs _ (by decide +kernel)
  have w2_3 : (Cond.eq (.elem (Term.field (Term.string "ClassGateModel" 191) "java/lang/String" "value" "[B") (.int 3)) (.int 97)).before #[Value.ref b] s = true := hs _ (by decide +kernel)
  have w2_4 : (Cond.eq (.elem (Term.field (Term.string "ClassGateModel" 191) "java/lang/String" "value" "[B") (.int 4)) (.int 47)).before #[Value.ref b] s = true := hs _ (by decide +kernel)
  have w2_5 : (Cond.eq (.elem (Term.field (Term.string "ClassGateModel" 191) "java/lang/String" "value" "[B") (.int 5)) (.int 108)).before #[Value.ref b] s = true := hs _ (by decide +kernel)
  have w2_6 : (Cond.eq (.elem (Term.field (Term.string "ClassGateModel" 191) "java/lang/String" "value" "[B") (.int 6)) (.int 97)).before #[Value.ref b] s = true := hs _ (by decide +kernel)
  have w2_7 : (Cond.eq (.elem (Term.field (Term.string "ClassGateModel" 191) "java/lang/String" "value" "[B") (.int 7)) (.int 110)).before #[Value.ref b] s = true := hs _ (by decide +kernel)
  have w2_8 : (Cond.eq (.elem (Term.field (Term.string "ClassGateModel" 191) "java/lang/String" "value" "[B") (.int 8)) (.int 103)).before #[Value.ref b] s = true := hs _ (by decide +kernel)
  have w2_9 : (Cond.eq (.elem (Term.field (Term.string "ClassGateModel" 191) "java/lang/String" "value" "[B") (.int 9)) (.int 47)).before #[Value.ref b] s = true := hs _ (by decide +kernel)
  have w2_10 : (Cond.eq (.elem (Term.field (Term.string "ClassGateModel" 191) "java/lang/String" "value" "[B") (.int 10)) (.int 79)).before #[Value.ref b] s = true := hs _ (by decide +kernel)
  have w2_11 : (Cond.eq (.elem (Term.field (Term.string "ClassGateModel" 191) "java/lang/String" "value" "[B") (.int 11)) (.int 98)).before #[Value.ref b] s = true := hs _ (by decide +kernel)
  have w2_12 : (Cond.eq (.elem (Term.field (Term.string "ClassGateModel" 191) "java/lang/String" "value" "[B") (.int 12)) (.int 106)).before #[Value.ref b] s = true := hs _ (by decide +kernel)
  have w2_13 : (Cond.eq (.elem (Term.field (Term.string "ClassGateModel" 191) "java/lang/String" "value" "[B") (.int 13)) (.int 101)).before #[Value.ref b] s = true := hs _ (by decide +kernel)
  have w2_14 : (Cond.eq (.elem (Term.field (Term.string "ClassGateModel" 191) "java/lang/String" "value" "[B") (.int 14)) (.int 99)).before #[Value.ref b] s = true := hs _ (by decide +kernel)
  have w2_15 : (Cond.eq (.elem (Term.field (Term.string "ClassGateModel" 191) "java/lang/String" "value" "[B") (.int 15)) (.int 116)).before #[Value.ref b] s = true := hs _ (by decide +kernel)
  obtain ⟨v2, y2, T2⟩ := va_Tof (tm := (Term.field (Term.string "ClassGateModel" 191) "java/lang/String" "value" "[B")) (ty := .byte) (N := 16) (f := fun j => .int ((xe_lt 2).2.2.2.getD j 0)) (A := A) (by decide) q2 (va_eqt l2) (fun j hj => by
    rcases (show j = 0 ∨ j = 1 ∨ j = 2 ∨ j = 3 ∨ j = 4 ∨ j = 5 ∨ j = 6 ∨ j = 7 ∨ j = 8 ∨ j = 9 ∨ j = 10 ∨ j = 11 ∨ j = 12 ∨ j = 13 ∨ j = 14 ∨ j = 15 by omega) with rfl | rfl | rfl | rfl | rfl | rfl | rfl | rfl | rfl | rfl | rfl | rfl | rfl | rfl | rfl | rfl
    · exact va_eqt w2_0
    · exact va_eqt w2_1
    · exact va_eqt w2_2
    · exact va_eqt w2_3
    · exact va_eqt w2_4
    · exact va_eqt w2_5
    · exact va_eqt w2_6
    · exact va_eqt w2_7
    · exact va_eqt w2_8
    · exact va_eqt w2_9
    · exact va_eqt w2_10
    · exact va_eqt w2_11
    · exact va_eqt w2_12
    · exact va_eqt w2_13
    · exact va_eqt w2_14
    · exact va_eqt w2_15
    ) hA
  have e3 : (Cond.exactly (Term.string "ClassGateModel" 127) "java/lang/String").before #[Value.ref b] s = true := hs _ (by decide +kernel)
  obtain ⟨a3, -, -, -, z3, -⟩ := Cond.exactly_spec (args := #[Value.ref b]) (first := s) (o := none) (s := s) (idx := []) (t := (Term.string "ClassGateModel" 127)) (cls := "java/lang/String") e3
  have r3 : vk_R "ClassGateModel" 127 "ConstantValue" a3 s := vk_R.of (hts _ (tb_6 _ (List.mem_of_getElem? (i := 167) (by decide +kernel)))) z3
  have o3 : va_O "java/lang/String" a3 A s s.heap := va_Oof e3 z3 hA
  have e4 : (Cond.exactly (Term.string "ClassGateModel" 129) "java/lang/String").before #[Value.ref b] s = true := hs _ (by decide +kernel)
  obtain ⟨a4, -, -, -, z4, -⟩ := Cond.exactly_spec (args := #[Value.ref b]) (first := s) (o := none) (s := s) (idx := []) (t := (Term.string "ClassGateModel" 129)) (cls := "java/lang/String") e4
  have r4 : vk_R "ClassGateModel" 129 "Code" a4 s := vk_R.of (hts _ (tb_6 _ (List.mem_of_getElem? (i := 168) (by decide +kernel)))) z4
  have o4 : va_O "java/lang/String" a4 A s s.heap := va_Oof e4 z4 hA
  have e5 : (Cond.exactly (Term.string "ClassGateModel" 131) "java/lang/String").before #[Value.ref b] s = true := hs _ (by decide +kernel)
  obtain ⟨a5, -, -, -, z5, -⟩ := Cond.exactly_spec (args := #[Value.ref b]) (first := s) (o := none) (s := s) (idx := []) (t := (Term.string "ClassGateModel" 131)) (cls := "java/lang/String") e5
  have r5 : vk_R "ClassGateModel" 131 "Exceptions" a5 s := vk_R.of (hts _ (tb_6 _ (List.mem_of_getElem? (i := 169) (by decide +kernel)))) z5
  have o5 : va_O "java/lang/String" a5 A s s.heap := va_Oof e5 z5 hA
  have e6 : (Cond.exactly (Term.string "ClassGateModel" 133) "java/lang/String").before #[Value.ref b] s = true := hs _ (by decide +kernel)
  obtain ⟨a6, -, -, -, z6, -⟩ := Cond.exactly_spec (args := #[Value.ref b]) (first := s) (o := none) (s := s) (idx := []) (t := (Term.string "ClassGateModel" 133)) (cls := "java/lang/String") e6
  have r6 : vk_R "ClassGateModel" 133 "StackMapTable" a6 s := vk_R.of (hts _ (tb_6 _ (List.mem_of_getElem? (i := 170) (by decide +kernel)))) z6
  have o6 : va_O "java/lang/String" a6 A s s.heap := va_Oof e6 z6 hA
  have e7 : (Cond.exactly (Term.string "ClassGateModel" 135) "java/lang/String").before #[Value.ref b] s = true := hs _ (by decide +kernel)
  obtain ⟨a7, -, -, -, z7, -⟩ := Cond.exactly_spec (args := #[Value.ref b]) (first := s) (o := none) (s := s) (idx := []) (t := (Term.string "ClassGateModel" 135)) (cls := "java/lang/String") e7
  have r7 : vk_R "ClassGateModel" 135 "InnerClasses" a7 s := vk_R.of (hts _ (tb_6 _ (List.mem_of_getElem? (i := 171) (by decide +kernel)))) z7
  have o7 : va_O "java/lang/String" a7 A s s.heap := va_Oof e7 z7 hA
  have e8 : (Cond.exactly (Term.string "ClassGateModel" 137) "java/lang/String").before #[Value.ref b] s = true := hs _ (by decide +kernel)
  obtain ⟨a8, -, -, -, z8, -⟩ := Cond.exactly_spec (args := #[Value.ref b]) (first := s) (o := none) (s := s) (idx := []) (t := (Term.string "ClassGateModel" 137)) (cls := "java/lang/String") e8
  have r8 : vk_R "ClassGateModel" 137 "BootstrapMethods" a8 s := vk_R.of (hts _ (tb_6 _ (List.mem_of_getElem? (i := 172) (by decide +kernel)))) z8
  have o8 : va_O "java/lang/String" a8 A s s.heap := va_Oof e8 z8 hA
  have e9 : (Cond.exactly (Term.string "ClassGateModel" 139) "java/lang/String").before #[Value.ref b] s = true := hs _ (by decide +kernel)
  obtain ⟨a9, -, -, -, z9, -⟩ := Cond.exactly_spec (args := #[Value.ref b]) (first := s) (o := none) (s := s) (idx := []) (t := (Term.string "ClassGateModel" 139)) (cls := "java/lang/String") e9
  have r9 : vk_R "ClassGateModel" 139 "NestHost" a9 s := vk_R.of (hts _ (tb_6 _ (List.mem_of_getElem? (i := 173) (by decide +kernel)))) z9
  have o9 : va_O "java/lang/String" a9 A s s.heap := va_Oof e9 z9 hA
  have e10 : (Cond.exactly (Term.string "ClassGateModel" 141) "java/lang/String").before #[Value.ref b] s = true := hs _ (by decide +kernel)
  obtain ⟨a10, -, -, -, z10, -⟩ := Cond.exactly_spec (args := #[Value.ref b]) (first := s) (o := none) (s := s) (idx := []) (t := (Term.string "ClassGateModel" 141)) (cls := "java/lang/String") e10
  have r10 : vk_R "ClassGateModel" 141 "NestMembers" a10 s := vk_R.of (hts _ (tb_6 _ (List.mem_of_getElem? (i := 174) (by decide +kernel)))) z10
  have o10 : va_O "java/lang/String" a10 A s s.heap := va_Oof e10 z10 hA
  have e11 : (Cond.exactly (Term.string "ClassGateModel" 143) "java/lang/String").before #[Value.ref b] s = true := hs _ (by decide +kernel)
  obtain ⟨a11, -, -, -, z11, -⟩ := Cond.exactly_spec (args := #[Value.ref b]) (first := s) (o := none) (s := s) (idx := []) (t := (Term.string "ClassGateModel" 143)) (cls := "java/lang/String") e11
  have r11 : vk_R "ClassGateModel" 143 "Record" a11 s := vk_R.of (hts _ (tb_6 _ (List.mem_of_getElem? (i := 175) (by decide +kernel)))) z11
  have o11 : va_O "java/lang/String" a11 A s s.heap := va_Oof e11 z11 hA
  have e12 : (Cond.exactly (Term.string "ClassGateModel" 145) "java/lang/String").before #[Value.ref b] s = true := hs _ (by decide +kernel)
  obtain ⟨a12, -, -, -, z12, -⟩ := Cond.exactly_spec (args := #[Value.ref b]) (first := s) (o := none) (s := s) (idx := []) (t := (Term.string "ClassGateModel" 145)) (cls := "java/lang/String") e12
  have r12 : vk_R "ClassGateModel" 145 "PermittedSubclasses" a12 s := vk_R.of (hts _ (tb_6 _ (List.mem_of_getElem? (i := 176) (by decide +kernel)))) z12
  have o12 : va_O "java/lang/String" a12 A s s.heap := va_Oof e12 z12 hA
  have e13 : (Cond.exactly (Term.string "ClassGate" 46) "java/lang/String").before #[Value.ref b] s = true := hs _ (by decide +kernel)
  obtain ⟨a13, -, -, -, z13, -⟩ := Cond.exactly_spec (args := #[Value.ref b]) (first := s) (o := none) (s := s) (idx := []) (t := (Term.string "ClassGate" 46)) (cls := "java/lang/String") e13
  have r13 : vk_R "ClassGate" 46 "not so many bytes have come" a13 s := vk_R.of (hts _ (tb_6 _ (List.mem_of_getElem? (i := 77) (by decide +kernel)))) z13
  have o13 : va_O "java/lang/String" a13 A s s.heap := va_Oof e13 z13 hA
  have e14 : (Cond.exactly (Term.string "ClassGate" 148) "java/lang/String").before #[Value.ref b] s = true := hs _ (by decide +kernel)
  obtain ⟨a14, -, -, -, z14, -⟩ := Cond.exactly_spec (args := #[Value.ref b]) (first := s) (o := none) (s := s) (idx := []) (t := (Term.string "ClassGate" 148)) (cls := "java/lang/String") e14
  have r14 : vk_R "ClassGate" 148 "no such count" a14 s := vk_R.of (hts _ (tb_6 _ (List.mem_of_getElem? (i := 91) (by decide +kernel)))) z14
  have o14 : va_O "java/lang/String" a14 A s s.heap := va_Oof e14 z14 hA
  have e15 : (Cond.exactly (Term.string "ClassGate" 154) "java/lang/String").before #[Value.ref b] s = true := hs _ (by decide +kernel)
  obtain ⟨a15, -, -, -, z15, -⟩ := Cond.exactly_spec (args := #[Value.ref b]) (first := s) (o := none) (s := s) (idx := []) (t := (Term.string "ClassGate" 154)) (cls := "java/lang/String") e15
  have r15 : vk_R "ClassGate" 154 "no such part" a15 s := vk_R.of (hts _ (tb_6 _ (List.mem_of_getElem? (i := 107) (by decide +kernel)))) z15
  have o15 : va_O "java/lang/String" a15 A s s.heap := va_Oof e15 z15 hA
  have e16 : (Cond.exactly (Term.string "ClassGate" 187) "java/lang/String").before #[Value.ref b] s = true := hs _ (by decide +kernel)
  obtain ⟨a16, -, -, -, z16, -⟩ := Cond.exactly_spec (args := #[Value.ref b]) (first := s) (o := none) (s := s) (idx := []) (t := (Term.string "ClassGate" 187)) (cls := "java/lang/String") e16
  have r16 : vk_R "ClassGate" 187 "no such thing of a member" a16 s := vk_R.of (hts _ (tb_6 _ (List.mem_of_getElem? (i := 117) (by decide +kernel)))) z16
  have o16 : va_O "java/lang/String" a16 A s s.heap := va_Oof e16 z16 hA
  have e17 : (Cond.exactly (Term.string "ClassGate" 209) "java/lang/String").before #[Value.ref b] s = true := hs _ (by decide +kernel)
  obtain ⟨a17, -, -, -, z17, -⟩ := Cond.exactly_spec (args := #[Value.ref b]) (first := s) (o := none) (s := s) (idx := []) (t := (Term.string "ClassGate" 209)) (cls := "java/lang/String") e17
  have r17 : vk_R "ClassGate" 209 "no such column" a17 s := vk_R.of (hts _ (tb_6 _ (List.mem_of_getElem? (i := 133) (by decide +kernel)))) z17
  have o17 : va_O "java/lang/String" a17 A s s.heap := va_Oof e17 z17 hA
  have e18 : (Cond.exactly (Term.string "ClassGate" 237) "java/lang/String").before #[Value.ref b] s = true := hs _ (by decide +kernel)
  obtain ⟨a18, -, -, -, z18, -⟩ := Cond.exactly_spec (args := #[Value.ref b]) (first := s) (o := none) (s := s) (idx := []) (t := (Term.string "ClassGate" 237)) (cls := "java/lang/String") e18
  have r18 : vk_R "ClassGate" 237 "no such thing of an instruction" a18 s := vk_R.of (hts _ (tb_6 _ (List.mem_of_getElem? (i := 142) (by decide +kernel)))) z18
  have o18 : va_O "java/lang/String" a18 A s s.heap := va_Oof e18 z18 hA
  refine ⟨(nb, (fun k => [a0, a1, a2, a3, a4, a5, a6, a7, a8, a9, a10, a11, a12, a13, a14, a15, a16, a17, a18].getD k 0), (fun k => [v0, v1, v2].getD k 0)), hZ, hT, hC, hF, hU, hN, fun k hk => ?_, fun k hk => ?_, fun w hw => ?_, va_AO.of (hts _ (tb_1 _ (List.mem_of_getElem? (i := 120) (by decide +kernel)))), va_AO.of (hts _ (tb_6 _ (List.mem_of_getElem? (i := 166) (by decide +kernel))))⟩
  · rcases (show k = 0 ∨ k = 1 ∨ k = 2 ∨ k = 3 ∨ k = 4 ∨ k = 5 ∨ k = 6 ∨ k = 7 ∨ k = 8 ∨ k = 9 ∨ k = 10 ∨ k = 11 ∨ k = 12 ∨ k = 13 ∨ k = 14 ∨ k = 15 ∨ k = 16 ∨ k = 17 ∨ k = 18 by omega) with rfl | rfl | rfl | rfl | rfl | rfl | rfl | rfl | rfl | rfl | rfl | rfl | rfl | rfl | rfl | rfl | rfl | rfl | rfl
    · exact ⟨r0, o0⟩
    · exact ⟨r1, o1⟩
    · exact ⟨r2, o2⟩
    · exact ⟨r3, o3⟩
    · exact ⟨r4, o4⟩
    · exact ⟨r5, o5⟩
    · exact ⟨r6, o6⟩
    · exact ⟨r7, o7⟩
    · exact ⟨r8, o8⟩
    · exact ⟨r9, o9⟩
    · exact ⟨r10, o10⟩
    · exact ⟨r11, o11⟩
    · exact ⟨r12, o12⟩
    · exact ⟨r13, o13⟩
    · exact ⟨r14, o14⟩
    · exact ⟨r15, o15⟩
    · exact ⟨r16, o16⟩
    · exact ⟨r17, o17⟩
    · exact ⟨r18, o18⟩
  · rcases (show k = 0 ∨ k = 1 ∨ k = 2 by omega) with rfl | rfl | rfl
    · exact ⟨vk_OFof z0 (va_eqt p0) hA, vk_OFof z0 y0 hA, T0⟩
    · exact ⟨vk_OFof z1 (va_eqt p1) hA, vk_OFof z1 y1 hA, T1⟩
    · exact ⟨vk_OFof z2 (va_eqt p2) hA, vk_OFof z2 y2 hA, T2⟩
  · have hw2 := hw
    simp only [xe_nw, List.mem_cons, List.not_mem_nil, or_false] at hw2
    rcases hw2 with rfl | rfl | rfl | rfl
    · exact va_Nw.of (xe_on _ hw) (hts _ (tb_5 _ (List.mem_of_getElem? (i := 220) (by decide +kernel))))
    · exact va_Nw.of (xe_on _ hw) (hts _ (tb_5 _ (List.mem_of_getElem? (i := 222) (by decide +kernel))))
    · exact va_Nw.of (xe_on _ hw) (hts _ (tb_5 _ (List.mem_of_getElem? (i := 224) (by decide +kernel))))
    · exact va_Nw.of (xe_on _ hw) (hts _ (tb_6 _ (List.mem_of_getElem? (i := 70) (by decide +kernel))))
theorem iw_0 : ∀ w ∈ u_ws RX0 TX0 5, w ∈ lw_tbl := by
  have e : u_ws RX0 TX0 5 = [Cond.laysFinal "ClassGate$AttributeCheck" "ClassGate$AttributeCheck" "file" "LClassGate$ClassFile;", Cond.laysFinal "ClassGate$AttributeCheck" "ClassGate$AttributeCheck" "bytes" "LClassGate$Bytes;", Cond.laysFinal "ClassGate$AttributeCheck" "ClassGate$AttributeCheck" "pool" "LClassGate$Pool;", Cond.laysFinal "ClassGate$AttributeCheck" "ClassGate$AttributeCheck" "verdict" "LClassGate$Verdict;", Cond.lays "ClassGate$AttributeCheck" "ClassGate$AttributeCheck" "seen" "I"] := by decide +kernel
  rw [e]
  exact List.forall_mem_cons.mpr ⟨tb_2 _ (List.mem_of_getElem? (i := 234) (by decide +kernel)), List.forall_mem_cons.mpr ⟨tb_2 _ (List.mem_of_getElem? (i := 236) (by decide +kernel)), List.forall_mem_cons.mpr ⟨tb_2 _ (List.mem_of_getElem? (i := 238) (by decide +kernel)), List.forall_mem_cons.mpr ⟨tb_3 _ (List.mem_of_getElem? (i := 0) (by decide +kernel)), List.forall_mem_cons.mpr ⟨tb_3 _ (List.mem_of_getElem? (i := 2) (by decide +kernel)), fun _ h => absurd h List.not_mem_nil⟩⟩⟩⟩⟩
theorem iw_1 : ∀ w ∈ u_ws RX1 TX1 1, w ∈ lw_tbl := fun w h => bg_in w (bi_X1 w h)
theorem iw_2 : ∀ w ∈ u_ws RX2 TX2 5, w ∈ lw_tbl := by
  have e : u_ws RX2 TX2 5 = [Cond.laysFinal "ClassGate$ClassCheck" "ClassGate$ClassCheck" "file" "LClassGate$ClassFile;", Cond.laysFinal "ClassGate$ClassCheck" "ClassGate$ClassCheck" "bytes" "LClassGate$Bytes;", Cond.laysFinal "ClassGate$ClassCheck" "ClassGate$ClassCheck" "pool" "LClassGate$Pool;", Cond.laysFinal "ClassGate$ClassCheck" "ClassGate$ClassCheck" "verdict" "LClassGate$Verdict;", Cond.laysFinal "ClassGate$ClassCheck" "ClassGate$ClassCheck" "attributeCheck" "LClassGate$AttributeCheck;"] := by decide +kernel
  rw [e]
  exact List.forall_mem_cons.mpr ⟨tb_3 _ (List.mem_of_getElem? (i := 16) (by decide +kernel)), List.forall_mem_cons.mpr ⟨tb_3 _ (List.mem_of_getElem? (i := 18) (by decide +kernel)), List.forall_mem_cons.mpr ⟨tb_3 _ (List.mem_of_getElem? (i := 20) (by decide +kernel)), List.forall_mem_cons.mpr ⟨tb_3 _ (List.mem_of_getElem? (i := 22) (by decide +kernel)), List.forall_mem_cons.mpr ⟨tb_3 _ (List.mem_of_getElem? (i := 24) (by decide +kernel)), fun _ h => absurd h List.not_mem_nil⟩⟩⟩⟩⟩
theorem iw_3 : ∀ w ∈ u_ws RX3 TX3 17, w ∈ lw_tbl := fun w h => bg_in w (bi_X3 w h)
theorem iw_4 : ∀ w ∈ u_ws RX4 TX4 11, w ∈ lw_tbl := by
  have e : u_ws RX4 TX4 11 = [Cond.laysFinal "ClassGate$Code" "ClassGate$Code" "maxStack" "I", Cond.laysFinal "ClassGate$Code" "ClassGate$Code" "maxLocals" "I", Cond.laysFinal "ClassGate$Code" "ClassGate$Code" "length" "I", Cond.laysFinal "ClassGate$Code" "ClassGate$Code" "rowsAt" "I", Cond.laysFinal "ClassGate$Code" "ClassGate$Code" "rowCount" "I", Cond.laysFinal "ClassGate$Code" "ClassGate$Code" "pool" "LClassGate$Pool;", Cond.laysFinal "ClassGate$Code" "ClassGate$Code" "major" "I", Cond.laysFinal "ClassGate$Code" "ClassGate$Code" "one" "LClassGate$Instruction;", Cond.lays "ClassGate$Code" "ClassGate$Code" "cutResult" "I", Cond.lays "ClassGate$Code" "ClassGate$Code" "starts" "[I", Cond.lays "ClassGate$Code" "ClassGate$Code" "numbers" "[I"] := by decide +kernel
  rw [e]
  exact List.forall_mem_cons.mpr ⟨tb_4 _ (List.mem_of_getElem? (i := 185) (by decide +kernel)), List.forall_mem_cons.mpr ⟨tb_4 _ (List.mem_of_getElem? (i := 187) (by decide +kernel)), List.forall_mem_cons.mpr ⟨tb_4 _ (List.mem_of_getElem? (i := 189) (by decide +kernel)), List.forall_mem_cons.mpr ⟨tb_4 _ (List.mem_of_getElem? (i := 191) (by decide +kernel)), List.forall_mem_cons.mpr ⟨tb_4 _ (List.mem_of_getElem? (i := 193) (by decide +kernel)), List.forall_mem_cons.mpr ⟨tb_4 _ (List.mem_of_getElem? (i := 195) (by decide +kernel)), List.forall_mem_cons.mpr ⟨tb_4 _ (List.mem_of_getElem? (i := 197) (by decide +kernel)), List.forall_mem_cons.mpr ⟨tb_4 _ (List.mem_of_getElem? (i := 199) (by decide +kernel)), List.forall_mem_cons.mpr ⟨tb_4 _ (List.mem_of_getElem? (i := 201) (by decide +kernel)), List.forall_mem_cons.mpr ⟨tb_4 _ (List.mem_of_getElem? (i := 203) (by decide +kernel)), List.forall_mem_cons.mpr ⟨tb_4 _ (List.mem_of_getElem? (i := 205) (by decide +kernel)), fun _ h => absurd h List.not_mem_nil⟩⟩⟩⟩⟩⟩⟩⟩⟩⟩⟩
theorem iw_5 : ∀ w ∈ u_ws RX5 TX5 12, w ∈ lw_tbl := by
  have e : u_ws RX5 TX5 12 = [Cond.laysFinal "ClassGate$Instruction" "ClassGate$Instruction" "bytes" "LClassGate$Bytes;", Cond.laysFinal "ClassGate$Instruction" "ClassGate$Instruction" "codeAt" "I", Cond.laysFinal "ClassGate$Instruction" "ClassGate$Instruction" "codeLength" "I", Cond.lays "ClassGate$Instruction" "ClassGate$Instruction" "opcode" "I", Cond.lays "ClassGate$Instruction" "ClassGate$Instruction" "size" "I", Cond.lays "ClassGate$Instruction" "ClassGate$Instruction" "first" "I", Cond.lays "ClassGate$Instruction" "ClassGate$Instruction" "second" "I", Cond.lays "ClassGate$Instruction" "ClassGate$Instruction" "localPlaces" "I", Cond.lays "ClassGate$Instruction" "ClassGate$Instruction" "targetCount" "I", Cond.lays "ClassGate$Instruction" "ClassGate$Instruction" "pc" "I", Cond.lays "ClassGate$Instruction" "ClassGate$Instruction" "offset" "I", Cond.lays "ClassGate$Instruction" "ClassGate$Instruction" "switchAt" "I"] := by decide +kernel
  rw [e]
  exact List.forall_mem_cons.mpr ⟨tb_4 _ (List.mem_of_getElem? (i := 139) (by decide +kernel)), List.forall_mem_cons.mpr ⟨tb_4 _ (List.mem_of_getElem? (i := 141) (by decide +kernel)), List.forall_mem_cons.mpr ⟨tb_4 _ (List.mem_of_getElem? (i := 143) (by decide +kernel)), List.forall_mem_cons.mpr ⟨tb_4 _ (List.mem_of_getElem? (i := 145) (by decide +kernel)), List.forall_mem_cons.mpr ⟨tb_4 _ (List.mem_of_getElem? (i := 147) (by decide +kernel)), List.forall_mem_cons.mpr ⟨tb_4 _ (List.mem_of_getElem? (i := 149) (by decide +kernel)), List.forall_mem_cons.mpr ⟨tb_4 _ (List.mem_of_getElem? (i := 151) (by decide +kernel)), List.forall_mem_cons.mpr ⟨tb_4 _ (List.mem_of_getElem? (i := 153) (by decide +kernel)), List.forall_mem_cons.mpr ⟨tb_4 _ (List.mem_of_getElem? (i := 155) (by decide +kernel)), List.forall_mem_cons.mpr ⟨tb_4 _ (List.mem_of_getElem? (i := 157) (by decide +kernel)), List.forall_mem_cons.mpr ⟨tb_4 _ (List.mem_of_getElem? (i := 159) (by decide +kernel)), List.forall_mem_cons.mpr ⟨tb_4 _ (List.mem_of_getElem? (i := 161) (by decide +kernel)), fun _ h => absurd h List.not_mem_nil⟩⟩⟩⟩⟩⟩⟩⟩⟩⟩⟩⟩
theorem iw_6 : ∀ w ∈ u_ws RX6 TX6 11, w ∈ lw_tbl := by
  have e : u_ws RX6 TX6 11 = [Cond.laysFinal "ClassGate$Member" "ClassGate$Member" "begin" "I", Cond.laysFinal "ClassGate$Member" "ClassGate$Member" "flags" "I", Cond.laysFinal "ClassGate$Member" "ClassGate$Member" "name" "I", Cond.laysFinal "ClassGate$Member" "ClassGate$Member" "descriptor" "I", Cond.laysFinal "ClassGate$Member" "ClassGate$Member" "attributeCount" "I", Cond.laysFinal "ClassGate$Member" "ClassGate$Member" "attributesAt" "I", Cond.lays "ClassGate$Member" "ClassGate$Member" "known" "I", Cond.lays "ClassGate$Member" "ClassGate$Member" "constant" "I", Cond.lays "ClassGate$Member" "ClassGate$Member" "argumentPlaces" "I", Cond.lays "ClassGate$Member" "ClassGate$Member" "exceptionCount" "I", Cond.lays "ClassGate$Member" "ClassGate$Member" "code" "LClassGate$Code;"] := by decide +kernel
  rw [e]
  exact List.forall_mem_cons.mpr ⟨tb_2 _ (List.mem_of_getElem? (i := 150) (by decide +kernel)), List.forall_mem_cons.mpr ⟨tb_2 _ (List.mem_of_getElem? (i := 152) (by decide +kernel)), List.forall_mem_cons.mpr ⟨tb_2 _ (List.mem_of_getElem? (i := 154) (by decide +kernel)), List.forall_mem_cons.mpr ⟨tb_2 _ (List.mem_of_getElem? (i := 156) (by decide +kernel)), List.forall_mem_cons.mpr ⟨tb_2 _ (List.mem_of_getElem? (i := 158) (by decide +kernel)), List.forall_mem_cons.mpr ⟨tb_2 _ (List.mem_of_getElem? (i := 160) (by decide +kernel)), List.forall_mem_cons.mpr ⟨tb_2 _ (List.mem_of_getElem? (i := 162) (by decide +kernel)), List.forall_mem_cons.mpr ⟨tb_2 _ (List.mem_of_getElem? (i := 164) (by decide +kernel)), List.forall_mem_cons.mpr ⟨tb_2 _ (List.mem_of_getElem? (i := 166) (by decide +kernel)), List.forall_mem_cons.mpr ⟨tb_2 _ (List.mem_of_getElem? (i := 168) (by decide +kernel)), List.forall_mem_cons.mpr ⟨tb_2 _ (List.mem_of_getElem? (i := 170) (by decide +kernel)), fun _ h => absurd h List.not_mem_nil⟩⟩⟩⟩⟩⟩⟩⟩⟩⟩⟩
theorem iw_7 : ∀ w ∈ u_ws RX7 TX7 8, w ∈ lw_tbl := fun w h => bg_in w (bi_X7 w h)
theorem iw_8 : ∀ w ∈ u_ws RX8 TX8 3, w ∈ lw_tbl := by
  have e : u_ws RX8 TX8 3 = [Cond.laysFinal "ClassGate$PoolCheck" "ClassGate$PoolCheck" "pool" "LClassGate$Pool;", Cond.laysFinal "ClassGate$PoolCheck" "ClassGate$PoolCheck" "major" "I", Cond.laysFinal "ClassGate$PoolCheck" "ClassGate$PoolCheck" "verdict" "LClassGate$Verdict;"] := by decide +kernel
  rw [e]
  exact List.forall_mem_cons.mpr ⟨tb_2 _ (List.mem_of_getElem? (i := 216) (by decide +kernel)), List.forall_mem_cons.mpr ⟨tb_2 _ (List.mem_of_getElem? (i := 218) (by decide +kernel)), List.forall_mem_cons.mpr ⟨tb_2 _ (List.mem_of_getElem? (i := 220) (by decide +kernel)), fun _ h => absurd h List.not_mem_nil⟩⟩⟩
theorem iw_9 : ∀ w ∈ u_ws RX9 TX9 5, w ∈ lw_tbl := fun w h => bg_in w (bi_X9 w h)
theorem iw_10 : ∀ w ∈ u_ws RX10 TX10 2, w ∈ lw_tbl := fun w h => bg_in w (bi_X10 w h)
theorem iw_11 : ∀ w ∈ u_ws RX11 TX11 5, w ∈ lw_tbl := fun w h => bg_in w (bi_X11 w h)
theorem iw_12 : ∀ w ∈ u_ws RX12 TX12 82, w ∈ lw_tbl := fun w h => bg_in w (bi_X12 w h)
set_option maxHeartbeats 4000000 in
set_option maxRecDepth 100000 in
theorem xe_classes {s : State} {b : Nat} (hts : ∀ w ∈ lw_tbl, w.before #[Value.ref b] s = true) : ∃ D : va_G, va_K D vwCl [] s := by
  obtain ⟨c0, i0, k0⟩ := u_known (C := RX0) (T := TX0) (N := 5) (n := 5) hts iw_0 (hts _ (tb_2 _ (List.mem_of_getElem? (i := 224) (by decide +kernel))))
  obtain ⟨c1, i1, k1⟩ := u_known (C := RX1) (T := TX1) (N := 1) (n := 1) hts iw_1 (hts _ (tb_1 _ (List.mem_of_getElem? (i := 61) (by decide +kernel))))
  obtain ⟨c2, i2, k2⟩ := u_known (C := RX2) (T := TX2) (N := 5) (n := 5) hts iw_2 (hts _ (tb_3 _ (List.mem_of_getElem? (i := 6) (by decide +kernel))))
  obtain ⟨c3, i3, k3⟩ := u_known (C := RX3) (T := TX3) (N := 17) (n := 17) hts iw_3 (hts _ (tb_1 _ (List.mem_of_getElem? (i := 59) (by decide +kernel))))
  obtain ⟨c4, i4, k4⟩ := u_known (C := RX4) (T := TX4) (N := 11) (n := 11) hts iw_4 (hts _ (tb_4 _ (List.mem_of_getElem? (i := 108) (by decide +kernel))))
  obtain ⟨c5, i5, k5⟩ := u_known (C := RX5) (T := TX5) (N := 12) (n := 12) hts iw_5 (hts _ (tb_4 _ (List.mem_of_getElem? (i := 116) (by decide +kernel))))
  obtain ⟨c6, i6, k6⟩ := u_known (C := RX6) (T := TX6) (N := 11) (n := 11) hts iw_6 (hts _ (tb_2 _ (List.mem_of_getElem? (i := 116) (by decide +kernel))))
  obtain ⟨c7, i7, k7⟩ := u_known (C := RX7) (T := TX7) (N := 8) (n := 8) hts iw_7 (hts _ (tb_1 _ (List.mem_of_getElem? (i := 75) (by decide +kernel))))
  obtain ⟨c8, i8, k8⟩ := u_known (C := RX8) (T := TX8) (N := 3) (n := 3) hts iw_8 (hts _ (tb_2 _ (List.mem_of_getElem? (i := 208) (by decide +kernel))))
  obtain ⟨c9, i9, k9⟩ := u_known (C := RX9) (T := TX9) (N := 5) (n := 5) hts iw_9 (hts _ (tb_1 _ (List.mem_of_getElem? (i := 229) (by decide +kernel))))
  obtain ⟨c10, i10, k10⟩ := u_known (C := RX10) (T := TX10) (N := 2) (n := 2) hts iw_10 (hts _ (tb_1 _ (List.mem_of_getElem? (i := 211) (by decide +kernel))))
  obtain ⟨c11, i11, k11⟩ := u_known (C := RX11) (T := TX11) (N := 5) (n := 5) hts iw_11 (hts _ (tb_1 _ (List.mem_of_getElem? (i := 28) (by decide +kernel))))
  obtain ⟨c12, i12, k12⟩ := u_known (C := RX12) (T := TX12) (N := 82) (n := 82) hts iw_12 (hts _ (tb_6 _ (List.mem_of_getElem? (i := 156) (by decide +kernel))))
  refine ⟨(fun k => match k with | 0 => c0 | 1 => c1 | 2 => c2 | 3 => c3 | 4 => c4 | 5 => c5 | 6 => c6 | 7 => c7 | 8 => c8 | 9 => c9 | 10 => c10 | 11 => c11 | _ => c12, fun k => match k with | 0 => i0 | 1 => i1 | 2 => i2 | 3 => i3 | 4 => i4 | 5 => i5 | 6 => i6 | 7 => i7 | 8 => i8 | 9 => i9 | 10 => i10 | 11 => i11 | _ => i12), ?_, fun k q h => by simp at h⟩
  intro k q hq
  match k, hq with
  | 0, hq => cases hq; exact k0
  | 1, hq => cases hq; exact k1
  | 2, hq => cases hq; exact k2
  | 3, hq => cases hq; exact k3
  | 4, hq => cases hq; exact k4
  | 5, hq => cases hq; exact k5
  | 6, hq => cases hq; exact k6
  | 7, hq => cases hq; exact k7
  | 8, hq => cases hq; exact k8
  | 9, hq => cases hq; exact k9
  | 10, hq => cases hq; exact k10
  | 11, hq => cases hq; exact k11
  | 12, hq => cases hq; exact k12
  | k + 13, hq => simp [vwCl] at hq
theorem dL_law_0 : decode cL_law 0 = .ok (.new 8, 3) := by decide +kernel
theorem dL_law_3 : decode cL_law 3 = .ok (.dup, 1) := by decide +kernel
theorem dL_law_4 : decode cL_law 4 = .ok (.invokespecial 39, 3) := by decide +kernel
theorem dL_law_7 : decode cL_law 7 = .ok (.astore_n 1, 1) := by decide +kernel
theorem dL_law_8 : decode cL_law 8 = .ok (.new 40, 3) := by decide +kernel
theorem dL_law_11 : decode cL_law 11 = .ok (.dup, 1) := by decide +kernel
theorem dL_law_12 : decode cL_law 12 = .ok (.invokespecial 42, 3) := by decide +kernel
theorem dL_law_15 : decode cL_law 15 = .ok (.astore_n 2, 1) := by decide +kernel
theorem dL_law_16 : decode cL_law 16 = .ok (.iconst 1, 1) := by decide +kernel
theorem dL_law_17 : decode cL_law 17 = .ok (.newarray .long, 2) := by decide +kernel
theorem dL_law_19 : decode cL_law 19 = .ok (.astore_n 3, 1) := by decide +kernel
theorem dL_law_20 : decode cL_law 20 = .ok (.iconst 0, 1) := by decide +kernel
theorem dL_law_21 : decode cL_law 21 = .ok (.istore 4, 2) := by decide +kernel
theorem dL_law_33 : decode cL_law 33 = .ok (.aload_n 0, 1) := by decide +kernel
theorem dL_law_34 : decode cL_law 34 = .ok (.iload 4, 2) := by decide +kernel
theorem dL_law_36 : decode cL_law 36 = .ok (.iaload, 1) := by decide +kernel
theorem dL_law_37 : decode cL_law 37 = .ok (.bipush 15, 2) := by decide +kernel
theorem dL_law_39 : decode cL_law 39 = .ok (.iand, 1) := by decide +kernel
theorem dL_law_40 : decode cL_law 40 = .ok (.tableswitch 938 0 15 #[80, 184, 240, 253, 266, 322, 390, 416, 453, 478, 574, 639, 719, 756, 781, 861], 80) := by decide +kernel
set_option maxHeartbeats 8000000 in
set_option maxRecDepth 100000 in
/-- THE LAW, from its entry -/
theorem whole_start {p : Program} {e : Env} {s : State} {m : MethodId} {below : List Frame} {meth : Method} {c : Code} (l : Launch) (hnt : l.stackTraces = false) {b L : Nat} {xs : Nat → Int32} (hL : L ≤ 6) (C0 : lw_At p s m meth c b L xs) : W p l e room_1 s m #[Value.ref b] below meth c s.heap [] 0 0 (lw_Z below #[Value.ref b] s) (entryFrame m ([Value.ref b] : List Value).toArray 7) := by
  obtain ⟨hx, hb, hr, hml, hown, hts, hX, hbl, hlocks, hgv⟩ := id C0
  have hb : c.code = cL_law := hb
  have hown : s.vm.findClass RL = some m.cls := hown
  obtain ⟨A, hAe⟩ : ∃ A : Nat → Prop, A = fun q : Nat => s.heap.size ≤ q := ⟨_, rfl⟩
  have hA : ∀ q : Nat, s.heap.size ≤ q → A q := fun q h => by rw [hAe]; exact h
  have hbA : ¬ A b := by rw [hAe]; exact Nat.not_le.mpr hbl
  obtain ⟨g, hE⟩ := xe_start hAe hts hgv
  obtain ⟨D, hK⟩ := xe_classes hts
  have htb : ∀ w ∈ bg, w.before #[Value.ref b] s = true := fun w h => hts w (bg_in w h)
  have hS : va_S A s.heap s.heap [] := va_S.rf
  have hP : va_P D vwCl [] s.heap := fun k q h => by simp at h
  have hD : va_D A [] := ⟨fun i j p q h => by simp at h, fun k q h => by simp at h⟩
  have hl := lv_entry ([.ref b]) (n := 7) (Nat.le_of_ble_eq_true rfl)
  rw [lg_entry_eq]
  generalize (lg_sl ([.ref b]) ++ List.replicate (7 - (lg_sl ([.ref b])).length) Slot.unset).toArray = ls at hl ⊢
  have hl : lv_has ls 7 [(0, .ref b)] := hl
  refine va_new (ci := 11) (fs := [.null, .int 0, .null, .null, .int 0]) (C := RX11) (T := TX11) (N := 5) hx hb htb bi_X11 tyX11 tyX11_ok hown (htb _ bg_345) (htb _ bg_346) (htb _ bg_18) hK hP hD hS hA rfl (by decide +kernel) (Nat.le_of_ble_eq_true rfl) (Nat.le_of_ble_eq_true rfl) dL_law_0 (fun h0 H hP hD hS => ?_)
  have hP : va_P D vwCl [(h0, .inr (11, [.null, .int 0, .null, .null, .int 0]))] H := hP
  have hD : va_D A [(h0, .inr (11, [.null, .int 0, .null, .null, .int 0]))] := hD
  refine W.widen (k := 1) (n := 5) (by decide) (by decide) ?_
  refine lv_dup hx hb dL_law_3 rfl ?_
  refine xb_gov (wr := []) (va_runI (As := []) (rest := [.ref h0]) ⟨hx, hb, hml, hown, htb⟩ (cg_init l D g h0 (Array.size H) ) (bg_I 0 htb bg_347 bg_348 bg_18 bg_0 rfl rfl (by decide +kernel) ⟨Nat.le_of_ble_eq_true rfl, Nat.le_of_ble_eq_true rfl⟩) ⟨xb_blind xe_ok, xb_enter xe_ok hK hP hD hS hA hE [0] rfl rfl rfl [] rfl⟩ rfl rfl hl.1 rfl (lv_room (Nat.le_of_ble_eq_true rfl)) dL_law_4 ⟨Nat.le_of_ble_eq_true rfl, Nat.le_of_ble_eq_true rfl⟩) hK hP hD hS hA [0] [] rfl rfl rfl (by decide) (fun u_4 H locs hw_4 hP hD hK hS => ?_)
  obtain ⟨qc, cB⟩ := u_4
  have hP : va_P D vwCl [(h0, .inr (11, [.ref qc, .int 0, .ref g.1, .null, .int (-1)])), (qc, .inl (cB, 1024, .inl (fun _ => 0)))] H := hP
  have hD : va_D A [(h0, .inr (11, [.ref qc, .int 0, .ref g.1, .null, .int (-1)])), (qc, .inl (cB, 1024, .inl (fun _ => 0)))] := hD
  have hK : va_K D vwCl [(cB, .byte)] s := hK
  refine W.widen (k := 2) (n := 1029) (by decide) (by decide) ?_
  refine lv_astore_n (lv' := [(1, .ref h0), (0, .ref b)]) hx hb dL_law_7 rfl hl (by decide) rfl (fun ls hl => ?_)
  refine va_new (ci := 12) (fs := [.int 0, .null, .null, .int 0, .null, .null, .null, .null, .int 0, .int 0, .int 0, .int 0, .null, .null, .null, .null, .int 0, .int 0, .int 0, .int 0, .int 0, .null, .null, .null, .null, .int 0, .int 0, .null, .null, .null, .null, .null, .null, .null, .null, .null, .null, .null, .null, .null, .null, .null, .null, .null, .null, .null, .null, .int 0, .int 0, .int 0, .int 0, .int 0, .int 0, .int 0, .int 0, .int 0, .int 0, .int 0, .int 0, .int 0, .int 0, .int 0, .null, .null, .null, .int 0, .int 0, .int 0, .int 0, .int 0, .int 0, .int 0, .int 0, .int 0, .int 0, .int 0, .int 0, .int 0, .int 0, .int 0, .null, .null]) (C := RX12) (T := TX12) (N := 82) hx hb htb bi_X12 tyX12 tyX12_ok hown (htb _ bg_349) (htb _ bg_350) (htb _ bg_144) hK hP hD hS hA rfl (by decide +kernel) (Nat.le_of_ble_eq_true rfl) (Nat.le_of_ble_eq_true rfl) dL_law_8 (fun m0 H hP hD hS => ?_)
  have hP : va_P D vwCl [(h0, .inr (11, [.ref qc, .int 0, .ref g.1, .null, .int (-1)])), (qc, .inl (cB, 1024, .inl (fun _ => 0))), (m0, .inr (12, [.int 0, .null, .null, .int 0, .null, .null, .null, .null, .int 0, .int 0, .int 0, .int 0, .null, .null, .null, .null, .int 0, .int 0, .int 0, .int 0, .int 0, .null, .null, .null, .null, .int 0, .int 0, .null, .null, .null, .null, .null, .null, .null, .null, .null, .null, .null, .null, .null, .null, .null, .null, .null, .null, .null, .null, .int 0, .int 0, .int 0, .int 0, .int 0, .int 0, .int 0, .int 0, .int 0, .int 0, .int 0, .int 0, .int 0, .int 0, .int 0, .null, .null, .null, .int 0, .int 0, .int 0, .int 0, .int 0, .int 0, .int 0, .int 0, .int 0, .int 0, .int 0, .int 0, .int 0, .int 0, .int 0, .null, .null]))] H := hP
  have hD : va_D A [(h0, .inr (11, [.ref qc, .int 0, .ref g.1, .null, .int (-1)])), (qc, .inl (cB, 1024, .inl (fun _ => 0))), (m0, .inr (12, [.int 0, .null, .null, .int 0, .null, .null, .null, .null, .int 0, .int 0, .int 0, .int 0, .null, .null, .null, .null, .int 0, .int 0, .int 0, .int 0, .int 0, .null, .null, .null, .null, .int 0, .int 0, .null, .null, .null, .null, .null, .null, .null, .null, .null, .null, .null, .null, .null, .null, .null, .null, .null, .null, .null, .null, .int 0, .int 0, .int 0, .int 0, .int 0, .int 0, .int 0, .int 0, .int 0, .int 0, .int 0, .int 0, .int 0, .int 0, .int 0, .null, .null, .null, .int 0, .int 0, .int 0, .int 0, .int 0, .int 0, .int 0, .int 0, .int 0, .int 0, .int 0, .int 0, .int 0, .int 0, .int 0, .null, .null]))] := hD
  refine W.widen (k := 3) (n := 1111) (by decide) (by decide) ?_
  obtain ⟨fs, efs⟩ : ∃ z : List Value, z = [.int 0, .null, .null, .int 0, .null, .null, .null, .null, .int 0, .int 0, .int 0, .int 0, .null, .null, .null, .null, .int 0, .int 0, .int 0, .int 0, .int 0, .null, .null, .null, .null, .int 0, .int 0, .null, .null, .null, .null, .null, .null, .null, .null, .null, .null, .null, .null, .null, .null, .null, .null, .null, .null, .null, .null, .int 0, .int 0, .int 0, .int 0, .int 0, .int 0, .int 0, .int 0, .int 0, .int 0, .int 0, .int 0, .int 0, .int 0, .int 0, .null, .null, .null, .int 0, .int 0, .int 0, .int 0, .int 0, .int 0, .int 0, .int 0, .int 0, .int 0, .int 0, .int 0, .int 0, .int 0, .int 0, .null, .null] := ⟨_, rfl⟩
  rw [← efs] at hP hD
  have hm : md_has fs [(17, .int 0), (19, .int 0)] := by rw [efs]; exact ⟨rfl, by decide⟩
  have hP : va_P D vwCl [(h0, .inr (11, [.ref qc, .int 0, .ref g.1, .null, .int (-1)])), (qc, .inl (cB, 1024, .inl (fun _ => 0))), (m0, .inr (12, fs))] H := hP
  have hD : va_D A [(h0, .inr (11, [.ref qc, .int 0, .ref g.1, .null, .int (-1)])), (qc, .inl (cB, 1024, .inl (fun _ => 0))), (m0, .inr (12, fs))] := hD
  refine lv_dup hx hb dL_law_11 rfl ?_
  refine xb_gov (wr := [(h0, .inr (11, [.ref qc, .int 0, .ref g.1, .null, .int (-1)])), (qc, .inl (cB, 1024, .inl (fun _ => 0)))]) (va_runI (As := []) (rest := [.ref m0]) ⟨hx, hb, hml, hown, htb⟩ (mm_init l D g m0 fs (Array.size H) (md_sub hm [0, 1] rfl)) (bg_I 0 htb bg_351 bg_352 bg_144 bg_89 rfl rfl (by decide +kernel) ⟨Nat.le_of_ble_eq_true rfl, Nat.le_of_ble_eq_true rfl⟩) ⟨xb_blind xe_ok, xb_enter xe_ok hK hP hD hS hA hE [2] rfl rfl rfl [] rfl⟩ rfl rfl hl.1 rfl (lv_room (Nat.le_of_ble_eq_true rfl)) dL_law_12 ⟨Nat.le_of_ble_eq_true rfl, Nat.le_of_ble_eq_true rfl⟩) hK hP hD hS hA [2] [0, 1] rfl rfl rfl (by decide) (fun u_12 H locs hw_12 hP hD hK hS => ?_)
  obtain ⟨fs, q1, q2, q4, q5, q6, q7, qf, qm, a1, a2, a4, a5, a6, a7, aM, f1, f2, f4, f5, f6, f7, fM⟩ := u_12
  have hP : va_P D vwCl [(h0, .inr (11, [.ref qc, .int 0, .ref g.1, .null, .int (-1)])), (qc, .inl (cB, 1024, .inl (fun _ => 0))), (m0, .inr (12, fs)), (q1, .inl (a1, 66000, .inl f1)), (q2, .inl (a2, 66000, .inl f2)), (q4, .inl (a4, 24000, .inl f4)), (q5, .inl (a5, 24000, .inl f5)), (q6, .inl (a6, 24000, .inl f6)), (q7, .inl (a7, 4096, .inl f7)), (qm, .inl (aM, 65560, .inl fM))] H := hP
  have hD : va_D A [(h0, .inr (11, [.ref qc, .int 0, .ref g.1, .null, .int (-1)])), (qc, .inl (cB, 1024, .inl (fun _ => 0))), (m0, .inr (12, fs)), (q1, .inl (a1, 66000, .inl f1)), (q2, .inl (a2, 66000, .inl f2)), (q4, .inl (a4, 24000, .inl f4)), (q5, .inl (a5, 24000, .inl f5)), (q6, .inl (a6, 24000, .inl f6)), (q7, .inl (a7, 4096, .inl f7)), (qm, .inl (aM, 65560, .inl fM))] := hD
  have hK : va_K D vwCl [(cB, .byte), (a1, .char), (a2, .char), (a4, .int), (a5, .int), (a6, .int), (a7, .int), (aM, .byte)] s := hK
  refine W.widen (k := 42) (n := 899679) (by decide) (by decide) ?_
  have hm : md_has fs _ := hw_12
  refine lv_astore_n (lv' := [(2, .ref m0), (1, .ref h0), (0, .ref b)]) hx hb dL_law_15 rfl hl (by decide) rfl (fun ls hl => ?_)
  refine lv_iconst (v := 1) hx hb dL_law_16 (by decide) ?_
  refine va_newa (atype := .long) (ty := .long) (a0 := (1, .inr (.inl (fun _ => 0)))) (N' := 1) hx hb (htb _ bg_353) rfl hK hP hD hS hA (fun _ => rfl) (by decide) (by decide) (by decide) (Nat.le_of_ble_eq_true rfl) (Nat.le_of_ble_eq_true rfl) dL_law_17 (fun qo a17 H hK hP hD hS => ?_)
  have hP : va_P D vwCl [(h0, .inr (11, [.ref qc, .int 0, .ref g.1, .null, .int (-1)])), (qc, .inl (cB, 1024, .inl (fun _ => 0))), (m0, .inr (12, fs)), (q1, .inl (a1, 66000, .inl f1)), (q2, .inl (a2, 66000, .inl f2)), (q4, .inl (a4, 24000, .inl f4)), (q5, .inl (a5, 24000, .inl f5)), (q6, .inl (a6, 24000, .inl f6)), (q7, .inl (a7, 4096, .inl f7)), (qm, .inl (aM, 65560, .inl fM)), (qo, .inl (a17, 1, .inr (.inl (fun _ => 0))))] H := hP
  have hD : va_D A [(h0, .inr (11, [.ref qc, .int 0, .ref g.1, .null, .int (-1)])), (qc, .inl (cB, 1024, .inl (fun _ => 0))), (m0, .inr (12, fs)), (q1, .inl (a1, 66000, .inl f1)), (q2, .inl (a2, 66000, .inl f2)), (q4, .inl (a4, 24000, .inl f4)), (q5, .inl (a5, 24000, .inl f5)), (q6, .inl (a6, 24000, .inl f6)), (q7, .inl (a7, 4096, .inl f7)), (qm, .inl (aM, 65560, .inl fM)), (qo, .inl (a17, 1, .inr (.inl (fun _ => 0))))] := hD
  have hK : va_K D vwCl [(cB, .byte), (a1, .char), (a2, .char), (a4, .int), (a5, .int), (a6, .int), (a7, .int), (aM, .byte), (a17, .long)] s := hK
  refine W.widen (k := 43) (n := 899680) (by decide) (by decide) ?_
  refine lv_astore_n (lv' := [(3, .ref qo), (2, .ref m0), (1, .ref h0), (0, .ref b)]) hx hb dL_law_19 rfl hl (by decide) rfl (fun ls hl => ?_)
  refine lv_iconst (v := 0) hx hb dL_law_20 (by decide) ?_
  refine lv_istore (lv' := [(4, .int 0), (3, .ref qo), (2, .ref m0), (1, .ref h0), (0, .ref b)]) hx hb dL_law_21 hl (by decide) rfl (fun ls hl => ?_)
  refine lv_iload hx hb dL_law_23 (lv_at hl 0 rfl) ?_
  refine lv_aload_n hx hb dL_law_25 rfl (lv_at hl 4 rfl) ?_
  refine va_slen hx hb hX hbl hbA hS dL_law_26 ?_
  refine lv_bipush (v := 6) hx hb dL_law_27 (by decide) ?_
  refine lv_isub hx hb dL_law_29 ?_
  refine lv_icmp_gt (tgt := 984) hx hb dL_law_30 (by decide) (fun c_30 => ?_) (fun c_30 => ?_)
  · skip
    refine lv_iconst (v := 1) hx hb dL_law_984 (by decide) ?_
    refine va_forget (fun q hq => by have h := hS.2.2 q hq; rw [hAe] at h; exact h) ?_
    refine W.widen (k := 600002) (n := 7302232) (by decide) (by decide) ?_
    exact lw_ret hx hb hr hlocks dL_law_985
  · skip
    have hL6 : L = 6 := by
      rcases (show L = 0 ∨ L = 1 ∨ L = 2 ∨ L = 3 ∨ L = 4 ∨ L = 5 ∨ L = 6 by omega) with h | h | h | h | h | h | h
      · subst h; exact absurd (by decide) c_30
      · subst h; exact absurd (by decide) c_30
      · subst h; exact absurd (by decide) c_30
      · subst h; exact absurd (by decide) c_30
      · subst h; exact absurd (by decide) c_30
      · subst h; exact absurd (by decide) c_30
      · exact h
    subst hL6
    refine lv_aload_n hx hb dL_law_33 rfl (lv_at hl 4 rfl) ?_
    refine lv_iload hx hb dL_law_34 (lv_at hl 0 rfl) ?_
    refine va_sld hx hb hX hbl hbA hS (by unfold vp_in; decide) dL_law_36 ?_
    refine lv_bipush (v := 15) hx hb dL_law_37 (by decide) ?_
    refine lv_iand hx hb dL_law_39 ?_
    have hP := hP.sub (ws' := [(h0, .inr (11, [.ref qc, .int 0, .ref g.1, .null, .int (-1)])), (qc, .inl (cB, 1024, .inl (fun _ => 0))), (m0, .inr (12, fs)), (q1, .inl (a1, 66000, .inl f1)), (q2, .inl (a2, 66000, .inl f2)), (q4, .inl (a4, 24000, .inl f4)), (q5, .inl (a5, 24000, .inl f5)), (q6, .inl (a6, 24000, .inl f6)), (q7, .inl (a7, 4096, .inl f7)), (qm, .inl (aM, 65560, .inl fM)), (qo, .inl (a17, 1, .inr (.inl (fun _ => 0))))]) [0, 1, 2, 3, 4, 5, 6, 7, 8, 9, 10] rfl
    have hD := hD.sub (ws' := [(h0, .inr (11, [.ref qc, .int 0, .ref g.1, .null, .int (-1)])), (qc, .inl (cB, 1024, .inl (fun _ => 0))), (m0, .inr (12, fs)), (q1, .inl (a1, 66000, .inl f1)), (q2, .inl (a2, 66000, .inl f2)), (q4, .inl (a4, 24000, .inl f4)), (q5, .inl (a5, 24000, .inl f5)), (q6, .inl (a6, 24000, .inl f6)), (q7, .inl (a7, 4096, .inl f7)), (qm, .inl (aM, 65560, .inl fM)), (qo, .inl (a17, 1, .inr (.inl (fun _ => 0))))]) [0, 1, 2, 3, 4, 5, 6, 7, 8, 9, 10] rfl rfl
    have hK := hK.sub (tys' := [(cB, .byte), (a1, .char), (a2, .char), (a4, .int), (a5, .int), (a6, .int), (a7, .int), (aM, .byte), (a17, .long)]) [0, 1, 2, 3, 4, 5, 6, 7, 8] rfl
    have hm : md_has fs [(1, .ref q1), (2, .ref q2), (4, .ref q4), (5, .ref q5), (6, .ref q6), (7, .ref q7), (13, .ref qf), (15, .ref qm), (17, .int 0), (18, .int (-1)), (19, .int 0), (73, .int (-1))] := md_sub hm [0, 1, 2, 3, 4, 5, 6, 7, 8, 9, 10, 11] rfl
    have hl := lv_sub hl (l' := [(0, .ref b), (1, .ref h0), (2, .ref m0), (3, .ref qo), (4, .int 0)]) [4, 3, 2, 1, 0] rfl
    obtain ⟨j, hj, ej⟩ := pk_andE (xs (Int32.toNatClampNeg 0)) (m := 15) 4 (by decide)
    refine lv_topi (fun x_40 ex_40 => ?_)
    rw [ej] at ex_40
    subst ex_40
    rcases (show j = 0 ∨ j = 1 ∨ j = 2 ∨ j = 3 ∨ j = 4 ∨ j = 5 ∨ j = 6 ∨ j = 7 ∨ j = 8 ∨ j = 9 ∨ j = 10 ∨ j = 11 ∨ j = 12 ∨ j = 13 ∨ j = 14 ∨ j = 15 by omega) with rfl | rfl | rfl | rfl | rfl | rfl | rfl | rfl | rfl | rfl | rfl | rfl | rfl | rfl | rfl | rfl
    · refine lv_tableIn (off := 80) (tgt := 120) hx hb dL_law_40 (by decide) (by decide) (by decide) (by decide) ?_
      exact law_0 hx hb hr hml hlocks hown htb hX hbl hAe hbA hA hE hnt hm hK hP hD hS hl
    · refine lv_tableIn (off := 184) (tgt := 224) hx hb dL_law_40 (by decide) (by decide) (by decide) (by decide) ?_
      exact law_1 hx hb hr hml hlocks hown htb hX hbl hAe hbA hA hE hnt hm hK hP hD hS hl
    · refine lv_tableIn (off := 240) (tgt := 280) hx hb dL_law_40 (by decide) (by decide) (by decide) (by decide) ?_
      exact law_2 hx hb hr hml hlocks hown htb hX hbl hAe hbA hA hE hnt hm hK hP hD hS hl
    · refine lv_tableIn (off := 253) (tgt := 293) hx hb dL_law_40 (by decide) (by decide) (by decide) (by decide) ?_
      exact law_3 hx hb hr hml hlocks hown htb hX hbl hAe hbA hA hE hnt hm hK hP hD hS hl
    · refine lv_tableIn (off := 266) (tgt := 306) hx hb dL_law_40 (by decide) (by decide) (by decide) (by decide) ?_
      exact law_4 hx hb hr hml hlocks hown htb hX hbl hAe hbA hA hE hnt hm hK hP hD hS hl
    · refine lv_tableIn (off := 322) (tgt := 362) hx hb dL_law_40 (by decide) (by decide) (by decide) (by decide) ?_
      exact law_5 hx hb hr hml hlocks hown htb hX hbl hAe hbA hA hE hnt hm hK hP hD hS hl
    · refine lv_tableIn (off := 390) (tgt := 430) hx hb dL_law_40 (by decide) (by decide) (by decide) (by decide) ?_
      exact law_6 hx hb hr hml hlocks hown htb hX hbl hAe hbA hA hE hnt hm hK hP hD hS hl
    · refine lv_tableIn (off := 416) (tgt := 456) hx hb dL_law_40 (by decide) (by decide) (by decide) (by decide) ?_
      exact law_7 hx hb hr hml hlocks hown htb hX hbl hAe hbA hA hE hnt hm hK hP hD hS hl
    · refine lv_tableIn (off := 453) (tgt := 493) hx hb dL_law_40 (by decide) (by decide) (by decide) (by decide) ?_
      exact law_8 hx hb hr hml hlocks hown htb hX hbl hAe hbA hA hE hnt hm hK hP hD hS hl
    · refine lv_tableIn (off := 478) (tgt := 518) hx hb dL_law_40 (by decide) (by decide) (by decide) (by decide) ?_
      exact law_9 hx hb hr hml hlocks hown htb hX hbl hAe hbA hA hE hnt hm hK hP hD hS hl
    · refine lv_tableIn (off := 574) (tgt := 614) hx hb dL_law_40 (by decide) (by decide) (by decide) (by decide) ?_
      exact law_10 hx hb hr hml hlocks hown htb hX hbl hAe hbA hA hE hnt hm hK hP hD hS hl
    · refine lv_tableIn (off := 639) (tgt := 679) hx hb dL_law_40 (by decide) (by decide) (by decide) (by decide) ?_
      exact law_11 hx hb hr hml hlocks hown htb hX hbl hAe hbA hA hE hnt hm hK hP hD hS hl
    · refine lv_tableIn (off := 719) (tgt := 759) hx hb dL_law_40 (by decide) (by decide) (by decide) (by decide) ?_
      exact law_12 hx hb hr hml hlocks hown htb hX hbl hAe hbA hA hE hnt hm hK hP hD hS hl
    · refine lv_tableIn (off := 756) (tgt := 796) hx hb dL_law_40 (by decide) (by decide) (by decide) (by decide) ?_
      exact law_13 hx hb hr hml hlocks hown htb hX hbl hAe hbA hA hE hnt hm hK hP hD hS hl
    · refine lv_tableIn (off := 781) (tgt := 821) hx hb dL_law_40 (by decide) (by decide) (by decide) (by decide) ?_
      exact law_14 hx hb hr hml hlocks hown htb hX hbl hAe hbA hA hE hnt hm hK hP hD hS hl
    · refine lv_tableIn (off := 861) (tgt := 901) hx hb dL_law_40 (by decide) (by decide) (by decide) (by decide) ?_
      exact law_15 hx hb hr hml hlocks hown htb hX hbl hAe hbA hA hE hnt hm hK hP hD hS hl
