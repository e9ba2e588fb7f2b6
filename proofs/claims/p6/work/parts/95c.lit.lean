/-! literals at the entry (laid by wip/p2/c95.py) -/
set_option maxHeartbeats 8000000 in
set_option maxRecDepth 200000 in
theorem xs_15 {s : State} {b : Nat} {A : Nat → Prop} (hA : ∀ a : Nat, a < s.heap.size → ¬ A a) (hts : ∀ w ∈ lw_tbl, w.before #[Value.ref b] s = true) (hgv : (Jvm.Cond.and given_1 narrow_1).before #[Value.ref b] s = true) : ∃ a v : Nat, (vk_R "ClassGateModel" 127 "ConstantValue" a s ∧ va_O "java/lang/String" a A s s.heap) ∧ va_OF "java/lang/String" "coder" "B" (.int 0) a A s s.heap ∧ va_OF "java/lang/String" "value" "[B" (.ref v) a A s s.heap ∧ va_T .byte v (xe_lt 15).2.2.2.length (fun j => .int ((xe_lt 15).2.2.2.getD j 0)) A s s.heap := by
  have e0 : (Cond.exactly (Term.string "ClassGateModel" 127) "java/lang/String").before #[Value.ref b] s = true := fl_at hgv (i := 450) (by decide +kernel)
  obtain ⟨a0, -, -, -, z0, -⟩ := Cond.exactly_spec (args := #[Value.ref b]) (first := s) (o := none) (s := s) (idx := []) (t := (Term.string "ClassGateModel" 127)) (cls := "java/lang/String") e0
  have r0 : vk_R "ClassGateModel" 127 "ConstantValue" a0 s := vk_R.of (hts _ (tb_6 _ (List.mem_of_getElem? (i := 167) (by decide +kernel)))) z0
  have o0 : va_O "java/lang/String" a0 A s s.heap := va_Oof e0 z0 hA
  have p0 : (Cond.eq (.field (Term.string "ClassGateModel" 127) "java/lang/String" "coder" "B") (.int 0)).before #[Value.ref b] s = true := fl_at hgv (i := 451) (by decide +kernel)
  have q0 : (Cond.arrayOf (Term.field (Term.string "ClassGateModel" 127) "java/lang/String" "value" "[B") .byte).before #[Value.ref b] s = true := fl_at hgv (i := 452) (by decide +kernel)
  have l0 : (Cond.eq (.length (Term.field (Term.string "ClassGateModel" 127) "java/lang/String" "value" "[B")) (.int 13)).before #[Value.ref b] s = true := fl_at hgv (i := 453) (by decide +kernel)
  have hw : ∀ j : Nat, j < 13 → (flatC (Jvm.Cond.and given_1 narrow_1))[454 + j]? = some (Cond.eq (.elem (Term.field (Term.string "ClassGateModel" 127) "java/lang/String" "value" "[B") (.int (Int32.ofNat j))) (.int ((xe_lt 15).2.2.2.getD j 0))) := by decide +kernel
  obtain ⟨v0, y0, T0⟩ := va_Tof (tm := (Term.field (Term.string "ClassGateModel" 127) "java/lang/String" "value" "[B")) (ty := .byte) (N := 13) (f := fun j => .int ((xe_lt 15).2.2.2.getD j 0)) (A := A) (by decide) q0 (va_eqt l0) (fun j hj => va_eqt (fl_at hgv (hw j hj))) hA
  exact ⟨a0, v0, ⟨r0, o0⟩, vk_OFof z0 (va_eqt p0) hA, vk_OFof z0 y0 hA, T0⟩
set_option maxHeartbeats 8000000 in
set_option maxRecDepth 200000 in
theorem xs_16 {s : State} {b : Nat} {A : Nat → Prop} (hA : ∀ a : Nat, a < s.heap.size → ¬ A a) (hts : ∀ w ∈ lw_tbl, w.before #[Value.ref b] s = true) (hgv : (Jvm.Cond.and given_1 narrow_1).before #[Value.ref b] s = true) : ∃ a v : Nat, (vk_R "ClassGateModel" 129 "Code" a s ∧ va_O "java/lang/String" a A s s.heap) ∧ va_OF "java/lang/String" "coder" "B" (.int 0) a A s s.heap ∧ va_OF "java/lang/String" "value" "[B" (.ref v) a A s s.heap ∧ va_T .byte v (xe_lt 16).2.2.2.length (fun j => .int ((xe_lt 16).2.2.2.getD j 0)) A s s.heap := by
  have e0 : (Cond.exactly (Term.string "ClassGateModel" 129) "java/lang/String").before #[Value.ref b] s = true := fl_at hgv (i := 468) (by decide +kernel)
  obtain ⟨a0, -, -, -, z0, -⟩ := Cond.exactly_spec (args := #[Value.ref b]) (first := s) (o := none) (s := s) (idx := []) (t := (Term.string "ClassGateModel" 129)) (cls := "java/lang/String") e0
  have r0 : vk_R "ClassGateModel" 129 "Code" a0 s := vk_R.of (hts _ (tb_6 _ (List.mem_of_getElem? (i := 168) (by decide +kernel)))) z0
  have o0 : va_O "java/lang/String" a0 A s s.heap := va_Oof e0 z0 hA
  have p0 : (Cond.eq (.field (Term.string "ClassGateModel" 129) "java/lang/String" "coder" "B") (.int 0)).before #[Value.ref b] s = true := fl_at hgv (i := 469) (by decide +kernel)
  have q0 : (Cond.arrayOf (Term.field (Term.string "ClassGateModel" 129) "java/lang/String" "value" "[B") .byte).before #[Value.ref b] s = true := fl_at hgv (i := 470) (by decide +kernel)
  have l0 : (Cond.eq (.length (Term.field (Term.string "ClassGateModel" 129) "java/lang/String" "value" "[B")) (.int 4)).before #[Value.ref b] s = true := fl_at hgv (i := 471) (by decide +kernel)
  have hw : ∀ j : Nat, j < 4 → (flatC (Jvm.Cond.and given_1 narrow_1))[472 + j]? = some (Cond.eq (.elem (Term.field (Term.string "ClassGateModel" 129) "java/lang/String" "value" "[B") (.int (Int32.ofNat j))) (.int ((xe_lt 16).2.2.2.getD j 0))) := by decide +kernel
  obtain ⟨v0, y0, T0⟩ := va_Tof (tm := (Term.field (Term.string "ClassGateModel" 129) "java/lang/String" "value" "[B")) (ty := .byte) (N := 4) (f := fun j => .int ((xe_lt 16).2.2.2.getD j 0)) (A := A) (by decide) q0 (va_eqt l0) (fun j hj => va_eqt (fl_at hgv (hw j hj))) hA
  exact ⟨a0, v0, ⟨r0, o0⟩, vk_OFof z0 (va_eqt p0) hA, vk_OFof z0 y0 hA, T0⟩
set_option maxHeartbeats 8000000 in
set_option maxRecDepth 200000 in
theorem xs_17 {s : State} {b : Nat} {A : Nat → Prop} (hA : ∀ a : Nat, a < s.heap.size → ¬ A a) (hts : ∀ w ∈ lw_tbl, w.before #[Value.ref b] s = true) (hgv : (Jvm.Cond.and given_1 narrow_1).before #[Value.ref b] s = true) : ∃ a v : Nat, (vk_R "ClassGateModel" 131 "Exceptions" a s ∧ va_O "java/lang/String" a A s s.heap) ∧ va_OF "java/lang/String" "coder" "B" (.int 0) a A s s.heap ∧ va_OF "java/lang/String" "value" "[B" (.ref v) a A s s.heap ∧ va_T .byte v (xe_lt 17).2.2.2.length (fun j => .int ((xe_lt 17).2.2.2.getD j 0)) A s s.heap := by
  have e0 : (Cond.exactly (Term.string "ClassGateModel" 131) "java/lang/String").before #[Value.ref b] s = true := fl_at hgv (i := 477) (by decide +kernel)
  obtain ⟨a0, -, -, -, z0, -⟩ := Cond.exactly_spec (args := #[Value.ref b]) (first := s) (o := none) (s := s) (idx := []) (t := (Term.string "ClassGateModel" 131)) (cls := "java/lang/String") e0
  have r0 : vk_R "ClassGateModel" 131 "Exceptions" a0 s := vk_R.of (hts _ (tb_6 _ (List.mem_of_getElem? (i := 169) (by decide +kernel)))) z0
  have o0 : va_O "java/lang/String" a0 A s s.heap := va_Oof e0 z0 hA
  have p0 : (Cond.eq (.field (Term.string "ClassGateModel" 131) "java/lang/String" "coder" "B") (.int 0)).before #[Value.ref b] s = true := fl_at hgv (i := 478) (by decide +kernel)
  have q0 : (Cond.arrayOf (Term.field (Term.string "ClassGateModel" 131) "java/lang/String" "value" "[B") .byte).before #[Value.ref b] s = true := fl_at hgv (i := 479) (by decide +kernel)
  have l0 : (Cond.eq (.length (Term.field (Term.string "ClassGateModel" 131) "java/lang/String" "value" "[B")) (.int 10)).before #[Value.ref b] s = true := fl_at hgv (i := 480) (by decide +kernel)
  have hw : ∀ j : Nat, j < 10 → (flatC (Jvm.Cond.and given_1 narrow_1))[481 + j]? = some (Cond.eq (.elem (Term.field (Term.string "ClassGateModel" 131) "java/lang/String" "value" "[B") (.int (Int32.ofNat j))) (.int ((xe_lt 17).2.2.2.getD j 0))) := by decide +kernel
  obtain ⟨v0, y0, T0⟩ := va_Tof (tm := (Term.field (Term.string "ClassGateModel" 131) "java/lang/String" "value" "[B")) (ty := .byte) (N := 10) (f := fun j => .int ((xe_lt 17).2.2.2.getD j 0)) (A := A) (by decide) q0 (va_eqt l0) (fun j hj => va_eqt (fl_at hgv (hw j hj))) hA
  exact ⟨a0, v0, ⟨r0, o0⟩, vk_OFof z0 (va_eqt p0) hA, vk_OFof z0 y0 hA, T0⟩
set_option maxHeartbeats 8000000 in
set_option maxRecDepth 200000 in
theorem xs_18 {s : State} {b : Nat} {A : Nat → Prop} (hA : ∀ a : Nat, a < s.heap.size → ¬ A a) (hts : ∀ w ∈ lw_tbl, w.before #[Value.ref b] s = true) (hgv : (Jvm.Cond.and given_1 narrow_1).before #[Value.ref b] s = true) : ∃ a v : Nat, (vk_R "ClassGateModel" 133 "StackMapTable" a s ∧ va_O "java/lang/String" a A s s.heap) ∧ va_OF "java/lang/String" "coder" "B" (.int 0) a A s s.heap ∧ va_OF "java/lang/String" "value" "[B" (.ref v) a A s s.heap ∧ va_T .byte v (xe_lt 18).2.2.2.length (fun j => .int ((xe_lt 18).2.2.2.getD j 0)) A s s.heap := by
  have e0 : (Cond.exactly (Term.string "ClassGateModel" 133) "java/lang/String").before #[Value.ref b] s = true := fl_at hgv (i := 492) (by decide +kernel)
  obtain ⟨a0, -, -, -, z0, -⟩ := Cond.exactly_spec (args := #[Value.ref b]) (first := s) (o := none) (s := s) (idx := []) (t := (Term.string "ClassGateModel" 133)) (cls := "java/lang/String") e0
  have r0 : vk_R "ClassGateModel" 133 "StackMapTable" a0 s := vk_R.of (hts _ (tb_6 _ (List.mem_of_getElem? (i := 170) (by decide +kernel)))) z0
  have o0 : va_O "java/lang/String" a0 A s s.heap := va_Oof e0 z0 hA
  have p0 : (Cond.eq (.field (Term.string "ClassGateModel" 133) "java/lang/String" "coder" "B") (.int 0)).before #[Value.ref b] s = true := fl_at hgv (i := 493) (by decide +kernel)
  have q0 : (Cond.arrayOf (Term.field (Term.string "ClassGateModel" 133) "java/lang/String" "value" "[B") .byte).before #[Value.ref b] s = true := fl_at hgv (i := 494) (by decide +kernel)
  have l0 : (Cond.eq (.length (Term.field (Term.string "ClassGateModel" 133) "java/lang/String" "value" "[B")) (.int 13)).before #[Value.ref b] s = true := fl_at hgv (i := 495) (by decide +kernel)
  have hw : ∀ j : Nat, j < 13 → (flatC (Jvm.Cond.and given_1 narrow_1))[496 + j]? = some (Cond.eq (.elem (Term.field (Term.string "ClassGateModel" 133) "java/lang/String" "value" "[B") (.int (Int32.ofNat j))) (.int ((xe_lt 18).2.2.2.getD j 0))) := by decide +kernel
  obtain ⟨v0, y0, T0⟩ := va_Tof (tm := (Term.field (Term.string "ClassGateModel" 133) "java/lang/String" "value" "[B")) (ty := .byte) (N := 13) (f := fun j => .int ((xe_lt 18).2.2.2.getD j 0)) (A := A) (by decide) q0 (va_eqt l0) (fun j hj => va_eqt (fl_at hgv (hw j hj))) hA
  exact ⟨a0, v0, ⟨r0, o0⟩, vk_OFof z0 (va_eqt p0) hA, vk_OFof z0 y0 hA, T0⟩
set_option maxHeartbeats 8000000 in
set_option maxRecDepth 200000 in
theorem xs_19 {s : State} {b : Nat} {A : Nat → Prop} (hA : ∀ a : Nat, a < s.heap.size → ¬ A a) (hts : ∀ w ∈ lw_tbl, w.before #[Value.ref b] s = true) (hgv : (Jvm.Cond.and given_1 narrow_1).before #[Value.ref b] s = true) : ∃ a v : Nat, (vk_R "ClassGateModel" 135 "InnerClasses" a s ∧ va_O "java/lang/String" a A s s.heap) ∧ va_OF "java/lang/String" "coder" "B" (.int 0) a A s s.heap ∧ va_OF "java/lang/String" "value" "[B" (.ref v) a A s s.heap ∧ va_T .byte v (xe_lt 19).2.2.2.length (fun j => .int ((xe_lt 19).2.2.2.getD j 0)) A s s.heap := by
  have e0 : (Cond.exactly (Term.string "ClassGateModel" 135) "java/lang/String").before #[Value.ref b] s = true := fl_at hgv (i := 510) (by decide +kernel)
  obtain ⟨a0, -, -, -, z0, -⟩ := Cond.exactly_spec (args := #[Value.ref b]) (first := s) (o := none) (s := s) (idx := []) (t := (Term.string "ClassGateModel" 135)) (cls := "java/lang/String") e0
  have r0 : vk_R "ClassGateModel" 135 "InnerClasses" a0 s := vk_R.of (hts _ (tb_6 _ (List.mem_of_getElem? (i := 171) (by decide +kernel)))) z0
  have o0 : va_O "java/lang/String" a0 A s s.heap := va_Oof e0 z0 hA
  have p0 : (Cond.eq (.field (Term.string "ClassGateModel" 135) "java/lang/String" "coder" "B") (.int 0)).before #[Value.ref b] s = true := fl_at hgv (i := 511) (by decide +kernel)
  have q0 : (Cond.arrayOf (Term.field (Term.string "ClassGateModel" 135) "java/lang/String" "value" "[B") .byte).before #[Value.ref b] s = true := fl_at hgv (i := 512) (by decide +kernel)
  have l0 : (Cond.eq (.length (Term.field (Term.string "ClassGateModel" 135) "java/lang/String" "value" "[B")) (.int 12)).before #[Value.ref b] s = true := fl_at hgv (i := 513) (by decide +kernel)
  have hw : ∀ j : Nat, j < 12 → (flatC (Jvm.Cond.and given_1 narrow_1))[514 + j]? = some (Cond.eq (.elem (Term.field (Term.string "ClassGateModel" 135) "java/lang/String" "value" "[B") (.int (Int32.ofNat j))) (.int ((xe_lt 19).2.2.2.getD j 0))) := by decide +kernel
  obtain ⟨v0, y0, T0⟩ := va_Tof (tm := (Term.field (Term.string "ClassGateModel" 135) "java/lang/String" "value" "[B")) (ty := .byte) (N := 12) (f := fun j => .int ((xe_lt 19).2.2.2.getD j 0)) (A := A) (by decide) q0 (va_eqt l0) (fun j hj => va_eqt (fl_at hgv (hw j hj))) hA
  exact ⟨a0, v0, ⟨r0, o0⟩, vk_OFof z0 (va_eqt p0) hA, vk_OFof z0 y0 hA, T0⟩
set_option maxHeartbeats 8000000 in
set_option maxRecDepth 200000 in
theorem xs_20 {s : State} {b : Nat} {A : Nat → Prop} (hA : ∀ a : Nat, a < s.heap.size → ¬ A a) (hts : ∀ w ∈ lw_tbl, w.before #[Value.ref b] s = true) (hgv : (Jvm.Cond.and given_1 narrow_1).before #[Value.ref b] s = true) : ∃ a v : Nat, (vk_R "ClassGateModel" 137 "BootstrapMethods" a s ∧ va_O "java/lang/String" a A s s.heap) ∧ va_OF "java/lang/String" "coder" "B" (.int 0) a A s s.heap ∧ va_OF "java/lang/String" "value" "[B" (.ref v) a A s s.heap ∧ va_T .byte v (xe_lt 20).2.2.2.length (fun j => .int ((xe_lt 20).2.2.2.getD j 0)) A s s.heap := by
  have e0 : (Cond.exactly (Term.string "ClassGateModel" 137) "java/lang/String").before #[Value.ref b] s = true := fl_at hgv (i := 527) (by decide +kernel)
  obtain ⟨a0, -, -, -, z0, -⟩ := Cond.exactly_spec (args := #[Value.ref b]) (first := s) (o := none) (s := s) (idx := []) (t := (Term.string "ClassGateModel" 137)) (cls := "java/lang/String") e0
  have r0 : vk_R "ClassGateModel" 137 "BootstrapMethods" a0 s := vk_R.of (hts _ (tb_6 _ (List.mem_of_getElem? (i := 172) (by decide +kernel)))) z0
  have o0 : va_O "java/lang/String" a0 A s s.heap := va_Oof e0 z0 hA
  have p0 : (Cond.eq (.field (Term.string "ClassGateModel" 137) "java/lang/String" "coder" "B") (.int 0)).before #[Value.ref b] s = true := fl_at hgv (i := 528) (by decide +kernel)
  have q0 : (Cond.arrayOf (Term.field (Term.string "ClassGateModel" 137) "java/lang/String" "value" "[B") .byte).before #[Value.ref b] s = true := fl_at hgv (i := 529) (by decide +kernel)
  have l0 : (Cond.eq (.length (Term.field (Term.string "ClassGateModel" 137) "java/lang/String" "value" "[B")) (.int 16)).before #[Value.ref b] s = true := fl_at hgv (i := 530) (by decide +kernel)
  have hw : ∀ j : Nat, j < 16 → (flatC (Jvm.Cond.and given_1 narrow_1))[531 + j]? = some (Cond.eq (.elem (Term.field (Term.string "ClassGateModel" 137) "java/lang/String" "value" "[B") (.int (Int32.ofNat j))) (.int ((xe_lt 20).2.2.2.getD j 0))) := by decide +kernel
  obtain ⟨v0, y0, T0⟩ := va_Tof (tm := (Term.field (Term.string "ClassGateModel" 137) "java/lang/String" "value" "[B")) (ty := .byte) (N := 16) (f := fun j => .int ((xe_lt 20).2.2.2.getD j 0)) (A := A) (by decide) q0 (va_eqt l0) (fun j hj => va_eqt (fl_at hgv (hw j hj))) hA
  exact ⟨a0, v0, ⟨r0, o0⟩, vk_OFof z0 (va_eqt p0) hA, vk_OFof z0 y0 hA, T0⟩
set_option maxHeartbeats 8000000 in
set_option maxRecDepth 200000 in
theorem xs_21 {s : State} {b : Nat} {A : Nat → Prop} (hA : ∀ a : Nat, a < s.heap.size → ¬ A a) (hts : ∀ w ∈ lw_tbl, w.before #[Value.ref b] s = true) (hgv : (Jvm.Cond.and given_1 narrow_1).before #[Value.ref b] s = true) : ∃ a v : Nat, (vk_R "ClassGateModel" 139 "NestHost" a s ∧ va_O "java/lang/String" a A s s.heap) ∧ va_OF "java/lang/String" "coder" "B" (.int 0) a A s s.heap ∧ va_OF "java/lang/String" "value" "[B" (.ref v) a A s s.heap ∧ va_T .byte v (xe_lt 21).2.2.2.length (fun j => .int ((xe_lt 21).2.2.2.getD j 0)) A s s.heap := by
  have e0 : (Cond.exactly (Term.string "ClassGateModel" 139) "java/lang/String").before #[Value.ref b] s = true := fl_at hgv (i := 548) (by decide +kernel)
  obtain ⟨a0, -, -, -, z0, -⟩ := Cond.exactly_spec (args := #[Value.ref b]) (first := s) (o := none) (s := s) (idx := []) (t := (Term.string "ClassGateModel" 139)) (cls := "java/lang/String") e0
  have r0 : vk_R "ClassGateModel" 139 "NestHost" a0 s := vk_R.of (hts _ (tb_6 _ (List.mem_of_getElem? (i := 173) (by decide +kernel)))) z0
  have o0 : va_O "java/lang/String" a0 A s s.heap := va_Oof e0 z0 hA
  have p0 : (Cond.eq (.field (Term.string "ClassGateModel" 139) "java/lang/String" "coder" "B") (.int 0)).before #[Value.ref b] s = true := fl_at hgv (i := 549) (by decide +kernel)
  have q0 : (Cond.arrayOf (Term.field (Term.string "ClassGateModel" 139) "java/lang/String" "value" "[B") .byte).before #[Value.ref b] s = true := fl_at hgv (i := 550) (by decide +kernel)
  have l0 : (Cond.eq (.length (Term.field (Term.string "ClassGateModel" 139) "java/lang/String" "value" "[B")) (.int 8)).before #[Value.ref b] s = true := fl_at hgv (i := 551) (by decide +kernel)
  have hw : ∀ j : Nat, j < 8 → (flatC (Jvm.Cond.and given_1 narrow_1))[552 + j]? = some (Cond.eq (.elem (Term.field (Term.string "ClassGateModel" 139) "java/lang/String" "value" "[B") (.int (Int32.ofNat j))) (.int ((xe_lt 21).2.2.2.getD j 0))) := by decide +kernel
  obtain ⟨v0, y0, T0⟩ := va_Tof (tm := (Term.field (Term.string "ClassGateModel" 139) "java/lang/String" "value" "[B")) (ty := .byte) (N := 8) (f := fun j => .int ((xe_lt 21).2.2.2.getD j 0)) (A := A) (by decide) q0 (va_eqt l0) (fun j hj => va_eqt (fl_at hgv (hw j hj))) hA
  exact ⟨a0, v0, ⟨r0, o0⟩, vk_OFof z0 (va_eqt p0) hA, vk_OFof z0 y0 hA, T0⟩
set_option maxHeartbeats 8000000 in
set_option maxRecDepth 200000 in
theorem xs_22 {s : State} {b : Nat} {A : Nat → Prop} (hA : ∀ a : Nat, a < s.heap.size → ¬ A a) (hts : ∀ w ∈ lw_tbl, w.before #[Value.ref b] s = true) (hgv : (Jvm.Cond.and given_1 narrow_1).before #[Value.ref b] s = true) : ∃ a v : Nat, (vk_R "ClassGateModel" 141 "NestMembers" a s ∧ va_O "java/lang/String" a A s s.heap) ∧ va_OF "java/lang/String" "coder" "B" (.int 0) a A s s.heap ∧ va_OF "java/lang/String" "value" "[B" (.ref v) a A s s.heap ∧ va_T .byte v (xe_lt 22).2.2.2.length (fun j => .int ((xe_lt 22).2.2.2.getD j 0)) A s s.heap := by
  have e0 : (Cond.exactly (Term.string "ClassGateModel" 141) "java/lang/String").before #[Value.ref b] s = true := fl_at hgv (i := 561) (by decide +kernel)
  obtain ⟨a0, -, -, -, z0, -⟩ := Cond.exactly_spec (args := #[Value.ref b]) (first := s) (o := none) (s := s) (idx := []) (t := (Term.string "ClassGateModel" 141)) (cls := "java/lang/String") e0
  have r0 : vk_R "ClassGateModel" 141 "NestMembers" a0 s := vk_R.of (hts _ (tb_6 _ (List.mem_of_getElem? (i := 174) (by decide +kernel)))) z0
  have o0 : va_O "java/lang/String" a0 A s s.heap := va_Oof e0 z0 hA
  have p0 : (Cond.eq (.field (Term.string "ClassGateModel" 141) "java/lang/String" "coder" "B") (.int 0)).before #[Value.ref b] s = true := fl_at hgv (i := 562) (by decide +kernel)
  have q0 : (Cond.arrayOf (Term.field (Term.string "ClassGateModel" 141) "java/lang/String" "value" "[B") .byte).before #[Value.ref b] s = true := fl_at hgv (i := 563) (by decide +kernel)
  have l0 : (Cond.eq (.length (Term.field (Term.string "ClassGateModel" 141) "java/lang/String" "value" "[B")) (.int 11)).before #[Value.ref b] s = true := fl_at hgv (i := 564) (by decide +kernel)
  have hw : ∀ j : Nat, j < 11 → (flatC (Jvm.Cond.and given_1 narrow_1))[565 + j]? = some (Cond.eq (.elem (Term.field (Term.string "ClassGateModel" 141) "java/lang/String" "value" "[B") (.int (Int32.ofNat j))) (.int ((xe_lt 22).2.2.2.getD j 0))) := by decide +kernel
  obtain ⟨v0, y0, T0⟩ := va_Tof (tm := (Term.field (Term.string "ClassGateModel" 141) "java/lang/String" "value" "[B")) (ty := .byte) (N := 11) (f := fun j => .int ((xe_lt 22).2.2.2.getD j 0)) (A := A) (by decide) q0 (va_eqt l0) (fun j hj => va_eqt (fl_at hgv (hw j hj))) hA
  exact ⟨a0, v0, ⟨r0, o0⟩, vk_OFof z0 (va_eqt p0) hA, vk_OFof z0 y0 hA, T0⟩
set_option maxHeartbeats 8000000 in
set_option maxRecDepth 200000 in
theorem xs_23 {s : State} {b : Nat} {A : Nat → Prop} (hA : ∀ a : Nat, a < s.heap.size → ¬ A a) (hts : ∀ w ∈ lw_tbl, w.before #[Value.ref b] s = true) (hgv : (Jvm.Cond.and given_1 narrow_1).before #[Value.ref b] s = true) : ∃ a v : Nat, (vk_R "ClassGateModel" 143 "Record" a s ∧ va_O "java/lang/String" a A s s.heap) ∧ va_OF "java/lang/String" "coder" "B" (.int 0) a A s s.heap ∧ va_OF "java/lang/String" "value" "[B" (.ref v) a A s s.heap ∧ va_T .byte v (xe_lt 23).2.2.2.length (fun j => .int ((xe_lt 23).2.2.2.getD j 0)) A s s.heap := by
  have e0 : (Cond.exactly (Term.string "ClassGateModel" 143) "java/lang/String").before #[Value.ref b] s = true := fl_at hgv (i := 577) (by decide +kernel)
  obtain ⟨a0, -, -, -, z0, -⟩ := Cond.exactly_spec (args := #[Value.ref b]) (first := s) (o := none) (s := s) (idx := []) (t := (Term.string "ClassGateModel" 143)) (cls := "java/lang/String") e0
  have r0 : vk_R "ClassGateModel" 143 "Record" a0 s := vk_R.of (hts _ (tb_6 _ (List.mem_of_getElem? (i := 175) (by decide +kernel)))) z0
  have o0 : va_O "java/lang/String" a0 A s s.heap := va_Oof e0 z0 hA
  have p0 : (Cond.eq (.field (Term.string "ClassGateModel" 143) "java/lang/String" "coder" "B") (.int 0)).before #[Value.ref b] s = true := fl_at hgv (i := 578) (by decide +kernel)
  have q0 : (Cond.arrayOf (Term.field (Term.string "ClassGateModel" 143) "java/lang/String" "value" "[B") .byte).before #[Value.ref b] s = true := fl_at hgv (i := 579) (by decide +kernel)
  have l0 : (Cond.eq (.length (Term.field (Term.string "ClassGateModel" 143) "java/lang/String" "value" "[B")) (.int 6)).before #[Value.ref b] s = true := fl_at hgv (i := 580) (by decide +kernel)
  have hw : ∀ j : Nat, j < 6 → (flatC (Jvm.Cond.and given_1 narrow_1))[581 + j]? = some (Cond.eq (.elem (Term.field (Term.string "ClassGateModel" 143) "java/lang/String" "value" "[B") (.int (Int32.ofNat j))) (.int ((xe_lt 23).2.2.2.getD j 0))) := by decide +kernel
  obtain ⟨v0, y0, T0⟩ := va_Tof (tm := (Term.field (Term.string "ClassGateModel" 143) "java/lang/String" "value" "[B")) (ty := .byte) (N := 6) (f := fun j => .int ((xe_lt 23).2.2.2.getD j 0)) (A := A) (by decide) q0 (va_eqt l0) (fun j hj => va_eqt (fl_at hgv (hw j hj))) hA
  exact ⟨a0, v0, ⟨r0, o0⟩, vk_OFof z0 (va_eqt p0) hA, vk_OFof z0 y0 hA, T0⟩
set_option maxHeartbeats 8000000 in
set_option maxRecDepth 200000 in
theorem xs_24 {s : State} {b : Nat} {A : Nat → Prop} (hA : ∀ a : Nat, a < s.heap.size → ¬ A a) (hts : ∀ w ∈ lw_tbl, w.before #[Value.ref b] s = true) (hgv : (Jvm.Cond.and given_1 narrow_1).before #[Value.ref b] s = true) : ∃ a v : Nat, (vk_R "ClassGateModel" 145 "PermittedSubclasses" a s ∧ va_O "java/lang/String" a A s s.heap) ∧ va_OF "java/lang/String" "coder" "B" (.int 0) a A s s.heap ∧ va_OF "java/lang/String" "value" "[B" (.ref v) a A s s.heap ∧ va_T .byte v (xe_lt 24).2.2.2.length (fun j => .int ((xe_lt 24).2.2.2.getD j 0)) A s s.heap := by
  have e0 : (Cond.exactly (Term.string "ClassGateModel" 145) "java/lang/String").before #[Value.ref b] s = true := fl_at hgv (i := 588) (by decide +kernel)
  obtain ⟨a0, -, -, -, z0, -⟩ := Cond.exactly_spec (args := #[Value.ref b]) (first := s) (o := none) (s := s) (idx := []) (t := (Term.string "ClassGateModel" 145)) (cls := "java/lang/String") e0
  have r0 : vk_R "ClassGateModel" 145 "PermittedSubclasses" a0 s := vk_R.of (hts _ (tb_6 _ (List.mem_of_getElem? (i := 176) (by decide +kernel)))) z0
  have o0 : va_O "java/lang/String" a0 A s s.heap := va_Oof e0 z0 hA
  have p0 : (Cond.eq (.field (Term.string "ClassGateModel" 145) "java/lang/String" "coder" "B") (.int 0)).before #[Value.ref b] s = true := fl_at hgv (i := 589) (by decide +kernel)
  have q0 : (Cond.arrayOf (Term.field (Term.string "ClassGateModel" 145) "java/lang/String" "value" "[B") .byte).before #[Value.ref b] s = true := fl_at hgv (i := 590) (by decide +kernel)
  have l0 : (Cond.eq (.length (Term.field (Term.string "ClassGateModel" 145) "java/lang/String" "value" "[B")) (.int 19)).before #[Value.ref b] s = true := fl_at hgv (i := 591) (by decide +kernel)
  have hw : ∀ j : Nat, j < 19 → (flatC (Jvm.Cond.and given_1 narrow_1))[592 + j]? = some (Cond.eq (.elem (Term.field (Term.string "ClassGateModel" 145) "java/lang/String" "value" "[B") (.int (Int32.ofNat j))) (.int ((xe_lt 24).2.2.2.getD j 0))) := by decide +kernel
  obtain ⟨v0, y0, T0⟩ := va_Tof (tm := (Term.field (Term.string "ClassGateModel" 145) "java/lang/String" "value" "[B")) (ty := .byte) (N := 19) (f := fun j => .int ((xe_lt 24).2.2.2.getD j 0)) (A := A) (by decide) q0 (va_eqt l0) (fun j hj => va_eqt (fl_at hgv (hw j hj))) hA
  exact ⟨a0, v0, ⟨r0, o0⟩, vk_OFof z0 (va_eqt p0) hA, vk_OFof z0 y0 hA, T0⟩
set_option maxHeartbeats 8000000 in
set_option maxRecDepth 200000 in
theorem xs_25 {s : State} {b : Nat} {A : Nat → Prop} (hA : ∀ a : Nat, a < s.heap.size → ¬ A a) (hts : ∀ w ∈ lw_tbl, w.before #[Value.ref b] s = true) (hgv : (Jvm.Cond.and given_1 narrow_1).before #[Value.ref b] s = true) : ∃ a v : Nat, (vk_R "ClassGateModel" 178 "<init>" a s ∧ va_O "java/lang/String" a A s s.heap) ∧ va_OF "java/lang/String" "coder" "B" (.int 0) a A s s.heap ∧ va_OF "java/lang/String" "value" "[B" (.ref v) a A s s.heap ∧ va_T .byte v (xe_lt 25).2.2.2.length (fun j => .int ((xe_lt 25).2.2.2.getD j 0)) A s s.heap := by
  have e0 : (Cond.exactly (Term.string "ClassGateModel" 178) "java/lang/String").before #[Value.ref b] s = true := fl_at hgv (i := 612) (by decide +kernel)
  obtain ⟨a0, -, -, -, z0, -⟩ := Cond.exactly_spec (args := #[Value.ref b]) (first := s) (o := none) (s := s) (idx := []) (t := (Term.string "ClassGateModel" 178)) (cls := "java/lang/String") e0
  have r0 : vk_R "ClassGateModel" 178 "<init>" a0 s := vk_R.of (hts _ (tb_6 _ (List.mem_of_getElem? (i := 181) (by decide +kernel)))) z0
  have o0 : va_O "java/lang/String" a0 A s s.heap := va_Oof e0 z0 hA
  have p0 : (Cond.eq (.field (Term.string "ClassGateModel" 178) "java/lang/String" "coder" "B") (.int 0)).before #[Value.ref b] s = true := fl_at hgv (i := 613) (by decide +kernel)
  have q0 : (Cond.arrayOf (Term.field (Term.string "ClassGateModel" 178) "java/lang/String" "value" "[B") .byte).before #[Value.ref b] s = true := fl_at hgv (i := 614) (by decide +kernel)
  have l0 : (Cond.eq (.length (Term.field (Term.string "ClassGateModel" 178) "java/lang/String" "value" "[B")) (.int 6)).before #[Value.ref b] s = true := fl_at hgv (i := 615) (by decide +kernel)
  have hw : ∀ j : Nat, j < 6 → (flatC (Jvm.Cond.and given_1 narrow_1))[616 + j]? = some (Cond.eq (.elem (Term.field (Term.string "ClassGateModel" 178) "java/lang/String" "value" "[B") (.int (Int32.ofNat j))) (.int ((xe_lt 25).2.2.2.getD j 0))) := by decide +kernel
  obtain ⟨v0, y0, T0⟩ := va_Tof (tm := (Term.field (Term.string "ClassGateModel" 178) "java/lang/String" "value" "[B")) (ty := .byte) (N := 6) (f := fun j => .int ((xe_lt 25).2.2.2.getD j 0)) (A := A) (by decide) q0 (va_eqt l0) (fun j hj => va_eqt (fl_at hgv (hw j hj))) hA
  exact ⟨a0, v0, ⟨r0, o0⟩, vk_OFof z0 (va_eqt p0) hA, vk_OFof z0 y0 hA, T0⟩
set_option maxHeartbeats 8000000 in
set_option maxRecDepth 200000 in
theorem xs_26 {s : State} {b : Nat} {A : Nat → Prop} (hA : ∀ a : Nat, a < s.heap.size → ¬ A a) (hts : ∀ w ∈ lw_tbl, w.before #[Value.ref b] s = true) (hgv : (Jvm.Cond.and given_1 narrow_1).before #[Value.ref b] s = true) : ∃ a v : Nat, (vk_R "ClassGateModel" 186 "<clinit>" a s ∧ va_O "java/lang/String" a A s s.heap) ∧ va_OF "java/lang/String" "coder" "B" (.int 0) a A s s.heap ∧ va_OF "java/lang/String" "value" "[B" (.ref v) a A s s.heap ∧ va_T .byte v (xe_lt 26).2.2.2.length (fun j => .int ((xe_lt 26).2.2.2.getD j 0)) A s s.heap := by
  have e0 : (Cond.exactly (Term.string "ClassGateModel" 186) "java/lang/String").before #[Value.ref b] s = true := fl_at hgv (i := 624) (by decide +kernel)
  obtain ⟨a0, -, -, -, z0, -⟩ := Cond.exactly_spec (args := #[Value.ref b]) (first := s) (o := none) (s := s) (idx := []) (t := (Term.string "ClassGateModel" 186)) (cls := "java/lang/String") e0
  have r0 : vk_R "ClassGateModel" 186 "<clinit>" a0 s := vk_R.of (hts _ (tb_6 _ (List.mem_of_getElem? (i := 192) (by decide +kernel)))) z0
  have o0 : va_O "java/lang/String" a0 A s s.heap := va_Oof e0 z0 hA
  have p0 : (Cond.eq (.field (Term.string "ClassGateModel" 186) "java/lang/String" "coder" "B") (.int 0)).before #[Value.ref b] s = true := fl_at hgv (i := 625) (by decide +kernel)
  have q0 : (Cond.arrayOf (Term.field (Term.string "ClassGateModel" 186) "java/lang/String" "value" "[B") .byte).before #[Value.ref b] s = true := fl_at hgv (i := 626) (by decide +kernel)
  have l0 : (Cond.eq (.length (Term.field (Term.string "ClassGateModel" 186) "java/lang/String" "value" "[B")) (.int 8)).before #[Value.ref b] s = true := fl_at hgv (i := 627) (by decide +kernel)
  have hw : ∀ j : Nat, j < 8 → (flatC (Jvm.Cond.and given_1 narrow_1))[628 + j]? = some (Cond.eq (.elem (Term.field (Term.string "ClassGateModel" 186) "java/lang/String" "value" "[B") (.int (Int32.ofNat j))) (.int ((xe_lt 26).2.2.2.getD j 0))) := by decide +kernel
  obtain ⟨v0, y0, T0⟩ := va_Tof (tm := (Term.field (Term.string "ClassGateModel" 186) "java/lang/String" "value" "[B")) (ty := .byte) (N := 8) (f := fun j => .int ((xe_lt 26).2.2.2.getD j 0)) (A := A) (by decide) q0 (va_eqt l0) (fun j hj => va_eqt (fl_at hgv (hw j hj))) hA
  exact ⟨a0, v0, ⟨r0, o0⟩, vk_OFof z0 (va_eqt p0) hA, vk_OFof z0 y0 hA, T0⟩
set_option maxHeartbeats 8000000 in
set_option maxRecDepth 200000 in
theorem xs_27 {s : State} {b : Nat} {A : Nat → Prop} (hA : ∀ a : Nat, a < s.heap.size → ¬ A a) (hts : ∀ w ∈ lw_tbl, w.before #[Value.ref b] s = true) (hgv : (Jvm.Cond.and given_1 narrow_1).before #[Value.ref b] s = true) : ∃ a v : Nat, (vk_R "ClassGateModel" 191 "java/lang/Object" a s ∧ va_O "java/lang/String" a A s s.heap) ∧ va_OF "java/lang/String" "coder" "B" (.int 0) a A s s.heap ∧ va_OF "java/lang/String" "value" "[B" (.ref v) a A s s.heap ∧ va_T .byte v (xe_lt 27).2.2.2.length (fun j => .int ((xe_lt 27).2.2.2.getD j 0)) A s s.heap := by
  have e0 : (Cond.exactly (Term.string "ClassGateModel" 191) "java/lang/String").before #[Value.ref b] s = true := fl_at hgv (i := 637) (by decide +kernel)
  obtain ⟨a0, -, -, -, z0, -⟩ := Cond.exactly_spec (args := #[Value.ref b]) (first := s) (o := none) (s := s) (idx := []) (t := (Term.string "ClassGateModel" 191)) (cls := "java/lang/String") e0
  have r0 : vk_R "ClassGateModel" 191 "java/lang/Object" a0 s := vk_R.of (hts _ (tb_6 _ (List.mem_of_getElem? (i := 193) (by decide +kernel)))) z0
  have o0 : va_O "java/lang/String" a0 A s s.heap := va_Oof e0 z0 hA
  have p0 : (Cond.eq (.field (Term.string "ClassGateModel" 191) "java/lang/String" "coder" "B") (.int 0)).before #[Value.ref b] s = true := fl_at hgv (i := 638) (by decide +kernel)
  have q0 : (Cond.arrayOf (Term.field (Term.string "ClassGateModel" 191) "java/lang/String" "value" "[B") .byte).before #[Value.ref b] s = true := fl_at hgv (i := 639) (by decide +kernel)
  have l0 : (Cond.eq (.length (Term.field (Term.string "ClassGateModel" 191) "java/lang/String" "value" "[B")) (.int 16)).before #[Value.ref b] s = true := fl_at hgv (i := 640) (by decide +kernel)
  have hw : ∀ j : Nat, j < 16 → (flatC (Jvm.Cond.and given_1 narrow_1))[641 + j]? = some (Cond.eq (.elem (Term.field (Term.string "ClassGateModel" 191) "java/lang/String" "value" "[B") (.int (Int32.ofNat j))) (.int ((xe_lt 27).2.2.2.getD j 0))) := by decide +kernel
  obtain ⟨v0, y0, T0⟩ := va_Tof (tm := (Term.field (Term.string "ClassGateModel" 191) "java/lang/String" "value" "[B")) (ty := .byte) (N := 16) (f := fun j => .int ((xe_lt 27).2.2.2.getD j 0)) (A := A) (by decide) q0 (va_eqt l0) (fun j hj => va_eqt (fl_at hgv (hw j hj))) hA
  exact ⟨a0, v0, ⟨r0, o0⟩, vk_OFof z0 (va_eqt p0) hA, vk_OFof z0 y0 hA, T0⟩
set_option maxHeartbeats 8000000 in
set_option maxRecDepth 200000 in
theorem xs_28 {s : State} {b : Nat} {A : Nat → Prop} (hA : ∀ a : Nat, a < s.heap.size → ¬ A a) (hts : ∀ w ∈ lw_tbl, w.before #[Value.ref b] s = true) (hgv : (Jvm.Cond.and given_1 narrow_1).before #[Value.ref b] s = true) : ∃ a v : Nat, (vk_R "ClassGateModel" 383 "Ljava/lang/String;" a s ∧ va_O "java/lang/String" a A s s.heap) ∧ va_OF "java/lang/String" "coder" "B" (.int 0) a A s s.heap ∧ va_OF "java/lang/String" "value" "[B" (.ref v) a A s s.heap ∧ va_T .byte v (xe_lt 28).2.2.2.length (fun j => .int ((xe_lt 28).2.2.2.getD j 0)) A s s.heap := by
  have e0 : (Cond.exactly (Term.string "ClassGateModel" 383) "java/lang/String").before #[Value.ref b] s = true := fl_at hgv (i := 658) (by decide +kernel)
  obtain ⟨a0, -, -, -, z0, -⟩ := Cond.exactly_spec (args := #[Value.ref b]) (first := s) (o := none) (s := s) (idx := []) (t := (Term.string "ClassGateModel" 383)) (cls := "java/lang/String") e0
  have r0 : vk_R "ClassGateModel" 383 "Ljava/lang/String;" a0 s := vk_R.of (hts _ (tb_8 _ (List.mem_of_getElem? (i := 132) (by decide +kernel)))) z0
  have o0 : va_O "java/lang/String" a0 A s s.heap := va_Oof e0 z0 hA
  have p0 : (Cond.eq (.field (Term.string "ClassGateModel" 383) "java/lang/String" "coder" "B") (.int 0)).before #[Value.ref b] s = true := fl_at hgv (i := 659) (by decide +kernel)
  have q0 : (Cond.arrayOf (Term.field (Term.string "ClassGateModel" 383) "java/lang/String" "value" "[B") .byte).before #[Value.ref b] s = true := fl_at hgv (i := 660) (by decide +kernel)
  have l0 : (Cond.eq (.length (Term.field (Term.string "ClassGateModel" 383) "java/lang/String" "value" "[B")) (.int 18)).before #[Value.ref b] s = true := fl_at hgv (i := 661) (by decide +kernel)
  have hw : ∀ j : Nat, j < 18 → (flatC (Jvm.Cond.and given_1 narrow_1))[662 + j]? = some (Cond.eq (.elem (Term.field (Term.string "ClassGateModel" 383) "java/lang/String" "value" "[B") (.int (Int32.ofNat j))) (.int ((xe_lt 28).2.2.2.getD j 0))) := by decide +kernel
  obtain ⟨v0, y0, T0⟩ := va_Tof (tm := (Term.field (Term.string "ClassGateModel" 383) "java/lang/String" "value" "[B")) (ty := .byte) (N := 18) (f := fun j => .int ((xe_lt 28).2.2.2.getD j 0)) (A := A) (by decide) q0 (va_eqt l0) (fun j hj => va_eqt (fl_at hgv (hw j hj))) hA
  exact ⟨a0, v0, ⟨r0, o0⟩, vk_OFof z0 (va_eqt p0) hA, vk_OFof z0 y0 hA, T0⟩
