/-! literals at the entry (laid by wip/p2/c95.py) -/
theorem fl_at {args : Array Value} {s : State} (hgv : (Jvm.Cond.and given_1 narrow_1).before args s = true) {i : Nat} {w : Cond} (h : (flatC (Jvm.Cond.and given_1 narrow_1))[i]? = some w) : w.before args s = true := flat_of_before _ hgv w (List.mem_of_getElem? h)
set_option maxHeartbeats 8000000 in
set_option maxRecDepth 200000 in
theorem xs_0 {s : State} {b : Nat} {A : Nat → Prop} (hA : ∀ a : Nat, a < s.heap.size → ¬ A a) (hts : ∀ w ∈ lw_tbl, w.before #[Value.ref b] s = true) (hgv : (Jvm.Cond.and given_1 narrow_1).before #[Value.ref b] s = true) : ∃ a v : Nat, (vk_R "ClassGate$AttributeCheck" 49 "ConstantValue" a s ∧ va_O "java/lang/String" a A s s.heap) ∧ va_OF "java/lang/String" "coder" "B" (.int 0) a A s s.heap ∧ va_OF "java/lang/String" "value" "[B" (.ref v) a A s s.heap ∧ va_T .byte v (xe_lt 0).2.2.2.length (fun j => .int ((xe_lt 0).2.2.2.getD j 0)) A s s.heap := by
  have e0 : (Cond.exactly (Term.string "ClassGate$AttributeCheck" 49) "java/lang/String").before #[Value.ref b] s = true := fl_at hgv (i := 72) (by decide +kernel)
  obtain ⟨a0, -, -, -, z0, -⟩ := Cond.exactly_spec (args := #[Value.ref b]) (first := s) (o := none) (s := s) (idx := []) (t := (Term.string "ClassGate$AttributeCheck" 49)) (cls := "java/lang/String") e0
  have r0 : vk_R "ClassGate$AttributeCheck" 49 "ConstantValue" a0 s := vk_R.of (hts _ (tb_4 _ (List.mem_of_getElem? (i := 5) (by decide +kernel)))) z0
  have o0 : va_O "java/lang/String" a0 A s s.heap := va_Oof e0 z0 hA
  have p0 : (Cond.eq (.field (Term.string "ClassGate$AttributeCheck" 49) "java/lang/String" "coder" "B") (.int 0)).before #[Value.ref b] s = true := fl_at hgv (i := 73) (by decide +kernel)
  have q0 : (Cond.arrayOf (Term.field (Term.string "ClassGate$AttributeCheck" 49) "java/lang/String" "value" "[B") .byte).before #[Value.ref b] s = true := fl_at hgv (i := 74) (by decide +kernel)
  have l0 : (Cond.eq (.length (Term.field (Term.string "ClassGate$AttributeCheck" 49) "java/lang/String" "value" "[B")) (.int 13)).before #[Value.ref b] s = true := fl_at hgv (i := 75) (by decide +kernel)
  have hw : ∀ j : Nat, j < 13 → (flatC (Jvm.Cond.and given_1 narrow_1))[76 + j]? = some (Cond.eq (.elem (Term.field (Term.string "ClassGate$AttributeCheck" 49) "java/lang/String" "value" "[B") (.int (Int32.ofNat j))) (.int ((xe_lt 0).2.2.2.getD j 0))) := by decide +kernel
  obtain ⟨v0, y0, T0⟩ := va_Tof (tm := (Term.field (Term.string "ClassGate$AttributeCheck" 49) "java/lang/String" "value" "[B")) (ty := .byte) (N := 13) (f := fun j => .int ((xe_lt 0).2.2.2.getD j 0)) (A := A) (by decide) q0 (va_eqt l0) (fun j hj => va_eqt (fl_at hgv (hw j hj))) hA
  exact ⟨a0, v0, ⟨r0, o0⟩, vk_OFof z0 (va_eqt p0) hA, vk_OFof z0 y0 hA, T0⟩
set_option maxHeartbeats 8000000 in
set_option maxRecDepth 200000 in
theorem xs_1 {s : State} {b : Nat} {A : Nat → Prop} (hA : ∀ a : Nat, a < s.heap.size → ¬ A a) (hts : ∀ w ∈ lw_tbl, w.before #[Value.ref b] s = true) (hgv : (Jvm.Cond.and given_1 narrow_1).before #[Value.ref b] s = true) : ∃ a v : Nat, (vk_R "ClassGate$AttributeCheck" 123 "Code" a s ∧ va_O "java/lang/String" a A s s.heap) ∧ va_OF "java/lang/String" "coder" "B" (.int 0) a A s s.heap ∧ va_OF "java/lang/String" "value" "[B" (.ref v) a A s s.heap ∧ va_T .byte v (xe_lt 1).2.2.2.length (fun j => .int ((xe_lt 1).2.2.2.getD j 0)) A s s.heap := by
  have e0 : (Cond.exactly (Term.string "ClassGate$AttributeCheck" 123) "java/lang/String").before #[Value.ref b] s = true := fl_at hgv (i := 134) (by decide +kernel)
  obtain ⟨a0, -, -, -, z0, -⟩ := Cond.exactly_spec (args := #[Value.ref b]) (first := s) (o := none) (s := s) (idx := []) (t := (Term.string "ClassGate$AttributeCheck" 123)) (cls := "java/lang/String") e0
  have r0 : vk_R "ClassGate$AttributeCheck" 123 "Code" a0 s := vk_R.of (hts _ (tb_4 _ (List.mem_of_getElem? (i := 101) (by decide +kernel)))) z0
  have o0 : va_O "java/lang/String" a0 A s s.heap := va_Oof e0 z0 hA
  have p0 : (Cond.eq (.field (Term.string "ClassGate$AttributeCheck" 123) "java/lang/String" "coder" "B") (.int 0)).before #[Value.ref b] s = true := fl_at hgv (i := 135) (by decide +kernel)
  have q0 : (Cond.arrayOf (Term.field (Term.string "ClassGate$AttributeCheck" 123) "java/lang/String" "value" "[B") .byte).before #[Value.ref b] s = true := fl_at hgv (i := 136) (by decide +kernel)
  have l0 : (Cond.eq (.length (Term.field (Term.string "ClassGate$AttributeCheck" 123) "java/lang/String" "value" "[B")) (.int 4)).before #[Value.ref b] s = true := fl_at hgv (i := 137) (by decide +kernel)
  have hw : ∀ j : Nat, j < 4 → (flatC (Jvm.Cond.and given_1 narrow_1))[138 + j]? = some (Cond.eq (.elem (Term.field (Term.string "ClassGate$AttributeCheck" 123) "java/lang/String" "value" "[B") (.int (Int32.ofNat j))) (.int ((xe_lt 1).2.2.2.getD j 0))) := by decide +kernel
  obtain ⟨v0, y0, T0⟩ := va_Tof (tm := (Term.field (Term.string "ClassGate$AttributeCheck" 123) "java/lang/String" "value" "[B")) (ty := .byte) (N := 4) (f := fun j => .int ((xe_lt 1).2.2.2.getD j 0)) (A := A) (by decide) q0 (va_eqt l0) (fun j hj => va_eqt (fl_at hgv (hw j hj))) hA
  exact ⟨a0, v0, ⟨r0, o0⟩, vk_OFof z0 (va_eqt p0) hA, vk_OFof z0 y0 hA, T0⟩
set_option maxHeartbeats 8000000 in
set_option maxRecDepth 200000 in
theorem xs_2 {s : State} {b : Nat} {A : Nat → Prop} (hA : ∀ a : Nat, a < s.heap.size → ¬ A a) (hts : ∀ w ∈ lw_tbl, w.before #[Value.ref b] s = true) (hgv : (Jvm.Cond.and given_1 narrow_1).before #[Value.ref b] s = true) : ∃ a v : Nat, (vk_R "ClassGate$AttributeCheck" 125 "Exceptions" a s ∧ va_O "java/lang/String" a A s s.heap) ∧ va_OF "java/lang/String" "coder" "B" (.int 0) a A s s.heap ∧ va_OF "java/lang/String" "value" "[B" (.ref v) a A s s.heap ∧ va_T .byte v (xe_lt 2).2.2.2.length (fun j => .int ((xe_lt 2).2.2.2.getD j 0)) A s s.heap := by
  have e0 : (Cond.exactly (Term.string "ClassGate$AttributeCheck" 125) "java/lang/String").before #[Value.ref b] s = true := fl_at hgv (i := 142) (by decide +kernel)
  obtain ⟨a0, -, -, -, z0, -⟩ := Cond.exactly_spec (args := #[Value.ref b]) (first := s) (o := none) (s := s) (idx := []) (t := (Term.string "ClassGate$AttributeCheck" 125)) (cls := "java/lang/String") e0
  have r0 : vk_R "ClassGate$AttributeCheck" 125 "Exceptions" a0 s := vk_R.of (hts _ (tb_4 _ (List.mem_of_getElem? (i := 102) (by decide +kernel)))) z0
  have o0 : va_O "java/lang/String" a0 A s s.heap := va_Oof e0 z0 hA
  have p0 : (Cond.eq (.field (Term.string "ClassGate$AttributeCheck" 125) "java/lang/String" "coder" "B") (.int 0)).before #[Value.ref b] s = true := fl_at hgv (i := 143) (by decide +kernel)
  have q0 : (Cond.arrayOf (Term.field (Term.string "ClassGate$AttributeCheck" 125) "java/lang/String" "value" "[B") .byte).before #[Value.ref b] s = true := fl_at hgv (i := 144) (by decide +kernel)
  have l0 : (Cond.eq (.length (Term.field (Term.string "ClassGate$AttributeCheck" 125) "java/lang/String" "value" "[B")) (.int 10)).before #[Value.ref b] s = true := fl_at hgv (i := 145) (by decide +kernel)
  have hw : ∀ j : Nat, j < 10 → (flatC (Jvm.Cond.and given_1 narrow_1))[146 + j]? = some (Cond.eq (.elem (Term.field (Term.string "ClassGate$AttributeCheck" 125) "java/lang/String" "value" "[B") (.int (Int32.ofNat j))) (.int ((xe_lt 2).2.2.2.getD j 0))) := by decide +kernel
  obtain ⟨v0, y0, T0⟩ := va_Tof (tm := (Term.field (Term.string "ClassGate$AttributeCheck" 125) "java/lang/String" "value" "[B")) (ty := .byte) (N := 10) (f := fun j => .int ((xe_lt 2).2.2.2.getD j 0)) (A := A) (by decide) q0 (va_eqt l0) (fun j hj => va_eqt (fl_at hgv (hw j hj))) hA
  exact ⟨a0, v0, ⟨r0, o0⟩, vk_OFof z0 (va_eqt p0) hA, vk_OFof z0 y0 hA, T0⟩
set_option maxHeartbeats 8000000 in
set_option maxRecDepth 200000 in
theorem xs_3 {s : State} {b : Nat} {A : Nat → Prop} (hA : ∀ a : Nat, a < s.heap.size → ¬ A a) (hts : ∀ w ∈ lw_tbl, w.before #[Value.ref b] s = true) (hgv : (Jvm.Cond.and given_1 narrow_1).before #[Value.ref b] s = true) : ∃ a v : Nat, (vk_R "ClassGate$AttributeCheck" 127 "InnerClasses" a s ∧ va_O "java/lang/String" a A s s.heap) ∧ va_OF "java/lang/String" "coder" "B" (.int 0) a A s s.heap ∧ va_OF "java/lang/String" "value" "[B" (.ref v) a A s s.heap ∧ va_T .byte v (xe_lt 3).2.2.2.length (fun j => .int ((xe_lt 3).2.2.2.getD j 0)) A s s.heap := by
  have e0 : (Cond.exactly (Term.string "ClassGate$AttributeCheck" 127) "java/lang/String").before #[Value.ref b] s = true := fl_at hgv (i := 173) (by decide +kernel)
  obtain ⟨a0, -, -, -, z0, -⟩ := Cond.exactly_spec (args := #[Value.ref b]) (first := s) (o := none) (s := s) (idx := []) (t := (Term.string "ClassGate$AttributeCheck" 127)) (cls := "java/lang/String") e0
  have r0 : vk_R "ClassGate$AttributeCheck" 127 "InnerClasses" a0 s := vk_R.of (hts _ (tb_4 _ (List.mem_of_getElem? (i := 234) (by decide +kernel)))) z0
  have o0 : va_O "java/lang/String" a0 A s s.heap := va_Oof e0 z0 hA
  have p0 : (Cond.eq (.field (Term.string "ClassGate$AttributeCheck" 127) "java/lang/String" "coder" "B") (.int 0)).before #[Value.ref b] s = true := fl_at hgv (i := 174) (by decide +kernel)
  have q0 : (Cond.arrayOf (Term.field (Term.string "ClassGate$AttributeCheck" 127) "java/lang/String" "value" "[B") .byte).before #[Value.ref b] s = true := fl_at hgv (i := 175) (by decide +kernel)
  have l0 : (Cond.eq (.length (Term.field (Term.string "ClassGate$AttributeCheck" 127) "java/lang/String" "value" "[B")) (.int 12)).before #[Value.ref b] s = true := fl_at hgv (i := 176) (by decide +kernel)
  have hw : ∀ j : Nat, j < 12 → (flatC (Jvm.Cond.and given_1 narrow_1))[177 + j]? = some (Cond.eq (.elem (Term.field (Term.string "ClassGate$AttributeCheck" 127) "java/lang/String" "value" "[B") (.int (Int32.ofNat j))) (.int ((xe_lt 3).2.2.2.getD j 0))) := by decide +kernel
  obtain ⟨v0, y0, T0⟩ := va_Tof (tm := (Term.field (Term.string "ClassGate$AttributeCheck" 127) "java/lang/String" "value" "[B")) (ty := .byte) (N := 12) (f := fun j => .int ((xe_lt 3).2.2.2.getD j 0)) (A := A) (by decide) q0 (va_eqt l0) (fun j hj => va_eqt (fl_at hgv (hw j hj))) hA
  exact ⟨a0, v0, ⟨r0, o0⟩, vk_OFof z0 (va_eqt p0) hA, vk_OFof z0 y0 hA, T0⟩
set_option maxHeartbeats 8000000 in
set_option maxRecDepth 200000 in
theorem xs_4 {s : State} {b : Nat} {A : Nat → Prop} (hA : ∀ a : Nat, a < s.heap.size → ¬ A a) (hts : ∀ w ∈ lw_tbl, w.before #[Value.ref b] s = true) (hgv : (Jvm.Cond.and given_1 narrow_1).before #[Value.ref b] s = true) : ∃ a v : Nat, (vk_R "ClassGate$AttributeCheck" 132 "BootstrapMethods" a s ∧ va_O "java/lang/String" a A s s.heap) ∧ va_OF "java/lang/String" "coder" "B" (.int 0) a A s s.heap ∧ va_OF "java/lang/String" "value" "[B" (.ref v) a A s s.heap ∧ va_T .byte v (xe_lt 4).2.2.2.length (fun j => .int ((xe_lt 4).2.2.2.getD j 0)) A s s.heap := by
  have e0 : (Cond.exactly (Term.string "ClassGate$AttributeCheck" 132) "java/lang/String").before #[Value.ref b] s = true := fl_at hgv (i := 189) (by decide +kernel)
  obtain ⟨a0, -, -, -, z0, -⟩ := Cond.exactly_spec (args := #[Value.ref b]) (first := s) (o := none) (s := s) (idx := []) (t := (Term.string "ClassGate$AttributeCheck" 132)) (cls := "java/lang/String") e0
  have r0 : vk_R "ClassGate$AttributeCheck" 132 "BootstrapMethods" a0 s := vk_R.of (hts _ (tb_4 _ (List.mem_of_getElem? (i := 235) (by decide +kernel)))) z0
  have o0 : va_O "java/lang/String" a0 A s s.heap := va_Oof e0 z0 hA
  have p0 : (Cond.eq (.field (Term.string "ClassGate$AttributeCheck" 132) "java/lang/String" "coder" "B") (.int 0)).before #[Value.ref b] s = true := fl_at hgv (i := 190) (by decide +kernel)
  have q0 : (Cond.arrayOf (Term.field (Term.string "ClassGate$AttributeCheck" 132) "java/lang/String" "value" "[B") .byte).before #[Value.ref b] s = true := fl_at hgv (i := 191) (by decide +kernel)
  have l0 : (Cond.eq (.length (Term.field (Term.string "ClassGate$AttributeCheck" 132) "java/lang/String" "value" "[B")) (.int 16)).before #[Value.ref b] s = true := fl_at hgv (i := 192) (by decide +kernel)
  have hw : ∀ j : Nat, j < 16 → (flatC (Jvm.Cond.and given_1 narrow_1))[193 + j]? = some (Cond.eq (.elem (Term.field (Term.string "ClassGate$AttributeCheck" 132) "java/lang/String" "value" "[B") (.int (Int32.ofNat j))) (.int ((xe_lt 4).2.2.2.getD j 0))) := by decide +kernel
  obtain ⟨v0, y0, T0⟩ := va_Tof (tm := (Term.field (Term.string "ClassGate$AttributeCheck" 132) "java/lang/String" "value" "[B")) (ty := .byte) (N := 16) (f := fun j => .int ((xe_lt 4).2.2.2.getD j 0)) (A := A) (by decide) q0 (va_eqt l0) (fun j hj => va_eqt (fl_at hgv (hw j hj))) hA
  exact ⟨a0, v0, ⟨r0, o0⟩, vk_OFof z0 (va_eqt p0) hA, vk_OFof z0 y0 hA, T0⟩
