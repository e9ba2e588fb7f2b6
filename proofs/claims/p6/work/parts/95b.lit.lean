/-! literals at the entry (laid by wip/p2/c95.py) -/
set_option maxHeartbeats 8000000 in
set_option maxRecDepth 200000 in
theorem xs_5 {s : State} {b : Nat} {A : Nat → Prop} (hA : ∀ a : Nat, a < s.heap.size → ¬ A a) (hts : ∀ w ∈ lw_tbl, w.before #[Value.ref b] s = true) (hgv : (Jvm.Cond.and given_1 narrow_1).before #[Value.ref b] s = true) : ∃ a v : Nat, (vk_R "ClassGate$AttributeCheck" 134 "NestHost" a s ∧ va_O "java/lang/String" a A s s.heap) ∧ va_OF "java/lang/String" "coder" "B" (.int 0) a A s s.heap ∧ va_OF "java/lang/String" "value" "[B" (.ref v) a A s s.heap ∧ va_T .byte v (xe_lt 5).2.2.2.length (fun j => .int ((xe_lt 5).2.2.2.getD j 0)) A s s.heap := by
  have e0 : (Cond.exactly (Term.string "ClassGate$AttributeCheck" 134) "java/lang/String").before #[Value.ref b] s = true := fl_at hgv (i := 209) (by decide +kernel)
  obtain ⟨a0, -, -, -, z0, -⟩ := Cond.exactly_spec (args := #[Value.ref b]) (first := s) (o := none) (s := s) (idx := []) (t := (Term.string "ClassGate$AttributeCheck" 134)) (cls := "java/lang/String") e0
  have r0 : vk_R "ClassGate$AttributeCheck" 134 "NestHost" a0 s := vk_R.of (hts _ (tb_4 _ (List.mem_of_getElem? (i := 236) (by decide +kernel)))) z0
  have o0 : va_O "java/lang/String" a0 A s s.heap := va_Oof e0 z0 hA
  have p0 : (Cond.eq (.field (Term.string "ClassGate$AttributeCheck" 134) "java/lang/String" "coder" "B") (.int 0)).before #[Value.ref b] s = true := fl_at hgv (i := 210) (by decide +kernel)
  have q0 : (Cond.arrayOf (Term.field (Term.string "ClassGate$AttributeCheck" 134) "java/lang/String" "value" "[B") .byte).before #[Value.ref b] s = true := fl_at hgv (i := 211) (by decide +kernel)
  have l0 : (Cond.eq (.length (Term.field (Term.string "ClassGate$AttributeCheck" 134) "java/lang/String" "value" "[B")) (.int 8)).before #[Value.ref b] s = true := fl_at hgv (i := 212) (by decide +kernel)
  have hw : ∀ j : Nat, j < 8 → (flatC (Jvm.Cond.and given_1 narrow_1))[213 + j]? = some (Cond.eq (.elem (Term.field (Term.string "ClassGate$AttributeCheck" 134) "java/lang/String" "value" "[B") (.int (Int32.ofNat j))) (.int ((xe_lt 5).2.2.2.getD j 0))) := by decide +kernel
  obtain ⟨v0, y0, T0⟩ := va_Tof (tm := (Term.field (Term.string "ClassGate$AttributeCheck" 134) "java/lang/String" "value" "[B")) (ty := .byte) (N := 8) (f := fun j => .int ((xe_lt 5).2.2.2.getD j 0)) (A := A) (by decide) q0 (va_eqt l0) (fun j hj => va_eqt (fl_at hgv (hw j hj))) hA
  exact ⟨a0, v0, ⟨r0, o0⟩, vk_OFof z0 (va_eqt p0) hA, vk_OFof z0 y0 hA, T0⟩
set_option maxHeartbeats 8000000 in
set_option maxRecDepth 200000 in
theorem xs_6 {s : State} {b : Nat} {A : Nat → Prop} (hA : ∀ a : Nat, a < s.heap.size → ¬ A a) (hts : ∀ w ∈ lw_tbl, w.before #[Value.ref b] s = true) (hgv : (Jvm.Cond.and given_1 narrow_1).before #[Value.ref b] s = true) : ∃ a v : Nat, (vk_R "ClassGate$AttributeCheck" 136 "NestMembers" a s ∧ va_O "java/lang/String" a A s s.heap) ∧ va_OF "java/lang/String" "coder" "B" (.int 0) a A s s.heap ∧ va_OF "java/lang/String" "value" "[B" (.ref v) a A s s.heap ∧ va_T .byte v (xe_lt 6).2.2.2.length (fun j => .int ((xe_lt 6).2.2.2.getD j 0)) A s s.heap := by
  have e0 : (Cond.exactly (Term.string "ClassGate$AttributeCheck" 136) "java/lang/String").before #[Value.ref b] s = true := fl_at hgv (i := 221) (by decide +kernel)
  obtain ⟨a0, -, -, -, z0, -⟩ := Cond.exactly_spec (args := #[Value.ref b]) (first := s) (o := none) (s := s) (idx := []) (t := (Term.string "ClassGate$AttributeCheck" 136)) (cls := "java/lang/String") e0
  have r0 : vk_R "ClassGate$AttributeCheck" 136 "NestMembers" a0 s := vk_R.of (hts _ (tb_4 _ (List.mem_of_getElem? (i := 237) (by decide +kernel)))) z0
  have o0 : va_O "java/lang/String" a0 A s s.heap := va_Oof e0 z0 hA
  have p0 : (Cond.eq (.field (Term.string "ClassGate$AttributeCheck" 136) "java/lang/String" "coder" "B") (.int 0)).before #[Value.ref b] s = true := fl_at hgv (i := 222) (by decide +kernel)
  have q0 : (Cond.arrayOf (Term.field (Term.string "ClassGate$AttributeCheck" 136) "java/lang/String" "value" "[B") .byte).before #[Value.ref b] s = true := fl_at hgv (i := 223) (by decide +kernel)
  have l0 : (Cond.eq (.length (Term.field (Term.string "ClassGate$AttributeCheck" 136) "java/lang/String" "value" "[B")) (.int 11)).before #[Value.ref b] s = true := fl_at hgv (i := 224) (by decide +kernel)
  have hw : ∀ j : Nat, j < 11 → (flatC (Jvm.Cond.and given_1 narrow_1))[225 + j]? = some (Cond.eq (.elem (Term.field (Term.string "ClassGate$AttributeCheck" 136) "java/lang/String" "value" "[B") (.int (Int32.ofNat j))) (.int ((xe_lt 6).2.2.2.getD j 0))) := by decide +kernel
  obtain ⟨v0, y0, T0⟩ := va_Tof (tm := (Term.field (Term.string "ClassGate$AttributeCheck" 136) "java/lang/String" "value" "[B")) (ty := .byte) (N := 11) (f := fun j => .int ((xe_lt 6).2.2.2.getD j 0)) (A := A) (by decide) q0 (va_eqt l0) (fun j hj => va_eqt (fl_at hgv (hw j hj))) hA
  exact ⟨a0, v0, ⟨r0, o0⟩, vk_OFof z0 (va_eqt p0) hA, vk_OFof z0 y0 hA, T0⟩
set_option maxHeartbeats 8000000 in
set_option maxRecDepth 200000 in
theorem xs_7 {s : State} {b : Nat} {A : Nat → Prop} (hA : ∀ a : Nat, a < s.heap.size → ¬ A a) (hts : ∀ w ∈ lw_tbl, w.before #[Value.ref b] s = true) (hgv : (Jvm.Cond.and given_1 narrow_1).before #[Value.ref b] s = true) : ∃ a v : Nat, (vk_R "ClassGate$AttributeCheck" 138 "Record" a s ∧ va_O "java/lang/String" a A s s.heap) ∧ va_OF "java/lang/String" "coder" "B" (.int 0) a A s s.heap ∧ va_OF "java/lang/String" "value" "[B" (.ref v) a A s s.heap ∧ va_T .byte v (xe_lt 7).2.2.2.length (fun j => .int ((xe_lt 7).2.2.2.getD j 0)) A s s.heap := by
  have e0 : (Cond.exactly (Term.string "ClassGate$AttributeCheck" 138) "java/lang/String").before #[Value.ref b] s = true := fl_at hgv (i := 236) (by decide +kernel)
  obtain ⟨a0, -, -, -, z0, -⟩ := Cond.exactly_spec (args := #[Value.ref b]) (first := s) (o := none) (s := s) (idx := []) (t := (Term.string "ClassGate$AttributeCheck" 138)) (cls := "java/lang/String") e0
  have r0 : vk_R "ClassGate$AttributeCheck" 138 "Record" a0 s := vk_R.of (hts _ (tb_4 _ (List.mem_of_getElem? (i := 238) (by decide +kernel)))) z0
  have o0 : va_O "java/lang/String" a0 A s s.heap := va_Oof e0 z0 hA
  have p0 : (Cond.eq (.field (Term.string "ClassGate$AttributeCheck" 138) "java/lang/String" "coder" "B") (.int 0)).before #[Value.ref b] s = true := fl_at hgv (i := 237) (by decide +kernel)
  have q0 : (Cond.arrayOf (Term.field (Term.string "ClassGate$AttributeCheck" 138) "java/lang/String" "value" "[B") .byte).before #[Value.ref b] s = true := fl_at hgv (i := 238) (by decide +kernel)
  have l0 : (Cond.eq (.length (Term.field (Term.string "ClassGate$AttributeCheck" 138) "java/lang/String" "value" "[B")) (.int 6)).before #[Value.ref b] s = true := fl_at hgv (i := 239) (by decide +kernel)
  have hw : ∀ j : Nat, j < 6 → (flatC (Jvm.Cond.and given_1 narrow_1))[240 + j]? = some (Cond.eq (.elem (Term.field (Term.string "ClassGate$AttributeCheck" 138) "java/lang/String" "value" "[B") (.int (Int32.ofNat j))) (.int ((xe_lt 7).2.2.2.getD j 0))) := by decide +kernel
  obtain ⟨v0, y0, T0⟩ := va_Tof (tm := (Term.field (Term.string "ClassGate$AttributeCheck" 138) "java/lang/String" "value" "[B")) (ty := .byte) (N := 6) (f := fun j => .int ((xe_lt 7).2.2.2.getD j 0)) (A := A) (by decide) q0 (va_eqt l0) (fun j hj => va_eqt (fl_at hgv (hw j hj))) hA
  exact ⟨a0, v0, ⟨r0, o0⟩, vk_OFof z0 (va_eqt p0) hA, vk_OFof z0 y0 hA, T0⟩
set_option maxHeartbeats 8000000 in
set_option maxRecDepth 200000 in
theorem xs_8 {s : State} {b : Nat} {A : Nat → Prop} (hA : ∀ a : Nat, a < s.heap.size → ¬ A a) (hts : ∀ w ∈ lw_tbl, w.before #[Value.ref b] s = true) (hgv : (Jvm.Cond.and given_1 narrow_1).before #[Value.ref b] s = true) : ∃ a v : Nat, (vk_R "ClassGate$AttributeCheck" 140 "PermittedSubclasses" a s ∧ va_O "java/lang/String" a A s s.heap) ∧ va_OF "java/lang/String" "coder" "B" (.int 0) a A s s.heap ∧ va_OF "java/lang/String" "value" "[B" (.ref v) a A s s.heap ∧ va_T .byte v (xe_lt 8).2.2.2.length (fun j => .int ((xe_lt 8).2.2.2.getD j 0)) A s s.heap := by
  have e0 : (Cond.exactly (Term.string "ClassGate$AttributeCheck" 140) "java/lang/String").before #[Value.ref b] s = true := fl_at hgv (i := 246) (by decide +kernel)
  obtain ⟨a0, -, -, -, z0, -⟩ := Cond.exactly_spec (args := #[Value.ref b]) (first := s) (o := none) (s := s) (idx := []) (t := (Term.string "ClassGate$AttributeCheck" 140)) (cls := "java/lang/String") e0
  have r0 : vk_R "ClassGate$AttributeCheck" 140 "PermittedSubclasses" a0 s := vk_R.of (hts _ (tb_4 _ (List.mem_of_getElem? (i := 239) (by decide +kernel)))) z0
  have o0 : va_O "java/lang/String" a0 A s s.heap := va_Oof e0 z0 hA
  have p0 : (Cond.eq (.field (Term.string "ClassGate$AttributeCheck" 140) "java/lang/String" "coder" "B") (.int 0)).before #[Value.ref b] s = true := fl_at hgv (i := 247) (by decide +kernel)
  have q0 : (Cond.arrayOf (Term.field (Term.string "ClassGate$AttributeCheck" 140) "java/lang/String" "value" "[B") .byte).before #[Value.ref b] s = true := fl_at hgv (i := 248) (by decide +kernel)
  have l0 : (Cond.eq (.length (Term.field (Term.string "ClassGate$AttributeCheck" 140) "java/lang/String" "value" "[B")) (.int 19)).before #[Value.ref b] s = true := fl_at hgv (i := 249) (by decide +kernel)
  have hw : ∀ j : Nat, j < 19 → (flatC (Jvm.Cond.and given_1 narrow_1))[250 + j]? = some (Cond.eq (.elem (Term.field (Term.string "ClassGate$AttributeCheck" 140) "java/lang/String" "value" "[B") (.int (Int32.ofNat j))) (.int ((xe_lt 8).2.2.2.getD j 0))) := by decide +kernel
  obtain ⟨v0, y0, T0⟩ := va_Tof (tm := (Term.field (Term.string "ClassGate$AttributeCheck" 140) "java/lang/String" "value" "[B")) (ty := .byte) (N := 19) (f := fun j => .int ((xe_lt 8).2.2.2.getD j 0)) (A := A) (by decide) q0 (va_eqt l0) (fun j hj => va_eqt (fl_at hgv (hw j hj))) hA
  exact ⟨a0, v0, ⟨r0, o0⟩, vk_OFof z0 (va_eqt p0) hA, vk_OFof z0 y0 hA, T0⟩
set_option maxHeartbeats 8000000 in
set_option maxRecDepth 200000 in
theorem xs_9 {s : State} {b : Nat} {A : Nat → Prop} (hA : ∀ a : Nat, a < s.heap.size → ¬ A a) (hts : ∀ w ∈ lw_tbl, w.before #[Value.ref b] s = true) (hgv : (Jvm.Cond.and given_1 narrow_1).before #[Value.ref b] s = true) : ∃ a v : Nat, (vk_R "ClassGate$AttributeCheck" 157 "Ljava/lang/String;" a s ∧ va_O "java/lang/String" a A s s.heap) ∧ va_OF "java/lang/String" "coder" "B" (.int 0) a A s s.heap ∧ va_OF "java/lang/String" "value" "[B" (.ref v) a A s s.heap ∧ va_T .byte v (xe_lt 9).2.2.2.length (fun j => .int ((xe_lt 9).2.2.2.getD j 0)) A s s.heap := by
  have e0 : (Cond.exactly (Term.string "ClassGate$AttributeCheck" 157) "java/lang/String").before #[Value.ref b] s = true := fl_at hgv (i := 89) (by decide +kernel)
  obtain ⟨a0, -, -, -, z0, -⟩ := Cond.exactly_spec (args := #[Value.ref b]) (first := s) (o := none) (s := s) (idx := []) (t := (Term.string "ClassGate$AttributeCheck" 157)) (cls := "java/lang/String") e0
  have r0 : vk_R "ClassGate$AttributeCheck" 157 "Ljava/lang/String;" a0 s := vk_R.of (hts _ (tb_4 _ (List.mem_of_getElem? (i := 51) (by decide +kernel)))) z0
  have o0 : va_O "java/lang/String" a0 A s s.heap := va_Oof e0 z0 hA
  have p0 : (Cond.eq (.field (Term.string "ClassGate$AttributeCheck" 157) "java/lang/String" "coder" "B") (.int 0)).before #[Value.ref b] s = true := fl_at hgv (i := 90) (by decide +kernel)
  have q0 : (Cond.arrayOf (Term.field (Term.string "ClassGate$AttributeCheck" 157) "java/lang/String" "value" "[B") .byte).before #[Value.ref b] s = true := fl_at hgv (i := 91) (by decide +kernel)
  have l0 : (Cond.eq (.length (Term.field (Term.string "ClassGate$AttributeCheck" 157) "java/lang/String" "value" "[B")) (.int 18)).before #[Value.ref b] s = true := fl_at hgv (i := 92) (by decide +kernel)
  have hw : ∀ j : Nat, j < 18 → (flatC (Jvm.Cond.and given_1 narrow_1))[93 + j]? = some (Cond.eq (.elem (Term.field (Term.string "ClassGate$AttributeCheck" 157) "java/lang/String" "value" "[B") (.int (Int32.ofNat j))) (.int ((xe_lt 9).2.2.2.getD j 0))) := by decide +kernel
  obtain ⟨v0, y0, T0⟩ := va_Tof (tm := (Term.field (Term.string "ClassGate$AttributeCheck" 157) "java/lang/String" "value" "[B")) (ty := .byte) (N := 18) (f := fun j => .int ((xe_lt 9).2.2.2.getD j 0)) (A := A) (by decide) q0 (va_eqt l0) (fun j hj => va_eqt (fl_at hgv (hw j hj))) hA
  exact ⟨a0, v0, ⟨r0, o0⟩, vk_OFof z0 (va_eqt p0) hA, vk_OFof z0 y0 hA, T0⟩
set_option maxHeartbeats 8000000 in
set_option maxRecDepth 200000 in
theorem xs_10 {s : State} {b : Nat} {A : Nat → Prop} (hA : ∀ a : Nat, a < s.heap.size → ¬ A a) (hts : ∀ w ∈ lw_tbl, w.before #[Value.ref b] s = true) (hgv : (Jvm.Cond.and given_1 narrow_1).before #[Value.ref b] s = true) : ∃ a v : Nat, (vk_R "ClassGate$AttributeCheck" 235 "StackMapTable" a s ∧ va_O "java/lang/String" a A s s.heap) ∧ va_OF "java/lang/String" "coder" "B" (.int 0) a A s s.heap ∧ va_OF "java/lang/String" "value" "[B" (.ref v) a A s s.heap ∧ va_T .byte v (xe_lt 10).2.2.2.length (fun j => .int ((xe_lt 10).2.2.2.getD j 0)) A s s.heap := by
  have e0 : (Cond.exactly (Term.string "ClassGate$AttributeCheck" 235) "java/lang/String").before #[Value.ref b] s = true := fl_at hgv (i := 156) (by decide +kernel)
  obtain ⟨a0, -, -, -, z0, -⟩ := Cond.exactly_spec (args := #[Value.ref b]) (first := s) (o := none) (s := s) (idx := []) (t := (Term.string "ClassGate$AttributeCheck" 235)) (cls := "java/lang/String") e0
  have r0 : vk_R "ClassGate$AttributeCheck" 235 "StackMapTable" a0 s := vk_R.of (hts _ (tb_4 _ (List.mem_of_getElem? (i := 217) (by decide +kernel)))) z0
  have o0 : va_O "java/lang/String" a0 A s s.heap := va_Oof e0 z0 hA
  have p0 : (Cond.eq (.field (Term.string "ClassGate$AttributeCheck" 235) "java/lang/String" "coder" "B") (.int 0)).before #[Value.ref b] s = true := fl_at hgv (i := 157) (by decide +kernel)
  have q0 : (Cond.arrayOf (Term.field (Term.string "ClassGate$AttributeCheck" 235) "java/lang/String" "value" "[B") .byte).before #[Value.ref b] s = true := fl_at hgv (i := 158) (by decide +kernel)
  have l0 : (Cond.eq (.length (Term.field (Term.string "ClassGate$AttributeCheck" 235) "java/lang/String" "value" "[B")) (.int 13)).before #[Value.ref b] s = true := fl_at hgv (i := 159) (by decide +kernel)
  have hw : ∀ j : Nat, j < 13 → (flatC (Jvm.Cond.and given_1 narrow_1))[160 + j]? = some (Cond.eq (.elem (Term.field (Term.string "ClassGate$AttributeCheck" 235) "java/lang/String" "value" "[B") (.int (Int32.ofNat j))) (.int ((xe_lt 10).2.2.2.getD j 0))) := by decide +kernel
  obtain ⟨v0, y0, T0⟩ := va_Tof (tm := (Term.field (Term.string "ClassGate$AttributeCheck" 235) "java/lang/String" "value" "[B")) (ty := .byte) (N := 13) (f := fun j => .int ((xe_lt 10).2.2.2.getD j 0)) (A := A) (by decide) q0 (va_eqt l0) (fun j hj => va_eqt (fl_at hgv (hw j hj))) hA
  exact ⟨a0, v0, ⟨r0, o0⟩, vk_OFof z0 (va_eqt p0) hA, vk_OFof z0 y0 hA, T0⟩
set_option maxHeartbeats 8000000 in
set_option maxRecDepth 200000 in
theorem xs_11 {s : State} {b : Nat} {A : Nat → Prop} (hA : ∀ a : Nat, a < s.heap.size → ¬ A a) (hts : ∀ w ∈ lw_tbl, w.before #[Value.ref b] s = true) (hgv : (Jvm.Cond.and given_1 narrow_1).before #[Value.ref b] s = true) : ∃ a v : Nat, (vk_R "ClassGate$ClassCheck" 66 "java/lang/Object" a s ∧ va_O "java/lang/String" a A s s.heap) ∧ va_OF "java/lang/String" "coder" "B" (.int 0) a A s s.heap ∧ va_OF "java/lang/String" "value" "[B" (.ref v) a A s s.heap ∧ va_T .byte v (xe_lt 11).2.2.2.length (fun j => .int ((xe_lt 11).2.2.2.getD j 0)) A s s.heap := by
  have e0 : (Cond.exactly (Term.string "ClassGate$ClassCheck" 66) "java/lang/String").before #[Value.ref b] s = true := fl_at hgv (i := 52) (by decide +kernel)
  obtain ⟨a0, -, -, -, z0, -⟩ := Cond.exactly_spec (args := #[Value.ref b]) (first := s) (o := none) (s := s) (idx := []) (t := (Term.string "ClassGate$ClassCheck" 66)) (cls := "java/lang/String") e0
  have r0 : vk_R "ClassGate$ClassCheck" 66 "java/lang/Object" a0 s := vk_R.of (hts _ (tb_3 _ (List.mem_of_getElem? (i := 202) (by decide +kernel)))) z0
  have o0 : va_O "java/lang/String" a0 A s s.heap := va_Oof e0 z0 hA
  have p0 : (Cond.eq (.field (Term.string "ClassGate$ClassCheck" 66) "java/lang/String" "coder" "B") (.int 0)).before #[Value.ref b] s = true := fl_at hgv (i := 53) (by decide +kernel)
  have q0 : (Cond.arrayOf (Term.field (Term.string "ClassGate$ClassCheck" 66) "java/lang/String" "value" "[B") .byte).before #[Value.ref b] s = true := fl_at hgv (i := 54) (by decide +kernel)
  have l0 : (Cond.eq (.length (Term.field (Term.string "ClassGate$ClassCheck" 66) "java/lang/String" "value" "[B")) (.int 16)).before #[Value.ref b] s = true := fl_at hgv (i := 55) (by decide +kernel)
  have hw : ∀ j : Nat, j < 16 → (flatC (Jvm.Cond.and given_1 narrow_1))[56 + j]? = some (Cond.eq (.elem (Term.field (Term.string "ClassGate$ClassCheck" 66) "java/lang/String" "value" "[B") (.int (Int32.ofNat j))) (.int ((xe_lt 11).2.2.2.getD j 0))) := by decide +kernel
  obtain ⟨v0, y0, T0⟩ := va_Tof (tm := (Term.field (Term.string "ClassGate$ClassCheck" 66) "java/lang/String" "value" "[B")) (ty := .byte) (N := 16) (f := fun j => .int ((xe_lt 11).2.2.2.getD j 0)) (A := A) (by decide) q0 (va_eqt l0) (fun j hj => va_eqt (fl_at hgv (hw j hj))) hA
  exact ⟨a0, v0, ⟨r0, o0⟩, vk_OFof z0 (va_eqt p0) hA, vk_OFof z0 y0 hA, T0⟩
set_option maxHeartbeats 8000000 in
set_option maxRecDepth 200000 in
theorem xs_12 {s : State} {b : Nat} {A : Nat → Prop} (hA : ∀ a : Nat, a < s.heap.size → ¬ A a) (hts : ∀ w ∈ lw_tbl, w.before #[Value.ref b] s = true) (hgv : (Jvm.Cond.and given_1 narrow_1).before #[Value.ref b] s = true) : ∃ a v : Nat, (vk_R "ClassGate$ClassCheck" 157 "<init>" a s ∧ va_O "java/lang/String" a A s s.heap) ∧ va_OF "java/lang/String" "coder" "B" (.int 0) a A s s.heap ∧ va_OF "java/lang/String" "value" "[B" (.ref v) a A s s.heap ∧ va_T .byte v (xe_lt 12).2.2.2.length (fun j => .int ((xe_lt 12).2.2.2.getD j 0)) A s s.heap := by
  have e0 : (Cond.exactly (Term.string "ClassGate$ClassCheck" 157) "java/lang/String").before #[Value.ref b] s = true := fl_at hgv (i := 111) (by decide +kernel)
  obtain ⟨a0, -, -, -, z0, -⟩ := Cond.exactly_spec (args := #[Value.ref b]) (first := s) (o := none) (s := s) (idx := []) (t := (Term.string "ClassGate$ClassCheck" 157)) (cls := "java/lang/String") e0
  have r0 : vk_R "ClassGate$ClassCheck" 157 "<init>" a0 s := vk_R.of (hts _ (tb_4 _ (List.mem_of_getElem? (i := 67) (by decide +kernel)))) z0
  have o0 : va_O "java/lang/String" a0 A s s.heap := va_Oof e0 z0 hA
  have p0 : (Cond.eq (.field (Term.string "ClassGate$ClassCheck" 157) "java/lang/String" "coder" "B") (.int 0)).before #[Value.ref b] s = true := fl_at hgv (i := 112) (by decide +kernel)
  have q0 : (Cond.arrayOf (Term.field (Term.string "ClassGate$ClassCheck" 157) "java/lang/String" "value" "[B") .byte).before #[Value.ref b] s = true := fl_at hgv (i := 113) (by decide +kernel)
  have l0 : (Cond.eq (.length (Term.field (Term.string "ClassGate$ClassCheck" 157) "java/lang/String" "value" "[B")) (.int 6)).before #[Value.ref b] s = true := fl_at hgv (i := 114) (by decide +kernel)
  have hw : ∀ j : Nat, j < 6 → (flatC (Jvm.Cond.and given_1 narrow_1))[115 + j]? = some (Cond.eq (.elem (Term.field (Term.string "ClassGate$ClassCheck" 157) "java/lang/String" "value" "[B") (.int (Int32.ofNat j))) (.int ((xe_lt 12).2.2.2.getD j 0))) := by decide +kernel
  obtain ⟨v0, y0, T0⟩ := va_Tof (tm := (Term.field (Term.string "ClassGate$ClassCheck" 157) "java/lang/String" "value" "[B")) (ty := .byte) (N := 6) (f := fun j => .int ((xe_lt 12).2.2.2.getD j 0)) (A := A) (by decide) q0 (va_eqt l0) (fun j hj => va_eqt (fl_at hgv (hw j hj))) hA
  exact ⟨a0, v0, ⟨r0, o0⟩, vk_OFof z0 (va_eqt p0) hA, vk_OFof z0 y0 hA, T0⟩
set_option maxHeartbeats 8000000 in
set_option maxRecDepth 200000 in
theorem xs_13 {s : State} {b : Nat} {A : Nat → Prop} (hA : ∀ a : Nat, a < s.heap.size → ¬ A a) (hts : ∀ w ∈ lw_tbl, w.before #[Value.ref b] s = true) (hgv : (Jvm.Cond.and given_1 narrow_1).before #[Value.ref b] s = true) : ∃ a v : Nat, (vk_R "ClassGate$ClassCheck" 158 "<clinit>" a s ∧ va_O "java/lang/String" a A s s.heap) ∧ va_OF "java/lang/String" "coder" "B" (.int 0) a A s s.heap ∧ va_OF "java/lang/String" "value" "[B" (.ref v) a A s s.heap ∧ va_T .byte v (xe_lt 13).2.2.2.length (fun j => .int ((xe_lt 13).2.2.2.getD j 0)) A s s.heap := by
  have e0 : (Cond.exactly (Term.string "ClassGate$ClassCheck" 158) "java/lang/String").before #[Value.ref b] s = true := fl_at hgv (i := 122) (by decide +kernel)
  obtain ⟨a0, -, -, -, z0, -⟩ := Cond.exactly_spec (args := #[Value.ref b]) (first := s) (o := none) (s := s) (idx := []) (t := (Term.string "ClassGate$ClassCheck" 158)) (cls := "java/lang/String") e0
  have r0 : vk_R "ClassGate$ClassCheck" 158 "<clinit>" a0 s := vk_R.of (hts _ (tb_4 _ (List.mem_of_getElem? (i := 68) (by decide +kernel)))) z0
  have o0 : va_O "java/lang/String" a0 A s s.heap := va_Oof e0 z0 hA
  have p0 : (Cond.eq (.field (Term.string "ClassGate$ClassCheck" 158) "java/lang/String" "coder" "B") (.int 0)).before #[Value.ref b] s = true := fl_at hgv (i := 123) (by decide +kernel)
  have q0 : (Cond.arrayOf (Term.field (Term.string "ClassGate$ClassCheck" 158) "java/lang/String" "value" "[B") .byte).before #[Value.ref b] s = true := fl_at hgv (i := 124) (by decide +kernel)
  have l0 : (Cond.eq (.length (Term.field (Term.string "ClassGate$ClassCheck" 158) "java/lang/String" "value" "[B")) (.int 8)).before #[Value.ref b] s = true := fl_at hgv (i := 125) (by decide +kernel)
  have hw : ∀ j : Nat, j < 8 → (flatC (Jvm.Cond.and given_1 narrow_1))[126 + j]? = some (Cond.eq (.elem (Term.field (Term.string "ClassGate$ClassCheck" 158) "java/lang/String" "value" "[B") (.int (Int32.ofNat j))) (.int ((xe_lt 13).2.2.2.getD j 0))) := by decide +kernel
  obtain ⟨v0, y0, T0⟩ := va_Tof (tm := (Term.field (Term.string "ClassGate$ClassCheck" 158) "java/lang/String" "value" "[B")) (ty := .byte) (N := 8) (f := fun j => .int ((xe_lt 13).2.2.2.getD j 0)) (A := A) (by decide) q0 (va_eqt l0) (fun j hj => va_eqt (fl_at hgv (hw j hj))) hA
  exact ⟨a0, v0, ⟨r0, o0⟩, vk_OFof z0 (va_eqt p0) hA, vk_OFof z0 y0 hA, T0⟩
set_option maxHeartbeats 8000000 in
set_option maxRecDepth 200000 in
theorem xs_14 {s : State} {b : Nat} {A : Nat → Prop} (hA : ∀ a : Nat, a < s.heap.size → ¬ A a) (hts : ∀ w ∈ lw_tbl, w.before #[Value.ref b] s = true) (hgv : (Jvm.Cond.and given_1 narrow_1).before #[Value.ref b] s = true) : ∃ a v : Nat, (vk_R "ClassGate$Pool" 98 "<init>" a s ∧ va_O "java/lang/String" a A s s.heap) ∧ va_OF "java/lang/String" "coder" "B" (.int 0) a A s s.heap ∧ va_OF "java/lang/String" "value" "[B" (.ref v) a A s s.heap ∧ va_T .byte v (xe_lt 14).2.2.2.length (fun j => .int ((xe_lt 14).2.2.2.getD j 0)) A s s.heap := by
  have e0 : (Cond.exactly (Term.string "ClassGate$Pool" 98) "java/lang/String").before #[Value.ref b] s = true := fl_at hgv (i := 42) (by decide +kernel)
  obtain ⟨a0, -, -, -, z0, -⟩ := Cond.exactly_spec (args := #[Value.ref b]) (first := s) (o := none) (s := s) (idx := []) (t := (Term.string "ClassGate$Pool" 98)) (cls := "java/lang/String") e0
  have r0 : vk_R "ClassGate$Pool" 98 "<init>" a0 s := vk_R.of (hts _ (tb_3 _ (List.mem_of_getElem? (i := 112) (by decide +kernel)))) z0
  have o0 : va_O "java/lang/String" a0 A s s.heap := va_Oof e0 z0 hA
  have p0 : (Cond.eq (.field (Term.string "ClassGate$Pool" 98) "java/lang/String" "coder" "B") (.int 0)).before #[Value.ref b] s = true := fl_at hgv (i := 43) (by decide +kernel)
  have q0 : (Cond.arrayOf (Term.field (Term.string "ClassGate$Pool" 98) "java/lang/String" "value" "[B") .byte).before #[Value.ref b] s = true := fl_at hgv (i := 44) (by decide +kernel)
  have l0 : (Cond.eq (.length (Term.field (Term.string "ClassGate$Pool" 98) "java/lang/String" "value" "[B")) (.int 6)).before #[Value.ref b] s = true := fl_at hgv (i := 45) (by decide +kernel)
  have hw : ∀ j : Nat, j < 6 → (flatC (Jvm.Cond.and given_1 narrow_1))[46 + j]? = some (Cond.eq (.elem (Term.field (Term.string "ClassGate$Pool" 98) "java/lang/String" "value" "[B") (.int (Int32.ofNat j))) (.int ((xe_lt 14).2.2.2.getD j 0))) := by decide +kernel
  obtain ⟨v0, y0, T0⟩ := va_Tof (tm := (Term.field (Term.string "ClassGate$Pool" 98) "java/lang/String" "value" "[B")) (ty := .byte) (N := 6) (f := fun j => .int ((xe_lt 14).2.2.2.getD j 0)) (A := A) (by decide) q0 (va_eqt l0) (fun j hj => va_eqt (fl_at hgv (hw j hj))) hA
  exact ⟨a0, v0, ⟨r0, o0⟩, vk_OFof z0 (va_eqt p0) hA, vk_OFof z0 y0 hA, T0⟩
