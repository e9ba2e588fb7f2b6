/-! literals at the entry (laid by wip/p2/c95.py) -/
set_option maxHeartbeats 8000000 in
set_option maxRecDepth 200000 in
theorem xs_29 {s : State} {b : Nat} {A : Nat → Prop} (hA : ∀ a : Nat, a < s.heap.size → ¬ A a) (hts : ∀ w ∈ lw_tbl, w.before #[Value.ref b] s = true) (hgv : (Jvm.Cond.and given_1 narrow_1).before #[Value.ref b] s = true) : ∃ a v : Nat, (vk_R "ClassGateModel" 480 "1111111111111111232332222211111111111111111111111111112222211111111111111111111111111111111111111111111111111111111111111111111111113111111111111111111113333333333333333200111111333333355323113311043355" a s ∧ va_O "java/lang/String" a A s s.heap) ∧ va_OF "java/lang/String" "coder" "B" (.int 0) a A s s.heap ∧ va_OF "java/lang/String" "value" "[B" (.ref v) a A s s.heap ∧ va_T .byte v (xe_lt 29).2.2.2.length (fun j => .int ((xe_lt 29).2.2.2.getD j 0)) A s s.heap := by
  have e0 : (Cond.exactly (Term.string "ClassGateModel" 480) "java/lang/String").before #[Value.ref b] s = true := fl_at hgv (i := 681) (by decide +kernel)
  obtain ⟨a0, -, -, -, z0, -⟩ := Cond.exactly_spec (args := #[Value.ref b]) (first := s) (o := none) (s := s) (idx := []) (t := (Term.string "ClassGateModel" 480)) (cls := "java/lang/String") e0
  have r0 : vk_R "ClassGateModel" 480 "1111111111111111232332222211111111111111111111111111112222211111111111111111111111111111111111111111111111111111111111111111111111113111111111111111111113333333333333333200111111333333355323113311043355" a0 s := vk_R.of (hts _ (tb_8 _ (List.mem_of_getElem? (i := 227) (by decide +kernel)))) z0
  have o0 : va_O "java/lang/String" a0 A s s.heap := va_Oof e0 z0 hA
  have p0 : (Cond.eq (.field (Term.string "ClassGateModel" 480) "java/lang/String" "coder" "B") (.int 0)).before #[Value.ref b] s = true := fl_at hgv (i := 682) (by decide +kernel)
  have q0 : (Cond.arrayOf (Term.field (Term.string "ClassGateModel" 480) "java/lang/String" "value" "[B") .byte).before #[Value.ref b] s = true := fl_at hgv (i := 683) (by decide +kernel)
  have l0 : (Cond.eq (.length (Term.field (Term.string "ClassGateModel" 480) "java/lang/String" "value" "[B")) (.int 202)).before #[Value.ref b] s = true := fl_at hgv (i := 684) (by decide +kernel)
  have hw : ∀ j : Nat, j < 202 → (flatC (Jvm.Cond.and given_1 narrow_1))[685 + j]? = some (Cond.eq (.elem (Term.field (Term.string "ClassGateModel" 480) "java/lang/String" "value" "[B") (.int (Int32.ofNat j))) (.int ((xe_lt 29).2.2.2.getD j 0))) := by decide +kernel
  obtain ⟨v0, y0, T0⟩ := va_Tof (tm := (Term.field (Term.string "ClassGateModel" 480) "java/lang/String" "value" "[B")) (ty := .byte) (N := 202) (f := fun j => .int ((xe_lt 29).2.2.2.getD j 0)) (A := A) (by decide) q0 (va_eqt l0) (fun j hj => va_eqt (fl_at hgv (hw j hj))) hA
  exact ⟨a0, v0, ⟨r0, o0⟩, vk_OFof z0 (va_eqt p0) hA, vk_OFof z0 y0 hA, T0⟩
set_option maxHeartbeats 8000000 in
set_option maxRecDepth 200000 in
theorem xs_30 {s : State} {b : Nat} {A : Nat → Prop} (hA : ∀ a : Nat, a < s.heap.size → ¬ A a) (hts : ∀ w ∈ lw_tbl, w.before #[Value.ref b] s = true) (hgv : (Jvm.Cond.and given_1 narrow_1).before #[Value.ref b] s = true) : ∃ a v : Nat, (vk_R "ClassGate" 29 "more bytes than a file may have" a s ∧ va_O "java/lang/String" a A s s.heap) := by
  have e0 : (Cond.exactly (Term.string "ClassGate" 29) "java/lang/String").before #[Value.ref b] s = true := fl_at hgv (i := 269) (by decide +kernel)
  obtain ⟨a0, -, -, -, z0, -⟩ := Cond.exactly_spec (args := #[Value.ref b]) (first := s) (o := none) (s := s) (idx := []) (t := (Term.string "ClassGate" 29)) (cls := "java/lang/String") e0
  have r0 : vk_R "ClassGate" 29 "more bytes than a file may have" a0 s := vk_R.of (hts _ (tb_6 _ (List.mem_of_getElem? (i := 16) (by decide +kernel)))) z0
  have o0 : va_O "java/lang/String" a0 A s s.heap := va_Oof e0 z0 hA
  exact ⟨a0, 0, r0, o0⟩
set_option maxHeartbeats 8000000 in
set_option maxRecDepth 200000 in
theorem xs_31 {s : State} {b : Nat} {A : Nat → Prop} (hA : ∀ a : Nat, a < s.heap.size → ¬ A a) (hts : ∀ w ∈ lw_tbl, w.before #[Value.ref b] s = true) (hgv : (Jvm.Cond.and given_1 narrow_1).before #[Value.ref b] s = true) : ∃ a v : Nat, (vk_R "ClassGate" 46 "not so many bytes have come" a s ∧ va_O "java/lang/String" a A s s.heap) := by
  have e0 : (Cond.exactly (Term.string "ClassGate" 46) "java/lang/String").before #[Value.ref b] s = true := fl_at hgv (i := 304) (by decide +kernel)
  obtain ⟨a0, -, -, -, z0, -⟩ := Cond.exactly_spec (args := #[Value.ref b]) (first := s) (o := none) (s := s) (idx := []) (t := (Term.string "ClassGate" 46)) (cls := "java/lang/String") e0
  have r0 : vk_R "ClassGate" 46 "not so many bytes have come" a0 s := vk_R.of (hts _ (tb_6 _ (List.mem_of_getElem? (i := 77) (by decide +kernel)))) z0
  have o0 : va_O "java/lang/String" a0 A s s.heap := va_Oof e0 z0 hA
  exact ⟨a0, 0, r0, o0⟩
set_option maxHeartbeats 8000000 in
set_option maxRecDepth 200000 in
theorem xs_32 {s : State} {b : Nat} {A : Nat → Prop} (hA : ∀ a : Nat, a < s.heap.size → ¬ A a) (hts : ∀ w ∈ lw_tbl, w.before #[Value.ref b] s = true) (hgv : (Jvm.Cond.and given_1 narrow_1).before #[Value.ref b] s = true) : ∃ a v : Nat, (vk_R "ClassGate" 148 "no such count" a s ∧ va_O "java/lang/String" a A s s.heap) := by
  have e0 : (Cond.exactly (Term.string "ClassGate" 148) "java/lang/String").before #[Value.ref b] s = true := fl_at hgv (i := 335) (by decide +kernel)
  obtain ⟨a0, -, -, -, z0, -⟩ := Cond.exactly_spec (args := #[Value.ref b]) (first := s) (o := none) (s := s) (idx := []) (t := (Term.string "ClassGate" 148)) (cls := "java/lang/String") e0
  have r0 : vk_R "ClassGate" 148 "no such count" a0 s := vk_R.of (hts _ (tb_6 _ (List.mem_of_getElem? (i := 91) (by decide +kernel)))) z0
  have o0 : va_O "java/lang/String" a0 A s s.heap := va_Oof e0 z0 hA
  exact ⟨a0, 0, r0, o0⟩
set_option maxHeartbeats 8000000 in
set_option maxRecDepth 200000 in
theorem xs_33 {s : State} {b : Nat} {A : Nat → Prop} (hA : ∀ a : Nat, a < s.heap.size → ¬ A a) (hts : ∀ w ∈ lw_tbl, w.before #[Value.ref b] s = true) (hgv : (Jvm.Cond.and given_1 narrow_1).before #[Value.ref b] s = true) : ∃ a v : Nat, (vk_R "ClassGate" 154 "no such part" a s ∧ va_O "java/lang/String" a A s s.heap) := by
  have e0 : (Cond.exactly (Term.string "ClassGate" 154) "java/lang/String").before #[Value.ref b] s = true := fl_at hgv (i := 352) (by decide +kernel)
  obtain ⟨a0, -, -, -, z0, -⟩ := Cond.exactly_spec (args := #[Value.ref b]) (first := s) (o := none) (s := s) (idx := []) (t := (Term.string "ClassGate" 154)) (cls := "java/lang/String") e0
  have r0 : vk_R "ClassGate" 154 "no such part" a0 s := vk_R.of (hts _ (tb_6 _ (List.mem_of_getElem? (i := 107) (by decide +kernel)))) z0
  have o0 : va_O "java/lang/String" a0 A s s.heap := va_Oof e0 z0 hA
  exact ⟨a0, 0, r0, o0⟩
set_option maxHeartbeats 8000000 in
set_option maxRecDepth 200000 in
theorem xs_34 {s : State} {b : Nat} {A : Nat → Prop} (hA : ∀ a : Nat, a < s.heap.size → ¬ A a) (hts : ∀ w ∈ lw_tbl, w.before #[Value.ref b] s = true) (hgv : (Jvm.Cond.and given_1 narrow_1).before #[Value.ref b] s = true) : ∃ a v : Nat, (vk_R "ClassGate" 187 "no such thing of a member" a s ∧ va_O "java/lang/String" a A s s.heap) := by
  have e0 : (Cond.exactly (Term.string "ClassGate" 187) "java/lang/String").before #[Value.ref b] s = true := fl_at hgv (i := 368) (by decide +kernel)
  obtain ⟨a0, -, -, -, z0, -⟩ := Cond.exactly_spec (args := #[Value.ref b]) (first := s) (o := none) (s := s) (idx := []) (t := (Term.string "ClassGate" 187)) (cls := "java/lang/String") e0
  have r0 : vk_R "ClassGate" 187 "no such thing of a member" a0 s := vk_R.of (hts _ (tb_6 _ (List.mem_of_getElem? (i := 117) (by decide +kernel)))) z0
  have o0 : va_O "java/lang/String" a0 A s s.heap := va_Oof e0 z0 hA
  exact ⟨a0, 0, r0, o0⟩
set_option maxHeartbeats 8000000 in
set_option maxRecDepth 200000 in
theorem xs_35 {s : State} {b : Nat} {A : Nat → Prop} (hA : ∀ a : Nat, a < s.heap.size → ¬ A a) (hts : ∀ w ∈ lw_tbl, w.before #[Value.ref b] s = true) (hgv : (Jvm.Cond.and given_1 narrow_1).before #[Value.ref b] s = true) : ∃ a v : Nat, (vk_R "ClassGate" 209 "no such column" a s ∧ va_O "java/lang/String" a A s s.heap) := by
  have e0 : (Cond.exactly (Term.string "ClassGate" 209) "java/lang/String").before #[Value.ref b] s = true := fl_at hgv (i := 397) (by decide +kernel)
  obtain ⟨a0, -, -, -, z0, -⟩ := Cond.exactly_spec (args := #[Value.ref b]) (first := s) (o := none) (s := s) (idx := []) (t := (Term.string "ClassGate" 209)) (cls := "java/lang/String") e0
  have r0 : vk_R "ClassGate" 209 "no such column" a0 s := vk_R.of (hts _ (tb_6 _ (List.mem_of_getElem? (i := 133) (by decide +kernel)))) z0
  have o0 : va_O "java/lang/String" a0 A s s.heap := va_Oof e0 z0 hA
  exact ⟨a0, 0, r0, o0⟩
set_option maxHeartbeats 8000000 in
set_option maxRecDepth 200000 in
theorem xs_36 {s : State} {b : Nat} {A : Nat → Prop} (hA : ∀ a : Nat, a < s.heap.size → ¬ A a) (hts : ∀ w ∈ lw_tbl, w.before #[Value.ref b] s = true) (hgv : (Jvm.Cond.and given_1 narrow_1).before #[Value.ref b] s = true) : ∃ a v : Nat, (vk_R "ClassGate" 237 "no such thing of an instruction" a s ∧ va_O "java/lang/String" a A s s.heap) := by
  have e0 : (Cond.exactly (Term.string "ClassGate" 237) "java/lang/String").before #[Value.ref b] s = true := fl_at hgv (i := 415) (by decide +kernel)
  obtain ⟨a0, -, -, -, z0, -⟩ := Cond.exactly_spec (args := #[Value.ref b]) (first := s) (o := none) (s := s) (idx := []) (t := (Term.string "ClassGate" 237)) (cls := "java/lang/String") e0
  have r0 : vk_R "ClassGate" 237 "no such thing of an instruction" a0 s := vk_R.of (hts _ (tb_6 _ (List.mem_of_getElem? (i := 142) (by decide +kernel)))) z0
  have o0 : va_O "java/lang/String" a0 A s s.heap := va_Oof e0 z0 hA
  exact ⟨a0, 0, r0, o0⟩
