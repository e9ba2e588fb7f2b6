section
section XBB
variable {p : Program} {l : Launch} {e : Env} {R : Room} {s : State} {m : MethodId} {args : Array Value} {below : List Frame} {meth : Method} {c : Code} {H : Heap} {locs : List Loc} {cells slots : Nat} {Q : State → Prop}
variable {y : MethodName} {bytes : ByteArray} {maxL index mc ms : Nat} {own C : String} {ret : Option FieldType} {rm : Room}
theorem bg_cons (h : Cond.code y bytes maxL ret ∈ bg) : GoodIn bg (Cond.code y bytes maxL ret :: bg) := by
  intro w hw
  rcases List.mem_cons.mp hw with rfl | hw
  · exact ⟨h, good_of_word (List.all_eq_true.mp bg_good _ h)⟩
  · exact ⟨hw, good_of_word (List.all_eq_true.mp bg_good _ hw)⟩
theorem bg_B (n : Nat) (ht : ∀ w ∈ bg, w.before args s = true) (h1 : Cond.methodLink own index y ∈ bg) (h4 : Cond.initialized y.cls ∈ bg) (h5 : Cond.code y bytes maxL ret ∈ bg) (hrc : rm.cells = mc) (hrs : rm.slots = ms)
    (hd : y.cls ≠ "java/lang/invoke/MethodHandle" ∧ y.cls ≠ "java/lang/invoke/VarHandle" ∧ (parseMethodDescriptor y.desc).map (fun d => d.parameters.length) = some n) (hR : rm.frames + 1 ≤ R.frames ∧ 8 + (maxL + 11) + rm.locals ≤ R.locals) :
    CallB R s args own index y bytes maxL ret (Cond.code y bytes maxL ret :: bg) rm mc ms n :=
  callB_of n ht (bg_cons h5) rfl hrc hrs (ht _ h4) (ht _ h1) hd hR
theorem bg_V (n : Nat) (ht : ∀ w ∈ bg, w.before args s = true) (h1 : Cond.methodLink own index y ∈ bg) (h2 : Cond.instanceMethod y ∈ bg) (h3 : Cond.selects C y y ∈ bg) (h4 : Cond.initialized y.cls ∈ bg) (h5 : Cond.code y bytes maxL ret ∈ bg) (hrc : rm.cells = mc) (hrs : rm.slots = ms)
    (hd : y.cls ≠ "java/lang/invoke/MethodHandle" ∧ y.cls ≠ "java/lang/invoke/VarHandle" ∧ (parseMethodDescriptor y.desc).map (fun d => d.parameters.length) = some n) (hR : rm.frames + 1 ≤ R.frames ∧ 8 + (maxL + 11) + rm.locals ≤ R.locals) :
    CallW R s args own C index y bytes maxL ret (Cond.code y bytes maxL ret :: bg) rm mc ms n :=
  ⟨bg_B n ht h1 h4 h5 hrc hrs hd hR, ht _ h2, ht _ h3⟩
theorem bg_S (n : Nat) (ht : ∀ w ∈ bg, w.before args s = true) (h1 : Cond.methodLink own index y ∈ bg) (h2 : Cond.static y ∈ bg) (h4 : Cond.initialized y.cls ∈ bg) (h5 : Cond.code y bytes maxL ret ∈ bg) (hrc : rm.cells = mc) (hrs : rm.slots = ms)
    (hd : y.cls ≠ "java/lang/invoke/MethodHandle" ∧ y.cls ≠ "java/lang/invoke/VarHandle" ∧ (parseMethodDescriptor y.desc).map (fun d => d.parameters.length) = some n) (hR : rm.frames + 1 ≤ R.frames ∧ 8 + (maxL + 11) + rm.locals ≤ R.locals) :
    CallB R s args own index y bytes maxL ret (Cond.code y bytes maxL ret :: bg) rm mc ms n ∧ (Cond.static y).before args s = true :=
  ⟨bg_B n ht h1 h4 h5 hrc hrs hd hR, ht _ h2⟩
theorem bg_I (n : Nat) (ht : ∀ w ∈ bg, w.before args s = true) (h1 : Cond.methodLink own index y ∈ bg) (h2 : Cond.instanceMethod y ∈ bg) (h4 : Cond.initialized y.cls ∈ bg) (h5 : Cond.code y bytes maxL none ∈ bg) (hrc : rm.cells = mc) (hrs : rm.slots = ms)
    (hd : y.cls ≠ "java/lang/invoke/MethodHandle" ∧ y.cls ≠ "java/lang/invoke/VarHandle" ∧ (parseMethodDescriptor y.desc).map (fun d => d.parameters.length) = some n) (hR : rm.frames + 1 ≤ R.frames ∧ 8 + (maxL + 11) + rm.locals ≤ R.locals) (hy1 : y.name = "<init>" := by rfl) :
    CallB R s args own index y bytes maxL none (Cond.code y bytes maxL none :: bg) rm mc ms n ∧ y.name = "<init>" ∧ (Cond.instanceMethod y).before args s = true :=
  ⟨bg_B n ht h1 h4 h5 hrc hrs hd hR, hy1, ht _ h2⟩
theorem bg_SW {hh : List (Nat × Nat × Nat × Nat)} (n : Nat) (ht : ∀ w ∈ bg, w.before args s = true) (h1 : Cond.methodLink own index y ∈ bg) (h2 : Cond.static y ∈ bg) (h4 : Cond.initialized y.cls ∈ bg) (h5 : Cond.codeWith y bytes maxL ret hh ∈ bg) (hrc : rm.cells = mc) (hrs : rm.slots = ms)
    (hd : y.cls ≠ "java/lang/invoke/MethodHandle" ∧ y.cls ≠ "java/lang/invoke/VarHandle" ∧ (parseMethodDescriptor y.desc).map (fun d => d.parameters.length) = some n) (hR : rm.frames + 1 ≤ R.frames ∧ 8 + (maxL + 11) + rm.locals ≤ R.locals) :
    vx_CSW R s args own index y bytes maxL ret hh (Cond.codeWith y bytes maxL ret hh :: bg) rm mc ms n := by
  refine vx_cwSW n ht (fun w hw => ?_) rfl hrc hrs hd hR
  have hg : w ∈ bg := by
    rcases List.mem_append.mp hw with hw | hw
    · simp only [List.mem_cons, List.not_mem_nil, or_false] at hw
      rcases hw with rfl | rfl | rfl
      · exact h1
      · exact h2
      · exact h4
    · rcases List.mem_cons.mp hw with rfl | hw
      · exact h5
      · exact hw
  exact ⟨hg, good_of_word (List.all_eq_true.mp bg_good _ hg)⟩
end XBB
/-! WHAT STANDS OUTSIDE THE WORLDS: NO_BYTES, COMPACT_STRINGS, the formatter, Throwable's two statics, the literals, words that the tables alone decide -/
abbrev xe_N : Nat := 37
abbrev xe_M : Nat := 30
abbrev xe_G : Type := Nat × (Nat → Nat) × (Nat → Nat)
def xe_tab : List (String × Nat × String × List Int32) := [("ClassGate$AttributeCheck", 49, "ConstantValue", [67, 111, 110, 115, 116, 97, 110, 116, 86, 97, 108, 117, 101]), ("ClassGate$AttributeCheck", 123, "Code", [67, 111, 100, 101]), ("ClassGate$AttributeCheck", 125, "Exceptions", [69, 120, 99, 101, 112, 116, 105, 111, 110, 115]), ("ClassGate$AttributeCheck", 127, "InnerClasses", [73, 110, 110, 101, 114, 67, 108, 97, 115, 115, 101, 115]), ("ClassGate$AttributeCheck", 132, "BootstrapMethods", [66, 111, 111, 116, 115, 116, 114, 97, 112, 77, 101, 116, 104, 111, 100, 115]), ("ClassGate$AttributeCheck", 134, "NestHost", [78, 101, 115, 116, 72, 111, 115, 116]), ("ClassGate$AttributeCheck", 136, "NestMembers", [78, 101, 115, 116, 77, 101, 109, 98, 101, 114, 115]), ("ClassGate$AttributeCheck", 138, "Record", [82, 101, 99, 111, 114, 100]), ("ClassGate$AttributeCheck", 140, "PermittedSubclasses", [80, 101, 114, 109, 105, 116, 116, 101, 100, 83, 117, 98, 99, 108, 97, 115, 115, 101, 115]), ("ClassGate$AttributeCheck", 157, "Ljava/lang/String;", [76, 106, 97, 118, 97, 47, 108, 97, 110, 103, 47, 83, 116, 114, 105, 110, 103, 59]), ("ClassGate$AttributeCheck", 235, "StackMapTable", [83, 116, 97, 99, 107, 77, 97, 112, 84, 97, 98, 108, 101]), ("ClassGate$ClassCheck", 66, "java/lang/Object", [106, 97, 118, 97, 47, 108, 97, 110, 103, 47, 79, 98, 106, 101, 99, 116]), ("ClassGate$ClassCheck", 157, "<init>", [60, 105, 110, 105, 116, 62]), ("ClassGate$ClassCheck", 158, "<clinit>", [60, 99, 108, 105, 110, 105, 116, 62]), ("ClassGate$Pool", 98, "<init>", [60, 105, 110, 105, 116, 62]), ("ClassGateModel", 127, "ConstantValue", [67, 111, 110, 115, 116, 97, 110, 116, 86, 97, 108, 117, 101]), ("ClassGateModel", 129, "Code", [67, 111, 100, 101]), ("ClassGateModel", 131, "Exceptions", [69, 120, 99, 101, 112, 116, 105, 111, 110, 115]), ("ClassGateModel", 133, "StackMapTable", [83, 116, 97, 99, 107, 77, 97, 112, 84, 97, 98, 108, 101]), ("ClassGateModel", 135, "InnerClasses", [73, 110, 110, 101, 114, 67, 108, 97, 115, 115, 101, 115]), ("ClassGateModel", 137, "BootstrapMethods", [66, 111, 111, 116, 115, 116, 114, 97, 112, 77, 101, 116, 104, 111, 100, 115]), ("ClassGateModel", 139, "NestHost", [78, 101, 115, 116, 72, 111, 115, 116]), ("ClassGateModel", 141, "NestMembers", [78, 101, 115, 116, 77, 101, 109, 98, 101, 114, 115]), ("ClassGateModel", 143, "Record", [82, 101, 99, 111, 114, 100]), ("ClassGateModel", 145, "PermittedSubclasses", [80, 101, 114, 109, 105, 116, 116, 101, 100, 83, 117, 98, 99, 108, 97, 115, 115, 101, 115]), ("ClassGateModel", 178, "<init>", [60, 105, 110, 105, 116, 62]), ("ClassGateModel", 186, "<clinit>", [60, 99, 108, 105, 110, 105, 116, 62]), ("ClassGateModel", 191, "java/lang/Object", [106, 97, 118, 97, 47, 108, 97, 110, 103, 47, 79, 98, 106, 101, 99, 116]), ("ClassGateModel", 383, "Ljava/lang/String;", [76, 106, 97, 118, 97, 47, 108, 97, 110, 103, 47, 83, 116, 114, 105, 110, 103, 59]), ("ClassGateModel", 480, "1111111111111111232332222211111111111111111111111111112222211111111111111111111111111111111111111111111111111111111111111111111111113111111111111111111113333333333333333200111111333333355323113311043355", [49, 49, 49, 49, 49, 49, 49, 49, 49, 49, 49, 49, 49, 49, 49, 49, 50, 51, 50, 51, 51, 50, 50, 50, 50, 50, 49, 49, 49, 49, 49, 49, 49, 49, 49, 49, 49, 49, 49, 49, 49, 49, 49, 49, 49, 49, 49, 49, 49, 49, 49, 49, 49, 49, 50, 50, 50, 50, 50, 49, 49, 49, 49, 49, 49, 49, 49, 49, 49, 49, 49, 49, 49, 49, 49, 49, 49, 49, 49, 49, 49, 49, 49, 49, 49, 49, 49, 49, 49, 49, 49, 49, 49, 49, 49, 49, 49, 49, 49, 49, 49, 49, 49, 49, 49, 49, 49, 49, 49, 49, 49, 49, 49, 49, 49, 49, 49, 49, 49, 49, 49, 49, 49, 49, 49, 49, 49, 49, 49, 49, 49, 49, 51, 49, 49, 49, 49, 49, 49, 49, 49, 49, 49, 49, 49, 49, 49, 49, 49, 49, 49, 49, 49, 51, 51, 51, 51, 51, 51, 51, 51, 51, 51, 51, 51, 51, 51, 51, 51, 50, 48, 48, 49, 49, 49, 49, 49, 49, 51, 51, 51, 51, 51, 51, 51, 53, 53, 51, 50, 51, 49, 49, 51, 51, 49, 49, 48, 52, 51, 51, 53, 53]), ("ClassGate", 29, "more bytes than a file may have", []), ("ClassGate", 46, "not so many bytes have come", []), ("ClassGate", 148, "no such count", []), ("ClassGate", 154, "no such part", []), ("ClassGate", 187, "no such thing of a member", []), ("ClassGate", 209, "no such column", []), ("ClassGate", 237, "no such thing of an instruction", [])]
def xe_lt (k : Nat) : String × Nat × String × List Int32 := xe_tab.getD k ("", 0, "", [])
def xe_nw : List Cond := [.declares ⟨"java/lang/RuntimeException", "<init>", "(Ljava/lang/String;)V"⟩, .declares ⟨"java/lang/Exception", "<init>", "(Ljava/lang/String;)V"⟩, .declares ⟨"java/lang/Throwable", "<init>", "(Ljava/lang/String;)V"⟩, .castable "java/lang/IllegalArgumentException" "java/lang/IllegalArgumentException"]
def xe_L (g : xe_G) (k : Nat) (A : Nat → Prop) (U : State) (H : Heap) : Prop := vk_R (xe_lt k).1 (xe_lt k).2.1 (xe_lt k).2.2.1 (g.2.1 k) U ∧ va_O "java/lang/String" (g.2.1 k) A U H
def xe_C (g : xe_G) (k : Nat) (A : Nat → Prop) (U : State) (H : Heap) : Prop := va_OF "java/lang/String" "coder" "B" (.int 0) (g.2.1 k) A U H ∧ va_OF "java/lang/String" "value" "[B" (.ref (g.2.2 k)) (g.2.1 k) A U H ∧ va_T .byte (g.2.2 k) (xe_lt k).2.2.2.length (fun j => .int ((xe_lt k).2.2.2.getD j 0)) A U H
def xe_E (g : xe_G) (A : Nat → Prop) (U : State) (H : Heap) : Prop :=
  va_Z "ClassGate" "NO_BYTES" "[B" (.ref g.1) A U H ∧ va_T .byte g.1 0 (fun _ => .null) A U H ∧ va_Z "java/lang/String" "COMPACT_STRINGS" "Z" (.int 1) A U H ∧ va_Zq "jdk/internal/util/Preconditions" "SIOOBE_FORMATTER" "Ljava/util/function/BiFunction;" A U H ∧
  vx_Zq Bundle.tN "UNASSIGNED_STACK" Bundle.steD A U H ∧ vx_Zq Bundle.tN "SUPPRESSED_SENTINEL" Bundle.listD A U H ∧ (∀ k, k < xe_N → xe_L g k A U H) ∧ (∀ k, k < xe_M → xe_C g k A U H) ∧ (∀ w ∈ xe_nw, va_Nw w U) ∧ va_AO "ClassGate$Member" U ∧ va_AO "java/lang/String" U
theorem xe_ok {g : xe_G} : xb_ok (xe_E g) := by
  refine ⟨fun A s U H hW h => ?_, fun A U H H1 hq h => ?_, fun A B U H hAB h => ?_⟩
  · obtain ⟨h1, h2, h3, h4, h5, h6, h7, h8, h9, h10, h11⟩ := h
    refine ⟨va_Z.moved hW.alike h1, va_T.moved hW.alike h2, va_Z.moved hW.alike h3, va_Zq.moved hW.alike h4, vx_Zq.moved hW.alike h5, vx_Zq.moved hW.alike h6, fun k hk => ⟨vk_R.warm hW (h7 k hk).1, va_O.moved hW.alike (h7 k hk).2⟩, fun k hk => ⟨va_OF.moved hW.alike (h8 k hk).1, va_OF.moved hW.alike (h8 k hk).2.1, va_T.moved hW.alike (h8 k hk).2.2⟩, fun w hw => ?_, va_AO.moved hW.alike h10, va_AO.moved hW.alike h11⟩
    have h := h9 w hw
    simp only [xe_nw, List.mem_cons, List.not_mem_nil, or_false] at hw
    rcases hw with rfl | rfl | rfl | rfl
    · exact va_Nw.warmD hW h
    · exact va_Nw.warmD hW h
    · exact va_Nw.warmD hW h
    · exact va_Nw.warmC hW h
  · obtain ⟨h1, h2, h3, h4, h5, h6, h7, h8, h9, h10, h11⟩ := h
    exact ⟨h1.kept hq, h2.kept hq, h3.kept hq, h4.kept hq, h5.kept hq, h6.kept hq, fun k hk => ⟨(h7 k hk).1, (h7 k hk).2.kept hq⟩, fun k hk => ⟨(h8 k hk).1.kept hq, (h8 k hk).2.1.kept hq, (h8 k hk).2.2.kept hq⟩, h9, h10, h11⟩
  · obtain ⟨h1, h2, h3, h4, h5, h6, h7, h8, h9, h10, h11⟩ := h
    exact ⟨h1.narrow hAB, h2.narrow hAB, h3.narrow hAB, h4.narrow hAB, h5.narrow hAB, h6.narrow hAB, fun k hk => ⟨(h7 k hk).1, (h7 k hk).2.narrow hAB⟩, fun k hk => ⟨(h8 k hk).1.narrow hAB, (h8 k hk).2.1.narrow hAB, (h8 k hk).2.2.narrow hAB⟩, h9, h10, h11⟩
theorem xe_q {C n d : String} {A : Nat → Prop} {U : State} {H : Heap} (h : va_Zq C n d A U H) : ∃ v : Value, va_Z C n d v A U H ∧ v.category = 1 := by
  rcases h with h | ⟨t, h⟩
  · exact ⟨.null, h, rfl⟩
  · exact ⟨.ref t, h, rfl⟩
theorem xe_any {g : xe_G} {A : Nat → Prop} {s : State} {H : Heap} {locs : List Loc} (hE : xe_E g A s s.heap) (hS : va_S A s.heap H locs) (k : Nat) (hk : k < xe_N) : va_Any "java/lang/String" s H (g.2.1 k) := by
  obtain ⟨cell, h1, h2, h3, -⟩ := (hE.2.2.2.2.2.2.1 k hk).2.kept hS.2.1
  obtain ⟨kC, hkC, -⟩ := Vm.findClass_spec h3
  exact ⟨cell, h1, h2, ⟨kC, hkC⟩, fun comp h => by cases h3.symm.trans h; exact va_asg _ _⟩
theorem xe_recv {g : xe_G} {A : Nat → Prop} {s : State} {H : Heap} {locs : List Loc} (hE : xe_E g A s s.heap) (hS : va_S A s.heap H locs) (k : Nat) (hk : k < xe_N) : ∃ cell : Cell, H[g.2.1 k]? = some cell ∧ cell.vm.isStatics = false ∧ s.vm.findClass "java/lang/String" = some cell.cls := by
  obtain ⟨cell, h1, h2, h3, -⟩ := (hE.2.2.2.2.2.2.1 k hk).2.kept hS.2.1
  exact ⟨cell, h1, h2, h3⟩
theorem xe_moved {g : xe_G} {A : Nat → Prop} {s : State} {H : Heap} {locs : List Loc} (hE : xe_E g A s s.heap) (hS : va_S A s.heap H locs) : xe_E g A s H := xe_ok.2.1 _ _ _ _ hS.2.1 hE

theorem xe_good : ∀ w ∈ (vx_atS RX11 48 "java/lang/IllegalArgumentException" ["java/lang/RuntimeException", "java/lang/Exception"]).filter goodWord, w ∈ bg := by decide +kernel
theorem xe_rest : ∀ w ∈ (vx_atS RX11 48 "java/lang/IllegalArgumentException" ["java/lang/RuntimeException", "java/lang/Exception"]).filter (fun w => !goodWord w), w ∈ xe_nw := by decide +kernel
theorem xe_ot : ∀ w ∈ Cond.classLink RX11 44 "java/lang/IllegalArgumentException" :: Cond.initialized "java/lang/IllegalArgumentException" :: vx_atS RX11 48 "java/lang/IllegalArgumentException" ["java/lang/RuntimeException", "java/lang/Exception"], vx_ot w = true := by decide +kernel
theorem xe_on : ∀ w ∈ xe_nw, w.onTables = true := by decide +kernel
theorem xe_hat {g : xe_G} {A : Nat → Prop} {s : State} {args : Array Value} (hE : xe_E g A s s.heap) (htb : ∀ w ∈ bg, w.before args s = true) : ∀ w ∈ vx_atS RX11 48 "java/lang/IllegalArgumentException" ["java/lang/RuntimeException", "java/lang/Exception"], w.before args s = true :=
  vx_hat (B := xe_nw) (fun w hw => htb w (xe_good w hw)) xe_rest (fun w hw => va_Nw.use (xe_on w hw) (hE.2.2.2.2.2.2.2.2.1 w hw))
theorem xe_thrown {A : Nat → Prop} {D : va_G} {cl : List vw_C} {ws : va_W} {tys : List (ClassId × FieldType)} {s t : State} {H : Heap} {locs : List Loc} {K : String} {px : Prop} (hpx : px) (hP : va_P D cl ws H) (hK : va_K D cl tys s) (hD : va_D A ws) (hS : va_S A s.heap H locs) (hvm : s.vm.Alike t.vm) (hz : H.size ≤ t.heap.size) (hk : ∀ q : Nat, q < H.size → t.heap[q]? = H[q]?) :
    vx_X (fun _ : Unit => px) (fun E (_ : Unit) t => E = K ∧ xb_B D cl A (fun _ : Unit => ws) (fun _ : Unit => tys) () t) A K s t := by
  refine ⟨(), hpx, ⟨rfl, fun k q hq => va_at.kept (hP k q hq) (hk q.1 (hP k q hq).lt), va_K.moved hvm hK, hD⟩, Nat.le_trans hS.1 hz, fun q hq hA => ?_⟩
  rw [hk q (Nat.lt_of_lt_of_le hq hS.1)]
  exact hS.2.1 q hq hA
section XBX
variable {p : Program} {l : Launch} {e : Env} {R : Room} {s : State} {m : MethodId} {args : Array Value} {below : List Frame} {meth : Method} {c : Code} {H : Heap} {locs : List Loc} {cells slots : Nat} {Q : State → Prop}
variable {D : va_G} {cl : List vw_C} {ws wc wr : va_W} {tys tc : List (ClassId × FieldType)} {A : Nat → Prop} {pc : Nat} {ls : Array Slot} {rest st0 : List Value} {a : Array Value} {mc ms : Nat}
/-- a call that returns or throws K, under one handler that takes it -/
theorem xb_gox {S : Type} {post : Int32 → S → Prop} {W1 : S → va_W} {T1 : S → List (ClassId × FieldType)} {px : Prop} {own K : String} {a0 a1 hpc ct : Nat} (hr : vx_Run p l e R s m args below meth c H locs cells slots mc ms (F0 m pc ls st0) rest (va_Qi post (xb_B D cl (va_A wc H.size) W1 T1) (va_A wc H.size) a) (vx_X (fun _ : Unit => px) (fun E (_ : Unit) t => E = K ∧ xb_B D cl (va_A wc H.size) (fun _ : Unit => wc) (fun _ : Unit => tc) () t) (va_A wc H.size)) (va_A wc H.size))
    (hK : va_K D cl tys s) (hP : va_P D cl ws H) (hD : va_D A ws) (hS : va_S A s.heap H locs) (hA : ∀ q, s.heap.size ≤ q → A q) (isC isR : List Nat) (hC : isC.map (fun i => ws[i]?) = wc.map some) (hR : isR.map (fun i => ws[i]?) = wr.map some) (hnr : va_nd isR = true) (hdis : ∀ i ∈ isR, i ∉ isC)
    (hown : s.vm.findClass own = some m.cls) (hcl : (Cond.classLink own ct K).before args s = true) (htab : c.exceptionTable.toList = tableOf [(a0, a1, hpc, ct)]) (h0 : ct ≠ 0) (hcov : covers ⟨a0, a1, hpc, ct⟩ pc = true)
    (kk : ∀ (r : Int32) (u : S) (H1 : Heap) (locs1 : List Loc), post r u → va_P D cl (wr ++ W1 u) H1 → va_D A (wr ++ W1 u) → va_K D cl (tys ++ T1 u) s → va_S A s.heap H1 locs1 → W p l e R s m args below meth c H1 locs1 (cells + mc) (slots + ms) Q (F0 m (pc + 3) ls (.int r :: rest)))
    (kx : ∀ (x : Nat) (H1 : Heap) (locs1 : List Loc), px → va_P D cl (wr ++ wc) H1 → va_D A (wr ++ wc) → va_S A s.heap H1 locs1 → W p l e R s m args below meth c H1 locs1 (cells + mc) (slots + ms) Q (F0 m hpc ls [.ref x])) : W p l e R s m args below meth c H locs cells slots Q (F0 m pc ls st0) := by
  have hF := va_free hD hS hA isC hC
  refine vx_calli hr hS (fun q _ h => hF q h) hF (fun q _ h => hF q h) (fun E ce q9 u t H1 locs1 ht hvm hpx hBX hz hk1 hS1 hcell hv hcl1 => ?_) (fun r u t H1 locs1 ht hvm hw hB hz1 hk1 hS1 => ?_)
  · obtain ⟨rfl, hP1, -, hD1⟩ := hBX
    rw [ht] at hP1
    obtain ⟨hP2, hD2⟩ := va_join hP hD isC isR hC hR hnr hdis hk1 hF hP1 hD1
    intro T hT X
    obtain ⟨vm2, X2, st2⟩ := xt_caught (g := F0 m pc ls rest) X hown hcl htab h0 rfl hcov (by rw [hT]; exact hcell) hv hcl1 (va_asg _ _)
    obtain ⟨t2, b1, b2⟩ := kx q9 H1 locs1 hpx hP2 hD2 hS1 (T.setVm vm2) hT X2
    exact ⟨t2, st2 t2 b1, b2⟩
  · obtain ⟨hP1, hK1, hD1⟩ := hB
    rw [ht] at hP1
    obtain ⟨hP2, hD2⟩ := va_join hP hD isC isR hC hR hnr hdis hk1 hF hP1 hD1
    exact kk r u H1 locs1 hw hP2 hD2 (hK.app (va_K.moved hvm.symm hK1)) hS1
end XBX

/-! an object of many fields: a list of 82 values, of which some are known -/
def md_has (fs : List Value) (K : List (Nat × Value)) : Prop := fs.length = 82 ∧ ∀ q ∈ K, fs[q.1]? = some q.2
theorem md_at {fs : List Value} {K : List (Nat × Value)} (h : md_has fs K) (j : Nat) {k : Nat} {v : Value} (hj : K[j]? = some (k, v)) : fs[k]? = some v := h.2 (k, v) (List.mem_of_getElem? hj)
theorem md_sub {fs : List Value} {K K' : List (Nat × Value)} (h : md_has fs K) (js : List Nat) (hl : js.filterMap (fun j => K[j]?) = K') : md_has fs K' := by
  refine ⟨h.1, fun q hq => ?_⟩
  rw [← hl] at hq
  obtain ⟨j, -, hj⟩ := List.mem_filterMap.mp hq
  exact h.2 q (List.mem_of_getElem? hj)
theorem md_putD {fs : List Value} {K K' : List (Nat × Value)} (h : md_has fs K) (k : Nat) (v : Value) (hk : k < 82) (hl : K.filter (fun q => !(q.1 == k)) = K') : md_has (fs.set k v) K' := by
  refine ⟨by rw [List.length_set]; exact h.1, fun q hq => ?_⟩
  rw [← hl] at hq
  obtain ⟨h1, h2⟩ := List.mem_filter.mp hq
  have h3 : k ≠ q.1 := fun e => by simp [e] at h2
  rw [List.getElem?_set_ne h3]
  exact h.2 q h1
theorem md_put {fs : List Value} {K K' : List (Nat × Value)} (h : md_has fs K) (k : Nat) (v : Value) (hk : k < 82) (hl : (k, v) :: K.filter (fun q => !(q.1 == k)) = K') : md_has (fs.set k v) K' := by
  have h1 := md_putD h k v hk (K' := K.filter (fun q => !(q.1 == k))) rfl
  refine ⟨h1.1, fun q hq => ?_⟩
  rw [← hl] at hq
  rcases List.mem_cons.mp hq with rfl | hq
  · exact List.getElem?_set_self (by rw [h.1]; exact hk)
  · exact h1.2 q hq
end
section
/-! THE SMALL MACHINE: cells by their addresses, in part unknown; locals by number; what it does, the machine does (my own text) -/
abbrev mi_C : Type := (FieldType × Nat × (Nat → Option Value)) ⊕ (Nat × (Nat → Option Value))
abbrev mi_H : Type := (Nat → Option mi_C) × Nat × Nat
abbrev mi_S : Type := Nat × List (Nat × Value) × List Value × mi_H
abbrev mi_R : Type := Option Value × mi_H
abbrev mi_O : Type := mi_S → Option mi_S
abbrev mi_N : Type := mi_O ⊕ (Nat × Nat × Option Nat) ⊕ (List Value → Option (Option Value))
abbrev mi_B : Type := (Nat → Option mi_N) × (Nat → Option (List Nat))
def mi_ld (lv : List (Nat × Value)) (i : Nat) : Option Value := (lv.find? (fun q => q.1 == i)).map (fun q => q.2)
def mi_pick (lv : List (Nat × Value)) (ks : List Nat) : List (Nat × Value) := ks.filterMap (fun k => lv.find? (fun q => q.1 == k))
def mi_nk (kl : Nat → Option (List Nat)) (S : mi_S) : mi_S := match kl S.1 with
  | some ks => (S.1, mi_pick S.2.1 ks, S.2.2)
  | none => S
def mi_okc (k : Option Nat) (na : Nat) (S : mi_S) : Bool := decide (na ≤ S.2.2.1.length) && decide ((((S.2.2.1.drop na)).map fun v => v.category).sum ≤ 8) && (match k with
  | none => true
  | some ci => match (S.2.2.1.take na).reverse with
    | .ref b :: _ => match S.2.2.2.1 b with
      | some (.inr (c, _)) => c == ci
      | _ => false
    | _ => false)
def mi_loop (tb : mi_B) (call : Nat → List Value → mi_H → Option mi_R) : Nat → mi_S → Option mi_R
  | 0, _ => none
  | n + 1, S => match tb.1 S.1 with
    | some (.inl o) => match o S with
      | some S' => mi_loop tb call n (mi_nk tb.2 S')
      | none => none
    | some (.inr (.inl c)) => match mi_okc c.2.2 c.2.1 S with
      | true => match call c.1 (S.2.2.1.take c.2.1).reverse S.2.2.2 with
        | some r => mi_loop tb call n (mi_nk tb.2 (S.1 + 3, S.2.1, r.1.toList ++ S.2.2.1.drop c.2.1, r.2))
        | none => none
      | false => none
    | some (.inr (.inr f)) => (f S.2.2.1).map (fun v => (v, S.2.2.2))
    | none => none
/-- number of the method, then: how many locals, its table -/
def mi_run (T : Nat → Option (Nat × mi_B)) (n : Nat) : Nat → Nat → List Value → mi_H → Option mi_R
  | 0, _, _, _ => none
  | d + 1, y, a, M => match T y with
    | none => none
    | some b => match decide ((lg_sl a).length ≤ b.1) with
      | true => mi_loop b.2 (mi_run T n d) n (0, lv_args 0 a, [], M)
      | false => none
/-! what the cells say of the heap -/
def mi_ct (ty : FieldType) (n : Nat) (f : Nat → Option Value) (x : vp_A) : Prop := x.1 = n ∧
  ((ty ∈ [FieldType.int, .byte, .char, .short, .boolean] ∧ ∃ h, x.2 = .inl h ∧ ∀ i v, f i = some v → v = .int (h i)) ∨ (ty = .long ∧ ∃ h, x.2 = .inr (.inl h) ∧ ∀ i v, f i = some v → v = .long (h i)) ∨
    ((∃ C, ty = .object C) ∧ ∃ h, x.2 = .inr (.inr (.inr (.inr h))) ∧ ∀ i v, f i = some v → v = va_rf (h i)))
def mi_n (ci : Nat) : Nat := match vwCl[ci]? with
  | some r => r.2.2
  | none => 0
def mi_e (tys : List (ClassId × FieldType)) (c : mi_C) (e : va_E) : Prop := match c with
  | .inl a => ∃ cA x, e = .inl (cA, x) ∧ (cA, a.1) ∈ tys ∧ mi_ct a.1 a.2.1 a.2.2 x
  | .inr o => ∃ fs, e = .inr (o.1, fs) ∧ fs.length = mi_n o.1 ∧ ∀ k v, o.2 k = some v → fs[k]? = some v
def mi_wr (g : xe_G) (a : Nat) (c : mi_C) : Prop := a ≠ g.1 ∧ ∀ o, c = .inr o → o.1 < 100
def mi_in (g : xe_G) (tys : List (ClassId × FieldType)) (ws : va_W) (a : Nat) (c : mi_C) : Prop :=
  (mi_wr g a c ∧ ∃ (k : Nat) (e : va_E), ws[k]? = some (a, e) ∧ mi_e tys c e) ∨ (a = g.1 ∧ ∃ f, c = .inl (.byte, 0, f)) ∨ (∃ k f, k < xe_N ∧ a = g.2.1 k ∧ c = .inr (100 + k, f))
def mi_rel (g : xe_G) (D : va_G) (A : Nat → Prop) (s : State) (M : mi_H) (H : Heap) (ws : va_W) (tys : List (ClassId × FieldType)) : Prop :=
  va_K D vwCl tys s ∧ va_P D vwCl ws H ∧ va_D A ws ∧ H.size = M.2.1 ∧ (∀ a c, M.1 a = some c → mi_in g tys ws a c) ∧ ∀ (k a : Nat) (e : va_E), ws[k]? = some (a, e) → ∃ c, M.1 a = some c ∧ mi_wr g a c
def mi_A (g : xe_G) (M : mi_H) : Nat → Prop := fun q => (∃ c, M.1 q = some c ∧ mi_wr g q c) ∨ M.2.1 ≤ q
def mi_Pre (g : xe_G) (D : va_G) (M : mi_H) (av : List Value) : Array Value → State → Prop := va_Pc av (fun U => ∃ ws tys, mi_rel g D (fun _ => True) U M U.heap ws tys ∧ xe_E g (mi_A g M) U U.heap)
def mi_Q (g : xe_G) (D : va_G) (M : mi_H) (v : Option Value) (M' : mi_H) : Array Value → State → Outcome → State → Prop := fun _ st oc t =>
  (oc = .returned v ∧ ∃ ws tys, mi_rel g D (mi_A g M) t M' t.heap ws tys) ∧ va_F (mi_A g M) st t
def mi_rm (d mc ms : Nat) : Room := { frames := d + 8, cells := mc, slots := ms, locals := 40 * d + 1000 }
/-- what a walk of a method knows all along -/
def mi_cx (own : String) (cc : ByteArray) (nL : Nat) (ini : Bool) (g : xe_G) (D : va_G) (p : Program) (e : Env) (R : Room) (s : State) (m : MethodId) (args : Array Value) (meth : Method) (c : Code) (A : Nat → Prop) : Prop :=
  p.tables.exec = Jvm.exec ∧ c.code = cc ∧ c.maxLocals = nL ∧ s.vm.findClass own = some m.cls ∧ (∀ w ∈ bg, w.before args s = true) ∧ xe_E g A s s.heap ∧ (ini = true → meth.name = "<init>") ∧ (∀ q, s.heap.size ≤ q → A q) ∧ va_K D vwCl [] s ∧ 8 ≤ R.frames ∧ 1000 ≤ R.locals
def mi_W (nL : Nat) (g : xe_G) (D : va_G) (p : Program) (l : Launch) (e : Env) (R : Room) (s : State) (m : MethodId) (args : Array Value) (below : List Frame) (meth : Method) (c : Code) (A : Nat → Prop) (n0 s0 : Nat) (Q : State → Prop) (S : mi_S) : Prop :=
  ∀ H locs ls ws tys, mi_rel g D A s S.2.2.2 H ws tys → lv_has ls nL S.2.1 → va_S A s.heap H locs → W p l e R s m args below meth c H locs (S.2.2.2.2.1 - n0) (S.2.2.2.2.2 - s0) Q (F0 m S.1 ls S.2.2.1)
def mi_sim (g : xe_G) (own : String) (cc : ByteArray) (nL : Nat) (ini : Bool) (pc : Nat) (o : mi_O) : Prop :=
  ∀ lv st M S', o (pc, lv, st, M) = some S' → (M.2.1 ≤ S'.2.2.2.2.1 ∧ M.2.2 ≤ S'.2.2.2.2.2) ∧
    ∀ (D : va_G) (p : Program) (l : Launch) (e : Env) (R : Room) (s : State) (m : MethodId) (args : Array Value) (below : List Frame) (meth : Method) (c : Code) (A : Nat → Prop) (n0 s0 : Nat) (Q : State → Prop),
      mi_cx own cc nL ini g D p e R s m args meth c A → n0 ≤ M.2.1 → s0 ≤ M.2.2 → S'.2.2.2.2.1 - n0 ≤ R.cells → S'.2.2.2.2.2 - s0 ≤ R.slots →
      mi_W nL g D p l e R s m args below meth c A n0 s0 Q S' → mi_W nL g D p l e R s m args below meth c A n0 s0 Q (pc, lv, st, M)
/-- steps that leave heap and locals alone -/
def mi_ps (g : xe_G) (own : String) (cc : ByteArray) (nL : Nat) (ini : Bool) (pc : Nat) (o : mi_O) : Prop :=
  ∀ lv st M S', o (pc, lv, st, M) = some S' → S'.2.2.2 = M ∧ S'.2.1 = lv ∧
    ∀ (D : va_G) (p : Program) (l : Launch) (e : Env) (R : Room) (s : State) (m : MethodId) (args : Array Value) (below : List Frame) (meth : Method) (c : Code) (A : Nat → Prop) (Q : State → Prop) (H : Heap) (locs : List Loc) (ls : Array Slot) (cells slots : Nat) (ws : va_W) (tys : List (ClassId × FieldType)),
      mi_cx own cc nL ini g D p e R s m args meth c A → mi_rel g D A s M H ws tys → lv_has ls nL lv → va_S A s.heap H locs → cells ≤ R.cells → slots ≤ R.slots →
      W p l e R s m args below meth c H locs cells slots Q (F0 m S'.1 ls S'.2.2.1) → W p l e R s m args below meth c H locs cells slots Q (F0 m pc ls st)
theorem mi_ps.sim {g : xe_G} {own : String} {cc : ByteArray} {nL : Nat} {ini : Bool} {pc : Nat} {o : mi_O} (h : mi_ps g own cc nL ini pc o) : mi_sim g own cc nL ini pc o := by
  intro lv st M S' ho
  obtain ⟨pc', lv', st', M'⟩ := S'
  obtain ⟨h1, h2, h3⟩ := h lv st M _ ho
  dsimp only at h1 h2 h3
  subst h1; subst h2
  refine ⟨⟨Nat.le_refl _, Nat.le_refl _⟩, ?_⟩
  intro D p l e R s m args below meth c A n0 s0 Q hc _ _ hR1 hR2 hW H locs ls ws tys hr hl hS
  exact h3 D p l e R s m args below meth c A Q H locs ls _ _ ws tys hc hr hl hS hR1 hR2 (hW H locs ls ws tys hr hl hS)
theorem mi_ld_has {ls : Array Slot} {nL i : Nat} {lv : List (Nat × Value)} {v : Value} (h : lv_has ls nL lv) (hv : mi_ld lv i = some v) : ls[i]? = some (.val v) := by
  unfold mi_ld at hv
  cases hf : lv.find? (fun q => q.1 == i) with
  | none => rw [hf] at hv; cases hv
  | some q =>
    rw [hf] at hv
    have h1 := List.find?_some hf
    have h2 := List.mem_of_find?_eq_some hf
    have h3 : q.1 = i := by simpa using h1
    cases hv
    rw [← h3]
    exact h.2.2 q h2
theorem mi_pick_has {ls : Array Slot} {nL : Nat} {lv : List (Nat × Value)} (h : lv_has ls nL lv) (ks : List Nat) : lv_has ls nL (mi_pick lv ks) := by
  refine ⟨h.1, h.2.1, fun q hq => ?_⟩
  obtain ⟨k, -, hk⟩ := List.mem_filterMap.mp hq
  exact h.2.2 q (List.mem_of_find?_eq_some hk)
theorem mi_nk_W {kl : Nat → Option (List Nat)} {nL : Nat} {g : xe_G} {D : va_G} {p : Program} {l : Launch} {e : Env} {R : Room} {s : State} {m : MethodId} {args : Array Value} {below : List Frame} {meth : Method} {c : Code} {A : Nat → Prop} {n0 s0 : Nat} {Q : State → Prop} {S : mi_S}
    (h : mi_W nL g D p l e R s m args below meth c A n0 s0 Q (mi_nk kl S)) : mi_W nL g D p l e R s m args below meth c A n0 s0 Q S := by
  intro H locs ls ws tys hr hl hS
  unfold mi_nk at h
  split at h
  · exact h H locs ls ws tys hr (mi_pick_has hl _) hS
  · exact h H locs ls ws tys hr hl hS
theorem mi_nk_H {kl : Nat → Option (List Nat)} {S : mi_S} : (mi_nk kl S).2.2 = S.2.2 ∧ (mi_nk kl S).1 = S.1 := by
  unfold mi_nk
  split <;> exact ⟨rfl, rfl⟩
end
section
section MIO
def o_push (v : Value) (n : Nat) : mi_O := fun S => some (S.1 + n, S.2.1, v :: S.2.2.1, S.2.2.2)
theorem sm_iconst {g : xe_G} {own : String} {cc : ByteArray} {nL : Nat} {ini : Bool} {pc : Nat} {n : Int} {v : Int32} (hd : decode cc pc = .ok (.iconst n, 1)) (hv : Int32.ofInt n = v) : mi_ps g own cc nL ini pc (o_push (.int v) 1) := by
  intro lv st M S' h
  unfold o_push at h
  dsimp only at h
  cases h
  refine ⟨rfl, rfl, ?_⟩
  intro D p l e R s m args below meth c A Q H locs ls cells slots ws tys hc hr hl hS hR1 hR2 k
  obtain ⟨hx, hb, hml, hown, htb, hE, hini, hA, hK0, hfr, hlo⟩ := hc
  exact lv_iconst hx hb hd hv k
theorem sm_bipush {g : xe_G} {own : String} {cc : ByteArray} {nL : Nat} {ini : Bool} {pc : Nat} {n : Int} {v : Int32} (hd : decode cc pc = .ok (.bipush n, 2)) (hv : (Int8.ofInt n).toInt32 = v) : mi_ps g own cc nL ini pc (o_push (.int v) 2) := by
  intro lv st M S' h
  unfold o_push at h
  dsimp only at h
  cases h
  refine ⟨rfl, rfl, ?_⟩
  intro D p l e R s m args below meth c A Q H locs ls cells slots ws tys hc hr hl hS hR1 hR2 k
  obtain ⟨hx, hb, hml, hown, htb, hE, hini, hA, hK0, hfr, hlo⟩ := hc
  exact lv_bipush hx hb hd hv k
theorem sm_sipush {g : xe_G} {own : String} {cc : ByteArray} {nL : Nat} {ini : Bool} {pc : Nat} {n : Int} {v : Int32} (hd : decode cc pc = .ok (.sipush n, 3)) (hv : (Int16.ofInt n).toInt32 = v) : mi_ps g own cc nL ini pc (o_push (.int v) 3) := by
  intro lv st M S' h
  unfold o_push at h
  dsimp only at h
  cases h
  refine ⟨rfl, rfl, ?_⟩
  intro D p l e R s m args below meth c A Q H locs ls cells slots ws tys hc hr hl hS hR1 hR2 k
  obtain ⟨hx, hb, hml, hown, htb, hE, hini, hA, hK0, hfr, hlo⟩ := hc
  exact lv_sipush hx hb hd hv k
theorem sm_lconst {g : xe_G} {own : String} {cc : ByteArray} {nL : Nat} {ini : Bool} {pc : Nat} {n : Fin 2} {v : Int64} (hd : decode cc pc = .ok (.lconst n, 1)) (hv : Int64.ofNat (n : Nat) = v) : mi_ps g own cc nL ini pc (o_push (.long v) 1) := by
  intro lv st M S' h
  unfold o_push at h
  dsimp only at h
  cases h
  refine ⟨rfl, rfl, ?_⟩
  intro D p l e R s m args below meth c A Q H locs ls cells slots ws tys hc hr hl hS hR1 hR2 k
  obtain ⟨hx, hb, hml, hown, htb, hE, hini, hA, hK0, hfr, hlo⟩ := hc
  exact lv_lconst hx hb hd hv k
theorem sm_null {g : xe_G} {own : String} {cc : ByteArray} {nL : Nat} {ini : Bool} {pc : Nat} (hd : decode cc pc = .ok (.aconst_null, 1)) : mi_ps g own cc nL ini pc (o_push .null 1) := by
  intro lv st M S' h
  unfold o_push at h
  dsimp only at h
  cases h
  refine ⟨rfl, rfl, ?_⟩
  intro D p l e R s m args below meth c A Q H locs ls cells slots ws tys hc hr hl hS hR1 hR2 k
  obtain ⟨hx, hb, hml, hown, htb, hE, hini, hA, hK0, hfr, hlo⟩ := hc
  exact lv_null hx hb hd k
theorem sm_ldc {g : xe_G} {own : String} {cc : ByteArray} {nL : Nat} {ini : Bool} {pc : Nat} {i : Nat} {v : Int32} (hw : Cond.constant own i v ∈ bg) (hd : decode cc pc = .ok (.ldc i, 2)) : mi_ps g own cc nL ini pc (o_push (.int v) 2) := by
  intro lv st M S' h
  unfold o_push at h
  dsimp only at h
  cases h
  refine ⟨rfl, rfl, ?_⟩
  intro D p l e R s m args below meth c A Q H locs ls cells slots ws tys hc hr hl hS hR1 hR2 k
  obtain ⟨hx, hb, hml, hown, htb, hE, hini, hA, hK0, hfr, hlo⟩ := hc
  exact lv_ldc hx hb hown (htb _ hw) hd k
theorem sm_ldcw {g : xe_G} {own : String} {cc : ByteArray} {nL : Nat} {ini : Bool} {pc : Nat} {i : Nat} {v : Int32} (hw : Cond.constant own i v ∈ bg) (hd : decode cc pc = .ok (.ldc_w i, 3)) : mi_ps g own cc nL ini pc (o_push (.int v) 3) := by
  intro lv st M S' h
  unfold o_push at h
  dsimp only at h
  cases h
  refine ⟨rfl, rfl, ?_⟩
  intro D p l e R s m args below meth c A Q H locs ls cells slots ws tys hc hr hl hS hR1 hR2 k
  obtain ⟨hx, hb, hml, hown, htb, hE, hini, hA, hK0, hfr, hlo⟩ := hc
  exact lv_ldcw hx hb hown (htb _ hw) hd k
theorem sm_ldc2 {g : xe_G} {own : String} {cc : ByteArray} {nL : Nat} {ini : Bool} {pc : Nat} {i : Nat} {v : Int64} (hw : Cond.constantLong own i v ∈ bg) (hd : decode cc pc = .ok (.ldc2_w i, 3)) : mi_ps g own cc nL ini pc (o_push (.long v) 3) := by
  intro lv st M S' h
  unfold o_push at h
  dsimp only at h
  cases h
  refine ⟨rfl, rfl, ?_⟩
  intro D p l e R s m args below meth c A Q H locs ls cells slots ws tys hc hr hl hS hR1 hR2 k
  obtain ⟨hx, hb, hml, hown, htb, hE, hini, hA, hK0, hfr, hlo⟩ := hc
  exact lv_ldc2 hx hb hown (htb _ hw) hd k
def o_iload (i n : Nat) : mi_O := fun S => match mi_ld S.2.1 i with
  | some (.int x) => some (S.1 + n, S.2.1, .int x :: S.2.2.1, S.2.2.2)
  | _ => none
theorem sm_iload_n {g : xe_G} {own : String} {cc : ByteArray} {nL : Nat} {ini : Bool} {pc : Nat} {i : Nat} {k : Fin 4} (hd : decode cc pc = .ok (.iload_n k, 1)) (hi : (k : Nat) = i) : mi_ps g own cc nL ini pc (o_iload i 1) := by
  intro lv st M S' h
  unfold o_iload at h
  dsimp only at h
  split at h
  · cases h
    refine ⟨rfl, rfl, ?_⟩
    intro D p l e R s m args below meth c A Q H locs ls cells slots ws tys hc hr hl hS hR1 hR2 k
    obtain ⟨hx, hb, hml, hown, htb, hE, hini, hA, hK0, hfr, hlo⟩ := hc
    rename_i x h9
    exact lv_iload_n hx hb hd hi (mi_ld_has hl h9) k
  · cases h
theorem sm_iload {g : xe_G} {own : String} {cc : ByteArray} {nL : Nat} {ini : Bool} {pc : Nat} {i : Nat} (hd : decode cc pc = .ok (.iload i, 2)) : mi_ps g own cc nL ini pc (o_iload i 2) := by
  intro lv st M S' h
  unfold o_iload at h
  dsimp only at h
  split at h
  · cases h
    refine ⟨rfl, rfl, ?_⟩
    intro D p l e R s m args below meth c A Q H locs ls cells slots ws tys hc hr hl hS hR1 hR2 k
    obtain ⟨hx, hb, hml, hown, htb, hE, hini, hA, hK0, hfr, hlo⟩ := hc
    rename_i x h9
    exact lv_iload hx hb hd (mi_ld_has hl h9) k
  · cases h
def o_lload (i n : Nat) : mi_O := fun S => match mi_ld S.2.1 i with
  | some (.long x) => some (S.1 + n, S.2.1, .long x :: S.2.2.1, S.2.2.2)
  | _ => none
theorem sm_lload_n {g : xe_G} {own : String} {cc : ByteArray} {nL : Nat} {ini : Bool} {pc : Nat} {i : Nat} {k : Fin 4} (hd : decode cc pc = .ok (.lload_n k, 1)) (hi : (k : Nat) = i) : mi_ps g own cc nL ini pc (o_lload i 1) := by
  intro lv st M S' h
  unfold o_lload at h
  dsimp only at h
  split at h
  · cases h
    refine ⟨rfl, rfl, ?_⟩
    intro D p l e R s m args below meth c A Q H locs ls cells slots ws tys hc hr hl hS hR1 hR2 k
    obtain ⟨hx, hb, hml, hown, htb, hE, hini, hA, hK0, hfr, hlo⟩ := hc
    rename_i x h9
    exact lv_lload_n hx hb hd hi (mi_ld_has hl h9) k
  · cases h
theorem sm_lload {g : xe_G} {own : String} {cc : ByteArray} {nL : Nat} {ini : Bool} {pc : Nat} {i : Nat} (hd : decode cc pc = .ok (.lload i, 2)) : mi_ps g own cc nL ini pc (o_lload i 2) := by
  intro lv st M S' h
  unfold o_lload at h
  dsimp only at h
  split at h
  · cases h
    refine ⟨rfl, rfl, ?_⟩
    intro D p l e R s m args below meth c A Q H locs ls cells slots ws tys hc hr hl hS hR1 hR2 k
    obtain ⟨hx, hb, hml, hown, htb, hE, hini, hA, hK0, hfr, hlo⟩ := hc
    rename_i x h9
    exact lv_lload hx hb hd (mi_ld_has hl h9) k
  · cases h
def o_aload (i n : Nat) : mi_O := fun S => match mi_ld S.2.1 i with
  | some (.ref x) => some (S.1 + n, S.2.1, .ref x :: S.2.2.1, S.2.2.2)
  | some .null => some (S.1 + n, S.2.1, .null :: S.2.2.1, S.2.2.2)
  | _ => none
theorem sm_aload_n {g : xe_G} {own : String} {cc : ByteArray} {nL : Nat} {ini : Bool} {pc : Nat} {i : Nat} {k : Fin 4} (hd : decode cc pc = .ok (.aload_n k, 1)) (hi : (k : Nat) = i) : mi_ps g own cc nL ini pc (o_aload i 1) := by
  intro lv st M S' h
  unfold o_aload at h
  dsimp only at h
  split at h
  · cases h
    refine ⟨rfl, rfl, ?_⟩
    intro D p l e R s m args below meth c A Q H locs ls cells slots ws tys hc hr hl hS hR1 hR2 k
    obtain ⟨hx, hb, hml, hown, htb, hE, hini, hA, hK0, hfr, hlo⟩ := hc
    rename_i x h9
    exact lv_aload_n hx hb hd hi (mi_ld_has hl h9) k
  · cases h
    refine ⟨rfl, rfl, ?_⟩
    intro D p l e R s m args below meth c A Q H locs ls cells slots ws tys hc hr hl hS hR1 hR2 k
    obtain ⟨hx, hb, hml, hown, htb, hE, hini, hA, hK0, hfr, hlo⟩ := hc
    rename_i h9
    exact lv_aload_nN hx hb hd hi (mi_ld_has hl h9) k
  · cases h
theorem sm_aload {g : xe_G} {own : String} {cc : ByteArray} {nL : Nat} {ini : Bool} {pc : Nat} {i : Nat} (hd : decode cc pc = .ok (.aload i, 2)) : mi_ps g own cc nL ini pc (o_aload i 2) := by
  intro lv st M S' h
  unfold o_aload at h
  dsimp only at h
  split at h
  · cases h
    refine ⟨rfl, rfl, ?_⟩
    intro D p l e R s m args below meth c A Q H locs ls cells slots ws tys hc hr hl hS hR1 hR2 k
    obtain ⟨hx, hb, hml, hown, htb, hE, hini, hA, hK0, hfr, hlo⟩ := hc
    rename_i x h9
    exact lv_aload hx hb hd (mi_ld_has hl h9) k
  · cases h
    refine ⟨rfl, rfl, ?_⟩
    intro D p l e R s m args below meth c A Q H locs ls cells slots ws tys hc hr hl hS hR1 hR2 k
    obtain ⟨hx, hb, hml, hown, htb, hE, hini, hA, hK0, hfr, hlo⟩ := hc
    rename_i h9
    exact lv_aloadN hx hb hd (mi_ld_has hl h9) k
  · cases h
def o_bin (f : Int32 → Int32 → Int32) (n : Nat) : mi_O := fun S => match S.2.2.1 with
  | .int y :: .int x :: st => some (S.1 + n, S.2.1, .int (f x y) :: st, S.2.2.2)
  | _ => none
theorem sm_iadd {g : xe_G} {own : String} {cc : ByteArray} {nL : Nat} {ini : Bool} {pc : Nat} (hd : decode cc pc = .ok (.iadd, 1)) : mi_ps g own cc nL ini pc (o_bin (fun x y => x + y) 1) := by
  intro lv st M S' h
  unfold o_bin at h
  dsimp only at h
  split at h
  · cases h
    refine ⟨rfl, rfl, ?_⟩
    intro D p l e R s m args below meth c A Q H locs ls cells slots ws tys hc hr hl hS hR1 hR2 k
    obtain ⟨hx, hb, hml, hown, htb, hE, hini, hA, hK0, hfr, hlo⟩ := hc
    exact lv_iadd hx hb hd k
  · cases h
theorem sm_isub {g : xe_G} {own : String} {cc : ByteArray} {nL : Nat} {ini : Bool} {pc : Nat} (hd : decode cc pc = .ok (.isub, 1)) : mi_ps g own cc nL ini pc (o_bin (fun x y => x - y) 1) := by
  intro lv st M S' h
  unfold o_bin at h
  dsimp only at h
  split at h
  · cases h
    refine ⟨rfl, rfl, ?_⟩
    intro D p l e R s m args below meth c A Q H locs ls cells slots ws tys hc hr hl hS hR1 hR2 k
    obtain ⟨hx, hb, hml, hown, htb, hE, hini, hA, hK0, hfr, hlo⟩ := hc
    exact lv_isub hx hb hd k
  · cases h
theorem sm_imul {g : xe_G} {own : String} {cc : ByteArray} {nL : Nat} {ini : Bool} {pc : Nat} (hd : decode cc pc = .ok (.imul, 1)) : mi_ps g own cc nL ini pc (o_bin (fun x y => x * y) 1) := by
  intro lv st M S' h
  unfold o_bin at h
  dsimp only at h
  split at h
  · cases h
    refine ⟨rfl, rfl, ?_⟩
    intro D p l e R s m args below meth c A Q H locs ls cells slots ws tys hc hr hl hS hR1 hR2 k
    obtain ⟨hx, hb, hml, hown, htb, hE, hini, hA, hK0, hfr, hlo⟩ := hc
    exact lv_imul hx hb hd k
  · cases h
theorem sm_iand {g : xe_G} {own : String} {cc : ByteArray} {nL : Nat} {ini : Bool} {pc : Nat} (hd : decode cc pc = .ok (.iand, 1)) : mi_ps g own cc nL ini pc (o_bin (fun x y => x &&& y) 1) := by
  intro lv st M S' h
  unfold o_bin at h
  dsimp only at h
  split at h
  · cases h
    refine ⟨rfl, rfl, ?_⟩
    intro D p l e R s m args below meth c A Q H locs ls cells slots ws tys hc hr hl hS hR1 hR2 k
    obtain ⟨hx, hb, hml, hown, htb, hE, hini, hA, hK0, hfr, hlo⟩ := hc
    exact lv_iand hx hb hd k
  · cases h
theorem sm_ior {g : xe_G} {own : String} {cc : ByteArray} {nL : Nat} {ini : Bool} {pc : Nat} (hd : decode cc pc = .ok (.ior, 1)) : mi_ps g own cc nL ini pc (o_bin (fun x y => x ||| y) 1) := by
  intro lv st M S' h
  unfold o_bin at h
  dsimp only at h
  split at h
  · cases h
    refine ⟨rfl, rfl, ?_⟩
    intro D p l e R s m args below meth c A Q H locs ls cells slots ws tys hc hr hl hS hR1 hR2 k
    obtain ⟨hx, hb, hml, hown, htb, hE, hini, hA, hK0, hfr, hlo⟩ := hc
    exact lv_ior hx hb hd k
  · cases h
theorem sm_ixor {g : xe_G} {own : String} {cc : ByteArray} {nL : Nat} {ini : Bool} {pc : Nat} (hd : decode cc pc = .ok (.ixor, 1)) : mi_ps g own cc nL ini pc (o_bin (fun x y => x ^^^ y) 1) := by
  intro lv st M S' h
  unfold o_bin at h
  dsimp only at h
  split at h
  · cases h
    refine ⟨rfl, rfl, ?_⟩
    intro D p l e R s m args below meth c A Q H locs ls cells slots ws tys hc hr hl hS hR1 hR2 k
    obtain ⟨hx, hb, hml, hown, htb, hE, hini, hA, hK0, hfr, hlo⟩ := hc
    exact lv_ixor hx hb hd k
  · cases h
theorem sm_ishl {g : xe_G} {own : String} {cc : ByteArray} {nL : Nat} {ini : Bool} {pc : Nat} (hd : decode cc pc = .ok (.ishl, 1)) : mi_ps g own cc nL ini pc (o_bin (fun x y => x <<< (y &&& 31)) 1) := by
  intro lv st M S' h
  unfold o_bin at h
  dsimp only at h
  split at h
  · cases h
    refine ⟨rfl, rfl, ?_⟩
    intro D p l e R s m args below meth c A Q H locs ls cells slots ws tys hc hr hl hS hR1 hR2 k
    obtain ⟨hx, hb, hml, hown, htb, hE, hini, hA, hK0, hfr, hlo⟩ := hc
    exact lv_ishl hx hb hd k
  · cases h
theorem sm_ishr {g : xe_G} {own : String} {cc : ByteArray} {nL : Nat} {ini : Bool} {pc : Nat} (hd : decode cc pc = .ok (.ishr, 1)) : mi_ps g own cc nL ini pc (o_bin (fun x y => x >>> (y &&& 31)) 1) := by
  intro lv st M S' h
  unfold o_bin at h
  dsimp only at h
  split at h
  · cases h
    refine ⟨rfl, rfl, ?_⟩
    intro D p l e R s m args below meth c A Q H locs ls cells slots ws tys hc hr hl hS hR1 hR2 k
    obtain ⟨hx, hb, hml, hown, htb, hE, hini, hA, hK0, hfr, hlo⟩ := hc
    exact lv_ishr hx hb hd k
  · cases h
theorem sm_iushr {g : xe_G} {own : String} {cc : ByteArray} {nL : Nat} {ini : Bool} {pc : Nat} (hd : decode cc pc = .ok (.iushr, 1)) : mi_ps g own cc nL ini pc (o_bin (fun x y => (x.toUInt32 >>> (y.toUInt32 &&& Int32.toUInt32 31)).toInt32) 1) := by
  intro lv st M S' h
  unfold o_bin at h
  dsimp only at h
  split at h
  · cases h
    refine ⟨rfl, rfl, ?_⟩
    intro D p l e R s m args below meth c A Q H locs ls cells slots ws tys hc hr hl hS hR1 hR2 k
    obtain ⟨hx, hb, hml, hown, htb, hE, hini, hA, hK0, hfr, hlo⟩ := hc
    exact lv_iushr hx hb hd rfl k
  · cases h
def o_div (f : Int32 → Int32 → Int32) : mi_O := fun S => match S.2.2.1 with
  | .int y :: .int x :: st => if y = 0 then none else some (S.1 + 1, S.2.1, .int (f x y) :: st, S.2.2.2)
  | _ => none
theorem sm_idiv {g : xe_G} {own : String} {cc : ByteArray} {nL : Nat} {ini : Bool} {pc : Nat} (hd : decode cc pc = .ok (.idiv, 1)) : mi_ps g own cc nL ini pc (o_div (fun x y => x / y)) := by
  intro lv st M S' h
  unfold o_div at h
  dsimp only at h
  split at h
  · split at h
    · cases h
    · rename_i hy
      cases h
      refine ⟨rfl, rfl, ?_⟩
      intro D p l e R s m args below meth c A Q H locs ls cells slots ws tys hc hr hl hS hR1 hR2 k
      obtain ⟨hx, hb, hml, hown, htb, hE, hini, hA, hK0, hfr, hlo⟩ := hc
      exact lv_idiv hx hb hd hy k
  · cases h
theorem sm_irem {g : xe_G} {own : String} {cc : ByteArray} {nL : Nat} {ini : Bool} {pc : Nat} (hd : decode cc pc = .ok (.irem, 1)) : mi_ps g own cc nL ini pc (o_div (fun x y => x - x / y * y)) := by
  intro lv st M S' h
  unfold o_div at h
  dsimp only at h
  split at h
  · split at h
    · cases h
    · rename_i hy
      cases h
      refine ⟨rfl, rfl, ?_⟩
      intro D p l e R s m args below meth c A Q H locs ls cells slots ws tys hc hr hl hS hR1 hR2 k
      obtain ⟨hx, hb, hml, hown, htb, hE, hini, hA, hK0, hfr, hlo⟩ := hc
      exact lv_irem hx hb hd hy k
  · cases h
def o_mm (f : Int32 → Int32 → Int32) : mi_O := fun S => match S.2.2.1 with
  | .int y :: .int x :: st => if (st.map fun v => v.category).sum ≤ 8 then some (S.1 + 3, S.2.1, .int (f x y) :: st, S.2.2.2) else none
  | _ => none
theorem sm_mmin {g : xe_G} {own : String} {cc : ByteArray} {nL : Nat} {ini : Bool} {pc : Nat} {i : Nat} (h1 : Cond.methodLink own i Lib.Math.min.name ∈ bg) (h2 : Cond.static Lib.Math.min.name ∈ bg) (h3 : Cond.initialized "java/lang/Math" ∈ bg) (h4 : Cond.code Lib.Math.min.name Lib.Math.min.code 2 (some .int) ∈ bg) (hd : decode cc pc = .ok (.invokestatic i, 3)) : mi_ps g own cc nL ini pc (o_mm (fun x y => if y < x then y else x)) := by
  intro lv st M S' h
  unfold o_mm at h
  dsimp only at h
  split at h
  · split at h
    · rename_i hy
      cases h
      refine ⟨rfl, rfl, ?_⟩
      intro D p l e R s m args below meth c A Q H locs ls cells slots ws tys hc hr hl hS hR1 hR2 k
      obtain ⟨hx, hb, hml, hown, htb, hE, hini, hA, hK0, hfr, hlo⟩ := hc
      exact va_mmin hx hb (hml.trans hl.1.symm) hown (htb _ h1) (htb _ h2) (htb _ h3) (htb _ h4) (by omega) (by omega) hR1 hR2 hd k
    · cases h
  · cases h
theorem sm_mmax {g : xe_G} {own : String} {cc : ByteArray} {nL : Nat} {ini : Bool} {pc : Nat} {i : Nat} (h1 : Cond.methodLink own i Lib.Math.max.name ∈ bg) (h2 : Cond.static Lib.Math.max.name ∈ bg) (h3 : Cond.initialized "java/lang/Math" ∈ bg) (h4 : Cond.code Lib.Math.max.name Lib.Math.max.code 2 (some .int) ∈ bg) (hd : decode cc pc = .ok (.invokestatic i, 3)) : mi_ps g own cc nL ini pc (o_mm (fun x y => if x < y then y else x)) := by
  intro lv st M S' h
  unfold o_mm at h
  dsimp only at h
  split at h
  · split at h
    · rename_i hy
      cases h
      refine ⟨rfl, rfl, ?_⟩
      intro D p l e R s m args below meth c A Q H locs ls cells slots ws tys hc hr hl hS hR1 hR2 k
      obtain ⟨hx, hb, hml, hown, htb, hE, hini, hA, hK0, hfr, hlo⟩ := hc
      exact va_mmax hx hb (hml.trans hl.1.symm) hown (htb _ h1) (htb _ h2) (htb _ h3) (htb _ h4) (by omega) (by omega) hR1 hR2 hd k
    · cases h
  · cases h
def o_binL (f : Int64 → Int64 → Int64) : mi_O := fun S => match S.2.2.1 with
  | .long y :: .long x :: st => some (S.1 + 1, S.2.1, .long (f x y) :: st, S.2.2.2)
  | _ => none
theorem sm_ladd {g : xe_G} {own : String} {cc : ByteArray} {nL : Nat} {ini : Bool} {pc : Nat} (hd : decode cc pc = .ok (.ladd, 1)) : mi_ps g own cc nL ini pc (o_binL (fun x y => x + y)) := by
  intro lv st M S' h
  unfold o_binL at h
  dsimp only at h
  split at h
  · cases h
    refine ⟨rfl, rfl, ?_⟩
    intro D p l e R s m args below meth c A Q H locs ls cells slots ws tys hc hr hl hS hR1 hR2 k
    obtain ⟨hx, hb, hml, hown, htb, hE, hini, hA, hK0, hfr, hlo⟩ := hc
    exact lv_ladd hx hb hd k
  · cases h
theorem sm_lsub {g : xe_G} {own : String} {cc : ByteArray} {nL : Nat} {ini : Bool} {pc : Nat} (hd : decode cc pc = .ok (.lsub, 1)) : mi_ps g own cc nL ini pc (o_binL (fun x y => x - y)) := by
  intro lv st M S' h
  unfold o_binL at h
  dsimp only at h
  split at h
  · cases h
    refine ⟨rfl, rfl, ?_⟩
    intro D p l e R s m args below meth c A Q H locs ls cells slots ws tys hc hr hl hS hR1 hR2 k
    obtain ⟨hx, hb, hml, hown, htb, hE, hini, hA, hK0, hfr, hlo⟩ := hc
    exact lv_lsub hx hb hd k
  · cases h
theorem sm_lmul {g : xe_G} {own : String} {cc : ByteArray} {nL : Nat} {ini : Bool} {pc : Nat} (hd : decode cc pc = .ok (.lmul, 1)) : mi_ps g own cc nL ini pc (o_binL (fun x y => x * y)) := by
  intro lv st M S' h
  unfold o_binL at h
  dsimp only at h
  split at h
  · cases h
    refine ⟨rfl, rfl, ?_⟩
    intro D p l e R s m args below meth c A Q H locs ls cells slots ws tys hc hr hl hS hR1 hR2 k
    obtain ⟨hx, hb, hml, hown, htb, hE, hini, hA, hK0, hfr, hlo⟩ := hc
    exact lv_lmul hx hb hd k
  · cases h
theorem sm_land {g : xe_G} {own : String} {cc : ByteArray} {nL : Nat} {ini : Bool} {pc : Nat} (hd : decode cc pc = .ok (.land, 1)) : mi_ps g own cc nL ini pc (o_binL (fun x y => x &&& y)) := by
  intro lv st M S' h
  unfold o_binL at h
  dsimp only at h
  split at h
  · cases h
    refine ⟨rfl, rfl, ?_⟩
    intro D p l e R s m args below meth c A Q H locs ls cells slots ws tys hc hr hl hS hR1 hR2 k
    obtain ⟨hx, hb, hml, hown, htb, hE, hini, hA, hK0, hfr, hlo⟩ := hc
    exact lv_land hx hb hd k
  · cases h
theorem sm_lor {g : xe_G} {own : String} {cc : ByteArray} {nL : Nat} {ini : Bool} {pc : Nat} (hd : decode cc pc = .ok (.lor, 1)) : mi_ps g own cc nL ini pc (o_binL (fun x y => x ||| y)) := by
  intro lv st M S' h
  unfold o_binL at h
  dsimp only at h
  split at h
  · cases h
    refine ⟨rfl, rfl, ?_⟩
    intro D p l e R s m args below meth c A Q H locs ls cells slots ws tys hc hr hl hS hR1 hR2 k
    obtain ⟨hx, hb, hml, hown, htb, hE, hini, hA, hK0, hfr, hlo⟩ := hc
    exact lv_lor hx hb hd k
  · cases h
def o_lshl : mi_O := fun S => match S.2.2.1 with
  | .int y :: .long x :: st => some (S.1 + 1, S.2.1, .long (x <<< (y.toInt64 &&& 63)) :: st, S.2.2.2)
  | _ => none
theorem sm_lshl {g : xe_G} {own : String} {cc : ByteArray} {nL : Nat} {ini : Bool} {pc : Nat} (hd : decode cc pc = .ok (.lshl, 1)) : mi_ps g own cc nL ini pc o_lshl := by
  intro lv st M S' h
  unfold o_lshl at h
  dsimp only at h
  split at h
  · cases h
    refine ⟨rfl, rfl, ?_⟩
    intro D p l e R s m args below meth c A Q H locs ls cells slots ws tys hc hr hl hS hR1 hR2 k
    obtain ⟨hx, hb, hml, hown, htb, hE, hini, hA, hK0, hfr, hlo⟩ := hc
    exact lv_lshl hx hb hd rfl k
  · cases h
def o_lcmp : mi_O := fun S => match S.2.2.1 with
  | .long y :: .long x :: st => some (S.1 + 1, S.2.1, .int (lg_cmp x y) :: st, S.2.2.2)
  | _ => none
theorem sm_lcmp {g : xe_G} {own : String} {cc : ByteArray} {nL : Nat} {ini : Bool} {pc : Nat} (hd : decode cc pc = .ok (.lcmp, 1)) : mi_ps g own cc nL ini pc o_lcmp := by
  intro lv st M S' h
  unfold o_lcmp at h
  dsimp only at h
  split at h
  · cases h
    refine ⟨rfl, rfl, ?_⟩
    intro D p l e R s m args below meth c A Q H locs ls cells slots ws tys hc hr hl hS hR1 hR2 k
    obtain ⟨hx, hb, hml, hown, htb, hE, hini, hA, hK0, hfr, hlo⟩ := hc
    exact W.lcmp hx hb hd k
  · cases h
def o_un (f : Int32 → Int32) : mi_O := fun S => match S.2.2.1 with
  | .int x :: st => some (S.1 + 1, S.2.1, .int (f x) :: st, S.2.2.2)
  | _ => none
theorem sm_i2b {g : xe_G} {own : String} {cc : ByteArray} {nL : Nat} {ini : Bool} {pc : Nat} (hd : decode cc pc = .ok (.i2b, 1)) : mi_ps g own cc nL ini pc (o_un (fun x => x.toInt8.toInt32)) := by
  intro lv st M S' h
  unfold o_un at h
  dsimp only at h
  split at h
  · cases h
    refine ⟨rfl, rfl, ?_⟩
    intro D p l e R s m args below meth c A Q H locs ls cells slots ws tys hc hr hl hS hR1 hR2 k
    obtain ⟨hx, hb, hml, hown, htb, hE, hini, hA, hK0, hfr, hlo⟩ := hc
    exact lv_i2b hx hb hd rfl k
  · cases h
theorem sm_i2s {g : xe_G} {own : String} {cc : ByteArray} {nL : Nat} {ini : Bool} {pc : Nat} (hd : decode cc pc = .ok (.i2s, 1)) : mi_ps g own cc nL ini pc (o_un (fun x => x.toInt16.toInt32)) := by
  intro lv st M S' h
  unfold o_un at h
  dsimp only at h
  split at h
  · cases h
    refine ⟨rfl, rfl, ?_⟩
    intro D p l e R s m args below meth c A Q H locs ls cells slots ws tys hc hr hl hS hR1 hR2 k
    obtain ⟨hx, hb, hml, hown, htb, hE, hini, hA, hK0, hfr, hlo⟩ := hc
    exact lv_i2s hx hb hd rfl k
  · cases h
theorem sm_i2c {g : xe_G} {own : String} {cc : ByteArray} {nL : Nat} {ini : Bool} {pc : Nat} (hd : decode cc pc = .ok (.i2c, 1)) : mi_ps g own cc nL ini pc (o_un (fun x => (x.toUInt32 % 65536).toInt32)) := by
  intro lv st M S' h
  unfold o_un at h
  dsimp only at h
  split at h
  · cases h
    refine ⟨rfl, rfl, ?_⟩
    intro D p l e R s m args below meth c A Q H locs ls cells slots ws tys hc hr hl hS hR1 hR2 k
    obtain ⟨hx, hb, hml, hown, htb, hE, hini, hA, hK0, hfr, hlo⟩ := hc
    exact lv_i2c hx hb hd rfl k
  · cases h
def o_i2l : mi_O := fun S => match S.2.2.1 with
  | .int x :: st => some (S.1 + 1, S.2.1, .long x.toInt64 :: st, S.2.2.2)
  | _ => none
theorem sm_i2l {g : xe_G} {own : String} {cc : ByteArray} {nL : Nat} {ini : Bool} {pc : Nat} (hd : decode cc pc = .ok (.i2l, 1)) : mi_ps g own cc nL ini pc o_i2l := by
  intro lv st M S' h
  unfold o_i2l at h
  dsimp only at h
  split at h
  · cases h
    refine ⟨rfl, rfl, ?_⟩
    intro D p l e R s m args below meth c A Q H locs ls cells slots ws tys hc hr hl hS hR1 hR2 k
    obtain ⟨hx, hb, hml, hown, htb, hE, hini, hA, hK0, hfr, hlo⟩ := hc
    exact lv_i2l hx hb hd rfl k
  · cases h
def o_l2i : mi_O := fun S => match S.2.2.1 with
  | .long x :: st => some (S.1 + 1, S.2.1, .int x.toInt32 :: st, S.2.2.2)
  | _ => none
theorem sm_l2i {g : xe_G} {own : String} {cc : ByteArray} {nL : Nat} {ini : Bool} {pc : Nat} (hd : decode cc pc = .ok (.l2i, 1)) : mi_ps g own cc nL ini pc o_l2i := by
  intro lv st M S' h
  unfold o_l2i at h
  dsimp only at h
  split at h
  · cases h
    refine ⟨rfl, rfl, ?_⟩
    intro D p l e R s m args below meth c A Q H locs ls cells slots ws tys hc hr hl hS hR1 hR2 k
    obtain ⟨hx, hb, hml, hown, htb, hE, hini, hA, hK0, hfr, hlo⟩ := hc
    exact lv_l2i hx hb hd rfl k
  · cases h
def o_dup : mi_O := fun S => match S.2.2.1 with
  | v :: st => if v.category = 1 then some (S.1 + 1, S.2.1, v :: v :: st, S.2.2.2) else none
  | _ => none
def o_pop : mi_O := fun S => match S.2.2.1 with
  | v :: st => if v.category = 1 then some (S.1 + 1, S.2.1, st, S.2.2.2) else none
  | _ => none
def o_dup_x1 : mi_O := fun S => match S.2.2.1 with
  | v :: w :: st => if v.category = 1 ∧ w.category = 1 then some (S.1 + 1, S.2.1, v :: w :: v :: st, S.2.2.2) else none
  | _ => none
def o_dup2 : mi_O := fun S => match S.2.2.1 with
  | v :: w :: st => if v.category = 1 ∧ w.category = 1 then some (S.1 + 1, S.2.1, v :: w :: v :: w :: st, S.2.2.2) else none
  | _ => none
theorem sm_dup {g : xe_G} {own : String} {cc : ByteArray} {nL : Nat} {ini : Bool} {pc : Nat} (hd : decode cc pc = .ok (.dup, 1)) : mi_ps g own cc nL ini pc o_dup := by
  intro lv st M S' h
  unfold o_dup at h
  dsimp only at h
  split at h
  · split at h
    · rename_i hy
      cases h
      refine ⟨rfl, rfl, ?_⟩
      intro D p l e R s m args below meth c A Q H locs ls cells slots ws tys hc hr hl hS hR1 hR2 k
      obtain ⟨hx, hb, hml, hown, htb, hE, hini, hA, hK0, hfr, hlo⟩ := hc
      exact lv_dup hx hb hd hy k
    · cases h
  · cases h
theorem sm_pop {g : xe_G} {own : String} {cc : ByteArray} {nL : Nat} {ini : Bool} {pc : Nat} (hd : decode cc pc = .ok (.pop, 1)) : mi_ps g own cc nL ini pc o_pop := by
  intro lv st M S' h
  unfold o_pop at h
  dsimp only at h
  split at h
  · split at h
    · rename_i hy
      cases h
      refine ⟨rfl, rfl, ?_⟩
      intro D p l e R s m args below meth c A Q H locs ls cells slots ws tys hc hr hl hS hR1 hR2 k
      obtain ⟨hx, hb, hml, hown, htb, hE, hini, hA, hK0, hfr, hlo⟩ := hc
      exact lv_pop hx hb hd hy k
    · cases h
  · cases h
theorem sm_dup_x1 {g : xe_G} {own : String} {cc : ByteArray} {nL : Nat} {ini : Bool} {pc : Nat} (hd : decode cc pc = .ok (.dup_x1, 1)) : mi_ps g own cc nL ini pc o_dup_x1 := by
  intro lv st M S' h
  unfold o_dup_x1 at h
  dsimp only at h
  split at h
  · split at h
    · rename_i hy
      cases h
      refine ⟨rfl, rfl, ?_⟩
      intro D p l e R s m args below meth c A Q H locs ls cells slots ws tys hc hr hl hS hR1 hR2 k
      obtain ⟨hx, hb, hml, hown, htb, hE, hini, hA, hK0, hfr, hlo⟩ := hc
      exact lv_dup_x1 hx hb hd hy.1 hy.2 k
    · cases h
  · cases h
theorem sm_dup2 {g : xe_G} {own : String} {cc : ByteArray} {nL : Nat} {ini : Bool} {pc : Nat} (hd : decode cc pc = .ok (.dup2, 1)) : mi_ps g own cc nL ini pc o_dup2 := by
  intro lv st M S' h
  unfold o_dup2 at h
  dsimp only at h
  split at h
  · split at h
    · rename_i hy
      cases h
      refine ⟨rfl, rfl, ?_⟩
      intro D p l e R s m args below meth c A Q H locs ls cells slots ws tys hc hr hl hS hR1 hR2 k
      obtain ⟨hx, hb, hml, hown, htb, hE, hini, hA, hK0, hfr, hlo⟩ := hc
      exact lv_dup2_11 hx hb hd hy.1 hy.2 k
    · cases h
  · cases h
def o_if (f : Int32 → Bool) (t : Nat) : mi_O := fun S => match S.2.2.1 with
  | .int x :: st => some ((match f x with | true => t | false => S.1 + 3), S.2.1, st, S.2.2.2)
  | _ => none
def o_if2 (f : Int32 → Int32 → Bool) (t : Nat) : mi_O := fun S => match S.2.2.1 with
  | .int y :: .int x :: st => some ((match f x y with | true => t | false => S.1 + 3), S.2.1, st, S.2.2.2)
  | _ => none
theorem sm_if_eq {g : xe_G} {own : String} {cc : ByteArray} {nL : Nat} {ini : Bool} {pc : Nat} {off : Int} {t : Nat} (hd : decode cc pc = .ok (.ifCond .eq off, 3)) (ht : (pc : Int) + off = (t : Int)) : mi_ps g own cc nL ini pc (o_if (fun x => decide (x = 0)) t) := by
  intro lv st M S' h
  unfold o_if at h
  dsimp only at h
  split at h
  · cases h
    refine ⟨rfl, rfl, ?_⟩
    intro D p l e R s m args below meth c A Q H locs ls cells slots ws tys hc hr hl hS hR1 hR2 k
    obtain ⟨hx, hb, hml, hown, htb, hE, hini, hA, hK0, hfr, hlo⟩ := hc
    exact lv_if_eq hx hb hd ht (fun h9 => by simpa only [decide_eq_true h9] using k) (fun h9 => by simpa only [decide_eq_false h9] using k)
  · cases h
theorem sm_icmp_eq {g : xe_G} {own : String} {cc : ByteArray} {nL : Nat} {ini : Bool} {pc : Nat} {off : Int} {t : Nat} (hd : decode cc pc = .ok (.if_icmp .eq off, 3)) (ht : (pc : Int) + off = (t : Int)) : mi_ps g own cc nL ini pc (o_if2 (fun x y => decide (x = y)) t) := by
  intro lv st M S' h
  unfold o_if2 at h
  dsimp only at h
  split at h
  · cases h
    refine ⟨rfl, rfl, ?_⟩
    intro D p l e R s m args below meth c A Q H locs ls cells slots ws tys hc hr hl hS hR1 hR2 k
    obtain ⟨hx, hb, hml, hown, htb, hE, hini, hA, hK0, hfr, hlo⟩ := hc
    exact lv_icmp_eq hx hb hd ht (fun h9 => by simpa only [decide_eq_true h9] using k) (fun h9 => by simpa only [decide_eq_false h9] using k)
  · cases h
theorem sm_if_ne {g : xe_G} {own : String} {cc : ByteArray} {nL : Nat} {ini : Bool} {pc : Nat} {off : Int} {t : Nat} (hd : decode cc pc = .ok (.ifCond .ne off, 3)) (ht : (pc : Int) + off = (t : Int)) : mi_ps g own cc nL ini pc (o_if (fun x => decide (¬ x = 0)) t) := by
  intro lv st M S' h
  unfold o_if at h
  dsimp only at h
  split at h
  · cases h
    refine ⟨rfl, rfl, ?_⟩
    intro D p l e R s m args below meth c A Q H locs ls cells slots ws tys hc hr hl hS hR1 hR2 k
    obtain ⟨hx, hb, hml, hown, htb, hE, hini, hA, hK0, hfr, hlo⟩ := hc
    exact lv_if_ne hx hb hd ht (fun h9 => by simpa only [decide_eq_true h9] using k) (fun h9 => by simpa only [decide_eq_false (not_not_intro h9)] using k)
  · cases h
theorem sm_icmp_ne {g : xe_G} {own : String} {cc : ByteArray} {nL : Nat} {ini : Bool} {pc : Nat} {off : Int} {t : Nat} (hd : decode cc pc = .ok (.if_icmp .ne off, 3)) (ht : (pc : Int) + off = (t : Int)) : mi_ps g own cc nL ini pc (o_if2 (fun x y => decide (¬ x = y)) t) := by
  intro lv st M S' h
  unfold o_if2 at h
  dsimp only at h
  split at h
  · cases h
    refine ⟨rfl, rfl, ?_⟩
    intro D p l e R s m args below meth c A Q H locs ls cells slots ws tys hc hr hl hS hR1 hR2 k
    obtain ⟨hx, hb, hml, hown, htb, hE, hini, hA, hK0, hfr, hlo⟩ := hc
    exact lv_icmp_ne hx hb hd ht (fun h9 => by simpa only [decide_eq_true h9] using k) (fun h9 => by simpa only [decide_eq_false (not_not_intro h9)] using k)
  · cases h
theorem sm_if_lt {g : xe_G} {own : String} {cc : ByteArray} {nL : Nat} {ini : Bool} {pc : Nat} {off : Int} {t : Nat} (hd : decode cc pc = .ok (.ifCond .lt off, 3)) (ht : (pc : Int) + off = (t : Int)) : mi_ps g own cc nL ini pc (o_if (fun x => decide (x < 0)) t) := by
  intro lv st M S' h
  unfold o_if at h
  dsimp only at h
  split at h
  · cases h
    refine ⟨rfl, rfl, ?_⟩
    intro D p l e R s m args below meth c A Q H locs ls cells slots ws tys hc hr hl hS hR1 hR2 k
    obtain ⟨hx, hb, hml, hown, htb, hE, hini, hA, hK0, hfr, hlo⟩ := hc
    exact lv_if_lt hx hb hd ht (fun h9 => by simpa only [decide_eq_true h9] using k) (fun h9 => by simpa only [decide_eq_false h9] using k)
  · cases h
theorem sm_icmp_lt {g : xe_G} {own : String} {cc : ByteArray} {nL : Nat} {ini : Bool} {pc : Nat} {off : Int} {t : Nat} (hd : decode cc pc = .ok (.if_icmp .lt off, 3)) (ht : (pc : Int) + off = (t : Int)) : mi_ps g own cc nL ini pc (o_if2 (fun x y => decide (x < y)) t) := by
  intro lv st M S' h
  unfold o_if2 at h
  dsimp only at h
  split at h
  · cases h
    refine ⟨rfl, rfl, ?_⟩
    intro D p l e R s m args below meth c A Q H locs ls cells slots ws tys hc hr hl hS hR1 hR2 k
    obtain ⟨hx, hb, hml, hown, htb, hE, hini, hA, hK0, hfr, hlo⟩ := hc
    exact lv_icmp_lt hx hb hd ht (fun h9 => by simpa only [decide_eq_true h9] using k) (fun h9 => by simpa only [decide_eq_false h9] using k)
  · cases h
theorem sm_if_ge {g : xe_G} {own : String} {cc : ByteArray} {nL : Nat} {ini : Bool} {pc : Nat} {off : Int} {t : Nat} (hd : decode cc pc = .ok (.ifCond .ge off, 3)) (ht : (pc : Int) + off = (t : Int)) : mi_ps g own cc nL ini pc (o_if (fun x => decide (0 ≤ x)) t) := by
  intro lv st M S' h
  unfold o_if at h
  dsimp only at h
  split at h
  · cases h
    refine ⟨rfl, rfl, ?_⟩
    intro D p l e R s m args below meth c A Q H locs ls cells slots ws tys hc hr hl hS hR1 hR2 k
    obtain ⟨hx, hb, hml, hown, htb, hE, hini, hA, hK0, hfr, hlo⟩ := hc
    exact lv_if_ge hx hb hd ht (fun h9 => by simpa only [decide_eq_true h9] using k) (fun h9 => by simpa only [decide_eq_false h9] using k)
  · cases h
theorem sm_icmp_ge {g : xe_G} {own : String} {cc : ByteArray} {nL : Nat} {ini : Bool} {pc : Nat} {off : Int} {t : Nat} (hd : decode cc pc = .ok (.if_icmp .ge off, 3)) (ht : (pc : Int) + off = (t : Int)) : mi_ps g own cc nL ini pc (o_if2 (fun x y => decide (y ≤ x)) t) := by
  intro lv st M S' h
  unfold o_if2 at h
  dsimp only at h
  split at h
  · cases h
    refine ⟨rfl, rfl, ?_⟩
    intro D p l e R s m args below meth c A Q H locs ls cells slots ws tys hc hr hl hS hR1 hR2 k
    obtain ⟨hx, hb, hml, hown, htb, hE, hini, hA, hK0, hfr, hlo⟩ := hc
    exact lv_icmp_ge hx hb hd ht (fun h9 => by simpa only [decide_eq_true h9] using k) (fun h9 => by simpa only [decide_eq_false h9] using k)
  · cases h
theorem sm_if_gt {g : xe_G} {own : String} {cc : ByteArray} {nL : Nat} {ini : Bool} {pc : Nat} {off : Int} {t : Nat} (hd : decode cc pc = .ok (.ifCond .gt off, 3)) (ht : (pc : Int) + off = (t : Int)) : mi_ps g own cc nL ini pc (o_if (fun x => decide (0 < x)) t) := by
  intro lv st M S' h
  unfold o_if at h
  dsimp only at h
  split at h
  · cases h
    refine ⟨rfl, rfl, ?_⟩
    intro D p l e R s m args below meth c A Q H locs ls cells slots ws tys hc hr hl hS hR1 hR2 k
    obtain ⟨hx, hb, hml, hown, htb, hE, hini, hA, hK0, hfr, hlo⟩ := hc
    exact lv_if_gt hx hb hd ht (fun h9 => by simpa only [decide_eq_true h9] using k) (fun h9 => by simpa only [decide_eq_false h9] using k)
  · cases h
theorem sm_icmp_gt {g : xe_G} {own : String} {cc : ByteArray} {nL : Nat} {ini : Bool} {pc : Nat} {off : Int} {t : Nat} (hd : decode cc pc = .ok (.if_icmp .gt off, 3)) (ht : (pc : Int) + off = (t : Int)) : mi_ps g own cc nL ini pc (o_if2 (fun x y => decide (y < x)) t) := by
  intro lv st M S' h
  unfold o_if2 at h
  dsimp only at h
  split at h
  · cases h
    refine ⟨rfl, rfl, ?_⟩
    intro D p l e R s m args below meth c A Q H locs ls cells slots ws tys hc hr hl hS hR1 hR2 k
    obtain ⟨hx, hb, hml, hown, htb, hE, hini, hA, hK0, hfr, hlo⟩ := hc
    exact lv_icmp_gt hx hb hd ht (fun h9 => by simpa only [decide_eq_true h9] using k) (fun h9 => by simpa only [decide_eq_false h9] using k)
  · cases h
theorem sm_if_le {g : xe_G} {own : String} {cc : ByteArray} {nL : Nat} {ini : Bool} {pc : Nat} {off : Int} {t : Nat} (hd : decode cc pc = .ok (.ifCond .le off, 3)) (ht : (pc : Int) + off = (t : Int)) : mi_ps g own cc nL ini pc (o_if (fun x => decide (x ≤ 0)) t) := by
  intro lv st M S' h
  unfold o_if at h
  dsimp only at h
  split at h
  · cases h
    refine ⟨rfl, rfl, ?_⟩
    intro D p l e R s m args below meth c A Q H locs ls cells slots ws tys hc hr hl hS hR1 hR2 k
    obtain ⟨hx, hb, hml, hown, htb, hE, hini, hA, hK0, hfr, hlo⟩ := hc
    exact lv_if_le hx hb hd ht (fun h9 => by simpa only [decide_eq_true h9] using k) (fun h9 => by simpa only [decide_eq_false h9] using k)
  · cases h
theorem sm_icmp_le {g : xe_G} {own : String} {cc : ByteArray} {nL : Nat} {ini : Bool} {pc : Nat} {off : Int} {t : Nat} (hd : decode cc pc = .ok (.if_icmp .le off, 3)) (ht : (pc : Int) + off = (t : Int)) : mi_ps g own cc nL ini pc (o_if2 (fun x y => decide (x ≤ y)) t) := by
  intro lv st M S' h
  unfold o_if2 at h
  dsimp only at h
  split at h
  · cases h
    refine ⟨rfl, rfl, ?_⟩
    intro D p l e R s m args below meth c A Q H locs ls cells slots ws tys hc hr hl hS hR1 hR2 k
    obtain ⟨hx, hb, hml, hown, htb, hE, hini, hA, hK0, hfr, hlo⟩ := hc
    exact lv_icmp_le hx hb hd ht (fun h9 => by simpa only [decide_eq_true h9] using k) (fun h9 => by simpa only [decide_eq_false h9] using k)
  · cases h
def o_goto (t : Nat) : mi_O := fun S => some (t, S.2)
theorem sm_goto {g : xe_G} {own : String} {cc : ByteArray} {nL : Nat} {ini : Bool} {pc : Nat} {off : Int} {t : Nat} (hd : decode cc pc = .ok (.goto off, 3)) (ht : (pc : Int) + off = (t : Int)) : mi_ps g own cc nL ini pc (o_goto t) := by
  intro lv st M S' h
  cases h
  refine ⟨rfl, rfl, ?_⟩
  intro D p l e R s m args below meth c A Q H locs ls cells slots ws tys hc hr hl hS hR1 hR2 k
  obtain ⟨hx, hb, hml, hown, htb, hE, hini, hA, hK0, hfr, hlo⟩ := hc
  exact lv_goto hx hb hd ht k
def o_null (a b : Nat) : mi_O := fun S => match S.2.2.1 with
  | .ref _ :: st => some (a, S.2.1, st, S.2.2.2)
  | .null :: st => some (b, S.2.1, st, S.2.2.2)
  | _ => none
theorem sm_ifnull {g : xe_G} {own : String} {cc : ByteArray} {nL : Nat} {ini : Bool} {pc : Nat} {off : Int} {t : Nat} (hd : decode cc pc = .ok (.ifnull off, 3)) (ht : (pc : Int) + off = (t : Int)) : mi_ps g own cc nL ini pc (o_null (pc + 3) t) := by
  intro lv st M S' h
  unfold o_null at h
  dsimp only at h
  split at h
  · cases h
    refine ⟨rfl, rfl, ?_⟩
    intro D p l e R s m args below meth c A Q H locs ls cells slots ws tys hc hr hl hS hR1 hR2 k
    obtain ⟨hx, hb, hml, hown, htb, hE, hini, hA, hK0, hfr, hlo⟩ := hc
    exact lv_ifnull hx hb hd k
  · cases h
    refine ⟨rfl, rfl, ?_⟩
    intro D p l e R s m args below meth c A Q H locs ls cells slots ws tys hc hr hl hS hR1 hR2 k
    obtain ⟨hx, hb, hml, hown, htb, hE, hini, hA, hK0, hfr, hlo⟩ := hc
    exact lv_ifnullN hx hb hd ht k
  · cases h
theorem sm_ifnonnull {g : xe_G} {own : String} {cc : ByteArray} {nL : Nat} {ini : Bool} {pc : Nat} {off : Int} {t : Nat} (hd : decode cc pc = .ok (.ifnonnull off, 3)) (ht : (pc : Int) + off = (t : Int)) : mi_ps g own cc nL ini pc (o_null t (pc + 3)) := by
  intro lv st M S' h
  unfold o_null at h
  dsimp only at h
  split at h
  · cases h
    refine ⟨rfl, rfl, ?_⟩
    intro D p l e R s m args below meth c A Q H locs ls cells slots ws tys hc hr hl hS hR1 hR2 k
    obtain ⟨hx, hb, hml, hown, htb, hE, hini, hA, hK0, hfr, hlo⟩ := hc
    exact lv_ifnonnull hx hb hd ht k
  · cases h
    refine ⟨rfl, rfl, ?_⟩
    intro D p l e R s m args below meth c A Q H locs ls cells slots ws tys hc hr hl hS hR1 hR2 k
    obtain ⟨hx, hb, hml, hown, htb, hE, hini, hA, hK0, hfr, hlo⟩ := hc
    exact lv_ifnonnullN hx hb hd k
  · cases h
def mi_sw (ps : List (Int × Nat)) (dt : Nat) (x : Int32) : Nat := match ps.find? (fun q => q.1 == x.toInt) with
  | some q => q.2
  | none => dt
def o_sw (ps : List (Int × Nat)) (dt : Nat) : mi_O := fun S => match S.2.2.1 with
  | .int x :: st => some (mi_sw ps dt x, S.2.1, st, S.2.2.2)
  | _ => none
theorem mi_lkp : ∀ (ps : List (Int × Int)) (ts : List (Int × Nat)) (df : Int) (dt pc : Nat) (x : Int), (pc : Int) + df = (dt : Int) → ts.map (fun q => (q.1, (q.2 : Int))) = ps.map (fun q => (q.1, (pc : Int) + q.2)) → (pc : Int) + Op.lookupswitch.offset ps df x = ((match ts.find? (fun q => q.1 == x) with | some q => q.2 | none => dt : Nat) : Int)
  | [], [], df, dt, pc, x, h, _ => by simpa [Op.lookupswitch.offset] using h
  | [], _ :: _, _, _, _, _, _, h => by simp at h
  | _ :: _, [], _, _, _, _, _, h => by simp at h
  | p :: ps, t :: ts, df, dt, pc, x, h, hm => by
    simp only [List.map_cons, List.cons.injEq, Prod.mk.injEq] at hm
    obtain ⟨⟨h1, h2⟩, h3⟩ := hm
    obtain ⟨p1, p2⟩ := p
    rw [Op.lookupswitch.offset_cons]
    by_cases hx : x = p1
    · simp [h1, hx, h2]
    · have hx' : ¬ p1 = x := fun e => hx e.symm
      rw [if_neg (by first | exact hx | exact hx')]
      simp only [h1, List.find?_cons, show (p1 == x) = false from by simpa using hx']
      exact mi_lkp ps ts df dt pc x h h3
theorem sm_lookup {g : xe_G} {own : String} {cc : ByteArray} {nL : Nat} {ini : Bool} {pc : Nat} {df : Int} {ps : Array (Int × Int)} {len dt : Nat} {ts : List (Int × Nat)} (hd : decode cc pc = .ok (.lookupswitch df ps, len)) (hp : (ps.toList.zip (ps.toList.drop 1)).all (fun (a, next) => a.1 < next.1) = true) (ht : (pc : Int) + df = (dt : Int)) (hm : ts.map (fun q => (q.1, (q.2 : Int))) = ps.toList.map (fun q => (q.1, (pc : Int) + q.2))) : mi_ps g own cc nL ini pc (o_sw ts dt) := by
  intro lv st M S' h
  unfold o_sw at h
  dsimp only at h
  split at h
  · cases h
    refine ⟨rfl, rfl, ?_⟩
    intro D p l e R s m args below meth c A Q H locs ls cells slots ws tys hc hr hl hS hR1 hR2 k
    obtain ⟨hx, hb, hml, hown, htb, hE, hini, hA, hK0, hfr, hlo⟩ := hc
    rename_i x _
    exact lv_lookup hx hb hd hp rfl (mi_lkp _ ts df dt pc _ ht hm) k
  · cases h
theorem sm_table {g : xe_G} {own : String} {cc : ByteArray} {nL : Nat} {ini : Bool} {pc : Nat} {df lo hi : Int} {offs : Array Int} {len dt : Nat} {ts : List (Int × Nat)} (hd : decode cc pc = .ok (.tableswitch df lo hi offs, len)) (ht : (pc : Int) + df = (dt : Int)) (hm : ∀ q ∈ ts, lo ≤ q.1 ∧ q.1 ≤ hi ∧ (offs[(q.1 - lo).toNat]?).map (fun o => (pc : Int) + o) = some (q.2 : Int)) (hn : ts.map (fun q => q.1) = (List.range (hi + 1 - lo).toNat).map (fun (i : Nat) => lo + (i : Int))) : mi_ps g own cc nL ini pc (o_sw ts dt) := by
  intro lv st M S' h
  unfold o_sw at h
  dsimp only at h
  split at h
  · cases h
    refine ⟨rfl, rfl, ?_⟩
    intro D p l e R s m args below meth c A Q H locs ls cells slots ws tys hc hr hl hS hR1 hR2 k
    obtain ⟨hx, hb, hml, hown, htb, hE, hini, hA, hK0, hfr, hlo⟩ := hc
    rename_i x _
    dsimp only at k
    unfold mi_sw at k
    cases hf : ts.find? (fun q => q.1 == x.toInt) with
    | some q =>
      rw [hf] at k
      have h1 : q.1 = x.toInt := by simpa using List.find?_some hf
      obtain ⟨g1, g2, g3⟩ := hm q (List.mem_of_find?_eq_some hf)
      rw [h1] at g1 g2 g3
      cases ho : offs[(x.toInt - lo).toNat]? with
      | none => rw [ho] at g3; cases g3
      | some of9 =>
        rw [ho] at g3
        exact lv_tableIn hx hb hd (by omega) (by omega) ho (Option.some.inj g3) k
    | none =>
      rw [hf] at k
      refine lv_tableOut hx hb hd ?_ ht k
      by_cases h1 : x.toInt < lo
      · exact Or.inl h1
      · by_cases h2 : hi < x.toInt
        · exact Or.inr h2
        · exfalso
          have h3 : x.toInt ∈ ts.map (fun q => q.1) := by
            rw [hn]
            exact List.mem_map.mpr ⟨(x.toInt - lo).toNat, List.mem_range.mpr (by omega), by omega⟩
          obtain ⟨q, hq, hq1⟩ := List.mem_map.mp h3
          have := List.find?_eq_none.mp hf q hq
          simp [hq1] at this
  · cases h
def o_isto (i n : Nat) : mi_O := fun S => match S.2.2.1 with
  | .int x :: st => some (S.1 + n, (i, .int x) :: S.2.1.filter (fun q => !(q.1 == i) && !(q.1 + 1 == i && q.2.category == 2)), st, S.2.2.2)
  | _ => none
theorem sm_istore_n {g : xe_G} {own : String} {cc : ByteArray} {nL : Nat} {ini : Bool} {pc : Nat} {i : Nat} {k : Fin 4} (hd : decode cc pc = .ok (.istore_n k, 1)) (hk : (k : Nat) = i) (hi : i < nL) : mi_sim g own cc nL ini pc (o_isto i 1) := by
  intro lv st M S' h
  unfold o_isto at h
  dsimp only at h
  split at h
  · cases h
    refine ⟨⟨Nat.le_refl _, Nat.le_refl _⟩, ?_⟩
    intro D p l e R s m args below meth c A n0 s0 Q hc hn0 hs0 hR1 hR2 hW H locs ls ws tys hr hl hS
    obtain ⟨hx, hb, hml, hown, htb, hE, hini, hA, hK0, hfr, hlo⟩ := hc
    exact lv_istore_n hx hb hd hk hl hi rfl (fun ls hl => hW H locs ls ws tys hr hl hS)
  · cases h
theorem sm_istore {g : xe_G} {own : String} {cc : ByteArray} {nL : Nat} {ini : Bool} {pc : Nat} {i : Nat} (hd : decode cc pc = .ok (.istore i, 2)) (hi : i < nL) : mi_sim g own cc nL ini pc (o_isto i 2) := by
  intro lv st M S' h
  unfold o_isto at h
  dsimp only at h
  split at h
  · cases h
    refine ⟨⟨Nat.le_refl _, Nat.le_refl _⟩, ?_⟩
    intro D p l e R s m args below meth c A n0 s0 Q hc hn0 hs0 hR1 hR2 hW H locs ls ws tys hr hl hS
    obtain ⟨hx, hb, hml, hown, htb, hE, hini, hA, hK0, hfr, hlo⟩ := hc
    exact lv_istore hx hb hd hl hi rfl (fun ls hl => hW H locs ls ws tys hr hl hS)
  · cases h
def o_lsto (i n : Nat) : mi_O := fun S => match S.2.2.1 with
  | .long x :: st => some (S.1 + n, (i, .long x) :: S.2.1.filter (fun q => !(q.1 == i) && (!(q.1 == i + 1) && !(q.1 + 1 == i && q.2.category == 2))), st, S.2.2.2)
  | _ => none
theorem sm_lstore_n {g : xe_G} {own : String} {cc : ByteArray} {nL : Nat} {ini : Bool} {pc : Nat} {i : Nat} {k : Fin 4} (hd : decode cc pc = .ok (.lstore_n k, 1)) (hk : (k : Nat) = i) (hi : i + 1 < nL) : mi_sim g own cc nL ini pc (o_lsto i 1) := by
  intro lv st M S' h
  unfold o_lsto at h
  dsimp only at h
  split at h
  · cases h
    refine ⟨⟨Nat.le_refl _, Nat.le_refl _⟩, ?_⟩
    intro D p l e R s m args below meth c A n0 s0 Q hc hn0 hs0 hR1 hR2 hW H locs ls ws tys hr hl hS
    obtain ⟨hx, hb, hml, hown, htb, hE, hini, hA, hK0, hfr, hlo⟩ := hc
    exact lv_lstore_n hx hb hd hk hl hi rfl (fun ls hl => hW H locs ls ws tys hr hl hS)
  · cases h
theorem sm_lstore {g : xe_G} {own : String} {cc : ByteArray} {nL : Nat} {ini : Bool} {pc : Nat} {i : Nat} (hd : decode cc pc = .ok (.lstore i, 2)) (hi : i + 1 < nL) : mi_sim g own cc nL ini pc (o_lsto i 2) := by
  intro lv st M S' h
  unfold o_lsto at h
  dsimp only at h
  split at h
  · cases h
    refine ⟨⟨Nat.le_refl _, Nat.le_refl _⟩, ?_⟩
    intro D p l e R s m args below meth c A n0 s0 Q hc hn0 hs0 hR1 hR2 hW H locs ls ws tys hr hl hS
    obtain ⟨hx, hb, hml, hown, htb, hE, hini, hA, hK0, hfr, hlo⟩ := hc
    exact lv_lstore hx hb hd hl hi rfl (fun ls hl => hW H locs ls ws tys hr hl hS)
  · cases h
def o_asto (i n : Nat) : mi_O := fun S => match S.2.2.1 with
  | .ref x :: st => some (S.1 + n, (i, .ref x) :: S.2.1.filter (fun q => !(q.1 == i) && !(q.1 + 1 == i && q.2.category == 2)), st, S.2.2.2)
  | .null :: st => some (S.1 + n, (i, .null) :: S.2.1.filter (fun q => !(q.1 == i) && !(q.1 + 1 == i && q.2.category == 2)), st, S.2.2.2)
  | _ => none
theorem sm_astore_n {g : xe_G} {own : String} {cc : ByteArray} {nL : Nat} {ini : Bool} {pc : Nat} {i : Nat} {k : Fin 4} (hd : decode cc pc = .ok (.astore_n k, 1)) (hk : (k : Nat) = i) (hi : i < nL) : mi_sim g own cc nL ini pc (o_asto i 1) := by
  intro lv st M S' h
  unfold o_asto at h
  dsimp only at h
  split at h
  · cases h
    refine ⟨⟨Nat.le_refl _, Nat.le_refl _⟩, ?_⟩
    intro D p l e R s m args below meth c A n0 s0 Q hc hn0 hs0 hR1 hR2 hW H locs ls ws tys hr hl hS
    obtain ⟨hx, hb, hml, hown, htb, hE, hini, hA, hK0, hfr, hlo⟩ := hc
    exact lv_astore_n hx hb hd hk hl hi rfl (fun ls hl => hW H locs ls ws tys hr hl hS)
  · cases h
    refine ⟨⟨Nat.le_refl _, Nat.le_refl _⟩, ?_⟩
    intro D p l e R s m args below meth c A n0 s0 Q hc hn0 hs0 hR1 hR2 hW H locs ls ws tys hr hl hS
    obtain ⟨hx, hb, hml, hown, htb, hE, hini, hA, hK0, hfr, hlo⟩ := hc
    exact lv_astore_nN hx hb hd hk hl hi rfl (fun ls hl => hW H locs ls ws tys hr hl hS)
  · cases h
theorem sm_astore {g : xe_G} {own : String} {cc : ByteArray} {nL : Nat} {ini : Bool} {pc : Nat} {i : Nat} (hd : decode cc pc = .ok (.astore i, 2)) (hi : i < nL) : mi_sim g own cc nL ini pc (o_asto i 2) := by
  intro lv st M S' h
  unfold o_asto at h
  dsimp only at h
  split at h
  · cases h
    refine ⟨⟨Nat.le_refl _, Nat.le_refl _⟩, ?_⟩
    intro D p l e R s m args below meth c A n0 s0 Q hc hn0 hs0 hR1 hR2 hW H locs ls ws tys hr hl hS
    obtain ⟨hx, hb, hml, hown, htb, hE, hini, hA, hK0, hfr, hlo⟩ := hc
    exact lv_astore hx hb hd hl hi rfl (fun ls hl => hW H locs ls ws tys hr hl hS)
  · cases h
    refine ⟨⟨Nat.le_refl _, Nat.le_refl _⟩, ?_⟩
    intro D p l e R s m args below meth c A n0 s0 Q hc hn0 hs0 hR1 hR2 hW H locs ls ws tys hr hl hS
    obtain ⟨hx, hb, hml, hown, htb, hE, hini, hA, hK0, hfr, hlo⟩ := hc
    exact lv_astoreN hx hb hd hl hi rfl (fun ls hl => hW H locs ls ws tys hr hl hS)
  · cases h
def o_iinc (i : Nat) (n : Int32) : mi_O := fun S => match mi_ld S.2.1 i with
  | some (.int x) => some (S.1 + 3, (i, .int (x + n)) :: S.2.1.filter (fun q => !(q.1 == i) && !(q.1 + 1 == i && q.2.category == 2)), S.2.2)
  | _ => none
theorem mi_ld_at {lv : List (Nat × Value)} {i : Nat} {v : Value} (h : mi_ld lv i = some v) : ∃ k : Nat, lv[k]? = some (i, v) := by
  unfold mi_ld at h
  cases hf : lv.find? (fun q => q.1 == i) with
  | none => rw [hf] at h; cases h
  | some q =>
    rw [hf] at h
    have h3 : q.1 = i := by simpa using List.find?_some hf
    cases h
    obtain ⟨k, hk⟩ := List.getElem?_of_mem (List.mem_of_find?_eq_some hf)
    exact ⟨k, by rw [hk, ← h3]⟩
theorem sm_iinc {g : xe_G} {own : String} {cc : ByteArray} {nL : Nat} {ini : Bool} {pc : Nat} {i : Nat} {n : Int} {v : Int32} (hd : decode cc pc = .ok (.iinc i n, 3)) (hv : Int32.ofInt n = v) (hi : i < nL) : mi_sim g own cc nL ini pc (o_iinc i v) := by
  intro lv st M S' h
  subst hv
  unfold o_iinc at h
  dsimp only at h
  split at h
  · rename_i x h9
    cases h
    refine ⟨⟨Nat.le_refl _, Nat.le_refl _⟩, ?_⟩
    intro D p l e R s m args below meth c A n0 s0 Q hc hn0 hs0 hR1 hR2 hW H locs ls ws tys hr hl hS
    obtain ⟨hx, hb, hml, hown, htb, hE, hini, hA, hK0, hfr, hlo⟩ := hc
    obtain ⟨k9, hk9⟩ := mi_ld_at h9
    exact lv_iinc hx hb hd hl hk9 rfl hi rfl (fun ls hl => hW H locs ls ws tys hr hl hS)
  · cases h
end MIO
end
section
/-! steps over cells -/
section MIP
theorem mi_e.more {tys tn : List (ClassId × FieldType)} {c : mi_C} {e : va_E} (h : mi_e tys c e) : mi_e (tys ++ tn) c e := by
  unfold mi_e at h ⊢
  split at h
  · obtain ⟨cA, x, h1, h2, h3⟩ := h
    exact ⟨cA, x, h1, List.mem_append_left _ h2, h3⟩
  · exact h
theorem mi_rel.put {g : xe_G} {D : va_G} {A : Nat → Prop} {s : State} {M : mi_H} {H H1 : Heap} {ws : va_W} {tys : List (ClassId × FieldType)} {q0 a : Nat} {e e' : va_E} {c' : mi_C} (h : mi_rel g D A s M H ws tys) (he : ws[q0]? = some (a, e)) (hw : mi_wr g a c') (he' : mi_e tys c' e')
    (hat : va_at D vwCl (a, e') H1) (z : H1.size = H.size) (oq : ∀ q : Nat, q ≠ a → H1[q]? = H[q]?) : mi_rel g D A s (va_up M.1 a (some c'), M.2) H1 (ws.set q0 (a, e')) tys := by
  obtain ⟨hK, hP, hD, hz, hM, hws⟩ := h
  have hlt : q0 < ws.length := (List.getElem?_eq_some_iff.mp he).1
  refine ⟨hK, hP.set hD he hat oq, hD.set he, z.trans hz, fun b cb hb => ?_, fun k b eb hk => ?_⟩
  · by_cases hba : b = a
    · subst hba
      have hcb : cb = c' := by
        have : va_up M.1 b (some c') b = some cb := hb
        simp [va_up] at this
        exact this.symm
      subst hcb
      exact Or.inl ⟨hw, q0, e', by rw [List.getElem?_set_self hlt], he'⟩
    · have hb' : M.1 b = some cb := by
        have : va_up M.1 a (some c') b = some cb := hb
        simpa [va_up, hba] using this
      rcases hM b cb hb' with ⟨hw2, k, eb, hk, hek⟩ | h2
      · refine Or.inl ⟨hw2, k, eb, ?_, hek⟩
        have hne : q0 ≠ k := fun q => by
          subst q
          rw [he] at hk
          cases hk
          exact hba rfl
        rw [List.getElem?_set_ne hne]
        exact hk
      · exact Or.inr h2
  · by_cases hkq : k = q0
    · subst hkq
      rw [List.getElem?_set_self hlt] at hk
      cases hk
      exact ⟨c', by show va_up M.1 a (some c') a = some c'; simp [va_up], hw⟩
    · rw [List.getElem?_set_ne (fun q => hkq q.symm)] at hk
      obtain ⟨cb, h1, h2⟩ := hws k b eb hk
      have hba : b ≠ a := fun q => hkq (hD.1 k q0 _ _ hk he q)
      exact ⟨cb, by show va_up M.1 a (some c') b = some cb; simpa [va_up, hba] using h1, h2⟩
theorem mi_rel.push {g : xe_G} {D : va_G} {A : Nat → Prop} {s : State} {M : mi_H} {H H1 : Heap} {ws : va_W} {tys tn : List (ClassId × FieldType)} {e' : va_E} {c' : mi_C} (n : Nat) (h : mi_rel g D A s M H ws tys) (hA : A H.size) (hK' : va_K D vwCl (tys ++ tn) s) (hw : mi_wr g H.size c') (he' : mi_e (tys ++ tn) c' e')
    (hat : va_at D vwCl (H.size, e') H1) (z : H1.size = H.size + 1) (o1 : ∀ q : Nat, q < H.size → H1[q]? = H[q]?) : mi_rel g D A s (va_up M.1 M.2.1 (some c'), M.2.1 + 1, M.2.2 + n) H1 (ws ++ [(H.size, e')]) (tys ++ tn) := by
  obtain ⟨hK, hP, hD, hz, hM, hws⟩ := h
  have hlt : ∀ (k : Nat) (x : Nat × va_E), ws[k]? = some x → x.1 < H.size := fun k x hx => (hP k x hx).lt
  refine ⟨hK', (hP.kept (fun k x hx => o1 x.1 (hlt k x hx))).app (fun k x hx => ?_), hD.push hP rfl hA, ?_, fun b cb hb => ?_, fun k b eb hk => ?_⟩
  · have hz : k < 1 := (List.getElem?_eq_some_iff.mp hx).1
    rw [show k = 0 by omega] at hx
    cases hx
    exact hat
  · show H1.size = M.2.1 + 1
    rw [z, hz]
  · by_cases hba : b = M.2.1
    · have hcb : c' = cb := by
        have : va_up M.1 M.2.1 (some c') b = some cb := hb
        simpa [va_up, hba] using this
      subst hcb
      rw [hba, ← hz]
      exact Or.inl ⟨hw, ws.length, e', by simp, he'⟩
    · have hb' : M.1 b = some cb := by
        have : va_up M.1 M.2.1 (some c') b = some cb := hb
        simpa [va_up, hba] using this
      rcases hM b cb hb' with ⟨hw2, k, eb, hk, hek⟩ | h2
      · exact Or.inl ⟨hw2, k, eb, by rw [List.getElem?_append_left (List.getElem?_eq_some_iff.mp hk).1]; exact hk, hek.more⟩
      · exact Or.inr h2
  · by_cases hkl : k < ws.length
    · rw [List.getElem?_append_left hkl] at hk
      obtain ⟨cb, h1, h2⟩ := hws k b eb hk
      have := hlt k _ hk
      have hba : b ≠ M.2.1 := by rw [← hz]; exact Nat.ne_of_lt this
      exact ⟨cb, by show va_up M.1 M.2.1 (some c') b = some cb; simpa [va_up, hba] using h1, h2⟩
    · rw [List.getElem?_append_right (by omega)] at hk
      have hz1 : k - ws.length < 1 := (List.getElem?_eq_some_iff.mp hk).1
      rw [show k - ws.length = 0 by omega] at hk
      cases hk
      rw [hz] at hw ⊢
      exact ⟨c', by show va_up M.1 M.2.1 (some c') M.2.1 = some c'; simp [va_up], hw⟩
/-- a field of an object, an array of a type -/
def mi_gf (M : mi_H) (a ci k : Nat) : Option Value := match M.1 a with
  | some (.inr o) => if o.1 = ci then o.2 k else none
  | _ => none
def mi_ga (M : mi_H) (a : Nat) (ty : FieldType) : Option (Nat × (Nat → Option Value)) := match M.1 a with
  | some (.inl r) => if r.1 = ty then some r.2 else none
  | _ => none
theorem mi_gf_in {g : xe_G} {D : va_G} {A : Nat → Prop} {s : State} {M : mi_H} {H : Heap} {ws : va_W} {tys : List (ClassId × FieldType)} {a ci k : Nat} {v : Value} (h : mi_rel g D A s M H ws tys) (hc : ci < 100) (hv : mi_gf M a ci k = some v) :
    ∃ (f : Nat → Option Value) (q0 : Nat) (fs : List Value), M.1 a = some (.inr (ci, f)) ∧ f k = some v ∧ ws[q0]? = some (a, .inr (ci, fs)) ∧ fs.length = mi_n ci ∧ (∀ k v, f k = some v → fs[k]? = some v) ∧ mi_wr g a (.inr (ci, f)) := by
  unfold mi_gf at hv
  split at hv
  · rename_i o hM
    obtain ⟨c, f⟩ := o
    split at hv
    · rename_i hco
      have hco : c = ci := hco
      subst hco
      rcases h.2.2.2.2.1 a _ hM with ⟨hw, q0, e, hq, he⟩ | ⟨-, f9, h9⟩ | ⟨k9, f9, -, -, h9⟩
      · obtain ⟨fs, rfl, h1, h2⟩ := he
        exact ⟨f, q0, fs, hM, hv, hq, h1, h2, hw⟩
      · cases h9
      · cases h9
        omega
    · cases hv
  · cases hv
theorem mi_ga_in {g : xe_G} {D : va_G} {A : Nat → Prop} {s : State} {M : mi_H} {H : Heap} {ws : va_W} {tys : List (ClassId × FieldType)} {a : Nat} {ty : FieldType} {r : Nat × (Nat → Option Value)} (h : mi_rel g D A s M H ws tys) (hv : mi_ga M a ty = some r) :
    M.1 a = some (.inl (ty, r)) ∧ ((∃ (q0 : Nat) (cA : ClassId) (x : vp_A) (t0 : Nat), ws[q0]? = some (a, .inl (cA, x)) ∧ tys[t0]? = some (cA, ty) ∧ mi_ct ty r.1 r.2 x ∧ mi_wr g a (.inl (ty, r))) ∨ (a = g.1 ∧ ty = .byte ∧ r.1 = 0)) := by
  unfold mi_ga at hv
  split at hv
  · rename_i o hM
    obtain ⟨t, n, f⟩ := o
    split at hv
    · rename_i ht
      have ht : t = ty := ht
      subst ht
      cases hv
      refine ⟨hM, ?_⟩
      rcases h.2.2.2.2.1 a _ hM with ⟨hw, q0, e, hq, he⟩ | ⟨h8, f9, h9⟩ | ⟨k9, f9, -, -, h9⟩
      · obtain ⟨cA, x, rfl, h1, h2⟩ := he
        obtain ⟨t0, ht0⟩ := List.getElem?_of_mem h1
        exact Or.inl ⟨q0, cA, x, t0, hq, ht0, h2, hw⟩
      · cases h9
        exact Or.inr ⟨h8, rfl, rfl⟩
      · cases h9
    · cases hv
  · cases hv
def o_get (ci k : Nat) : mi_O := fun S => match S.2.2.1 with
  | .ref a :: st => match mi_gf S.2.2.2 a ci k with
    | some v => some (S.1 + 3, S.2.1, v :: st, S.2.2.2)
    | none => none
  | _ => none
theorem sm_get {g : xe_G} {own : String} {cc : ByteArray} {nL : Nat} {ini : Bool} {pc : Nat} {ci kf i N : Nat} {C : String} {T : u_T} (hci : ci < 100) (hc0 : vwCl[ci]? = some (C, T, N)) (hin : ∀ w ∈ u_ws C T N, w ∈ bg) (hk : kf < N) (hw : Cond.fieldLink own i (T kf).1 (T kf).2.1 (T kf).2.2.1 ∈ bg) (hd : decode cc pc = .ok (.getfield i, 3)) : mi_ps g own cc nL ini pc (o_get ci kf) := by
  intro lv st M S' h
  unfold o_get at h
  dsimp only at h
  split at h
  · split at h
    · rename_i h9
      cases h
      refine ⟨rfl, rfl, ?_⟩
      intro D p l e R s m args below meth c A Q H locs ls cells slots ws tys hc hr hl hS hR1 hR2 k
      obtain ⟨hx, hb, hml, hown, htb, hE, hini, hA, hK0, hfr, hlo⟩ := hc
      obtain ⟨f, q0, fs, h1, h2, h3, h4, h5, h6⟩ := mi_gf_in hr hci h9
      exact va_get hx hb htb hin hown hr.1 hr.2.1 q0 h3 hc0 kf hk (htb _ hw) (fun _ h9 => h9) (h5 _ _ h2) hd k
    · cases h
  · cases h
/-- what may be laid into a field: numbers, references -/
def mi_fit (ty : FieldType) (v : Value) : Bool := match ty, v with
  | .int, .int _ => true
  | .object _, .ref _ => true
  | .object _, .null => true
  | .array _, .ref _ => true
  | .array _, .null => true
  | _, _ => false
theorem mi_fit_ok {ty : FieldType} {v : Value} (h : mi_fit ty v = true) : narrow ty v = v ∧ fits ty v = true := by
  unfold mi_fit at h
  split at h <;> first | exact ⟨rfl, rfl⟩ | cases h
def o_put (ci k : Nat) (ty : FieldType) : mi_O := fun S => match S.2.2.1 with
  | v :: .ref a :: st => match S.2.2.2.1 a with
    | some (.inr o) => if o.1 = ci ∧ mi_fit ty v = true then some (S.1 + 3, S.2.1, st, va_up S.2.2.2.1 a (some (.inr (ci, va_up o.2 k (some v)))), S.2.2.2.2) else none
    | _ => none
  | _ => none
theorem mi_put_fs {f : Nat → Option Value} {fs : List Value} {k : Nat} {v : Value} (hl : k < fs.length) (h : ∀ k v, f k = some v → fs[k]? = some v) : ∀ j w, va_up f k (some v) j = some w → (fs.set k v)[j]? = some w := by
  intro j w hj
  by_cases hjk : j = k
  · subst hjk
    have : v = w := by simpa [va_up] using hj
    rw [List.getElem?_set_self hl, this]
  · rw [List.getElem?_set_ne (fun q => hjk q.symm)]
    exact h j w (by simpa [va_up, hjk] using hj)
theorem mi_obj {g : xe_G} {D : va_G} {A : Nat → Prop} {s : State} {M : mi_H} {H : Heap} {ws : va_W} {tys : List (ClassId × FieldType)} {a : Nat} {o : Nat × (Nat → Option Value)} (h : mi_rel g D A s M H ws tys) (hc : o.1 < 100) (hM : M.1 a = some (.inr o)) :
    ∃ (q0 : Nat) (fs : List Value), ws[q0]? = some (a, .inr (o.1, fs)) ∧ fs.length = mi_n o.1 ∧ (∀ k v, o.2 k = some v → fs[k]? = some v) ∧ mi_wr g a (.inr o) := by
  rcases h.2.2.2.2.1 a _ hM with ⟨hw, q0, e, hq, he⟩ | ⟨-, f9, h9⟩ | ⟨k9, f9, -, -, h9⟩
  · obtain ⟨fs, rfl, h1, h2⟩ := he
    exact ⟨q0, fs, hq, h1, h2, hw⟩
  · cases h9
  · cases h9
    exact absurd hc (by show ¬ 100 + k9 < 100; omega)
theorem sm_put {g : xe_G} {own : String} {cc : ByteArray} {nL : Nat} {ini : Bool} {pc : Nat} {ci k i N : Nat} {C : String} {T : u_T} {ty0 : Nat → FieldType} {ty : FieldType} (hci : ci < 100) (hc0 : vwCl[ci]? = some (C, T, N)) (hin : ∀ w ∈ u_ws C T N, w ∈ bg) (hty : ∀ k, k < N → parseFieldDescriptor (T k).2.2.1 = some (ty0 k)) (hnm : ∀ a, a < N → ∀ b, b < N → a ≠ b → (T a).2.1 ≠ (T b).2.1) (hk : k < N) (hfin : (T k).2.2.2 = false) (hd0 : parseFieldDescriptor (T k).2.2.1 = some ty) (hw : Cond.fieldLink own i (T k).1 (T k).2.1 (T k).2.2.1 ∈ bg) (hd : decode cc pc = .ok (.putfield i, 3)) : mi_sim g own cc nL ini pc (o_put ci k ty) := by
  intro lv st M S' h
  unfold o_put at h
  dsimp only at h
  split at h
  · rename_i v a rest
    split at h
    · rename_i o hM
      split at h
      · rename_i hco
        cases h
        refine ⟨⟨Nat.le_refl _, Nat.le_refl _⟩, ?_⟩
        intro D p l e R s m args below meth c A n0 s0 Q hc hn0 hs0 hR1 hR2 hW H locs ls ws tys hr hl hS
        obtain ⟨hx, hb, hml, hown, htb, hE, hini, hA, hK0, hfr, hlo⟩ := hc
        obtain ⟨rfl, hfit⟩ := hco
        obtain ⟨q0, fs, he, hfl, hff, hwr⟩ := mi_obj hr hci hM
        obtain ⟨hn, hft⟩ := mi_fit_ok hfit
        have hl9 : k < fs.length := by
          rw [hfl]
          unfold mi_n
          rw [hc0]
          exact hk
        have hap := va_apart (own := own) (D := D) htb hin ty0 hty hnm hr.1 hc0
        obtain ⟨r, h1, cell, q1, q2, q3, q4⟩ := hr.2.1 q0 _ he
        have hr9 : r = (C, T, N) := Option.some.inj (h1.symm.trans hc0)
        subst hr9
        obtain ⟨hS9, hfc, kC, hkC, hkind⟩ := hr.1.1 o.1 _ hc0
        obtain ⟨cf, kf, fi, f, hi, hsl⟩ := hS9 k hk
        have hlay := htb _ (hin _ (u_in_lay hk))
        unfold u_lay at hlay
        rw [if_neg (by rw [hfin]; decide)] at hlay
        have hst := (u_facts hfc hkC (u_lays htb hin hk) hi).1
        have h6 := u_store hfc hkC hkind hlay hi hd0 hn hft
        refine W.putK hx hb (f := f) ⟨hown, htb _ hw, ⟨_, _, _, hi⟩, hst⟩ (by rw [q2]; exact h6) q1 q3 (by rw [hsl]; exact k2_hasslot (q4 k hk)) rfl rfl hd fun H' e1 e2 e3 => ?_
        rw [hsl] at e1 ⊢
        have hA9 : A a := hr.2.2.1.2 q0 _ he
        exact hW H' _ ls (ws.set q0 (a, .inr (o.1, fs.set k v))) tys (hr.put (c' := .inr (o.1, va_up o.2 k (some v))) he ⟨hwr.1, fun o9 h9 => by cases h9; exact hwr.2 o rfl⟩ ⟨fs.set k v, rfl, by rw [List.length_set]; exact hfl, mi_put_fs hl9 hff⟩ ⟨_, hc0, t_OB.to (V := updV (vp_V fs) k v) ⟨_, e1, q2, q3, t_set q4 hap hk v⟩ (fun j _ => vp_updV_set hl9 v j)⟩ e2 e3) hl (hS.put e2 e3 hA9)
      · cases h
    · cases h
  · cases h
end MIP
end
section
/-! steps over rows, new cells, what stands outside -/
section MIQ
def o_ald (ty : FieldType) : mi_O := fun S => match S.2.2.1 with
  | .int i :: .ref a :: st => match mi_ga S.2.2.2 a ty with
    | some r => if i < 0 ∨ r.1 ≤ i.toNatClampNeg then none else match r.2 i.toNatClampNeg with
      | some v => some (S.1 + 1, S.2.1, v :: st, S.2.2.2)
      | none => none
    | none => none
  | _ => none
def o_alen (ty : FieldType) : mi_O := fun S => match S.2.2.1 with
  | .ref a :: st => match mi_ga S.2.2.2 a ty with
    | some r => some (S.1 + 1, S.2.1, .int (Int32.ofNat r.1) :: st, S.2.2.2)
    | none => none
  | _ => none
def o_ast (ty : FieldType) (nar : Int32 → Int32) : mi_O := fun S => match S.2.2.1 with
  | .int x :: .int i :: .ref a :: st => match mi_ga S.2.2.2 a ty with
    | some r => if i < 0 ∨ r.1 ≤ i.toNatClampNeg then none else some (S.1 + 1, S.2.1, st, va_up S.2.2.2.1 a (some (.inl (ty, r.1, va_up r.2 i.toNatClampNeg (some (.int (nar x)))))), S.2.2.2.2)
    | none => none
  | _ => none
theorem sm_iald {g : xe_G} {own : String} {cc : ByteArray} {nL : Nat} {ini : Bool} {pc : Nat} (hd : decode cc pc = .ok (.iaload, 1)) : mi_ps g own cc nL ini pc (o_ald .int) := by
  intro lv st M S' h
  unfold o_ald at h
  dsimp only at h
  split at h
  · split at h
    · rename_i r hga
      split at h
      · cases h
      · rename_i hin
        split at h
        · rename_i v hv
          cases h
          refine ⟨rfl, rfl, ?_⟩
          intro D p l e R s m args below meth c A Q H locs ls cells slots ws tys hc hr hl hS hR1 hR2 k
          obtain ⟨hx, hb, hml, hown, htb, hE, hini, hA, hK0, hfr, hlo⟩ := hc
          obtain ⟨-, ⟨q0, cA, x, t0, h1, h2, ⟨h3, h4⟩, h5⟩ | ⟨-, -, h0⟩⟩ := mi_ga_in hr hga
          · obtain ⟨n9, x9⟩ := x
            obtain ⟨n8, f8⟩ := r
            dsimp only at h3 h4 hin hv
            subst h3
            rcases h4 with ⟨-, f, rfl, hf⟩ | ⟨h9, -⟩ | ⟨⟨C9, h9⟩, -⟩
            · rw [hf _ _ hv] at k
              exact va_iald hx hb hr.1 hr.2.1 q0 t0 h1 h2 hin hd k
            · cases h9
            · cases h9
          · exact absurd (Or.inr (by rw [h0]; exact Nat.zero_le _)) hin
        · cases h
    · cases h
  · cases h
theorem sm_bald {g : xe_G} {own : String} {cc : ByteArray} {nL : Nat} {ini : Bool} {pc : Nat} (hd : decode cc pc = .ok (.baload, 1)) : mi_ps g own cc nL ini pc (o_ald .byte) := by
  intro lv st M S' h
  unfold o_ald at h
  dsimp only at h
  split at h
  · split at h
    · rename_i r hga
      split at h
      · cases h
      · rename_i hin
        split at h
        · rename_i v hv
          cases h
          refine ⟨rfl, rfl, ?_⟩
          intro D p l e R s m args below meth c A Q H locs ls cells slots ws tys hc hr hl hS hR1 hR2 k
          obtain ⟨hx, hb, hml, hown, htb, hE, hini, hA, hK0, hfr, hlo⟩ := hc
          obtain ⟨-, ⟨q0, cA, x, t0, h1, h2, ⟨h3, h4⟩, h5⟩ | ⟨-, -, h0⟩⟩ := mi_ga_in hr hga
          · obtain ⟨n9, x9⟩ := x
            obtain ⟨n8, f8⟩ := r
            dsimp only at h3 h4 hin hv
            subst h3
            rcases h4 with ⟨-, f, rfl, hf⟩ | ⟨h9, -⟩ | ⟨⟨C9, h9⟩, -⟩
            · rw [hf _ _ hv] at k
              exact va_bald hx hb hr.1 hr.2.1 q0 t0 h1 h2 hin hd k
            · cases h9
            · cases h9
          · exact absurd (Or.inr (by rw [h0]; exact Nat.zero_le _)) hin
        · cases h
    · cases h
  · cases h
theorem sm_cald {g : xe_G} {own : String} {cc : ByteArray} {nL : Nat} {ini : Bool} {pc : Nat} (hd : decode cc pc = .ok (.caload, 1)) : mi_ps g own cc nL ini pc (o_ald .char) := by
  intro lv st M S' h
  unfold o_ald at h
  dsimp only at h
  split at h
  · split at h
    · rename_i r hga
      split at h
      · cases h
      · rename_i hin
        split at h
        · rename_i v hv
          cases h
          refine ⟨rfl, rfl, ?_⟩
          intro D p l e R s m args below meth c A Q H locs ls cells slots ws tys hc hr hl hS hR1 hR2 k
          obtain ⟨hx, hb, hml, hown, htb, hE, hini, hA, hK0, hfr, hlo⟩ := hc
          obtain ⟨-, ⟨q0, cA, x, t0, h1, h2, ⟨h3, h4⟩, h5⟩ | ⟨-, -, h0⟩⟩ := mi_ga_in hr hga
          · obtain ⟨n9, x9⟩ := x
            obtain ⟨n8, f8⟩ := r
            dsimp only at h3 h4 hin hv
            subst h3
            rcases h4 with ⟨-, f, rfl, hf⟩ | ⟨h9, -⟩ | ⟨⟨C9, h9⟩, -⟩
            · rw [hf _ _ hv] at k
              exact va_cald hx hb hr.1 hr.2.1 q0 t0 h1 h2 hin hd k
            · cases h9
            · cases h9
          · exact absurd (Or.inr (by rw [h0]; exact Nat.zero_le _)) hin
        · cases h
    · cases h
  · cases h
theorem sm_aald {g : xe_G} {own : String} {cc : ByteArray} {nL : Nat} {ini : Bool} {pc : Nat} {C : String} (hd : decode cc pc = .ok (.aaload, 1)) : mi_ps g own cc nL ini pc (o_ald (.object C)) := by
  intro lv st M S' h
  unfold o_ald at h
  dsimp only at h
  split at h
  · split at h
    · rename_i r hga
      split at h
      · cases h
      · rename_i hin
        split at h
        · rename_i v hv
          cases h
          refine ⟨rfl, rfl, ?_⟩
          intro D p l e R s m args below meth c A Q H locs ls cells slots ws tys hc hr hl hS hR1 hR2 k
          obtain ⟨hx, hb, hml, hown, htb, hE, hini, hA, hK0, hfr, hlo⟩ := hc
          obtain ⟨-, ⟨q0, cA, x, t0, h1, h2, ⟨h3, h4⟩, h5⟩ | ⟨-, -, h0⟩⟩ := mi_ga_in hr hga
          · obtain ⟨n9, x9⟩ := x
            obtain ⟨n8, f8⟩ := r
            dsimp only at h3 h4 hin hv
            subst h3
            rcases h4 with ⟨h9, -⟩ | ⟨h9, -⟩ | ⟨-, f, rfl, hf⟩
            · simp at h9
            · cases h9
            · rw [hf _ _ hv] at k
              exact va_aldq hx hb hr.1 hr.2.1 q0 t0 h1 h2 hin hd k
          · exact absurd (Or.inr (by rw [h0]; exact Nat.zero_le _)) hin
        · cases h
    · cases h
  · cases h
theorem sm_alen {g : xe_G} {own : String} {cc : ByteArray} {nL : Nat} {ini : Bool} {pc : Nat} {ty : FieldType} (hd : decode cc pc = .ok (.arraylength, 1)) : mi_ps g own cc nL ini pc (o_alen ty) := by
  intro lv st M S' h
  unfold o_alen at h
  dsimp only at h
  split at h
  · split at h
    · rename_i r hga
      cases h
      refine ⟨rfl, rfl, ?_⟩
      intro D p l e R s m args below meth c A Q H locs ls cells slots ws tys hc hr hl hS hR1 hR2 k
      obtain ⟨hx, hb, hml, hown, htb, hE, hini, hA, hK0, hfr, hlo⟩ := hc
      obtain ⟨-, ⟨q0, cA, x, t0, h1, h2, ⟨h3, h4⟩, h5⟩ | ⟨h8, h9, h0⟩⟩ := mi_ga_in hr hga
      · exact va_alen hx hb hr.1 hr.2.1 q0 t0 h1 h2 (by rw [h3]) hd k
      · subst h8
        exact va_tlen hx hb hE.2.1 hS (by rw [h0]) hd k
    · cases h
  · cases h
theorem sm_iast {g : xe_G} {own : String} {cc : ByteArray} {nL : Nat} {ini : Bool} {pc : Nat} (hd : decode cc pc = .ok (.iastore, 1)) : mi_sim g own cc nL ini pc (o_ast .int (fun x => x)) := by
  intro lv st M S' h
  unfold o_ast at h
  dsimp only at h
  split at h
  · rename_i x i a rest
    split at h
    · rename_i r hga
      split at h
      · cases h
      · rename_i hin
        cases h
        refine ⟨⟨Nat.le_refl _, Nat.le_refl _⟩, ?_⟩
        intro D p l e R s m args below meth c A n0 s0 Q hc hn0 hs0 hR1 hR2 hW H locs ls ws tys hr hl hS
        obtain ⟨hx, hb, hml, hown, htb, hE, hini, hA, hK0, hfr, hlo⟩ := hc
        obtain ⟨hM, ⟨q0, cA, y, t0, h1, h2, ⟨h3, h4⟩, h5⟩ | ⟨-, -, h0⟩⟩ := mi_ga_in hr hga
        · obtain ⟨n9, x9⟩ := y
          obtain ⟨n8, f8⟩ := r
          dsimp only at h3 h4 hin h5
          subst h3
          rcases h4 with ⟨-, f, rfl, hf⟩ | ⟨h9, -⟩ | ⟨⟨C9, h9⟩, -⟩
          · refine W.iast hx hb (hr.2.1 q0 _ h1) ((hr.1.2 t0 _ h2).1 n9 (fun j => .int (f j))) (fun q => by cases q) (by show ¬ (i < 0 ∨ (arrV _ _ _).slots.size ≤ _); rw [arrV_size]; exact hin) rfl rfl hd fun H1 e1 z oq => ?_
            refine hW H1 _ ls (ws.set q0 (a, .inl (cA, n9, .inl (upd f i.toNatClampNeg x)))) tys (hr.put h1 ⟨h5.1, fun o9 h9 => by cases h9⟩ ⟨cA, _, rfl, List.mem_of_getElem? h2, rfl, Or.inl ⟨by simp, _, rfl, fun j w hj => ?_⟩⟩ ?_ z oq) hl (hS.put z oq (hr.2.2.1.2 q0 _ h1))
            · by_cases hq : j = i.toNatClampNeg
              · have h7 : some (Value.int x) = some w := by simpa [va_up, hq] using hj
                cases h7
                simp [upd, hq]
              · have h7 : f8 j = some w := by simpa [va_up, hq] using hj
                rw [hf _ _ h7]
                simp [upd, hq]
            · show H1[a]? = some (vp_cell _ _)
              rw [e1]
              rw [vp_cell_i, vp_cell_i, arrV_store]
              congr 2
              funext q
              by_cases hq : q = i.toNatClampNeg
              · subst hq
                simp [updV, upd, vp_nar]
                try rfl
              · simp [updV, upd, hq]
          · cases h9
          · cases h9
        · exact absurd (Or.inr (by rw [h0]; exact Nat.zero_le _)) hin
    · cases h
  · cases h
theorem sm_bast {g : xe_G} {own : String} {cc : ByteArray} {nL : Nat} {ini : Bool} {pc : Nat} (hd : decode cc pc = .ok (.bastore, 1)) : mi_sim g own cc nL ini pc (o_ast .byte (vp_nar .byte)) := by
  intro lv st M S' h
  unfold o_ast at h
  dsimp only at h
  split at h
  · rename_i x i a rest
    split at h
    · rename_i r hga
      split at h
      · cases h
      · rename_i hin
        cases h
        refine ⟨⟨Nat.le_refl _, Nat.le_refl _⟩, ?_⟩
        intro D p l e R s m args below meth c A n0 s0 Q hc hn0 hs0 hR1 hR2 hW H locs ls ws tys hr hl hS
        obtain ⟨hx, hb, hml, hown, htb, hE, hini, hA, hK0, hfr, hlo⟩ := hc
        obtain ⟨hM, ⟨q0, cA, y, t0, h1, h2, ⟨h3, h4⟩, h5⟩ | ⟨-, -, h0⟩⟩ := mi_ga_in hr hga
        · obtain ⟨n9, x9⟩ := y
          obtain ⟨n8, f8⟩ := r
          dsimp only at h3 h4 hin h5
          subst h3
          rcases h4 with ⟨-, f, rfl, hf⟩ | ⟨h9, -⟩ | ⟨⟨C9, h9⟩, -⟩
          · refine W.bast hx hb (hr.2.1 q0 _ h1) ((hr.1.2 t0 _ h2).1 n9 (fun j => .int (f j))) (fun q => by cases q) (by show ¬ (i < 0 ∨ (arrV _ _ _).slots.size ≤ _); rw [arrV_size]; exact hin) rfl rfl hd fun H1 e1 z oq => ?_
            refine hW H1 _ ls (ws.set q0 (a, .inl (cA, n9, .inl (upd f i.toNatClampNeg (vp_nar .byte x))))) tys (hr.put h1 ⟨h5.1, fun o9 h9 => by cases h9⟩ ⟨cA, _, rfl, List.mem_of_getElem? h2, rfl, Or.inl ⟨by simp, _, rfl, fun j w hj => ?_⟩⟩ ?_ z oq) hl (hS.put z oq (hr.2.2.1.2 q0 _ h1))
            · by_cases hq : j = i.toNatClampNeg
              · have h7 : some (Value.int (vp_nar .byte x)) = some w := by simpa [va_up, hq] using hj
                cases h7
                simp [upd, hq]
              · have h7 : f8 j = some w := by simpa [va_up, hq] using hj
                rw [hf _ _ h7]
                simp [upd, hq]
            · show H1[a]? = some (vp_cell _ _)
              rw [e1]
              rw [vp_cell_i, vp_cell_i, arrV_store]
              congr 2
              funext q
              by_cases hq : q = i.toNatClampNeg
              · subst hq
                simp [updV, upd, vp_nar]
                try rfl
              · simp [updV, upd, hq]
          · cases h9
          · cases h9
        · exact absurd (Or.inr (by rw [h0]; exact Nat.zero_le _)) hin
    · cases h
  · cases h
theorem sm_cast {g : xe_G} {own : String} {cc : ByteArray} {nL : Nat} {ini : Bool} {pc : Nat} (hd : decode cc pc = .ok (.castore, 1)) : mi_sim g own cc nL ini pc (o_ast .char (vp_nar .char)) := by
  intro lv st M S' h
  unfold o_ast at h
  dsimp only at h
  split at h
  · rename_i x i a rest
    split at h
    · rename_i r hga
      split at h
      · cases h
      · rename_i hin
        cases h
        refine ⟨⟨Nat.le_refl _, Nat.le_refl _⟩, ?_⟩
        intro D p l e R s m args below meth c A n0 s0 Q hc hn0 hs0 hR1 hR2 hW H locs ls ws tys hr hl hS
        obtain ⟨hx, hb, hml, hown, htb, hE, hini, hA, hK0, hfr, hlo⟩ := hc
        obtain ⟨hM, ⟨q0, cA, y, t0, h1, h2, ⟨h3, h4⟩, h5⟩ | ⟨-, -, h0⟩⟩ := mi_ga_in hr hga
        · obtain ⟨n9, x9⟩ := y
          obtain ⟨n8, f8⟩ := r
          dsimp only at h3 h4 hin h5
          subst h3
          rcases h4 with ⟨-, f, rfl, hf⟩ | ⟨h9, -⟩ | ⟨⟨C9, h9⟩, -⟩
          · refine W.cast hx hb (hr.2.1 q0 _ h1) ((hr.1.2 t0 _ h2).1 n9 (fun j => .int (f j))) (fun q => by cases q) (by show ¬ (i < 0 ∨ (arrV _ _ _).slots.size ≤ _); rw [arrV_size]; exact hin) rfl rfl hd fun H1 e1 z oq => ?_
            refine hW H1 _ ls (ws.set q0 (a, .inl (cA, n9, .inl (upd f i.toNatClampNeg (vp_nar .char x))))) tys (hr.put h1 ⟨h5.1, fun o9 h9 => by cases h9⟩ ⟨cA, _, rfl, List.mem_of_getElem? h2, rfl, Or.inl ⟨by simp, _, rfl, fun j w hj => ?_⟩⟩ ?_ z oq) hl (hS.put z oq (hr.2.2.1.2 q0 _ h1))
            · by_cases hq : j = i.toNatClampNeg
              · have h7 : some (Value.int (vp_nar .char x)) = some w := by simpa [va_up, hq] using hj
                cases h7
                simp [upd, hq]
              · have h7 : f8 j = some w := by simpa [va_up, hq] using hj
                rw [hf _ _ h7]
                simp [upd, hq]
            · show H1[a]? = some (vp_cell _ _)
              rw [e1]
              rw [vp_cell_i, vp_cell_i, arrV_store]
              congr 2
              funext q
              by_cases hq : q = i.toNatClampNeg
              · subst hq
                simp [updV, upd, vp_nar]
                try rfl
              · simp [updV, upd, hq]
          · cases h9
          · cases h9
        · exact absurd (Or.inr (by rw [h0]; exact Nat.zero_le _)) hin
    · cases h
  · cases h
/-- the object at v may lie in a row of C: a cell of that class, or a literal -/
def mi_ok (M : mi_H) (C : String) (v : Nat) : Bool := match M.1 v with
  | some (.inr o) => if o.1 < 100 then (match vwCl[o.1]? with | some r => decide (r.1 = C) | none => false) else decide (C = "java/lang/String")
  | _ => false
def o_aast (C : String) : mi_O := fun S => match S.2.2.1 with
  | .ref v :: .int i :: .ref a :: st => match mi_ga S.2.2.2 a (.object C) with
    | some r => if i < 0 ∨ r.1 ≤ i.toNatClampNeg then none else if mi_ok S.2.2.2 C v = true then some (S.1 + 1, S.2.1, st, va_up S.2.2.2.1 a (some (.inl (.object C, r.1, va_up r.2 i.toNatClampNeg (some (.ref v))))), S.2.2.2.2) else none
    | none => none
  | _ => none
theorem mi_ok_any {g : xe_G} {D : va_G} {A : Nat → Prop} {s : State} {M : mi_H} {H : Heap} {locs : List Loc} {ws : va_W} {tys : List (ClassId × FieldType)} {C : String} {v : Nat} (hr : mi_rel g D A s M H ws tys) (hE : xe_E g A s s.heap) (hS : va_S A s.heap H locs) (h : mi_ok M C v = true) : va_Any C s H v := by
  unfold mi_ok at h
  split at h
  · rename_i o hM
    split at h
    · rename_i ho
      split at h
      · rename_i r hr9
        obtain ⟨q0, fs, h1, -⟩ := mi_obj hr ho hM
        have hC : r.1 = C := by simpa using h
        subst hC
        exact va_rAny hr.1 hr.2.1 h1 hr9 (fun comp c0 g1 g2 => by cases g1.symm.trans g2; exact va_asg _ _)
      · cases h
    · rename_i ho
      have hC : C = "java/lang/String" := by simpa using h
      subst hC
      rcases hr.2.2.2.2.1 v _ hM with ⟨hw, -⟩ | ⟨-, f9, h9⟩ | ⟨k9, f9, hk9, h8, h9⟩
      · exact absurd (hw.2 o rfl) ho
      · cases h9
      · subst h8
        exact xe_any hE hS k9 hk9
  · cases h
theorem sm_aast {g : xe_G} {own : String} {cc : ByteArray} {nL : Nat} {ini : Bool} {pc : Nat} {C : String} (hd : decode cc pc = .ok (.aastore, 1)) : mi_sim g own cc nL ini pc (o_aast C) := by
  intro lv st M S' h
  unfold o_aast at h
  dsimp only at h
  split at h
  · rename_i v i a rest
    split at h
    · rename_i r hga
      split at h
      · cases h
      · rename_i hin
        split at h
        · rename_i hok
          cases h
          refine ⟨⟨Nat.le_refl _, Nat.le_refl _⟩, ?_⟩
          intro D p l e R s m args below meth c A n0 s0 Q hc hn0 hs0 hR1 hR2 hW H locs ls ws tys hr hl hS
          obtain ⟨hx, hb, hml, hown, htb, hE, hini, hA, hK0, hfr, hlo⟩ := hc
          obtain ⟨hM, ⟨q0, cA, y, t0, h1, h2, ⟨h3, h4⟩, h5⟩ | ⟨-, h0, -⟩⟩ := mi_ga_in hr hga
          · obtain ⟨n9, x9⟩ := y
            obtain ⟨n8, f8⟩ := r
            dsimp only at h3 h4 hin h5
            subst h3
            rcases h4 with ⟨h9, -⟩ | ⟨h9, -⟩ | ⟨-, f, rfl, hf⟩
            · simp at h9
            · cases h9
            · have hlt : i.toNatClampNeg < n9 := Nat.not_le.mp fun q => hin (Or.inr q)
              have h0 : ¬ i < 0 := fun q => hin (Or.inl q)
              obtain ⟨cellV, g1, g3, ⟨kC, hkC⟩, hasg⟩ := mi_ok_any hr hE hS hok
              obtain ⟨kA, comp, k1, k2, k3, -⟩ := (hr.1.2 t0 _ h2).2
              obtain ⟨kE, hkE, -⟩ := Vm.findClass_spec k3
              refine W.aast hx hb (hr.2.1 q0 _ h1) (fun q h => by cases h) (fun h => by cases h) k1 k2 rfl hkE ⟨h0, by show _ < (arrV _ _ _).slots.size; rw [arrV_size]; exact hlt⟩ g1 (fun q h => by rw [h] at g3; cases g3) hkC (hasg _ k3) rfl rfl hd fun H1 e1 z oq => ?_
              refine hW H1 _ ls (ws.set q0 (a, .inl (cA, n9, .inr (.inr (.inr (.inr (va_up f i.toNatClampNeg (some v)))))))) tys (hr.put h1 ⟨h5.1, fun o9 h9 => by cases h9⟩ ⟨cA, _, rfl, List.mem_of_getElem? h2, rfl, Or.inr (Or.inr ⟨⟨_, rfl⟩, _, rfl, fun j w hj => ?_⟩)⟩ ?_ z oq) hl (hS.put z oq (hr.2.2.1.2 q0 _ h1))
              · by_cases hq : j = i.toNatClampNeg
                · have h7 : some (Value.ref v) = some w := by simpa [va_up, hq] using hj
                  cases h7
                  simp [va_up, hq, va_rf]
                · have h7 : f8 j = some w := by simpa [va_up, hq] using hj
                  rw [hf _ _ h7]
                  simp [va_up, hq]
              · show H1[a]? = some (vp_cell _ _)
                rw [e1]
                rw [vp_cell_q, vp_cell_q, arrV_store]
                congr 2
                funext q
                by_cases hq : q = i.toNatClampNeg
                · subst hq
                  simp [updV, va_up, va_rf]
                · simp [updV, va_up, hq]
          · cases h0
        · cases h
    · cases h
  · cases h
theorem mi_fresh {g : xe_G} {A : Nat → Prop} {s : State} {H : Heap} {locs : List Loc} (hE : xe_E g A s s.heap) (hS : va_S A s.heap H locs) : H.size ≠ g.1 := by
  obtain ⟨cell, h1, -⟩ := hE.2.1
  have h2 : g.1 < s.heap.size := (Array.getElem?_eq_some_iff.mp h1).1
  exact Nat.ne_of_gt (Nat.lt_of_lt_of_le h2 hS.1)
def o_newa (ty : FieldType) : mi_O := fun S => match S.2.2.1 with
  | .int n :: st => if n < 0 ∨ 134217728 < n.toNatClampNeg then none else some (S.1 + 2, S.2.1, .ref S.2.2.2.2.1 :: st, va_up S.2.2.2.1 S.2.2.2.2.1 (some (.inl (ty, n.toNatClampNeg, fun _ => some (.int 0)))), S.2.2.2.2.1 + 1, S.2.2.2.2.2 + n.toNatClampNeg)
  | _ => none
theorem sm_newa {g : xe_G} {own : String} {cc : ByteArray} {nL : Nat} {ini : Bool} {pc : Nat} {ty : FieldType} {aty : ArrayType} (hty : newarray.typeOf aty = ty) (hw : Cond.arrayClass ty ∈ bg) (h4 : componentBytes ty ≤ 4) (h5 : ty ∈ [FieldType.int, .byte, .char, .short, .boolean]) (hd : decode cc pc = .ok (.newarray aty, 2)) : mi_sim g own cc nL ini pc (o_newa ty) := by
  intro lv st M S' h
  subst hty
  unfold o_newa at h
  dsimp only at h
  split at h
  · rename_i n rest
    split at h
    · cases h
    · rename_i hin
      cases h
      refine ⟨⟨Nat.le_succ _, Nat.le_add_right _ _⟩, ?_⟩
      intro D p l e R s m args below meth c A n0 s0 Q hc hn0 hs0 hR1 hR2 hW H locs ls ws tys hr hl hS
      obtain ⟨hx, hb, hml, hown, htb, hE, hini, hA, hK0, hfr, hlo⟩ := hc
      dsimp only at hR1 hR2 hn0 hs0
      have hz := hr.2.2.2.1
      have e9 : M.2.1 + 1 - n0 = (M.2.1 - n0) + 1 := by omega
      have e8 : M.2.2 + n.toNatClampNeg - s0 = (M.2.2 - s0) + n.toNatClampNeg := by omega
      have hb9 : n.toNatClampNeg * componentBytes (newarray.typeOf aty) ≤ 536870912 := Nat.le_trans (Nat.mul_le_mul (Nat.not_lt.mp (fun q => hin (Or.inr q))) h4) (by decide)
      refine va_newaK hx hb (htb _ hw) rfl hd rfl (fun q => hin (Or.inl q)) rfl hb9 (by rw [← e9]; exact hR1) (by rw [← e8]; exact hR2) rfl fun H1 cA e1 z1 o1 hAr hNm => ?_
      have hgo := hW H1 locs ls (ws ++ [(H.size, .inl (cA, n.toNatClampNeg, .inl (fun _ => 0)))]) (tys ++ [(cA, newarray.typeOf aty)]) ?_ hl ⟨Nat.le_trans hS.1 (by omega), fun x h1 h2 => (o1 x (Nat.lt_of_lt_of_le h1 hS.1)).trans (hS.2.1 x h1 h2), hS.2.2⟩
      · dsimp only at hgo
        rw [e9, e8, ← hz] at hgo
        rw [← hz]
        exact hgo
      · refine hr.push n.toNatClampNeg (hA _ hS.1) ?_ ⟨mi_fresh hE hS, fun o9 h9 => by cases h9⟩ ⟨cA, _, rfl, by simp, rfl, Or.inl ⟨h5, _, rfl, fun j w hj => by cases hj; rfl⟩⟩ ?_ z1 o1
        · refine hr.1.app ⟨hr.1.1, fun k x hx9 => ?_⟩
          have hz9 : k < 1 := (List.getElem?_eq_some_iff.mp hx9).1
          rw [show k = 0 by omega] at hx9
          cases hx9
          exact ⟨hAr, by cases aty <;> exact hNm⟩
        · show H1[H.size]? = some (vp_cell _ _)
          rw [e1, vp_cell_i]
          congr 2
          funext _
          cases aty <;> first | rfl | (simp [newarray.typeOf] at h5)
  · cases h
def o_anew (C : String) : mi_O := fun S => match S.2.2.1 with
  | .int n :: st => if n < 0 ∨ 134217728 < n.toNatClampNeg then none else some (S.1 + 3, S.2.1, .ref S.2.2.2.2.1 :: st, va_up S.2.2.2.1 S.2.2.2.2.1 (some (.inl (.object C, n.toNatClampNeg, fun _ => some .null))), S.2.2.2.2.1 + 1, S.2.2.2.2.2 + n.toNatClampNeg)
  | _ => none
theorem sm_anew {g : xe_G} {own : String} {cc : ByteArray} {nL : Nat} {ini : Bool} {pc : Nat} {C : String} {i : Nat} (hcl : Cond.classLink own i C ∈ bg) (hAO : ∀ A s, xe_E g A s s.heap → va_AO C s) (hd : decode cc pc = .ok (.anewarray i, 3)) : mi_sim g own cc nL ini pc (o_anew C) := by
  intro lv st M S' h
  unfold o_anew at h
  dsimp only at h
  split at h
  · rename_i n rest
    split at h
    · cases h
    · rename_i hin
      cases h
      refine ⟨⟨Nat.le_succ _, Nat.le_add_right _ _⟩, ?_⟩
      intro D p l e R s m args below meth c A n0 s0 Q hc hn0 hs0 hR1 hR2 hW H locs ls ws tys hr hl hS
      obtain ⟨hx, hb, hml, hown, htb, hE, hini, hA, hK0, hfr, hlo⟩ := hc
      dsimp only at hR1 hR2 hn0 hs0
      have hz := hr.2.2.2.1
      have e9 : M.2.1 + 1 - n0 = (M.2.1 - n0) + 1 := by omega
      have e8 : M.2.2 + n.toNatClampNeg - s0 = (M.2.2 - s0) + n.toNatClampNeg := by omega
      have hb9 : n.toNatClampNeg * 4 ≤ 536870912 := Nat.le_trans (Nat.mul_le_mul (Nat.not_lt.mp (fun q => hin (Or.inr q))) (Nat.le_refl 4)) (by decide)
      refine W.anew hx hb hown (htb _ hcl) (va_AO.use (hAO A s hE)) rfl hd rfl (fun q => hin (Or.inl q)) hb9 (by rw [← e9]; exact hR1) (by rw [← e8]; exact hR2) fun cA kA comp f1 f2 f3 f4 => ?_
      generalize hH1 : H.push ({ cls := cA, slots := Array.replicate n.toNatClampNeg .null, vm := .none } : Cell) = H1
      have z1 : H1.size = H.size + 1 := by rw [← hH1, Array.size_push]
      have e1 : H1[H.size]? = some (arrV cA n.toNatClampNeg (fun _ => .null)) := by rw [← hH1, Array.getElem?_push_size, ← arrV_new]
      have o1 : ∀ q : Nat, q < H.size → H1[q]? = H[q]? := fun q hq => by rw [← hH1, Array.getElem?_push, if_neg (Nat.ne_of_lt hq)]
      have hAr : ArrOfT s cA (.object C) := fun N z => ⟨(fun k h => by cases h), kA, f2, comp, f3⟩
      have hgo := hW H1 locs ls (ws ++ [(H.size, .inl (cA, n.toNatClampNeg, .inr (.inr (.inr (.inr (fun _ => none))))))]) (tys ++ [(cA, .object C)]) ?_ hl ⟨Nat.le_trans hS.1 (by omega), fun x h1 h2 => (o1 x (Nat.lt_of_lt_of_le h1 hS.1)).trans (hS.2.1 x h1 h2), hS.2.2⟩
      · dsimp only at hgo
        rw [e9, e8, ← hz] at hgo
        rw [← hz]
        exact hgo
      · refine hr.push n.toNatClampNeg (hA _ hS.1) ?_ ⟨mi_fresh hE hS, fun o9 h9 => by cases h9⟩ ⟨cA, _, rfl, by simp, rfl, Or.inr (Or.inr ⟨⟨C, rfl⟩, _, rfl, fun j w hj => by cases hj; rfl⟩)⟩ ?_ z1 o1
        · refine hr.1.app ⟨hr.1.1, fun k x hx9 => ?_⟩
          have hz9 : k < 1 := (List.getElem?_eq_some_iff.mp hx9).1
          rw [show k = 0 by omega] at hx9
          cases hx9
          exact ⟨hAr, kA, comp, f2, f3, f4, f1⟩
        · show H1[H.size]? = some (vp_cell _ _)
          rw [e1]
          rfl
  · cases h
def o_new (ci N : Nat) (ds : List Value) : mi_O := fun S => some (S.1 + 3, S.2.1, .ref S.2.2.2.2.1 :: S.2.2.1, va_up S.2.2.2.1 S.2.2.2.2.1 (some (.inr (ci, fun k => ds[k]?))), S.2.2.2.2.1 + 1, S.2.2.2.2.2 + N)
theorem sm_new {g : xe_G} {own : String} {cc : ByteArray} {nL : Nat} {ini : Bool} {pc : Nat} {ci i N : Nat} {C : String} {T : u_T} {ty : Nat → FieldType} {ds : List Value} (hci : ci < 100) (hc0 : vwCl[ci]? = some (C, T, N)) (hin : ∀ w ∈ u_ws C T N, w ∈ bg) (hty : ∀ k, k < N → parseFieldDescriptor (T k).2.2.1 = some (ty k)) (hcl : Cond.classLink own i C ∈ bg) (hin9 : Cond.instantiable C N ∈ bg) (hi9 : Cond.initialized C ∈ bg) (hfs : ∀ j, j < N → defaultValue (ty j) = vp_V ds j) (hdl : ds.length = N) (hd : decode cc pc = .ok (.new i, 3)) : mi_sim g own cc nL ini pc (o_new ci N ds) := by
  intro lv st M S' h
  cases h
  refine ⟨⟨Nat.le_succ _, Nat.le_add_right _ _⟩, ?_⟩
  intro D p l e R s m args below meth c A n0 s0 Q hc hn0 hs0 hR1 hR2 hW H locs ls ws tys hr hl hS
  obtain ⟨hx, hb, hml, hown, htb, hE, hini, hA, hK0, hfr, hlo⟩ := hc
  dsimp only at hR1 hR2 hn0 hs0
  have hz := hr.2.2.2.1
  have e9 : M.2.1 + 1 - n0 = (M.2.1 - n0) + 1 := by omega
  have e8 : M.2.2 + N - s0 = (M.2.2 - s0) + N := by omega
  have hKn := hr.1.1 ci _ hc0
  refine W.newcK hx hb hown (htb _ hcl) (htb _ hin9) (htb _ hi9) rfl hd (by rw [← e9]; exact hR1) (by rw [← e8]; exact hR2) hKn.2.1 rfl fun H1 kC hkC e1 z1 o1 => ?_
  have hgo := hW H1 locs ls (ws ++ [(H.size, .inr (ci, ds))]) (tys ++ []) ?_ hl ⟨Nat.le_trans hS.1 (by omega), fun x h1 h2 => (o1 x (Nat.lt_of_lt_of_le h1 hS.1)).trans (hS.2.1 x h1 h2), hS.2.2⟩
  · dsimp only at hgo
    rw [e9, e8, ← hz] at hgo
    show W p l e R s m args below meth c H1 locs (M.2.1 - n0 + 1) (M.2.2 - s0 + N) Q (F0 m (pc + 3) ls (.ref H.size :: st))
    rw [← hz]
    exact hgo
  · refine hr.push N (hA _ hS.1) (by rw [List.append_nil]; exact hr.1) ⟨mi_fresh hE hS, fun o9 h9 => by cases h9; exact hci⟩ ⟨ds, rfl, ?_, fun k v hv => hv⟩ ⟨_, hc0, (u_born ty htb hin hKn hkC e1 hty).to hfs⟩ z1 o1
    unfold mi_n
    rw [hc0]
    exact hdl
def o_drop (n : Nat) : mi_O := fun S => match S.2.2.1 with
  | .ref _ :: st => if (st.map fun v => v.category).sum ≤ 8 then some (S.1 + n, S.2.1, st, S.2.2.2) else none
  | _ => none
theorem sm_obj {g : xe_G} {own : String} {cc : ByteArray} {nL : Nat} {ini : Bool} {pc : Nat} {i : Nat} (h1 : Cond.methodLink own i Lib.objectInit ∈ bg) (h2 : Cond.instanceMethod Lib.objectInit ∈ bg) (h3 : Cond.code Lib.objectInit ⟨#[0xb1]⟩ 1 none ∈ bg) (hd : decode cc pc = .ok (.invokespecial i, 3)) : mi_ps g own cc nL ini pc (o_drop 3) := by
  intro lv st M S' h
  unfold o_drop at h
  dsimp only at h
  split at h
  · split at h
    · rename_i hs9
      cases h
      refine ⟨rfl, rfl, ?_⟩
      intro D p l e R s m args below meth c A Q H locs ls cells slots ws tys hc hr hl hS hR1 hR2 k
      obtain ⟨hx, hb, hml, hown, htb, hE, hini, hA, hK0, hfr, hlo⟩ := hc
      exact W.objInit hx hb hown (htb _ h1) (htb _ h2) (htb _ h3) rfl (by rw [hml]; exact hl.1) rfl hd (by omega) (by show 2 * 0 + _ + 12 ≤ _; omega) k
    · cases h
  · cases h
theorem sm_nob {g : xe_G} {own : String} {cc : ByteArray} {nL : Nat} {ini : Bool} {pc : Nat} {i : Nat} (hw : Cond.fieldLink own i "ClassGate" "NO_BYTES" "[B" ∈ bg) (hd : decode cc pc = .ok (.getstatic i, 3)) : mi_ps g own cc nL ini pc (o_push (.ref g.1) 3) := by
  intro lv st M S' h
  cases h
  refine ⟨rfl, rfl, ?_⟩
  intro D p l e R s m args below meth c A Q H locs ls cells slots ws tys hc hr hl hS hR1 hR2 k
  obtain ⟨hx, hb, hml, hown, htb, hE, hini, hA, hK0, hfr, hlo⟩ := hc
  exact va_gets hx hb hE.1 hS hown (htb _ hw) (fun _ h9 => h9) hd k
theorem sm_putF {g : xe_G} {own : String} {cc : ByteArray} {nL : Nat} {ini : Bool} {pc : Nat} {ci k i N : Nat} {C : String} {T : u_T} {ty0 : Nat → FieldType} {ty : FieldType} (hci : ci < 100) (hc0 : vwCl[ci]? = some (C, T, N)) (hin : ∀ w ∈ u_ws C T N, w ∈ bg) (hty : ∀ k, k < N → parseFieldDescriptor (T k).2.2.1 = some (ty0 k)) (hnm : ∀ a, a < N → ∀ b, b < N → a ≠ b → (T a).2.1 ≠ (T b).2.1) (hk : k < N) (hfin : (T k).2.2.2 = true) (hin2 : ini = true) (hdecl : (T k).1 = own) (hd0 : parseFieldDescriptor (T k).2.2.1 = some ty) (hw : Cond.fieldLink own i (T k).1 (T k).2.1 (T k).2.2.1 ∈ bg) (hd : decode cc pc = .ok (.putfield i, 3)) : mi_sim g own cc nL ini pc (o_put ci k ty) := by
  intro lv st M S' h
  unfold o_put at h
  dsimp only at h
  split at h
  · rename_i v a rest
    split at h
    · rename_i o hM
      split at h
      · rename_i hco
        cases h
        refine ⟨⟨Nat.le_refl _, Nat.le_refl _⟩, ?_⟩
        intro D p l e R s m args below meth c A n0 s0 Q hc hn0 hs0 hR1 hR2 hW H locs ls ws tys hr hl hS
        obtain ⟨hx, hb, hml, hown, htb, hE, hini, hA, hK0, hfr, hlo⟩ := hc
        obtain ⟨rfl, hfit⟩ := hco
        obtain ⟨q0, fs, he, hfl, hff, hwr⟩ := mi_obj hr hci hM
        obtain ⟨hn, hft⟩ := mi_fit_ok hfit
        have hl9 : k < fs.length := by
          rw [hfl]
          unfold mi_n
          rw [hc0]
          exact hk
        have hap := va_apart (own := own) (D := D) htb hin ty0 hty hnm hr.1 hc0
        obtain ⟨r, h1, cell, q1, q2, q3, q4⟩ := hr.2.1 q0 _ he
        have hr9 : r = (C, T, N) := Option.some.inj (h1.symm.trans hc0)
        subst hr9
        obtain ⟨hS9, hfc, kC, hkC, hkind⟩ := hr.1.1 o.1 _ hc0
        obtain ⟨cf, kf, fi, f, hi, hsl⟩ := hS9 k hk
        have hlay := htb _ (hin _ (u_in_lay hk))
        unfold u_lay at hlay
        rw [if_pos hfin] at hlay
        have hst := (u_facts hfc hkC (u_lays htb hin hk) hi).1
        have hcf : m.cls = cf := by
          obtain ⟨_, _, c', _, _, _, -, -, hf', -, -, -, hown2, -⟩ := Cond.laysFinal_spec hlay
          have e1 : c' = cf := by have := hi.symm.trans hf'; simp at this; exact this.1.symm
          rw [hdecl] at hown2
          rw [← e1]; exact Option.some.inj (hown.symm.trans hown2)
        have h6 := u_fits hfc hkC hkind (Or.inr hlay) hi hd0 hn hft
        refine W.putFinK hx hb hown (htb _ hw) hi hst hcf (hini hin2) (by rw [q2]; exact h6) q1 q3 (by rw [hsl]; exact k2_hasslot (q4 k hk)) rfl rfl hd fun H' e1 e2 e3 => ?_
        rw [hsl] at e1 ⊢
        have hA9 : A a := hr.2.2.1.2 q0 _ he
        exact hW H' _ ls (ws.set q0 (a, .inr (o.1, fs.set k v))) tys (hr.put (c' := .inr (o.1, va_up o.2 k (some v))) he ⟨hwr.1, fun o9 h9 => by cases h9; exact hwr.2 o rfl⟩ ⟨fs.set k v, rfl, by rw [List.length_set]; exact hfl, mi_put_fs hl9 hff⟩ ⟨_, hc0, t_OB.to (V := updV (vp_V fs) k v) ⟨_, e1, q2, q3, t_set q4 hap hk v⟩ (fun j _ => vp_updV_set hl9 v j)⟩ e2 e3) hl (hS.put e2 e3 hA9)
      · cases h
    · cases h
  · cases h
theorem sm_ldcS {g : xe_G} {own : String} {cc : ByteArray} {nL : Nat} {ini : Bool} {pc : Nat} {i k9 : Nat} (hk : k9 < xe_N) (h1 : (xe_lt k9).1 = own) (h2 : (xe_lt k9).2.1 = i) (hd : decode cc pc = .ok (.ldc i, 2)) : mi_ps g own cc nL ini pc (o_push (.ref (g.2.1 k9)) 2) := by
  intro lv st M S' h
  cases h
  refine ⟨rfl, rfl, ?_⟩
  intro D p l e R s m args below meth c A Q H locs ls cells slots ws tys hc hr hl hS hR1 hR2 k
  obtain ⟨hx, hb, hml, hown, htb, hE, hini, hA, hK0, hfr, hlo⟩ := hc
  have h9 := (hE.2.2.2.2.2.2.1 k9 hk).1
  rw [h1, h2] at h9
  exact va_ldcS hx hb hown h9 hd k
end MIQ
end
section
/-! returns, calls, the whole machine -/
section MIZ
def r_int (chk : Int32 → Bool) : List Value → Option (Option Value) := fun st => match st with
  | [.int v] => if chk v = true then some (some (.int v)) else none
  | _ => none
def r_long : List Value → Option (Option Value) := fun st => match st with
  | [.long v] => some (some (.long v))
  | _ => none
def r_ref : List Value → Option (Option Value) := fun st => match st with
  | [.ref a] => some (some (.ref a))
  | [.null] => some (some .null)
  | _ => none
def r_void : List Value → Option (Option Value) := fun st => match st with
  | [] => some none
  | _ => none
def mi_simr (cc : ByteArray) (ret : Option FieldType) (pc : Nat) (f : List Value → Option (Option Value)) : Prop :=
  ∀ st v, f st = some v → ∀ (p : Program) (l : Launch) (e : Env) (R : Room) (s : State) (m : MethodId) (args : Array Value) (below : List Frame) (meth : Method) (c : Code) (H : Heap) (locs : List Loc) (ls : Array Slot) (cells slots : Nat) (Qc : Array Value → State → Outcome → State → Prop) (free : Addr → Prop),
    p.tables.exec = Jvm.exec → c.code = cc → meth.sig.returnType = ret → meth.locks = false → (∀ t : State, t.heap = H → s.WarmedH t.vm → Qc args s (.returned v) t) → (∀ q ∈ locs, free q.base) →
    W p l e R s m args below meth c H locs cells slots (MQ below Qc args s cells slots free) (F0 m pc ls st)
theorem sr_int {cc : ByteArray} {pc : Nat} (hd : decode cc pc = .ok (.ireturn, 1)) : mi_simr cc (some .int) pc (r_int (fun _ => true)) := by
  intro st v h p l e R s m args below meth c H locs ls cells slots Qc free hx hb hr hlk hq hf
  unfold r_int at h
  split at h
  · cases h
    exact W.iret hx hb hr hq hf hd hlk
  · cases h
theorem sr_nar {cc : ByteArray} {pc : Nat} {ty : FieldType} {chk : Int32 → Bool} (hn : ∀ v, chk v = true → narrow ty (.int v) = .int v) (hd : decode cc pc = .ok (.ireturn, 1)) : mi_simr cc (some ty) pc (r_int chk) := by
  intro st v h p l e R s m args below meth c H locs ls cells slots Qc free hx hb hr hlk hq hf
  unfold r_int at h
  split at h
  · split at h
    · rename_i hc
      cases h
      exact W.zret hx hb hr (hn _ hc) hq hf hd hlk
    · cases h
  · cases h
theorem sr_long {cc : ByteArray} {pc : Nat} (hd : decode cc pc = .ok (.lreturn, 1)) : mi_simr cc (some .long) pc r_long := by
  intro st v h p l e R s m args below meth c H locs ls cells slots Qc free hx hb hr hlk hq hf
  unfold r_long at h
  split at h
  · cases h
    exact W.lret hx hb hr hq hf hd hlk
  · cases h
theorem sr_ref {cc : ByteArray} {pc : Nat} {rt : FieldType} (hrt : (∃ n, rt = .object n) ∨ ∃ t, rt = .array t) (hd : decode cc pc = .ok (.areturn, 1)) : mi_simr cc (some rt) pc r_ref := by
  intro st v h p l e R s m args below meth c H locs ls cells slots Qc free hx hb hr hlk hq hf
  unfold r_ref at h
  split at h
  · cases h
    exact W.aret hx hb hr hrt (Or.inr ⟨_, rfl⟩) hq hf hd hlk
  · cases h
    exact W.aret hx hb hr hrt (Or.inl rfl) hq hf hd hlk
  · cases h
theorem sr_void {cc : ByteArray} {pc : Nat} (hd : decode cc pc = .ok (.return_, 1)) : mi_simr cc none pc r_void := by
  intro st v h p l e R s m args below meth c H locs ls cells slots Qc free hx hb hr hlk hq hf
  unfold r_void at h
  split at h
  · cases h
    exact W.vret hx hb hr hq hf hd hlk
  · cases h
/-- a method: its name, its bytes, its locals, what it answers -/
abbrev mi_I : Type := MethodName × ByteArray × Nat × Option FieldType
def mi_hd (y : MethodName) (n : Nat) : Prop := y.cls ≠ "java/lang/invoke/MethodHandle" ∧ y.cls ≠ "java/lang/invoke/VarHandle" ∧ (parseMethodDescriptor y.desc).map (fun d => d.parameters.length) = some n
def mi_cal (own : String) (cc : ByteArray) (pc : Nat) (q : mi_I) (na : Nat) (k : Option Nat) : Prop :=
  q.2.2.1 ≤ 21 ∧ Cond.initialized q.1.cls ∈ bg ∧ Cond.code q.1 q.2.1 q.2.2.1 q.2.2.2 ∈ bg ∧ ∃ i n, mi_hd q.1 n ∧ Cond.methodLink own i q.1 ∈ bg ∧
    ((decode cc pc = .ok (.invokestatic i, 3) ∧ k = none ∧ na = n ∧ Cond.static q.1 ∈ bg) ∨
     (na = n + 1 ∧ Cond.instanceMethod q.1 ∈ bg ∧ ∃ ci r, k = some ci ∧ ci < 100 ∧ vwCl[ci]? = some r ∧
       ((decode cc pc = .ok (.invokevirtual i, 3) ∧ Cond.selects r.1 q.1 q.1 ∈ bg) ∨ (decode cc pc = .ok (.invokespecial i, 3) ∧ q.1.name = "<init>" ∧ q.2.2.2 = none))))
def mi_met (l : Launch) (g : xe_G) (q : mi_I) (d : Nat) (a : List Value) (M : mi_H) (v : Option Value) (M' : mi_H) : Prop :=
  M.2.1 ≤ M'.2.1 ∧ M.2.2 ≤ M'.2.2 ∧ ∀ D : va_G, Met l q.1 (.code q.1 q.2.1 q.2.2.1 q.2.2.2 :: bg) (mi_rm d (M'.2.1 - M.2.1) (M'.2.2 - M.2.2)) (mi_Pre g D M a) (mi_Q g D M v M') (M'.2.1 - M.2.1) (M'.2.2 - M.2.2) (mi_A g M)
theorem mi_blind {g : xe_G} {D : va_G} {M : mi_H} {av : List Value} : FrameBlind (mi_Pre g D M av) := by
  intro a U g9 mk q
  obtain ⟨h0, ws, tys, ⟨h1, h2⟩, h3⟩ := q
  exact ⟨h0, ws, tys, ⟨va_K.moved (u := U) (U := U.calling g9 mk a) (Vm.Alike.refl U.vm) h1, h2⟩, xe_ok.1 _ U (U.calling g9 mk a) _ (State.WarmedH.refl U) h3⟩
theorem mi_A_sub {g : xe_G} {D : va_G} {A : Nat → Prop} {s : State} {M : mi_H} {H : Heap} {locs : List Loc} {ws : va_W} {tys : List (ClassId × FieldType)} (hr : mi_rel g D A s M H ws tys) (hS : va_S A s.heap H locs) (hA : ∀ q, s.heap.size ≤ q → A q) : ∀ q, mi_A g M q → A q := by
  intro q h
  rcases h with ⟨c, h1, h2⟩ | h
  · rcases hr.2.2.2.2.1 q c h1 with ⟨-, k, e, hk, -⟩ | ⟨h3, -⟩ | ⟨k9, f9, -, -, h9⟩
    · exact hr.2.2.1.2 k _ hk
    · exact absurd h3 h2.1
    · exact absurd (h2.2 _ h9) (by show ¬ 100 + k9 < 100; omega)
  · rw [← hr.2.2.2.1] at h
    exact hA q (Nat.le_trans hS.1 h)
theorem mi_enter {g : xe_G} {D : va_G} {A : Nat → Prop} {s : State} {M : mi_H} {H : Heap} {locs : List Loc} {ws : va_W} {tys : List (ClassId × FieldType)} {av : List Value} (hr : mi_rel g D A s M H ws tys) (hS : va_S A s.heap H locs) (hA : ∀ q, s.heap.size ≤ q → A q) (hE : xe_E g A s s.heap) :
    ∀ U : State, U.heap = H → s.WarmedH U.vm → mi_Pre g D M av av.toArray U := by
  intro U hU hW
  obtain ⟨h1, h2, h3, h4, h5, h6⟩ := id hr
  refine ⟨rfl, ws, tys, ⟨va_K.moved hW.alike h1, by rw [hU]; exact h2, h3.weaken (fun _ _ _ _ => trivial), by rw [hU]; exact h4, h5, h6⟩, ?_⟩
  rw [hU]
  exact xe_ok.1 _ _ _ _ hW (xe_ok.2.2 _ _ _ _ (mi_A_sub hr hS hA) (xe_ok.2.1 _ _ _ _ hS.2.1 hE))
section MIV
variable {p : Program} {l : Launch} {e : Env} {R : Room} {s : State} {m : MethodId} {args : Array Value} {below : List Frame} {meth : Method} {c : Code} {H : Heap} {locs : List Loc} {cells slots : Nat} {Q : State → Prop} {pc : Nat} {ls : Array Slot} {rest st0 : List Value} {a : Array Value} {mc ms : Nat}
theorem mi_goW {g : xe_G} {D : va_G} {A : Nat → Prop} {M M' : mi_H} {v : Option Value} {ws : va_W} {tys : List (ClassId × FieldType)} (hr : va_Run p l e R s m args below meth c H locs cells slots mc ms (F0 m pc ls st0) rest (mi_Q g D M v M' a) (mi_A g M))
    (hrel : mi_rel g D A s M H ws tys) (hS : va_S A s.heap H locs) (hA : ∀ q, s.heap.size ≤ q → A q)
    (kk : ∀ (H1 : Heap) (locs1 : List Loc) (ws1 : va_W) (tys1 : List (ClassId × FieldType)), mi_rel g D A s M' H1 ws1 tys1 → va_S A s.heap H1 locs1 → W p l e R s m args below meth c H1 locs1 (cells + mc) (slots + ms) Q (F0 m (pc + 3) ls (v.toList ++ rest))) : W p l e R s m args below meth c H locs cells slots Q (F0 m pc ls st0) := by
  have hF := mi_A_sub hrel hS hA
  intro T hT X
  obtain ⟨v', st₀, t, T', L, h0, X', hL, e1, e2, ⟨⟨hv, ws1, tys1, hrel1⟩, hz, hk⟩, st⟩ := hr T hT X
  cases hv
  rw [h0] at hz hk
  obtain ⟨g1, g2, g3, g4, g5, g6⟩ := hrel1
  obtain ⟨t2, a1, b1⟩ := kk T'.heap (locs ++ L) ws1 tys1 ⟨va_K.moved (Vm.Alike.symm (by rw [← e2]; exact X'.warmed.alike)) g1, by rw [e1]; exact g2, g3.weaken (fun k q _ h => hF q.1 h), by rw [e1]; exact g4, g5, g6⟩
    ⟨Nat.le_trans hS.1 (by rw [e1]; exact hz), fun q h1 h2 => by rw [e1, hk q (Nat.lt_of_lt_of_le h1 hS.1) (fun z => h2 (hF q z))]; exact hS.2.1 q h1 h2, fun q hq => by
      rcases List.mem_append.mp hq with h | h
      · exact hS.2.2 q h
      · exact hF _ (hL q h)⟩ T' rfl X'
  exact ⟨t2, st t2 a1, b1⟩
end MIV
theorem mi_sub3 {a b n : Nat} (h1 : n ≤ a) (h2 : a ≤ b) : b - n = (a - n) + (b - a) := by omega
theorem mi_call {own : String} {cc : ByteArray} {nL : Nat} {ini : Bool} {g : xe_G} {D : va_G} {p : Program} {l : Launch} {e : Env} {R : Room} {s : State} {m : MethodId} {args : Array Value} {below : List Frame} {meth : Method} {c : Code} {A : Nat → Prop} {n0 s0 d : Nat} {Q : State → Prop} {q : mi_I} {na : Nat} {k : Option Nat} {S : mi_S} {v : Option Value} {M' : mi_H}
    (hc : mi_cx own cc nL ini g D p e R s m args meth c A) (hcal : mi_cal own cc S.1 q na k) (hok : mi_okc k na S = true) (hM : mi_met l g q d (S.2.2.1.take na).reverse S.2.2.2 v M') (hfr : R.frames = d + 9) (hlo : R.locals = 40 * (d + 1) + 1000)
    (hn0 : n0 ≤ S.2.2.2.2.1) (hs0 : s0 ≤ S.2.2.2.2.2) (hR1 : M'.2.1 - n0 ≤ R.cells) (hR2 : M'.2.2 - s0 ≤ R.slots)
    (hW : mi_W nL g D p l e R s m args below meth c A n0 s0 Q (S.1 + 3, S.2.1, v.toList ++ S.2.2.1.drop na, M')) : mi_W nL g D p l e R s m args below meth c A n0 s0 Q S := by
  obtain ⟨pc, lv, st, M⟩ := S
  dsimp only at hM hn0 hs0 hok hcal hW
  intro H locs ls ws tys hr hl hS
  dsimp only at hr hl ⊢
  obtain ⟨hx, hb, hml, hown, htb, hE, hini, hA, hK0, -, -⟩ := hc
  obtain ⟨m1, m2, hMet⟩ := hM
  have hMet := hMet D
  obtain ⟨hL21, hin, hcode, i, n, hhd, hlink, hcase⟩ := hcal
  have hgo := fun H1 locs1 ws1 tys1 (h1 : mi_rel g D A s M' H1 ws1 tys1) (h2 : va_S A s.heap H1 locs1) => hW H1 locs1 ls ws1 tys1 h1 hl h2
  dsimp only at hgo
  have e1 : M'.2.1 - n0 = (M.2.1 - n0) + (M'.2.1 - M.2.1) := mi_sub3 hn0 m1
  have e2 : M'.2.2 - s0 = (M.2.2 - s0) + (M'.2.2 - M.2.2) := mi_sub3 hs0 m2
  rw [e1, e2] at hgo
  rw [e1] at hR1
  rw [e2] at hR2
  have hroom : (mi_rm d (M'.2.1 - M.2.1) (M'.2.2 - M.2.2)).frames + 1 ≤ R.frames ∧ 8 + (q.2.2.1 + 11) + (mi_rm d (M'.2.1 - M.2.1) (M'.2.2 - M.2.2)).locals ≤ R.locals := by
    rw [hfr, hlo]
    constructor
    · show d + 8 + 1 ≤ d + 9
      omega
    · show 8 + (q.2.2.1 + 11) + (40 * d + 1000) ≤ 40 * (d + 1) + 1000
      omega
  unfold mi_okc at hok
  rw [Bool.and_eq_true, Bool.and_eq_true] at hok
  obtain ⟨⟨ok1, ok2⟩, ok3⟩ := hok
  have ok1 : na ≤ st.length := by simpa using ok1
  have ok2 : (((st.drop na)).map fun v => v.category).sum ≤ 8 := by simpa using ok2
  have hst : st = (st.take na).reverse.reverse ++ st.drop na := by rw [List.reverse_reverse, List.take_append_drop]
  rcases hcase with ⟨hd, hk, hna, hstat⟩ | ⟨hna, hinst, ci, r, hk, hci, hr0, hd⟩
  · refine mi_goW (va_runS (As := (st.take na).reverse) (rest := st.drop na) ⟨hx, hb, hml, hown, htb⟩ hMet (bg_S n htb hlink hstat hin hcode rfl rfl hhd hroom) ⟨mi_blind, mi_enter hr hS hA hE⟩ rfl (by rw [List.length_reverse, List.length_take]; omega) hl.1 hst (lv_room ok2) hd ⟨hR1, hR2⟩) hr hS hA hgo
  · subst hk
    dsimp only at ok3
    split at ok3
    · rename_i b As hrev
      split at ok3
      · rename_i c9 f9 hM9
        have hc9 : c9 = ci := by simpa using ok3
        subst hc9
        have hlen : As.length = n := by
          have h7 := congrArg List.length hrev
          rw [List.length_reverse, List.length_take] at h7
          simp at h7
          omega
        rw [hrev] at hMet hst
        have hst' : st = As.reverse ++ .ref b :: st.drop na := by
          rw [List.reverse_cons, List.append_assoc] at hst
          exact hst
        obtain ⟨q0, fs, hq0, -⟩ := mi_obj hr hci hM9
        rcases hd with ⟨hd, hsel⟩ | ⟨hd, hnm, hret⟩
        · refine mi_goW (va_runV (As := As) (rest := st.drop na) ⟨hx, hb, hml, hown, htb⟩ hMet (bg_V n htb hlink hinst hsel hin hcode rfl rfl hhd hroom) ⟨mi_blind, va_recv hr.1 hr.2.1 hr0 hq0, mi_enter hr hS hA hE⟩ rfl hlen hl.1 hst' (lv_room ok2) hd ⟨hR1, hR2⟩) hr hS hA hgo
        · obtain ⟨q1, q2, q3, q4⟩ := q
          dsimp only at hret hMet hcode hlink hinst hin hhd hroom hnm
          subst hret
          refine mi_goW (va_runI (As := As) (rest := st.drop na) ⟨hx, hb, hml, hown, htb⟩ hMet (bg_I n htb hlink hinst hin hcode rfl rfl hhd hroom hnm) ⟨mi_blind, mi_enter hr hS hA hE⟩ rfl hlen hl.1 hst' (lv_room ok2) hd ⟨hR1, hR2⟩) hr hS hA hgo
      · cases ok3
    · cases ok3
def mi_ent (g : xe_G) (I : Nat → mi_I) (q : mi_I) (pc : Nat) (e : mi_N) : Prop := match e with
  | .inl o => mi_sim g q.1.cls q.2.1 q.2.2.1 (q.1.name == "<init>") pc o
  | .inr (.inl c) => mi_cal q.1.cls q.2.1 pc (I c.1) c.2.1 c.2.2
  | .inr (.inr f) => mi_simr q.2.1 q.2.2.2 pc f
def mi_meth (g : xe_G) (I : Nat → mi_I) (q : mi_I) (b : Nat × mi_B) : Prop := b.1 = q.2.2.1 ∧ plainName q.1.cls = true ∧ ∀ pc e, b.2.1 pc = some e → mi_ent g I q pc e
theorem mi_loop_W {l : Launch} {g : xe_G} {I : Nat → mi_I} {q : mi_I} {b : Nat × mi_B} {d : Nat} {call : Nat → List Value → mi_H → Option mi_R} (hb0 : mi_meth g I q b) (hcall : ∀ y a M r, call y a M = some r → mi_met l g (I y) d a M r.1 r.2) :
    ∀ (n : Nat) (S : mi_S) (r : mi_R), mi_loop b.2 call n S = some r → (S.2.2.2.2.1 ≤ r.2.2.1 ∧ S.2.2.2.2.2 ≤ r.2.2.2) ∧
      ∀ (D : va_G) (p : Program) (e : Env) (R : Room) (s : State) (m : MethodId) (args : Array Value) (below : List Frame) (meth : Method) (c : Code) (M0 : mi_H), mi_cx q.1.cls q.2.1 q.2.2.1 (q.1.name == "<init>") g D p e R s m args meth c (mi_A g M0) → R.frames = d + 9 → R.locals = 40 * (d + 1) + 1000 → meth.sig.returnType = q.2.2.2 → meth.locks = false →
        M0.2.1 ≤ S.2.2.2.2.1 → M0.2.2 ≤ S.2.2.2.2.2 → R.cells = r.2.2.1 - M0.2.1 → R.slots = r.2.2.2 - M0.2.2 → mi_W q.2.2.1 g D p l e R s m args below meth c (mi_A g M0) M0.2.1 M0.2.2 (MQ below (mi_Q g D M0 r.1 r.2) args s (r.2.2.1 - M0.2.1) (r.2.2.2 - M0.2.2) (mi_A g M0)) S := by
  intro n
  induction n with
  | zero => intro S r h; cases h
  | succ n ih =>
    intro S r h
    obtain ⟨pc, lv, st, M⟩ := S
    unfold mi_loop at h
    dsimp only at h
    split at h
    · rename_i o hpc
      split at h
      · rename_i S' ho
        have hent : mi_sim g q.1.cls q.2.1 q.2.2.1 (q.1.name == "<init>") pc o := hb0.2.2 _ _ hpc
        obtain ⟨⟨g1, g2⟩, hsim⟩ := hent lv st M S' ho
        obtain ⟨⟨g3, g4⟩, hgo⟩ := ih _ r h
        rw [mi_nk_H.1] at g3 g4
        refine ⟨⟨Nat.le_trans g1 g3, Nat.le_trans g2 g4⟩, ?_⟩
        intro D p e R s m args below meth c M0 hc hfr hlo hret hlk hm0 hs0 hR1 hR2
        dsimp only at hm0 hs0
        have hw := hgo D p e R s m args below meth c M0 hc hfr hlo hret hlk (by rw [mi_nk_H.1]; exact Nat.le_trans hm0 g1) (by rw [mi_nk_H.1]; exact Nat.le_trans hs0 g2) hR1 hR2
        exact hsim D p l e R s m args below meth c (mi_A g M0) M0.2.1 M0.2.2 _ hc hm0 hs0 (by rw [hR1]; omega) (by rw [hR2]; omega) (mi_nk_W hw)
      · cases h
    · rename_i c9 hpc
      split at h
      · rename_i hok
        split at h
        · rename_i r9 hcl
          have hcal : mi_cal q.1.cls q.2.1 pc (I c9.1) c9.2.1 c9.2.2 := hb0.2.2 _ _ hpc
          have hmet := hcall _ _ _ _ hcl
          have g1 : M.2.1 ≤ r9.2.2.1 := hmet.1
          have g2 : M.2.2 ≤ r9.2.2.2 := hmet.2.1
          obtain ⟨⟨g3, g4⟩, hgo⟩ := ih _ r h
          rw [mi_nk_H.1] at g3 g4
          dsimp only at g3 g4
          refine ⟨⟨Nat.le_trans g1 g3, Nat.le_trans g2 g4⟩, ?_⟩
          intro D p e R s m args below meth c M0 hc hfr hlo hret hlk hm0 hs0 hR1 hR2
          dsimp only at hm0 hs0
          have hw := hgo D p e R s m args below meth c M0 hc hfr hlo hret hlk (by rw [mi_nk_H.1]; exact Nat.le_trans hm0 g1) (by rw [mi_nk_H.1]; exact Nat.le_trans hs0 g2) hR1 hR2
          exact mi_call (S := (pc, lv, st, M)) hc hcal hok hmet hfr hlo hm0 hs0 (by rw [hR1]; omega) (by rw [hR2]; omega) (mi_nk_W hw)
        · cases h
      · cases h
    · rename_i f hpc
      cases hf : f st with
      | none => rw [hf] at h; cases h
      | some v =>
        rw [hf] at h
        cases h
        refine ⟨⟨Nat.le_refl _, Nat.le_refl _⟩, ?_⟩
        intro D p e R s m args below meth c M0 hc hfr hlo hret hlk hm0 hs0 hR1 hR2
        intro H locs ls ws tys hr hl hS
        have hsr : mi_simr q.2.1 q.2.2.2 pc f := hb0.2.2 _ _ hpc
        dsimp only at hr hl ⊢
        exact hsr st v hf p l e R s m args below meth c H locs ls _ _ _ _ hc.1 hc.2.1 hret hlk (fun t ht hW => ⟨⟨rfl, ws, tys, va_K.moved hW.alike hr.1, by rw [ht]; exact hr.2.1, hr.2.2.1, by rw [ht]; exact hr.2.2.2.1, hr.2.2.2.2⟩, hS.F ht⟩) hS.2.2
    · cases h
theorem mi_sound {l : Launch} {g : xe_G} {I : Nat → mi_I} {T : Nat → Option (Nat × mi_B)} {n : Nat} (hT : ∀ y b, T y = some b → mi_meth g I (I y) b) : ∀ (d y : Nat) (a : List Value) (M : mi_H) (r : mi_R), mi_run T n d y a M = some r → mi_met l g (I y) d a M r.1 r.2 := by
  intro d
  induction d with
  | zero => intro y a M r h; cases h
  | succ d ih =>
    intro y a M r h
    unfold mi_run at h
    split at h
    · cases h
    · rename_i b hb
      split at h
      · rename_i hlen
        have hlen : (lg_sl a).length ≤ b.1 := by simpa using hlen
        have hm := hT y b hb
        obtain ⟨⟨g1, g2⟩, hW⟩ := mi_loop_W hm (fun y a M r h => ih y a M r h) n _ r h
        dsimp only at g1 g2
        refine ⟨g1, g2, fun D => ?_⟩
        generalize hq : I y = q at hm hW ⊢
        obtain ⟨q1, q2, q3, q4⟩ := q
        dsimp only at hW ⊢
        obtain ⟨hb1, hpl, -⟩ := hm
        dsimp only at hb1 hpl
        refine Met.ofW (cc := q2) (maxL := q3) (ret := q4) hpl rfl ?_
        intro p e s m args below meth c s₁ B hml hv
        obtain ⟨rfl, ws, tys, hr, hE⟩ := hv
        have hts := atoms_spec (ws := (Cond.code q1 q2 q3 q4 :: bg)) B.pre
        have htb : ∀ w ∈ bg, w.before _ s = true := fun w h => hts w (List.mem_cons_of_mem _ h)
        have hown : s.vm.findClass q1.cls = some m.cls := findClass_of_methodNamed B.named
        have hl := lv_entry a (n := q3) (by rw [← hb1]; exact hlen)
        rw [lg_entry_eq]
        have hA : ∀ x : Nat, s.heap.size ≤ x → mi_A g M x := fun x hx => Or.inr (by rw [← hr.2.2.2.1]; exact hx)
        have hw := hW D p e (mi_rm (d + 1) (r.2.2.1 - M.2.1) (r.2.2.2 - M.2.2)) s m a.toArray below meth c M ⟨B.exec, B.bytes, hml, hown, htb, hE, fun hi => ?_, hA, ⟨hr.1.1, fun k x hx => by cases hx⟩, by show 8 ≤ d + 1 + 8; omega, by show 1000 ≤ 40 * (d + 1) + 1000; omega⟩ (by show d + 1 + 8 = d + 9; omega) rfl B.returns B.notSynchronized (Nat.le_refl _) (Nat.le_refl _) rfl rfl
        · have hw2 := hw s.heap [] _ ws tys ⟨hr.1, hr.2.1, ⟨hr.2.2.1.1, fun k x hx => ?_⟩, hr.2.2.2⟩ hl va_S.rf
          · dsimp only at hw2
            rw [Nat.sub_self, Nat.sub_self] at hw2
            exact hw2
          · obtain ⟨c9, h1, h2⟩ := hr.2.2.2.2.2 k x.1 x.2 hx
            exact Or.inl ⟨c9, h1, h2⟩
        · have hnm := (name_of_methodNamed B.named B.method).1
          rw [hnm]
          simpa using hi
      · cases h
end MIZ
end
section
theorem bg_0 : (.code yX0_init cX0_init 3 none : Cond) ∈ bg := bgf (tb_2 _ (List.mem_of_getElem? (i := 227) (by rfl))) (by rfl)
theorem bg_1 : (.methodLink RX0 3 objectInit : Cond) ∈ bg := bgf (tb_2 _ (List.mem_of_getElem? (i := 228) (by decide +kernel))) (by rfl)
theorem bg_2 : (.code objectInit ⟨#[0xb1]⟩ 1 none : Cond) ∈ bg := bgf (tb_1 _ (List.mem_of_getElem? (i := 34) (by rfl))) (by rfl)
theorem bg_3 : (.instanceMethod objectInit : Cond) ∈ bg := bgf (tb_1 _ (List.mem_of_getElem? (i := 33) (by decide +kernel))) (by rfl)
theorem bg_4 : (.fieldLink RX0 9 "ClassGate$AttributeCheck" "file" "LClassGate$ClassFile;" : Cond) ∈ bg := bgf (tb_2 _ (List.mem_of_getElem? (i := 229) (by decide +kernel))) (by rfl)
theorem bg_5 : (.fieldLink RX0 15 "ClassGate$AttributeCheck" "verdict" "LClassGate$Verdict;" : Cond) ∈ bg := bgf (tb_2 _ (List.mem_of_getElem? (i := 232) (by decide +kernel))) (by rfl)
theorem bg_6 : (.fieldLink RX0 19 "ClassGate$ClassFile" "bytes" "LClassGate$Bytes;" : Cond) ∈ bg := bgf (tb_1 _ (List.mem_of_getElem? (i := 124) (by decide +kernel))) (by rfl)
theorem bg_7 : (.fieldLink RX0 25 "ClassGate$AttributeCheck" "bytes" "LClassGate$Bytes;" : Cond) ∈ bg := bgf (tb_2 _ (List.mem_of_getElem? (i := 230) (by decide +kernel))) (by rfl)
theorem bg_8 : (.fieldLink RX0 26 "ClassGate$ClassFile" "pool" "LClassGate$Pool;" : Cond) ∈ bg := bgf (tb_1 _ (List.mem_of_getElem? (i := 129) (by decide +kernel))) (by rfl)
theorem bg_9 : (.fieldLink RX0 30 "ClassGate$AttributeCheck" "pool" "LClassGate$Pool;" : Cond) ∈ bg := bgf (tb_2 _ (List.mem_of_getElem? (i := 231) (by decide +kernel))) (by rfl)
theorem bg_10 : (.code yX0_ofField cX0_ofField 5 (some .boolean) : Cond) ∈ bg := bgf (tb_4 _ (List.mem_of_getElem? (i := 3) (by rfl))) (by rfl)
theorem bg_11 : (.fieldLink RX0 31 "ClassGate$AttributeCheck" "seen" "I" : Cond) ∈ bg := bgf (tb_2 _ (List.mem_of_getElem? (i := 233) (by decide +kernel))) (by rfl)
theorem bg_12 : (.fieldLink RX0 35 "ClassGate$Member" "attributesAt" "I" : Cond) ∈ bg := bgf (tb_2 _ (List.mem_of_getElem? (i := 136) (by decide +kernel))) (by rfl)
theorem bg_13 : (.fieldLink RX0 40 "ClassGate$Member" "attributeCount" "I" : Cond) ∈ bg := bgf (tb_2 _ (List.mem_of_getElem? (i := 134) (by decide +kernel))) (by rfl)
theorem bg_14 : (.methodLink RX0 43 yX1_u2 : Cond) ∈ bg := bgf (tb_4 _ (List.mem_of_getElem? (i := 4) (by decide +kernel))) (by rfl)
theorem bg_15 : (.code yX1_u2 cX1_u2 2 (some .int) : Cond) ∈ bg := bgf (tb_2 _ (List.mem_of_getElem? (i := 33) (by rfl))) (by rfl)
theorem bg_16 : (.instanceMethod yX1_u2 : Cond) ∈ bg := bgf (tb_2 _ (List.mem_of_getElem? (i := 31) (by decide +kernel))) (by rfl)
theorem bg_17 : (.selects RX1 yX1_u2 yX1_u2 : Cond) ∈ bg := bgf (tb_2 _ (List.mem_of_getElem? (i := 32) (by decide +kernel))) (by rfl)
theorem bg_18 : (.initialized RX1 : Cond) ∈ bg := bgf (tb_1 _ (List.mem_of_getElem? (i := 16) (by decide +kernel))) (by rfl)
theorem bg_19 : (.methodLink RX0 51 yX7_textIs : Cond) ∈ bg := bgf (tb_4 _ (List.mem_of_getElem? (i := 6) (by decide +kernel))) (by rfl)
theorem bg_20 : (.code yX7_textIs cX7_textIs 4 (some .boolean) : Cond) ∈ bg := bgf (tb_3 _ (List.mem_of_getElem? (i := 116) (by rfl))) (by rfl)
theorem bg_21 : (.instanceMethod yX7_textIs : Cond) ∈ bg := bgf (tb_3 _ (List.mem_of_getElem? (i := 114) (by decide +kernel))) (by rfl)
theorem bg_22 : (.selects RX7 yX7_textIs yX7_textIs : Cond) ∈ bg := bgf (tb_3 _ (List.mem_of_getElem? (i := 115) (by decide +kernel))) (by rfl)
theorem bg_23 : (.initialized RX7 : Cond) ∈ bg := bgf (tb_1 _ (List.mem_of_getElem? (i := 17) (by decide +kernel))) (by rfl)
theorem bg_24 : (.methodLink RX0 57 yX0_isNew : Cond) ∈ bg := bgf (tb_4 _ (List.mem_of_getElem? (i := 7) (by decide +kernel))) (by rfl)
theorem bg_25 : (.code yX0_isNew cX0_isNew 3 (some .boolean) : Cond) ∈ bg := bgf (tb_4 _ (List.mem_of_getElem? (i := 10) (by rfl))) (by rfl)
theorem bg_26 : (.instanceMethod yX0_isNew : Cond) ∈ bg := bgf (tb_4 _ (List.mem_of_getElem? (i := 9) (by decide +kernel))) (by rfl)
theorem bg_27 : (.selects RX0 yX0_isNew yX0_isNew : Cond) ∈ bg := bgf (List.mem_of_getElem? (i := 24) (by decide +kernel)) (by rfl)
theorem bg_28 : (.initialized RX0 : Cond) ∈ bg := bgf (tb_1 _ (List.mem_of_getElem? (i := 22) (by decide +kernel))) (by rfl)
theorem bg_29 : (.methodLink RX0 61 yX0_behind : Cond) ∈ bg := bgf (tb_4 _ (List.mem_of_getElem? (i := 17) (by decide +kernel))) (by rfl)
theorem bg_30 : (.code yX0_behind cX0_behind 2 (some .int) : Cond) ∈ bg := bgf (tb_4 _ (List.mem_of_getElem? (i := 20) (by rfl))) (by rfl)
theorem bg_31 : (.instanceMethod yX0_behind : Cond) ∈ bg := bgf (tb_4 _ (List.mem_of_getElem? (i := 19) (by decide +kernel))) (by rfl)
theorem bg_32 : (.selects RX0 yX0_behind yX0_behind : Cond) ∈ bg := bgf (List.mem_of_getElem? (i := 26) (by decide +kernel)) (by rfl)
theorem bg_33 : (.methodLink RX0 64 yX0_formEnd : Cond) ∈ bg := bgf (tb_4 _ (List.mem_of_getElem? (i := 22) (by decide +kernel))) (by rfl)
theorem bg_34 : (.code yX0_formEnd cX0_formEnd 4 (some .int) : Cond) ∈ bg := bgf (tb_4 _ (List.mem_of_getElem? (i := 25) (by rfl))) (by rfl)
theorem bg_35 : (.instanceMethod yX0_formEnd : Cond) ∈ bg := bgf (tb_4 _ (List.mem_of_getElem? (i := 24) (by decide +kernel))) (by rfl)
theorem bg_36 : (.selects RX0 yX0_formEnd yX0_formEnd : Cond) ∈ bg := bgf (List.mem_of_getElem? (i := 27) (by decide +kernel)) (by rfl)
theorem bg_37 : (.methodLink RX0 68 yX10_wrong : Cond) ∈ bg := bgf (tb_4 _ (List.mem_of_getElem? (i := 12) (by decide +kernel))) (by rfl)
theorem bg_38 : (.code yX10_wrong cX10_wrong 3 (some .boolean) : Cond) ∈ bg := bgf (tb_2 _ (List.mem_of_getElem? (i := 25) (by rfl))) (by rfl)
theorem bg_39 : (.instanceMethod yX10_wrong : Cond) ∈ bg := bgf (tb_2 _ (List.mem_of_getElem? (i := 23) (by decide +kernel))) (by rfl)
theorem bg_40 : (.selects RX10 yX10_wrong yX10_wrong : Cond) ∈ bg := bgf (tb_2 _ (List.mem_of_getElem? (i := 24) (by decide +kernel))) (by rfl)
theorem bg_41 : (.initialized RX10 : Cond) ∈ bg := bgf (tb_1 _ (List.mem_of_getElem? (i := 18) (by decide +kernel))) (by rfl)
theorem bg_42 : (.methodLink RX0 73 yX6_has : Cond) ∈ bg := bgf (tb_4 _ (List.mem_of_getElem? (i := 43) (by decide +kernel))) (by rfl)
theorem bg_43 : (.code yX6_has cX6_has 2 (some .boolean) : Cond) ∈ bg := bgf (tb_4 _ (List.mem_of_getElem? (i := 46) (by rfl))) (by rfl)
theorem bg_44 : (.instanceMethod yX6_has : Cond) ∈ bg := bgf (tb_4 _ (List.mem_of_getElem? (i := 44) (by decide +kernel))) (by rfl)
theorem bg_45 : (.selects RX6 yX6_has yX6_has : Cond) ∈ bg := bgf (tb_4 _ (List.mem_of_getElem? (i := 45) (by decide +kernel))) (by rfl)
theorem bg_46 : (.initialized RX6 : Cond) ∈ bg := bgf (tb_1 _ (List.mem_of_getElem? (i := 20) (by decide +kernel))) (by rfl)
theorem bg_47 : (.fieldLink RX0 77 "ClassGate$Member" "constant" "I" : Cond) ∈ bg := bgf (tb_2 _ (List.mem_of_getElem? (i := 139) (by decide +kernel))) (by rfl)
theorem bg_48 : (.methodLink RX0 80 yX7_tagOf : Cond) ∈ bg := bgf (tb_4 _ (List.mem_of_getElem? (i := 11) (by decide +kernel))) (by rfl)
theorem bg_49 : (.code yX7_tagOf cX7_tagOf 2 (some .int) : Cond) ∈ bg := bgf (tb_2 _ (List.mem_of_getElem? (i := 92) (by rfl))) (by rfl)
theorem bg_50 : (.instanceMethod yX7_tagOf : Cond) ∈ bg := bgf (tb_2 _ (List.mem_of_getElem? (i := 90) (by decide +kernel))) (by rfl)
theorem bg_51 : (.selects RX7 yX7_tagOf yX7_tagOf : Cond) ∈ bg := bgf (tb_2 _ (List.mem_of_getElem? (i := 91) (by decide +kernel))) (by rfl)
theorem bg_52 : (.fieldLink RX0 83 "ClassGate$Member" "descriptor" "I" : Cond) ∈ bg := bgf (tb_2 _ (List.mem_of_getElem? (i := 130) (by decide +kernel))) (by rfl)
theorem bg_53 : (.methodLink RX0 86 yX0_constantTag : Cond) ∈ bg := bgf (tb_4 _ (List.mem_of_getElem? (i := 47) (by decide +kernel))) (by rfl)
theorem bg_54 : (.code yX0_constantTag cX0_constantTag 2 (some .int) : Cond) ∈ bg := bgf (tb_4 _ (List.mem_of_getElem? (i := 50) (by rfl))) (by rfl)
theorem bg_55 : (.instanceMethod yX0_constantTag : Cond) ∈ bg := bgf (tb_4 _ (List.mem_of_getElem? (i := 49) (by decide +kernel))) (by rfl)
theorem bg_56 : (.selects RX0 yX0_constantTag yX0_constantTag : Cond) ∈ bg := bgf (List.mem_of_getElem? (i := 31) (by decide +kernel)) (by rfl)
theorem bg_57 : (.methodLink RX0 89 yJ6_bitCount_0f7a4 : Cond) ∈ bg := bgf (tb_4 _ (List.mem_of_getElem? (i := 54) (by decide +kernel))) (by rfl)
theorem bg_58 : (.code yJ6_bitCount_0f7a4 cJ6_bitCount_0f7a4 1 (some .int) : Cond) ∈ bg := bgf (tb_3 _ (List.mem_of_getElem? (i := 229) (by rfl))) (by rfl)
theorem bg_59 : (.static yJ6_bitCount_0f7a4 : Cond) ∈ bg := bgf (tb_3 _ (List.mem_of_getElem? (i := 228) (by decide +kernel))) (by rfl)
theorem bg_60 : (.initialized RJ6 : Cond) ∈ bg := bgf (tb_1 _ (List.mem_of_getElem? (i := 24) (by decide +kernel))) (by rfl)
theorem bg_61 : (.fieldLink RX0 94 "ClassGate$Member" "known" "I" : Cond) ∈ bg := bgf (tb_2 _ (List.mem_of_getElem? (i := 137) (by decide +kernel))) (by rfl)
theorem bg_62 : (.code yX0_ofMethod cX0_ofMethod 5 (some .boolean) : Cond) ∈ bg := bgf (tb_4 _ (List.mem_of_getElem? (i := 96) (by rfl))) (by rfl)
theorem bg_63 : (.methodLink RX0 97 yX0_methodKind : Cond) ∈ bg := bgf (tb_4 _ (List.mem_of_getElem? (i := 97) (by decide +kernel))) (by rfl)
theorem bg_64 : (.code yX0_methodKind cX0_methodKind 2 (some .int) : Cond) ∈ bg := bgf (tb_4 _ (List.mem_of_getElem? (i := 100) (by rfl))) (by rfl)
theorem bg_65 : (.instanceMethod yX0_methodKind : Cond) ∈ bg := bgf (tb_4 _ (List.mem_of_getElem? (i := 99) (by decide +kernel))) (by rfl)
theorem bg_66 : (.selects RX0 yX0_methodKind yX0_methodKind : Cond) ∈ bg := bgf (List.mem_of_getElem? (i := 38) (by decide +kernel)) (by rfl)
theorem bg_67 : (.methodLink RX0 100 yX0_codeHolds : Cond) ∈ bg := bgf (tb_4 _ (List.mem_of_getElem? (i := 103) (by decide +kernel))) (by rfl)
theorem bg_68 : (.code yX0_codeHolds cX0_codeHolds 5 (some .boolean) : Cond) ∈ bg := bgf (tb_4 _ (List.mem_of_getElem? (i := 106) (by rfl))) (by rfl)
theorem bg_69 : (.instanceMethod yX0_codeHolds : Cond) ∈ bg := bgf (tb_4 _ (List.mem_of_getElem? (i := 105) (by decide +kernel))) (by rfl)
theorem bg_70 : (.selects RX0 yX0_codeHolds yX0_codeHolds : Cond) ∈ bg := bgf (List.mem_of_getElem? (i := 39) (by decide +kernel)) (by rfl)
theorem bg_71 : (.fieldLink RX0 104 "ClassGate$Member" "exceptionCount" "I" : Cond) ∈ bg := bgf (tb_2 _ (List.mem_of_getElem? (i := 145) (by decide +kernel))) (by rfl)
theorem bg_72 : (.methodLink RX0 107 yX0_areClasses : Cond) ∈ bg := bgf (tb_4 _ (List.mem_of_getElem? (i := 218) (by decide +kernel))) (by rfl)
theorem bg_73 : (.code yX0_areClasses cX0_areClasses 4 (some .boolean) : Cond) ∈ bg := bgf (tb_4 _ (List.mem_of_getElem? (i := 221) (by rfl))) (by rfl)
theorem bg_74 : (.instanceMethod yX0_areClasses : Cond) ∈ bg := bgf (tb_4 _ (List.mem_of_getElem? (i := 220) (by decide +kernel))) (by rfl)
theorem bg_75 : (.selects RX0 yX0_areClasses yX0_areClasses : Cond) ∈ bg := bgf (List.mem_of_getElem? (i := 42) (by decide +kernel)) (by rfl)
theorem bg_76 : (.code yX0_ofClass cX0_ofClass 5 (some .boolean) : Cond) ∈ bg := bgf (tb_4 _ (List.mem_of_getElem? (i := 229) (by rfl))) (by rfl)
theorem bg_77 : (.fieldLink RX0 110 "ClassGate$ClassFile" "attributesAt" "I" : Cond) ∈ bg := bgf (tb_1 _ (List.mem_of_getElem? (i := 158) (by decide +kernel))) (by rfl)
theorem bg_78 : (.fieldLink RX0 111 "ClassGate$ClassFile" "attributeCount" "I" : Cond) ∈ bg := bgf (tb_1 _ (List.mem_of_getElem? (i := 156) (by decide +kernel))) (by rfl)
theorem bg_79 : (.methodLink RX0 112 yX0_classKind : Cond) ∈ bg := bgf (tb_4 _ (List.mem_of_getElem? (i := 230) (by decide +kernel))) (by rfl)
theorem bg_80 : (.code yX0_classKind cX0_classKind 2 (some .int) : Cond) ∈ bg := bgf (tb_4 _ (List.mem_of_getElem? (i := 233) (by rfl))) (by rfl)
theorem bg_81 : (.instanceMethod yX0_classKind : Cond) ∈ bg := bgf (tb_4 _ (List.mem_of_getElem? (i := 232) (by decide +kernel))) (by rfl)
theorem bg_82 : (.selects RX0 yX0_classKind yX0_classKind : Cond) ∈ bg := bgf (List.mem_of_getElem? (i := 44) (by decide +kernel)) (by rfl)
theorem bg_83 : (.methodLink RX0 115 yX0_brokenRule : Cond) ∈ bg := bgf (tb_5 _ (List.mem_of_getElem? (i := 0) (by decide +kernel))) (by rfl)
theorem bg_84 : (.code yX0_brokenRule cX0_brokenRule 3 (some .int) : Cond) ∈ bg := bgf (tb_5 _ (List.mem_of_getElem? (i := 3) (by rfl))) (by rfl)
theorem bg_85 : (.instanceMethod yX0_brokenRule : Cond) ∈ bg := bgf (tb_5 _ (List.mem_of_getElem? (i := 2) (by decide +kernel))) (by rfl)
theorem bg_86 : (.selects RX0 yX0_brokenRule yX0_brokenRule : Cond) ∈ bg := bgf (List.mem_of_getElem? (i := 45) (by decide +kernel)) (by rfl)
theorem bg_87 : (.fieldLink RX0 119 "ClassGate$ClassFile" "known" "I" : Cond) ∈ bg := bgf (tb_1 _ (List.mem_of_getElem? (i := 161) (by decide +kernel))) (by rfl)
theorem bg_88 : (.methodLink RX0 120 yX1_u4 : Cond) ∈ bg := bgf (tb_4 _ (List.mem_of_getElem? (i := 21) (by decide +kernel))) (by rfl)
theorem bg_89 : (.code yX1_u4 cX1_u4 2 (some .int) : Cond) ∈ bg := bgf (tb_2 _ (List.mem_of_getElem? (i := 37) (by rfl))) (by rfl)
theorem bg_90 : (.instanceMethod yX1_u4 : Cond) ∈ bg := bgf (tb_2 _ (List.mem_of_getElem? (i := 35) (by decide +kernel))) (by rfl)
theorem bg_91 : (.selects RX1 yX1_u4 yX1_u4 : Cond) ∈ bg := bgf (tb_2 _ (List.mem_of_getElem? (i := 36) (by decide +kernel))) (by rfl)
theorem bg_92 : (.fieldLink RX0 129 "ClassGate$ClassFile" "major" "I" : Cond) ∈ bg := bgf (tb_1 _ (List.mem_of_getElem? (i := 140) (by decide +kernel))) (by rfl)
theorem bg_93 : (.code yX0_hasSeen cX0_hasSeen 2 (some .boolean) : Cond) ∈ bg := bgf (tb_4 _ (List.mem_of_getElem? (i := 16) (by rfl))) (by rfl)
theorem bg_94 : (.methodLink RX0 142 yX0_hasSeen : Cond) ∈ bg := bgf (tb_4 _ (List.mem_of_getElem? (i := 13) (by decide +kernel))) (by rfl)
theorem bg_95 : (.instanceMethod yX0_hasSeen : Cond) ∈ bg := bgf (tb_4 _ (List.mem_of_getElem? (i := 15) (by decide +kernel))) (by rfl)
theorem bg_96 : (.selects RX0 yX0_hasSeen yX0_hasSeen : Cond) ∈ bg := bgf (List.mem_of_getElem? (i := 25) (by decide +kernel)) (by rfl)
theorem bg_97 : (.methodLink RX0 145 yX0_bootstrapsEnd : Cond) ∈ bg := bgf (tb_4 _ (List.mem_of_getElem? (i := 26) (by decide +kernel))) (by rfl)
theorem bg_98 : (.code yX0_bootstrapsEnd cX0_bootstrapsEnd 6 (some .int) : Cond) ∈ bg := bgf (tb_4 _ (List.mem_of_getElem? (i := 29) (by rfl))) (by rfl)
theorem bg_99 : (.instanceMethod yX0_bootstrapsEnd : Cond) ∈ bg := bgf (tb_4 _ (List.mem_of_getElem? (i := 28) (by decide +kernel))) (by rfl)
theorem bg_100 : (.selects RX0 yX0_bootstrapsEnd yX0_bootstrapsEnd : Cond) ∈ bg := bgf (List.mem_of_getElem? (i := 28) (by decide +kernel)) (by rfl)
theorem bg_101 : (.methodLink RX0 148 yX0_recordEnd : Cond) ∈ bg := bgf (tb_4 _ (List.mem_of_getElem? (i := 30) (by decide +kernel))) (by rfl)
theorem bg_102 : (.code yX0_recordEnd cX0_recordEnd 6 (some .int) : Cond) ∈ bg := bgf (tb_4 _ (List.mem_of_getElem? (i := 33) (by rfl))) (by rfl)
theorem bg_103 : (.instanceMethod yX0_recordEnd : Cond) ∈ bg := bgf (tb_4 _ (List.mem_of_getElem? (i := 32) (by decide +kernel))) (by rfl)
theorem bg_104 : (.selects RX0 yX0_recordEnd yX0_recordEnd : Cond) ∈ bg := bgf (List.mem_of_getElem? (i := 29) (by decide +kernel)) (by rfl)
theorem bg_105 : (.methodLink RX0 151 yX0_codeEnd : Cond) ∈ bg := bgf (tb_4 _ (List.mem_of_getElem? (i := 39) (by decide +kernel))) (by rfl)
theorem bg_106 : (.code yX0_codeEnd cX0_codeEnd 6 (some .int) : Cond) ∈ bg := bgf (tb_4 _ (List.mem_of_getElem? (i := 42) (by rfl))) (by rfl)
theorem bg_107 : (.instanceMethod yX0_codeEnd : Cond) ∈ bg := bgf (tb_4 _ (List.mem_of_getElem? (i := 41) (by decide +kernel))) (by rfl)
theorem bg_108 : (.selects RX0 yX0_codeEnd yX0_codeEnd : Cond) ∈ bg := bgf (List.mem_of_getElem? (i := 30) (by decide +kernel)) (by rfl)
theorem bg_109 : (.methodLink RX0 154 yX1_attributesEnd : Cond) ∈ bg := bgf (tb_4 _ (List.mem_of_getElem? (i := 34) (by decide +kernel))) (by rfl)
theorem bg_110 : (.code yX1_attributesEnd cX1_attributesEnd 7 (some .int) : Cond) ∈ bg := bgf (tb_4 _ (List.mem_of_getElem? (i := 37) (by rfl))) (by rfl)
theorem bg_111 : (.instanceMethod yX1_attributesEnd : Cond) ∈ bg := bgf (tb_4 _ (List.mem_of_getElem? (i := 35) (by decide +kernel))) (by rfl)
theorem bg_112 : (.selects RX1 yX1_attributesEnd yX1_attributesEnd : Cond) ∈ bg := bgf (tb_4 _ (List.mem_of_getElem? (i := 36) (by decide +kernel))) (by rfl)
theorem bg_113 : (.methodLink RX0 159 yX7_textLength : Cond) ∈ bg := bgf (tb_4 _ (List.mem_of_getElem? (i := 52) (by decide +kernel))) (by rfl)
theorem bg_114 : (.code yX7_textLength cX7_textLength 2 (some .int) : Cond) ∈ bg := bgf (tb_3 _ (List.mem_of_getElem? (i := 75) (by rfl))) (by rfl)
theorem bg_115 : (.instanceMethod yX7_textLength : Cond) ∈ bg := bgf (tb_3 _ (List.mem_of_getElem? (i := 73) (by decide +kernel))) (by rfl)
theorem bg_116 : (.selects RX7 yX7_textLength yX7_textLength : Cond) ∈ bg := bgf (tb_3 _ (List.mem_of_getElem? (i := 74) (by decide +kernel))) (by rfl)
theorem bg_117 : (.methodLink RX0 162 yX7_characterAt : Cond) ∈ bg := bgf (tb_4 _ (List.mem_of_getElem? (i := 53) (by decide +kernel))) (by rfl)
theorem bg_118 : (.code yX7_characterAt cX7_characterAt 3 (some .int) : Cond) ∈ bg := bgf (tb_3 _ (List.mem_of_getElem? (i := 67) (by rfl))) (by rfl)
theorem bg_119 : (.instanceMethod yX7_characterAt : Cond) ∈ bg := bgf (tb_3 _ (List.mem_of_getElem? (i := 65) (by decide +kernel))) (by rfl)
theorem bg_120 : (.selects RX7 yX7_characterAt yX7_characterAt : Cond) ∈ bg := bgf (tb_3 _ (List.mem_of_getElem? (i := 66) (by decide +kernel))) (by rfl)
theorem bg_121 : (.fieldLink RX0 165 "ClassGate$ClassFile" "innerCount" "I" : Cond) ∈ bg := bgf (tb_1 _ (List.mem_of_getElem? (i := 168) (by decide +kernel))) (by rfl)
theorem bg_122 : (.methodLink RX0 168 yX0_innerClassesHold : Cond) ∈ bg := bgf (tb_5 _ (List.mem_of_getElem? (i := 4) (by decide +kernel))) (by rfl)
theorem bg_123 : (.code yX0_innerClassesHold cX0_innerClassesHold 6 (some .boolean) : Cond) ∈ bg := bgf (tb_5 _ (List.mem_of_getElem? (i := 7) (by rfl))) (by rfl)
theorem bg_124 : (.instanceMethod yX0_innerClassesHold : Cond) ∈ bg := bgf (tb_5 _ (List.mem_of_getElem? (i := 6) (by decide +kernel))) (by rfl)
theorem bg_125 : (.selects RX0 yX0_innerClassesHold yX0_innerClassesHold : Cond) ∈ bg := bgf (List.mem_of_getElem? (i := 46) (by decide +kernel)) (by rfl)
theorem bg_126 : (.fieldLink RX0 171 "ClassGate$ClassFile" "nestCount" "I" : Cond) ∈ bg := bgf (tb_1 _ (List.mem_of_getElem? (i := 170) (by decide +kernel))) (by rfl)
theorem bg_127 : (.fieldLink RX0 174 "ClassGate$ClassFile" "permittedCount" "I" : Cond) ∈ bg := bgf (tb_1 _ (List.mem_of_getElem? (i := 172) (by decide +kernel))) (by rfl)
theorem bg_128 : (.methodLink RX0 177 yX3_has : Cond) ∈ bg := bgf (tb_5 _ (List.mem_of_getElem? (i := 8) (by decide +kernel))) (by rfl)
theorem bg_129 : (.code yX3_has cX3_has 2 (some .boolean) : Cond) ∈ bg := bgf (tb_3 _ (List.mem_of_getElem? (i := 199) (by rfl))) (by rfl)
theorem bg_130 : (.instanceMethod yX3_has : Cond) ∈ bg := bgf (tb_3 _ (List.mem_of_getElem? (i := 197) (by decide +kernel))) (by rfl)
theorem bg_131 : (.selects RX3 yX3_has yX3_has : Cond) ∈ bg := bgf (tb_3 _ (List.mem_of_getElem? (i := 198) (by decide +kernel))) (by rfl)
theorem bg_132 : (.initialized RX3 : Cond) ∈ bg := bgf (tb_1 _ (List.mem_of_getElem? (i := 15) (by decide +kernel))) (by rfl)
theorem bg_133 : (.fieldLink RX0 178 "ClassGate$ClassFile" "recordCount" "I" : Cond) ∈ bg := bgf (tb_1 _ (List.mem_of_getElem? (i := 174) (by decide +kernel))) (by rfl)
theorem bg_134 : (.methodLink RX0 181 yX0_recordHolds : Cond) ∈ bg := bgf (tb_5 _ (List.mem_of_getElem? (i := 9) (by decide +kernel))) (by rfl)
theorem bg_135 : (.code yX0_recordHolds cX0_recordHolds 6 (some .boolean) : Cond) ∈ bg := bgf (tb_5 _ (List.mem_of_getElem? (i := 12) (by rfl))) (by rfl)
theorem bg_136 : (.instanceMethod yX0_recordHolds : Cond) ∈ bg := bgf (tb_5 _ (List.mem_of_getElem? (i := 11) (by decide +kernel))) (by rfl)
theorem bg_137 : (.selects RX0 yX0_recordHolds yX0_recordHolds : Cond) ∈ bg := bgf (List.mem_of_getElem? (i := 47) (by decide +kernel)) (by rfl)
theorem bg_138 : (.fieldLink RX0 184 "ClassGate$ClassFile" "bootstrapCount" "I" : Cond) ∈ bg := bgf (tb_1 _ (List.mem_of_getElem? (i := 164) (by decide +kernel))) (by rfl)
theorem bg_139 : (.fieldLink RX0 187 "ClassGate$ClassFile" "bootstrapsAt" "I" : Cond) ∈ bg := bgf (tb_1 _ (List.mem_of_getElem? (i := 166) (by decide +kernel))) (by rfl)
theorem bg_140 : (.methodLink RX0 190 yX0_bootstrapsHold : Cond) ∈ bg := bgf (tb_5 _ (List.mem_of_getElem? (i := 15) (by decide +kernel))) (by rfl)
theorem bg_141 : (.code yX0_bootstrapsHold cX0_bootstrapsHold 5 (some .boolean) : Cond) ∈ bg := bgf (tb_5 _ (List.mem_of_getElem? (i := 18) (by rfl))) (by rfl)
theorem bg_142 : (.instanceMethod yX0_bootstrapsHold : Cond) ∈ bg := bgf (tb_5 _ (List.mem_of_getElem? (i := 17) (by decide +kernel))) (by rfl)
theorem bg_143 : (.selects RX0 yX0_bootstrapsHold yX0_bootstrapsHold : Cond) ∈ bg := bgf (List.mem_of_getElem? (i := 48) (by decide +kernel)) (by rfl)
theorem bg_144 : (.methodLink RX0 194 yX7_isUnqualifiedName : Cond) ∈ bg := bgf (tb_5 _ (List.mem_of_getElem? (i := 13) (by decide +kernel))) (by rfl)
theorem bg_145 : (.code yX7_isUnqualifiedName cX7_isUnqualifiedName 4 (some .boolean) : Cond) ∈ bg := bgf (tb_3 _ (List.mem_of_getElem? (i := 83) (by rfl))) (by rfl)
theorem bg_146 : (.instanceMethod yX7_isUnqualifiedName : Cond) ∈ bg := bgf (tb_3 _ (List.mem_of_getElem? (i := 81) (by decide +kernel))) (by rfl)
theorem bg_147 : (.selects RX7 yX7_isUnqualifiedName yX7_isUnqualifiedName : Cond) ∈ bg := bgf (tb_3 _ (List.mem_of_getElem? (i := 82) (by decide +kernel))) (by rfl)
theorem bg_148 : (.methodLink RX0 197 yX7_isFieldDescriptor : Cond) ∈ bg := bgf (tb_5 _ (List.mem_of_getElem? (i := 14) (by decide +kernel))) (by rfl)
theorem bg_149 : (.code yX7_isFieldDescriptor cX7_isFieldDescriptor 2 (some .boolean) : Cond) ∈ bg := bgf (tb_3 _ (List.mem_of_getElem? (i := 71) (by rfl))) (by rfl)
theorem bg_150 : (.instanceMethod yX7_isFieldDescriptor : Cond) ∈ bg := bgf (tb_3 _ (List.mem_of_getElem? (i := 69) (by decide +kernel))) (by rfl)
theorem bg_151 : (.selects RX7 yX7_isFieldDescriptor yX7_isFieldDescriptor : Cond) ∈ bg := bgf (tb_3 _ (List.mem_of_getElem? (i := 70) (by decide +kernel))) (by rfl)
theorem bg_152 : (.methodLink RX0 200 yX0_isLoadable : Cond) ∈ bg := bgf (tb_5 _ (List.mem_of_getElem? (i := 19) (by decide +kernel))) (by rfl)
theorem bg_153 : (.code yX0_isLoadable cX0_isLoadable 1 (some .boolean) : Cond) ∈ bg := bgf (tb_5 _ (List.mem_of_getElem? (i := 21) (by rfl))) (by rfl)
theorem bg_154 : (.static yX0_isLoadable : Cond) ∈ bg := bgf (tb_5 _ (List.mem_of_getElem? (i := 20) (by decide +kernel))) (by rfl)
theorem bg_155 : (.classLink RX0 203 RX4 : Cond) ∈ bg := bgf (tb_4 _ (List.mem_of_getElem? (i := 107) (by decide +kernel))) (by rfl)
theorem bg_156 : (.initialized RX4 : Cond) ∈ bg := bgf (tb_1 _ (List.mem_of_getElem? (i := 25) (by decide +kernel))) (by rfl)
theorem bg_157 : (.instantiable RX4 11 : Cond) ∈ bg := bgf (tb_4 _ (List.mem_of_getElem? (i := 108) (by decide +kernel))) (by rfl)
theorem bg_158 : (.methodLink RX0 205 yX4_init : Cond) ∈ bg := bgf (tb_4 _ (List.mem_of_getElem? (i := 109) (by decide +kernel))) (by rfl)
theorem bg_159 : (.code yX4_init cX4_init 4 none : Cond) ∈ bg := bgf (tb_4 _ (List.mem_of_getElem? (i := 111) (by rfl))) (by rfl)
theorem bg_160 : (.instanceMethod yX4_init : Cond) ∈ bg := bgf (tb_4 _ (List.mem_of_getElem? (i := 110) (by decide +kernel))) (by rfl)
theorem bg_161 : (.fieldLink RX0 208 "ClassGate$Code" "length" "I" : Cond) ∈ bg := bgf (tb_4 _ (List.mem_of_getElem? (i := 171) (by decide +kernel))) (by rfl)
theorem bg_162 : (.constant RX0 211 65535 : Cond) ∈ bg := bgf (tb_4 _ (List.mem_of_getElem? (i := 208) (by decide +kernel))) (by rfl)
theorem bg_163 : (.fieldLink RX0 212 "ClassGate$Code" "maxLocals" "I" : Cond) ∈ bg := bgf (tb_4 _ (List.mem_of_getElem? (i := 168) (by decide +kernel))) (by rfl)
theorem bg_164 : (.fieldLink RX0 215 "ClassGate$Member" "argumentPlaces" "I" : Cond) ∈ bg := bgf (tb_2 _ (List.mem_of_getElem? (i := 143) (by decide +kernel))) (by rfl)
theorem bg_165 : (.fieldLink RX0 218 "ClassGate$Code" "rowCount" "I" : Cond) ∈ bg := bgf (tb_4 _ (List.mem_of_getElem? (i := 178) (by decide +kernel))) (by rfl)
theorem bg_166 : (.fieldLink RX0 221 "ClassGate$Code" "rowsAt" "I" : Cond) ∈ bg := bgf (tb_4 _ (List.mem_of_getElem? (i := 174) (by decide +kernel))) (by rfl)
theorem bg_167 : (.methodLink RX0 224 yX0_rowHolds : Cond) ∈ bg := bgf (tb_4 _ (List.mem_of_getElem? (i := 209) (by decide +kernel))) (by rfl)
theorem bg_168 : (.code yX0_rowHolds cX0_rowHolds 5 (some .boolean) : Cond) ∈ bg := bgf (tb_4 _ (List.mem_of_getElem? (i := 212) (by rfl))) (by rfl)
theorem bg_169 : (.instanceMethod yX0_rowHolds : Cond) ∈ bg := bgf (tb_4 _ (List.mem_of_getElem? (i := 211) (by decide +kernel))) (by rfl)
theorem bg_170 : (.selects RX0 yX0_rowHolds yX0_rowHolds : Cond) ∈ bg := bgf (List.mem_of_getElem? (i := 40) (by decide +kernel)) (by rfl)
theorem bg_171 : (.fieldLink RX0 228 "ClassGate$Member" "code" "LClassGate$Code;" : Cond) ∈ bg := bgf (tb_2 _ (List.mem_of_getElem? (i := 149) (by decide +kernel))) (by rfl)
theorem bg_172 : (.methodLink RX0 232 yX0_codeAttributesHold : Cond) ∈ bg := bgf (tb_4 _ (List.mem_of_getElem? (i := 213) (by decide +kernel))) (by rfl)
theorem bg_173 : (.code yX0_codeAttributesHold cX0_codeAttributesHold 6 (some .boolean) : Cond) ∈ bg := bgf (tb_4 _ (List.mem_of_getElem? (i := 216) (by rfl))) (by rfl)
theorem bg_174 : (.instanceMethod yX0_codeAttributesHold : Cond) ∈ bg := bgf (tb_4 _ (List.mem_of_getElem? (i := 215) (by decide +kernel))) (by rfl)
theorem bg_175 : (.selects RX0 yX0_codeAttributesHold yX0_codeAttributesHold : Cond) ∈ bg := bgf (List.mem_of_getElem? (i := 41) (by decide +kernel)) (by rfl)
theorem bg_176 : (.code yX1_init cX1_init 2 none : Cond) ∈ bg := bgf (tb_1 _ (List.mem_of_getElem? (i := 64) (by rfl))) (by rfl)
theorem bg_177 : (.methodLink RX1 1 objectInit : Cond) ∈ bg := bgf (tb_1 _ (List.mem_of_getElem? (i := 65) (by decide +kernel))) (by rfl)
theorem bg_178 : (.fieldLink RX1 7 "ClassGate$Bytes" "data" "[B" : Cond) ∈ bg := bgf (tb_1 _ (List.mem_of_getElem? (i := 66) (by decide +kernel))) (by rfl)
theorem bg_179 : (.code yX1_size cX1_size 1 (some .int) : Cond) ∈ bg := bgf (tb_2 _ (List.mem_of_getElem? (i := 21) (by rfl))) (by rfl)
theorem bg_180 : (.code yX1_u1 cX1_u1 2 (some .int) : Cond) ∈ bg := bgf (tb_2 _ (List.mem_of_getElem? (i := 29) (by rfl))) (by rfl)
theorem bg_181 : (.code yX1_goesOn cX1_goesOn 3 (some .boolean) : Cond) ∈ bg := bgf (tb_2 _ (List.mem_of_getElem? (i := 68) (by rfl))) (by rfl)
theorem bg_182 : (.methodLink RX1 13 yX1_u4 : Cond) ∈ bg := bgf (tb_4 _ (List.mem_of_getElem? (i := 38) (by decide +kernel))) (by rfl)
theorem bg_183 : (.code yX2_init cX2_init 4 none : Cond) ∈ bg := bgf (tb_3 _ (List.mem_of_getElem? (i := 9) (by rfl))) (by rfl)
theorem bg_184 : (.methodLink RX2 3 objectInit : Cond) ∈ bg := bgf (tb_3 _ (List.mem_of_getElem? (i := 10) (by decide +kernel))) (by rfl)
theorem bg_185 : (.fieldLink RX2 9 "ClassGate$ClassCheck" "file" "LClassGate$ClassFile;" : Cond) ∈ bg := bgf (tb_3 _ (List.mem_of_getElem? (i := 11) (by decide +kernel))) (by rfl)
theorem bg_186 : (.fieldLink RX2 15 "ClassGate$ClassCheck" "verdict" "LClassGate$Verdict;" : Cond) ∈ bg := bgf (tb_3 _ (List.mem_of_getElem? (i := 14) (by decide +kernel))) (by rfl)
theorem bg_187 : (.fieldLink RX2 19 "ClassGate$ClassCheck" "attributeCheck" "LClassGate$AttributeCheck;" : Cond) ∈ bg := bgf (tb_3 _ (List.mem_of_getElem? (i := 15) (by decide +kernel))) (by rfl)
theorem bg_188 : (.fieldLink RX2 23 "ClassGate$ClassFile" "bytes" "LClassGate$Bytes;" : Cond) ∈ bg := bgf (tb_1 _ (List.mem_of_getElem? (i := 125) (by decide +kernel))) (by rfl)
theorem bg_189 : (.fieldLink RX2 29 "ClassGate$ClassCheck" "bytes" "LClassGate$Bytes;" : Cond) ∈ bg := bgf (tb_3 _ (List.mem_of_getElem? (i := 12) (by decide +kernel))) (by rfl)
theorem bg_190 : (.fieldLink RX2 30 "ClassGate$ClassFile" "pool" "LClassGate$Pool;" : Cond) ∈ bg := bgf (tb_1 _ (List.mem_of_getElem? (i := 130) (by decide +kernel))) (by rfl)
theorem bg_191 : (.fieldLink RX2 34 "ClassGate$ClassCheck" "pool" "LClassGate$Pool;" : Cond) ∈ bg := bgf (tb_3 _ (List.mem_of_getElem? (i := 13) (by decide +kernel))) (by rfl)
theorem bg_192 : (.code yX2_headHolds cX2_headHolds 3 (some .boolean) : Cond) ∈ bg := bgf (tb_3 _ (List.mem_of_getElem? (i := 182) (by rfl))) (by rfl)
theorem bg_193 : (.fieldLink RX2 35 "ClassGate$ClassFile" "flagsAt" "I" : Cond) ∈ bg := bgf (tb_1 _ (List.mem_of_getElem? (i := 142) (by decide +kernel))) (by rfl)
theorem bg_194 : (.methodLink RX2 39 yX1_u2 : Cond) ∈ bg := bgf (tb_3 _ (List.mem_of_getElem? (i := 183) (by decide +kernel))) (by rfl)
theorem bg_195 : (.methodLink RX2 45 yX2_classFlagsHold : Cond) ∈ bg := bgf (tb_3 _ (List.mem_of_getElem? (i := 184) (by decide +kernel))) (by rfl)
theorem bg_196 : (.code yX2_classFlagsHold cX2_classFlagsHold 1 (some .boolean) : Cond) ∈ bg := bgf (tb_3 _ (List.mem_of_getElem? (i := 186) (by rfl))) (by rfl)
theorem bg_197 : (.static yX2_classFlagsHold : Cond) ∈ bg := bgf (tb_3 _ (List.mem_of_getElem? (i := 185) (by decide +kernel))) (by rfl)
theorem bg_198 : (.initialized RX2 : Cond) ∈ bg := bgf (tb_1 _ (List.mem_of_getElem? (i := 23) (by decide +kernel))) (by rfl)
theorem bg_199 : (.methodLink RX2 49 yX10_wrong : Cond) ∈ bg := bgf (tb_3 _ (List.mem_of_getElem? (i := 191) (by decide +kernel))) (by rfl)
theorem bg_200 : (.methodLink RX2 55 yX7_isPlainClass : Cond) ∈ bg := bgf (tb_3 _ (List.mem_of_getElem? (i := 192) (by decide +kernel))) (by rfl)
theorem bg_201 : (.code yX7_isPlainClass cX7_isPlainClass 2 (some .boolean) : Cond) ∈ bg := bgf (tb_3 _ (List.mem_of_getElem? (i := 195) (by rfl))) (by rfl)
theorem bg_202 : (.instanceMethod yX7_isPlainClass : Cond) ∈ bg := bgf (tb_3 _ (List.mem_of_getElem? (i := 193) (by decide +kernel))) (by rfl)
theorem bg_203 : (.selects RX7 yX7_isPlainClass yX7_isPlainClass : Cond) ∈ bg := bgf (tb_3 _ (List.mem_of_getElem? (i := 194) (by decide +kernel))) (by rfl)
theorem bg_204 : (.methodLink RX2 60 yX3_has : Cond) ∈ bg := bgf (tb_3 _ (List.mem_of_getElem? (i := 196) (by decide +kernel))) (by rfl)
theorem bg_205 : (.methodLink RX2 63 yX7_firstIndex : Cond) ∈ bg := bgf (tb_3 _ (List.mem_of_getElem? (i := 201) (by decide +kernel))) (by rfl)
theorem bg_206 : (.code yX7_firstIndex cX7_firstIndex 2 (some .int) : Cond) ∈ bg := bgf (tb_3 _ (List.mem_of_getElem? (i := 39) (by rfl))) (by rfl)
theorem bg_207 : (.instanceMethod yX7_firstIndex : Cond) ∈ bg := bgf (tb_3 _ (List.mem_of_getElem? (i := 37) (by decide +kernel))) (by rfl)
theorem bg_208 : (.selects RX7 yX7_firstIndex yX7_firstIndex : Cond) ∈ bg := bgf (tb_3 _ (List.mem_of_getElem? (i := 38) (by decide +kernel))) (by rfl)
theorem bg_209 : (.methodLink RX2 67 yX7_textIs : Cond) ∈ bg := bgf (tb_3 _ (List.mem_of_getElem? (i := 203) (by decide +kernel))) (by rfl)
theorem bg_210 : (.constant RX2 71 32768 : Cond) ∈ bg := bgf (tb_3 _ (List.mem_of_getElem? (i := 187) (by decide +kernel))) (by rfl)
theorem bg_211 : (.methodLink RX2 72 yX2_hasAll : Cond) ∈ bg := bgf (tb_3 _ (List.mem_of_getElem? (i := 188) (by decide +kernel))) (by rfl)
theorem bg_212 : (.code yX2_hasAll cX2_hasAll 2 (some .boolean) : Cond) ∈ bg := bgf (tb_3 _ (List.mem_of_getElem? (i := 190) (by rfl))) (by rfl)
theorem bg_213 : (.static yX2_hasAll : Cond) ∈ bg := bgf (tb_3 _ (List.mem_of_getElem? (i := 189) (by decide +kernel))) (by rfl)
theorem bg_214 : (.code yX2_interfacesHold cX2_interfacesHold 6 (some .boolean) : Cond) ∈ bg := bgf (tb_3 _ (List.mem_of_getElem? (i := 207) (by rfl))) (by rfl)
theorem bg_215 : (.fieldLink RX2 75 "ClassGate$ClassFile" "interfaceCount" "I" : Cond) ∈ bg := bgf (tb_1 _ (List.mem_of_getElem? (i := 146) (by decide +kernel))) (by rfl)
theorem bg_216 : (.methodLink RX2 78 yX7_sameText : Cond) ∈ bg := bgf (tb_3 _ (List.mem_of_getElem? (i := 208) (by decide +kernel))) (by rfl)
theorem bg_217 : (.code yX7_sameText cX7_sameText 4 (some .boolean) : Cond) ∈ bg := bgf (tb_3 _ (List.mem_of_getElem? (i := 211) (by rfl))) (by rfl)
theorem bg_218 : (.instanceMethod yX7_sameText : Cond) ∈ bg := bgf (tb_3 _ (List.mem_of_getElem? (i := 209) (by decide +kernel))) (by rfl)
theorem bg_219 : (.selects RX7 yX7_sameText yX7_sameText : Cond) ∈ bg := bgf (tb_3 _ (List.mem_of_getElem? (i := 210) (by decide +kernel))) (by rfl)
theorem bg_220 : (.code yX2_fieldsHold cX2_fieldsHold 3 (some .boolean) : Cond) ∈ bg := bgf (tb_3 _ (List.mem_of_getElem? (i := 215) (by rfl))) (by rfl)
theorem bg_221 : (.fieldLink RX2 81 "ClassGate$ClassFile" "fields" "[LClassGate$Member;" : Cond) ∈ bg := bgf (tb_1 _ (List.mem_of_getElem? (i := 149) (by decide +kernel))) (by rfl)
theorem bg_222 : (.methodLink RX2 85 yX2_fieldHolds : Cond) ∈ bg := bgf (tb_3 _ (List.mem_of_getElem? (i := 216) (by decide +kernel))) (by rfl)
theorem bg_223 : (.code yX2_fieldHolds cX2_fieldHolds 3 (some .boolean) : Cond) ∈ bg := bgf (tb_3 _ (List.mem_of_getElem? (i := 219) (by rfl))) (by rfl)
theorem bg_224 : (.instanceMethod yX2_fieldHolds : Cond) ∈ bg := bgf (tb_3 _ (List.mem_of_getElem? (i := 218) (by decide +kernel))) (by rfl)
theorem bg_225 : (.selects RX2 yX2_fieldHolds yX2_fieldHolds : Cond) ∈ bg := bgf (List.mem_of_getElem? (i := 22) (by decide +kernel)) (by rfl)
theorem bg_226 : (.methodLink RX2 89 yX0_ofField : Cond) ∈ bg := bgf (tb_4 _ (List.mem_of_getElem? (i := 0) (by decide +kernel))) (by rfl)
theorem bg_227 : (.instanceMethod yX0_ofField : Cond) ∈ bg := bgf (tb_4 _ (List.mem_of_getElem? (i := 1) (by decide +kernel))) (by rfl)
theorem bg_228 : (.selects RX0 yX0_ofField yX0_ofField : Cond) ∈ bg := bgf (tb_4 _ (List.mem_of_getElem? (i := 2) (by decide +kernel))) (by rfl)
theorem bg_229 : (.fieldLink RX2 95 "ClassGate$Member" "flags" "I" : Cond) ∈ bg := bgf (tb_2 _ (List.mem_of_getElem? (i := 125) (by decide +kernel))) (by rfl)
theorem bg_230 : (.methodLink RX2 100 yX2_fieldFlagsHold : Cond) ∈ bg := bgf (tb_3 _ (List.mem_of_getElem? (i := 220) (by decide +kernel))) (by rfl)
theorem bg_231 : (.code yX2_fieldFlagsHold cX2_fieldFlagsHold 3 (some .boolean) : Cond) ∈ bg := bgf (tb_3 _ (List.mem_of_getElem? (i := 223) (by rfl))) (by rfl)
theorem bg_232 : (.instanceMethod yX2_fieldFlagsHold : Cond) ∈ bg := bgf (tb_3 _ (List.mem_of_getElem? (i := 222) (by decide +kernel))) (by rfl)
theorem bg_233 : (.selects RX2 yX2_fieldFlagsHold yX2_fieldFlagsHold : Cond) ∈ bg := bgf (List.mem_of_getElem? (i := 23) (by decide +kernel)) (by rfl)
theorem bg_234 : (.fieldLink RX2 103 "ClassGate$Member" "begin" "I" : Cond) ∈ bg := bgf (tb_2 _ (List.mem_of_getElem? (i := 123) (by decide +kernel))) (by rfl)
theorem bg_235 : (.fieldLink RX2 106 "ClassGate$Member" "name" "I" : Cond) ∈ bg := bgf (tb_2 _ (List.mem_of_getElem? (i := 127) (by decide +kernel))) (by rfl)
theorem bg_236 : (.methodLink RX2 109 yX7_isUnqualifiedName : Cond) ∈ bg := bgf (tb_3 _ (List.mem_of_getElem? (i := 233) (by decide +kernel))) (by rfl)
theorem bg_237 : (.fieldLink RX2 112 "ClassGate$Member" "descriptor" "I" : Cond) ∈ bg := bgf (tb_2 _ (List.mem_of_getElem? (i := 131) (by decide +kernel))) (by rfl)
theorem bg_238 : (.methodLink RX2 115 yX7_isFieldDescriptor : Cond) ∈ bg := bgf (tb_3 _ (List.mem_of_getElem? (i := 234) (by decide +kernel))) (by rfl)
theorem bg_239 : (.methodLink RX2 118 yX7_sameMember : Cond) ∈ bg := bgf (tb_3 _ (List.mem_of_getElem? (i := 235) (by decide +kernel))) (by rfl)
theorem bg_240 : (.code yX7_sameMember cX7_sameMember 7 (some .int) : Cond) ∈ bg := bgf (tb_3 _ (List.mem_of_getElem? (i := 238) (by rfl))) (by rfl)
theorem bg_241 : (.instanceMethod yX7_sameMember : Cond) ∈ bg := bgf (tb_3 _ (List.mem_of_getElem? (i := 236) (by decide +kernel))) (by rfl)
theorem bg_242 : (.selects RX7 yX7_sameMember yX7_sameMember : Cond) ∈ bg := bgf (tb_3 _ (List.mem_of_getElem? (i := 237) (by decide +kernel))) (by rfl)
theorem bg_243 : (.methodLink RX2 122 yX2_hasOneAccessAtMost : Cond) ∈ bg := bgf (tb_3 _ (List.mem_of_getElem? (i := 224) (by decide +kernel))) (by rfl)
theorem bg_244 : (.code yX2_hasOneAccessAtMost cX2_hasOneAccessAtMost 1 (some .boolean) : Cond) ∈ bg := bgf (tb_3 _ (List.mem_of_getElem? (i := 226) (by rfl))) (by rfl)
theorem bg_245 : (.static yX2_hasOneAccessAtMost : Cond) ∈ bg := bgf (tb_3 _ (List.mem_of_getElem? (i := 225) (by decide +kernel))) (by rfl)
theorem bg_246 : (.methodLink RX2 125 yJ6_bitCount_0f7a4 : Cond) ∈ bg := bgf (tb_3 _ (List.mem_of_getElem? (i := 227) (by decide +kernel))) (by rfl)
theorem bg_247 : (.code yX2_methodsHold cX2_methodsHold 3 (some .boolean) : Cond) ∈ bg := bgf (tb_4 _ (List.mem_of_getElem? (i := 58) (by rfl))) (by rfl)
theorem bg_248 : (.fieldLink RX2 130 "ClassGate$ClassFile" "methods" "[LClassGate$Member;" : Cond) ∈ bg := bgf (tb_1 _ (List.mem_of_getElem? (i := 153) (by decide +kernel))) (by rfl)
theorem bg_249 : (.methodLink RX2 133 yX2_methodHolds : Cond) ∈ bg := bgf (tb_4 _ (List.mem_of_getElem? (i := 59) (by decide +kernel))) (by rfl)
theorem bg_250 : (.code yX2_methodHolds cX2_methodHolds 3 (some .boolean) : Cond) ∈ bg := bgf (tb_4 _ (List.mem_of_getElem? (i := 62) (by rfl))) (by rfl)
theorem bg_251 : (.instanceMethod yX2_methodHolds : Cond) ∈ bg := bgf (tb_4 _ (List.mem_of_getElem? (i := 61) (by decide +kernel))) (by rfl)
theorem bg_252 : (.selects RX2 yX2_methodHolds yX2_methodHolds : Cond) ∈ bg := bgf (List.mem_of_getElem? (i := 32) (by decide +kernel)) (by rfl)
theorem bg_253 : (.methodLink RX2 136 yX0_ofMethod : Cond) ∈ bg := bgf (tb_4 _ (List.mem_of_getElem? (i := 93) (by decide +kernel))) (by rfl)
theorem bg_254 : (.instanceMethod yX0_ofMethod : Cond) ∈ bg := bgf (tb_4 _ (List.mem_of_getElem? (i := 94) (by decide +kernel))) (by rfl)
theorem bg_255 : (.selects RX0 yX0_ofMethod yX0_ofMethod : Cond) ∈ bg := bgf (tb_4 _ (List.mem_of_getElem? (i := 95) (by decide +kernel))) (by rfl)
theorem bg_256 : (.methodLink RX2 139 yX2_codeIsDue : Cond) ∈ bg := bgf (tb_4 _ (List.mem_of_getElem? (i := 222) (by decide +kernel))) (by rfl)
theorem bg_257 : (.code yX2_codeIsDue cX2_codeIsDue 3 (some .boolean) : Cond) ∈ bg := bgf (tb_4 _ (List.mem_of_getElem? (i := 225) (by rfl))) (by rfl)
theorem bg_258 : (.instanceMethod yX2_codeIsDue : Cond) ∈ bg := bgf (tb_4 _ (List.mem_of_getElem? (i := 224) (by decide +kernel))) (by rfl)
theorem bg_259 : (.selects RX2 yX2_codeIsDue yX2_codeIsDue : Cond) ∈ bg := bgf (List.mem_of_getElem? (i := 43) (by decide +kernel)) (by rfl)
theorem bg_260 : (.methodLink RX2 142 yX2_methodNameHolds : Cond) ∈ bg := bgf (tb_4 _ (List.mem_of_getElem? (i := 63) (by decide +kernel))) (by rfl)
theorem bg_261 : (.code yX2_methodNameHolds cX2_methodNameHolds 2 (some .boolean) : Cond) ∈ bg := bgf (tb_4 _ (List.mem_of_getElem? (i := 66) (by rfl))) (by rfl)
theorem bg_262 : (.instanceMethod yX2_methodNameHolds : Cond) ∈ bg := bgf (tb_4 _ (List.mem_of_getElem? (i := 65) (by decide +kernel))) (by rfl)
theorem bg_263 : (.selects RX2 yX2_methodNameHolds yX2_methodNameHolds : Cond) ∈ bg := bgf (List.mem_of_getElem? (i := 33) (by decide +kernel)) (by rfl)
theorem bg_264 : (.methodLink RX2 145 yX2_methodFlagsHold : Cond) ∈ bg := bgf (tb_4 _ (List.mem_of_getElem? (i := 70) (by decide +kernel))) (by rfl)
theorem bg_265 : (.code yX2_methodFlagsHold cX2_methodFlagsHold 3 (some .boolean) : Cond) ∈ bg := bgf (tb_4 _ (List.mem_of_getElem? (i := 73) (by rfl))) (by rfl)
theorem bg_266 : (.instanceMethod yX2_methodFlagsHold : Cond) ∈ bg := bgf (tb_4 _ (List.mem_of_getElem? (i := 72) (by decide +kernel))) (by rfl)
theorem bg_267 : (.selects RX2 yX2_methodFlagsHold yX2_methodFlagsHold : Cond) ∈ bg := bgf (List.mem_of_getElem? (i := 34) (by decide +kernel)) (by rfl)
theorem bg_268 : (.methodLink RX2 148 yX7_argumentPlaces : Cond) ∈ bg := bgf (tb_4 _ (List.mem_of_getElem? (i := 83) (by decide +kernel))) (by rfl)
theorem bg_269 : (.code yX7_argumentPlaces cX7_argumentPlaces 2 (some .int) : Cond) ∈ bg := bgf (tb_4 _ (List.mem_of_getElem? (i := 86) (by rfl))) (by rfl)
theorem bg_270 : (.instanceMethod yX7_argumentPlaces : Cond) ∈ bg := bgf (tb_4 _ (List.mem_of_getElem? (i := 84) (by decide +kernel))) (by rfl)
theorem bg_271 : (.selects RX7 yX7_argumentPlaces yX7_argumentPlaces : Cond) ∈ bg := bgf (tb_4 _ (List.mem_of_getElem? (i := 85) (by decide +kernel))) (by rfl)
theorem bg_272 : (.methodLink RX2 151 yX6_has : Cond) ∈ bg := bgf (tb_4 _ (List.mem_of_getElem? (i := 74) (by decide +kernel))) (by rfl)
theorem bg_273 : (.fieldLink RX2 152 "ClassGate$Member" "argumentPlaces" "I" : Cond) ∈ bg := bgf (tb_2 _ (List.mem_of_getElem? (i := 142) (by decide +kernel))) (by rfl)
theorem bg_274 : (.methodLink RX2 154 yX2_methodDescriptorHolds : Cond) ∈ bg := bgf (tb_4 _ (List.mem_of_getElem? (i := 87) (by decide +kernel))) (by rfl)
theorem bg_275 : (.code yX2_methodDescriptorHolds cX2_methodDescriptorHolds 2 (some .boolean) : Cond) ∈ bg := bgf (tb_4 _ (List.mem_of_getElem? (i := 90) (by rfl))) (by rfl)
theorem bg_276 : (.instanceMethod yX2_methodDescriptorHolds : Cond) ∈ bg := bgf (tb_4 _ (List.mem_of_getElem? (i := 89) (by decide +kernel))) (by rfl)
theorem bg_277 : (.selects RX2 yX2_methodDescriptorHolds yX2_methodDescriptorHolds : Cond) ∈ bg := bgf (List.mem_of_getElem? (i := 37) (by decide +kernel)) (by rfl)
theorem bg_278 : (.methodLink RX2 160 yX7_hasAngle : Cond) ∈ bg := bgf (tb_4 _ (List.mem_of_getElem? (i := 69) (by decide +kernel))) (by rfl)
theorem bg_279 : (.code yX7_hasAngle cX7_hasAngle 4 (some .boolean) : Cond) ∈ bg := bgf (tb_3 _ (List.mem_of_getElem? (i := 106) (by rfl))) (by rfl)
theorem bg_280 : (.instanceMethod yX7_hasAngle : Cond) ∈ bg := bgf (tb_3 _ (List.mem_of_getElem? (i := 104) (by decide +kernel))) (by rfl)
theorem bg_281 : (.selects RX7 yX7_hasAngle yX7_hasAngle : Cond) ∈ bg := bgf (tb_3 _ (List.mem_of_getElem? (i := 105) (by decide +kernel))) (by rfl)
theorem bg_282 : (.methodLink RX2 163 yX2_abstractHolds : Cond) ∈ bg := bgf (tb_4 _ (List.mem_of_getElem? (i := 75) (by decide +kernel))) (by rfl)
theorem bg_283 : (.code yX2_abstractHolds cX2_abstractHolds 2 (some .boolean) : Cond) ∈ bg := bgf (tb_4 _ (List.mem_of_getElem? (i := 78) (by rfl))) (by rfl)
theorem bg_284 : (.instanceMethod yX2_abstractHolds : Cond) ∈ bg := bgf (tb_4 _ (List.mem_of_getElem? (i := 77) (by decide +kernel))) (by rfl)
theorem bg_285 : (.selects RX2 yX2_abstractHolds yX2_abstractHolds : Cond) ∈ bg := bgf (List.mem_of_getElem? (i := 35) (by decide +kernel)) (by rfl)
theorem bg_286 : (.methodLink RX2 166 yX2_interfaceMethodHolds : Cond) ∈ bg := bgf (tb_4 _ (List.mem_of_getElem? (i := 79) (by decide +kernel))) (by rfl)
theorem bg_287 : (.code yX2_interfaceMethodHolds cX2_interfaceMethodHolds 2 (some .boolean) : Cond) ∈ bg := bgf (tb_4 _ (List.mem_of_getElem? (i := 82) (by rfl))) (by rfl)
theorem bg_288 : (.instanceMethod yX2_interfaceMethodHolds : Cond) ∈ bg := bgf (tb_4 _ (List.mem_of_getElem? (i := 81) (by decide +kernel))) (by rfl)
theorem bg_289 : (.selects RX2 yX2_interfaceMethodHolds yX2_interfaceMethodHolds : Cond) ∈ bg := bgf (List.mem_of_getElem? (i := 36) (by decide +kernel)) (by rfl)
theorem bg_290 : (.fieldLink RX2 169 "ClassGate$ClassFile" "major" "I" : Cond) ∈ bg := bgf (tb_1 _ (List.mem_of_getElem? (i := 141) (by decide +kernel))) (by rfl)
theorem bg_291 : (.methodLink RX2 172 yX7_isMethodDescriptor : Cond) ∈ bg := bgf (tb_4 _ (List.mem_of_getElem? (i := 91) (by decide +kernel))) (by rfl)
theorem bg_292 : (.code yX7_isMethodDescriptor cX7_isMethodDescriptor 2 (some .boolean) : Cond) ∈ bg := bgf (tb_3 _ (List.mem_of_getElem? (i := 88) (by rfl))) (by rfl)
theorem bg_293 : (.instanceMethod yX7_isMethodDescriptor : Cond) ∈ bg := bgf (tb_3 _ (List.mem_of_getElem? (i := 86) (by decide +kernel))) (by rfl)
theorem bg_294 : (.selects RX7 yX7_isMethodDescriptor yX7_isMethodDescriptor : Cond) ∈ bg := bgf (tb_3 _ (List.mem_of_getElem? (i := 87) (by decide +kernel))) (by rfl)
theorem bg_295 : (.methodLink RX2 175 yX7_hasNoResult : Cond) ∈ bg := bgf (tb_4 _ (List.mem_of_getElem? (i := 92) (by decide +kernel))) (by rfl)
theorem bg_296 : (.code yX7_hasNoResult cX7_hasNoResult 2 (some .boolean) : Cond) ∈ bg := bgf (tb_3 _ (List.mem_of_getElem? (i := 168) (by rfl))) (by rfl)
theorem bg_297 : (.instanceMethod yX7_hasNoResult : Cond) ∈ bg := bgf (tb_3 _ (List.mem_of_getElem? (i := 166) (by decide +kernel))) (by rfl)
theorem bg_298 : (.selects RX7 yX7_hasNoResult yX7_hasNoResult : Cond) ∈ bg := bgf (tb_3 _ (List.mem_of_getElem? (i := 167) (by decide +kernel))) (by rfl)
theorem bg_299 : (.fieldLink RX2 178 "ClassGate$Member" "code" "LClassGate$Code;" : Cond) ∈ bg := bgf (tb_2 _ (List.mem_of_getElem? (i := 148) (by decide +kernel))) (by rfl)
theorem bg_300 : (.code yX3_init cX3_init 2 none : Cond) ∈ bg := bgf (tb_1 _ (List.mem_of_getElem? (i := 72) (by rfl))) (by rfl)
theorem bg_301 : (.methodLink RX3 1 objectInit : Cond) ∈ bg := bgf (tb_1 _ (List.mem_of_getElem? (i := 73) (by decide +kernel))) (by rfl)
theorem bg_302 : (.fieldLink RX3 7 "ClassGate$ClassFile" "bytes" "LClassGate$Bytes;" : Cond) ∈ bg := bgf (tb_1 _ (List.mem_of_getElem? (i := 122) (by decide +kernel))) (by rfl)
theorem bg_303 : (.classLink RX3 13 RX7 : Cond) ∈ bg := bgf (tb_1 _ (List.mem_of_getElem? (i := 74) (by decide +kernel))) (by rfl)
theorem bg_304 : (.instantiable RX7 8 : Cond) ∈ bg := bgf (tb_1 _ (List.mem_of_getElem? (i := 75) (by decide +kernel))) (by rfl)
theorem bg_305 : (.methodLink RX3 15 yX7_init : Cond) ∈ bg := bgf (tb_1 _ (List.mem_of_getElem? (i := 76) (by decide +kernel))) (by rfl)
theorem bg_306 : (.code yX7_init cX7_init 4 none : Cond) ∈ bg := bgf (tb_1 _ (List.mem_of_getElem? (i := 78) (by rfl))) (by rfl)
theorem bg_307 : (.instanceMethod yX7_init : Cond) ∈ bg := bgf (tb_1 _ (List.mem_of_getElem? (i := 77) (by decide +kernel))) (by rfl)
theorem bg_308 : (.fieldLink RX3 18 "ClassGate$ClassFile" "pool" "LClassGate$Pool;" : Cond) ∈ bg := bgf (tb_1 _ (List.mem_of_getElem? (i := 128) (by decide +kernel))) (by rfl)
theorem bg_309 : (.classLink RX3 22 RX6 : Cond) ∈ bg := bgf (tb_1 _ (List.mem_of_getElem? (i := 119) (by decide +kernel))) (by rfl)
theorem bg_310 : (.fieldLink RX3 24 "ClassGate$ClassFile" "fields" "[LClassGate$Member;" : Cond) ∈ bg := bgf (tb_1 _ (List.mem_of_getElem? (i := 148) (by decide +kernel))) (by rfl)
theorem bg_311 : (.fieldLink RX3 28 "ClassGate$ClassFile" "methods" "[LClassGate$Member;" : Cond) ∈ bg := bgf (tb_1 _ (List.mem_of_getElem? (i := 152) (by decide +kernel))) (by rfl)
theorem bg_312 : (.fieldLink RX3 31 "ClassGate$ClassFile" "recordCount" "I" : Cond) ∈ bg := bgf (tb_1 _ (List.mem_of_getElem? (i := 173) (by decide +kernel))) (by rfl)
theorem bg_313 : (.fieldLink RX3 35 "ClassGate$ClassFile" "flagsAt" "I" : Cond) ∈ bg := bgf (tb_1 _ (List.mem_of_getElem? (i := 143) (by decide +kernel))) (by rfl)
theorem bg_314 : (.methodLink RX3 38 yX1_u2 : Cond) ∈ bg := bgf (tb_3 _ (List.mem_of_getElem? (i := 200) (by decide +kernel))) (by rfl)
theorem bg_315 : (.code yX3_number cX3_number 2 (some .int) : Cond) ∈ bg := bgf (tb_6 _ (List.mem_of_getElem? (i := 95) (by rfl))) (by rfl)
theorem bg_316 : (.fieldLink RX3 44 "ClassGate$Pool" "size" "I" : Cond) ∈ bg := bgf (tb_1 _ (List.mem_of_getElem? (i := 88) (by decide +kernel))) (by rfl)
theorem bg_317 : (.fieldLink RX3 47 "ClassGate$ClassFile" "interfaceCount" "I" : Cond) ∈ bg := bgf (tb_1 _ (List.mem_of_getElem? (i := 145) (by decide +kernel))) (by rfl)
theorem bg_318 : (.fieldLink RX3 50 "ClassGate$ClassFile" "major" "I" : Cond) ∈ bg := bgf (tb_1 _ (List.mem_of_getElem? (i := 139) (by decide +kernel))) (by rfl)
theorem bg_319 : (.fieldLink RX3 53 "ClassGate$ClassFile" "minor" "I" : Cond) ∈ bg := bgf (tb_1 _ (List.mem_of_getElem? (i := 135) (by decide +kernel))) (by rfl)
theorem bg_320 : (.fieldLink RX3 56 "ClassGate$Pool" "characterCount" "I" : Cond) ∈ bg := bgf (tb_1 _ (List.mem_of_getElem? (i := 97) (by decide +kernel))) (by rfl)
theorem bg_321 : (.methodLink RX3 59 yX3_attributeNumber : Cond) ∈ bg := bgf (tb_6 _ (List.mem_of_getElem? (i := 96) (by decide +kernel))) (by rfl)
theorem bg_322 : (.code yX3_attributeNumber cX3_attributeNumber 2 (some .int) : Cond) ∈ bg := bgf (tb_6 _ (List.mem_of_getElem? (i := 99) (by rfl))) (by rfl)
theorem bg_323 : (.instanceMethod yX3_attributeNumber : Cond) ∈ bg := bgf (tb_6 _ (List.mem_of_getElem? (i := 98) (by decide +kernel))) (by rfl)
theorem bg_324 : (.selects RX3 yX3_attributeNumber yX3_attributeNumber : Cond) ∈ bg := bgf (List.mem_of_getElem? (i := 72) (by decide +kernel)) (by rfl)
theorem bg_325 : (.fieldLink RX3 62 "ClassGate$ClassFile" "bootstrapCount" "I" : Cond) ∈ bg := bgf (tb_1 _ (List.mem_of_getElem? (i := 162) (by decide +kernel))) (by rfl)
theorem bg_326 : (.fieldLink RX3 65 "ClassGate$ClassFile" "known" "I" : Cond) ∈ bg := bgf (tb_1 _ (List.mem_of_getElem? (i := 160) (by decide +kernel))) (by rfl)
theorem bg_327 : (.fieldLink RX3 68 "ClassGate$ClassFile" "innerCount" "I" : Cond) ∈ bg := bgf (tb_1 _ (List.mem_of_getElem? (i := 167) (by decide +kernel))) (by rfl)
theorem bg_328 : (.fieldLink RX3 71 "ClassGate$ClassFile" "nestCount" "I" : Cond) ∈ bg := bgf (tb_1 _ (List.mem_of_getElem? (i := 169) (by decide +kernel))) (by rfl)
theorem bg_329 : (.fieldLink RX3 74 "ClassGate$ClassFile" "permittedCount" "I" : Cond) ∈ bg := bgf (tb_1 _ (List.mem_of_getElem? (i := 171) (by decide +kernel))) (by rfl)
theorem bg_330 : (.code yX3_memberAt cX3_memberAt 4 (some (.object "ClassGate$Member")) : Cond) ∈ bg := bgf (tb_5 _ (List.mem_of_getElem? (i := 75) (by rfl))) (by rfl)
theorem bg_331 : (.code yX3_bootstrapPart cX3_bootstrapPart 5 (some .int) : Cond) ∈ bg := bgf (tb_5 _ (List.mem_of_getElem? (i := 63) (by rfl))) (by rfl)
theorem bg_332 : (.fieldLink RX3 77 "ClassGate$ClassFile" "bootstrapsAt" "I" : Cond) ∈ bg := bgf (tb_1 _ (List.mem_of_getElem? (i := 165) (by decide +kernel))) (by rfl)
theorem bg_333 : (.methodLink RX4 3 objectInit : Cond) ∈ bg := bgf (tb_4 _ (List.mem_of_getElem? (i := 112) (by decide +kernel))) (by rfl)
theorem bg_334 : (.fieldLink RX4 9 "ClassGate$ClassFile" "bytes" "LClassGate$Bytes;" : Cond) ∈ bg := bgf (tb_1 _ (List.mem_of_getElem? (i := 121) (by decide +kernel))) (by rfl)
theorem bg_335 : (.methodLink RX4 15 yX1_u2 : Cond) ∈ bg := bgf (tb_4 _ (List.mem_of_getElem? (i := 113) (by decide +kernel))) (by rfl)
theorem bg_336 : (.fieldLink RX4 21 "ClassGate$Code" "maxStack" "I" : Cond) ∈ bg := bgf (tb_4 _ (List.mem_of_getElem? (i := 164) (by decide +kernel))) (by rfl)
theorem bg_337 : (.fieldLink RX4 27 "ClassGate$Code" "maxLocals" "I" : Cond) ∈ bg := bgf (tb_4 _ (List.mem_of_getElem? (i := 166) (by decide +kernel))) (by rfl)
theorem bg_338 : (.methodLink RX4 30 yX1_u4 : Cond) ∈ bg := bgf (tb_4 _ (List.mem_of_getElem? (i := 114) (by decide +kernel))) (by rfl)
theorem bg_339 : (.fieldLink RX4 33 "ClassGate$Code" "length" "I" : Cond) ∈ bg := bgf (tb_4 _ (List.mem_of_getElem? (i := 169) (by decide +kernel))) (by rfl)
theorem bg_340 : (.fieldLink RX4 36 "ClassGate$Code" "rowsAt" "I" : Cond) ∈ bg := bgf (tb_4 _ (List.mem_of_getElem? (i := 172) (by decide +kernel))) (by rfl)
theorem bg_341 : (.fieldLink RX4 39 "ClassGate$Code" "rowCount" "I" : Cond) ∈ bg := bgf (tb_4 _ (List.mem_of_getElem? (i := 175) (by decide +kernel))) (by rfl)
theorem bg_342 : (.fieldLink RX4 42 "ClassGate$ClassFile" "pool" "LClassGate$Pool;" : Cond) ∈ bg := bgf (tb_1 _ (List.mem_of_getElem? (i := 131) (by decide +kernel))) (by rfl)
theorem bg_343 : (.fieldLink RX4 46 "ClassGate$Code" "pool" "LClassGate$Pool;" : Cond) ∈ bg := bgf (tb_4 _ (List.mem_of_getElem? (i := 179) (by decide +kernel))) (by rfl)
theorem bg_344 : (.fieldLink RX4 47 "ClassGate$ClassFile" "major" "I" : Cond) ∈ bg := bgf (tb_1 _ (List.mem_of_getElem? (i := 137) (by decide +kernel))) (by rfl)
theorem bg_345 : (.fieldLink RX4 50 "ClassGate$Code" "major" "I" : Cond) ∈ bg := bgf (tb_4 _ (List.mem_of_getElem? (i := 180) (by decide +kernel))) (by rfl)
theorem bg_346 : (.classLink RX4 51 RX5 : Cond) ∈ bg := bgf (tb_4 _ (List.mem_of_getElem? (i := 115) (by decide +kernel))) (by rfl)
theorem bg_347 : (.initialized RX5 : Cond) ∈ bg := bgf (tb_1 _ (List.mem_of_getElem? (i := 26) (by decide +kernel))) (by rfl)
theorem bg_348 : (.instantiable RX5 12 : Cond) ∈ bg := bgf (tb_4 _ (List.mem_of_getElem? (i := 116) (by decide +kernel))) (by rfl)
theorem bg_349 : (.methodLink RX4 53 yX5_init : Cond) ∈ bg := bgf (tb_4 _ (List.mem_of_getElem? (i := 117) (by decide +kernel))) (by rfl)
theorem bg_350 : (.code yX5_init cX5_init 4 none : Cond) ∈ bg := bgf (tb_4 _ (List.mem_of_getElem? (i := 119) (by rfl))) (by rfl)
theorem bg_351 : (.instanceMethod yX5_init : Cond) ∈ bg := bgf (tb_4 _ (List.mem_of_getElem? (i := 118) (by decide +kernel))) (by rfl)
theorem bg_352 : (.fieldLink RX4 56 "ClassGate$Code" "one" "LClassGate$Instruction;" : Cond) ∈ bg := bgf (tb_4 _ (List.mem_of_getElem? (i := 181) (by decide +kernel))) (by rfl)
theorem bg_353 : (.fieldLink RX4 60 "ClassGate$Code" "cutResult" "I" : Cond) ∈ bg := bgf (tb_4 _ (List.mem_of_getElem? (i := 182) (by decide +kernel))) (by rfl)
theorem bg_354 : (.code yX4_cutUp cX4_cutUp 4 (some .int) : Cond) ∈ bg := bgf (tb_5 _ (List.mem_of_getElem? (i := 79) (by rfl))) (by rfl)
theorem bg_355 : (.arrayClass .int : Cond) ∈ bg := bgf (tb_1 _ (List.mem_of_getElem? (i := 117) (by decide +kernel))) (by rfl)
theorem bg_356 : (.fieldLink RX4 69 "ClassGate$Code" "starts" "[I" : Cond) ∈ bg := bgf (tb_4 _ (List.mem_of_getElem? (i := 183) (by decide +kernel))) (by rfl)
theorem bg_357 : (.fieldLink RX4 73 "ClassGate$Code" "numbers" "[I" : Cond) ∈ bg := bgf (tb_4 _ (List.mem_of_getElem? (i := 184) (by decide +kernel))) (by rfl)
theorem bg_358 : (.methodLink RX4 76 yX5_isTakenApart : Cond) ∈ bg := bgf (tb_5 _ (List.mem_of_getElem? (i := 81) (by decide +kernel))) (by rfl)
theorem bg_359 : (.code yX5_isTakenApart cX5_isTakenApart 2 (some .boolean) : Cond) ∈ bg := bgf (tb_5 _ (List.mem_of_getElem? (i := 84) (by rfl))) (by rfl)
theorem bg_360 : (.instanceMethod yX5_isTakenApart : Cond) ∈ bg := bgf (tb_5 _ (List.mem_of_getElem? (i := 82) (by decide +kernel))) (by rfl)
theorem bg_361 : (.selects RX5 yX5_isTakenApart yX5_isTakenApart : Cond) ∈ bg := bgf (tb_5 _ (List.mem_of_getElem? (i := 83) (by decide +kernel))) (by rfl)
theorem bg_362 : (.methodLink RX4 80 yX4_operandsHold : Cond) ∈ bg := bgf (tb_5 _ (List.mem_of_getElem? (i := 151) (by decide +kernel))) (by rfl)
theorem bg_363 : (.code yX4_operandsHold cX4_operandsHold 2 (some .boolean) : Cond) ∈ bg := bgf (tb_5 _ (List.mem_of_getElem? (i := 154) (by rfl))) (by rfl)
theorem bg_364 : (.instanceMethod yX4_operandsHold : Cond) ∈ bg := bgf (tb_5 _ (List.mem_of_getElem? (i := 153) (by decide +kernel))) (by rfl)
theorem bg_365 : (.selects RX4 yX4_operandsHold yX4_operandsHold : Cond) ∈ bg := bgf (List.mem_of_getElem? (i := 62) (by decide +kernel)) (by rfl)
theorem bg_366 : (.fieldLink RX4 84 "ClassGate$Instruction" "size" "I" : Cond) ∈ bg := bgf (tb_4 _ (List.mem_of_getElem? (i := 126) (by decide +kernel))) (by rfl)
theorem bg_367 : (.methodLink RX4 87 yX4_targetsHold : Cond) ∈ bg := bgf (tb_5 _ (List.mem_of_getElem? (i := 181) (by decide +kernel))) (by rfl)
theorem bg_368 : (.code yX4_targetsHold cX4_targetsHold 2 (some .boolean) : Cond) ∈ bg := bgf (tb_5 _ (List.mem_of_getElem? (i := 184) (by rfl))) (by rfl)
theorem bg_369 : (.instanceMethod yX4_targetsHold : Cond) ∈ bg := bgf (tb_5 _ (List.mem_of_getElem? (i := 183) (by decide +kernel))) (by rfl)
theorem bg_370 : (.selects RX4 yX4_targetsHold yX4_targetsHold : Cond) ∈ bg := bgf (List.mem_of_getElem? (i := 67) (by decide +kernel)) (by rfl)
theorem bg_371 : (.code yX4_startOf cX4_startOf 2 (some .int) : Cond) ∈ bg := bgf (tb_5 _ (List.mem_of_getElem? (i := 204) (by rfl))) (by rfl)
theorem bg_372 : (.code yX4_numberAt cX4_numberAt 3 (some .int) : Cond) ∈ bg := bgf (tb_5 _ (List.mem_of_getElem? (i := 192) (by rfl))) (by rfl)
theorem bg_373 : (.code yX4_number cX4_number 4 (some .int) : Cond) ∈ bg := bgf (tb_6 _ (List.mem_of_getElem? (i := 146) (by rfl))) (by rfl)
theorem bg_374 : (.methodLink RX4 90 yX4_startOf : Cond) ∈ bg := bgf (tb_5 _ (List.mem_of_getElem? (i := 201) (by decide +kernel))) (by rfl)
theorem bg_375 : (.instanceMethod yX4_startOf : Cond) ∈ bg := bgf (tb_5 _ (List.mem_of_getElem? (i := 203) (by decide +kernel))) (by rfl)
theorem bg_376 : (.selects RX4 yX4_startOf yX4_startOf : Cond) ∈ bg := bgf (List.mem_of_getElem? (i := 69) (by decide +kernel)) (by rfl)
theorem bg_377 : (.fieldLink RX4 93 "ClassGate$Instruction" "opcode" "I" : Cond) ∈ bg := bgf (tb_4 _ (List.mem_of_getElem? (i := 125) (by decide +kernel))) (by rfl)
theorem bg_378 : (.methodLink RX4 96 yX5_isJump : Cond) ∈ bg := bgf (tb_6 _ (List.mem_of_getElem? (i := 147) (by decide +kernel))) (by rfl)
theorem bg_379 : (.code yX5_isJump cX5_isJump 1 (some .boolean) : Cond) ∈ bg := bgf (tb_6 _ (List.mem_of_getElem? (i := 150) (by rfl))) (by rfl)
theorem bg_380 : (.instanceMethod yX5_isJump : Cond) ∈ bg := bgf (tb_6 _ (List.mem_of_getElem? (i := 148) (by decide +kernel))) (by rfl)
theorem bg_381 : (.selects RX5 yX5_isJump yX5_isJump : Cond) ∈ bg := bgf (tb_6 _ (List.mem_of_getElem? (i := 149) (by decide +kernel))) (by rfl)
theorem bg_382 : (.methodLink RX4 99 yX5_target : Cond) ∈ bg := bgf (tb_5 _ (List.mem_of_getElem? (i := 185) (by decide +kernel))) (by rfl)
theorem bg_383 : (.code yX5_target cX5_target 2 (some .long) : Cond) ∈ bg := bgf (tb_5 _ (List.mem_of_getElem? (i := 188) (by rfl))) (by rfl)
theorem bg_384 : (.instanceMethod yX5_target : Cond) ∈ bg := bgf (tb_5 _ (List.mem_of_getElem? (i := 186) (by decide +kernel))) (by rfl)
theorem bg_385 : (.selects RX5 yX5_target yX5_target : Cond) ∈ bg := bgf (tb_5 _ (List.mem_of_getElem? (i := 187) (by decide +kernel))) (by rfl)
theorem bg_386 : (.methodLink RX4 103 yX4_numberAt : Cond) ∈ bg := bgf (tb_5 _ (List.mem_of_getElem? (i := 189) (by decide +kernel))) (by rfl)
theorem bg_387 : (.instanceMethod yX4_numberAt : Cond) ∈ bg := bgf (tb_5 _ (List.mem_of_getElem? (i := 191) (by decide +kernel))) (by rfl)
theorem bg_388 : (.selects RX4 yX4_numberAt yX4_numberAt : Cond) ∈ bg := bgf (List.mem_of_getElem? (i := 68) (by decide +kernel)) (by rfl)
theorem bg_389 : (.fieldLink RX4 107 "ClassGate$Instruction" "first" "I" : Cond) ∈ bg := bgf (tb_4 _ (List.mem_of_getElem? (i := 128) (by decide +kernel))) (by rfl)
theorem bg_390 : (.fieldLink RX4 110 "ClassGate$Instruction" "second" "I" : Cond) ∈ bg := bgf (tb_4 _ (List.mem_of_getElem? (i := 130) (by decide +kernel))) (by rfl)
theorem bg_391 : (.methodLink RX4 113 yX5_isSwitch : Cond) ∈ bg := bgf (tb_5 _ (List.mem_of_getElem? (i := 205) (by decide +kernel))) (by rfl)
theorem bg_392 : (.code yX5_isSwitch cX5_isSwitch 1 (some .boolean) : Cond) ∈ bg := bgf (tb_5 _ (List.mem_of_getElem? (i := 93) (by rfl))) (by rfl)
theorem bg_393 : (.instanceMethod yX5_isSwitch : Cond) ∈ bg := bgf (tb_5 _ (List.mem_of_getElem? (i := 91) (by decide +kernel))) (by rfl)
theorem bg_394 : (.selects RX5 yX5_isSwitch yX5_isSwitch : Cond) ∈ bg := bgf (tb_5 _ (List.mem_of_getElem? (i := 92) (by decide +kernel))) (by rfl)
theorem bg_395 : (.fieldLink RX4 116 "ClassGate$Instruction" "targetCount" "I" : Cond) ∈ bg := bgf (tb_4 _ (List.mem_of_getElem? (i := 135) (by decide +kernel))) (by rfl)
theorem bg_396 : (.code yX4_switchPlace cX4_switchPlace 4 (some .int) : Cond) ∈ bg := bgf (tb_5 _ (List.mem_of_getElem? (i := 200) (by rfl))) (by rfl)
theorem bg_397 : (.methodLink RX4 119 yX5_keyOf : Cond) ∈ bg := bgf (tb_5 _ (List.mem_of_getElem? (i := 206) (by decide +kernel))) (by rfl)
theorem bg_398 : (.code yX5_keyOf cX5_keyOf 2 (some .int) : Cond) ∈ bg := bgf (tb_5 _ (List.mem_of_getElem? (i := 115) (by rfl))) (by rfl)
theorem bg_399 : (.instanceMethod yX5_keyOf : Cond) ∈ bg := bgf (tb_5 _ (List.mem_of_getElem? (i := 113) (by decide +kernel))) (by rfl)
end
section
theorem bg_400 : (.selects RX5 yX5_keyOf yX5_keyOf : Cond) ∈ bg := bgf (tb_5 _ (List.mem_of_getElem? (i := 114) (by decide +kernel))) (by rfl)
theorem bg_401 : (.fieldLink RX4 122 "ClassGate$Instruction" "localPlaces" "I" : Cond) ∈ bg := bgf (tb_4 _ (List.mem_of_getElem? (i := 133) (by decide +kernel))) (by rfl)
theorem bg_402 : (.methodLink RX4 125 yX7_tagOf : Cond) ∈ bg := bgf (tb_5 _ (List.mem_of_getElem? (i := 155) (by decide +kernel))) (by rfl)
theorem bg_403 : (.methodLink RX4 130 yX4_isLoadedByLdc : Cond) ∈ bg := bgf (tb_5 _ (List.mem_of_getElem? (i := 156) (by decide +kernel))) (by rfl)
theorem bg_404 : (.code yX4_isLoadedByLdc cX4_isLoadedByLdc 2 (some .boolean) : Cond) ∈ bg := bgf (tb_5 _ (List.mem_of_getElem? (i := 159) (by rfl))) (by rfl)
theorem bg_405 : (.instanceMethod yX4_isLoadedByLdc : Cond) ∈ bg := bgf (tb_5 _ (List.mem_of_getElem? (i := 158) (by decide +kernel))) (by rfl)
theorem bg_406 : (.selects RX4 yX4_isLoadedByLdc yX4_isLoadedByLdc : Cond) ∈ bg := bgf (List.mem_of_getElem? (i := 63) (by decide +kernel)) (by rfl)
theorem bg_407 : (.methodLink RX4 133 yX4_isOfTwoPlaces : Cond) ∈ bg := bgf (tb_5 _ (List.mem_of_getElem? (i := 162) (by decide +kernel))) (by rfl)
theorem bg_408 : (.code yX4_isOfTwoPlaces cX4_isOfTwoPlaces 2 (some .boolean) : Cond) ∈ bg := bgf (tb_5 _ (List.mem_of_getElem? (i := 165) (by rfl))) (by rfl)
theorem bg_409 : (.instanceMethod yX4_isOfTwoPlaces : Cond) ∈ bg := bgf (tb_5 _ (List.mem_of_getElem? (i := 164) (by decide +kernel))) (by rfl)
theorem bg_410 : (.selects RX4 yX4_isOfTwoPlaces yX4_isOfTwoPlaces : Cond) ∈ bg := bgf (List.mem_of_getElem? (i := 64) (by decide +kernel)) (by rfl)
theorem bg_411 : (.methodLink RX4 136 yX7_isPlainClass : Cond) ∈ bg := bgf (tb_5 _ (List.mem_of_getElem? (i := 166) (by decide +kernel))) (by rfl)
theorem bg_412 : (.methodLink RX4 139 yX7_dimensionsOf : Cond) ∈ bg := bgf (tb_5 _ (List.mem_of_getElem? (i := 167) (by decide +kernel))) (by rfl)
theorem bg_413 : (.code yX7_dimensionsOf cX7_dimensionsOf 4 (some .int) : Cond) ∈ bg := bgf (tb_5 _ (List.mem_of_getElem? (i := 170) (by rfl))) (by rfl)
theorem bg_414 : (.instanceMethod yX7_dimensionsOf : Cond) ∈ bg := bgf (tb_5 _ (List.mem_of_getElem? (i := 168) (by decide +kernel))) (by rfl)
theorem bg_415 : (.selects RX7 yX7_dimensionsOf yX7_dimensionsOf : Cond) ∈ bg := bgf (tb_5 _ (List.mem_of_getElem? (i := 169) (by decide +kernel))) (by rfl)
theorem bg_416 : (.methodLink RX4 142 yX4_callHolds : Cond) ∈ bg := bgf (tb_5 _ (List.mem_of_getElem? (i := 171) (by decide +kernel))) (by rfl)
theorem bg_417 : (.code yX4_callHolds cX4_callHolds 2 (some .boolean) : Cond) ∈ bg := bgf (tb_5 _ (List.mem_of_getElem? (i := 174) (by rfl))) (by rfl)
theorem bg_418 : (.instanceMethod yX4_callHolds : Cond) ∈ bg := bgf (tb_5 _ (List.mem_of_getElem? (i := 173) (by decide +kernel))) (by rfl)
theorem bg_419 : (.selects RX4 yX4_callHolds yX4_callHolds : Cond) ∈ bg := bgf (List.mem_of_getElem? (i := 65) (by decide +kernel)) (by rfl)
theorem bg_420 : (.methodLink RX4 145 yX7_namesInit : Cond) ∈ bg := bgf (tb_5 _ (List.mem_of_getElem? (i := 175) (by decide +kernel))) (by rfl)
theorem bg_421 : (.code yX7_namesInit cX7_namesInit 2 (some .boolean) : Cond) ∈ bg := bgf (tb_3 _ (List.mem_of_getElem? (i := 110) (by rfl))) (by rfl)
theorem bg_422 : (.instanceMethod yX7_namesInit : Cond) ∈ bg := bgf (tb_3 _ (List.mem_of_getElem? (i := 108) (by decide +kernel))) (by rfl)
theorem bg_423 : (.selects RX7 yX7_namesInit yX7_namesInit : Cond) ∈ bg := bgf (tb_3 _ (List.mem_of_getElem? (i := 109) (by decide +kernel))) (by rfl)
theorem bg_424 : (.methodLink RX4 148 yX4_isMethodOfEither : Cond) ∈ bg := bgf (tb_5 _ (List.mem_of_getElem? (i := 176) (by decide +kernel))) (by rfl)
theorem bg_425 : (.code yX4_isMethodOfEither cX4_isMethodOfEither 2 (some .boolean) : Cond) ∈ bg := bgf (tb_5 _ (List.mem_of_getElem? (i := 179) (by rfl))) (by rfl)
theorem bg_426 : (.instanceMethod yX4_isMethodOfEither : Cond) ∈ bg := bgf (tb_5 _ (List.mem_of_getElem? (i := 178) (by decide +kernel))) (by rfl)
theorem bg_427 : (.selects RX4 yX4_isMethodOfEither yX4_isMethodOfEither : Cond) ∈ bg := bgf (List.mem_of_getElem? (i := 66) (by decide +kernel)) (by rfl)
theorem bg_428 : (.methodLink RX4 151 yX7_descriptorOf : Cond) ∈ bg := bgf (tb_5 _ (List.mem_of_getElem? (i := 160) (by decide +kernel))) (by rfl)
theorem bg_429 : (.code yX7_descriptorOf cX7_descriptorOf 2 (some .int) : Cond) ∈ bg := bgf (tb_3 _ (List.mem_of_getElem? (i := 92) (by rfl))) (by rfl)
theorem bg_430 : (.instanceMethod yX7_descriptorOf : Cond) ∈ bg := bgf (tb_3 _ (List.mem_of_getElem? (i := 90) (by decide +kernel))) (by rfl)
theorem bg_431 : (.selects RX7 yX7_descriptorOf yX7_descriptorOf : Cond) ∈ bg := bgf (tb_3 _ (List.mem_of_getElem? (i := 91) (by decide +kernel))) (by rfl)
theorem bg_432 : (.methodLink RX4 154 yX7_argumentPlaces : Cond) ∈ bg := bgf (tb_5 _ (List.mem_of_getElem? (i := 180) (by decide +kernel))) (by rfl)
theorem bg_433 : (.methodLink RX4 157 yX7_placesTold : Cond) ∈ bg := bgf (tb_5 _ (List.mem_of_getElem? (i := 161) (by decide +kernel))) (by rfl)
theorem bg_434 : (.code yX7_placesTold cX7_placesTold 2 (some .int) : Cond) ∈ bg := bgf (tb_5 _ (List.mem_of_getElem? (i := 50) (by rfl))) (by rfl)
theorem bg_435 : (.instanceMethod yX7_placesTold : Cond) ∈ bg := bgf (tb_5 _ (List.mem_of_getElem? (i := 48) (by decide +kernel))) (by rfl)
theorem bg_436 : (.selects RX7 yX7_placesTold yX7_placesTold : Cond) ∈ bg := bgf (tb_5 _ (List.mem_of_getElem? (i := 49) (by decide +kernel))) (by rfl)
theorem bg_437 : (.methodLink RX5 1 objectInit : Cond) ∈ bg := bgf (tb_4 _ (List.mem_of_getElem? (i := 120) (by decide +kernel))) (by rfl)
theorem bg_438 : (.fieldLink RX5 7 "ClassGate$Instruction" "bytes" "LClassGate$Bytes;" : Cond) ∈ bg := bgf (tb_4 _ (List.mem_of_getElem? (i := 121) (by decide +kernel))) (by rfl)
theorem bg_439 : (.fieldLink RX5 13 "ClassGate$Instruction" "codeAt" "I" : Cond) ∈ bg := bgf (tb_4 _ (List.mem_of_getElem? (i := 122) (by decide +kernel))) (by rfl)
theorem bg_440 : (.fieldLink RX5 17 "ClassGate$Instruction" "codeLength" "I" : Cond) ∈ bg := bgf (tb_4 _ (List.mem_of_getElem? (i := 123) (by decide +kernel))) (by rfl)
theorem bg_441 : (.fieldLink RX5 20 "ClassGate$Instruction" "opcode" "I" : Cond) ∈ bg := bgf (tb_4 _ (List.mem_of_getElem? (i := 124) (by decide +kernel))) (by rfl)
theorem bg_442 : (.fieldLink RX5 23 "ClassGate$Instruction" "targetCount" "I" : Cond) ∈ bg := bgf (tb_4 _ (List.mem_of_getElem? (i := 134) (by decide +kernel))) (by rfl)
theorem bg_443 : (.methodLink RX5 26 yX5_isSwitch : Cond) ∈ bg := bgf (tb_5 _ (List.mem_of_getElem? (i := 90) (by decide +kernel))) (by rfl)
theorem bg_444 : (.code yX5_u1 cX5_u1 2 (some .int) : Cond) ∈ bg := bgf (tb_5 _ (List.mem_of_getElem? (i := 88) (by rfl))) (by rfl)
theorem bg_445 : (.methodLink RX5 30 yX1_u1 : Cond) ∈ bg := bgf (tb_5 _ (List.mem_of_getElem? (i := 89) (by decide +kernel))) (by rfl)
theorem bg_446 : (.instanceMethod yX1_u1 : Cond) ∈ bg := bgf (tb_2 _ (List.mem_of_getElem? (i := 27) (by decide +kernel))) (by rfl)
theorem bg_447 : (.selects RX1 yX1_u1 yX1_u1 : Cond) ∈ bg := bgf (tb_2 _ (List.mem_of_getElem? (i := 28) (by decide +kernel))) (by rfl)
theorem bg_448 : (.code yX5_u2 cX5_u2 2 (some .int) : Cond) ∈ bg := bgf (tb_5 _ (List.mem_of_getElem? (i := 123) (by rfl))) (by rfl)
theorem bg_449 : (.methodLink RX5 36 yX1_u2 : Cond) ∈ bg := bgf (tb_5 _ (List.mem_of_getElem? (i := 124) (by decide +kernel))) (by rfl)
theorem bg_450 : (.code yX5_s4 cX5_s4 2 (some .int) : Cond) ∈ bg := bgf (tb_5 _ (List.mem_of_getElem? (i := 105) (by rfl))) (by rfl)
theorem bg_451 : (.methodLink RX5 39 yX1_u4 : Cond) ∈ bg := bgf (tb_5 _ (List.mem_of_getElem? (i := 106) (by decide +kernel))) (by rfl)
theorem bg_452 : (.fieldLink RX5 42 "ClassGate$Instruction" "pc" "I" : Cond) ∈ bg := bgf (tb_4 _ (List.mem_of_getElem? (i := 136) (by decide +kernel))) (by rfl)
theorem bg_453 : (.methodLink RX5 45 yX5_u1 : Cond) ∈ bg := bgf (tb_5 _ (List.mem_of_getElem? (i := 85) (by decide +kernel))) (by rfl)
theorem bg_454 : (.instanceMethod yX5_u1 : Cond) ∈ bg := bgf (tb_5 _ (List.mem_of_getElem? (i := 87) (by decide +kernel))) (by rfl)
theorem bg_455 : (.selects RX5 yX5_u1 yX5_u1 : Cond) ∈ bg := bgf (List.mem_of_getElem? (i := 50) (by decide +kernel)) (by rfl)
theorem bg_456 : (.fieldLink RX5 46 "ClassGate$Instruction" "size" "I" : Cond) ∈ bg := bgf (tb_4 _ (List.mem_of_getElem? (i := 127) (by decide +kernel))) (by rfl)
theorem bg_457 : (.fieldLink RX5 49 "ClassGate$Instruction" "first" "I" : Cond) ∈ bg := bgf (tb_4 _ (List.mem_of_getElem? (i := 129) (by decide +kernel))) (by rfl)
theorem bg_458 : (.fieldLink RX5 52 "ClassGate$Instruction" "second" "I" : Cond) ∈ bg := bgf (tb_4 _ (List.mem_of_getElem? (i := 131) (by decide +kernel))) (by rfl)
theorem bg_459 : (.fieldLink RX5 55 "ClassGate$Instruction" "localPlaces" "I" : Cond) ∈ bg := bgf (tb_4 _ (List.mem_of_getElem? (i := 132) (by decide +kernel))) (by rfl)
theorem bg_460 : (.methodLink RX5 58 yX5_isSwitchTaken : Cond) ∈ bg := bgf (tb_5 _ (List.mem_of_getElem? (i := 94) (by decide +kernel))) (by rfl)
theorem bg_461 : (.code yX5_isSwitchTaken cX5_isSwitchTaken 2 (some .boolean) : Cond) ∈ bg := bgf (tb_5 _ (List.mem_of_getElem? (i := 97) (by rfl))) (by rfl)
theorem bg_462 : (.instanceMethod yX5_isSwitchTaken : Cond) ∈ bg := bgf (tb_5 _ (List.mem_of_getElem? (i := 96) (by decide +kernel))) (by rfl)
theorem bg_463 : (.selects RX5 yX5_isSwitchTaken yX5_isSwitchTaken : Cond) ∈ bg := bgf (List.mem_of_getElem? (i := 51) (by decide +kernel)) (by rfl)
theorem bg_464 : (.methodLink RX5 61 yX5_isWideTaken : Cond) ∈ bg := bgf (tb_5 _ (List.mem_of_getElem? (i := 116) (by decide +kernel))) (by rfl)
theorem bg_465 : (.code yX5_isWideTaken cX5_isWideTaken 1 (some .boolean) : Cond) ∈ bg := bgf (tb_5 _ (List.mem_of_getElem? (i := 119) (by rfl))) (by rfl)
theorem bg_466 : (.instanceMethod yX5_isWideTaken : Cond) ∈ bg := bgf (tb_5 _ (List.mem_of_getElem? (i := 118) (by decide +kernel))) (by rfl)
theorem bg_467 : (.selects RX5 yX5_isWideTaken yX5_isWideTaken : Cond) ∈ bg := bgf (List.mem_of_getElem? (i := 55) (by decide +kernel)) (by rfl)
theorem bg_468 : (.methodLink RX5 64 yX5_sizeOf : Cond) ∈ bg := bgf (tb_5 _ (List.mem_of_getElem? (i := 132) (by decide +kernel))) (by rfl)
theorem bg_469 : (.code yX5_sizeOf cX5_sizeOf 1 (some .int) : Cond) ∈ bg := bgf (tb_5 _ (List.mem_of_getElem? (i := 134) (by rfl))) (by rfl)
theorem bg_470 : (.static yX5_sizeOf : Cond) ∈ bg := bgf (tb_5 _ (List.mem_of_getElem? (i := 133) (by decide +kernel))) (by rfl)
theorem bg_471 : (.methodLink RX5 67 yX5_areOperandsTaken : Cond) ∈ bg := bgf (tb_5 _ (List.mem_of_getElem? (i := 135) (by decide +kernel))) (by rfl)
theorem bg_472 : (.code yX5_areOperandsTaken cX5_areOperandsTaken 1 (some .boolean) : Cond) ∈ bg := bgf (tb_5 _ (List.mem_of_getElem? (i := 138) (by rfl))) (by rfl)
theorem bg_473 : (.instanceMethod yX5_areOperandsTaken : Cond) ∈ bg := bgf (tb_5 _ (List.mem_of_getElem? (i := 137) (by decide +kernel))) (by rfl)
theorem bg_474 : (.selects RX5 yX5_areOperandsTaken yX5_areOperandsTaken : Cond) ∈ bg := bgf (List.mem_of_getElem? (i := 58) (by decide +kernel)) (by rfl)
theorem bg_475 : (.methodLink RX5 70 yX5_isLocalOpcode : Cond) ∈ bg := bgf (tb_5 _ (List.mem_of_getElem? (i := 125) (by decide +kernel))) (by rfl)
theorem bg_476 : (.code yX5_isLocalOpcode cX5_isLocalOpcode 1 (some .boolean) : Cond) ∈ bg := bgf (tb_5 _ (List.mem_of_getElem? (i := 127) (by rfl))) (by rfl)
theorem bg_477 : (.static yX5_isLocalOpcode : Cond) ∈ bg := bgf (tb_5 _ (List.mem_of_getElem? (i := 126) (by decide +kernel))) (by rfl)
theorem bg_478 : (.methodLink RX5 74 yX5_isShortLocalTaken : Cond) ∈ bg := bgf (tb_5 _ (List.mem_of_getElem? (i := 139) (by decide +kernel))) (by rfl)
theorem bg_479 : (.code yX5_isShortLocalTaken cX5_isShortLocalTaken 3 (some .boolean) : Cond) ∈ bg := bgf (tb_5 _ (List.mem_of_getElem? (i := 142) (by rfl))) (by rfl)
theorem bg_480 : (.instanceMethod yX5_isShortLocalTaken : Cond) ∈ bg := bgf (tb_5 _ (List.mem_of_getElem? (i := 141) (by decide +kernel))) (by rfl)
theorem bg_481 : (.selects RX5 yX5_isShortLocalTaken yX5_isShortLocalTaken : Cond) ∈ bg := bgf (List.mem_of_getElem? (i := 59) (by decide +kernel)) (by rfl)
theorem bg_482 : (.methodLink RX5 78 yX5_isLocalTaken : Cond) ∈ bg := bgf (tb_5 _ (List.mem_of_getElem? (i := 128) (by decide +kernel))) (by rfl)
theorem bg_483 : (.code yX5_isLocalTaken cX5_isLocalTaken 3 (some .boolean) : Cond) ∈ bg := bgf (tb_5 _ (List.mem_of_getElem? (i := 131) (by rfl))) (by rfl)
theorem bg_484 : (.instanceMethod yX5_isLocalTaken : Cond) ∈ bg := bgf (tb_5 _ (List.mem_of_getElem? (i := 130) (by decide +kernel))) (by rfl)
theorem bg_485 : (.selects RX5 yX5_isLocalTaken yX5_isLocalTaken : Cond) ∈ bg := bgf (List.mem_of_getElem? (i := 57) (by decide +kernel)) (by rfl)
theorem bg_486 : (.methodLink RX5 81 yX5_u2 : Cond) ∈ bg := bgf (tb_5 _ (List.mem_of_getElem? (i := 120) (by decide +kernel))) (by rfl)
theorem bg_487 : (.instanceMethod yX5_u2 : Cond) ∈ bg := bgf (tb_5 _ (List.mem_of_getElem? (i := 122) (by decide +kernel))) (by rfl)
theorem bg_488 : (.selects RX5 yX5_u2 yX5_u2 : Cond) ∈ bg := bgf (List.mem_of_getElem? (i := 56) (by decide +kernel)) (by rfl)
theorem bg_489 : (.methodLink RX5 82 yX5_isJumpTaken : Cond) ∈ bg := bgf (tb_5 _ (List.mem_of_getElem? (i := 143) (by decide +kernel))) (by rfl)
theorem bg_490 : (.code yX5_isJumpTaken cX5_isJumpTaken 3 (some .boolean) : Cond) ∈ bg := bgf (tb_5 _ (List.mem_of_getElem? (i := 146) (by rfl))) (by rfl)
theorem bg_491 : (.instanceMethod yX5_isJumpTaken : Cond) ∈ bg := bgf (tb_5 _ (List.mem_of_getElem? (i := 145) (by decide +kernel))) (by rfl)
theorem bg_492 : (.selects RX5 yX5_isJumpTaken yX5_isJumpTaken : Cond) ∈ bg := bgf (List.mem_of_getElem? (i := 60) (by decide +kernel)) (by rfl)
theorem bg_493 : (.methodLink RX5 85 yX5_s4 : Cond) ∈ bg := bgf (tb_5 _ (List.mem_of_getElem? (i := 102) (by decide +kernel))) (by rfl)
theorem bg_494 : (.instanceMethod yX5_s4 : Cond) ∈ bg := bgf (tb_5 _ (List.mem_of_getElem? (i := 104) (by decide +kernel))) (by rfl)
theorem bg_495 : (.selects RX5 yX5_s4 yX5_s4 : Cond) ∈ bg := bgf (List.mem_of_getElem? (i := 53) (by decide +kernel)) (by rfl)
theorem bg_496 : (.methodLink RX5 88 yX5_isIndexTaken : Cond) ∈ bg := bgf (tb_5 _ (List.mem_of_getElem? (i := 147) (by decide +kernel))) (by rfl)
theorem bg_497 : (.code yX5_isIndexTaken cX5_isIndexTaken 1 (some .boolean) : Cond) ∈ bg := bgf (tb_5 _ (List.mem_of_getElem? (i := 150) (by rfl))) (by rfl)
theorem bg_498 : (.instanceMethod yX5_isIndexTaken : Cond) ∈ bg := bgf (tb_5 _ (List.mem_of_getElem? (i := 149) (by decide +kernel))) (by rfl)
theorem bg_499 : (.selects RX5 yX5_isIndexTaken yX5_isIndexTaken : Cond) ∈ bg := bgf (List.mem_of_getElem? (i := 61) (by decide +kernel)) (by rfl)
theorem bg_500 : (.fieldLink RX5 91 "ClassGate$Instruction" "offset" "I" : Cond) ∈ bg := bgf (tb_4 _ (List.mem_of_getElem? (i := 137) (by decide +kernel))) (by rfl)
theorem bg_501 : (.fieldLink RX5 94 "ClassGate$Instruction" "switchAt" "I" : Cond) ∈ bg := bgf (tb_4 _ (List.mem_of_getElem? (i := 138) (by decide +kernel))) (by rfl)
theorem bg_502 : (.methodLink RX5 97 yX5_isTableTaken : Cond) ∈ bg := bgf (tb_5 _ (List.mem_of_getElem? (i := 98) (by decide +kernel))) (by rfl)
theorem bg_503 : (.code yX5_isTableTaken cX5_isTableTaken 3 (some .boolean) : Cond) ∈ bg := bgf (tb_5 _ (List.mem_of_getElem? (i := 101) (by rfl))) (by rfl)
theorem bg_504 : (.instanceMethod yX5_isTableTaken : Cond) ∈ bg := bgf (tb_5 _ (List.mem_of_getElem? (i := 100) (by decide +kernel))) (by rfl)
theorem bg_505 : (.selects RX5 yX5_isTableTaken yX5_isTableTaken : Cond) ∈ bg := bgf (List.mem_of_getElem? (i := 52) (by decide +kernel)) (by rfl)
theorem bg_506 : (.methodLink RX5 100 yX5_isLookupTaken : Cond) ∈ bg := bgf (tb_5 _ (List.mem_of_getElem? (i := 108) (by decide +kernel))) (by rfl)
theorem bg_507 : (.code yX5_isLookupTaken cX5_isLookupTaken 2 (some .boolean) : Cond) ∈ bg := bgf (tb_5 _ (List.mem_of_getElem? (i := 111) (by rfl))) (by rfl)
theorem bg_508 : (.instanceMethod yX5_isLookupTaken : Cond) ∈ bg := bgf (tb_5 _ (List.mem_of_getElem? (i := 110) (by decide +kernel))) (by rfl)
theorem bg_509 : (.selects RX5 yX5_isLookupTaken yX5_isLookupTaken : Cond) ∈ bg := bgf (List.mem_of_getElem? (i := 54) (by decide +kernel)) (by rfl)
theorem bg_510 : (.constantLong RX5 103 4 : Cond) ∈ bg := bgf (tb_5 _ (List.mem_of_getElem? (i := 107) (by decide +kernel))) (by rfl)
theorem bg_511 : (.methodLink RX5 105 yX5_keyOf : Cond) ∈ bg := bgf (tb_5 _ (List.mem_of_getElem? (i := 112) (by decide +kernel))) (by rfl)
theorem bg_512 : (.code yX6_init cX6_init 3 none : Cond) ∈ bg := bgf (tb_2 _ (List.mem_of_getElem? (i := 119) (by rfl))) (by rfl)
theorem bg_513 : (.methodLink RX6 1 objectInit : Cond) ∈ bg := bgf (tb_2 _ (List.mem_of_getElem? (i := 120) (by decide +kernel))) (by rfl)
theorem bg_514 : (.fieldLink RX6 7 "ClassGate$Member" "begin" "I" : Cond) ∈ bg := bgf (tb_2 _ (List.mem_of_getElem? (i := 122) (by decide +kernel))) (by rfl)
theorem bg_515 : (.methodLink RX6 13 yX1_u2 : Cond) ∈ bg := bgf (tb_2 _ (List.mem_of_getElem? (i := 121) (by decide +kernel))) (by rfl)
theorem bg_516 : (.fieldLink RX6 19 "ClassGate$Member" "flags" "I" : Cond) ∈ bg := bgf (tb_2 _ (List.mem_of_getElem? (i := 124) (by decide +kernel))) (by rfl)
theorem bg_517 : (.fieldLink RX6 22 "ClassGate$Member" "name" "I" : Cond) ∈ bg := bgf (tb_2 _ (List.mem_of_getElem? (i := 126) (by decide +kernel))) (by rfl)
theorem bg_518 : (.fieldLink RX6 25 "ClassGate$Member" "descriptor" "I" : Cond) ∈ bg := bgf (tb_2 _ (List.mem_of_getElem? (i := 129) (by decide +kernel))) (by rfl)
theorem bg_519 : (.fieldLink RX6 28 "ClassGate$Member" "attributeCount" "I" : Cond) ∈ bg := bgf (tb_2 _ (List.mem_of_getElem? (i := 133) (by decide +kernel))) (by rfl)
theorem bg_520 : (.fieldLink RX6 31 "ClassGate$Member" "attributesAt" "I" : Cond) ∈ bg := bgf (tb_2 _ (List.mem_of_getElem? (i := 135) (by decide +kernel))) (by rfl)
theorem bg_521 : (.code yX6_number cX6_number 3 (some .int) : Cond) ∈ bg := bgf (tb_6 _ (List.mem_of_getElem? (i := 121) (by rfl))) (by rfl)
theorem bg_522 : (.fieldLink RX6 34 "ClassGate$Member" "known" "I" : Cond) ∈ bg := bgf (tb_2 _ (List.mem_of_getElem? (i := 138) (by decide +kernel))) (by rfl)
theorem bg_523 : (.fieldLink RX6 37 "ClassGate$Member" "argumentPlaces" "I" : Cond) ∈ bg := bgf (tb_2 _ (List.mem_of_getElem? (i := 141) (by decide +kernel))) (by rfl)
theorem bg_524 : (.fieldLink RX6 40 "ClassGate$Member" "exceptionCount" "I" : Cond) ∈ bg := bgf (tb_2 _ (List.mem_of_getElem? (i := 144) (by decide +kernel))) (by rfl)
theorem bg_525 : (.methodLink RX6 43 yX6_codeNumber : Cond) ∈ bg := bgf (tb_6 _ (List.mem_of_getElem? (i := 122) (by decide +kernel))) (by rfl)
theorem bg_526 : (.code yX6_codeNumber cX6_codeNumber 2 (some .int) : Cond) ∈ bg := bgf (tb_6 _ (List.mem_of_getElem? (i := 125) (by rfl))) (by rfl)
theorem bg_527 : (.instanceMethod yX6_codeNumber : Cond) ∈ bg := bgf (tb_6 _ (List.mem_of_getElem? (i := 124) (by decide +kernel))) (by rfl)
theorem bg_528 : (.selects RX6 yX6_codeNumber yX6_codeNumber : Cond) ∈ bg := bgf (List.mem_of_getElem? (i := 73) (by decide +kernel)) (by rfl)
theorem bg_529 : (.fieldLink RX6 46 "ClassGate$Member" "constant" "I" : Cond) ∈ bg := bgf (tb_2 _ (List.mem_of_getElem? (i := 140) (by decide +kernel))) (by rfl)
theorem bg_530 : (.fieldLink RX6 49 "ClassGate$Member" "code" "LClassGate$Code;" : Cond) ∈ bg := bgf (tb_2 _ (List.mem_of_getElem? (i := 146) (by decide +kernel))) (by rfl)
theorem bg_531 : (.fieldLink RX6 53 "ClassGate$Code" "length" "I" : Cond) ∈ bg := bgf (tb_4 _ (List.mem_of_getElem? (i := 170) (by decide +kernel))) (by rfl)
theorem bg_532 : (.fieldLink RX6 58 "ClassGate$Code" "maxStack" "I" : Cond) ∈ bg := bgf (tb_4 _ (List.mem_of_getElem? (i := 165) (by decide +kernel))) (by rfl)
theorem bg_533 : (.fieldLink RX6 61 "ClassGate$Code" "maxLocals" "I" : Cond) ∈ bg := bgf (tb_4 _ (List.mem_of_getElem? (i := 167) (by decide +kernel))) (by rfl)
theorem bg_534 : (.fieldLink RX6 64 "ClassGate$Code" "rowCount" "I" : Cond) ∈ bg := bgf (tb_4 _ (List.mem_of_getElem? (i := 176) (by decide +kernel))) (by rfl)
theorem bg_535 : (.methodLink RX7 3 objectInit : Cond) ∈ bg := bgf (tb_1 _ (List.mem_of_getElem? (i := 79) (by decide +kernel))) (by rfl)
theorem bg_536 : (.fieldLink RX7 9 "ClassGate$Pool" "size" "I" : Cond) ∈ bg := bgf (tb_1 _ (List.mem_of_getElem? (i := 86) (by decide +kernel))) (by rfl)
theorem bg_537 : (.fieldLink RX7 24 "ClassGate$Pool" "tags" "[I" : Cond) ∈ bg := bgf (tb_1 _ (List.mem_of_getElem? (i := 91) (by decide +kernel))) (by rfl)
theorem bg_538 : (.fieldLink RX7 28 "ClassGate$Pool" "tagPlaces" "[I" : Cond) ∈ bg := bgf (tb_1 _ (List.mem_of_getElem? (i := 92) (by decide +kernel))) (by rfl)
theorem bg_539 : (.fieldLink RX7 31 "ClassGate$Pool" "firsts" "[I" : Cond) ∈ bg := bgf (tb_1 _ (List.mem_of_getElem? (i := 93) (by decide +kernel))) (by rfl)
theorem bg_540 : (.fieldLink RX7 34 "ClassGate$Pool" "seconds" "[I" : Cond) ∈ bg := bgf (tb_1 _ (List.mem_of_getElem? (i := 94) (by decide +kernel))) (by rfl)
theorem bg_541 : (.fieldLink RX7 37 "ClassGate$Pool" "shapes" "[I" : Cond) ∈ bg := bgf (tb_1 _ (List.mem_of_getElem? (i := 95) (by decide +kernel))) (by rfl)
theorem bg_542 : (.arrayClass .char : Cond) ∈ bg := bgf (tb_1 _ (List.mem_of_getElem? (i := 118) (by decide +kernel))) (by rfl)
theorem bg_543 : (.fieldLink RX7 40 "ClassGate$Pool" "characters" "[C" : Cond) ∈ bg := bgf (tb_1 _ (List.mem_of_getElem? (i := 96) (by decide +kernel))) (by rfl)
theorem bg_544 : (.code yX7_setTag cX7_setTag 4 none : Cond) ∈ bg := bgf (tb_2 _ (List.mem_of_getElem? (i := 56) (by rfl))) (by rfl)
theorem bg_545 : (.code yX7_setNumbers cX7_setNumbers 4 none : Cond) ∈ bg := bgf (tb_2 _ (List.mem_of_getElem? (i := 80) (by rfl))) (by rfl)
theorem bg_546 : (.code yX7_addCharacter cX7_addCharacter 2 none : Cond) ∈ bg := bgf (tb_2 _ (List.mem_of_getElem? (i := 76) (by rfl))) (by rfl)
theorem bg_547 : (.fieldLink RX7 44 "ClassGate$Pool" "characterCount" "I" : Cond) ∈ bg := bgf (tb_1 _ (List.mem_of_getElem? (i := 98) (by decide +kernel))) (by rfl)
theorem bg_548 : (.code yX7_tagPlace cX7_tagPlace 2 (some .int) : Cond) ∈ bg := bgf (tb_3 _ (List.mem_of_getElem? (i := 177) (by rfl))) (by rfl)
theorem bg_549 : (.code yX7_secondIndex cX7_secondIndex 2 (some .int) : Cond) ∈ bg := bgf (tb_3 _ (List.mem_of_getElem? (i := 47) (by rfl))) (by rfl)
theorem bg_550 : (.code yX7_isWide cX7_isWide 3 (some .boolean) : Cond) ∈ bg := bgf (tb_2 _ (List.mem_of_getElem? (i := 88) (by rfl))) (by rfl)
theorem bg_551 : (.methodLink RX7 47 yX7_tagOf : Cond) ∈ bg := bgf (tb_2 _ (List.mem_of_getElem? (i := 89) (by decide +kernel))) (by rfl)
theorem bg_552 : (.methodLink RX7 51 yJ0_length_8abf5 : Cond) ∈ bg := bgf (tb_3 _ (List.mem_of_getElem? (i := 117) (by decide +kernel))) (by rfl)
theorem bg_553 : (.code yJ0_length_8abf5 cJ0_length_8abf5 1 (some .int) : Cond) ∈ bg := bgf (tb_3 _ (List.mem_of_getElem? (i := 120) (by rfl))) (by rfl)
theorem bg_554 : (.instanceMethod yJ0_length_8abf5 : Cond) ∈ bg := bgf (tb_3 _ (List.mem_of_getElem? (i := 118) (by decide +kernel))) (by rfl)
theorem bg_555 : (.selects RJ0 yJ0_length_8abf5 yJ0_length_8abf5 : Cond) ∈ bg := bgf (tb_3 _ (List.mem_of_getElem? (i := 119) (by decide +kernel))) (by rfl)
theorem bg_556 : (.initialized RJ0 : Cond) ∈ bg := bgf (tb_1 _ (List.mem_of_getElem? (i := 3) (by decide +kernel))) (by rfl)
theorem bg_557 : (.methodLink RX7 57 yJ0_charAt_5068e : Cond) ∈ bg := bgf (tb_3 _ (List.mem_of_getElem? (i := 127) (by decide +kernel))) (by rfl)
theorem bg_558 : (.code yJ0_charAt_5068e cJ0_charAt_5068e 2 (some .char) : Cond) ∈ bg := bgf (tb_3 _ (List.mem_of_getElem? (i := 130) (by rfl))) (by rfl)
theorem bg_559 : (.instanceMethod yJ0_charAt_5068e : Cond) ∈ bg := bgf (tb_3 _ (List.mem_of_getElem? (i := 128) (by decide +kernel))) (by rfl)
theorem bg_560 : (.selects RJ0 yJ0_charAt_5068e yJ0_charAt_5068e : Cond) ∈ bg := bgf (tb_3 _ (List.mem_of_getElem? (i := 129) (by decide +kernel))) (by rfl)
theorem bg_561 : (.fieldLink RX7 61 "ClassGate$Member" "name" "I" : Cond) ∈ bg := bgf (tb_2 _ (List.mem_of_getElem? (i := 128) (by decide +kernel))) (by rfl)
theorem bg_562 : (.methodLink RX7 66 yX7_sameText : Cond) ∈ bg := bgf (tb_3 _ (List.mem_of_getElem? (i := 239) (by decide +kernel))) (by rfl)
theorem bg_563 : (.fieldLink RX7 70 "ClassGate$Member" "descriptor" "I" : Cond) ∈ bg := bgf (tb_2 _ (List.mem_of_getElem? (i := 132) (by decide +kernel))) (by rfl)
theorem bg_564 : (.methodLink RX7 73 yX7_textLength : Cond) ∈ bg := bgf (tb_3 _ (List.mem_of_getElem? (i := 72) (by decide +kernel))) (by rfl)
theorem bg_565 : (.code yX7_isClassText cX7_isClassText 4 (some .boolean) : Cond) ∈ bg := bgf (tb_3 _ (List.mem_of_getElem? (i := 63) (by rfl))) (by rfl)
theorem bg_566 : (.methodLink RX7 76 yX7_characterAt : Cond) ∈ bg := bgf (tb_3 _ (List.mem_of_getElem? (i := 64) (by decide +kernel))) (by rfl)
theorem bg_567 : (.methodLink RX7 79 yX7_isFieldDescriptor : Cond) ∈ bg := bgf (tb_3 _ (List.mem_of_getElem? (i := 68) (by decide +kernel))) (by rfl)
theorem bg_568 : (.methodLink RX7 83 yX7_nameEnd : Cond) ∈ bg := bgf (tb_2 _ (List.mem_of_getElem? (i := 203) (by decide +kernel))) (by rfl)
theorem bg_569 : (.code yX7_nameEnd cX7_nameEnd 6 (some .int) : Cond) ∈ bg := bgf (tb_2 _ (List.mem_of_getElem? (i := 206) (by rfl))) (by rfl)
theorem bg_570 : (.instanceMethod yX7_nameEnd : Cond) ∈ bg := bgf (tb_2 _ (List.mem_of_getElem? (i := 205) (by decide +kernel))) (by rfl)
theorem bg_571 : (.selects RX7 yX7_nameEnd yX7_nameEnd : Cond) ∈ bg := bgf (List.mem_of_getElem? (i := 13) (by decide +kernel)) (by rfl)
theorem bg_572 : (.methodLink RX7 86 yX7_isMethodDescriptor : Cond) ∈ bg := bgf (tb_3 _ (List.mem_of_getElem? (i := 169) (by decide +kernel))) (by rfl)
theorem bg_573 : (.methodLink RX7 89 yX7_firstIndex : Cond) ∈ bg := bgf (tb_3 _ (List.mem_of_getElem? (i := 102) (by decide +kernel))) (by rfl)
theorem bg_574 : (.code yX7_nameOf cX7_nameOf 2 (some .int) : Cond) ∈ bg := bgf (tb_3 _ (List.mem_of_getElem? (i := 101) (by rfl))) (by rfl)
theorem bg_575 : (.methodLink RX7 92 yX7_secondIndex : Cond) ∈ bg := bgf (tb_3 _ (List.mem_of_getElem? (i := 93) (by decide +kernel))) (by rfl)
theorem bg_576 : (.instanceMethod yX7_secondIndex : Cond) ∈ bg := bgf (tb_3 _ (List.mem_of_getElem? (i := 45) (by decide +kernel))) (by rfl)
theorem bg_577 : (.selects RX7 yX7_secondIndex yX7_secondIndex : Cond) ∈ bg := bgf (tb_3 _ (List.mem_of_getElem? (i := 46) (by decide +kernel))) (by rfl)
theorem bg_578 : (.methodLink RX7 95 yX7_nameOf : Cond) ∈ bg := bgf (tb_3 _ (List.mem_of_getElem? (i := 111) (by decide +kernel))) (by rfl)
theorem bg_579 : (.instanceMethod yX7_nameOf : Cond) ∈ bg := bgf (tb_3 _ (List.mem_of_getElem? (i := 99) (by decide +kernel))) (by rfl)
theorem bg_580 : (.selects RX7 yX7_nameOf yX7_nameOf : Cond) ∈ bg := bgf (tb_3 _ (List.mem_of_getElem? (i := 100) (by decide +kernel))) (by rfl)
theorem bg_581 : (.methodLink RX7 99 yX7_textIs : Cond) ∈ bg := bgf (tb_3 _ (List.mem_of_getElem? (i := 113) (by decide +kernel))) (by rfl)
theorem bg_582 : (.code yX7_describeTexts cX7_describeTexts 2 none : Cond) ∈ bg := bgf (tb_2 _ (List.mem_of_getElem? (i := 187) (by rfl))) (by rfl)
theorem bg_583 : (.methodLink RX7 103 yX7_shapeOf : Cond) ∈ bg := bgf (tb_2 _ (List.mem_of_getElem? (i := 188) (by decide +kernel))) (by rfl)
theorem bg_584 : (.code yX7_shapeOf cX7_shapeOf 3 (some .int) : Cond) ∈ bg := bgf (tb_2 _ (List.mem_of_getElem? (i := 191) (by rfl))) (by rfl)
theorem bg_585 : (.instanceMethod yX7_shapeOf : Cond) ∈ bg := bgf (tb_2 _ (List.mem_of_getElem? (i := 190) (by decide +kernel))) (by rfl)
theorem bg_586 : (.selects RX7 yX7_shapeOf yX7_shapeOf : Cond) ∈ bg := bgf (List.mem_of_getElem? (i := 10) (by decide +kernel)) (by rfl)
theorem bg_587 : (.methodLink RX7 106 yX7_methodShape : Cond) ∈ bg := bgf (tb_2 _ (List.mem_of_getElem? (i := 192) (by decide +kernel))) (by rfl)
theorem bg_588 : (.code yX7_methodShape cX7_methodShape 6 (some .int) : Cond) ∈ bg := bgf (tb_2 _ (List.mem_of_getElem? (i := 195) (by rfl))) (by rfl)
theorem bg_589 : (.instanceMethod yX7_methodShape : Cond) ∈ bg := bgf (tb_2 _ (List.mem_of_getElem? (i := 194) (by decide +kernel))) (by rfl)
theorem bg_590 : (.selects RX7 yX7_methodShape yX7_methodShape : Cond) ∈ bg := bgf (List.mem_of_getElem? (i := 11) (by decide +kernel)) (by rfl)
theorem bg_591 : (.methodLink RX7 109 yX7_typeEnd : Cond) ∈ bg := bgf (tb_2 _ (List.mem_of_getElem? (i := 199) (by decide +kernel))) (by rfl)
theorem bg_592 : (.code yX7_typeEnd cX7_typeEnd 5 (some .int) : Cond) ∈ bg := bgf (tb_2 _ (List.mem_of_getElem? (i := 202) (by rfl))) (by rfl)
theorem bg_593 : (.instanceMethod yX7_typeEnd : Cond) ∈ bg := bgf (tb_2 _ (List.mem_of_getElem? (i := 201) (by decide +kernel))) (by rfl)
theorem bg_594 : (.selects RX7 yX7_typeEnd yX7_typeEnd : Cond) ∈ bg := bgf (List.mem_of_getElem? (i := 12) (by decide +kernel)) (by rfl)
theorem bg_595 : (.methodLink RX7 112 yX7_placesOfType : Cond) ∈ bg := bgf (tb_2 _ (List.mem_of_getElem? (i := 196) (by decide +kernel))) (by rfl)
theorem bg_596 : (.code yX7_placesOfType cX7_placesOfType 1 (some .int) : Cond) ∈ bg := bgf (tb_2 _ (List.mem_of_getElem? (i := 198) (by rfl))) (by rfl)
theorem bg_597 : (.static yX7_placesOfType : Cond) ∈ bg := bgf (tb_2 _ (List.mem_of_getElem? (i := 197) (by decide +kernel))) (by rfl)
theorem bg_598 : (.code yX8_init cX8_init 3 none : Cond) ∈ bg := bgf (tb_2 _ (List.mem_of_getElem? (i := 211) (by rfl))) (by rfl)
theorem bg_599 : (.methodLink RX8 3 objectInit : Cond) ∈ bg := bgf (tb_2 _ (List.mem_of_getElem? (i := 212) (by decide +kernel))) (by rfl)
theorem bg_600 : (.fieldLink RX8 9 "ClassGate$ClassFile" "pool" "LClassGate$Pool;" : Cond) ∈ bg := bgf (tb_1 _ (List.mem_of_getElem? (i := 127) (by decide +kernel))) (by rfl)
theorem bg_601 : (.fieldLink RX8 15 "ClassGate$PoolCheck" "pool" "LClassGate$Pool;" : Cond) ∈ bg := bgf (tb_2 _ (List.mem_of_getElem? (i := 213) (by decide +kernel))) (by rfl)
theorem bg_602 : (.fieldLink RX8 18 "ClassGate$ClassFile" "major" "I" : Cond) ∈ bg := bgf (tb_1 _ (List.mem_of_getElem? (i := 136) (by decide +kernel))) (by rfl)
theorem bg_603 : (.fieldLink RX8 22 "ClassGate$PoolCheck" "major" "I" : Cond) ∈ bg := bgf (tb_2 _ (List.mem_of_getElem? (i := 214) (by decide +kernel))) (by rfl)
theorem bg_604 : (.fieldLink RX8 23 "ClassGate$PoolCheck" "verdict" "LClassGate$Verdict;" : Cond) ∈ bg := bgf (tb_2 _ (List.mem_of_getElem? (i := 215) (by decide +kernel))) (by rfl)
theorem bg_605 : (.code yX8_entriesHold cX8_entriesHold 3 (some .boolean) : Cond) ∈ bg := bgf (tb_3 _ (List.mem_of_getElem? (i := 30) (by rfl))) (by rfl)
theorem bg_606 : (.fieldLink RX8 27 "ClassGate$Pool" "size" "I" : Cond) ∈ bg := bgf (tb_1 _ (List.mem_of_getElem? (i := 87) (by decide +kernel))) (by rfl)
theorem bg_607 : (.methodLink RX8 32 yX8_linksHold : Cond) ∈ bg := bgf (tb_3 _ (List.mem_of_getElem? (i := 31) (by decide +kernel))) (by rfl)
theorem bg_608 : (.code yX8_linksHold cX8_linksHold 3 (some .boolean) : Cond) ∈ bg := bgf (tb_3 _ (List.mem_of_getElem? (i := 34) (by rfl))) (by rfl)
theorem bg_609 : (.instanceMethod yX8_linksHold : Cond) ∈ bg := bgf (tb_3 _ (List.mem_of_getElem? (i := 33) (by decide +kernel))) (by rfl)
theorem bg_610 : (.selects RX8 yX8_linksHold yX8_linksHold : Cond) ∈ bg := bgf (List.mem_of_getElem? (i := 14) (by decide +kernel)) (by rfl)
theorem bg_611 : (.initialized RX8 : Cond) ∈ bg := bgf (tb_1 _ (List.mem_of_getElem? (i := 21) (by decide +kernel))) (by rfl)
theorem bg_612 : (.methodLink RX8 36 yX8_brokenRule : Cond) ∈ bg := bgf (tb_3 _ (List.mem_of_getElem? (i := 56) (by decide +kernel))) (by rfl)
theorem bg_613 : (.code yX8_brokenRule cX8_brokenRule 2 (some .int) : Cond) ∈ bg := bgf (tb_3 _ (List.mem_of_getElem? (i := 59) (by rfl))) (by rfl)
theorem bg_614 : (.instanceMethod yX8_brokenRule : Cond) ∈ bg := bgf (tb_3 _ (List.mem_of_getElem? (i := 58) (by decide +kernel))) (by rfl)
theorem bg_615 : (.selects RX8 yX8_brokenRule yX8_brokenRule : Cond) ∈ bg := bgf (List.mem_of_getElem? (i := 18) (by decide +kernel)) (by rfl)
theorem bg_616 : (.methodLink RX8 40 yX7_tagPlace : Cond) ∈ bg := bgf (tb_3 _ (List.mem_of_getElem? (i := 174) (by decide +kernel))) (by rfl)
theorem bg_617 : (.instanceMethod yX7_tagPlace : Cond) ∈ bg := bgf (tb_3 _ (List.mem_of_getElem? (i := 175) (by decide +kernel))) (by rfl)
theorem bg_618 : (.selects RX7 yX7_tagPlace yX7_tagPlace : Cond) ∈ bg := bgf (tb_3 _ (List.mem_of_getElem? (i := 176) (by decide +kernel))) (by rfl)
theorem bg_619 : (.methodLink RX8 43 yX10_wrong : Cond) ∈ bg := bgf (tb_3 _ (List.mem_of_getElem? (i := 178) (by decide +kernel))) (by rfl)
theorem bg_620 : (.code yX8_bootstrapsHold cX8_bootstrapsHold 4 (some .boolean) : Cond) ∈ bg := bgf (tb_5 _ (List.mem_of_getElem? (i := 25) (by rfl))) (by rfl)
theorem bg_621 : (.methodLink RX8 49 yX7_tagOf : Cond) ∈ bg := bgf (tb_3 _ (List.mem_of_getElem? (i := 35) (by decide +kernel))) (by rfl)
theorem bg_622 : (.methodLink RX8 52 yX7_firstIndex : Cond) ∈ bg := bgf (tb_3 _ (List.mem_of_getElem? (i := 36) (by decide +kernel))) (by rfl)
theorem bg_623 : (.methodLink RX8 55 yX8_pairHolds : Cond) ∈ bg := bgf (tb_3 _ (List.mem_of_getElem? (i := 40) (by decide +kernel))) (by rfl)
theorem bg_624 : (.code yX8_pairHolds cX8_pairHolds 2 (some .boolean) : Cond) ∈ bg := bgf (tb_3 _ (List.mem_of_getElem? (i := 43) (by rfl))) (by rfl)
theorem bg_625 : (.instanceMethod yX8_pairHolds : Cond) ∈ bg := bgf (tb_3 _ (List.mem_of_getElem? (i := 42) (by decide +kernel))) (by rfl)
theorem bg_626 : (.selects RX8 yX8_pairHolds yX8_pairHolds : Cond) ∈ bg := bgf (List.mem_of_getElem? (i := 15) (by decide +kernel)) (by rfl)
theorem bg_627 : (.methodLink RX8 58 yX8_memberHolds : Cond) ∈ bg := bgf (tb_3 _ (List.mem_of_getElem? (i := 48) (by decide +kernel))) (by rfl)
theorem bg_628 : (.code yX8_memberHolds cX8_memberHolds 3 (some .boolean) : Cond) ∈ bg := bgf (tb_3 _ (List.mem_of_getElem? (i := 51) (by rfl))) (by rfl)
theorem bg_629 : (.instanceMethod yX8_memberHolds : Cond) ∈ bg := bgf (tb_3 _ (List.mem_of_getElem? (i := 50) (by decide +kernel))) (by rfl)
theorem bg_630 : (.selects RX8 yX8_memberHolds yX8_memberHolds : Cond) ∈ bg := bgf (List.mem_of_getElem? (i := 16) (by decide +kernel)) (by rfl)
theorem bg_631 : (.methodLink RX8 61 yX7_secondIndex : Cond) ∈ bg := bgf (tb_3 _ (List.mem_of_getElem? (i := 44) (by decide +kernel))) (by rfl)
theorem bg_632 : (.methodLink RX8 64 yX8_isMember : Cond) ∈ bg := bgf (tb_3 _ (List.mem_of_getElem? (i := 52) (by decide +kernel))) (by rfl)
theorem bg_633 : (.code yX8_isMember cX8_isMember 3 (some .boolean) : Cond) ∈ bg := bgf (tb_3 _ (List.mem_of_getElem? (i := 55) (by rfl))) (by rfl)
theorem bg_634 : (.instanceMethod yX8_isMember : Cond) ∈ bg := bgf (tb_3 _ (List.mem_of_getElem? (i := 54) (by decide +kernel))) (by rfl)
theorem bg_635 : (.selects RX8 yX8_isMember yX8_isMember : Cond) ∈ bg := bgf (List.mem_of_getElem? (i := 17) (by decide +kernel)) (by rfl)
theorem bg_636 : (.methodLink RX8 67 yX7_isClassText : Cond) ∈ bg := bgf (tb_3 _ (List.mem_of_getElem? (i := 60) (by decide +kernel))) (by rfl)
theorem bg_637 : (.instanceMethod yX7_isClassText : Cond) ∈ bg := bgf (tb_3 _ (List.mem_of_getElem? (i := 61) (by decide +kernel))) (by rfl)
theorem bg_638 : (.selects RX7 yX7_isClassText yX7_isClassText : Cond) ∈ bg := bgf (tb_3 _ (List.mem_of_getElem? (i := 62) (by decide +kernel))) (by rfl)
theorem bg_639 : (.methodLink RX8 70 yX8_isNameWithType : Cond) ∈ bg := bgf (tb_3 _ (List.mem_of_getElem? (i := 76) (by decide +kernel))) (by rfl)
theorem bg_640 : (.code yX8_isNameWithType cX8_isNameWithType 3 (some .boolean) : Cond) ∈ bg := bgf (tb_3 _ (List.mem_of_getElem? (i := 79) (by rfl))) (by rfl)
theorem bg_641 : (.instanceMethod yX8_isNameWithType : Cond) ∈ bg := bgf (tb_3 _ (List.mem_of_getElem? (i := 78) (by decide +kernel))) (by rfl)
theorem bg_642 : (.selects RX8 yX8_isNameWithType yX8_isNameWithType : Cond) ∈ bg := bgf (List.mem_of_getElem? (i := 19) (by decide +kernel)) (by rfl)
theorem bg_643 : (.methodLink RX8 73 yX7_descriptorOf : Cond) ∈ bg := bgf (tb_3 _ (List.mem_of_getElem? (i := 89) (by decide +kernel))) (by rfl)
theorem bg_644 : (.methodLink RX8 76 yX7_isFieldDescriptor : Cond) ∈ bg := bgf (tb_3 _ (List.mem_of_getElem? (i := 84) (by decide +kernel))) (by rfl)
theorem bg_645 : (.methodLink RX8 79 yX8_isMethodRef : Cond) ∈ bg := bgf (tb_3 _ (List.mem_of_getElem? (i := 94) (by decide +kernel))) (by rfl)
theorem bg_646 : (.code yX8_isMethodRef cX8_isMethodRef 3 (some .boolean) : Cond) ∈ bg := bgf (tb_3 _ (List.mem_of_getElem? (i := 97) (by rfl))) (by rfl)
theorem bg_647 : (.instanceMethod yX8_isMethodRef : Cond) ∈ bg := bgf (tb_3 _ (List.mem_of_getElem? (i := 96) (by decide +kernel))) (by rfl)
theorem bg_648 : (.selects RX8 yX8_isMethodRef yX8_isMethodRef : Cond) ∈ bg := bgf (List.mem_of_getElem? (i := 20) (by decide +kernel)) (by rfl)
theorem bg_649 : (.methodLink RX8 82 yX8_isHandle : Cond) ∈ bg := bgf (tb_3 _ (List.mem_of_getElem? (i := 170) (by decide +kernel))) (by rfl)
theorem bg_650 : (.code yX8_isHandle cX8_isHandle 4 (some .boolean) : Cond) ∈ bg := bgf (tb_3 _ (List.mem_of_getElem? (i := 173) (by rfl))) (by rfl)
theorem bg_651 : (.instanceMethod yX8_isHandle : Cond) ∈ bg := bgf (tb_3 _ (List.mem_of_getElem? (i := 172) (by decide +kernel))) (by rfl)
theorem bg_652 : (.selects RX8 yX8_isHandle yX8_isHandle : Cond) ∈ bg := bgf (List.mem_of_getElem? (i := 21) (by decide +kernel)) (by rfl)
theorem bg_653 : (.methodLink RX8 85 yX7_isMethodDescriptor : Cond) ∈ bg := bgf (tb_3 _ (List.mem_of_getElem? (i := 85) (by decide +kernel))) (by rfl)
theorem bg_654 : (.methodLink RX8 88 yX7_nameOf : Cond) ∈ bg := bgf (tb_3 _ (List.mem_of_getElem? (i := 98) (by decide +kernel))) (by rfl)
theorem bg_655 : (.methodLink RX8 91 yX7_hasAngle : Cond) ∈ bg := bgf (tb_3 _ (List.mem_of_getElem? (i := 103) (by decide +kernel))) (by rfl)
theorem bg_656 : (.methodLink RX8 94 yX7_isUnqualifiedName : Cond) ∈ bg := bgf (tb_3 _ (List.mem_of_getElem? (i := 80) (by decide +kernel))) (by rfl)
theorem bg_657 : (.methodLink RX8 97 yX7_namesInit : Cond) ∈ bg := bgf (tb_3 _ (List.mem_of_getElem? (i := 107) (by decide +kernel))) (by rfl)
theorem bg_658 : (.methodLink RX8 100 yX7_hasNoResult : Cond) ∈ bg := bgf (tb_3 _ (List.mem_of_getElem? (i := 165) (by decide +kernel))) (by rfl)
theorem bg_659 : (.code yX9_init cX9_init 3 none : Cond) ∈ bg := bgf (tb_1 _ (List.mem_of_getElem? (i := 232) (by rfl))) (by rfl)
theorem bg_660 : (.methodLink RX9 3 objectInit : Cond) ∈ bg := bgf (tb_1 _ (List.mem_of_getElem? (i := 233) (by decide +kernel))) (by rfl)
theorem bg_661 : (.fieldLink RX9 9 "ClassGate$Reader" "file" "LClassGate$ClassFile;" : Cond) ∈ bg := bgf (tb_1 _ (List.mem_of_getElem? (i := 234) (by decide +kernel))) (by rfl)
theorem bg_662 : (.fieldLink RX9 15 "ClassGate$Reader" "verdict" "LClassGate$Verdict;" : Cond) ∈ bg := bgf (tb_1 _ (List.mem_of_getElem? (i := 236) (by decide +kernel))) (by rfl)
theorem bg_663 : (.fieldLink RX9 19 "ClassGate$ClassFile" "bytes" "LClassGate$Bytes;" : Cond) ∈ bg := bgf (tb_1 _ (List.mem_of_getElem? (i := 123) (by decide +kernel))) (by rfl)
theorem bg_664 : (.fieldLink RX9 25 "ClassGate$Reader" "bytes" "LClassGate$Bytes;" : Cond) ∈ bg := bgf (tb_1 _ (List.mem_of_getElem? (i := 235) (by decide +kernel))) (by rfl)
theorem bg_665 : (.code yX9_takes cX9_takes 2 (some .boolean) : Cond) ∈ bg := bgf (tb_2 _ (List.mem_of_getElem? (i := 17) (by rfl))) (by rfl)
theorem bg_666 : (.methodLink RX9 26 yX1_size : Cond) ∈ bg := bgf (tb_2 _ (List.mem_of_getElem? (i := 18) (by decide +kernel))) (by rfl)
theorem bg_667 : (.instanceMethod yX1_size : Cond) ∈ bg := bgf (tb_2 _ (List.mem_of_getElem? (i := 19) (by decide +kernel))) (by rfl)
theorem bg_668 : (.selects RX1 yX1_size yX1_size : Cond) ∈ bg := bgf (tb_2 _ (List.mem_of_getElem? (i := 20) (by decide +kernel))) (by rfl)
theorem bg_669 : (.fieldLink RX9 32 "ClassGate$Reader" "at" "I" : Cond) ∈ bg := bgf (tb_1 _ (List.mem_of_getElem? (i := 237) (by decide +kernel))) (by rfl)
theorem bg_670 : (.methodLink RX9 36 yX10_wrong : Cond) ∈ bg := bgf (tb_2 _ (List.mem_of_getElem? (i := 22) (by decide +kernel))) (by rfl)
theorem bg_671 : (.methodLink RX9 42 yX1_u1 : Cond) ∈ bg := bgf (tb_2 _ (List.mem_of_getElem? (i := 26) (by decide +kernel))) (by rfl)
theorem bg_672 : (.fieldLink RX9 46 "ClassGate$Reader" "item" "I" : Cond) ∈ bg := bgf (tb_1 _ (List.mem_of_getElem? (i := 238) (by decide +kernel))) (by rfl)
theorem bg_673 : (.methodLink RX9 49 yX1_u2 : Cond) ∈ bg := bgf (tb_2 _ (List.mem_of_getElem? (i := 30) (by decide +kernel))) (by rfl)
theorem bg_674 : (.methodLink RX9 52 yX1_u4 : Cond) ∈ bg := bgf (tb_2 _ (List.mem_of_getElem? (i := 34) (by decide +kernel))) (by rfl)
theorem bg_675 : (.code yX9_takesHead cX9_takesHead 1 (some .boolean) : Cond) ∈ bg := bgf (tb_2 _ (List.mem_of_getElem? (i := 13) (by rfl))) (by rfl)
theorem bg_676 : (.methodLink RX9 55 yX9_takes : Cond) ∈ bg := bgf (tb_2 _ (List.mem_of_getElem? (i := 14) (by decide +kernel))) (by rfl)
theorem bg_677 : (.instanceMethod yX9_takes : Cond) ∈ bg := bgf (tb_2 _ (List.mem_of_getElem? (i := 16) (by decide +kernel))) (by rfl)
theorem bg_678 : (.selects RX9 yX9_takes yX9_takes : Cond) ∈ bg := bgf (List.mem_of_getElem? (i := 0) (by decide +kernel)) (by rfl)
theorem bg_679 : (.initialized RX9 : Cond) ∈ bg := bgf (tb_1 _ (List.mem_of_getElem? (i := 19) (by decide +kernel))) (by rfl)
theorem bg_680 : (.constant RX9 59 (-889275714) : Cond) ∈ bg := bgf (tb_2 _ (List.mem_of_getElem? (i := 38) (by decide +kernel))) (by rfl)
theorem bg_681 : (.fieldLink RX9 60 "ClassGate$ClassFile" "minor" "I" : Cond) ∈ bg := bgf (tb_1 _ (List.mem_of_getElem? (i := 134) (by decide +kernel))) (by rfl)
theorem bg_682 : (.fieldLink RX9 63 "ClassGate$ClassFile" "major" "I" : Cond) ∈ bg := bgf (tb_1 _ (List.mem_of_getElem? (i := 138) (by decide +kernel))) (by rfl)
theorem bg_683 : (.code yX9_takesPool cX9_takesPool 4 (some .boolean) : Cond) ∈ bg := bgf (tb_2 _ (List.mem_of_getElem? (i := 42) (by rfl))) (by rfl)
theorem bg_684 : (.classLink RX9 66 RX7 : Cond) ∈ bg := bgf (tb_2 _ (List.mem_of_getElem? (i := 43) (by decide +kernel))) (by rfl)
theorem bg_685 : (.methodLink RX9 68 yX7_init : Cond) ∈ bg := bgf (tb_2 _ (List.mem_of_getElem? (i := 44) (by decide +kernel))) (by rfl)
theorem bg_686 : (.fieldLink RX9 71 "ClassGate$ClassFile" "pool" "LClassGate$Pool;" : Cond) ∈ bg := bgf (tb_1 _ (List.mem_of_getElem? (i := 132) (by decide +kernel))) (by rfl)
theorem bg_687 : (.fieldLink RX9 75 "ClassGate$Pool" "size" "I" : Cond) ∈ bg := bgf (tb_1 _ (List.mem_of_getElem? (i := 89) (by decide +kernel))) (by rfl)
theorem bg_688 : (.methodLink RX9 77 yX9_takesEntry : Cond) ∈ bg := bgf (tb_2 _ (List.mem_of_getElem? (i := 45) (by decide +kernel))) (by rfl)
theorem bg_689 : (.code yX9_takesEntry cX9_takesEntry 4 (some .boolean) : Cond) ∈ bg := bgf (tb_2 _ (List.mem_of_getElem? (i := 48) (by rfl))) (by rfl)
theorem bg_690 : (.instanceMethod yX9_takesEntry : Cond) ∈ bg := bgf (tb_2 _ (List.mem_of_getElem? (i := 47) (by decide +kernel))) (by rfl)
theorem bg_691 : (.selects RX9 yX9_takesEntry yX9_takesEntry : Cond) ∈ bg := bgf (List.mem_of_getElem? (i := 1) (by decide +kernel)) (by rfl)
theorem bg_692 : (.methodLink RX9 80 yX7_isWide : Cond) ∈ bg := bgf (tb_2 _ (List.mem_of_getElem? (i := 85) (by decide +kernel))) (by rfl)
theorem bg_693 : (.instanceMethod yX7_isWide : Cond) ∈ bg := bgf (tb_2 _ (List.mem_of_getElem? (i := 86) (by decide +kernel))) (by rfl)
theorem bg_694 : (.selects RX7 yX7_isWide yX7_isWide : Cond) ∈ bg := bgf (tb_2 _ (List.mem_of_getElem? (i := 87) (by decide +kernel))) (by rfl)
theorem bg_695 : (.methodLink RX9 83 yX9_isTag : Cond) ∈ bg := bgf (tb_2 _ (List.mem_of_getElem? (i := 49) (by decide +kernel))) (by rfl)
theorem bg_696 : (.code yX9_isTag cX9_isTag 2 (some .boolean) : Cond) ∈ bg := bgf (tb_2 _ (List.mem_of_getElem? (i := 52) (by rfl))) (by rfl)
theorem bg_697 : (.instanceMethod yX9_isTag : Cond) ∈ bg := bgf (tb_2 _ (List.mem_of_getElem? (i := 51) (by decide +kernel))) (by rfl)
theorem bg_698 : (.selects RX9 yX9_isTag yX9_isTag : Cond) ∈ bg := bgf (List.mem_of_getElem? (i := 2) (by decide +kernel)) (by rfl)
theorem bg_699 : (.methodLink RX9 86 yX7_setTag : Cond) ∈ bg := bgf (tb_2 _ (List.mem_of_getElem? (i := 53) (by decide +kernel))) (by rfl)
theorem bg_700 : (.instanceMethod yX7_setTag : Cond) ∈ bg := bgf (tb_2 _ (List.mem_of_getElem? (i := 54) (by decide +kernel))) (by rfl)
theorem bg_701 : (.selects RX7 yX7_setTag yX7_setTag : Cond) ∈ bg := bgf (tb_2 _ (List.mem_of_getElem? (i := 55) (by decide +kernel))) (by rfl)
theorem bg_702 : (.methodLink RX9 90 yX9_takesText : Cond) ∈ bg := bgf (tb_2 _ (List.mem_of_getElem? (i := 57) (by decide +kernel))) (by rfl)
theorem bg_703 : (.code yX9_takesText cX9_takesText 5 (some .boolean) : Cond) ∈ bg := bgf (tb_2 _ (List.mem_of_getElem? (i := 60) (by rfl))) (by rfl)
theorem bg_704 : (.instanceMethod yX9_takesText : Cond) ∈ bg := bgf (tb_2 _ (List.mem_of_getElem? (i := 59) (by decide +kernel))) (by rfl)
theorem bg_705 : (.selects RX9 yX9_takesText yX9_takesText : Cond) ∈ bg := bgf (List.mem_of_getElem? (i := 3) (by decide +kernel)) (by rfl)
theorem bg_706 : (.methodLink RX9 93 yX9_takesIndexes : Cond) ∈ bg := bgf (tb_2 _ (List.mem_of_getElem? (i := 81) (by decide +kernel))) (by rfl)
theorem bg_707 : (.code yX9_takesIndexes cX9_takesIndexes 5 (some .boolean) : Cond) ∈ bg := bgf (tb_2 _ (List.mem_of_getElem? (i := 84) (by rfl))) (by rfl)
theorem bg_708 : (.instanceMethod yX9_takesIndexes : Cond) ∈ bg := bgf (tb_2 _ (List.mem_of_getElem? (i := 83) (by decide +kernel))) (by rfl)
theorem bg_709 : (.selects RX9 yX9_takesIndexes yX9_takesIndexes : Cond) ∈ bg := bgf (List.mem_of_getElem? (i := 6) (by decide +kernel)) (by rfl)
theorem bg_710 : (.methodLink RX9 96 yX7_setNumbers : Cond) ∈ bg := bgf (tb_2 _ (List.mem_of_getElem? (i := 77) (by decide +kernel))) (by rfl)
theorem bg_711 : (.instanceMethod yX7_setNumbers : Cond) ∈ bg := bgf (tb_2 _ (List.mem_of_getElem? (i := 78) (by decide +kernel))) (by rfl)
theorem bg_712 : (.selects RX7 yX7_setNumbers yX7_setNumbers : Cond) ∈ bg := bgf (tb_2 _ (List.mem_of_getElem? (i := 79) (by decide +kernel))) (by rfl)
theorem bg_713 : (.fieldLink RX9 99 "ClassGate$Pool" "characterCount" "I" : Cond) ∈ bg := bgf (tb_1 _ (List.mem_of_getElem? (i := 99) (by decide +kernel))) (by rfl)
theorem bg_714 : (.methodLink RX9 102 yX9_characterSize : Cond) ∈ bg := bgf (tb_2 _ (List.mem_of_getElem? (i := 61) (by decide +kernel))) (by rfl)
theorem bg_715 : (.code yX9_characterSize cX9_characterSize 3 (some .int) : Cond) ∈ bg := bgf (tb_2 _ (List.mem_of_getElem? (i := 64) (by rfl))) (by rfl)
theorem bg_716 : (.instanceMethod yX9_characterSize : Cond) ∈ bg := bgf (tb_2 _ (List.mem_of_getElem? (i := 63) (by decide +kernel))) (by rfl)
theorem bg_717 : (.selects RX9 yX9_characterSize yX9_characterSize : Cond) ∈ bg := bgf (List.mem_of_getElem? (i := 4) (by decide +kernel)) (by rfl)
theorem bg_718 : (.methodLink RX9 105 yX9_characterOf : Cond) ∈ bg := bgf (tb_2 _ (List.mem_of_getElem? (i := 69) (by decide +kernel))) (by rfl)
theorem bg_719 : (.code yX9_characterOf cX9_characterOf 3 (some .int) : Cond) ∈ bg := bgf (tb_2 _ (List.mem_of_getElem? (i := 72) (by rfl))) (by rfl)
theorem bg_720 : (.instanceMethod yX9_characterOf : Cond) ∈ bg := bgf (tb_2 _ (List.mem_of_getElem? (i := 71) (by decide +kernel))) (by rfl)
theorem bg_721 : (.selects RX9 yX9_characterOf yX9_characterOf : Cond) ∈ bg := bgf (List.mem_of_getElem? (i := 5) (by decide +kernel)) (by rfl)
theorem bg_722 : (.methodLink RX9 108 yX7_addCharacter : Cond) ∈ bg := bgf (tb_2 _ (List.mem_of_getElem? (i := 73) (by decide +kernel))) (by rfl)
theorem bg_723 : (.instanceMethod yX7_addCharacter : Cond) ∈ bg := bgf (tb_2 _ (List.mem_of_getElem? (i := 74) (by decide +kernel))) (by rfl)
theorem bg_724 : (.selects RX7 yX7_addCharacter yX7_addCharacter : Cond) ∈ bg := bgf (tb_2 _ (List.mem_of_getElem? (i := 75) (by decide +kernel))) (by rfl)
theorem bg_725 : (.methodLink RX9 112 yX1_goesOn : Cond) ∈ bg := bgf (tb_2 _ (List.mem_of_getElem? (i := 65) (by decide +kernel))) (by rfl)
theorem bg_726 : (.instanceMethod yX1_goesOn : Cond) ∈ bg := bgf (tb_2 _ (List.mem_of_getElem? (i := 66) (by decide +kernel))) (by rfl)
theorem bg_727 : (.selects RX1 yX1_goesOn yX1_goesOn : Cond) ∈ bg := bgf (tb_2 _ (List.mem_of_getElem? (i := 67) (by decide +kernel))) (by rfl)
theorem bg_728 : (.code yX9_takesClass cX9_takesClass 3 (some .boolean) : Cond) ∈ bg := bgf (tb_2 _ (List.mem_of_getElem? (i := 96) (by rfl))) (by rfl)
theorem bg_729 : (.fieldLink RX9 115 "ClassGate$ClassFile" "flagsAt" "I" : Cond) ∈ bg := bgf (tb_1 _ (List.mem_of_getElem? (i := 144) (by decide +kernel))) (by rfl)
theorem bg_730 : (.fieldLink RX9 118 "ClassGate$ClassFile" "interfaceCount" "I" : Cond) ∈ bg := bgf (tb_1 _ (List.mem_of_getElem? (i := 147) (by decide +kernel))) (by rfl)
theorem bg_731 : (.code yX9_takesFields cX9_takesFields 1 (some .boolean) : Cond) ∈ bg := bgf (tb_2 _ (List.mem_of_getElem? (i := 100) (by rfl))) (by rfl)
theorem bg_732 : (.methodLink RX9 121 yX9_roomFor : Cond) ∈ bg := bgf (tb_2 _ (List.mem_of_getElem? (i := 101) (by decide +kernel))) (by rfl)
theorem bg_733 : (.code yX9_roomFor cX9_roomFor 2 (some .int) : Cond) ∈ bg := bgf (tb_2 _ (List.mem_of_getElem? (i := 104) (by rfl))) (by rfl)
theorem bg_734 : (.instanceMethod yX9_roomFor : Cond) ∈ bg := bgf (tb_2 _ (List.mem_of_getElem? (i := 103) (by decide +kernel))) (by rfl)
theorem bg_735 : (.selects RX9 yX9_roomFor yX9_roomFor : Cond) ∈ bg := bgf (List.mem_of_getElem? (i := 7) (by decide +kernel)) (by rfl)
theorem bg_736 : (.classLink RX9 124 RX6 : Cond) ∈ bg := bgf (tb_2 _ (List.mem_of_getElem? (i := 107) (by decide +kernel))) (by rfl)
theorem bg_737 : (.fieldLink RX9 126 "ClassGate$ClassFile" "fields" "[LClassGate$Member;" : Cond) ∈ bg := bgf (tb_1 _ (List.mem_of_getElem? (i := 150) (by decide +kernel))) (by rfl)
theorem bg_738 : (.methodLink RX9 130 yX9_takesMembers : Cond) ∈ bg := bgf (tb_2 _ (List.mem_of_getElem? (i := 108) (by decide +kernel))) (by rfl)
theorem bg_739 : (.code yX9_takesMembers cX9_takesMembers 5 (some .boolean) : Cond) ∈ bg := bgf (tb_2 _ (List.mem_of_getElem? (i := 111) (by rfl))) (by rfl)
theorem bg_740 : (.instanceMethod yX9_takesMembers : Cond) ∈ bg := bgf (tb_2 _ (List.mem_of_getElem? (i := 110) (by decide +kernel))) (by rfl)
theorem bg_741 : (.selects RX9 yX9_takesMembers yX9_takesMembers : Cond) ∈ bg := bgf (List.mem_of_getElem? (i := 8) (by decide +kernel)) (by rfl)
theorem bg_742 : (.code yX9_takesMethods cX9_takesMethods 1 (some .boolean) : Cond) ∈ bg := bgf (tb_2 _ (List.mem_of_getElem? (i := 176) (by rfl))) (by rfl)
theorem bg_743 : (.fieldLink RX9 134 "ClassGate$ClassFile" "methods" "[LClassGate$Member;" : Cond) ∈ bg := bgf (tb_1 _ (List.mem_of_getElem? (i := 154) (by decide +kernel))) (by rfl)
theorem bg_744 : (.methodLink RX9 146 yX9_takesAttributes : Cond) ∈ bg := bgf (tb_2 _ (List.mem_of_getElem? (i := 112) (by decide +kernel))) (by rfl)
theorem bg_745 : (.code yX9_takesAttributes cX9_takesAttributes 3 (some .boolean) : Cond) ∈ bg := bgf (tb_2 _ (List.mem_of_getElem? (i := 115) (by rfl))) (by rfl)
theorem bg_746 : (.instanceMethod yX9_takesAttributes : Cond) ∈ bg := bgf (tb_2 _ (List.mem_of_getElem? (i := 114) (by decide +kernel))) (by rfl)
theorem bg_747 : (.selects RX9 yX9_takesAttributes yX9_takesAttributes : Cond) ∈ bg := bgf (List.mem_of_getElem? (i := 9) (by decide +kernel)) (by rfl)
theorem bg_748 : (.instantiable RX6 11 : Cond) ∈ bg := bgf (tb_2 _ (List.mem_of_getElem? (i := 116) (by decide +kernel))) (by rfl)
theorem bg_749 : (.methodLink RX9 150 yX6_init : Cond) ∈ bg := bgf (tb_2 _ (List.mem_of_getElem? (i := 117) (by decide +kernel))) (by rfl)
theorem bg_750 : (.instanceMethod yX6_init : Cond) ∈ bg := bgf (tb_2 _ (List.mem_of_getElem? (i := 118) (by decide +kernel))) (by rfl)
theorem bg_751 : (.code yX9_takesEnd cX9_takesEnd 1 (some .boolean) : Cond) ∈ bg := bgf (tb_2 _ (List.mem_of_getElem? (i := 180) (by rfl))) (by rfl)
theorem bg_752 : (.fieldLink RX9 153 "ClassGate$ClassFile" "attributeCount" "I" : Cond) ∈ bg := bgf (tb_1 _ (List.mem_of_getElem? (i := 157) (by decide +kernel))) (by rfl)
theorem bg_753 : (.fieldLink RX9 156 "ClassGate$ClassFile" "attributesAt" "I" : Cond) ∈ bg := bgf (tb_1 _ (List.mem_of_getElem? (i := 159) (by decide +kernel))) (by rfl)
theorem bg_754 : (.code yX10_init cX10_init 1 none : Cond) ∈ bg := bgf (tb_1 _ (List.mem_of_getElem? (i := 214) (by rfl))) (by rfl)
theorem bg_755 : (.methodLink RX10 1 objectInit : Cond) ∈ bg := bgf (tb_1 _ (List.mem_of_getElem? (i := 215) (by decide +kernel))) (by rfl)
theorem bg_756 : (.fieldLink RX10 7 "ClassGate$Verdict" "wrongAt" "I" : Cond) ∈ bg := bgf (tb_1 _ (List.mem_of_getElem? (i := 218) (by decide +kernel))) (by rfl)
theorem bg_757 : (.fieldLink RX10 13 "ClassGate$Verdict" "rule" "I" : Cond) ∈ bg := bgf (tb_1 _ (List.mem_of_getElem? (i := 216) (by decide +kernel))) (by rfl)
theorem bg_758 : (.code yX11_init cX11_init 1 none : Cond) ∈ bg := bgf (tb_1 _ (List.mem_of_getElem? (i := 31) (by rfl))) (by rfl)
theorem bg_759 : (.methodLink RX11 1 objectInit : Cond) ∈ bg := bgf (tb_1 _ (List.mem_of_getElem? (i := 32) (by decide +kernel))) (by rfl)
theorem bg_760 : (.arrayClass .byte : Cond) ∈ bg := bgf (tb_1 _ (List.mem_of_getElem? (i := 53) (by decide +kernel))) (by rfl)
theorem bg_761 : (.fieldLink RX11 9 "ClassGate" "came" "[B" : Cond) ∈ bg := bgf (tb_1 _ (List.mem_of_getElem? (i := 37) (by decide +kernel))) (by rfl)
theorem bg_762 : (.fieldLink RX11 13 "ClassGate" "NO_BYTES" "[B" : Cond) ∈ bg := bgf (tb_1 _ (List.mem_of_getElem? (i := 35) (by decide +kernel))) (by rfl)
theorem bg_763 : (.fieldLink RX11 16 "ClassGate" "file" "[B" : Cond) ∈ bg := bgf (tb_1 _ (List.mem_of_getElem? (i := 39) (by decide +kernel))) (by rfl)
theorem bg_764 : (.fieldLink RX11 19 "ClassGate" "wrongPlace" "I" : Cond) ∈ bg := bgf (tb_1 _ (List.mem_of_getElem? (i := 41) (by decide +kernel))) (by rfl)
theorem bg_765 : (.code yX11_feed cX11_feed 6 (some .int) : Cond) ∈ bg := bgf (tb_5 _ (List.mem_of_getElem? (i := 214) (by rfl))) (by rfl)
theorem bg_766 : (.fieldLink RX11 23 "ClassGate" "cameCount" "I" : Cond) ∈ bg := bgf (tb_1 _ (List.mem_of_getElem? (i := 38) (by decide +kernel))) (by rfl)
theorem bg_767 : (.constant RX11 26 65520 : Cond) ∈ bg := bgf (tb_5 _ (List.mem_of_getElem? (i := 215) (by decide +kernel))) (by rfl)
theorem bg_768 : (.classLink RX11 27 "java/lang/IllegalStateException" : Cond) ∈ bg := bgf (tb_5 _ (List.mem_of_getElem? (i := 216) (by decide +kernel))) (by rfl)
theorem bg_769 : (.initialized "java/lang/IllegalStateException" : Cond) ∈ bg := bgf (tb_1 _ (List.mem_of_getElem? (i := 10) (by decide +kernel))) (by rfl)
theorem bg_770 : (.methodLink RX11 34 yX11_takeWord : Cond) ∈ bg := bgf (tb_6 _ (List.mem_of_getElem? (i := 42) (by decide +kernel))) (by rfl)
theorem bg_771 : (.code yX11_takeWord cX11_takeWord 2 none : Cond) ∈ bg := bgf (tb_6 _ (List.mem_of_getElem? (i := 45) (by rfl))) (by rfl)
theorem bg_772 : (.instanceMethod yX11_takeWord : Cond) ∈ bg := bgf (tb_6 _ (List.mem_of_getElem? (i := 44) (by decide +kernel))) (by rfl)
theorem bg_773 : (.selects RX11 yX11_takeWord yX11_takeWord : Cond) ∈ bg := bgf (List.mem_of_getElem? (i := 71) (by decide +kernel)) (by rfl)
theorem bg_774 : (.initialized RX11 : Cond) ∈ bg := bgf (tb_1 _ (List.mem_of_getElem? (i := 1) (by decide +kernel))) (by rfl)
theorem bg_775 : (.methodLink RX11 38 yJ7_copyOf_9075b : Cond) ∈ bg := bgf (tb_6 _ (List.mem_of_getElem? (i := 46) (by decide +kernel))) (by rfl)
theorem bg_776 : (.code yJ7_copyOf_9075b cJ7_copyOf_9075b 3 (some (.array .byte)) : Cond) ∈ bg := bgf (tb_6 _ (List.mem_of_getElem? (i := 48) (by rfl))) (by rfl)
theorem bg_777 : (.static yJ7_copyOf_9075b : Cond) ∈ bg := bgf (tb_6 _ (List.mem_of_getElem? (i := 47) (by decide +kernel))) (by rfl)
theorem bg_778 : (.initialized RJ7 : Cond) ∈ bg := bgf (tb_1 _ (List.mem_of_getElem? (i := 11) (by decide +kernel))) (by rfl)
theorem bg_779 : (.code yX11_end cX11_end 2 (some .int) : Cond) ∈ bg := bgf (tb_6 _ (List.mem_of_getElem? (i := 67) (by rfl))) (by rfl)
theorem bg_780 : (.classLink RX11 44 "java/lang/IllegalArgumentException" : Cond) ∈ bg := bgf (tb_6 _ (List.mem_of_getElem? (i := 68) (by decide +kernel))) (by rfl)
theorem bg_781 : (.initialized "java/lang/IllegalArgumentException" : Cond) ∈ bg := bgf (tb_1 _ (List.mem_of_getElem? (i := 14) (by decide +kernel))) (by rfl)
theorem bg_782 : (.code yX11_read cX11_read 3 (some .int) : Cond) ∈ bg := bgf (tb_1 _ (List.mem_of_getElem? (i := 57) (by rfl))) (by rfl)
theorem bg_783 : (.classLink RX11 49 RX3 : Cond) ∈ bg := bgf (tb_1 _ (List.mem_of_getElem? (i := 58) (by decide +kernel))) (by rfl)
theorem bg_784 : (.instantiable RX3 17 : Cond) ∈ bg := bgf (tb_1 _ (List.mem_of_getElem? (i := 59) (by decide +kernel))) (by rfl)
theorem bg_785 : (.classLink RX11 51 RX1 : Cond) ∈ bg := bgf (tb_1 _ (List.mem_of_getElem? (i := 60) (by decide +kernel))) (by rfl)
theorem bg_786 : (.instantiable RX1 1 : Cond) ∈ bg := bgf (tb_1 _ (List.mem_of_getElem? (i := 61) (by decide +kernel))) (by rfl)
theorem bg_787 : (.methodLink RX11 53 yX1_init : Cond) ∈ bg := bgf (tb_1 _ (List.mem_of_getElem? (i := 62) (by decide +kernel))) (by rfl)
theorem bg_788 : (.instanceMethod yX1_init : Cond) ∈ bg := bgf (tb_1 _ (List.mem_of_getElem? (i := 63) (by decide +kernel))) (by rfl)
theorem bg_789 : (.methodLink RX11 56 yX3_init : Cond) ∈ bg := bgf (tb_1 _ (List.mem_of_getElem? (i := 70) (by decide +kernel))) (by rfl)
theorem bg_790 : (.instanceMethod yX3_init : Cond) ∈ bg := bgf (tb_1 _ (List.mem_of_getElem? (i := 71) (by decide +kernel))) (by rfl)
theorem bg_791 : (.classLink RX11 59 RX10 : Cond) ∈ bg := bgf (tb_1 _ (List.mem_of_getElem? (i := 210) (by decide +kernel))) (by rfl)
theorem bg_792 : (.instantiable RX10 2 : Cond) ∈ bg := bgf (tb_1 _ (List.mem_of_getElem? (i := 211) (by decide +kernel))) (by rfl)
theorem bg_793 : (.methodLink RX11 61 yX10_init : Cond) ∈ bg := bgf (tb_1 _ (List.mem_of_getElem? (i := 212) (by decide +kernel))) (by rfl)
theorem bg_794 : (.instanceMethod yX10_init : Cond) ∈ bg := bgf (tb_1 _ (List.mem_of_getElem? (i := 213) (by decide +kernel))) (by rfl)
theorem bg_795 : (.methodLink RX11 62 yX11_isWhole : Cond) ∈ bg := bgf (tb_1 _ (List.mem_of_getElem? (i := 225) (by decide +kernel))) (by rfl)
theorem bg_796 : (.code yX11_isWhole cX11_isWhole 3 (some .boolean) : Cond) ∈ bg := bgf (tb_1 _ (List.mem_of_getElem? (i := 227) (by rfl))) (by rfl)
theorem bg_797 : (.static yX11_isWhole : Cond) ∈ bg := bgf (tb_1 _ (List.mem_of_getElem? (i := 226) (by decide +kernel))) (by rfl)
theorem bg_798 : (.methodLink RX11 66 yX11_holds : Cond) ∈ bg := bgf (tb_2 _ (List.mem_of_getElem? (i := 181) (by decide +kernel))) (by rfl)
theorem bg_799 : (.code yX11_holds cX11_holds 5 (some .boolean) : Cond) ∈ bg := bgf (tb_2 _ (List.mem_of_getElem? (i := 183) (by rfl))) (by rfl)
end
