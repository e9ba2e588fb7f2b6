section XBB
variable {p : Program} {l : Launch} {e : Env} {R : Room} {s : State} {m : MethodId} {args : Array Value} {below : List Frame} {meth : Method} {c : Code} {H : Heap} {locs : List Loc} {cells slots : Nat} {Q : State → Prop}
variable {y : MethodName} {bytes : ByteArray} {maxL index mc ms : Nat} {own C : String} {ret : Option FieldType} {rm : Room}
theorem bg_cons (h : Cond.code y bytes maxL ret ∈ bg) : GoodIn bg (Cond.code y bytes maxL ret :: bg) := by
  intro w hw
  rcases List.mem_cons.mp hw with rfl | hw
  · exact ⟨h, good_of_word (List.all_eq_true.mp bg_good _ h)⟩
  · exact ⟨hw, good_of_word (List.all_eq_true.mp bg_good _ hw)⟩
theorem bg_B (n : Nat) (ht : ∀ w ∈ bg, w.before args s = true) (h1 : Cond.methodLink own index y ∈ bg) (h4 : Cond.initialized y.cls ∈ bg) (h5 : Cond.code y bytes maxL ret ∈ bg) (hrc : rm.cells = mc) (hrs : rm.slots = ms)
    (hd : y.cls ≠ "java/lang/invoke/MethodHandle" ∧ y.cls ≠ "java/lang/invoke/VarHandle" ∧ (parseMethodDescriptor y.desc).map (fun d => d.parameters.length) = some n) (hR : rm.frames + 1 ≤ R.frames ∧ 8 + (maxL + 11) + rm.locals ≤ R.locals) :
    CallB R s args own index y bytes maxL ret (Cond.code y bytes maxL ret :: bg) rm mc ms n :=
  callB_of n ht (bg_cons h5) rfl hrc hrs (ht _ h4) (ht _ h1) hd hR
theorem bg_V (n : Nat) (ht : ∀ w ∈ bg, w.before args s = true) (h1 : Cond.methodLink own index y ∈ bg) (h2 : Cond.instanceMethod y ∈ bg) (h3 : Cond.selects C y y ∈ bg) (h4 : Cond.initialized y.cls ∈ bg) (h5 : Cond.code y bytes maxL ret ∈ bg) (hrc : rm.cells = mc) (hrs : rm.slots = ms)
    (hd : y.cls ≠ "java/lang/invoke/MethodHandle" ∧ y.cls ≠ "java/lang/invoke/VarHandle" ∧ (parseMethodDescriptor y.desc).map (fun d => d.parameters.length) = some n) (hR : rm.frames + 1 ≤ R.frames ∧ 8 + (maxL + 11) + rm.locals ≤ R.locals) :
    CallW R s args own C index y bytes maxL ret (Cond.code y bytes maxL ret :: bg) rm mc ms n :=
  ⟨bg_B n ht h1 h4 h5 hrc hrs hd hR, ht _ h2, ht _ h3⟩
theorem bg_S (n : Nat) (ht : ∀ w ∈ bg, w.before args s = true) (h1 : Cond.methodLink own index y ∈ bg) (h2 : Cond.static y ∈ bg) (h4 : Cond.initialized y.cls ∈ bg) (h5 : Cond.code y bytes maxL ret ∈ bg) (hrc : rm.cells = mc) (hrs : rm.slots = ms)
    (hd : y.cls ≠ "java/lang/invoke/MethodHandle" ∧ y.cls ≠ "java/lang/invoke/VarHandle" ∧ (parseMethodDescriptor y.desc).map (fun d => d.parameters.length) = some n) (hR : rm.frames + 1 ≤ R.frames ∧ 8 + (maxL + 11) + rm.locals ≤ R.locals) :
    CallB R s args own index y bytes maxL ret (Cond.code y bytes maxL ret :: bg) rm mc ms n ∧ (Cond.static y).before args s = true :=
  ⟨bg_B n ht h1 h4 h5 hrc hrs hd hR, ht _ h2⟩
theorem bg_I (n : Nat) (ht : ∀ w ∈ bg, w.before args s = true) (h1 : Cond.methodLink own index y ∈ bg) (h2 : Cond.instanceMethod y ∈ bg) (h4 : Cond.initialized y.cls ∈ bg) (h5 : Cond.code y bytes maxL none ∈ bg) (hrc : rm.cells = mc) (hrs : rm.slots = ms)
    (hd : y.cls ≠ "java/lang/invoke/MethodHandle" ∧ y.cls ≠ "java/lang/invoke/VarHandle" ∧ (parseMethodDescriptor y.desc).map (fun d => d.parameters.length) = some n) (hR : rm.frames + 1 ≤ R.frames ∧ 8 + (maxL + 11) + rm.locals ≤ R.locals) (hy1 : y.name = "<init>" := by rfl) :
    CallB R s args own index y bytes maxL none (Cond.code y bytes maxL none :: bg) rm mc ms n ∧ y.name = "<init>" ∧ (Cond.instanceMethod y).before args s = true :=
  ⟨bg_B n ht h1 h4 h5 hrc hrs hd hR, hy1, ht _ h2⟩
theorem bg_SW {hh : List (Nat × Nat × Nat × Nat)} (n : Nat) (ht : ∀ w ∈ bg, w.before args s = true) (h1 : Cond.methodLink own index y ∈ bg) (h2 : Cond.static y ∈ bg) (h4 : Cond.initialized y.cls ∈ bg) (h5 : Cond.codeWith y bytes maxL ret hh ∈ bg) (hrc : rm.cells = mc) (hrs : rm.slots = ms)
    (hd : y.cls ≠ "java/lang/invoke/MethodHandle" ∧ y.cls ≠ "java/lang/invoke/VarHandle" ∧ (parseMethodDescriptor y.desc).map (fun d => d.parameters.length) = some n) (hR : rm.frames + 1 ≤ R.frames ∧ 8 + (maxL + 11) + rm.locals ≤ R.locals) :
    vx_CSW R s args own index y bytes maxL ret hh (Cond.codeWith y bytes maxL ret hh :: bg) rm mc ms n := by
  refine vx_cwSW n ht (fun w hw => ?_) rfl hrc hrs hd hR
  have hg : w ∈ bg := by
    rcases List.mem_append.mp hw with hw | hw
    · simp only [List.mem_cons, List.not_mem_nil, or_false] at hw
      rcases hw with rfl | rfl | rfl
      · exact h1
      · exact h2
      · exact h4
    · rcases List.mem_cons.mp hw with rfl | hw
      · exact h5
      · exact hw
  exact ⟨hg, good_of_word (List.all_eq_true.mp bg_good _ hg)⟩
end XBB
/-! WHAT STANDS OUTSIDE THE WORLDS: NO_BYTES, COMPACT_STRINGS, the formatter, Throwable's two statics, the literals, words that the tables alone decide -/
abbrev xe_N : Nat := 37
abbrev xe_M : Nat := 30
abbrev xe_G : Type := Nat × (Nat → Nat) × (Nat → Nat)
def xe_tab : List (String × Nat × String × List Int32) := [("ClassGate$AttributeCheck", 49, "ConstantValue", [67, 111, 110, 115, 116, 97, 110, 116, 86, 97, 108, 117, 101]), ("ClassGate$AttributeCheck", 123, "Code", [67, 111, 100, 101]), ("ClassGate$AttributeCheck", 125, "Exceptions", [69, 120, 99, 101, 112, 116, 105, 111, 110, 115]), ("ClassGate$AttributeCheck", 127, "InnerClasses", [73, 110, 110, 101, 114, 67, 108, 97, 115, 115, 101, 115]), ("ClassGate$AttributeCheck", 132, "BootstrapMethods", [66, 111, 111, 116, 115, 116, 114, 97, 112, 77, 101, 116, 104, 111, 100, 115]), ("ClassGate$AttributeCheck", 134, "NestHost", [78, 101, 115, 116, 72, 111, 115, 116]), ("ClassGate$AttributeCheck", 136, "NestMembers", [78, 101, 115, 116, 77, 101, 109, 98, 101, 114, 115]), ("ClassGate$AttributeCheck", 138, "Record", [82, 101, 99, 111, 114, 100]), ("ClassGate$AttributeCheck", 140, "PermittedSubclasses", [80, 101, 114, 109, 105, 116, 116, 101, 100, 83, 117, 98, 99, 108, 97, 115, 115, 101, 115]), ("ClassGate$AttributeCheck", 157, "Ljava/lang/String;", [76, 106, 97, 118, 97, 47, 108, 97, 110, 103, 47, 83, 116, 114, 105, 110, 103, 59]), ("ClassGate$AttributeCheck", 235, "StackMapTable", [83, 116, 97, 99, 107, 77, 97, 112, 84, 97, 98, 108, 101]), ("ClassGate$ClassCheck", 66, "java/lang/Object", [106, 97, 118, 97, 47, 108, 97, 110, 103, 47, 79, 98, 106, 101, 99, 116]), ("ClassGate$ClassCheck", 157, "<init>", [60, 105, 110, 105, 116, 62]), ("ClassGate$ClassCheck", 158, "<clinit>", [60, 99, 108, 105, 110, 105, 116, 62]), ("ClassGate$Pool", 98, "<init>", [60, 105, 110, 105, 116, 62]), ("ClassGateModel", 127, "ConstantValue", [67, 111, 110, 115, 116, 97, 110, 116, 86, 97, 108, 117, 101]), ("ClassGateModel", 129, "Code", [67, 111, 100, 101]), ("ClassGateModel", 131, "Exceptions", [69, 120, 99, 101, 112, 116, 105, 111, 110, 115]), ("ClassGateModel", 133, "StackMapTable", [83, 116, 97, 99, 107, 77, 97, 112, 84, 97, 98, 108, 101]), ("ClassGateModel", 135, "InnerClasses", [73, 110, 110, 101, 114, 67, 108, 97, 115, 115, 101, 115]), ("ClassGateModel", 137, "BootstrapMethods", [66, 111, 111, 116, 115, 116, 114, 97, 112, 77, 101, 116, 104, 111, 100, 115]), ("ClassGateModel", 139, "NestHost", [78, 101, 115, 116, 72, 111, 115, 116]), ("ClassGateModel", 141, "NestMembers", [78, 101, 115, 116, 77, 101, 109, 98, 101, 114, 115]), ("ClassGateModel", 143, "Record", [82, 101, 99, 111, 114, 100]), ("ClassGateModel", 145, "PermittedSubclasses", [80, 101, 114, 109, 105, 116, 116, 101, 100, 83, 117, 98, 99, 108, 97, 115, 115, 101, 115]), ("ClassGateModel", 178, "<init>", [60, 105, 110, 105, 116, 62]), ("ClassGateModel", 186, "<clinit>", [60, 99, 108, 105, 110, 105, 116, 62]), ("ClassGateModel", 191, "java/lang/Object", [106, 97, 118, 97, 47, 108, 97, 110, 103, 47, 79, 98, 106, 101, 99, 116]), ("ClassGateModel", 383, "Ljava/lang/String;", [76, 106, 97, 118, 97, 47, 108, 97, 110, 103, 47, 83, 116, 114, 105, 110, 103, 59]), ("ClassGateModel", 480, "1111111111111111232332222211111111111111111111111111112222211111111111111111111111111111111111111111111111111111111111111111111111113111111111111111111113333333333333333200111111333333355323113311043355", [49, 49, 49, 49, 49, 49, 49, 49, 49, 49, 49, 49, 49, 49, 49, 49, 50, 51, 50, 51, 51, 50, 50, 50, 50, 50, 49, 49, 49, 49, 49, 49, 49, 49, 49, 49, 49, 49, 49, 49, 49, 49, 49, 49, 49, 49, 49, 49, 49, 49, 49, 49, 49, 49, 50, 50, 50, 50, 50, 49, 49, 49, 49, 49, 49, 49, 49, 49, 49, 49, 49, 49, 49, 49, 49, 49, 49, 49, 49, 49, 49, 49, 49, 49, 49, 49, 49, 49, 49, 49, 49, 49, 49, 49, 49, 49, 49, 49, 49, 49, 49, 49, 49, 49, 49, 49, 49, 49, 49, 49, 49, 49, 49, 49, 49, 49, 49, 49, 49, 49, 49, 49, 49, 49, 49, 49, 49, 49, 49, 49, 49, 49, 51, 49, 49, 49, 49, 49, 49, 49, 49, 49, 49, 49, 49, 49, 49, 49, 49, 49, 49, 49, 49, 51, 51, 51, 51, 51, 51, 51, 51, 51, 51, 51, 51, 51, 51, 51, 51, 50, 48, 48, 49, 49, 49, 49, 49, 49, 51, 51, 51, 51, 51, 51, 51, 53, 53, 51, 50, 51, 49, 49, 51, 51, 49, 49, 48, 52, 51, 51, 53, 53]), ("ClassGate", 29, "more bytes than a file may have", []), ("ClassGate", 46, "not so many bytes have come", []), ("ClassGate", 148, "no such count", []), ("ClassGate", 154, "no such part", []), ("ClassGate", 187, "no such thing of a member", []), ("ClassGate", 209, "no such column", []), ("ClassGate", 237, "no such thing of an instruction", [])]
def xe_lt (k : Nat) : String × Nat × String × List Int32 := xe_tab.getD k ("", 0, "", [])
def xe_nw : List Cond := [.declares ⟨"java/lang/RuntimeException", "<init>", "(Ljava/lang/String;)V"⟩, .declares ⟨"java/lang/Exception", "<init>", "(Ljava/lang/String;)V"⟩, .declares ⟨"java/lang/Throwable", "<init>", "(Ljava/lang/String;)V"⟩, .castable "java/lang/IllegalArgumentException" "java/lang/IllegalArgumentException"]
def xe_L (g : xe_G) (k : Nat) (A : Nat → Prop) (U : State) (H : Heap) : Prop := vk_R (xe_lt k).1 (xe_lt k).2.1 (xe_lt k).2.2.1 (g.2.1 k) U ∧ va_O "java/lang/String" (g.2.1 k) A U H
def xe_C (g : xe_G) (k : Nat) (A : Nat → Prop) (U : State) (H : Heap) : Prop := va_OF "java/lang/String" "coder" "B" (.int 0) (g.2.1 k) A U H ∧ va_OF "java/lang/String" "value" "[B" (.ref (g.2.2 k)) (g.2.1 k) A U H ∧ va_T .byte (g.2.2 k) (xe_lt k).2.2.2.length (fun j => .int ((xe_lt k).2.2.2.getD j 0)) A U H
def xe_E (g : xe_G) (A : Nat → Prop) (U : State) (H : Heap) : Prop :=
  va_Z "ClassGate" "NO_BYTES" "[B" (.ref g.1) A U H ∧ va_T .byte g.1 0 (fun _ => .null) A U H ∧ va_Z "java/lang/String" "COMPACT_STRINGS" "Z" (.int 1) A U H ∧ va_Zq "jdk/internal/util/Preconditions" "SIOOBE_FORMATTER" "Ljava/util/function/BiFunction;" A U H ∧
  vx_Zq Bundle.tN "UNASSIGNED_STACK" Bundle.steD A U H ∧ vx_Zq Bundle.tN "SUPPRESSED_SENTINEL" Bundle.listD A U H ∧ (∀ k, k < xe_N → xe_L g k A U H) ∧ (∀ k, k < xe_M → xe_C g k A U H) ∧ (∀ w ∈ xe_nw, va_Nw w U) ∧ va_AO "ClassGate$Member" U ∧ va_AO "java/lang/String" U
theorem xe_ok {g : xe_G} : xb_ok (xe_E g) := by
  refine ⟨fun A s U H hW h => ?_, fun A U H H1 hq h => ?_, fun A B U H hAB h => ?_⟩
  · obtain ⟨h1, h2, h3, h4, h5, h6, h7, h8, h9, h10, h11⟩ := h
    refine ⟨va_Z.moved hW.alike h1, va_T.moved hW.alike h2, va_Z.moved hW.alike h3, va_Zq.moved hW.alike h4, vx_Zq.moved hW.alike h5, vx_Zq.moved hW.alike h6, fun k hk => ⟨vk_R.warm hW (h7 k hk).1, va_O.moved hW.alike (h7 k hk).2⟩, fun k hk => ⟨va_OF.moved hW.alike (h8 k hk).1, va_OF.moved hW.alike (h8 k hk).2.1, va_T.moved hW.alike (h8 k hk).2.2⟩, fun w hw => ?_, va_AO.moved hW.alike h10, va_AO.moved hW.alike h11⟩
    have h := h9 w hw
    simp only [xe_nw, List.mem_cons, List.not_mem_nil, or_false] at hw
    rcases hw with rfl | rfl | rfl | rfl
    · exact va_Nw.warmD hW h
    · exact va_Nw.warmD hW h
    · exact va_Nw.warmD hW h
    · exact va_Nw.warmC hW h
  · obtain ⟨h1, h2, h3, h4, h5, h6, h7, h8, h9, h10, h11⟩ := h
    exact ⟨h1.kept hq, h2.kept hq, h3.kept hq, h4.kept hq, h5.kept hq, h6.kept hq, fun k hk => ⟨(h7 k hk).1, (h7 k hk).2.kept hq⟩, fun k hk => ⟨(h8 k hk).1.kept hq, (h8 k hk).2.1.kept hq, (h8 k hk).2.2.kept hq⟩, h9, h10, h11⟩
  · obtain ⟨h1, h2, h3, h4, h5, h6, h7, h8, h9, h10, h11⟩ := h
    exact ⟨h1.narrow hAB, h2.narrow hAB, h3.narrow hAB, h4.narrow hAB, h5.narrow hAB, h6.narrow hAB, fun k hk => ⟨(h7 k hk).1, (h7 k hk).2.narrow hAB⟩, fun k hk => ⟨(h8 k hk).1.narrow hAB, (h8 k hk).2.1.narrow hAB, (h8 k hk).2.2.narrow hAB⟩, h9, h10, h11⟩
theorem xe_q {C n d : String} {A : Nat → Prop} {U : State} {H : Heap} (h : va_Zq C n d A U H) : ∃ v : Value, va_Z C n d v A U H ∧ v.category = 1 := by
  rcases h with h | ⟨t, h⟩
  · exact ⟨.null, h, rfl⟩
  · exact ⟨.ref t, h, rfl⟩
theorem xe_any {g : xe_G} {A : Nat → Prop} {s : State} {H : Heap} {locs : List Loc} (hE : xe_E g A s s.heap) (hS : va_S A s.heap H locs) (k : Nat) (hk : k < xe_N) : va_Any "java/lang/String" s H (g.2.1 k) := by
  obtain ⟨cell, h1, h2, h3, -⟩ := (hE.2.2.2.2.2.2.1 k hk).2.kept hS.2.1
  obtain ⟨kC, hkC, -⟩ := Vm.findClass_spec h3
  exact ⟨cell, h1, h2, ⟨kC, hkC⟩, fun comp h => by cases h3.symm.trans h; exact va_asg _ _⟩
theorem xe_recv {g : xe_G} {A : Nat → Prop} {s : State} {H : Heap} {locs : List Loc} (hE : xe_E g A s s.heap) (hS : va_S A s.heap H locs) (k : Nat) (hk : k < xe_N) : ∃ cell : Cell, H[g.2.1 k]? = some cell ∧ cell.vm.isStatics = false ∧ s.vm.findClass "java/lang/String" = some cell.cls := by
  obtain ⟨cell, h1, h2, h3, -⟩ := (hE.2.2.2.2.2.2.1 k hk).2.kept hS.2.1
  exact ⟨cell, h1, h2, h3⟩
theorem xe_moved {g : xe_G} {A : Nat → Prop} {s : State} {H : Heap} {locs : List Loc} (hE : xe_E g A s s.heap) (hS : va_S A s.heap H locs) : xe_E g A s H := xe_ok.2.1 _ _ _ _ hS.2.1 hE

theorem xe_good : ∀ w ∈ (vx_atS RX11 48 "java/lang/IllegalArgumentException" ["java/lang/RuntimeException", "java/lang/Exception"]).filter goodWord, w ∈ bg := by decide +kernel
theorem xe_rest : ∀ w ∈ (vx_atS RX11 48 "java/lang/IllegalArgumentException" ["java/lang/RuntimeException", "java/lang/Exception"]).filter (fun w => !goodWord w), w ∈ xe_nw := by decide +kernel
theorem xe_ot : ∀ w ∈ Cond.classLink RX11 44 "java/lang/IllegalArgumentException" :: Cond.initialized "java/lang/IllegalArgumentException" :: vx_atS RX11 48 "java/lang/IllegalArgumentException" ["java/lang/RuntimeException", "java/lang/Exception"], vx_ot w = true := by decide +kernel
theorem xe_on : ∀ w ∈ xe_nw, w.onTables = true := by decide +kernel
theorem xe_hat {g : xe_G} {A : Nat → Prop} {s : State} {args : Array Value} (hE : xe_E g A s s.heap) (htb : ∀ w ∈ bg, w.before args s = true) : ∀ w ∈ vx_atS RX11 48 "java/lang/IllegalArgumentException" ["java/lang/RuntimeException", "java/lang/Exception"], w.before args s = true :=
  vx_hat (B := xe_nw) (fun w hw => htb w (xe_good w hw)) xe_rest (fun w hw => va_Nw.use (xe_on w hw) (hE.2.2.2.2.2.2.2.2.1 w hw))
theorem xe_thrown {A : Nat → Prop} {D : va_G} {cl : List vw_C} {ws : va_W} {tys : List (ClassId × FieldType)} {s t : State} {H : Heap} {locs : List Loc} {K : String} {px : Prop} (hpx : px) (hP : va_P D cl ws H) (hK : va_K D cl tys s) (hD : va_D A ws) (hS : va_S A s.heap H locs) (hvm : s.vm.Alike t.vm) (hz : H.size ≤ t.heap.size) (hk : ∀ q : Nat, q < H.size → t.heap[q]? = H[q]?) :
    vx_X (fun _ : Unit => px) (fun E (_ : Unit) t => E = K ∧ xb_B D cl A (fun _ : Unit => ws) (fun _ : Unit => tys) () t) A K s t := by
  refine ⟨(), hpx, ⟨rfl, fun k q hq => va_at.kept (hP k q hq) (hk q.1 (hP k q hq).lt), va_K.moved hvm hK, hD⟩, Nat.le_trans hS.1 hz, fun q hq hA => ?_⟩
  rw [hk q (Nat.lt_of_lt_of_le hq hS.1)]
  exact hS.2.1 q hq hA
section XBX
variable {p : Program} {l : Launch} {e : Env} {R : Room} {s : State} {m : MethodId} {args : Array Value} {below : List Frame} {meth : Method} {c : Code} {H : Heap} {locs : List Loc} {cells slots : Nat} {Q : State → Prop}
variable {D : va_G} {cl : List vw_C} {ws wc wr : va_W} {tys tc : List (ClassId × FieldType)} {A : Nat → Prop} {pc : Nat} {ls : Array Slot} {rest st0 : List Value} {a : Array Value} {mc ms : Nat}
/-- a call that returns or throws K, under one handler that takes it -/
theorem xb_gox {S : Type} {post : Int32 → S → Prop} {W1 : S → va_W} {T1 : S → List (ClassId × FieldType)} {px : Prop} {own K : String} {a0 a1 hpc ct : Nat} (hr : vx_Run p l e R s m args below meth c H locs cells slots mc ms (F0 m pc ls st0) rest (va_Qi post (xb_B D cl (va_A wc H.size) W1 T1) (va_A wc H.size) a) (vx_X (fun _ : Unit => px) (fun E (_ : Unit) t => E = K ∧ xb_B D cl (va_A wc H.size) (fun _ : Unit => wc) (fun _ : Unit => tc) () t) (va_A wc H.size)) (va_A wc H.size))
    (hK : va_K D cl tys s) (hP : va_P D cl ws H) (hD : va_D A ws) (hS : va_S A s.heap H locs) (hA : ∀ q, s.heap.size ≤ q → A q) (isC isR : List Nat) (hC : isC.map (fun i => ws[i]?) = wc.map some) (hR : isR.map (fun i => ws[i]?) = wr.map some) (hnr : va_nd isR = true) (hdis : ∀ i ∈ isR, i ∉ isC)
    (hown : s.vm.findClass own = some m.cls) (hcl : (Cond.classLink own ct K).before args s = true) (htab : c.exceptionTable.toList = tableOf [(a0, a1, hpc, ct)]) (h0 : ct ≠ 0) (hcov : covers ⟨a0, a1, hpc, ct⟩ pc = true)
    (kk : ∀ (r : Int32) (u : S) (H1 : Heap) (locs1 : List Loc), post r u → va_P D cl (wr ++ W1 u) H1 → va_D A (wr ++ W1 u) → va_K D cl (tys ++ T1 u) s → va_S A s.heap H1 locs1 → W p l e R s m args below meth c H1 locs1 (cells + mc) (slots + ms) Q (F0 m (pc + 3) ls (.int r :: rest)))
    (kx : ∀ (x : Nat) (H1 : Heap) (locs1 : List Loc), px → va_P D cl (wr ++ wc) H1 → va_D A (wr ++ wc) → va_S A s.heap H1 locs1 → W p l e R s m args below meth c H1 locs1 (cells + mc) (slots + ms) Q (F0 m hpc ls [.ref x])) : W p l e R s m args below meth c H locs cells slots Q (F0 m pc ls st0) := by
  have hF := va_free hD hS hA isC hC
  refine vx_calli hr hS (fun q _ h => hF q h) hF (fun q _ h => hF q h) (fun E ce q9 u t H1 locs1 ht hvm hpx hBX hz hk1 hS1 hcell hv hcl1 => ?_) (fun r u t H1 locs1 ht hvm hw hB hz1 hk1 hS1 => ?_)
  · obtain ⟨rfl, hP1, -, hD1⟩ := hBX
    rw [ht] at hP1
    obtain ⟨hP2, hD2⟩ := va_join hP hD isC isR hC hR hnr hdis hk1 hF hP1 hD1
    intro T hT X
    obtain ⟨vm2, X2, st2⟩ := xt_caught (g := F0 m pc ls rest) X hown hcl htab h0 rfl hcov (by rw [hT]; exact hcell) hv hcl1 (va_asg _ _)
    obtain ⟨t2, b1, b2⟩ := kx q9 H1 locs1 hpx hP2 hD2 hS1 (T.setVm vm2) hT X2
    exact ⟨t2, st2 t2 b1, b2⟩
  · obtain ⟨hP1, hK1, hD1⟩ := hB
    rw [ht] at hP1
    obtain ⟨hP2, hD2⟩ := va_join hP hD isC isR hC hR hnr hdis hk1 hF hP1 hD1
    exact kk r u H1 locs1 hw hP2 hD2 (hK.app (va_K.moved hvm.symm hK1)) hS1
end XBX

/-! an object of many fields: a list of 82 values, of which some are known -/
def md_has (fs : List Value) (K : List (Nat × Value)) : Prop := fs.length = 82 ∧ ∀ q ∈ K, fs[q.1]? = some q.2
theorem md_at {fs : List Value} {K : List (Nat × Value)} (h : md_has fs K) (j : Nat) {k : Nat} {v : Value} (hj : K[j]? = some (k, v)) : fs[k]? = some v := h.2 (k, v) (List.mem_of_getElem? hj)
theorem md_sub {fs : List Value} {K K' : List (Nat × Value)} (h : md_has fs K) (js : List Nat) (hl : js.filterMap (fun j => K[j]?) = K') : md_has fs K' := by
  refine ⟨h.1, fun q hq => ?_⟩
  rw [← hl] at hq
  obtain ⟨j, -, hj⟩ := List.mem_filterMap.mp hq
  exact h.2 q (List.mem_of_getElem? hj)
theorem md_putD {fs : List Value} {K K' : List (Nat × Value)} (h : md_has fs K) (k : Nat) (v : Value) (hk : k < 82) (hl : K.filter (fun q => !(q.1 == k)) = K') : md_has (fs.set k v) K' := by
  refine ⟨by rw [List.length_set]; exact h.1, fun q hq => ?_⟩
  rw [← hl] at hq
  obtain ⟨h1, h2⟩ := List.mem_filter.mp hq
  have h3 : k ≠ q.1 := fun e => by simp [e] at h2
  rw [List.getElem?_set_ne h3]
  exact h.2 q h1
theorem md_put {fs : List Value} {K K' : List (Nat × Value)} (h : md_has fs K) (k : Nat) (v : Value) (hk : k < 82) (hl : (k, v) :: K.filter (fun q => !(q.1 == k)) = K') : md_has (fs.set k v) K' := by
  have h1 := md_putD h k v hk (K' := K.filter (fun q => !(q.1 == k))) rfl
  refine ⟨h1.1, fun q hq => ?_⟩
  rw [← hl] at hq
  rcases List.mem_cons.mp hq with rfl | hq
  · exact List.getElem?_set_self (by rw [h.1]; exact hk)
  · exact h1.2 q hq
