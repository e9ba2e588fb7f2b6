/-! THE SMALL MACHINE: cells by their addresses, in part unknown; locals by number; what it does, the machine does (my own text) -/
abbrev mi_C : Type := (FieldType × Nat × (Nat → Option Value)) ⊕ (Nat × (Nat → Option Value))
abbrev mi_H : Type := (Nat → Option mi_C) × Nat × Nat
abbrev mi_S : Type := Nat × List (Nat × Value) × List Value × mi_H
abbrev mi_R : Type := Option Value × mi_H
abbrev mi_O : Type := mi_S → Option mi_S
abbrev mi_N : Type := mi_O ⊕ (Nat × Nat × Option Nat) ⊕ (List Value → Option (Option Value))
abbrev mi_B : Type := (Nat → Option mi_N) × (Nat → Option (List Nat))
def mi_ld (lv : List (Nat × Value)) (i : Nat) : Option Value := (lv.find? (fun q => q.1 == i)).map (fun q => q.2)
def mi_pick (lv : List (Nat × Value)) (ks : List Nat) : List (Nat × Value) := ks.filterMap (fun k => lv.find? (fun q => q.1 == k))
def mi_nk (kl : Nat → Option (List Nat)) (S : mi_S) : mi_S := match kl S.1 with
  | some ks => (S.1, mi_pick S.2.1 ks, S.2.2)
  | none => S
def mi_okc (k : Option Nat) (na : Nat) (S : mi_S) : Bool := decide (na ≤ S.2.2.1.length) && decide ((((S.2.2.1.drop na)).map fun v => v.category).sum ≤ 8) && (match k with
  | none => true
  | some ci => match (S.2.2.1.take na).reverse with
    | .ref b :: _ => match S.2.2.2.1 b with
      | some (.inr (c, _)) => c == ci
      | _ => false
    | _ => false)
def mi_loop (tb : mi_B) (call : Nat → List Value → mi_H → Option mi_R) : Nat → mi_S → Option mi_R
  | 0, _ => none
  | n + 1, S => match tb.1 S.1 with
    | some (.inl o) => match o S with
      | some S' => mi_loop tb call n (mi_nk tb.2 S')
      | none => none
    | some (.inr (.inl c)) => match mi_okc c.2.2 c.2.1 S with
      | true => match call c.1 (S.2.2.1.take c.2.1).reverse S.2.2.2 with
        | some r => mi_loop tb call n (mi_nk tb.2 (S.1 + 3, S.2.1, r.1.toList ++ S.2.2.1.drop c.2.1, r.2))
        | none => none
      | false => none
    | some (.inr (.inr f)) => (f S.2.2.1).map (fun v => (v, S.2.2.2))
    | none => none
/-- number of the method, then: how many locals, its table -/
def mi_run (T : Nat → Option (Nat × mi_B)) (n : Nat) : Nat → Nat → List Value → mi_H → Option mi_R
  | 0, _, _, _ => none
  | d + 1, y, a, M => match T y with
    | none => none
    | some b => match decide ((lg_sl a).length ≤ b.1) with
      | true => mi_loop b.2 (mi_run T n d) n (0, lv_args 0 a, [], M)
      | false => none
/-! what the cells say of the heap -/
def mi_ct (ty : FieldType) (n : Nat) (f : Nat → Option Value) (x : vp_A) : Prop := x.1 = n ∧
  ((ty ∈ [FieldType.int, .byte, .char, .short, .boolean] ∧ ∃ h, x.2 = .inl h ∧ ∀ i v, f i = some v → v = .int (h i)) ∨ (ty = .long ∧ ∃ h, x.2 = .inr (.inl h) ∧ ∀ i v, f i = some v → v = .long (h i)) ∨
    ((∃ C, ty = .object C) ∧ ∃ h, x.2 = .inr (.inr (.inr (.inr h))) ∧ ∀ i v, f i = some v → v = va_rf (h i)))
def mi_n (ci : Nat) : Nat := match vwCl[ci]? with
  | some r => r.2.2
  | none => 0
def mi_e (tys : List (ClassId × FieldType)) (c : mi_C) (e : va_E) : Prop := match c with
  | .inl a => ∃ cA x, e = .inl (cA, x) ∧ (cA, a.1) ∈ tys ∧ mi_ct a.1 a.2.1 a.2.2 x
  | .inr o => ∃ fs, e = .inr (o.1, fs) ∧ fs.length = mi_n o.1 ∧ ∀ k v, o.2 k = some v → fs[k]? = some v
def mi_wr (g : xe_G) (a : Nat) (c : mi_C) : Prop := a ≠ g.1 ∧ ∀ o, c = .inr o → o.1 < 100
def mi_in (g : xe_G) (tys : List (ClassId × FieldType)) (ws : va_W) (a : Nat) (c : mi_C) : Prop :=
  (mi_wr g a c ∧ ∃ (k : Nat) (e : va_E), ws[k]? = some (a, e) ∧ mi_e tys c e) ∨ (a = g.1 ∧ ∃ f, c = .inl (.byte, 0, f)) ∨ (∃ k f, k < xe_N ∧ a = g.2.1 k ∧ c = .inr (100 + k, f))
def mi_rel (g : xe_G) (D : va_G) (A : Nat → Prop) (s : State) (M : mi_H) (H : Heap) (ws : va_W) (tys : List (ClassId × FieldType)) : Prop :=
  va_K D vwCl tys s ∧ va_P D vwCl ws H ∧ va_D A ws ∧ H.size = M.2.1 ∧ (∀ a c, M.1 a = some c → mi_in g tys ws a c) ∧ ∀ (k a : Nat) (e : va_E), ws[k]? = some (a, e) → ∃ c, M.1 a = some c ∧ mi_wr g a c
def mi_A (g : xe_G) (M : mi_H) : Nat → Prop := fun q => (∃ c, M.1 q = some c ∧ mi_wr g q c) ∨ M.2.1 ≤ q
def mi_Pre (g : xe_G) (D : va_G) (M : mi_H) (av : List Value) : Array Value → State → Prop := va_Pc av (fun U => ∃ ws tys, mi_rel g D (fun _ => True) U M U.heap ws tys ∧ xe_E g (mi_A g M) U U.heap)
def mi_Q (g : xe_G) (D : va_G) (M : mi_H) (v : Option Value) (M' : mi_H) : Array Value → State → Outcome → State → Prop := fun _ st oc t =>
  (oc = .returned v ∧ ∃ ws tys, mi_rel g D (mi_A g M) t M' t.heap ws tys) ∧ va_F (mi_A g M) st t
def mi_rm (d mc ms : Nat) : Room := { frames := d + 8, cells := mc, slots := ms, locals := 40 * d + 1000 }
/-- what a walk of a method knows all along -/
def mi_cx (own : String) (cc : ByteArray) (nL : Nat) (ini : Bool) (g : xe_G) (D : va_G) (p : Program) (e : Env) (R : Room) (s : State) (m : MethodId) (args : Array Value) (meth : Method) (c : Code) (A : Nat → Prop) : Prop :=
  p.tables.exec = Jvm.exec ∧ c.code = cc ∧ c.maxLocals = nL ∧ s.vm.findClass own = some m.cls ∧ (∀ w ∈ bg, w.before args s = true) ∧ xe_E g A s s.heap ∧ (ini = true → meth.name = "<init>") ∧ (∀ q, s.heap.size ≤ q → A q) ∧ va_K D vwCl [] s ∧ 8 ≤ R.frames ∧ 1000 ≤ R.locals
def mi_W (nL : Nat) (g : xe_G) (D : va_G) (p : Program) (l : Launch) (e : Env) (R : Room) (s : State) (m : MethodId) (args : Array Value) (below : List Frame) (meth : Method) (c : Code) (A : Nat → Prop) (n0 s0 : Nat) (Q : State → Prop) (S : mi_S) : Prop :=
  ∀ H locs ls ws tys, mi_rel g D A s S.2.2.2 H ws tys → lv_has ls nL S.2.1 → va_S A s.heap H locs → W p l e R s m args below meth c H locs (S.2.2.2.2.1 - n0) (S.2.2.2.2.2 - s0) Q (F0 m S.1 ls S.2.2.1)
def mi_sim (g : xe_G) (own : String) (cc : ByteArray) (nL : Nat) (ini : Bool) (pc : Nat) (o : mi_O) : Prop :=
  ∀ lv st M S', o (pc, lv, st, M) = some S' → (M.2.1 ≤ S'.2.2.2.2.1 ∧ M.2.2 ≤ S'.2.2.2.2.2) ∧
    ∀ (D : va_G) (p : Program) (l : Launch) (e : Env) (R : Room) (s : State) (m : MethodId) (args : Array Value) (below : List Frame) (meth : Method) (c : Code) (A : Nat → Prop) (n0 s0 : Nat) (Q : State → Prop),
      mi_cx own cc nL ini g D p e R s m args meth c A → n0 ≤ M.2.1 → s0 ≤ M.2.2 → S'.2.2.2.2.1 - n0 ≤ R.cells → S'.2.2.2.2.2 - s0 ≤ R.slots →
      mi_W nL g D p l e R s m args below meth c A n0 s0 Q S' → mi_W nL g D p l e R s m args below meth c A n0 s0 Q (pc, lv, st, M)
/-- steps that leave heap and locals alone -/
def mi_ps (g : xe_G) (own : String) (cc : ByteArray) (nL : Nat) (ini : Bool) (pc : Nat) (o : mi_O) : Prop :=
  ∀ lv st M S', o (pc, lv, st, M) = some S' → S'.2.2.2 = M ∧ S'.2.1 = lv ∧
    ∀ (D : va_G) (p : Program) (l : Launch) (e : Env) (R : Room) (s : State) (m : MethodId) (args : Array Value) (below : List Frame) (meth : Method) (c : Code) (A : Nat → Prop) (Q : State → Prop) (H : Heap) (locs : List Loc) (ls : Array Slot) (cells slots : Nat) (ws : va_W) (tys : List (ClassId × FieldType)),
      mi_cx own cc nL ini g D p e R s m args meth c A → mi_rel g D A s M H ws tys → lv_has ls nL lv → va_S A s.heap H locs → cells ≤ R.cells → slots ≤ R.slots →
      W p l e R s m args below meth c H locs cells slots Q (F0 m S'.1 ls S'.2.2.1) → W p l e R s m args below meth c H locs cells slots Q (F0 m pc ls st)
theorem mi_ps.sim {g : xe_G} {own : String} {cc : ByteArray} {nL : Nat} {ini : Bool} {pc : Nat} {o : mi_O} (h : mi_ps g own cc nL ini pc o) : mi_sim g own cc nL ini pc o := by
  intro lv st M S' ho
  obtain ⟨pc', lv', st', M'⟩ := S'
  obtain ⟨h1, h2, h3⟩ := h lv st M _ ho
  dsimp only at h1 h2 h3
  subst h1; subst h2
  refine ⟨⟨Nat.le_refl _, Nat.le_refl _⟩, ?_⟩
  intro D p l e R s m args below meth c A n0 s0 Q hc _ _ hR1 hR2 hW H locs ls ws tys hr hl hS
  exact h3 D p l e R s m args below meth c A Q H locs ls _ _ ws tys hc hr hl hS hR1 hR2 (hW H locs ls ws tys hr hl hS)
theorem mi_ld_has {ls : Array Slot} {nL i : Nat} {lv : List (Nat × Value)} {v : Value} (h : lv_has ls nL lv) (hv : mi_ld lv i = some v) : ls[i]? = some (.val v) := by
  unfold mi_ld at hv
  cases hf : lv.find? (fun q => q.1 == i) with
  | none => rw [hf] at hv; cases hv
  | some q =>
    rw [hf] at hv
    have h1 := List.find?_some hf
    have h2 := List.mem_of_find?_eq_some hf
    have h3 : q.1 = i := by simpa using h1
    cases hv
    rw [← h3]
    exact h.2.2 q h2
theorem mi_pick_has {ls : Array Slot} {nL : Nat} {lv : List (Nat × Value)} (h : lv_has ls nL lv) (ks : List Nat) : lv_has ls nL (mi_pick lv ks) := by
  refine ⟨h.1, h.2.1, fun q hq => ?_⟩
  obtain ⟨k, -, hk⟩ := List.mem_filterMap.mp hq
  exact h.2.2 q (List.mem_of_find?_eq_some hk)
theorem mi_nk_W {kl : Nat → Option (List Nat)} {nL : Nat} {g : xe_G} {D : va_G} {p : Program} {l : Launch} {e : Env} {R : Room} {s : State} {m : MethodId} {args : Array Value} {below : List Frame} {meth : Method} {c : Code} {A : Nat → Prop} {n0 s0 : Nat} {Q : State → Prop} {S : mi_S}
    (h : mi_W nL g D p l e R s m args below meth c A n0 s0 Q (mi_nk kl S)) : mi_W nL g D p l e R s m args below meth c A n0 s0 Q S := by
  intro H locs ls ws tys hr hl hS
  unfold mi_nk at h
  split at h
  · exact h H locs ls ws tys hr (mi_pick_has hl _) hS
  · exact h H locs ls ws tys hr hl hS
theorem mi_nk_H {kl : Nat → Option (List Nat)} {S : mi_S} : (mi_nk kl S).2.2 = S.2.2 ∧ (mi_nk kl S).1 = S.1 := by
  unfold mi_nk
  split <;> exact ⟨rfl, rfl⟩
