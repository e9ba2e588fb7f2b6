/-! two small heaps over one heap: what a call leaves to the other side (my own text) -/
section LWF
variable {g : xe_G} {D : va_G} {A A' : Nat → Prop} {s : State} {M M' M1 : mi_H} {H H1 : Heap} {ws : va_W} {tys : List (ClassId × FieldType)}
/-- cells that may be written -/
def lown (g : xe_G) (M : mi_H) (a : Nat) : Prop := ∃ c, M.1 a = some c ∧ mi_wr g a c
theorem mi_rel.frame (h : mi_rel g D A s M H ws tys) (hk : ∀ a, lown g M a → H1[a]? = H[a]?) : mi_rel g D A s (M.1, H1.size, M.2.2) H1 ws tys := by
  obtain ⟨hK, hP, hD, hz, hM, hws⟩ := h
  exact ⟨hK, fun k q hq => va_at.kept (hP k q hq) (hk q.1 (hws k q.1 q.2 hq)), hD, rfl, hM, hws⟩
theorem mi_rel.lt (h : mi_rel g D A s M H ws tys) {a : Nat} (ha : lown g M a) : a < H.size ∧ A a := by
  obtain ⟨c, h1, h2⟩ := ha
  rcases h.2.2.2.2.1 a c h1 with ⟨-, k, e, hk, -⟩ | ⟨h3, -⟩ | ⟨k9, f9, -, -, h9⟩
  · exact ⟨(h.2.1 k _ hk).lt, h.2.2.1.2 k _ hk⟩
  · exact absurd h3 h2.1
  · exact absurd (h2.2 _ h9) (by show ¬ 100 + k9 < 100; omega)
theorem mi_rel.wide (h : mi_rel g D A s M H ws tys) (hA : ∀ q, A q → A' q) : mi_rel g D A' s M H ws tys :=
  ⟨h.1, h.2.1, h.2.2.1.weaken (fun _ _ _ h9 => hA _ h9), h.2.2.2⟩
theorem mi_rel.self (h : mi_rel g D A s M H ws tys) : mi_rel g D (mi_A g M) s M H ws tys :=
  ⟨h.1, h.2.1, ⟨h.2.2.1.1, fun k x hx => by
    obtain ⟨c9, h1, h2⟩ := h.2.2.2.2.2 k x.1 x.2 hx
    exact Or.inl ⟨c9, h1, h2⟩⟩, h.2.2.2⟩
theorem mi_rel.vm {U : State} (h : mi_rel g D A s M H ws tys) (hv : s.vm.Alike U.vm) : mi_rel g D A U M H ws tys := ⟨va_K.moved hv h.1, h.2⟩
theorem cle_wr {c c' : mi_C} {a : Nat} (h : cle c c') (hw : mi_wr g a c') : mi_wr g a c := by
  refine ⟨hw.1, fun o ho => ?_⟩
  subst ho
  cases c' with
  | inl b => exact h.elim
  | inr b => rw [h.1]; exact hw.2 b rfl
theorem cle_e {c c' : mi_C} {e : va_E} (h : cle c c') (he : mi_e tys c' e) : mi_e tys c e := by
  cases c with
  | inl a =>
    cases c' with
    | inr b => exact h.elim
    | inl b =>
      obtain ⟨t, n, f⟩ := a
      obtain ⟨t', n', f'⟩ := b
      obtain ⟨h1, h2, h3⟩ := h
      dsimp only at h1 h2 h3
      subst h1
      subst h2
      obtain ⟨cA, x, e1, e2, e3, e4⟩ := he
      refine ⟨cA, x, e1, e2, e3, ?_⟩
      rcases e4 with ⟨k1, k, k2, k3⟩ | ⟨k1, k, k2, k3⟩ | ⟨k1, k, k2, k3⟩
      · exact Or.inl ⟨k1, k, k2, fun i v hv => k3 i v (h3 i v hv)⟩
      · exact Or.inr (Or.inl ⟨k1, k, k2, fun i v hv => k3 i v (h3 i v hv)⟩)
      · exact Or.inr (Or.inr ⟨k1, k, k2, fun i v hv => k3 i v (h3 i v hv)⟩)
  | inr a =>
    cases c' with
    | inl b => exact h.elim
    | inr b =>
      obtain ⟨n, f⟩ := a
      obtain ⟨n', f'⟩ := b
      obtain ⟨h1, h3⟩ := h
      dsimp only at h1 h3
      subst h1
      obtain ⟨fs, e1, e2, e3⟩ := he
      exact ⟨fs, e1, e2, fun k v hv => e3 k v (h3 k v hv)⟩
/-- less knowledge -/
theorem mi_rel.less (h : mi_rel g D A s M' H ws tys) (hl : hle M1 M') (h2 : M1.2.1 = M'.2.1) : ∃ ws', mi_rel g D A s M1 H ws' tys := by
  obtain ⟨hK, hP, hD, hz, hM, hws⟩ := h
  have hmem : ∀ x, x ∈ ws.filter (fun e => (M1.1 e.1).isSome) → x ∈ ws ∧ (M1.1 x.1).isSome = true := fun x hx => List.mem_filter.mp hx
  have hpw : ws.Pairwise (fun p q => p.1 ≠ q.1) := by
    rw [List.pairwise_iff_getElem]
    intro i j hi hj hij e
    have := hD.1 i j _ _ (List.getElem?_eq_getElem hi) (List.getElem?_eq_getElem hj) e
    omega
  have hpf := hpw.filter (fun e => (M1.1 e.1).isSome)
  refine ⟨ws.filter (fun e => (M1.1 e.1).isSome), hK, fun k q hq => ?_, ⟨fun i j p q hi hj e => ?_, fun k q hq => ?_⟩, hz.trans h2.symm, fun a c hc => ?_, fun k a e hk => ?_⟩
  · obtain ⟨h3, -⟩ := hmem q (List.mem_of_getElem? hq)
    obtain ⟨i, hi⟩ := List.getElem?_of_mem h3
    exact hP i q hi
  · rw [List.pairwise_iff_getElem] at hpf
    obtain ⟨hi', rfl⟩ := List.getElem?_eq_some_iff.mp hi
    obtain ⟨hj', rfl⟩ := List.getElem?_eq_some_iff.mp hj
    rcases Nat.lt_trichotomy i j with h9 | h9 | h9
    · exact absurd e (hpf i j hi' hj' h9)
    · exact h9
    · exact absurd e.symm (hpf j i hj' hi' h9)
  · obtain ⟨h3, -⟩ := hmem q (List.mem_of_getElem? hq)
    obtain ⟨i, hi⟩ := List.getElem?_of_mem h3
    exact hD.2 i q hi
  · obtain ⟨c', h3, h4⟩ := hl a c hc
    rcases hM a c' h3 with ⟨hw, k, e, hk, he⟩ | ⟨h5, f, h6⟩ | ⟨k, f, h5, h6, h7⟩
    · refine Or.inl ⟨cle_wr h4 hw, ?_⟩
      have hm : (a, e) ∈ ws.filter (fun e => (M1.1 e.1).isSome) := List.mem_filter.mpr ⟨List.mem_of_getElem? hk, by simp [hc]⟩
      obtain ⟨i, hi⟩ := List.getElem?_of_mem hm
      exact ⟨i, e, hi, cle_e h4 he⟩
    · subst h6
      cases c with
      | inr b => exact h4.elim
      | inl b =>
        obtain ⟨t, n, f'⟩ := b
        obtain ⟨k1, k2, -⟩ := h4
        dsimp only at k1 k2
        subst k1
        subst k2
        exact Or.inr (Or.inl ⟨h5, f', rfl⟩)
    · subst h7
      cases c with
      | inl b => exact h4.elim
      | inr b =>
        obtain ⟨n, f'⟩ := b
        obtain ⟨k1, -⟩ := h4
        dsimp only at k1
        subst k1
        exact Or.inr (Or.inr ⟨k, f', h5, h6, rfl⟩)
  · obtain ⟨h3, h4⟩ := hmem _ (List.mem_of_getElem? hk)
    obtain ⟨i, hi⟩ := List.getElem?_of_mem h3
    obtain ⟨c', h5, h6⟩ := hws i a e hi
    obtain ⟨c, hc⟩ := Option.isSome_iff_exists.mp h4
    obtain ⟨c2, h7, h8⟩ := hl a c hc
    rw [h5] at h7
    cases h7
    exact ⟨c, hc, cle_wr h8 h6⟩
/-- a run that ends, as a contract of the machine -/
theorem mt.met {l : Launch} {d y : Nat} {a : List Value} {Q : Option Value → mi_H → Prop} (h : mt (mT g) d y a M Q) : ∃ v M', mi_met l g (mI y) d a M v M' ∧ Q v M' := by
  obtain ⟨r, ⟨n0, hr⟩, hq⟩ := h
  exact ⟨r.1, r.2, mi_sound mT_ok d y a M r (hr n0 (Nat.le_refl _)), hq⟩
end LWF
section LWG
variable {p : Program} {l : Launch} {e : Env} {R : Room} {s : State} {m : MethodId} {args : Array Value} {below : List Frame} {meth : Method} {c : Code} {H : Heap} {locs : List Loc} {cells slots : Nat} {Q : State → Prop} {pc : Nat} {ls : Array Slot} {rest st0 : List Value} {a : Array Value} {mc ms : Nat}
variable {g : xe_G} {D : va_G} {A : Nat → Prop} {M M' : mi_H} {v : Option Value} {ws : va_W} {tys : List (ClassId × FieldType)}
/-- a call of one side: what it leaves, and what it leaves alone -/
theorem mi_goF (hr : va_Run p l e R s m args below meth c H locs cells slots mc ms (F0 m pc ls st0) rest (mi_Q g D M v M' a) (mi_A g M))
    (hF : ∀ q, mi_A g M q → A q) (hS : va_S A s.heap H locs)
    (kk : ∀ (H1 : Heap) (locs1 : List Loc) (ws1 : va_W) (tys1 : List (ClassId × FieldType)), mi_rel g D (mi_A g M) s M' H1 ws1 tys1 → H.size ≤ H1.size → (∀ q : Nat, q < H.size → ¬ mi_A g M q → H1[q]? = H[q]?) → va_S A s.heap H1 locs1 → W p l e R s m args below meth c H1 locs1 (cells + mc) (slots + ms) Q (F0 m (pc + 3) ls (v.toList ++ rest))) : W p l e R s m args below meth c H locs cells slots Q (F0 m pc ls st0) := by
  intro T hT X
  obtain ⟨v', st₀, t, T', L, h0, X', hL, e1, e2, ⟨⟨hv, ws1, tys1, hrel1⟩, hz, hk⟩, st⟩ := hr T hT X
  cases hv
  rw [h0] at hz hk
  obtain ⟨g1, g2, g3, g4, g5, g6⟩ := hrel1
  obtain ⟨t2, a1, b1⟩ := kk T'.heap (locs ++ L) ws1 tys1 ⟨va_K.moved (Vm.Alike.symm (by rw [← e2]; exact X'.warmed.alike)) g1, by rw [e1]; exact g2, g3, by rw [e1]; exact g4, g5, g6⟩
    (by rw [e1]; exact hz) (fun q h1 h2 => by rw [e1]; exact hk q h1 h2)
    ⟨Nat.le_trans hS.1 (by rw [e1]; exact hz), fun q h1 h2 => by rw [e1, hk q (Nat.lt_of_lt_of_le h1 hS.1) (fun z => h2 (hF q z))]; exact hS.2.1 q h1 h2, fun q hq => by
      rcases List.mem_append.mp hq with h | h
      · exact hS.2.2 q h
      · exact hF _ (hL q h)⟩ T' rfl X'
  exact ⟨t2, st t2 a1, b1⟩
abbrev IAE : String := "java/lang/IllegalArgumentException"
/-- where the class has refused -/
def cx_X (g : xe_G) (D : va_G) (M : mi_H) : String → State → State → Prop := fun E st t => (E = IAE ∧ ∃ ws tys, mi_rel g D (mi_A g M) t (M.1, t.heap.size, M.2.2) t.heap ws tys) ∧ va_F (mi_A g M) st t
theorem cx_goW {own : String} {a0 a1 hpc ct : Nat} (hr : vx_Run p l e R s m args below meth c H locs cells slots mc ms (F0 m pc ls st0) rest (fun _ _ _ => False) (cx_X g D M) (mi_A g M))
    (hF : ∀ q, mi_A g M q → A q) (hS : va_S A s.heap H locs)
    (hown : s.vm.findClass own = some m.cls) (hcl : (Cond.classLink own ct IAE).before args s = true) (htab : c.exceptionTable.toList = tableOf [(a0, a1, hpc, ct)]) (h0 : ct ≠ 0) (hcov : covers ⟨a0, a1, hpc, ct⟩ pc = true)
    (kx : ∀ (x : Nat) (H1 : Heap) (locs1 : List Loc) (ws1 : va_W) (tys1 : List (ClassId × FieldType)), mi_rel g D (mi_A g M) s (M.1, H1.size, M.2.2) H1 ws1 tys1 → H.size ≤ H1.size → (∀ q : Nat, q < H.size → ¬ mi_A g M q → H1[q]? = H[q]?) → va_S A s.heap H1 locs1 → W p l e R s m args below meth c H1 locs1 (cells + mc) (slots + ms) Q (F0 m hpc ls [.ref x])) : W p l e R s m args below meth c H locs cells slots Q (F0 m pc ls st0) := by
  intro T hT X
  rcases hr T hT X with ⟨v, st₀, t, T', L, h0, X', hL, e1, e2, hq, st⟩ | ⟨q, st₀, t, T', L, E, ce, h1, X', hL, e1, e2, ⟨⟨rfl, ws1, tys1, hrel1⟩, hFF⟩, hce, hcv, hcl1, st⟩
  · exact hq.elim
  · obtain ⟨k1, k2, k3⟩ := vx_keep h1 e1 hS (fun q _ h => hF q h) hF hL hFF
    obtain ⟨vm2, X2, st2⟩ := xt_caught (g := F0 m pc ls rest) X' hown hcl htab h0 rfl hcov (by rw [e1]; exact hce) hcv hcl1 (va_asg _ _)
    obtain ⟨g1, g2, g3, g4, g5, g6⟩ := hrel1
    obtain ⟨t2, a1, b1⟩ := kx q T'.heap (locs ++ L) ws1 tys1 ⟨va_K.moved (Vm.Alike.symm (by rw [← e2]; exact X'.warmed.alike)) g1, by rw [e1]; exact g2, g3, rfl, g5, g6⟩ k1 k2 k3 (T'.setVm vm2) rfl X2
    exact ⟨t2, st.trans (st2 t2 a1), b1⟩
/-! the law's helpers: the class's heap M, and the row out at qo -/
def lh_A (g : xe_G) (M : mi_H) (qo : Nat) : Nat → Prop := fun q => mi_A g M q ∨ q = qo
def oW (qo : Nat) (aO : ClassId) (fo : Nat → Int64) : va_W := [(qo, .inl (aO, 1, .inr (.inl fo)))]
def lh_Pre (g : xe_G) (D : va_G) (M : mi_H) (qo : Nat) (aO : ClassId) (av : List Value) : Array Value → State → Prop := va_Pc av (fun U => ∃ ws tys fo, mi_rel g D (fun _ => True) U M U.heap ws tys ∧ va_P D vwCl (oW qo aO fo) U.heap ∧ va_K D vwCl [(aO, .long)] U ∧ ¬ lown g M qo ∧ xe_E g (lh_A g M qo) U U.heap)
def lh_Q (g : xe_G) (D : va_G) (M : mi_H) (qo : Nat) (aO : ClassId) (post : Int32 → mi_H → Int64 → Prop) : Array Value → State → Outcome → State → Prop := fun _ st oc t =>
  (∃ (r : Int32) (M' : mi_H) (fo : Nat → Int64) (ws : va_W) (tys : List (ClassId × FieldType)), oc = .returned (some (.int r)) ∧ post r M' (fo 0) ∧ mi_rel g D (mi_A g M) t M' t.heap ws tys ∧ va_P D vwCl (oW qo aO fo) t.heap) ∧ va_F (lh_A g M qo) st t
theorem lh_blind {qo : Nat} {aO : ClassId} {av : List Value} : FrameBlind (lh_Pre g D M qo aO av) := by
  intro a U g9 mk q
  obtain ⟨h0, ws, tys, fo, ⟨h1, h2⟩, h3, h4, h5, h6⟩ := q
  exact ⟨h0, ws, tys, fo, ⟨va_K.moved (u := U) (U := U.calling g9 mk a) (Vm.Alike.refl U.vm) h1, h2⟩, h3, va_K.moved (u := U) (U := U.calling g9 mk a) (Vm.Alike.refl U.vm) h4, h5, xe_ok.1 _ U (U.calling g9 mk a) _ (State.WarmedH.refl U) h6⟩
theorem lh_enter {qo : Nat} {aO : ClassId} {fo : Nat → Int64} {av : List Value} (hr : mi_rel g D A s M H ws tys) (hS : va_S A s.heap H locs) (hA : ∀ q, s.heap.size ≤ q → A q) (hE : xe_E g A s s.heap) (ho : va_P D vwCl (oW qo aO fo) H) (hK : va_K D vwCl [(aO, .long)] s) (hq : ¬ lown g M qo) (hAo : A qo) :
    ∀ U : State, U.heap = H → s.WarmedH U.vm → lh_Pre g D M qo aO av av.toArray U := by
  intro U hU hW
  obtain ⟨h1, h2, h3, h4, h5, h6⟩ := id hr
  refine ⟨rfl, ws, tys, fo, ⟨va_K.moved hW.alike h1, by rw [hU]; exact h2, h3.weaken (fun _ _ _ _ => trivial), by rw [hU]; exact h4, h5, h6⟩, by rw [hU]; exact ho, va_K.moved hW.alike hK, hq, ?_⟩
  rw [hU]
  exact xe_ok.1 _ _ _ _ hW (xe_ok.2.2 _ _ _ _ (fun q h => h.elim (mi_A_sub hr hS hA q) (fun e => e ▸ hAo)) (xe_ok.2.1 _ _ _ _ hS.2.1 hE))
theorem lh_goW {qo : Nat} {aO : ClassId} {post : Int32 → mi_H → Int64 → Prop} (hr : va_Run p l e R s m args below meth c H locs cells slots mc ms (F0 m pc ls st0) rest (lh_Q g D M qo aO post a) (lh_A g M qo))
    (hF : ∀ q, lh_A g M qo q → A q) (hS : va_S A s.heap H locs)
    (kk : ∀ (r : Int32) (M' : mi_H) (fo : Nat → Int64) (H1 : Heap) (locs1 : List Loc) (ws1 : va_W) (tys1 : List (ClassId × FieldType)), post r M' (fo 0) → mi_rel g D (mi_A g M) s M' H1 ws1 tys1 → va_P D vwCl (oW qo aO fo) H1 → H.size ≤ H1.size → (∀ q : Nat, q < H.size → ¬ lh_A g M qo q → H1[q]? = H[q]?) → va_S A s.heap H1 locs1 → W p l e R s m args below meth c H1 locs1 (cells + mc) (slots + ms) Q (F0 m (pc + 3) ls (.int r :: rest))) : W p l e R s m args below meth c H locs cells slots Q (F0 m pc ls st0) := by
  intro T hT X
  obtain ⟨v', st₀, t, T', L, h0, X', hL, e1, e2, ⟨⟨r, M', fo, ws1, tys1, hv, hp, hrel1, ho⟩, hz, hk⟩, st⟩ := hr T hT X
  cases hv
  rw [h0] at hz hk
  obtain ⟨g1, g2, g3, g4, g5, g6⟩ := hrel1
  obtain ⟨t2, a1, b1⟩ := kk r M' fo T'.heap (locs ++ L) ws1 tys1 hp ⟨va_K.moved (Vm.Alike.symm (by rw [← e2]; exact X'.warmed.alike)) g1, by rw [e1]; exact g2, g3, by rw [e1]; exact g4, g5, g6⟩
    (by rw [e1]; exact ho) (by rw [e1]; exact hz) (fun q h1 h2 => by rw [e1]; exact hk q h1 h2)
    ⟨Nat.le_trans hS.1 (by rw [e1]; exact hz), fun q h1 h2 => by rw [e1, hk q (Nat.lt_of_lt_of_le h1 hS.1) (fun z => h2 (hF q z))]; exact hS.2.1 q h1 h2, fun q hq => by
      rcases List.mem_append.mp hq with h | h
      · exact hS.2.2 q h
      · exact hF _ (hL q h)⟩ T' rfl X'
  exact ⟨t2, st t2 a1, b1⟩
end LWG
section LWO
variable {p : Program} {l : Launch} {e : Env} {R : Room} {s : State} {m : MethodId} {args : Array Value} {below : List Frame} {meth : Method} {c : Code} {H : Heap} {locs : List Loc} {cells slots : Nat} {Q : State → Prop} {pc : Nat} {ls : Array Slot} {rest : List Value}
variable {D : va_G} {A : Nat → Prop}
theorem lh_last {cc : ByteArray} {qo : Nat} {aO : ClassId} {fo : Nat → Int64} {v : Int64} (hx : p.tables.exec = Jvm.exec) (hb : c.code = cc) (ho : va_P D vwCl (oW qo aO fo) H) (hKo : va_K D vwCl [(aO, .long)] s) (hS : va_S A s.heap H locs) (hAo : A qo) (hd : decode cc pc = .ok (.lastore, 1))
    (kk : ∀ (H1 : Heap) (locs1 : List Loc) (fo1 : Nat → Int64), va_P D vwCl (oW qo aO fo1) H1 → fo1 0 = v → H1.size = H.size → (∀ q : Nat, q ≠ qo → H1[q]? = H[q]?) → va_S A s.heap H1 locs1 → W p l e R s m args below meth c H1 locs1 cells slots Q (F0 m (pc + 1) ls rest)) : W p l e R s m args below meth c H locs cells slots Q (F0 m pc ls (.long v :: .int 0 :: .ref qo :: rest)) := by
  refine W.last hx hb (ho 0 _ rfl) ((hKo.2 0 _ rfl).1 1 (fun j => .long (fo j))) (fun q => by cases q) (by show ¬ ((0 : Int32) < 0 ∨ (arrV _ _ _).slots.size ≤ _); rw [arrV_size]; show ¬ ((0 : Int32) < 0 ∨ 1 ≤ Int32.toNatClampNeg 0); decide) rfl rfl hd fun H1 e1 z oq => ?_
  refine kk H1 _ (vp_updL fo (Int32.toNatClampNeg 0) v) (fun k q hq => ?_) (by simp [vp_updL]) z oq (hS.put z oq hAo)
  have hz : k < 1 := (List.getElem?_eq_some_iff.mp hq).1
  rw [show k = 0 by omega] at hq
  cases hq
  show H1[qo]? = some (vp_cell _ _)
  rw [e1]
  rw [vp_cell_l, vp_cell_l, arrV_store]
  congr 2
  funext q
  by_cases hq : q = Int32.toNatClampNeg 0
  · subst hq
    simp [updV, vp_updL]
  · have hq' : ¬ q = 0 := hq
    simp [updV, vp_updL, hq']
theorem oW.kept {qo : Nat} {aO : ClassId} {fo : Nat → Int64} {H1 : Heap} (ho : va_P D vwCl (oW qo aO fo) H) (hk : H1[qo]? = H[qo]?) : va_P D vwCl (oW qo aO fo) H1 := by
  intro k q hq
  have h1 := ho k q hq
  have hz : k < 1 := (List.getElem?_eq_some_iff.mp hq).1
  rw [show k = 0 by omega] at hq
  cases hq
  exact va_at.kept h1 hk
theorem oW.lt {qo : Nat} {aO : ClassId} {fo : Nat → Int64} (ho : va_P D vwCl (oW qo aO fo) H) : qo < H.size := (ho 0 _ rfl).lt
end LWO
