/-! new cells: the types grow (my own text) -/
section MIA
variable {g : xe_G} {Y Y' Y1 Y2 : yT} {M M' M1 M2 : mi_H} {c s c' s' : Nat}
def le2 : List (Value → Prop) → List (Value → Prop) → Prop
  | [], [] => True
  | P :: l, P' :: l' => (∀ v, P v → P' v) ∧ le2 l l'
  | _, _ => False
theorem le2_rf : ∀ l, le2 l l
  | [] => trivial
  | _ :: l => ⟨fun _ h => h, le2_rf l⟩
theorem le2_get : ∀ {l l' : List (Value → Prop)}, le2 l l' → l.length = l'.length ∧ ∀ (j : Nat) P', l'[j]? = some P' → ∃ P, l[j]? = some P ∧ ∀ v, P v → P' v
  | [], [], _ => ⟨rfl, fun j P' h => by simp at h⟩
  | P :: l, P' :: l', ⟨h1, h2⟩ => by
    obtain ⟨a, b⟩ := le2_get h2
    refine ⟨by simp [a], fun j Q hQ => ?_⟩
    rcases j with _ | j
    · simp only [List.getElem?_cons_zero, Option.some.injEq] at hQ
      subst hQ
      exact ⟨P, rfl, h1⟩
    · exact b j Q hQ
theorem vo_mono {P P' : Nat → Prop} (h : ∀ b, P b → P' b) : ∀ v, vo P v → vo P' v := fun _ ⟨b, e, hb⟩ => ⟨b, e, h b hb⟩
theorem vn_mono {P P' : Nat → Prop} (h : ∀ b, P b → P' b) : ∀ v, vn P v → vn P' v := fun _ hv => hv.imp id (fun ⟨b, e, hb⟩ => ⟨b, e, h b hb⟩)
theorem sch_mono (h : yle Y Y') (k : Nat) (ps : List Nat) : le2 (sch Y k ps) (sch Y' k ps) := by
  have x7 : ∀ b, (∃ ps, Y.1 b = some (7, ps)) → ∃ ps, Y'.1 b = some (7, ps) := fun b ⟨ps, e⟩ => ⟨ps, (h _ _ e).1⟩
  have x23 : ∀ da n b, (∃ k, Y.1 b = some (23, [k, da, n])) → ∃ k, Y'.1 b = some (23, [k, da, n]) := fun da n b ⟨ps, e⟩ => ⟨ps, (h _ _ e).1⟩
  have x21 : ∀ b, (∃ n, Y.1 b = some (21, [n])) → ∃ n, Y'.1 b = some (21, [n]) := fun b ⟨ps, e⟩ => ⟨ps, (h _ _ e).1⟩
  have x4 : ∀ n b, (∃ p o, Y.1 b = some (4, [p, o, n])) → ∃ p o, Y'.1 b = some (4, [p, o, n]) := fun n b ⟨p, o, e⟩ => ⟨p, o, (h _ _ e).1⟩
  unfold sch
  split
  · exact le2_rf _
  · exact le2_rf _
  · exact le2_rf _
  · exact ⟨fun _ h => h, vo_mono x7, fun _ h => h, fun _ h => h, fun _ h => h, fun _ h => h, vo_mono (x23 _ _), vo_mono (x23 _ _), le2_rf _⟩
  · exact ⟨fun _ h => h, fun _ h => h, fun _ h => h, fun _ h => h, fun _ h => h, fun _ h => h, fun _ h => h, fun _ h => h, fun _ h => h, vn_mono x21, vn_mono x21, trivial⟩
  · exact le2_rf _
  · exact ⟨fun _ h => h, fun _ h => h, fun _ h => h, fun _ h => h, fun _ h => h, fun _ h => h, fun _ h => h, fun _ h => h, fun _ h => h, fun _ h => h, vn_mono (x4 _), trivial⟩
  · exact le2_rf _
  · exact le2_rf _
  · exact le2_rf _
  · exact le2_rf _
  · refine ⟨vo_mono (fun b ⟨m, e⟩ => ⟨m, (h _ _ e).1⟩), fun _ h => h, vo_mono (fun b ⟨n, e, hB⟩ => ⟨n, (h _ _ e).1, hB⟩), vn_mono (fun c ⟨b, da, n, e, hB⟩ => ⟨b, da, n, (h _ _ e).1, hB⟩), fun _ h => h, trivial⟩
  · exact le2_rf _
theorem lnk_mono (h : yle Y Y') {a k : Nat} {ps : List Nat} (hl : lnk Y a k ps) : lnk Y' a k ps := by
  unfold lnk at hl ⊢
  split at hl
  · obtain ⟨⟨da, n, h1, h2⟩, ⟨ps, h3⟩, h4⟩ := hl
    exact ⟨⟨da, n, (h _ _ h1).1, (h _ _ h2).1⟩, ⟨ps, (h _ _ h3).1⟩, (h _ _ h4).1⟩
  · exact (h _ _ hl).1
  · obtain ⟨⟨da, n, h1, h2⟩, ⟨ps, h3⟩, h4, h5⟩ := hl
    exact ⟨⟨da, n, (h _ _ h1).1, (h _ _ h2).1⟩, ⟨ps, (h _ _ h3).1⟩, (h _ _ h4).1, (h _ _ h5).1⟩
  · exact (h _ _ hl).1
  · obtain ⟨⟨ps, h3⟩, b, h4⟩ := hl
    exact ⟨⟨ps, (h _ _ h3).1⟩, b, (h _ _ h4).1⟩
  · obtain ⟨da, n, h3⟩ := hl
    exact ⟨da, n, (h _ _ h3).1⟩
  · exact (h _ _ hl).1
  · obtain ⟨h1, h2, h3, h4, h5, h6⟩ := hl
    exact ⟨(h _ _ h1).1, (h _ _ h2).1, (h _ _ h3).1, (h _ _ h4).1, (h _ _ h5).1, (h _ _ h6).1⟩
  · obtain ⟨⟨ps, h3⟩, h4⟩ := hl
    exact ⟨⟨ps, (h _ _ h3).1⟩, (h _ _ h4).1⟩
  · obtain ⟨⟨da, h1, h2⟩, h3⟩ := hl
    exact ⟨⟨da, (h _ _ h1).1, (h _ _ h2).1⟩, (h _ _ h3).1⟩
  · trivial
theorem xtr_mono (h : yle Y Y') {a k : Nat} {l : List Value} {ps : List Nat} (hl : lnk Y a k ps) (hx : xtr Y M l k ps) : xtr Y' M l k ps := by
  unfold xtr at hx ⊢
  split at hx
  · exact hx
  · exact hx
  · exact hx
  · obtain ⟨x, y, h1, h2, h3, h4⟩ := hx
    refine ⟨x, y, h1, h2, h3, ?_⟩
    rw [(h _ _ hl).2]
    exact h4
  · exact hx
  · exact hx
  · trivial
theorem sch_ne (h : yle Y Y') {k : Nat} {ps : List Nat} (hs : sch Y k ps ≠ []) : sch Y' k ps ≠ [] := by
  intro e
  have := (le2_get (sch_mono h k ps)).1
  rw [e] at this
  exact hs (List.eq_nil_of_length_eq_zero this)
theorem okY.mono (h : yle Y Y') {a k : Nat} {ps : List Nat} (hY : Y.1 a = some (k, ps)) (ho : okY Y M a k ps) : okY Y' M a k ps := by
  rcases ho with ⟨hk, l, h1, h2, h3, h4, h5⟩ | ⟨n, r, e, ty, f, h1, h2, h3, h4, h5, h6⟩ | ⟨hk, n, da, m, e, hn, f, h1, h2⟩
  · obtain ⟨a1, a2⟩ := le2_get (sch_mono h k ps)
    refine Or.inl ⟨hk, l, h1, sch_ne h h2, ⟨h3.1.trans a1, fun j v P hv hP => ?_⟩, lnk_mono h h4, xtr_mono h h4 h5⟩
    obtain ⟨P0, b1, b2⟩ := a2 j P hP
    exact b2 v (h3.2 j v P0 hv b1)
  · refine Or.inr (Or.inl ⟨n, r, e, ty, f, h1, h2, h3, h4, fun q => ?_, h6⟩)
    obtain ⟨c1, c2⟩ := h5 q
    exact ⟨by rw [(h _ _ hY).2]; exact c1, c2⟩
  · exact Or.inr (Or.inr ⟨hk, n, da, m, e, hn, f, h1, fun i b hb => (h _ _ (h2 i b hb)).1⟩)
/-- cells beside the typed ones may change -/
theorem okY.beside {a k : Nat} {ps : List Nat} (hM : ∀ x t, Y.1 x = some t → M'.1 x = M.1 x) (hY : Y.1 a = some (k, ps)) (ho : okY Y M a k ps) : okY Y M' a k ps := by
  have ha := hM a _ hY
  rcases ho with ⟨hk, l, h1, h2, h3, h4, h5⟩ | ⟨n, r, e, ty, f, h1, h2, h3⟩ | ⟨hk, n, da, m, e, hn, f, h1, h2⟩
  · refine Or.inl ⟨hk, l, ha.trans h1, h2, h3, h4, ?_⟩
    unfold xtr at h5 ⊢
    split at h5
    · exact h5
    · exact h5
    · exact h5
    · exact h5
    · obtain ⟨a1, a2, cc, sz, g1, g3, g4, b1, b2, b3, b4, b5, b6, b7⟩ := h5
      obtain ⟨k1, k2, k3, k4, k5, k6⟩ := h4
      exact ⟨a1, a2, cc, sz, g1, g3, g4, b1, b2, b3, (hM _ _ k1).trans b4, (hM _ _ k3).trans b5, (hM _ _ k4).trans b6, b7⟩
    · exact h5
    · trivial
  · exact Or.inr (Or.inl ⟨n, r, e, ty, f, h1, ha.trans h2, h3⟩)
  · exact Or.inr (Or.inr ⟨hk, n, da, m, e, hn, f, ha.trans h1, h2⟩)
/-- what a method that makes cells leaves behind -/
def sa (g : xe_G) (Y : yT) (M : mi_H) (Y' : yT) (M' : mi_H) (c s : Nat) : Prop :=
  WF g Y' M' ∧ yle Y Y' ∧ (∀ x, x < M.2.1 → Y'.1 x = Y.1 x) ∧ (M.2.1 ≤ M'.2.1 ∧ M'.2.1 ≤ M.2.1 + c ∧ M.2.2 ≤ M'.2.2 ∧ M'.2.2 ≤ M.2.2 + s) ∧ ∀ x, Y.1 x = none → x < M.2.1 → M'.1 x = M.1 x
theorem sa.rf (h : WF g Y M) : sa g Y M Y M 0 0 := ⟨h, yle.rf, fun _ _ => rfl, ⟨Nat.le_refl _, Nat.le_refl _, Nat.le_refl _, Nat.le_refl _⟩, fun _ _ _ => rfl⟩
theorem st.sa (h : st g Y M M') : sa g Y M Y M' 0 0 := ⟨h.1, yle.rf, fun _ _ => rfl, by rw [h.2.1]; exact ⟨Nat.le_refl _, Nat.le_refl _, Nat.le_refl _, Nat.le_refl _⟩, fun x hx _ => h.2.2 x hx⟩
theorem sa.tr (h : sa g Y M Y1 M1 c s) (h' : sa g Y1 M1 Y2 M2 c' s') : sa g Y M Y2 M2 (c + c') (s + s') := by
  obtain ⟨a1, a2, a3, a4, a5⟩ := h
  obtain ⟨b1, b2, b3, b4, b5⟩ := h'
  refine ⟨b1, a2.tr b2, fun x hx => (b3 x (by omega)).trans (a3 x hx), ⟨by omega, by omega, by omega, by omega⟩, fun x hx hl => ?_⟩
  exact (b5 x ((a3 x hl).trans hx) (by omega)).trans (a5 x hx hl)
theorem sa.le (h : sa g Y M Y1 M1 c s) (hc : c ≤ c') (hs : s ≤ s') : sa g Y M Y1 M1 c' s' := ⟨h.1, h.2.1, h.2.2.1, ⟨h.2.2.2.1.1, by have := h.2.2.2.1.2.1; omega, h.2.2.2.1.2.2.1, by have := h.2.2.2.1.2.2.2; omega⟩, h.2.2.2.2⟩
theorem sa.st (h : sa g Y M Y1 M1 c s) (h' : st g Y1 M1 M2) : sa g Y M Y1 M2 c s := h.tr h'.sa
/-- a cell is made at the end of the heap: not typed yet -/
def mk1 (M : mi_H) (cl : mi_C) (N : Nat) : mi_H := (va_up M.1 M.2.1 (some cl), M.2.1 + 1, M.2.2 + N)
theorem mk1_at {cl : mi_C} {N : Nat} : (mk1 M cl N).1 M.2.1 = some cl := by simp [mk1, va_up]
theorem mk1_ne {cl : mi_C} {N x : Nat} (h : x ≠ M.2.1) : (mk1 M cl N).1 x = M.1 x := by simp [mk1, va_up, h]
theorem WF.fresh (h : WF g Y M) {x : Nat} (hx : M.2.1 ≤ x) : Y.1 x = none := by
  cases hy : Y.1 x with
  | none => rfl
  | some t => exact absurd (h.2.1 x t hy) (by omega)
theorem WF.mk1 (h : WF g Y M) (cl : mi_C) (N : Nat) : WF g Y (mk1 M cl N) := by
  refine ⟨fun a k ps ha => (h.1 a k ps ha).beside (fun x t hx => mk1_ne ?_) ha, fun a t ha => ?_, fun k hk => ?_⟩
  · have := h.2.1 x t hx
    omega
  · have := h.2.1 a t ha
    show a < M.2.1 + 1
    omega
  · obtain ⟨hb, f, hf⟩ := h.2.2 k hk
    exact ⟨by show _ < M.2.1 + 1; omega, f, (mk1_ne (by omega)).trans hf⟩
/-- an untyped cell changes -/
theorem WF.free {a : Nat} {cl : mi_C} (h : WF g Y M) (ha : Y.1 a = none) (hl : ∀ k, k < 15 → g.2.1 k ≠ a) : WF g Y (up M a cl) := by
  refine ⟨fun b k ps hb => (h.1 b k ps hb).beside (fun x t hx => up_ne ?_) hb, h.2.1, fun k hk => ?_⟩
  · intro e
    rw [e, ha] at hx
    cases hx
  · obtain ⟨hb, f, hf⟩ := h.2.2 k hk
    exact ⟨hb, f, (up_ne (hl k hk)).trans hf⟩
/-- an address gets its type -/
def yadd (Y : yT) (a k : Nat) (ps : List Nat) : yT := (fun x => if x = a then some (k, ps) else Y.1 x, Y.2)
theorem yadd_at {a k : Nat} {ps : List Nat} : (yadd Y a k ps).1 a = some (k, ps) := by simp [yadd]
theorem yadd_ne {a k x : Nat} {ps : List Nat} (h : x ≠ a) : (yadd Y a k ps).1 x = Y.1 x := by simp [yadd, h]
theorem yadd_le {a k : Nat} {ps : List Nat} (h : Y.1 a = none) : yle Y (yadd Y a k ps) := by
  intro x t hx
  refine ⟨?_, rfl⟩
  rw [yadd_ne]
  · exact hx
  · intro e
    rw [e, h] at hx
    cases hx
theorem WF.add {a k : Nat} {ps : List Nat} (h : WF g Y M) (ha : Y.1 a = none) (hlt : a < M.2.1) (ho : okY (yadd Y a k ps) M a k ps) : WF g (yadd Y a k ps) M := by
  refine ⟨fun b kb pb hb => ?_, fun b t hb => ?_, h.2.2⟩
  · by_cases e : b = a
    · subst e
      rw [yadd_at] at hb
      cases hb
      exact ho
    · rw [yadd_ne e] at hb
      exact (h.1 b kb pb hb).mono (yadd_le ha) hb
  · by_cases e : b = a
    · subst e
      exact hlt
    · rw [yadd_ne e] at hb
      exact h.2.1 b t hb
/-- an object is made and typed -/
theorem sa.new {Y0 : yT} {M0 : mi_H} {k N : Nat} {ps : List Nat} {cl : mi_C} (h : sa g Y0 M0 Y M c s) (ho : okY (yadd Y M.2.1 k ps) (mk1 M cl N) M.2.1 k ps) : sa g Y0 M0 (yadd Y M.2.1 k ps) (mk1 M cl N) (c + 1) (s + N) := by
  have hn : Y.1 M.2.1 = none := h.1.fresh (Nat.le_refl _)
  have hw := (h.1.mk1 cl N).add hn (by show M.2.1 < M.2.1 + 1; omega) ho
  obtain ⟨a1, a2, a3, a4, a5⟩ := h
  refine ⟨hw, a2.tr (yadd_le hn), fun x hx => (yadd_ne (by omega)).trans (a3 x hx), ⟨?_, ?_, ?_, ?_⟩, fun x hx hl => (mk1_ne (by omega)).trans (a5 x hx hl)⟩
  · show M0.2.1 ≤ M.2.1 + 1
    omega
  · show M.2.1 + 1 ≤ M0.2.1 + (c + 1)
    omega
  · show M0.2.2 ≤ M.2.2 + N
    omega
  · show M.2.2 + N ≤ M0.2.2 + (s + N)
    omega
def fitl : List Value → List (Value → Prop) → Prop
  | [], [] => True
  | v :: l, P :: s => P v ∧ fitl l s
  | _, _ => False
theorem fit_of : ∀ {l : List Value} {s : List (Value → Prop)}, fitl l s → fit l s
  | [], [], _ => ⟨rfl, fun k v P h => by simp at h⟩
  | v :: l, P :: s, ⟨h1, h2⟩ => by
    have h3 := fit_of h2
    refine ⟨by simp [h3.1], fun k w P' hk hP => ?_⟩
    rcases k with _ | k
    · simp only [List.getElem?_cons_zero, Option.some.injEq] at hk hP
      subst hk hP
      exact h1
    · exact h3.2 k w P' hk hP
theorem okY_new {a k : Nat} {ps : List Nat} {vals : List Value} (hk : k < 12) (hM : M.1 a = some (ob k vals)) (hs : sch Y k ps ≠ []) (hf : fitl vals (sch Y k ps)) (hl : lnk Y a k ps) (hx : xtr Y M vals k ps) : okY Y M a k ps := Or.inl ⟨hk, vals, hM, hs, fit_of hf, hl, hx⟩
variable {T : Nat → Option (Nat × mi_B)} {d pc : Nat} {tb : mi_B} {lv : List (Nat × Value)} {s0 : List Value} {Q : Option Value → mi_H → Prop}
/-- rules: a new object, a field of it, the call of its maker -/
theorem ml_new {k N : Nat} {ds : List Value} {S' : mi_S} (h1 : tb.1 pc = some (.inl (o_new k N ds))) (e1 : mi_nk tb.2 (pc + 3, lv, .ref M.2.1 :: s0, mk1 M (ob k ds) N) = S') (kk : ml T d tb S' Q) : ml T d tb (pc, lv, s0, M) Q :=
  ml_st h1 (S1 := (pc + 3, lv, .ref M.2.1 :: s0, mk1 M (ob k ds) N)) rfl e1 kk
theorem up_up {a : Nat} {c1 c2 : mi_C} : up (up M a c1) a c2 = up M a c2 := by
  unfold up
  congr 1
  funext x
  by_cases h : x = a <;> simp [va_up, h]
theorem mk1_up {c1 c2 : mi_C} {N : Nat} : up (mk1 M c1 N) M.2.1 c2 = mk1 M c2 N := by
  unfold up mk1
  congr 1
  funext x
  by_cases h : x = M.2.1 <;> simp [va_up, h]
theorem mo_putn {k j N : Nat} {ty : FieldType} {l l' : List Value} {v : Value} {S' : mi_S} (h1 : tb.1 pc = some (.inl (o_put k j ty))) (hv : mi_fit ty v = true) (hj : decide (j < l.length) = true) (e : l.set j v = l') (e1 : mi_nk tb.2 (pc + 3, lv, s0, mk1 M (ob k l') N) = S') (kk : ml T d tb S' Q) : ml T d tb (pc, lv, v :: .ref M.2.1 :: s0, mk1 M (ob k l) N) Q :=
  mo_put h1 mk1_at hv (of_decide_eq_true hj) (by rw [mk1_up, e]; exact e1) kk
theorem okc_n {na k N : Nat} {st As l : List Value} (h1 : (st.take na).reverse = .ref M.2.1 :: As) (h2 : decide (na ≤ st.length) = true) (h3 : decide (((st.drop na).map fun v => v.category).sum ≤ 8) = true) : mi_okc (some k) na (pc, lv, st, mk1 M (ob k l) N) = true := okc_v h1 h2 h3 mk1_at
theorem ml_made {Y0 : yT} {M0 : mi_H} {k N : Nat} {ps : List Nat} {cl : mi_C} (h : sa g Y0 M0 Y M c s) (ho : okY (yadd Y M.2.1 k ps) (mk1 M cl N) M.2.1 k ps) (kk : ∀ Y' M', sa g Y0 M0 Y' M' (c + 1) (s + N) → yle Y Y' → Y'.1 M.2.1 = some (k, ps) → (∀ x, x < M.2.1 → M'.1 x = M.1 x) → M'.1 M.2.1 = some cl → M'.2 = (M.2.1 + 1, M.2.2 + N) → ml T d tb (pc, lv, s0, M') Q) : ml T d tb (pc, lv, s0, mk1 M cl N) Q :=
  kk _ _ (h.new ho) (yadd_le (h.1.fresh (Nat.le_refl _))) yadd_at (fun x hx => mk1_ne (by omega)) mk1_at rfl
theorem ml_newa {ty : FieldType} {x : Int32} {S' : mi_S} (h1 : tb.1 pc = some (.inl (o_newa ty))) (h0 : 0 ≤ x.toInt) (hx : x.toInt ≤ 134217728) (e1 : mi_nk tb.2 (pc + 2, lv, .ref M.2.1 :: s0, mk1 M (ar ty x.toNatClampNeg (fun _ => 0)) x.toNatClampNeg) = S') (kk : ml T d tb S' Q) : ml T d tb (pc, lv, .int x :: s0, M) Q := by
  refine ml_st h1 (S1 := (pc + 2, lv, .ref M.2.1 :: s0, mk1 M (ar ty x.toNatClampNeg (fun _ => 0)) x.toNatClampNeg)) ?_ e1 kk
  simp only [o_newa]
  rw [if_neg]
  · rfl
  · rintro (q | q)
    · exact nlt0 h0 q
    · have : x.toNatClampNeg = x.toInt.toNat := rfl
      omega
theorem ml_anew {C : String} {x : Int32} {S' : mi_S} (h1 : tb.1 pc = some (.inl (o_anew C))) (h0 : 0 ≤ x.toInt) (hx : x.toInt ≤ 134217728) (e1 : mi_nk tb.2 (pc + 3, lv, .ref M.2.1 :: s0, mk1 M (.inl (.object C, x.toNatClampNeg, fun _ => some .null)) x.toNatClampNeg) = S') (kk : ml T d tb S' Q) : ml T d tb (pc, lv, .int x :: s0, M) Q := by
  refine ml_st h1 (S1 := (pc + 3, lv, .ref M.2.1 :: s0, mk1 M (.inl (.object C, x.toNatClampNeg, fun _ => some .null)) x.toNatClampNeg)) ?_ e1 kk
  simp only [o_anew]
  rw [if_neg]
  · rfl
  · rintro (q | q)
    · exact nlt0 h0 q
    · have : x.toNatClampNeg = x.toInt.toNat := rfl
      omega
/-- only new cells: those that were there stay -/
def sn (g : xe_G) (Y : yT) (M : mi_H) (Y' : yT) (M' : mi_H) (c s : Nat) : Prop :=
  WF g Y' M' ∧ yle Y Y' ∧ (∀ x, x < M.2.1 → Y'.1 x = Y.1 x) ∧ (M.2.1 ≤ M'.2.1 ∧ M'.2.1 ≤ M.2.1 + c ∧ M.2.2 ≤ M'.2.2 ∧ M'.2.2 ≤ M.2.2 + s) ∧ ∀ x, x < M.2.1 → M'.1 x = M.1 x
theorem sn.sa (h : sn g Y M Y1 M1 c s) : sa g Y M Y1 M1 c s := ⟨h.1, h.2.1, h.2.2.1, h.2.2.2.1, fun x _ hl => h.2.2.2.2 x hl⟩
theorem sn.rf (h : WF g Y M) : sn g Y M Y M 0 0 := ⟨h, yle.rf, fun _ _ => rfl, ⟨Nat.le_refl _, Nat.le_refl _, Nat.le_refl _, Nat.le_refl _⟩, fun _ _ => rfl⟩
theorem sn.tr (h : sn g Y M Y1 M1 c s) (h' : sn g Y1 M1 Y2 M2 c' s') : sn g Y M Y2 M2 (c + c') (s + s') := by
  obtain ⟨a1, a2, a3, a4, a5⟩ := h
  obtain ⟨b1, b2, b3, b4, b5⟩ := h'
  exact ⟨b1, a2.tr b2, fun x hx => (b3 x (by omega)).trans (a3 x hx), ⟨by omega, by omega, by omega, by omega⟩, fun x hl => (b5 x (by omega)).trans (a5 x hl)⟩
theorem sn.le (h : sn g Y M Y1 M1 c s) (hc : c ≤ c') (hs : s ≤ s') : sn g Y M Y1 M1 c' s' := ⟨h.1, h.2.1, h.2.2.1, ⟨h.2.2.2.1.1, by have := h.2.2.2.1.2.1; omega, h.2.2.2.1.2.2.1, by have := h.2.2.2.1.2.2.2; omega⟩, h.2.2.2.2⟩
theorem sn.new {k N : Nat} {ps : List Nat} {cl : mi_C} (h : WF g Y M) (ho : okY (yadd Y M.2.1 k ps) (mk1 M cl N) M.2.1 k ps) : sn g Y M (yadd Y M.2.1 k ps) (mk1 M cl N) 1 N := by
  have h1 := (sa.rf h).new ho
  simp only [Nat.zero_add] at h1
  exact ⟨h1.1, h1.2.1, h1.2.2.1, h1.2.2.2.1, fun x hl => mk1_ne (by omega)⟩
/-- new cells, and of the old ones those of a list written -/
def sv (g : xe_G) (Y : yT) (M : mi_H) (Y' : yT) (M' : mi_H) (S : List Nat) (c s : Nat) : Prop := sa g Y M Y' M' c s ∧ ∀ x, x ∉ S → x < M.2.1 → M'.1 x = M.1 x
theorem sv.rf {S : List Nat} (h : WF g Y M) : sv g Y M Y M S 0 0 := ⟨sa.rf h, fun _ _ _ => rfl⟩
theorem sv.tr {S : List Nat} (h : sv g Y M Y1 M1 S c s) (h' : sv g Y1 M1 Y2 M2 S c' s') : sv g Y M Y2 M2 S (c + c') (s + s') := ⟨h.1.tr h'.1, fun x hx hl => (h'.2 x hx (by have := h.1.2.2.2.1.1; omega)).trans (h.2 x hx hl)⟩
theorem sv.sn {S : List Nat} (h : sv g Y M Y1 M1 S c s) (h' : sn g Y1 M1 Y2 M2 c' s') : sv g Y M Y2 M2 S (c + c') (s + s') := h.tr ⟨h'.sa, fun x _ hl => h'.2.2.2.2 x hl⟩
theorem sv.sf {S : List Nat} (h : sv g Y M Y1 M1 S c s) (h' : sf g Y1 S M1 M2) : sv g Y M Y1 M2 S c s := ⟨h.1.st h'.1, fun x hx hl => (h'.2 x hx).trans (h.2 x hx hl)⟩
theorem sv.le {S : List Nat} (h : sv g Y M Y1 M1 S c s) (hc : c ≤ c') (hs : s ≤ s') : sv g Y M Y1 M1 S c' s' := ⟨h.1.le hc hs, h.2⟩
/-- an object that is being made, at the end of the heap M -/
def sm (g : xe_G) (Y : yT) (M : mi_H) (Y1 : yT) (M1 : mi_H) (l : List Value) (k c s : Nat) : Prop := sn g Y M Y1 M1 c s ∧ M1.1 M.2.1 = some (ob k l) ∧ Y1.1 M.2.1 = none ∧ M.2.1 < M1.2.1
theorem sm.mk {k N : Nat} {l : List Value} (h : WF g Y M) : sm g Y M Y (mk1 M (ob k l) N) l k 1 N := by
  refine ⟨⟨h.mk1 _ _, yle.rf, fun _ _ => rfl, ⟨?_, Nat.le_refl _, ?_, Nat.le_refl _⟩, fun x hl => mk1_ne (by omega)⟩, mk1_at, h.fresh (Nat.le_refl _), ?_⟩
  · show M.2.1 ≤ M.2.1 + 1
    omega
  · show M.2.2 ≤ M.2.2 + N
    omega
  · show M.2.1 < M.2.1 + 1
    omega
theorem sm.lit {l : List Value} {k : Nat} (h : sm g Y M Y1 M1 l k c s) (hW : WF g Y M) : ∀ i, i < 15 → g.2.1 i ≠ M.2.1 := fun i hi => by
  have := (hW.2.2 i hi).1
  omega
theorem sm.put {l l' : List Value} {k : Nat} (hW : WF g Y M) (h : sm g Y M Y1 M1 l k c s) : sm g Y M Y1 (up M1 M.2.1 (ob k l')) l' k c s := by
  obtain ⟨⟨a1, a2, a3, a4, a5⟩, b1, b2, b3⟩ := h
  refine ⟨⟨a1.free b2 (fun i hi => ?_), a2, a3, a4, fun x hl => (up_ne (by omega)).trans (a5 x hl)⟩, up_at, b2, b3⟩
  have := (hW.2.2 i hi).1
  omega
theorem sm.tr {l : List Value} {k : Nat} (h : sm g Y M Y1 M1 l k c s) (h' : sn g Y1 M1 Y2 M2 c' s') : sm g Y M Y2 M2 l k (c + c') (s + s') := by
  obtain ⟨a1, a2, a3, a4⟩ := h
  exact ⟨a1.tr h', (h'.2.2.2.2 _ a4).trans a2, (h'.2.2.1 _ a4).trans a3, by have := h'.2.2.2.1.1; omega⟩
theorem sm.done {l : List Value} {k : Nat} {ps : List Nat} (h : sm g Y M Y1 M1 l k c s) (ho : okY (yadd Y1 M.2.1 k ps) M1 M.2.1 k ps) : sn g Y M (yadd Y1 M.2.1 k ps) M1 c s := by
  obtain ⟨⟨a1, a2, a3, a4, a5⟩, b1, b2, b3⟩ := h
  exact ⟨a1.add b2 b3 ho, a2.tr (yadd_le b2), fun x hx => (yadd_ne (by omega)).trans (a3 x hx), a4, a5⟩
theorem mm_put {k j : Nat} {ty : FieldType} {l l' : List Value} {v : Value} (h1 : tb.1 pc = some (.inl (o_put k j ty))) (hW : WF g Y M) (hM : sm g Y M Y1 M1 l k c s) (hv : mi_fit ty v = true) (hj : decide (j < l.length) = true) (e : l.set j v = l') (kk : ∀ M2, sm g Y M Y1 M2 l' k c s → (∀ x, x ≠ M.2.1 → M2.1 x = M1.1 x) → ml T d tb (mi_nk tb.2 (pc + 3, lv, s0, M2)) Q) : ml T d tb (pc, lv, v :: .ref M.2.1 :: s0, M1) Q :=
  mo_put h1 hM.2.1 hv (of_decide_eq_true hj) rfl (kk _ (by rw [e]; exact hM.put hW) (fun x hx => up_ne hx))
theorem ne_non {x a : Nat} {t : Nat × List Nat} (h : Y.1 x = some t) (h' : Y.1 a = none) : x ≠ a := by
  intro e
  rw [e, h'] at h
  cases h
theorem mm_new {k N : Nat} {ds : List Value} (h1 : tb.1 pc = some (.inl (o_new k N ds))) (hW : WF g Y M) (kk : ∀ M1, sm g Y M Y M1 ds k 1 N → ml T d tb (mi_nk tb.2 (pc + 3, lv, .ref M.2.1 :: s0, M1)) Q) : ml T d tb (pc, lv, s0, M) Q :=
  ml_new h1 rfl (kk _ (sm.mk hW))
theorem mm_done {k : Nat} {l : List Value} {ps : List Nat} (hM : sm g Y M Y1 M1 l k c s) (ho : okY (yadd Y1 M.2.1 k ps) M1 M.2.1 k ps) {R : Prop} (kk : ∀ Y2, sn g Y M Y2 M1 c s → yle Y1 Y2 → Y2.1 M.2.1 = some (k, ps) → R) : R := kk _ (hM.done ho) (yadd_le hM.2.2.1) yadd_at
/-- a new row -/
theorem mm_row {kr : Nat} {pr : List Nat} {cl : mi_C} {N : Nat} (hW : WF g Y M) (ho : okY (yadd Y M.2.1 kr pr) (mk1 M cl N) M.2.1 kr pr) (kk : ∀ Y2 M2 b, b = M.2.1 → sn g Y M Y2 M2 1 N → Y2.1 b = some (kr, pr) → M2.1 b = some cl → (∀ x, x < M.2.1 → M2.1 x = M.1 x) → ml T d tb (pc, lv, .ref b :: s0, M2) Q) : ml T d tb (pc, lv, .ref M.2.1 :: s0, mk1 M cl N) Q := by
  have h := sn.new hW ho
  exact kk _ _ _ rfl h yadd_at mk1_at (fun x hx => mk1_ne (by omega))
theorem okY_row {k n N : Nat} {r : List Nat} {ty : FieldType} (hk : rowT k = some ty) (hn : n < 1073741824) (h24 : k ≠ 24) (h20 : k = 20 → fits .byte (.int 0) = true) (h36 : k = 36 → ch16 0) : okY (yadd Y M.2.1 k (n :: r)) (mk1 M (ar ty n (fun _ => 0)) N) M.2.1 k (n :: r) :=
  Or.inr (Or.inl ⟨n, r, rfl, ty, fun _ => 0, hk, mk1_at, hn, fun h _ => h20 h, fun h => absurd h h24, fun h _ => h36 h⟩)
theorem okY_mem {n da m N : Nat} (hn : n < 1073741824 ∧ 8 * n ≤ m) : okY (yadd Y M.2.1 23 [n, da, m]) (mk1 M (.inl (.object "ClassGate$Member", n, fun _ => some .null)) N) M.2.1 23 [n, da, m] :=
  Or.inr (Or.inr ⟨rfl, n, da, m, rfl, hn, fun _ => none, mk1_at, fun i b h => by cases h⟩)
end MIA
