/-! new cells: the types grow (my own text) -/
section MIA
variable {g : xe_G} {Y Y' Y1 Y2 : yT} {M M' M1 M2 : mi_H} {c s c' s' : Nat}
def le2 : List (Value → Prop) → List (Value → Prop) → Prop
  | [], [] => True
  | P :: l, P' :: l' => (∀ v, P v → P' v) ∧ le2 l l'
  | _, _ => False
theorem le2_rf : ∀ l, le2 l l
  | [] => trivial
  | _ :: l => ⟨fun _ h => h, le2_rf l⟩
theorem le2_get : ∀ {l l' : List (Value → Prop)}, le2 l l' → l.length = l'.length ∧ ∀ (j : Nat) P', l'[j]? = some P' → ∃ P, l[j]? = some P ∧ ∀ v, P v → P' v
  | [], [], _ => ⟨rfl, fun j P' h => by simp at h⟩
  | P :: l, P' :: l', ⟨h1, h2⟩ => by
    obtain ⟨a, b⟩ := le2_get h2
    refine ⟨by simp [a], fun j Q hQ => ?_⟩
    rcases j with _ | j
    · simp only [List.getElem?_cons_zero, Option.some.injEq] at hQ
      subst hQ
      exact ⟨P, rfl, h1⟩
    · exact b j Q hQ
theorem vo_mono {P P' : Nat → Prop} (h : ∀ b, P b → P' b) : ∀ v, vo P v → vo P' v := fun _ ⟨b, e, hb⟩ => ⟨b, e, h b hb⟩
theorem vn_mono {P P' : Nat → Prop} (h : ∀ b, P b → P' b) : ∀ v, vn P v → vn P' v := fun _ hv => hv.imp id (fun ⟨b, e, hb⟩ => ⟨b, e, h b hb⟩)
theorem sch_mono (h : yle Y Y') (k : Nat) (ps : List Nat) : le2 (sch Y k ps) (sch Y' k ps) := by
  have x7 : ∀ b, (∃ ps, Y.1 b = some (7, ps)) → ∃ ps, Y'.1 b = some (7, ps) := fun b ⟨ps, e⟩ => ⟨ps, (h _ _ e).1⟩
  have x23 : ∀ da n b, (∃ k, Y.1 b = some (23, [k, da, n])) → ∃ k, Y'.1 b = some (23, [k, da, n]) := fun da n b ⟨ps, e⟩ => ⟨ps, (h _ _ e).1⟩
  have x21 : ∀ b, (∃ n, Y.1 b = some (21, [n])) → ∃ n, Y'.1 b = some (21, [n]) := fun b ⟨ps, e⟩ => ⟨ps, (h _ _ e).1⟩
  have x4 : ∀ n b, (∃ p o, Y.1 b = some (4, [p, o, n])) → ∃ p o, Y'.1 b = some (4, [p, o, n]) := fun n b ⟨p, o, e⟩ => ⟨p, o, (h _ _ e).1⟩
  unfold sch
  split
  · exact le2_rf _
  · exact le2_rf _
  · exact le2_rf _
  · exact ⟨fun _ h => h, vo_mono x7, fun _ h => h, fun _ h => h, fun _ h => h, fun _ h => h, vo_mono (x23 _ _), vo_mono (x23 _ _), le2_rf _⟩
  · exact ⟨fun _ h => h, fun _ h => h, fun _ h => h, fun _ h => h, fun _ h => h, fun _ h => h, fun _ h => h, fun _ h => h, fun _ h => h, vn_mono x21, vn_mono x21, trivial⟩
  · exact le2_rf _
  · exact ⟨fun _ h => h, fun _ h => h, fun _ h => h, fun _ h => h, fun _ h => h, fun _ h => h, fun _ h => h, fun _ h => h, fun _ h => h, fun _ h => h, vn_mono (x4 _), trivial⟩
  · exact le2_rf _
  · exact le2_rf _
  · exact le2_rf _
  · exact le2_rf _
  · exact le2_rf _
theorem lnk_mono (h : yle Y Y') {a k : Nat} {ps : List Nat} (hl : lnk Y a k ps) : lnk Y' a k ps := by
  unfold lnk at hl ⊢
  split at hl
  · obtain ⟨⟨da, n, h1, h2⟩, ⟨ps, h3⟩, h4⟩ := hl
    exact ⟨⟨da, n, (h _ _ h1).1, (h _ _ h2).1⟩, ⟨ps, (h _ _ h3).1⟩, (h _ _ h4).1⟩
  · exact (h _ _ hl).1
  · obtain ⟨⟨da, n, h1, h2⟩, ⟨ps, h3⟩, h4, h5⟩ := hl
    exact ⟨⟨da, n, (h _ _ h1).1, (h _ _ h2).1⟩, ⟨ps, (h _ _ h3).1⟩, (h _ _ h4).1, (h _ _ h5).1⟩
  · exact (h _ _ hl).1
  · obtain ⟨⟨ps, h3⟩, b, h4⟩ := hl
    exact ⟨⟨ps, (h _ _ h3).1⟩, b, (h _ _ h4).1⟩
  · obtain ⟨da, n, h3⟩ := hl
    exact ⟨da, n, (h _ _ h3).1⟩
  · exact (h _ _ hl).1
  · obtain ⟨h1, h2, h3, h4, h5, h6⟩ := hl
    exact ⟨(h _ _ h1).1, (h _ _ h2).1, (h _ _ h3).1, (h _ _ h4).1, (h _ _ h5).1, (h _ _ h6).1⟩
  · obtain ⟨⟨ps, h3⟩, h4⟩ := hl
    exact ⟨⟨ps, (h _ _ h3).1⟩, (h _ _ h4).1⟩
  · obtain ⟨⟨da, h1, h2⟩, h3⟩ := hl
    exact ⟨⟨da, (h _ _ h1).1, (h _ _ h2).1⟩, (h _ _ h3).1⟩
  · trivial
theorem xtr_mono (h : yle Y Y') {a k : Nat} {l : List Value} {ps : List Nat} (hl : lnk Y a k ps) (hx : xtr Y M l k ps) : xtr Y' M l k ps := by
  unfold xtr at hx ⊢
  split at hx
  · exact hx
  · exact hx
  · exact hx
  · obtain ⟨x, y, h1, h2, h3, h4⟩ := hx
    refine ⟨x, y, h1, h2, h3, ?_⟩
    rw [(h _ _ hl).2]
    exact h4
  · exact hx
  · exact hx
  · trivial
theorem sch_ne (h : yle Y Y') {k : Nat} {ps : List Nat} (hs : sch Y k ps ≠ []) : sch Y' k ps ≠ [] := by
  intro e
  have := (le2_get (sch_mono h k ps)).1
  rw [e] at this
  exact hs (List.eq_nil_of_length_eq_zero this)
theorem okY.mono (h : yle Y Y') {a k : Nat} {ps : List Nat} (hY : Y.1 a = some (k, ps)) (ho : okY Y M a k ps) : okY Y' M a k ps := by
  rcases ho with ⟨hk, l, h1, h2, h3, h4, h5⟩ | ⟨n, r, e, ty, f, h1, h2, h3, h4, h5, h6⟩ | ⟨hk, n, da, m, e, hn, f, h1, h2⟩
  · obtain ⟨a1, a2⟩ := le2_get (sch_mono h k ps)
    refine Or.inl ⟨hk, l, h1, sch_ne h h2, ⟨h3.1.trans a1, fun j v P hv hP => ?_⟩, lnk_mono h h4, xtr_mono h h4 h5⟩
    obtain ⟨P0, b1, b2⟩ := a2 j P hP
    exact b2 v (h3.2 j v P0 hv b1)
  · refine Or.inr (Or.inl ⟨n, r, e, ty, f, h1, h2, h3, h4, fun q => ?_, h6⟩)
    obtain ⟨c1, c2⟩ := h5 q
    exact ⟨by rw [(h _ _ hY).2]; exact c1, c2⟩
  · exact Or.inr (Or.inr ⟨hk, n, da, m, e, hn, f, h1, fun i b hb => (h _ _ (h2 i b hb)).1⟩)
/-- cells beside the typed ones may change -/
theorem okY.beside {a k : Nat} {ps : List Nat} (hM : ∀ x t, Y.1 x = some t → M'.1 x = M.1 x) (hY : Y.1 a = some (k, ps)) (ho : okY Y M a k ps) : okY Y M' a k ps := by
  have ha := hM a _ hY
  rcases ho with ⟨hk, l, h1, h2, h3, h4, h5⟩ | ⟨n, r, e, ty, f, h1, h2, h3⟩ | ⟨hk, n, da, m, e, hn, f, h1, h2⟩
  · refine Or.inl ⟨hk, l, ha.trans h1, h2, h3, h4, ?_⟩
    unfold xtr at h5 ⊢
    split at h5
    · exact h5
    · exact h5
    · exact h5
    · exact h5
    · obtain ⟨a1, a2, cc, sz, g1, g3, g4, b1, b2, b3, b4, b5, b6, b7⟩ := h5
      obtain ⟨k1, k2, k3, k4, k5, k6⟩ := h4
      exact ⟨a1, a2, cc, sz, g1, g3, g4, b1, b2, b3, (hM _ _ k1).trans b4, (hM _ _ k3).trans b5, (hM _ _ k4).trans b6, b7⟩
    · exact h5
    · trivial
  · exact Or.inr (Or.inl ⟨n, r, e, ty, f, h1, ha.trans h2, h3⟩)
  · exact Or.inr (Or.inr ⟨hk, n, da, m, e, hn, f, ha.trans h1, h2⟩)
/-- what a method that makes cells leaves behind -/
def sa (g : xe_G) (Y : yT) (M : mi_H) (Y' : yT) (M' : mi_H) (c s : Nat) : Prop :=
  WF g Y' M' ∧ yle Y Y' ∧ (∀ x, x < M.2.1 → Y'.1 x = Y.1 x) ∧ (M.2.1 ≤ M'.2.1 ∧ M'.2.1 ≤ M.2.1 + c ∧ M.2.2 ≤ M'.2.2 ∧ M'.2.2 ≤ M.2.2 + s) ∧ ∀ x, Y.1 x = none → x < M.2.1 → M'.1 x = M.1 x
theorem sa.rf (h : WF g Y M) : sa g Y M Y M 0 0 := ⟨h, yle.rf, fun _ _ => rfl, ⟨Nat.le_refl _, Nat.le_refl _, Nat.le_refl _, Nat.le_refl _⟩, fun _ _ _ => rfl⟩
theorem st.sa (h : st g Y M M') : sa g Y M Y M' 0 0 := ⟨h.1, yle.rf, fun _ _ => rfl, by rw [h.2.1]; exact ⟨Nat.le_refl _, Nat.le_refl _, Nat.le_refl _, Nat.le_refl _⟩, fun x hx _ => h.2.2 x hx⟩
theorem sa.tr (h : sa g Y M Y1 M1 c s) (h' : sa g Y1 M1 Y2 M2 c' s') : sa g Y M Y2 M2 (c + c') (s + s') := by
  obtain ⟨a1, a2, a3, a4, a5⟩ := h
  obtain ⟨b1, b2, b3, b4, b5⟩ := h'
  refine ⟨b1, a2.tr b2, fun x hx => (b3 x (by omega)).trans (a3 x hx), ⟨by omega, by omega, by omega, by omega⟩, fun x hx hl => ?_⟩
  exact (b5 x ((a3 x hl).trans hx) (by omega)).trans (a5 x hx hl)
theorem sa.le (h : sa g Y M Y1 M1 c s) (hc : c ≤ c') (hs : s ≤ s') : sa g Y M Y1 M1 c' s' := ⟨h.1, h.2.1, h.2.2.1, ⟨h.2.2.2.1.1, by have := h.2.2.2.1.2.1; omega, h.2.2.2.1.2.2.1, by have := h.2.2.2.1.2.2.2; omega⟩, h.2.2.2.2⟩
theorem sa.st (h : sa g Y M Y1 M1 c s) (h' : st g Y1 M1 M2) : sa g Y M Y1 M2 c s := h.tr h'.sa
/-- a cell is made at the end of the heap: not typed yet -/
def mk1 (M : mi_H) (cl : mi_C) (N : Nat) : mi_H := (va_up M.1 M.2.1 (some cl), M.2.1 + 1, M.2.2 + N)
theorem mk1_at {cl : mi_C} {N : Nat} : (mk1 M cl N).1 M.2.1 = some cl := by simp [mk1, va_up]
theorem mk1_ne {cl : mi_C} {N x : Nat} (h : x ≠ M.2.1) : (mk1 M cl N).1 x = M.1 x := by simp [mk1, va_up, h]
theorem WF.fresh (h : WF g Y M) {x : Nat} (hx : M.2.1 ≤ x) : Y.1 x = none := by
  cases hy : Y.1 x with
  | none => rfl
  | some t => exact absurd (h.2.1 x t hy) (by omega)
def litB (g : xe_G) (M : mi_H) : Prop := ∀ k, k < xe_N → g.2.1 k < M.2.1
theorem WF.mk1 (h : WF g Y M) (hl : litB g M) (cl : mi_C) (N : Nat) : WF g Y (mk1 M cl N) := by
  refine ⟨fun a k ps ha => (h.1 a k ps ha).beside (fun x t hx => mk1_ne ?_) ha, fun a t ha => ?_, fun k hk => ?_⟩
  · have := h.2.1 x t hx
    omega
  · have := h.2.1 a t ha
    show a < M.2.1 + 1
    omega
  · obtain ⟨f, hf⟩ := h.2.2 k hk
    exact ⟨f, (mk1_ne (by have := hl k hk; omega)).trans hf⟩
/-- an untyped cell changes -/
theorem WF.free {a : Nat} {cl : mi_C} (h : WF g Y M) (ha : Y.1 a = none) (hl : ∀ k, k < xe_N → g.2.1 k ≠ a) : WF g Y (up M a cl) := by
  refine ⟨fun b k ps hb => (h.1 b k ps hb).beside (fun x t hx => up_ne ?_) hb, h.2.1, fun k hk => ?_⟩
  · intro e
    rw [e, ha] at hx
    cases hx
  · obtain ⟨f, hf⟩ := h.2.2 k hk
    exact ⟨f, (up_ne (hl k hk)).trans hf⟩
/-- an address gets its type -/
def yadd (Y : yT) (a k : Nat) (ps : List Nat) : yT := (fun x => if x = a then some (k, ps) else Y.1 x, Y.2)
theorem yadd_at {a k : Nat} {ps : List Nat} : (yadd Y a k ps).1 a = some (k, ps) := by simp [yadd]
theorem yadd_ne {a k x : Nat} {ps : List Nat} (h : x ≠ a) : (yadd Y a k ps).1 x = Y.1 x := by simp [yadd, h]
theorem yadd_le {a k : Nat} {ps : List Nat} (h : Y.1 a = none) : yle Y (yadd Y a k ps) := by
  intro x t hx
  refine ⟨?_, rfl⟩
  rw [yadd_ne]
  · exact hx
  · intro e
    rw [e, h] at hx
    cases hx
theorem WF.add {a k : Nat} {ps : List Nat} (h : WF g Y M) (ha : Y.1 a = none) (hlt : a < M.2.1) (ho : okY (yadd Y a k ps) M a k ps) : WF g (yadd Y a k ps) M := by
  refine ⟨fun b kb pb hb => ?_, fun b t hb => ?_, h.2.2⟩
  · by_cases e : b = a
    · subst e
      rw [yadd_at] at hb
      cases hb
      exact ho
    · rw [yadd_ne e] at hb
      exact (h.1 b kb pb hb).mono (yadd_le ha) hb
  · by_cases e : b = a
    · subst e
      exact hlt
    · rw [yadd_ne e] at hb
      exact h.2.1 b t hb
end MIA
