/-! a field is laid: the types stay (my own text) -/
section MIX
theorem ob_ne_ar {M : mi_H} {a b k n : Nat} {l : List Value} {ty : FieldType} {f : Nat → Int32} (h1 : M.1 a = some (ob k l)) (h2 : M.1 b = some (ar ty n f)) : b ≠ a := by
  intro e
  subst e
  rw [h1] at h2
  simp [ob, ar] at h2
theorem xtr_up {M : mi_H} {a k0 : Nat} {l0 l1 : List Value} (ha : M.1 a = some (ob k0 l0)) {l : List Value} {k : Nat} {ps : List Nat} (h : xtr M l k ps) : xtr (up M a (ob k0 l1)) l k ps := by
  unfold xtr at h ⊢
  split at h
  · exact h
  · exact h
  · obtain ⟨h1, h2, cc, sz, g1, g3, g4, h3, h4, h5, h6, h7, h8, h9⟩ := h
    exact ⟨h1, h2, cc, sz, g1, g3, g4, h3, h4, h5, up_eq h6 (ob_ne_ar ha h6), up_eq h7 (ob_ne_ar ha h7), up_eq h8 (ob_ne_ar ha h8), h9⟩
  · exact h
  · trivial
theorem okY.up {Y : yT} {M : mi_H} {a b k0 k : Nat} {l0 l1 : List Value} {ps : List Nat} (ha : M.1 a = some (ob k0 l0)) (hne : b ≠ a) (h : okY Y M b k ps) : okY Y (up M a (ob k0 l1)) b k ps := by
  rcases h with ⟨hk, l, h1, h2, h3, h4, h5⟩ | ⟨n, r, e, ty, f, h1, h2, h3, h4⟩ | ⟨hk, n, e, f, h1, h2⟩
  · exact Or.inl ⟨hk, l, up_eq h1 hne, h2, h3, h4, xtr_up ha h5⟩
  · exact Or.inr (Or.inl ⟨n, r, e, ty, f, h1, up_eq h2 hne, h3, h4⟩)
  · exact Or.inr (Or.inr ⟨hk, n, e, f, up_eq h1 hne, h2⟩)
theorem fit.set {l : List Value} {s : List (Value → Prop)} {j : Nat} {v : Value} {P : Value → Prop} (h : fit l s) (hP : s[j]? = some P) (hv : P v) : fit (l.set j v) s := by
  refine ⟨by rw [List.length_set]; exact h.1, fun k w P' hk hP' => ?_⟩
  by_cases e : k = j
  · subst e
    cases hP.symm.trans hP'
    have hj : k < l.length := by rw [h.1]; exact (List.getElem?_eq_some_iff.mp hP).1
    rw [List.getElem?_set_self hj] at hk
    cases hk
    exact hv
  · rw [List.getElem?_set_ne (fun q => e q.symm)] at hk
    exact h.2 k w P' hk hP'
theorem WF.put {Y : yT} {M : mi_H} {a k j : Nat} {ps : List Nat} {P : Value → Prop} {v : Value} {l : List Value} (h : WF Y M) (hY : Y a = some (k, ps)) (hk : k < 12) (hl : M.1 a = some (ob k l)) (hP : (sch Y k ps)[j]? = some P) (hv : P v) (hx : xtr M (l.set j v) k ps) : WF Y (up M a (ob k (l.set j v))) := by
  refine ⟨fun b kb pb hb => ?_, h.2⟩
  by_cases e : b = a
  · subst e
    cases hY.symm.trans hb
    obtain ⟨l', h1, h2, h3, h4, h5⟩ := (h.1 b k ps hY).obj hk
    have e2 : l' = l := by
      have h9 := h1.symm.trans hl
      simp only [ob, Option.some.injEq, Sum.inr.injEq, Prod.mk.injEq, true_and] at h9
      apply List.ext_getElem?
      intro i
      exact congrFun h9 i
    subst e2
    exact Or.inl ⟨hk, _, up_at, h2, h3.set hP hv, h4, xtr_up hl hx⟩
  · exact (h.1 b kb pb hb).up hl e
end MIX
