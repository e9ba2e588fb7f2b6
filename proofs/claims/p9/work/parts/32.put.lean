/-! a field is laid: the types stay (my own text) -/
section MIX
theorem ob_ne_ar {M : mi_H} {a b k n : Nat} {l : List Value} {ty : FieldType} {f : Nat → Int32} (h1 : M.1 a = some (ob k l)) (h2 : M.1 b = some (ar ty n f)) : b ≠ a := by
  intro e
  subst e
  rw [h1] at h2
  simp [ob, ar] at h2
variable {g : xe_G} {Y : yT} {M : mi_H}
theorem xtr_up {a k0 : Nat} {l0 l1 : List Value} (ha : M.1 a = some (ob k0 l0)) {l : List Value} {k : Nat} {ps : List Nat} (h : xtr Y M l k ps) : xtr Y (up M a (ob k0 l1)) l k ps := by
  unfold xtr at h ⊢
  split at h
  · exact h
  · exact h
  · exact h
  · exact h
  · obtain ⟨h1, h2, cc, sz, g1, g3, g4, h3, h4, h5, h6, h7, h8, h9⟩ := h
    exact ⟨h1, h2, cc, sz, g1, g3, g4, h3, h4, h5, up_eq h6 (ob_ne_ar ha h6), up_eq h7 (ob_ne_ar ha h7), up_eq h8 (ob_ne_ar ha h8), h9⟩
  · exact h
  · trivial
theorem okY.up {a b k0 k : Nat} {l0 l1 : List Value} {ps : List Nat} (ha : M.1 a = some (ob k0 l0)) (hne : b ≠ a) (h : okY Y M b k ps) : okY Y (up M a (ob k0 l1)) b k ps := by
  rcases h with ⟨hk, l, h1, h2, h3, h4, h5⟩ | ⟨n, r, e, ty, f, h1, h2, h3⟩ | ⟨hk, n, da, m, e, hn, f, h1, h2⟩
  · exact Or.inl ⟨hk, l, up_eq h1 hne, h2, h3, h4, xtr_up ha h5⟩
  · exact Or.inr (Or.inl ⟨n, r, e, ty, f, h1, up_eq h2 hne, h3⟩)
  · exact Or.inr (Or.inr ⟨hk, n, da, m, e, hn, f, up_eq h1 hne, h2⟩)
theorem fit.set {l : List Value} {s : List (Value → Prop)} {j : Nat} {v : Value} {P : Value → Prop} (h : fit l s) (hP : s[j]? = some P) (hv : P v) : fit (l.set j v) s := by
  refine ⟨by rw [List.length_set]; exact h.1, fun k w P' hk hP' => ?_⟩
  by_cases e : k = j
  · subst e
    cases hP.symm.trans hP'
    have hj : k < l.length := by rw [h.1]; exact (List.getElem?_eq_some_iff.mp hP).1
    rw [List.getElem?_set_self hj] at hk
    cases hk
    exact hv
  · rw [List.getElem?_set_ne (fun q => e q.symm)] at hk
    exact h.2 k w P' hk hP'
theorem ob_inj {k : Nat} {l l' : List Value} (h : (some (ob k l) : Option mi_C) = some (ob k l')) : l = l' := by
  simp only [ob, Option.some.injEq, Sum.inr.injEq, Prod.mk.injEq, true_and] at h
  apply List.ext_getElem?
  intro i
  exact congrFun h i
theorem litOk.up {a k : Nat} {l : List Value} (h : litOk g M) (hk : k < 12) (ha : M.1 a = some (ob k l)) (l' : List Value) : litOk g (up M a (ob k l')) := by
  intro i hi
  obtain ⟨hb, f, hf⟩ := h i hi
  refine ⟨hb, f, up_eq hf ?_⟩
  intro e
  rw [e, ha] at hf
  simp only [ob, Option.some.injEq, Sum.inr.injEq, Prod.mk.injEq] at hf
  omega
theorem WF.put {a k j : Nat} {ps : List Nat} {P : Value → Prop} {v : Value} {l : List Value} (h : WF g Y M) (hY : Y.1 a = some (k, ps)) (hk : k < 12) (hl : M.1 a = some (ob k l)) (hP : (sch Y k ps)[j]? = some P) (hv : P v) (hx : xtr Y M l k ps → xtr Y M (l.set j v) k ps) : WF g Y (up M a (ob k (l.set j v))) := by
  refine ⟨fun b kb pb hb => ?_, h.2.1, h.2.2.up hk hl _⟩
  by_cases e : b = a
  · subst e
    cases hY.symm.trans hb
    obtain ⟨l', h1, h2, h3, h4, h5⟩ := (h.1 b k ps hY).obj hk
    have e2 : l' = l := ob_inj (h1.symm.trans hl)
    subst e2
    exact Or.inl ⟨hk, _, up_at, h2, h3.set hP hv, h4, xtr_up hl (hx h5)⟩
  · exact (h.1 b kb pb hb).up hl e
/-- fields of which xtr says nothing -/
def xj (k j : Nat) : Bool := match k with
  | 4 => j != 2
  | 5 => j != 2
  | 6 => j != 4 && j != 5
  | 7 => j != 0 && j != 7
  | 9 => j != 3
  | _ => true
theorem set_ne {l : List Value} {j i : Nat} {v w : Value} (h : l[i]? = some w) (hj : (j != i) = true) : (l.set j v)[i]? = some w := by
  rw [List.getElem?_set_ne (by simpa using hj)]
  exact h
theorem xtr_set {l : List Value} {k j : Nat} {ps : List Nat} {v : Value} (hj : xj k j = true) (h : xtr Y M l k ps) : xtr Y M (l.set j v) k ps := by
  unfold xtr at h ⊢
  split at h
  · exact h
  · obtain ⟨h0, x, h1, h2⟩ := h
    exact ⟨h0, x, set_ne h1 hj, h2⟩
  · obtain ⟨h0, x, h1, h2⟩ := h
    exact ⟨h0, x, set_ne h1 hj, h2⟩
  · obtain ⟨x, y, h1, h2, h3⟩ := h
    have hj' := Bool.and_eq_true_iff.mp hj
    exact ⟨x, y, set_ne h1 hj'.1, set_ne h2 hj'.2, h3⟩
  · obtain ⟨h1, h2, cc, sz, g1, g3, g4, h3, h4, h5⟩ := h
    have hj' := Bool.and_eq_true_iff.mp hj
    exact ⟨h1, h2, cc, sz, g1, g3, g4, set_ne h3 hj'.2, set_ne h4 hj'.1, h5⟩
  · obtain ⟨x, h1, h2⟩ := h
    exact ⟨x, set_ne h1 hj, h2⟩
  · trivial
/-- what a method that makes nothing leaves behind -/
def st (g : xe_G) (Y : yT) (M M' : mi_H) : Prop := WF g Y M' ∧ M'.2 = M.2 ∧ ∀ x, Y.1 x = none → M'.1 x = M.1 x
theorem st.rf (h : WF g Y M) : st g Y M M := ⟨h, rfl, fun _ _ => rfl⟩
theorem st.tr {M1 M2 : mi_H} (h : st g Y M M1) (h' : st g Y M1 M2) : st g Y M M2 := ⟨h'.1, h'.2.1.trans h.2.1, fun x hx => (h'.2.2 x hx).trans (h.2.2 x hx)⟩
def qI (g : xe_G) (Y : yT) (M : mi_H) : Option Value → mi_H → Prop := fun v M' => (∃ x : Int32, v = some (.int x)) ∧ st g Y M M'
def qL (g : xe_G) (Y : yT) (M : mi_H) : Option Value → mi_H → Prop := fun v M' => (∃ x : Int64, v = some (.long x)) ∧ st g Y M M'
def qZ (g : xe_G) (Y : yT) (M : mi_H) : Option Value → mi_H → Prop := fun v M' => (∃ x : Int32, v = some (.int x) ∧ (x = 0 ∨ x = 1)) ∧ st g Y M M'
def qV (g : xe_G) (Y : yT) (M : mi_H) : Option Value → mi_H → Prop := fun v M' => v = none ∧ st g Y M M'
def pI (M : mi_H) : Option Value → mi_H → Prop := fun v M' => (∃ x : Int32, v = some (.int x)) ∧ M' = M
def pL (M : mi_H) : Option Value → mi_H → Prop := fun v M' => (∃ x : Int64, v = some (.long x)) ∧ M' = M
def pZ (M : mi_H) : Option Value → mi_H → Prop := fun v M' => (∃ x : Int32, v = some (.int x) ∧ (x = 0 ∨ x = 1)) ∧ M' = M
theorem r_z {x : Int32} (h : x = 0 ∨ x = 1) : r_int mi_cz [.int x] = some (some (.int x)) := by
  rcases h with rfl | rfl <;> rfl
variable {T : Nat → Option (Nat × mi_B)} {d pc : Nat} {tb : mi_B} {lv : List (Nat × Value)} {s0 : List Value} {Q : Option Value → mi_H → Prop}
theorem tg_int {k j a : Nat} {ps : List Nat} (h1 : tb.1 pc = some (.inl (o_get k j))) (hW : WF g Y M) (hY : Y.1 a = some (k, ps)) (hk : k < 12) (hP : (sch Y k ps)[j]? = some vi) (kk : ∀ x, mi_gf M a k j = some (.int x) → ml T d tb (mi_nk tb.2 (pc + 3, lv, .int x :: s0, M)) Q) : ml T d tb (pc, lv, .ref a :: s0, M) Q := by
  obtain ⟨x, hx⟩ := hW.int hY hk hP
  exact ml_get h1 hx rfl (kk x hx)
theorem tg_ref {k j a b : Nat} {ps : List Nat} {S' : mi_S} (h1 : tb.1 pc = some (.inl (o_get k j))) (hW : WF g Y M) (hY : Y.1 a = some (k, ps)) (hk : k < 12) (hP : (sch Y k ps)[j]? = some (vr b)) (e1 : mi_nk tb.2 (pc + 3, lv, .ref b :: s0, M) = S') (kk : ml T d tb S' Q) : ml T d tb (pc, lv, .ref a :: s0, M) Q :=
  ml_get h1 (hW.ref hY hk hP) e1 kk
theorem tg_vo {k j a : Nat} {ps : List Nat} {P : Nat → Prop} (h1 : tb.1 pc = some (.inl (o_get k j))) (hW : WF g Y M) (hY : Y.1 a = some (k, ps)) (hk : k < 12) (hP : (sch Y k ps)[j]? = some (vo P)) (kk : ∀ b, mi_gf M a k j = some (.ref b) → P b → ml T d tb (mi_nk tb.2 (pc + 3, lv, .ref b :: s0, M)) Q) : ml T d tb (pc, lv, .ref a :: s0, M) Q := by
  obtain ⟨v, hx, b, rfl, hb⟩ := hW.get hY hk hP
  exact ml_get h1 hx rfl (kk b hx hb)
theorem tg_vn {k j a : Nat} {ps : List Nat} {P : Nat → Prop} (h1 : tb.1 pc = some (.inl (o_get k j))) (hW : WF g Y M) (hY : Y.1 a = some (k, ps)) (hk : k < 12) (hP : (sch Y k ps)[j]? = some (vn P)) (k0 : mi_gf M a k j = some .null → ml T d tb (mi_nk tb.2 (pc + 3, lv, .null :: s0, M)) Q) (kk : ∀ b, mi_gf M a k j = some (.ref b) → P b → ml T d tb (mi_nk tb.2 (pc + 3, lv, .ref b :: s0, M)) Q) : ml T d tb (pc, lv, .ref a :: s0, M) Q := by
  obtain ⟨v, hx, rfl | ⟨b, rfl, hb⟩⟩ := hW.get hY hk hP
  · exact ml_get h1 hx rfl (k0 hx)
  · exact ml_get h1 hx rfl (kk b hx hb)
theorem gf_fr {M' : mi_H} {a k j : Nat} {v : Option Value} (h : M'.1 a = M.1 a) (hg : mi_gf M a k j = v) : mi_gf M' a k j = v := by
  unfold mi_gf at hg ⊢
  rw [h]
  exact hg
theorem ykne {a b k k' : Nat} {ps ps' : List Nat} (h : Y.1 a = some (k, ps)) (h' : Y.1 b = some (k', ps')) (hk : k ≠ k') : a ≠ b := by
  intro e
  subst e
  rw [h] at h'
  simp only [Option.some.injEq, Prod.mk.injEq] at h'
  exact hk h'.1
/-- what a field's write leaves: types, the other cells, the other fields, and the field itself -/
def pf (M M' : mi_H) (a k j : Nat) (v : Value) : Prop := (∀ x, x ≠ a → M'.1 x = M.1 x) ∧ (∀ i w, i ≠ j → mi_gf M a k i = some w → mi_gf M' a k i = some w) ∧ mi_gf M' a k j = some v ∧ ∀ l, M.1 a = some (ob k l) → M'.1 a = some (ob k (l.set j v))
theorem pf_up {a k j : Nat} {v : Value} {l : List Value} (h2 : M.1 a = some (ob k l)) (hj : j < l.length) : pf M (up M a (ob k (l.set j v))) a k j v := by
  refine ⟨fun x hx0 => up_ne hx0, fun i w hi hw => ?_, gf_ob up_at (by simp [hj]), fun l' hl' => ?_⟩
  · have : l[i]? = some w := by
      unfold mi_gf at hw
      rw [h2] at hw
      simpa [ob] using hw
    exact gf_ob up_at (set_ne this (by simpa using fun e => hi e.symm))
  · cases ob_inj (h2.symm.trans hl')
    exact up_at
theorem tp_putx {M0 : mi_H} {k j a : Nat} {ty : FieldType} {ps : List Nat} {v : Value} {P : Value → Prop} (h1 : tb.1 pc = some (.inl (o_put k j ty))) (hS : st g Y M0 M) (hY : Y.1 a = some (k, ps)) (hk : k < 12) (hP : (sch Y k ps)[j]? = some P) (hv : P v) (hf : mi_fit ty v = true) (hx : ∀ l, j < l.length → xtr Y M l k ps → xtr Y M (l.set j v) k ps) (kk : ∀ M', st g Y M0 M' → pf M M' a k j v → ml T d tb (mi_nk tb.2 (pc + 3, lv, s0, M')) Q) : ml T d tb (pc, lv, v :: .ref a :: s0, M) Q := by
  obtain ⟨l, h2, h3, h4, -⟩ := (hS.1.1 a k ps hY).obj hk
  have hj : j < l.length := by rw [h4.1]; exact (List.getElem?_eq_some_iff.mp hP).1
  refine mo_put h1 h2 hf hj rfl (kk _ (hS.tr ⟨hS.1.put hY hk h2 hP hv (hx l hj), rfl, fun x hx0 => up_ne ?_⟩) (pf_up h2 hj))
  intro e
  subst e
  rw [hY] at hx0
  cases hx0
theorem tp_put {M0 : mi_H} {k j a : Nat} {ty : FieldType} {ps : List Nat} {v : Value} {P : Value → Prop} (h1 : tb.1 pc = some (.inl (o_put k j ty))) (hS : st g Y M0 M) (hY : Y.1 a = some (k, ps)) (hk : k < 12) (hP : (sch Y k ps)[j]? = some P) (hv : P v) (hf : mi_fit ty v = true) (hx : xj k j = true) (kk : ∀ M', st g Y M0 M' → pf M M' a k j v → ml T d tb (mi_nk tb.2 (pc + 3, lv, s0, M')) Q) : ml T d tb (pc, lv, v :: .ref a :: s0, M) Q :=
  tp_putx h1 hS hY hk hP hv hf (fun _ _ h => xtr_set hx h) kk
end MIX
