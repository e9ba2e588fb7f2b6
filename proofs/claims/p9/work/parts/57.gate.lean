/-! the gate itself: its object is not typed (my own text) -/
section MIG
variable {g : xe_G} {Y Y' Y1 Y2 : yT} {M M' M1 M2 : mi_H} {c s c' s' : Nat}
def kvOk (Y : yT) (kv : Value) (B : Nat) : Prop := kv = .null ∨ ∃ kc kb kd kn, kv = .ref kc ∧ Y.1 kc = some (3, [kb, kd, kn]) ∧ kn ≤ B
theorem kvOk.mono {kv : Value} {B : Nat} (h : kvOk Y kv B) (hl : yle Y Y') : kvOk Y' kv B := h.imp id (fun ⟨a, b, c, d, e, f, k⟩ => ⟨a, b, c, d, e, (hl _ _ f).1, k⟩)
def pC (Y : yT) (B : Nat) (kv : Value) (M : mi_H) : Option Value → mi_H → Prop := fun v M' => (v = some .null ∨ (kv ≠ .null ∧ ∃ c p o k, v = some (.ref c) ∧ Y.1 c = some (4, [p, o, k]) ∧ k ≤ B)) ∧ M' = M
/-- what a method of the gate leaves: new cells, types, and cells that have no type stay, but for the gate's object -/
def sg (g : xe_G) (Y : yT) (M : mi_H) (Y' : yT) (M' : mi_H) (c s : Nat) : Prop :=
  WF g Y' M' ∧ yle Y Y' ∧ (∀ x, x < M.2.1 → Y'.1 x = Y.1 x) ∧ (M.2.1 ≤ M'.2.1 ∧ M'.2.1 ≤ M.2.1 + c ∧ M.2.2 ≤ M'.2.2 ∧ M'.2.2 ≤ M.2.2 + s ∧ ∀ a, Y.1 a = none → a < M.2.1 → (∀ l, M.1 a ≠ some (ob 11 l)) → M'.1 a = M.1 a)
theorem sa.sg (h : sa g Y M Y1 M1 c s) : sg g Y M Y1 M1 c s := ⟨h.1, h.2.1, h.2.2.1, h.2.2.2.1.1, h.2.2.2.1.2.1, h.2.2.2.1.2.2.1, h.2.2.2.1.2.2.2, fun a h1 h2 _ => h.2.2.2.2 a h1 h2⟩
theorem sg.tr (h : sg g Y M Y1 M1 c s) (h' : sg g Y1 M1 Y2 M2 c' s') : sg g Y M Y2 M2 (c + c') (s + s') := by
  obtain ⟨a1, a2, a3, a4, a5, a6, a7, a8⟩ := h
  obtain ⟨b1, b2, b3, b4, b5, b6, b7, b8⟩ := h'
  refine ⟨b1, a2.tr b2, fun x hx => (b3 x (by omega)).trans (a3 x hx), by omega, by omega, by omega, by omega, fun a h1 h2 h3 => ?_⟩
  have e := a8 a h1 h2 h3
  exact (b8 a ((a3 a h2).trans h1) (by omega) (fun l => by rw [e]; exact h3 l)).trans e
theorem sg.le (h : sg g Y M Y1 M1 c s) (hc : c ≤ c') (hs : s ≤ s') : sg g Y M Y1 M1 c' s' := ⟨h.1, h.2.1, h.2.2.1, ⟨h.2.2.2.1, by have := h.2.2.2.2.1; omega, h.2.2.2.2.2.1, by have := h.2.2.2.2.2.2.1; omega, h.2.2.2.2.2.2.2⟩⟩
/-- the gate's object is written -/
theorem sg.put {x : Nat} {l0 : List Value} {cl : mi_C} (h : WF g Y M) (hc : M.1 x = some (ob 11 l0)) (hx : Y.1 x = none) (hl : ∀ i, i < 15 → g.2.1 i ≠ x) : sg g Y M Y (up M x cl) 0 0 := ⟨h.free hx hl, yle.rf, fun _ _ => rfl, ⟨Nat.le_refl _, Nat.le_refl _, Nat.le_refl _, Nat.le_refl _, fun a _ _ h3 => up_ne (fun e => h3 l0 (e ▸ hc))⟩⟩
variable {T : Nat → Option (Nat × mi_B)} {d pc : Nat} {tb : mi_B} {lv : List (Nat × Value)} {s0 : List Value} {Q : Option Value → mi_H → Prop}
theorem gx_put {x j : Nat} {ty : FieldType} {l l' : List Value} {v : Value} (h1 : tb.1 pc = some (.inl (o_put 11 j ty))) (hc : M.1 x = some (ob 11 l)) (hv : mi_fit ty v = true) (hj : decide (j < l.length) = true) (e : l.set j v = l') (hW : WF g Y M) (hx : Y.1 x = none) (hl : ∀ i, i < 15 → g.2.1 i ≠ x) (kk : ∀ M2, sg g Y M Y M2 0 0 → M2.1 x = some (ob 11 l') → M2.2 = M.2 → (∀ z, z ≠ x → M2.1 z = M.1 z) → ml T d tb (mi_nk tb.2 (pc + 3, lv, s0, M2)) Q) : ml T d tb (pc, lv, v :: .ref x :: s0, M) Q :=
  mo_put h1 hc hv (of_decide_eq_true hj) rfl (kk _ (sg.put hW hc hx hl) (by rw [e]; exact up_at) rfl (fun z hz => up_ne hz))
theorem ts_byte {M0 : mi_H} {n a : Nat} {r : List Nat} {i x : Int32} {nar : Int32 → Int32} (h1 : tb.1 pc = some (.inl (o_ast .byte nar))) (hS : st g Y M0 M) (hY : Y.1 a = some (20, n :: r)) (hi : vp_in i n) (hn : fits .byte (.int (nar x)) = true) (kk : ∀ M', st g Y M0 M' → ml T d tb (mi_nk tb.2 (pc + 1, lv, s0, M')) Q) : ml T d tb (pc, lv, .int x :: .int i :: .ref a :: s0, M) Q := by
  obtain ⟨ty, f, h2, h3, h4, h5, -⟩ := (hS.1.1 a _ _ hY).row (ty := .byte) rfl
  cases h2
  refine mo_ast h1 h3 hi rfl (kk _ (hS.tr ⟨hS.1.uprow hY (by decide) (by decide) (by decide) h3 ?_, rfl, fun z hz => up_ne ?_⟩))
  · refine Or.inr (Or.inl ⟨n, r, rfl, .byte, _, rfl, up_at, h4, fun q j => ?_, fun q => absurd q (by decide), fun q => absurd q (by decide)⟩)
    unfold upd
    split
    · exact hn
    · exact h5 rfl j
  · intro e
    subst e
    rw [hY] at hz
    cases hz
end MIG
