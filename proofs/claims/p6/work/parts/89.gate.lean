/-! the class between two calls (my own text) -/
section LGA
variable {g : xe_G} {x cc fed P : Nat} {M M' : mi_H}
theorem kvOk.le {Y : yT} {kv : Value} {B B' : Nat} (h : kvOk Y kv B) (hb : B ≤ B') : kvOk Y kv B' := h.imp id (fun ⟨a, b, c, d, e, f, k⟩ => ⟨a, b, c, d, e, f, Nat.le_trans k hb⟩)
/-- cc bytes have come, fed feeds so far; P: what the gate may have taken for its bytes -/
def GATE (g : xe_G) (x cc fed P : Nat) (M : mi_H) : Prop := ∃ (Y : yT) (cm fl : Nat) (kv : Value) (wp : Int32) (nf m rd ed : Nat),
  WF g Y M ∧ M.1 x = some (ob 11 [.ref cm, .int (nI cc), .ref fl, kv, .int wp]) ∧ Y.1 x = none ∧ x < M.2.1 ∧ (∀ i, i < 15 → g.2.1 i ≠ x) ∧ Y.1 g.1 = some (24, [0]) ∧ Y.1 cm = some (20, [m]) ∧ Y.1 fl = some (24, [nf]) ∧ kvOk Y kv (20 * fed) ∧
  (1024 ≤ m ∧ m ≤ 1024 + 40 * fed ∧ m % 5 ≠ 0 ∧ cc % 20 = 0 ∧ cc ≤ m ∧ rd + nf ≤ ed ∧ ed + cc ≤ 20 * fed ∧ fed ≤ 512 ∧ P = 2 * m + 10 * rd + ed)
def GP (g : xe_G) (x P cc' fed' c s : Nat) (M M' : mi_H) : Prop := ∃ P', P ≤ P' ∧ GATE g x cc' fed' P' M' ∧ M'.2.1 + P ≤ M.2.1 + P' + c ∧ M'.2.2 + P ≤ M.2.2 + P' + s
theorem GATE.pot (h : GATE g x cc fed P M) : P ≤ 156000 ∧ fed ≤ 512 ∧ cc ≤ 20 * fed ∧ cc % 20 = 0 := by
  obtain ⟨Y, cm, fl, kv, wp, nf, m, rd, ed, -, -, -, -, -, -, -, -, -, hB⟩ := h
  omega
theorem GATE.cell (h : GATE g x cc fed P M) : ∃ F, M.1 x = some (.inr (11, F)) ∧ F 1 = some (.int (nI cc)) := by
  obtain ⟨Y, cm, fl, kv, wp, nf, m, rd, ed, -, hx, -⟩ := h
  exact ⟨_, hx, rfl⟩
theorem GP.rf (h : GATE g x cc fed P M) (c s : Nat) : GP g x P cc fed c s M M := ⟨P, Nat.le_refl _, h, by omega, by omega⟩
theorem okY.room {Y : yT} {a k z1 z2 : Nat} {ps : List Nat} (h : okY Y M a k ps) : okY Y (M.1, z1, z2) a k ps := by
  rcases h with ⟨h1, l, h2, h3, h4, h5, h6⟩ | h | h
  · refine Or.inl ⟨h1, l, h2, h3, h4, h5, ?_⟩
    unfold xtr at h6 ⊢
    split <;> first | exact h6 | trivial
  · exact Or.inr (Or.inl h)
  · exact Or.inr (Or.inr h)
theorem GATE.room (h : GATE g x cc fed P M) {z1 z2 : Nat} (hz : M.2.1 ≤ z1) : GATE g x cc fed P (M.1, z1, z2) := by
  obtain ⟨Y, cm, fl, kv, wp, nf, m, rd, ed, hW, hx, hxn, hxl, hr⟩ := h
  refine ⟨Y, cm, fl, kv, wp, nf, m, rd, ed, ⟨fun a k ps ha => (hW.1 a k ps ha).room, fun a t ha => Nat.lt_of_lt_of_le (hW.2.1 a t ha) hz, fun k hk => ⟨Nat.lt_of_lt_of_le (hW.2.2 k hk).1 hz, (hW.2.2 k hk).2⟩⟩, hx, hxn, Nat.lt_of_lt_of_le hxl hz, hr⟩
theorem GATE.sa {Y Y' : yT} {cm fl nf m rd ed : Nat} {kv : Value} {wp : Int32} (hW : WF g Y M) (hx : M.1 x = some (ob 11 [.ref cm, .int (nI cc), .ref fl, kv, .int wp])) (hxn : Y.1 x = none) (hxl : x < M.2.1) (hlit : ∀ i, i < 15 → g.2.1 i ≠ x) (hst : Y.1 g.1 = some (24, [0])) (hcm : Y.1 cm = some (20, [m])) (hfl : Y.1 fl = some (24, [nf])) (hkv : kvOk Y kv (20 * fed))
    (hB : 1024 ≤ m ∧ m ≤ 1024 + 40 * fed ∧ m % 5 ≠ 0 ∧ cc % 20 = 0 ∧ cc ≤ m ∧ rd + nf ≤ ed ∧ ed + cc ≤ 20 * fed ∧ fed ≤ 512 ∧ P = 2 * m + 10 * rd + ed) (hs : sa g Y M Y' M' 2 (2 * (20 * fed))) : GP g x P cc fed 26 (64 + 40 * fed) M M' := by
  obtain ⟨a1, a2, a3, ⟨a4, a5, a6, a7⟩, a8⟩ := hs
  refine ⟨P, Nat.le_refl _, ⟨Y', cm, fl, kv, wp, nf, m, rd, ed, a1, (a8 x hxn hxl).trans hx, (a3 x hxl).trans hxn, Nat.lt_of_lt_of_le hxl a4, hlit, (a2 _ _ hst).1, (a2 _ _ hcm).1, (a2 _ _ hfl).1, hkv.mono a2, hB⟩, by omega, by omega⟩
/-- the reference between calls, whatever room the other side has taken -/
theorem REF.room {m0 : Nat} {q : Nat → Nat} {z z' : Nat × Nat} {kr : rR} {Ic : rI} {Rc : rR} (h : REF g m0 q z kr Ic Rc cc M) : REF g m0 q z' kr Ic Rc cc (M.1, z') := by
  obtain ⟨I, R, kn, co, n, f, ⟨h1, h2, h3, h4, h5, h6⟩, hr⟩ := h
  exact ⟨I, R, kn, co, n, f, ⟨h1, h2, h3, h4, rfl, h6⟩, hr⟩
theorem REF.z {m0 : Nat} {q : Nat → Nat} {z : Nat × Nat} {kr : rR} {Ic : rI} {Rc : rR} (h : REF g m0 q z kr Ic Rc cc M) : M.2 = z := by
  obtain ⟨I, R, kn, co, n, f, ⟨h1, h2, h3, h4, h5, h6⟩, hr⟩ := h
  exact h5
theorem REF.cell {m0 : Nat} {q : Nat → Nat} {z : Nat × Nat} {kr : rR} {Ic : rI} {Rc : rR} (h : REF g m0 q z kr Ic Rc cc M) : ∃ F, M.1 m0 = some (.inr (12, F)) := by
  obtain ⟨I, R, kn, co, n, f, ⟨h1, h2, h3, h4, h5, h6⟩, hr⟩ := h
  exact ⟨_, h1⟩
end LGA
