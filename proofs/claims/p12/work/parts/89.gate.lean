/-! the class between two calls (my own text) -/
section LGA
variable {g : xe_G} {x cc fed P : Nat} {M M' : mi_H}
theorem kvOk.le {Y : yT} {kv : Value} {B B' : Nat} (h : kvOk Y kv B) (hb : B ≤ B') : kvOk Y kv B' := h.imp id (fun ⟨a, b, c, d, e, f, k⟩ => ⟨a, b, c, d, e, f, Nat.le_trans k hb⟩)
/-- cc bytes have come, fed feeds so far; P: what the gate may have taken for its bytes -/
def GATE (g : xe_G) (x cc fed P : Nat) (M : mi_H) : Prop := ∃ (Y : yT) (cm fl : Nat) (kv : Value) (wp : Int32) (nf m rd ed : Nat),
  WF g Y M ∧ M.1 x = some (ob 11 [.ref cm, .int (nI cc), .ref fl, kv, .int wp]) ∧ Y.1 x = none ∧ x < M.2.1 ∧ (∀ i, i < 15 → g.2.1 i ≠ x) ∧ Y.1 g.1 = some (24, [0]) ∧ Y.1 cm = some (20, [m]) ∧ Y.1 fl = some (24, [nf]) ∧ kvOk Y kv (20 * fed) ∧
  (1024 ≤ m ∧ m ≤ 1024 + 40 * fed ∧ m % 5 ≠ 0 ∧ cc % 20 = 0 ∧ cc ≤ m ∧ rd + nf ≤ ed ∧ ed + cc ≤ 20 * fed ∧ fed ≤ 512 ∧ P = 2 * m + 10 * rd + ed)
def GP (g : xe_G) (x P cc' fed' c s : Nat) (M M' : mi_H) : Prop := ∃ P', P ≤ P' ∧ GATE g x cc' fed' P' M' ∧ M'.2.1 + P ≤ M.2.1 + P' + c ∧ M'.2.2 + P ≤ M.2.2 + P' + s
theorem GATE.pot (h : GATE g x cc fed P M) : P ≤ 156000 ∧ fed ≤ 512 ∧ cc ≤ 20 * fed ∧ cc % 20 = 0 := by
  obtain ⟨Y, cm, fl, kv, wp, nf, m, rd, ed, -, -, -, -, -, -, -, -, -, hB⟩ := h
  omega
theorem GATE.cell (h : GATE g x cc fed P M) : ∃ F, M.1 x = some (.inr (11, F)) ∧ F 1 = some (.int (nI cc)) := by
  obtain ⟨Y, cm, fl, kv, wp, nf, m, rd, ed, -, hx, -⟩ := h
  exact ⟨_, hx, rfl⟩
theorem GP.rf (h : GATE g x cc fed P M) (c s : Nat) : GP g x P cc fed c s M M := ⟨P, Nat.le_refl _, h, by omega, by omega⟩
theorem okY.room {Y : yT} {a k z1 z2 : Nat} {ps : List Nat} (h : okY Y M a k ps) : okY Y (M.1, z1, z2) a k ps := by
  rcases h with ⟨h1, l, h2, h3, h4, h5, h6⟩ | h | h
  · refine Or.inl ⟨h1, l, h2, h3, h4, h5, ?_⟩
    unfold xtr at h6 ⊢
    split <;> first | exact h6 | trivial
  · exact Or.inr (Or.inl h)
  · exact Or.inr (Or.inr h)
theorem GATE.room (h : GATE g x cc fed P M) {z1 z2 : Nat} (hz : M.2.1 ≤ z1) : GATE g x cc fed P (M.1, z1, z2) := by
  obtain ⟨Y, cm, fl, kv, wp, nf, m, rd, ed, hW, hx, hxn, hxl, hr⟩ := h
  refine ⟨Y, cm, fl, kv, wp, nf, m, rd, ed, ⟨fun a k ps ha => (hW.1 a k ps ha).room, fun a t ha => Nat.lt_of_lt_of_le (hW.2.1 a t ha) hz, fun k hk => ⟨Nat.lt_of_lt_of_le (hW.2.2 k hk).1 hz, (hW.2.2 k hk).2⟩⟩, hx, hxn, Nat.lt_of_lt_of_le hxl hz, hr⟩
theorem gt_place (h : GATE g x cc fed P M) {d : Nat} (hd : 9 ≤ d) : mt (mT g) d 16 [.ref x] M (fun v M' => (∃ y : Int32, v = some (.int y)) ∧ GP g x P cc fed 26 (64 + 40 * fed) M M') := by
  obtain ⟨Y, cm, fl, kv, wp, nf, m, rd, ed, hW, hx, hxn, hxl, hlit, hst, hcm, hfl, hkv, hB⟩ := id h
  exact (tq_place hW hx hxn hxl hkv hd).imp (fun v M' hq => ⟨hq.1, by rw [hq.2]; exact GP.rf h _ _⟩)
theorem gt_bits (h : GATE g x cc fed P M) {x1 : Int32} {d : Nat} (hd : 9 ≤ d) : mt (mT g) d 1 [.ref x, .int x1] M (fun v M' => (∃ y : Int64, v = some (.long y)) ∧ GP g x P cc fed 26 (64 + 40 * fed) M M') := by
  obtain ⟨Y, cm, fl, kv, wp, nf, m, rd, ed, hW, hx, hxn, hxl, hlit, hst, hcm, hfl, hkv, hB⟩ := id h
  exact (tq_bits hW hx hxn hxl hkv hd).imp (fun v M' hq => ⟨hq.1, by rw [hq.2]; exact GP.rf h _ _⟩)
theorem gt_character (h : GATE g x cc fed P M) {x1 : Int32} {x2 : Int32} {d : Nat} (hd : 9 ≤ d) : mt (mT g) d 3 [.ref x, .int x1, .int x2] M (fun v M' => (∃ y : Int32, v = some (.int y)) ∧ GP g x P cc fed 26 (64 + 40 * fed) M M') := by
  obtain ⟨Y, cm, fl, kv, wp, nf, m, rd, ed, hW, hx, hxn, hxl, hlit, hst, hcm, hfl, hkv, hB⟩ := id h
  exact (tq_character hW hx hxn hxl hkv hd).imp (fun v M' hq => ⟨hq.1, by rw [hq.2]; exact GP.rf h _ _⟩)
theorem gt_places (h : GATE g x cc fed P M) {x1 : Int32} {d : Nat} (hd : 9 ≤ d) : mt (mT g) d 17 [.ref x, .int x1] M (fun v M' => (∃ y : Int32, v = some (.int y)) ∧ GP g x P cc fed 26 (64 + 40 * fed) M M') := by
  obtain ⟨Y, cm, fl, kv, wp, nf, m, rd, ed, hW, hx, hxn, hxl, hlit, hst, hcm, hfl, hkv, hB⟩ := id h
  exact (tq_places hW hx hxn hxl hkv hd).imp (fun v M' hq => ⟨hq.1, by rw [hq.2]; exact GP.rf h _ _⟩)
theorem gt_find (h : GATE g x cc fed P M) {x1 : Int32} {x2 : Int32} {x3 : Int32} {d : Nat} (hd : 9 ≤ d) : mt (mT g) d 10 [.ref x, .int x1, .int x2, .int x3] M (fun v M' => (∃ y : Int32, v = some (.int y)) ∧ GP g x P cc fed 26 (64 + 40 * fed) M M') := by
  obtain ⟨Y, cm, fl, kv, wp, nf, m, rd, ed, hW, hx, hxn, hxl, hlit, hst, hcm, hfl, hkv, hB⟩ := id h
  exact (tq_find hW hx hxn hxl hkv hd).imp (fun v M' hq => ⟨hq.1, by rw [hq.2]; exact GP.rf h _ _⟩)
theorem gt_bootstrap (h : GATE g x cc fed P M) {x1 : Int32} {x2 : Int32} {d : Nat} (hd : 9 ≤ d) : mt (mT g) d 2 [.ref x, .int x1, .int x2] M (fun v M' => (∃ y : Int32, v = some (.int y)) ∧ GP g x P cc fed 26 (64 + 40 * fed) M M') := by
  obtain ⟨Y, cm, fl, kv, wp, nf, m, rd, ed, hW, hx, hxn, hxl, hlit, hst, hcm, hfl, hkv, hB⟩ := id h
  exact (tq_bootstrap hW hx hxn hxl hkv hd).imp (fun v M' hq => ⟨hq.1, by rw [hq.2]; exact GP.rf h _ _⟩)
theorem gt_count (h : GATE g x cc fed P M) {x1 : Int32} (hq0 : ¬ x1 < 0) (hq1 : x1 ≤ 15) {d : Nat} (hd : 9 ≤ d) : mt (mT g) d 5 [.ref x, .int x1] M (fun v M' => (∃ y : Int32, v = some (.int y)) ∧ GP g x P cc fed 26 (64 + 40 * fed) M M') := by
  obtain ⟨Y, cm, fl, kv, wp, nf, m, rd, ed, hW, hx, hxn, hxl, hlit, hst, hcm, hfl, hkv, hB⟩ := id h
  exact (tq_count hW hx hxn hxl hkv hq0 hq1 hd).imp (fun v M' hq => ⟨hq.1, by rw [hq.2]; exact GP.rf h _ _⟩)
theorem gt_entry (h : GATE g x cc fed P M) {x1 : Int32} {x2 : Int32} (hq0 : ¬ x2 < 0) (hq1 : x2 ≤ 2) {d : Nat} (hd : 9 ≤ d) : mt (mT g) d 8 [.ref x, .int x1, .int x2] M (fun v M' => (∃ y : Int32, v = some (.int y)) ∧ GP g x P cc fed 26 (64 + 40 * fed) M M') := by
  obtain ⟨Y, cm, fl, kv, wp, nf, m, rd, ed, hW, hx, hxn, hxl, hlit, hst, hcm, hfl, hkv, hB⟩ := id h
  exact (tq_entry hW hx hxn hxl hkv hq0 hq1 hd).imp (fun v M' hq => ⟨hq.1, by rw [hq.2]; exact GP.rf h _ _⟩)
theorem gt_member (h : GATE g x cc fed P M) {x1 : Int32} {x2 : Int32} {x3 : Int32} (hq0 : ¬ x3 < 0) (hq1 : x3 ≤ 9) {d : Nat} (hd : 9 ≤ d) : mt (mT g) d 15 [.ref x, .int x1, .int x2, .int x3] M (fun v M' => (∃ y : Int32, v = some (.int y)) ∧ GP g x P cc fed 26 (64 + 40 * fed) M M') := by
  obtain ⟨Y, cm, fl, kv, wp, nf, m, rd, ed, hW, hx, hxn, hxl, hlit, hst, hcm, hfl, hkv, hB⟩ := id h
  exact (tq_member hW hx hxn hxl hkv hq0 hq1 hd).imp (fun v M' hq => ⟨hq.1, by rw [hq.2]; exact GP.rf h _ _⟩)
theorem gt_row (h : GATE g x cc fed P M) {x1 : Int32} {x2 : Int32} {x3 : Int32} (hq0 : ¬ x3 < 0) (hq1 : x3 ≤ 3) {d : Nat} (hd : 9 ≤ d) : mt (mT g) d 19 [.ref x, .int x1, .int x2, .int x3] M (fun v M' => (∃ y : Int32, v = some (.int y)) ∧ GP g x P cc fed 26 (64 + 40 * fed) M M') := by
  obtain ⟨Y, cm, fl, kv, wp, nf, m, rd, ed, hW, hx, hxn, hxl, hlit, hst, hcm, hfl, hkv, hB⟩ := id h
  exact (tq_row hW hx hxn hxl hkv hq0 hq1 hd).imp (fun v M' hq => ⟨hq.1, by rw [hq.2]; exact GP.rf h _ _⟩)
theorem GATE.sa {Y Y' : yT} {cm fl nf m rd ed : Nat} {kv : Value} {wp : Int32} (hW : WF g Y M) (hx : M.1 x = some (ob 11 [.ref cm, .int (nI cc), .ref fl, kv, .int wp])) (hxn : Y.1 x = none) (hxl : x < M.2.1) (hlit : ∀ i, i < 15 → g.2.1 i ≠ x) (hst : Y.1 g.1 = some (24, [0])) (hcm : Y.1 cm = some (20, [m])) (hfl : Y.1 fl = some (24, [nf])) (hkv : kvOk Y kv (20 * fed))
    (hB : 1024 ≤ m ∧ m ≤ 1024 + 40 * fed ∧ m % 5 ≠ 0 ∧ cc % 20 = 0 ∧ cc ≤ m ∧ rd + nf ≤ ed ∧ ed + cc ≤ 20 * fed ∧ fed ≤ 512 ∧ P = 2 * m + 10 * rd + ed) (hs : sa g Y M Y' M' 2 (2 * (20 * fed))) : GP g x P cc fed 26 (64 + 40 * fed) M M' := by
  obtain ⟨a1, a2, a3, ⟨a4, a5, a6, a7⟩, a8⟩ := hs
  refine ⟨P, Nat.le_refl _, ⟨Y', cm, fl, kv, wp, nf, m, rd, ed, a1, (a8 x hxn hxl).trans hx, (a3 x hxl).trans hxn, Nat.lt_of_lt_of_le hxl a4, hlit, (a2 _ _ hst).1, (a2 _ _ hcm).1, (a2 _ _ hfl).1, hkv.mono a2, hB⟩, by omega, by omega⟩
theorem gt_cut (h : GATE g x cc fed P M) {x1 : Int32} {d : Nat} (hd : 9 ≤ d) : mt (mT g) d 6 [.ref x, .int x1] M (fun v M' => (∃ y : Int32, v = some (.int y)) ∧ GP g x P cc fed 26 (64 + 40 * fed) M M') := by
  obtain ⟨Y, cm, fl, kv, wp, nf, m, rd, ed, hW, hx, hxn, hxl, hlit, hst, hcm, hfl, hkv, hB⟩ := id h
  exact (tq_cut hW hx hxn hxl hkv hd).imp (fun v M' hq => by obtain ⟨Y', hv, hs⟩ := hq; exact ⟨hv, GATE.sa hW hx hxn hxl hlit hst hcm hfl hkv hB hs⟩)
theorem gt_jump (h : GATE g x cc fed P M) {x1 : Int32} {x2 : Int32} {x3 : Int32} {x4 : Int32} {d : Nat} (hd : 9 ≤ d) : mt (mT g) d 14 [.ref x, .int x1, .int x2, .int x3, .int x4] M (fun v M' => (∃ y : Int32, v = some (.int y)) ∧ GP g x P cc fed 26 (64 + 40 * fed) M M') := by
  obtain ⟨Y, cm, fl, kv, wp, nf, m, rd, ed, hW, hx, hxn, hxl, hlit, hst, hcm, hfl, hkv, hB⟩ := id h
  exact (tq_jump hW hx hxn hxl hkv hd).imp (fun v M' hq => by obtain ⟨Y', hv, hs⟩ := hq; exact ⟨hv, GATE.sa hW hx hxn hxl hlit hst hcm hfl hkv hB hs⟩)
theorem gt_instruction (h : GATE g x cc fed P M) {x1 : Int32} {x2 : Int32} {x3 : Int32} (hq0 : ¬ x3 < 0) (hq1 : x3 ≤ 4) {d : Nat} (hd : 9 ≤ d) : mt (mT g) d 12 [.ref x, .int x1, .int x2, .int x3] M (fun v M' => (∃ y : Int32, v = some (.int y)) ∧ GP g x P cc fed 26 (64 + 40 * fed) M M') := by
  obtain ⟨Y, cm, fl, kv, wp, nf, m, rd, ed, hW, hx, hxn, hxl, hlit, hst, hcm, hfl, hkv, hB⟩ := id h
  exact (tq_instruction hW hx hxn hxl hkv hq0 hq1 hd).imp (fun v M' hq => by obtain ⟨Y', hv, hs⟩ := hq; exact ⟨hv, GATE.sa hW hx hxn hxl hlit hst hcm hfl hkv hB hs⟩)
theorem gt_read (h : GATE g x cc fed P M) {d : Nat} (hd : 16 ≤ d) : mt (mT g) d 18 [.ref x] M (fun v M' => (∃ y : Int32, v = some (.int y)) ∧ GP g x P cc fed 26 (64 + 40 * fed) M M') := by
  obtain ⟨Y, cm, fl, kv, wp, nf, m, rd, ed, hW, hx, hxn, hxl, hlit, hst, hcm, hfl, hkv, hB⟩ := id h
  refine (tq_read (m := m) hW hx hxn hxl hlit hst hfl (by omega) (by omega) hkv hd).imp (fun v M' hq => ?_)
  obtain ⟨Y', kv', wp', hv, ⟨a1, a2, a3, a4, a5, a6, a7⟩, hx', hk'⟩ := hq
  refine ⟨hv, P + 10 * nf, by omega, ⟨Y', cm, g.1, kv', wp', 0, m, rd + nf, ed, a1, hx', (a3 x hxl).trans hxn, Nat.lt_of_lt_of_le hxl a4, hlit, (a2 _ _ hst).1, (a2 _ _ hcm).1, (a2 _ _ hst).1, hk', by omega⟩, by omega, by omega⟩
theorem gt_end (h : GATE g x cc fed P M) {x1 : Int32} (hq0 : ¬ x1 < 0) (hq1 : x1 ≤ nI cc) {d : Nat} (hd : 3 ≤ d) : mt (mT g) d 7 [.ref x, .int x1] M (fun v M' => v = some (.int x1) ∧ GP g x P 0 fed 26 (64 + 40 * fed) M M') := by
  obtain ⟨Y, cm, fl, kv, wp, nf, m, rd, ed, hW, hx, hxn, hxl, hlit, hst, hcm, hfl, hkv, hB⟩ := id h
  have hcv : (nI cc).toInt = cc := nI_val (by omega)
  have hle : Int32.toNatClampNeg x1 ≤ cc := by
    have h1 := Int32.le_iff_toInt_le.mp hq1
    rw [hcv] at h1
    show x1.toInt.toNat ≤ cc
    omega
  refine (tq_end (n := 0) (B := 0) hW hx hxn hxl hlit hst hcm (by omega) (by omega) (by rw [hcv]; omega) (by rw [hcv]; omega) hq0 hq1 hd).imp (fun v M' hq => ?_)
  obtain ⟨hv, Y', fl', ⟨a1, a2, a3, a4, a5, a6, a7⟩, hx', hf'⟩ := hq
  refine ⟨hv, P + Int32.toNatClampNeg x1, by omega, ⟨Y', cm, fl', kv, wp, Int32.toNatClampNeg x1, m, rd, ed + Int32.toNatClampNeg x1, a1, hx', (a3 x hxl).trans hxn, Nat.lt_of_lt_of_le hxl a4, hlit, (a2 _ _ hst).1, (a2 _ _ hcm).1, hf', hkv.mono a2, by omega⟩, by omega, by omega⟩
theorem gt_feed (h : GATE g x cc fed P M) (hfd : fed < 512) {x1 x2 x3 x4 x5 : Int32} {d : Nat} (hd : 3 ≤ d) : mt (mT g) d 9 [.ref x, .int x1, .int x2, .int x3, .int x4, .int x5] M (fun v M' => v = some (.int (nI (cc + 20))) ∧ GP g x P (cc + 20) (fed + 1) 26 64 M M') := by
  obtain ⟨Y, cm, fl, kv, wp, nf, m, rd, ed, hW, hx, hxn, hxl, hlit, hst, hcm, hfl, hkv, hB⟩ := id h
  have hcv : (nI cc).toInt = cc := nI_val (by omega)
  have e20 : nI cc + 4 + 4 + 4 + 4 + 4 = nI (cc + 20) := by
    rw [nI_plus (j := 4) rfl (by omega), nI_plus (j := 4) rfl (by omega), nI_plus (j := 4) rfl (by omega), nI_plus (j := 4) rfl (by omega), nI_plus (j := 4) rfl (by omega)]
  refine (tq_feed (n := 0) (B := 0) hW hx hxn hxl hlit hst hcm (by omega) (by omega) (by omega) (by rw [hcv]; omega) (by rw [hcv]; omega) (Int32.le_iff_toInt_le.mpr (by rw [hcv]; show (cc : Int) ≤ 65520; omega)) hd).imp (fun v M' hq => ?_)
  rw [e20, hcv] at hq
  obtain ⟨hv, Y', cm', m', ⟨a1, a2, a3, a4, a5, a6, a7⟩, hx', hc', ⟨b1, b2, b3⟩, b4⟩ := hq
  refine ⟨hv, P + 2 * (m' - m), by omega, ⟨Y', cm', fl, kv, wp, nf, m', rd, ed, a1, hx', (a3 x hxl).trans hxn, Nat.lt_of_lt_of_le hxl a4, hlit, (a2 _ _ hst).1, hc', (a2 _ _ hfl).1, (hkv.mono a2).le (by omega), by have := b3 hB.2.2.1; omega⟩, by omega, by omega⟩
/-- the reference between calls, whatever room the other side has taken -/
theorem REF.room {m0 : Nat} {q : Nat → Nat} {z z' : Nat × Nat} {kr : rR} {Ic : rI} {Rc : rR} (h : REF g m0 q z kr Ic Rc cc M) : REF g m0 q z' kr Ic Rc cc (M.1, z') := by
  obtain ⟨I, R, kn, co, n, f, ⟨h1, h2, h3, h4, h5, h6⟩, hr⟩ := h
  exact ⟨I, R, kn, co, n, f, ⟨h1, h2, h3, h4, rfl, h6⟩, hr⟩
theorem REF.z {m0 : Nat} {q : Nat → Nat} {z : Nat × Nat} {kr : rR} {Ic : rI} {Rc : rR} (h : REF g m0 q z kr Ic Rc cc M) : M.2 = z := by
  obtain ⟨I, R, kn, co, n, f, ⟨h1, h2, h3, h4, h5, h6⟩, hr⟩ := h
  exact h5
theorem REF.cell {m0 : Nat} {q : Nat → Nat} {z : Nat × Nat} {kr : rR} {Ic : rI} {Rc : rR} (h : REF g m0 q z kr Ic Rc cc M) : ∃ F, M.1 m0 = some (.inr (12, F)) := by
  obtain ⟨I, R, kn, co, n, f, ⟨h1, h2, h3, h4, h5, h6⟩, hr⟩ := h
  exact ⟨_, h1⟩
end LGA
